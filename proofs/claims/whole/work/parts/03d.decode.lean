theorem dX12_isWhole_90 : decode cX12_isWhole 90 = .ok (.iaload, 1) := by decide +kernel
theorem dX12_isWhole_91 : decode cX12_isWhole 91 = .ok (.if_icmp .eq 7, 3) := by decide +kernel
theorem dX12_isWhole_94 : decode cX12_isWhole 94 = .ok (.iconst 1, 1) := by decide +kernel
theorem dX12_isWhole_95 : decode cX12_isWhole 95 = .ok (.goto 4, 3) := by decide +kernel
theorem dX12_isWhole_98 : decode cX12_isWhole 98 = .ok (.iconst 0, 1) := by decide +kernel
theorem dX12_isWhole_99 : decode cX12_isWhole 99 = .ok (.istore_n 2, 1) := by decide +kernel
theorem dX12_isWhole_100 : decode cX12_isWhole 100 = .ok (.iinc 4 1, 3) := by decide +kernel
theorem dX12_isWhole_103 : decode cX12_isWhole 103 = .ok (.goto (-39), 3) := by decide +kernel
theorem dX12_isWhole_106 : decode cX12_isWhole 106 = .ok (.iinc 3 1, 3) := by decide +kernel
theorem dX12_isWhole_109 : decode cX12_isWhole 109 = .ok (.goto (-56), 3) := by decide +kernel
theorem dX12_isWhole_112 : decode cX12_isWhole 112 = .ok (.iload_n 2, 1) := by decide +kernel
theorem dX12_isWhole_113 : decode cX12_isWhole 113 = .ok (.ireturn, 1) := by decide +kernel
theorem dX12_readWar_0 : decode cX12_readWar 0 = .ok (.aload_n 0, 1) := by decide +kernel
theorem dX12_readWar_1 : decode cX12_readWar 1 = .ok (.iconst 0, 1) := by decide +kernel
theorem dX12_readWar_2 : decode cX12_readWar 2 = .ok (.putfield 101, 3) := by decide +kernel
theorem dX12_readWar_5 : decode cX12_readWar 5 = .ok (.aload_n 0, 1) := by decide +kernel
theorem dX12_readWar_6 : decode cX12_readWar 6 = .ok (.iconst (-1), 1) := by decide +kernel
theorem dX12_readWar_7 : decode cX12_readWar 7 = .ok (.putfield 108, 3) := by decide +kernel
theorem dX12_readWar_10 : decode cX12_readWar 10 = .ok (.aload_n 0, 1) := by decide +kernel
theorem dX12_readWar_11 : decode cX12_readWar 11 = .ok (.iconst 0, 1) := by decide +kernel
theorem dX12_readWar_12 : decode cX12_readWar 12 = .ok (.putfield 230, 3) := by decide +kernel
theorem dX12_readWar_15 : decode cX12_readWar 15 = .ok (.aload_n 0, 1) := by decide +kernel
theorem dX12_readWar_16 : decode cX12_readWar 16 = .ok (.iconst 0, 1) := by decide +kernel
theorem dX12_readWar_17 : decode cX12_readWar 17 = .ok (.putfield 233, 3) := by decide +kernel
theorem dX12_readWar_20 : decode cX12_readWar 20 = .ok (.iconst 0, 1) := by decide +kernel
theorem dX12_readWar_21 : decode cX12_readWar 21 = .ok (.istore_n 1, 1) := by decide +kernel
theorem dX12_readWar_22 : decode cX12_readWar 22 = .ok (.aload_n 0, 1) := by decide +kernel
theorem dX12_readWar_23 : decode cX12_readWar 23 = .ok (.getfield 46, 3) := by decide +kernel
theorem dX12_readWar_26 : decode cX12_readWar 26 = .ok (.iconst 0, 1) := by decide +kernel
theorem dX12_readWar_27 : decode cX12_readWar 27 = .ok (.bipush 119, 2) := by decide +kernel
theorem dX12_readWar_29 : decode cX12_readWar 29 = .ok (.iconst 0, 1) := by decide +kernel
theorem dX12_readWar_30 : decode cX12_readWar 30 = .ok (.invokestatic 210, 3) := by decide +kernel
theorem dX12_readWar_33 : decode cX12_readWar 33 = .ok (.iastore, 1) := by decide +kernel
theorem dX12_readWar_34 : decode cX12_readWar 34 = .ok (.aload_n 0, 1) := by decide +kernel
theorem dX12_readWar_35 : decode cX12_readWar 35 = .ok (.getfield 46, 3) := by decide +kernel
theorem dX12_readWar_38 : decode cX12_readWar 38 = .ok (.iconst 1, 1) := by decide +kernel
theorem dX12_readWar_39 : decode cX12_readWar 39 = .ok (.bipush 119, 2) := by decide +kernel
theorem dX12_readWar_41 : decode cX12_readWar 41 = .ok (.iconst 1, 1) := by decide +kernel
theorem dX12_readWar_42 : decode cX12_readWar 42 = .ok (.invokestatic 210, 3) := by decide +kernel
theorem dX12_readWar_45 : decode cX12_readWar 45 = .ok (.iastore, 1) := by decide +kernel
theorem dX12_readWar_46 : decode cX12_readWar 46 = .ok (.iconst 1, 1) := by decide +kernel
theorem dX12_readWar_47 : decode cX12_readWar 47 = .ok (.istore_n 2, 1) := by decide +kernel
theorem dX12_readWar_48 : decode cX12_readWar 48 = .ok (.iload_n 2, 1) := by decide +kernel
theorem dX12_readWar_49 : decode cX12_readWar 49 = .ok (.ifCond .eq 210, 3) := by decide +kernel
theorem dX12_readWar_52 : decode cX12_readWar 52 = .ok (.aload_n 0, 1) := by decide +kernel
theorem dX12_readWar_53 : decode cX12_readWar 53 = .ok (.getfield 108, 3) := by decide +kernel
theorem dX12_readWar_56 : decode cX12_readWar 56 = .ok (.iconst (-1), 1) := by decide +kernel
theorem dX12_readWar_57 : decode cX12_readWar 57 = .ok (.if_icmp .ne 202, 3) := by decide +kernel
theorem dX12_readWar_60 : decode cX12_readWar 60 = .ok (.aload_n 0, 1) := by decide +kernel
theorem dX12_readWar_61 : decode cX12_readWar 61 = .ok (.invokevirtual 120, 3) := by decide +kernel
theorem dX12_readWar_64 : decode cX12_readWar 64 = .ok (.istore_n 3, 1) := by decide +kernel
theorem dX12_readWar_65 : decode cX12_readWar 65 = .ok (.iload_n 3, 1) := by decide +kernel
theorem dX12_readWar_66 : decode cX12_readWar 66 = .ok (.bipush 109, 2) := by decide +kernel
theorem dX12_readWar_68 : decode cX12_readWar 68 = .ok (.if_icmp .ne 53, 3) := by decide +kernel
theorem dX12_readWar_71 : decode cX12_readWar 71 = .ok (.aload_n 0, 1) := by decide +kernel
theorem dX12_readWar_72 : decode cX12_readWar 72 = .ok (.getfield 230, 3) := by decide +kernel
theorem dX12_readWar_75 : decode cX12_readWar 75 = .ok (.bipush 8, 2) := by decide +kernel
theorem dX12_readWar_77 : decode cX12_readWar 77 = .ok (.if_icmp .ge 44, 3) := by decide +kernel
theorem dX12_readWar_80 : decode cX12_readWar 80 = .ok (.aload_n 0, 1) := by decide +kernel
theorem dX12_readWar_81 : decode cX12_readWar 81 = .ok (.dup, 1) := by decide +kernel
theorem dX12_readWar_82 : decode cX12_readWar 82 = .ok (.getfield 101, 3) := by decide +kernel
theorem dX12_readWar_85 : decode cX12_readWar 85 = .ok (.iconst 1, 1) := by decide +kernel
theorem dX12_readWar_86 : decode cX12_readWar 86 = .ok (.iadd, 1) := by decide +kernel
theorem dX12_readWar_87 : decode cX12_readWar 87 = .ok (.putfield 101, 3) := by decide +kernel
theorem dX12_readWar_90 : decode cX12_readWar 90 = .ok (.aload_n 0, 1) := by decide +kernel
theorem dX12_readWar_91 : decode cX12_readWar 91 = .ok (.iload_n 3, 1) := by decide +kernel
theorem dX12_readWar_92 : decode cX12_readWar 92 = .ok (.aload_n 0, 1) := by decide +kernel
theorem dX12_readWar_93 : decode cX12_readWar 93 = .ok (.getfield 40, 3) := by decide +kernel
theorem dX12_readWar_96 : decode cX12_readWar 96 = .ok (.bipush 6, 2) := by decide +kernel
theorem dX12_readWar_98 : decode cX12_readWar 98 = .ok (.aload_n 0, 1) := by decide +kernel
theorem dX12_readWar_99 : decode cX12_readWar 99 = .ok (.getfield 230, 3) := by decide +kernel
theorem dX12_readWar_102 : decode cX12_readWar 102 = .ok (.imul, 1) := by decide +kernel
theorem dX12_readWar_103 : decode cX12_readWar 103 = .ok (.bipush 6, 2) := by decide +kernel
theorem dX12_readWar_105 : decode cX12_readWar 105 = .ok (.invokevirtual 236, 3) := by decide +kernel
theorem dX12_readWar_108 : decode cX12_readWar 108 = .ok (.aload_n 0, 1) := by decide +kernel
theorem dX12_readWar_109 : decode cX12_readWar 109 = .ok (.dup, 1) := by decide +kernel
theorem dX12_readWar_110 : decode cX12_readWar 110 = .ok (.getfield 230, 3) := by decide +kernel
theorem dX12_readWar_113 : decode cX12_readWar 113 = .ok (.iconst 1, 1) := by decide +kernel
theorem dX12_readWar_114 : decode cX12_readWar 114 = .ok (.iadd, 1) := by decide +kernel
theorem dX12_readWar_115 : decode cX12_readWar 115 = .ok (.putfield 230, 3) := by decide +kernel
theorem dX12_readWar_118 : decode cX12_readWar 118 = .ok (.goto 97, 3) := by decide +kernel
theorem dX12_readWar_121 : decode cX12_readWar 121 = .ok (.iload_n 3, 1) := by decide +kernel
theorem dX12_readWar_122 : decode cX12_readWar 122 = .ok (.bipush 111, 2) := by decide +kernel
theorem dX12_readWar_124 : decode cX12_readWar 124 = .ok (.if_icmp .ne 51, 3) := by decide +kernel
theorem dX12_readWar_127 : decode cX12_readWar 127 = .ok (.aload_n 0, 1) := by decide +kernel
theorem dX12_readWar_128 : decode cX12_readWar 128 = .ok (.getfield 233, 3) := by decide +kernel
theorem dX12_readWar_131 : decode cX12_readWar 131 = .ok (.bipush 6, 2) := by decide +kernel
theorem dX12_readWar_133 : decode cX12_readWar 133 = .ok (.if_icmp .ge 42, 3) := by decide +kernel
theorem dX12_readWar_136 : decode cX12_readWar 136 = .ok (.aload_n 0, 1) := by decide +kernel
theorem dX12_readWar_137 : decode cX12_readWar 137 = .ok (.dup, 1) := by decide +kernel
theorem dX12_readWar_138 : decode cX12_readWar 138 = .ok (.getfield 101, 3) := by decide +kernel
theorem dX12_readWar_141 : decode cX12_readWar 141 = .ok (.iconst 1, 1) := by decide +kernel
theorem dX12_readWar_142 : decode cX12_readWar 142 = .ok (.iadd, 1) := by decide +kernel
theorem dX12_readWar_143 : decode cX12_readWar 143 = .ok (.putfield 101, 3) := by decide +kernel
theorem dX12_readWar_146 : decode cX12_readWar 146 = .ok (.aload_n 0, 1) := by decide +kernel
theorem dX12_readWar_147 : decode cX12_readWar 147 = .ok (.iload_n 3, 1) := by decide +kernel
theorem dX12_readWar_148 : decode cX12_readWar 148 = .ok (.aload_n 0, 1) := by decide +kernel
theorem dX12_readWar_149 : decode cX12_readWar 149 = .ok (.getfield 43, 3) := by decide +kernel
theorem dX12_readWar_152 : decode cX12_readWar 152 = .ok (.iconst 2, 1) := by decide +kernel
theorem dX12_readWar_153 : decode cX12_readWar 153 = .ok (.aload_n 0, 1) := by decide +kernel
theorem dX12_readWar_154 : decode cX12_readWar 154 = .ok (.getfield 233, 3) := by decide +kernel
theorem dX12_readWar_157 : decode cX12_readWar 157 = .ok (.imul, 1) := by decide +kernel
theorem dX12_readWar_158 : decode cX12_readWar 158 = .ok (.iconst 2, 1) := by decide +kernel
theorem dX12_readWar_159 : decode cX12_readWar 159 = .ok (.invokevirtual 236, 3) := by decide +kernel
theorem dX12_readWar_162 : decode cX12_readWar 162 = .ok (.aload_n 0, 1) := by decide +kernel
theorem dX12_readWar_163 : decode cX12_readWar 163 = .ok (.dup, 1) := by decide +kernel
theorem dX12_readWar_164 : decode cX12_readWar 164 = .ok (.getfield 233, 3) := by decide +kernel
theorem dX12_readWar_167 : decode cX12_readWar 167 = .ok (.iconst 1, 1) := by decide +kernel
theorem dX12_readWar_168 : decode cX12_readWar 168 = .ok (.iadd, 1) := by decide +kernel
theorem dX12_readWar_169 : decode cX12_readWar 169 = .ok (.putfield 233, 3) := by decide +kernel
theorem dX12_readWar_172 : decode cX12_readWar 172 = .ok (.goto 43, 3) := by decide +kernel
theorem dX12_readWar_175 : decode cX12_readWar 175 = .ok (.iload_n 3, 1) := by decide +kernel
theorem dX12_readWar_176 : decode cX12_readWar 176 = .ok (.bipush 119, 2) := by decide +kernel
theorem dX12_readWar_178 : decode cX12_readWar 178 = .ok (.if_icmp .ne 33, 3) := by decide +kernel
theorem dX12_readWar_181 : decode cX12_readWar 181 = .ok (.iload_n 1, 1) := by decide +kernel
theorem dX12_readWar_182 : decode cX12_readWar 182 = .ok (.ifCond .ne 29, 3) := by decide +kernel
theorem dX12_readWar_185 : decode cX12_readWar 185 = .ok (.iconst 1, 1) := by decide +kernel
theorem dX12_readWar_186 : decode cX12_readWar 186 = .ok (.istore_n 1, 1) := by decide +kernel
theorem dX12_readWar_187 : decode cX12_readWar 187 = .ok (.aload_n 0, 1) := by decide +kernel
theorem dX12_readWar_188 : decode cX12_readWar 188 = .ok (.dup, 1) := by decide +kernel
theorem dX12_readWar_189 : decode cX12_readWar 189 = .ok (.getfield 101, 3) := by decide +kernel
theorem dX12_readWar_192 : decode cX12_readWar 192 = .ok (.iconst 1, 1) := by decide +kernel
theorem dX12_readWar_193 : decode cX12_readWar 193 = .ok (.iadd, 1) := by decide +kernel
theorem dX12_readWar_194 : decode cX12_readWar 194 = .ok (.putfield 101, 3) := by decide +kernel
theorem dX12_readWar_197 : decode cX12_readWar 197 = .ok (.aload_n 0, 1) := by decide +kernel
theorem dX12_readWar_198 : decode cX12_readWar 198 = .ok (.iload_n 3, 1) := by decide +kernel
theorem dX12_readWar_199 : decode cX12_readWar 199 = .ok (.aload_n 0, 1) := by decide +kernel
theorem dX12_readWar_200 : decode cX12_readWar 200 = .ok (.getfield 46, 3) := by decide +kernel
theorem dX12_readWar_203 : decode cX12_readWar 203 = .ok (.iconst 0, 1) := by decide +kernel
theorem dX12_readWar_204 : decode cX12_readWar 204 = .ok (.iconst 2, 1) := by decide +kernel
theorem dX12_readWar_205 : decode cX12_readWar 205 = .ok (.invokevirtual 236, 3) := by decide +kernel
theorem dX12_readWar_208 : decode cX12_readWar 208 = .ok (.goto 7, 3) := by decide +kernel
theorem dX12_readWar_211 : decode cX12_readWar 211 = .ok (.aload_n 0, 1) := by decide +kernel
theorem dX12_readWar_212 : decode cX12_readWar 212 = .ok (.invokevirtual 117, 3) := by decide +kernel
theorem dX12_readWar_215 : decode cX12_readWar 215 = .ok (.aload_n 0, 1) := by decide +kernel
theorem dX12_readWar_216 : decode cX12_readWar 216 = .ok (.getfield 108, 3) := by decide +kernel
theorem dX12_readWar_219 : decode cX12_readWar 219 = .ok (.iconst (-1), 1) := by decide +kernel
theorem dX12_readWar_220 : decode cX12_readWar 220 = .ok (.if_icmp .ne 16, 3) := by decide +kernel
theorem dX12_readWar_223 : decode cX12_readWar 223 = .ok (.aload_n 0, 1) := by decide +kernel
theorem dX12_readWar_224 : decode cX12_readWar 224 = .ok (.invokevirtual 120, 3) := by decide +kernel
theorem dX12_readWar_227 : decode cX12_readWar 227 = .ok (.bipush 59, 2) := by decide +kernel
theorem dX12_readWar_229 : decode cX12_readWar 229 = .ok (.if_icmp .ne 7, 3) := by decide +kernel
theorem dX12_readWar_232 : decode cX12_readWar 232 = .ok (.iconst 1, 1) := by decide +kernel
theorem dX12_readWar_233 : decode cX12_readWar 233 = .ok (.goto 4, 3) := by decide +kernel
theorem dX12_readWar_236 : decode cX12_readWar 236 = .ok (.iconst 0, 1) := by decide +kernel
theorem dX12_readWar_237 : decode cX12_readWar 237 = .ok (.istore_n 2, 1) := by decide +kernel
theorem dX12_readWar_238 : decode cX12_readWar 238 = .ok (.aload_n 0, 1) := by decide +kernel
theorem dX12_readWar_239 : decode cX12_readWar 239 = .ok (.dup, 1) := by decide +kernel
theorem dX12_readWar_240 : decode cX12_readWar 240 = .ok (.getfield 101, 3) := by decide +kernel
theorem dX12_readWar_243 : decode cX12_readWar 243 = .ok (.iload_n 2, 1) := by decide +kernel
theorem dX12_readWar_244 : decode cX12_readWar 244 = .ok (.ifCond .eq 7, 3) := by decide +kernel
theorem dX12_readWar_247 : decode cX12_readWar 247 = .ok (.iconst 1, 1) := by decide +kernel
theorem dX12_readWar_248 : decode cX12_readWar 248 = .ok (.goto 4, 3) := by decide +kernel
theorem dX12_readWar_251 : decode cX12_readWar 251 = .ok (.iconst 0, 1) := by decide +kernel
theorem dX12_readWar_252 : decode cX12_readWar 252 = .ok (.iadd, 1) := by decide +kernel
theorem dX12_readWar_253 : decode cX12_readWar 253 = .ok (.putfield 101, 3) := by decide +kernel
theorem dX12_readWar_256 : decode cX12_readWar 256 = .ok (.goto (-208), 3) := by decide +kernel
theorem dX12_readWar_259 : decode cX12_readWar 259 = .ok (.aload_n 0, 1) := by decide +kernel
theorem dX12_readWar_260 : decode cX12_readWar 260 = .ok (.getfield 108, 3) := by decide +kernel
theorem dX12_readWar_263 : decode cX12_readWar 263 = .ok (.iconst (-1), 1) := by decide +kernel
theorem dX12_readWar_264 : decode cX12_readWar 264 = .ok (.if_icmp .ne 22, 3) := by decide +kernel
theorem dX12_readWar_267 : decode cX12_readWar 267 = .ok (.aload_n 0, 1) := by decide +kernel
theorem dX12_readWar_268 : decode cX12_readWar 268 = .ok (.invokevirtual 120, 3) := by decide +kernel
theorem dX12_readWar_271 : decode cX12_readWar 271 = .ok (.iconst (-1), 1) := by decide +kernel
theorem dX12_readWar_272 : decode cX12_readWar 272 = .ok (.if_icmp .ne 10, 3) := by decide +kernel
theorem dX12_readWar_275 : decode cX12_readWar 275 = .ok (.aload_n 0, 1) := by decide +kernel
theorem dX12_readWar_276 : decode cX12_readWar 276 = .ok (.invokevirtual 240, 3) := by decide +kernel
theorem dX12_readWar_279 : decode cX12_readWar 279 = .ok (.ifCond .ne 7, 3) := by decide +kernel
theorem dX12_readWar_282 : decode cX12_readWar 282 = .ok (.aload_n 0, 1) := by decide +kernel
theorem dX12_readWar_283 : decode cX12_readWar 283 = .ok (.invokevirtual 117, 3) := by decide +kernel
theorem dX12_readWar_286 : decode cX12_readWar 286 = .ok (.aload_n 0, 1) := by decide +kernel
theorem dX12_readWar_287 : decode cX12_readWar 287 = .ok (.getfield 108, 3) := by decide +kernel
theorem dX12_readWar_290 : decode cX12_readWar 290 = .ok (.ireturn, 1) := by decide +kernel
theorem dX12_fault_0 : decode cX12_fault 0 = .ok (.iload_n 1, 1) := by decide +kernel
theorem dX12_fault_1 : decode cX12_fault 1 = .ok (.ifCond .ne 10, 3) := by decide +kernel
theorem dX12_fault_4 : decode cX12_fault 4 = .ok (.aload_n 0, 1) := by decide +kernel
theorem dX12_fault_5 : decode cX12_fault 5 = .ok (.invokevirtual 244, 3) := by decide +kernel
theorem dX12_fault_8 : decode cX12_fault 8 = .ok (.goto 18, 3) := by decide +kernel
theorem dX12_fault_11 : decode cX12_fault 11 = .ok (.iload_n 1, 1) := by decide +kernel
theorem dX12_fault_12 : decode cX12_fault 12 = .ok (.iconst 1, 1) := by decide +kernel
theorem dX12_fault_13 : decode cX12_fault 13 = .ok (.if_icmp .ne 11, 3) := by decide +kernel
theorem dX12_fault_16 : decode cX12_fault 16 = .ok (.aload_n 0, 1) := by decide +kernel
theorem dX12_fault_17 : decode cX12_fault 17 = .ok (.iconst 4, 1) := by decide +kernel
theorem dX12_fault_18 : decode cX12_fault 18 = .ok (.invokevirtual 247, 3) := by decide +kernel
theorem dX12_fault_21 : decode cX12_fault 21 = .ok (.goto 5, 3) := by decide +kernel
theorem dX12_fault_24 : decode cX12_fault 24 = .ok (.bipush (-2), 2) := by decide +kernel
theorem dX12_fault_26 : decode cX12_fault 26 = .ok (.ireturn, 1) := by decide +kernel
theorem dX12_takeWar_0 : decode cX12_takeWar 0 = .ok (.aload_n 0, 1) := by decide +kernel
theorem dX12_takeWar_1 : decode cX12_takeWar 1 = .ok (.aload_n 0, 1) := by decide +kernel
theorem dX12_takeWar_2 : decode cX12_takeWar 2 = .ok (.getfield 230, 3) := by decide +kernel
theorem dX12_takeWar_5 : decode cX12_takeWar 5 = .ok (.putfield 250, 3) := by decide +kernel
theorem dX12_takeWar_8 : decode cX12_takeWar 8 = .ok (.aload_n 0, 1) := by decide +kernel
theorem dX12_takeWar_9 : decode cX12_takeWar 9 = .ok (.aload_n 0, 1) := by decide +kernel
theorem dX12_takeWar_10 : decode cX12_takeWar 10 = .ok (.getfield 233, 3) := by decide +kernel
theorem dX12_takeWar_13 : decode cX12_takeWar 13 = .ok (.putfield 253, 3) := by decide +kernel
theorem dX12_takeWar_16 : decode cX12_takeWar 16 = .ok (.iconst 0, 1) := by decide +kernel
theorem dX12_takeWar_17 : decode cX12_takeWar 17 = .ok (.istore_n 1, 1) := by decide +kernel
theorem dX12_takeWar_18 : decode cX12_takeWar 18 = .ok (.iload_n 1, 1) := by decide +kernel
theorem dX12_takeWar_19 : decode cX12_takeWar 19 = .ok (.bipush 48, 2) := by decide +kernel
theorem dX12_takeWar_21 : decode cX12_takeWar 21 = .ok (.if_icmp .ge 21, 3) := by decide +kernel
theorem dX12_takeWar_24 : decode cX12_takeWar 24 = .ok (.aload_n 0, 1) := by decide +kernel
theorem dX12_takeWar_25 : decode cX12_takeWar 25 = .ok (.getfield 49, 3) := by decide +kernel
theorem dX12_takeWar_28 : decode cX12_takeWar 28 = .ok (.iload_n 1, 1) := by decide +kernel
theorem dX12_takeWar_29 : decode cX12_takeWar 29 = .ok (.aload_n 0, 1) := by decide +kernel
theorem dX12_takeWar_30 : decode cX12_takeWar 30 = .ok (.getfield 40, 3) := by decide +kernel
theorem dX12_takeWar_33 : decode cX12_takeWar 33 = .ok (.iload_n 1, 1) := by decide +kernel
theorem dX12_takeWar_34 : decode cX12_takeWar 34 = .ok (.iaload, 1) := by decide +kernel
theorem dX12_takeWar_35 : decode cX12_takeWar 35 = .ok (.iastore, 1) := by decide +kernel
theorem dX12_takeWar_36 : decode cX12_takeWar 36 = .ok (.iinc 1 1, 3) := by decide +kernel
theorem dX12_takeWar_39 : decode cX12_takeWar 39 = .ok (.goto (-21), 3) := by decide +kernel
theorem dX12_takeWar_42 : decode cX12_takeWar 42 = .ok (.iconst 0, 1) := by decide +kernel
theorem dX12_takeWar_43 : decode cX12_takeWar 43 = .ok (.istore_n 1, 1) := by decide +kernel
theorem dX12_takeWar_44 : decode cX12_takeWar 44 = .ok (.iload_n 1, 1) := by decide +kernel
theorem dX12_takeWar_45 : decode cX12_takeWar 45 = .ok (.bipush 12, 2) := by decide +kernel
theorem dX12_takeWar_47 : decode cX12_takeWar 47 = .ok (.if_icmp .ge 21, 3) := by decide +kernel
theorem dX12_takeWar_50 : decode cX12_takeWar 50 = .ok (.aload_n 0, 1) := by decide +kernel
theorem dX12_takeWar_51 : decode cX12_takeWar 51 = .ok (.getfield 52, 3) := by decide +kernel
theorem dX12_takeWar_54 : decode cX12_takeWar 54 = .ok (.iload_n 1, 1) := by decide +kernel
theorem dX12_takeWar_55 : decode cX12_takeWar 55 = .ok (.aload_n 0, 1) := by decide +kernel
theorem dX12_takeWar_56 : decode cX12_takeWar 56 = .ok (.getfield 43, 3) := by decide +kernel
theorem dX12_takeWar_59 : decode cX12_takeWar 59 = .ok (.iload_n 1, 1) := by decide +kernel
theorem dX12_takeWar_60 : decode cX12_takeWar 60 = .ok (.iaload, 1) := by decide +kernel
theorem dX12_takeWar_61 : decode cX12_takeWar 61 = .ok (.iastore, 1) := by decide +kernel
theorem dX12_takeWar_62 : decode cX12_takeWar 62 = .ok (.iinc 1 1, 3) := by decide +kernel
theorem dX12_takeWar_65 : decode cX12_takeWar 65 = .ok (.goto (-21), 3) := by decide +kernel
theorem dX12_takeWar_68 : decode cX12_takeWar 68 = .ok (.aload_n 0, 1) := by decide +kernel
theorem dX12_takeWar_69 : decode cX12_takeWar 69 = .ok (.getfield 55, 3) := by decide +kernel
theorem dX12_takeWar_72 : decode cX12_takeWar 72 = .ok (.iconst 0, 1) := by decide +kernel
theorem dX12_takeWar_73 : decode cX12_takeWar 73 = .ok (.aload_n 0, 1) := by decide +kernel
theorem dX12_takeWar_74 : decode cX12_takeWar 74 = .ok (.getfield 46, 3) := by decide +kernel
theorem dX12_takeWar_77 : decode cX12_takeWar 77 = .ok (.iconst 0, 1) := by decide +kernel
theorem dX12_takeWar_78 : decode cX12_takeWar 78 = .ok (.iaload, 1) := by decide +kernel
theorem dX12_takeWar_79 : decode cX12_takeWar 79 = .ok (.iastore, 1) := by decide +kernel
theorem dX12_takeWar_80 : decode cX12_takeWar 80 = .ok (.aload_n 0, 1) := by decide +kernel
theorem dX12_takeWar_81 : decode cX12_takeWar 81 = .ok (.getfield 55, 3) := by decide +kernel
theorem dX12_takeWar_84 : decode cX12_takeWar 84 = .ok (.iconst 1, 1) := by decide +kernel
theorem dX12_takeWar_85 : decode cX12_takeWar 85 = .ok (.aload_n 0, 1) := by decide +kernel
theorem dX12_takeWar_86 : decode cX12_takeWar 86 = .ok (.getfield 46, 3) := by decide +kernel
theorem dX12_takeWar_89 : decode cX12_takeWar 89 = .ok (.iconst 1, 1) := by decide +kernel
theorem dX12_takeWar_90 : decode cX12_takeWar 90 = .ok (.iaload, 1) := by decide +kernel
theorem dX12_takeWar_91 : decode cX12_takeWar 91 = .ok (.iastore, 1) := by decide +kernel
theorem dX12_takeWar_92 : decode cX12_takeWar 92 = .ok (.iconst 0, 1) := by decide +kernel
theorem dX12_takeWar_93 : decode cX12_takeWar 93 = .ok (.istore_n 1, 1) := by decide +kernel
theorem dX12_takeWar_94 : decode cX12_takeWar 94 = .ok (.iload_n 1, 1) := by decide +kernel
theorem dX12_takeWar_95 : decode cX12_takeWar 95 = .ok (.sipush 206, 3) := by decide +kernel
theorem dX12_takeWar_98 : decode cX12_takeWar 98 = .ok (.if_icmp .ge 16, 3) := by decide +kernel
theorem dX12_takeWar_101 : decode cX12_takeWar 101 = .ok (.aload_n 0, 1) := by decide +kernel
theorem dX12_takeWar_102 : decode cX12_takeWar 102 = .ok (.getfield 58, 3) := by decide +kernel
theorem dX12_takeWar_105 : decode cX12_takeWar 105 = .ok (.iload_n 1, 1) := by decide +kernel
theorem dX12_takeWar_106 : decode cX12_takeWar 106 = .ok (.iconst 0, 1) := by decide +kernel
theorem dX12_takeWar_107 : decode cX12_takeWar 107 = .ok (.iastore, 1) := by decide +kernel
theorem dX12_takeWar_108 : decode cX12_takeWar 108 = .ok (.iinc 1 1, 3) := by decide +kernel
theorem dX12_takeWar_111 : decode cX12_takeWar 111 = .ok (.goto (-17), 3) := by decide +kernel
theorem dX12_takeWar_114 : decode cX12_takeWar 114 = .ok (.iconst 0, 1) := by decide +kernel
theorem dX12_takeWar_115 : decode cX12_takeWar 115 = .ok (.istore_n 1, 1) := by decide +kernel
theorem dX12_takeWar_116 : decode cX12_takeWar 116 = .ok (.iload_n 1, 1) := by decide +kernel
theorem dX12_takeWar_117 : decode cX12_takeWar 117 = .ok (.aload_n 0, 1) := by decide +kernel
theorem dX12_takeWar_118 : decode cX12_takeWar 118 = .ok (.getfield 250, 3) := by decide +kernel
theorem dX12_takeWar_121 : decode cX12_takeWar 121 = .ok (.if_icmp .ge 25, 3) := by decide +kernel
theorem dX12_takeWar_124 : decode cX12_takeWar 124 = .ok (.aload_n 0, 1) := by decide +kernel
theorem dX12_takeWar_125 : decode cX12_takeWar 125 = .ok (.iload_n 1, 1) := by decide +kernel
theorem dX12_takeWar_126 : decode cX12_takeWar 126 = .ok (.aload_n 0, 1) := by decide +kernel
theorem dX12_takeWar_127 : decode cX12_takeWar 127 = .ok (.getfield 49, 3) := by decide +kernel
theorem dX12_takeWar_130 : decode cX12_takeWar 130 = .ok (.bipush 6, 2) := by decide +kernel
theorem dX12_takeWar_132 : decode cX12_takeWar 132 = .ok (.iload_n 1, 1) := by decide +kernel
theorem dX12_takeWar_133 : decode cX12_takeWar 133 = .ok (.imul, 1) := by decide +kernel
theorem dX12_takeWar_134 : decode cX12_takeWar 134 = .ok (.iconst 1, 1) := by decide +kernel
theorem dX12_takeWar_135 : decode cX12_takeWar 135 = .ok (.iadd, 1) := by decide +kernel
theorem dX12_takeWar_136 : decode cX12_takeWar 136 = .ok (.iaload, 1) := by decide +kernel
theorem dX12_takeWar_137 : decode cX12_takeWar 137 = .ok (.invokevirtual 256, 3) := by decide +kernel
theorem dX12_takeWar_140 : decode cX12_takeWar 140 = .ok (.iinc 1 1, 3) := by decide +kernel
theorem dX12_takeWar_143 : decode cX12_takeWar 143 = .ok (.goto (-27), 3) := by decide +kernel
theorem dX12_takeWar_146 : decode cX12_takeWar 146 = .ok (.aload_n 0, 1) := by decide +kernel
theorem dX12_takeWar_147 : decode cX12_takeWar 147 = .ok (.iconst 0, 1) := by decide +kernel
theorem dX12_takeWar_148 : decode cX12_takeWar 148 = .ok (.putfield 259, 3) := by decide +kernel
theorem dX12_takeWar_151 : decode cX12_takeWar 151 = .ok (.aload_n 0, 1) := by decide +kernel
theorem dX12_takeWar_152 : decode cX12_takeWar 152 = .ok (.iconst 0, 1) := by decide +kernel
theorem dX12_takeWar_153 : decode cX12_takeWar 153 = .ok (.putfield 262, 3) := by decide +kernel
theorem dX12_takeWar_156 : decode cX12_takeWar 156 = .ok (.aload_n 0, 1) := by decide +kernel
theorem dX12_takeWar_157 : decode cX12_takeWar 157 = .ok (.iconst 0, 1) := by decide +kernel
theorem dX12_takeWar_158 : decode cX12_takeWar 158 = .ok (.putfield 265, 3) := by decide +kernel
theorem dX12_takeWar_161 : decode cX12_takeWar 161 = .ok (.aload_n 0, 1) := by decide +kernel
theorem dX12_takeWar_162 : decode cX12_takeWar 162 = .ok (.getfield 250, 3) := by decide +kernel
theorem dX12_takeWar_165 : decode cX12_takeWar 165 = .ok (.ireturn, 1) := by decide +kernel
theorem dX12_text_0 : decode cX12_text 0 = .ok (.iload_n 1, 1) := by decide +kernel
theorem dX12_text_1 : decode cX12_text 1 = .ok (.ifCond .ne 21, 3) := by decide +kernel
theorem dX12_text_4 : decode cX12_text 4 = .ok (.aload_n 0, 1) := by decide +kernel
theorem dX12_text_5 : decode cX12_text 5 = .ok (.invokevirtual 244, 3) := by decide +kernel
theorem dX12_text_8 : decode cX12_text 8 = .ok (.iconst (-1), 1) := by decide +kernel
theorem dX12_text_9 : decode cX12_text 9 = .ok (.if_icmp .ne 13, 3) := by decide +kernel
theorem dX12_text_12 : decode cX12_text 12 = .ok (.aload_n 0, 1) := by decide +kernel
theorem dX12_text_13 : decode cX12_text 13 = .ok (.iconst 0, 1) := by decide +kernel
theorem dX12_text_14 : decode cX12_text 14 = .ok (.putfield 98, 3) := by decide +kernel
theorem dX12_text_17 : decode cX12_text 17 = .ok (.aload_n 0, 1) := by decide +kernel
theorem dX12_text_18 : decode cX12_text 18 = .ok (.invokevirtual 269, 3) := by decide +kernel
theorem dX12_text_21 : decode cX12_text 21 = .ok (.ireturn, 1) := by decide +kernel
theorem dX12_text_22 : decode cX12_text 22 = .ok (.iload_n 1, 1) := by decide +kernel
theorem dX12_text_23 : decode cX12_text 23 = .ok (.iconst 1, 1) := by decide +kernel
theorem dX12_text_24 : decode cX12_text 24 = .ok (.if_icmp .ne 45, 3) := by decide +kernel
theorem dX12_text_27 : decode cX12_text 27 = .ok (.aload_n 0, 1) := by decide +kernel
theorem dX12_text_28 : decode cX12_text 28 = .ok (.getfield 272, 3) := by decide +kernel
theorem dX12_text_31 : decode cX12_text 31 = .ok (.iconst 4, 1) := by decide +kernel
theorem dX12_text_32 : decode cX12_text 32 = .ok (.if_icmp .ge 37, 3) := by decide +kernel
theorem dX12_text_35 : decode cX12_text 35 = .ok (.aload_n 0, 1) := by decide +kernel
theorem dX12_text_36 : decode cX12_text 36 = .ok (.aload_n 0, 1) := by decide +kernel
theorem dX12_text_37 : decode cX12_text 37 = .ok (.getfield 272, 3) := by decide +kernel
theorem dX12_text_40 : decode cX12_text 40 = .ok (.invokevirtual 247, 3) := by decide +kernel
theorem dX12_text_43 : decode cX12_text 43 = .ok (.iconst (-1), 1) := by decide +kernel
theorem dX12_text_44 : decode cX12_text 44 = .ok (.if_icmp .ne 25, 3) := by decide +kernel
theorem dX12_text_47 : decode cX12_text 47 = .ok (.aload_n 0, 1) := by decide +kernel
theorem dX12_text_48 : decode cX12_text 48 = .ok (.iconst 0, 1) := by decide +kernel
theorem dX12_text_49 : decode cX12_text 49 = .ok (.putfield 98, 3) := by decide +kernel
theorem dX12_text_52 : decode cX12_text 52 = .ok (.aload_n 0, 1) := by decide +kernel
theorem dX12_text_53 : decode cX12_text 53 = .ok (.dup, 1) := by decide +kernel
theorem dX12_text_54 : decode cX12_text 54 = .ok (.getfield 272, 3) := by decide +kernel
theorem dX12_text_57 : decode cX12_text 57 = .ok (.iconst 1, 1) := by decide +kernel
theorem dX12_text_58 : decode cX12_text 58 = .ok (.iadd, 1) := by decide +kernel
theorem dX12_text_59 : decode cX12_text 59 = .ok (.putfield 272, 3) := by decide +kernel
theorem dX12_text_62 : decode cX12_text 62 = .ok (.aload_n 0, 1) := by decide +kernel
theorem dX12_text_63 : decode cX12_text 63 = .ok (.getfield 272, 3) := by decide +kernel
theorem dX12_text_66 : decode cX12_text 66 = .ok (.iconst 1, 1) := by decide +kernel
theorem dX12_text_67 : decode cX12_text 67 = .ok (.isub, 1) := by decide +kernel
theorem dX12_text_68 : decode cX12_text 68 = .ok (.ireturn, 1) := by decide +kernel
theorem dX12_text_69 : decode cX12_text 69 = .ok (.iconst (-1), 1) := by decide +kernel
theorem dX12_text_70 : decode cX12_text 70 = .ok (.ireturn, 1) := by decide +kernel
theorem dX12_restAt_0 : decode cX12_restAt 0 = .ok (.iconst 0, 1) := by decide +kernel
theorem dX12_restAt_1 : decode cX12_restAt 1 = .ok (.istore_n 2, 1) := by decide +kernel
theorem dX12_restAt_2 : decode cX12_restAt 2 = .ok (.iload_n 2, 1) := by decide +kernel
theorem dX12_restAt_3 : decode cX12_restAt 3 = .ok (.aload_n 0, 1) := by decide +kernel
theorem dX12_restAt_4 : decode cX12_restAt 4 = .ok (.getfield 253, 3) := by decide +kernel
theorem dX12_restAt_7 : decode cX12_restAt 7 = .ok (.if_icmp .ge 32, 3) := by decide +kernel
theorem dX12_restAt_10 : decode cX12_restAt 10 = .ok (.aload_n 0, 1) := by decide +kernel
theorem dX12_restAt_11 : decode cX12_restAt 11 = .ok (.getfield 52, 3) := by decide +kernel
theorem dX12_restAt_14 : decode cX12_restAt 14 = .ok (.iconst 2, 1) := by decide +kernel
theorem dX12_restAt_15 : decode cX12_restAt 15 = .ok (.iload_n 2, 1) := by decide +kernel
theorem dX12_restAt_16 : decode cX12_restAt 16 = .ok (.imul, 1) := by decide +kernel
theorem dX12_restAt_17 : decode cX12_restAt 17 = .ok (.iaload, 1) := by decide +kernel
theorem dX12_restAt_18 : decode cX12_restAt 18 = .ok (.iload_n 1, 1) := by decide +kernel
theorem dX12_restAt_19 : decode cX12_restAt 19 = .ok (.if_icmp .ne 14, 3) := by decide +kernel
theorem dX12_restAt_22 : decode cX12_restAt 22 = .ok (.aload_n 0, 1) := by decide +kernel
theorem dX12_restAt_23 : decode cX12_restAt 23 = .ok (.getfield 52, 3) := by decide +kernel
theorem dX12_restAt_26 : decode cX12_restAt 26 = .ok (.iconst 2, 1) := by decide +kernel
theorem dX12_restAt_27 : decode cX12_restAt 27 = .ok (.iload_n 2, 1) := by decide +kernel
theorem dX12_restAt_28 : decode cX12_restAt 28 = .ok (.imul, 1) := by decide +kernel
theorem dX12_restAt_29 : decode cX12_restAt 29 = .ok (.iconst 1, 1) := by decide +kernel
theorem dX12_restAt_30 : decode cX12_restAt 30 = .ok (.iadd, 1) := by decide +kernel
theorem dX12_restAt_31 : decode cX12_restAt 31 = .ok (.iaload, 1) := by decide +kernel
theorem dX12_restAt_32 : decode cX12_restAt 32 = .ok (.ireturn, 1) := by decide +kernel
theorem dX12_restAt_33 : decode cX12_restAt 33 = .ok (.iinc 2 1, 3) := by decide +kernel
theorem dX12_restAt_36 : decode cX12_restAt 36 = .ok (.goto (-34), 3) := by decide +kernel
theorem dX12_restAt_39 : decode cX12_restAt 39 = .ok (.iconst 0, 1) := by decide +kernel
theorem dX12_restAt_40 : decode cX12_restAt 40 = .ok (.ireturn, 1) := by decide +kernel
theorem dX12_comes_0 : decode cX12_comes 0 = .ok (.aload_n 0, 1) := by decide +kernel
theorem dX12_comes_1 : decode cX12_comes 1 = .ok (.getfield 58, 3) := by decide +kernel
theorem dX12_comes_4 : decode cX12_comes 4 = .ok (.iconst 0, 1) := by decide +kernel
theorem dX12_comes_5 : decode cX12_comes 5 = .ok (.iload_n 1, 1) := by decide +kernel
theorem dX12_comes_6 : decode cX12_comes 6 = .ok (.iadd, 1) := by decide +kernel
theorem dX12_comes_7 : decode cX12_comes 7 = .ok (.iload_n 2, 1) := by decide +kernel
theorem dX12_comes_8 : decode cX12_comes 8 = .ok (.iastore, 1) := by decide +kernel
theorem dX12_comes_9 : decode cX12_comes 9 = .ok (.aload_n 0, 1) := by decide +kernel
theorem dX12_comes_10 : decode cX12_comes 10 = .ok (.getfield 58, 3) := by decide +kernel
theorem dX12_comes_13 : decode cX12_comes 13 = .ok (.bipush 8, 2) := by decide +kernel
theorem dX12_comes_15 : decode cX12_comes 15 = .ok (.iload_n 1, 1) := by decide +kernel
theorem dX12_comes_16 : decode cX12_comes 16 = .ok (.iadd, 1) := by decide +kernel
theorem dX12_comes_17 : decode cX12_comes 17 = .ok (.aload_n 0, 1) := by decide +kernel
theorem dX12_comes_18 : decode cX12_comes 18 = .ok (.iload_n 2, 1) := by decide +kernel
theorem dX12_comes_19 : decode cX12_comes 19 = .ok (.invokevirtual 275, 3) := by decide +kernel
theorem dX12_comes_22 : decode cX12_comes 22 = .ok (.iastore, 1) := by decide +kernel
theorem dX12_comes_23 : decode cX12_comes 23 = .ok (.return_, 1) := by decide +kernel
theorem dX12_isMan_0 : decode cX12_isMan 0 = .ok (.iload_n 1, 1) := by decide +kernel
theorem dX12_isMan_1 : decode cX12_isMan 1 = .ok (.iconst 0, 1) := by decide +kernel
theorem dX12_isMan_2 : decode cX12_isMan 2 = .ok (.aload_n 0, 1) := by decide +kernel
theorem dX12_isMan_3 : decode cX12_isMan 3 = .ok (.getfield 250, 3) := by decide +kernel
theorem dX12_isMan_6 : decode cX12_isMan 6 = .ok (.iconst 1, 1) := by decide +kernel
theorem dX12_isMan_7 : decode cX12_isMan 7 = .ok (.isub, 1) := by decide +kernel
theorem dX12_isMan_8 : decode cX12_isMan 8 = .ok (.invokestatic 206, 3) := by decide +kernel
theorem dX12_isMan_11 : decode cX12_isMan 11 = .ok (.ireturn, 1) := by decide +kernel
theorem dX12_isSide_0 : decode cX12_isSide 0 = .ok (.aload_n 0, 1) := by decide +kernel
theorem dX12_isSide_1 : decode cX12_isSide 1 = .ok (.getfield 250, 3) := by decide +kernel
theorem dX12_isSide_4 : decode cX12_isSide 4 = .ok (.ifCond .le 16, 3) := by decide +kernel
theorem dX12_isSide_7 : decode cX12_isSide 7 = .ok (.iload_n 1, 1) := by decide +kernel
theorem dX12_isSide_8 : decode cX12_isSide 8 = .ok (.iconst 0, 1) := by decide +kernel
theorem dX12_isSide_9 : decode cX12_isSide 9 = .ok (.iconst 1, 1) := by decide +kernel
theorem dX12_isSide_10 : decode cX12_isSide 10 = .ok (.invokestatic 206, 3) := by decide +kernel
theorem dX12_isSide_13 : decode cX12_isSide 13 = .ok (.ifCond .eq 7, 3) := by decide +kernel
theorem dX12_isSide_16 : decode cX12_isSide 16 = .ok (.iconst 1, 1) := by decide +kernel
theorem dX12_isSide_17 : decode cX12_isSide 17 = .ok (.goto 4, 3) := by decide +kernel
theorem dX12_isSide_20 : decode cX12_isSide 20 = .ok (.iconst 0, 1) := by decide +kernel
theorem dX12_isSide_21 : decode cX12_isSide 21 = .ok (.ireturn, 1) := by decide +kernel
theorem dX12_side_0 : decode cX12_side 0 = .ok (.aload_n 0, 1) := by decide +kernel
theorem dX12_side_1 : decode cX12_side 1 = .ok (.getfield 49, 3) := by decide +kernel
theorem dX12_side_4 : decode cX12_side 4 = .ok (.bipush 6, 2) := by decide +kernel
theorem dX12_side_6 : decode cX12_side 6 = .ok (.iload_n 1, 1) := by decide +kernel
theorem dX12_side_7 : decode cX12_side 7 = .ok (.imul, 1) := by decide +kernel
theorem dX12_side_8 : decode cX12_side 8 = .ok (.iconst 0, 1) := by decide +kernel
theorem dX12_side_9 : decode cX12_side 9 = .ok (.iadd, 1) := by decide +kernel
theorem dX12_side_10 : decode cX12_side 10 = .ok (.iaload, 1) := by decide +kernel
theorem dX12_side_11 : decode cX12_side 11 = .ok (.ireturn, 1) := by decide +kernel
theorem dX12_isHomeBy_0 : decode cX12_isHomeBy 0 = .ok (.iload_n 2, 1) := by decide +kernel
theorem dX12_isHomeBy_1 : decode cX12_isHomeBy 1 = .ok (.iconst (-1), 1) := by decide +kernel
theorem dX12_isHomeBy_2 : decode cX12_isHomeBy 2 = .ok (.if_icmp .ne 20, 3) := by decide +kernel
theorem dX12_isHomeBy_5 : decode cX12_isHomeBy 5 = .ok (.aload_n 0, 1) := by decide +kernel
theorem dX12_isHomeBy_6 : decode cX12_isHomeBy 6 = .ok (.getfield 58, 3) := by decide +kernel
theorem dX12_isHomeBy_9 : decode cX12_isHomeBy 9 = .ok (.iconst 0, 1) := by decide +kernel
theorem dX12_isHomeBy_10 : decode cX12_isHomeBy 10 = .ok (.iload_n 1, 1) := by decide +kernel
theorem dX12_isHomeBy_11 : decode cX12_isHomeBy 11 = .ok (.iadd, 1) := by decide +kernel
theorem dX12_isHomeBy_12 : decode cX12_isHomeBy 12 = .ok (.iaload, 1) := by decide +kernel
theorem dX12_isHomeBy_13 : decode cX12_isHomeBy 13 = .ok (.ifCond .ne 7, 3) := by decide +kernel
theorem dX12_isHomeBy_16 : decode cX12_isHomeBy 16 = .ok (.iconst 1, 1) := by decide +kernel
theorem dX12_isHomeBy_17 : decode cX12_isHomeBy 17 = .ok (.goto 4, 3) := by decide +kernel
theorem dX12_isHomeBy_20 : decode cX12_isHomeBy 20 = .ok (.iconst 0, 1) := by decide +kernel
theorem dX12_isHomeBy_21 : decode cX12_isHomeBy 21 = .ok (.ireturn, 1) := by decide +kernel
theorem dX12_isHomeBy_22 : decode cX12_isHomeBy 22 = .ok (.aload_n 0, 1) := by decide +kernel
theorem dX12_isHomeBy_23 : decode cX12_isHomeBy 23 = .ok (.getfield 34, 3) := by decide +kernel
theorem dX12_isHomeBy_26 : decode cX12_isHomeBy 26 = .ok (.iconst 0, 1) := by decide +kernel
theorem dX12_isHomeBy_27 : decode cX12_isHomeBy 27 = .ok (.aload_n 0, 1) := by decide +kernel
theorem dX12_isHomeBy_28 : decode cX12_isHomeBy 28 = .ok (.getfield 58, 3) := by decide +kernel
theorem dX12_isHomeBy_31 : decode cX12_isHomeBy 31 = .ok (.iconst 0, 1) := by decide +kernel
theorem dX12_isHomeBy_32 : decode cX12_isHomeBy 32 = .ok (.iload_n 1, 1) := by decide +kernel
theorem dX12_isHomeBy_33 : decode cX12_isHomeBy 33 = .ok (.iadd, 1) := by decide +kernel
theorem dX12_isHomeBy_34 : decode cX12_isHomeBy 34 = .ok (.iaload, 1) := by decide +kernel
theorem dX12_isHomeBy_35 : decode cX12_isHomeBy 35 = .ok (.iastore, 1) := by decide +kernel
theorem dX12_isHomeBy_36 : decode cX12_isHomeBy 36 = .ok (.aload_n 0, 1) := by decide +kernel
theorem dX12_isHomeBy_37 : decode cX12_isHomeBy 37 = .ok (.getfield 34, 3) := by decide +kernel
theorem dX12_isHomeBy_40 : decode cX12_isHomeBy 40 = .ok (.iconst 1, 1) := by decide +kernel
theorem dX12_isHomeBy_41 : decode cX12_isHomeBy 41 = .ok (.aload_n 0, 1) := by decide +kernel
theorem dX12_isHomeBy_42 : decode cX12_isHomeBy 42 = .ok (.getfield 49, 3) := by decide +kernel
theorem dX12_isHomeBy_45 : decode cX12_isHomeBy 45 = .ok (.bipush 6, 2) := by decide +kernel
theorem dX12_isHomeBy_47 : decode cX12_isHomeBy 47 = .ok (.iload_n 1, 1) := by decide +kernel
theorem dX12_isHomeBy_48 : decode cX12_isHomeBy 48 = .ok (.imul, 1) := by decide +kernel
theorem dX12_isHomeBy_49 : decode cX12_isHomeBy 49 = .ok (.iconst 3, 1) := by decide +kernel
theorem dX12_isHomeBy_50 : decode cX12_isHomeBy 50 = .ok (.iadd, 1) := by decide +kernel
theorem dX12_isHomeBy_51 : decode cX12_isHomeBy 51 = .ok (.iaload, 1) := by decide +kernel
theorem dX12_isHomeBy_52 : decode cX12_isHomeBy 52 = .ok (.iastore, 1) := by decide +kernel
theorem dX12_isHomeBy_53 : decode cX12_isHomeBy 53 = .ok (.aload_n 0, 1) := by decide +kernel
theorem dX12_isHomeBy_54 : decode cX12_isHomeBy 54 = .ok (.getfield 34, 3) := by decide +kernel
theorem dX12_isHomeBy_57 : decode cX12_isHomeBy 57 = .ok (.iconst 2, 1) := by decide +kernel
theorem dX12_isHomeBy_58 : decode cX12_isHomeBy 58 = .ok (.aload_n 0, 1) := by decide +kernel
theorem dX12_isHomeBy_59 : decode cX12_isHomeBy 59 = .ok (.getfield 49, 3) := by decide +kernel
theorem dX12_isHomeBy_62 : decode cX12_isHomeBy 62 = .ok (.bipush 6, 2) := by decide +kernel
theorem dX12_isHomeBy_64 : decode cX12_isHomeBy 64 = .ok (.iload_n 1, 1) := by decide +kernel
theorem dX12_isHomeBy_65 : decode cX12_isHomeBy 65 = .ok (.imul, 1) := by decide +kernel
theorem dX12_isHomeBy_66 : decode cX12_isHomeBy 66 = .ok (.iconst 4, 1) := by decide +kernel
theorem dX12_isHomeBy_67 : decode cX12_isHomeBy 67 = .ok (.iadd, 1) := by decide +kernel
theorem dX12_isHomeBy_68 : decode cX12_isHomeBy 68 = .ok (.iaload, 1) := by decide +kernel
theorem dX12_isHomeBy_69 : decode cX12_isHomeBy 69 = .ok (.iastore, 1) := by decide +kernel
theorem dX12_isHomeBy_70 : decode cX12_isHomeBy 70 = .ok (.aload_n 0, 1) := by decide +kernel
theorem dX12_isHomeBy_71 : decode cX12_isHomeBy 71 = .ok (.getfield 34, 3) := by decide +kernel
theorem dX12_isHomeBy_74 : decode cX12_isHomeBy 74 = .ok (.iconst 3, 1) := by decide +kernel
theorem dX12_isHomeBy_75 : decode cX12_isHomeBy 75 = .ok (.aload_n 0, 1) := by decide +kernel
theorem dX12_isHomeBy_76 : decode cX12_isHomeBy 76 = .ok (.getfield 49, 3) := by decide +kernel
theorem dX12_isHomeBy_79 : decode cX12_isHomeBy 79 = .ok (.bipush 6, 2) := by decide +kernel
theorem dX12_isHomeBy_81 : decode cX12_isHomeBy 81 = .ok (.iload_n 1, 1) := by decide +kernel
theorem dX12_isHomeBy_82 : decode cX12_isHomeBy 82 = .ok (.imul, 1) := by decide +kernel
theorem dX12_isHomeBy_83 : decode cX12_isHomeBy 83 = .ok (.iconst 5, 1) := by decide +kernel
theorem dX12_isHomeBy_84 : decode cX12_isHomeBy 84 = .ok (.iadd, 1) := by decide +kernel
theorem dX12_isHomeBy_85 : decode cX12_isHomeBy 85 = .ok (.iaload, 1) := by decide +kernel
theorem dX12_isHomeBy_86 : decode cX12_isHomeBy 86 = .ok (.iastore, 1) := by decide +kernel
theorem dX12_isHomeBy_87 : decode cX12_isHomeBy 87 = .ok (.aload_n 0, 1) := by decide +kernel
theorem dX12_isHomeBy_88 : decode cX12_isHomeBy 88 = .ok (.getfield 34, 3) := by decide +kernel
theorem dX12_isHomeBy_91 : decode cX12_isHomeBy 91 = .ok (.iconst 4, 1) := by decide +kernel
theorem dX12_isHomeBy_92 : decode cX12_isHomeBy 92 = .ok (.aload_n 0, 1) := by decide +kernel
theorem dX12_isHomeBy_93 : decode cX12_isHomeBy 93 = .ok (.getfield 58, 3) := by decide +kernel
theorem dX12_isHomeBy_96 : decode cX12_isHomeBy 96 = .ok (.bipush 24, 2) := by decide +kernel
theorem dX12_isHomeBy_98 : decode cX12_isHomeBy 98 = .ok (.iaload, 1) := by decide +kernel
theorem dX12_isHomeBy_99 : decode cX12_isHomeBy 99 = .ok (.iastore, 1) := by decide +kernel
theorem dX12_isHomeBy_100 : decode cX12_isHomeBy 100 = .ok (.aload_n 0, 1) := by decide +kernel
theorem dX12_isHomeBy_101 : decode cX12_isHomeBy 101 = .ok (.getfield 34, 3) := by decide +kernel
theorem dX12_isHomeBy_104 : decode cX12_isHomeBy 104 = .ok (.iconst 5, 1) := by decide +kernel
theorem dX12_isHomeBy_105 : decode cX12_isHomeBy 105 = .ok (.aload_n 0, 1) := by decide +kernel
theorem dX12_isHomeBy_106 : decode cX12_isHomeBy 106 = .ok (.iload_n 1, 1) := by decide +kernel
theorem dX12_isHomeBy_107 : decode cX12_isHomeBy 107 = .ok (.invokevirtual 278, 3) := by decide +kernel
theorem dX12_isHomeBy_110 : decode cX12_isHomeBy 110 = .ok (.iastore, 1) := by decide +kernel
theorem dX12_isHomeBy_111 : decode cX12_isHomeBy 111 = .ok (.aload_n 0, 1) := by decide +kernel
theorem dX12_isHomeBy_112 : decode cX12_isHomeBy 112 = .ok (.iload_n 2, 1) := by decide +kernel
theorem dX12_isHomeBy_113 : decode cX12_isHomeBy 113 = .ok (.invokevirtual 281, 3) := by decide +kernel
theorem dX12_isHomeBy_116 : decode cX12_isHomeBy 116 = .ok (.ifCond .le 7, 3) := by decide +kernel
theorem dX12_isHomeBy_119 : decode cX12_isHomeBy 119 = .ok (.iconst 1, 1) := by decide +kernel
theorem dX12_isHomeBy_120 : decode cX12_isHomeBy 120 = .ok (.goto 4, 3) := by decide +kernel
theorem dX12_isHomeBy_123 : decode cX12_isHomeBy 123 = .ok (.iconst 0, 1) := by decide +kernel
theorem dX12_isHomeBy_124 : decode cX12_isHomeBy 124 = .ok (.ireturn, 1) := by decide +kernel
theorem dX12_isHome_0 : decode cX12_isHome 0 = .ok (.aload_n 0, 1) := by decide +kernel
theorem dX12_isHome_1 : decode cX12_isHome 1 = .ok (.iload_n 1, 1) := by decide +kernel
theorem dX12_isHome_2 : decode cX12_isHome 2 = .ok (.aload_n 0, 1) := by decide +kernel
theorem dX12_isHome_3 : decode cX12_isHome 3 = .ok (.getfield 61, 3) := by decide +kernel
theorem dX12_isHome_6 : decode cX12_isHome 6 = .ok (.invokevirtual 284, 3) := by decide +kernel
theorem dX12_isHome_9 : decode cX12_isHome 9 = .ok (.ireturn, 1) := by decide +kernel
theorem dX12_atHome_0 : decode cX12_atHome 0 = .ok (.iconst 0, 1) := by decide +kernel
theorem dX12_atHome_1 : decode cX12_atHome 1 = .ok (.istore_n 1, 1) := by decide +kernel
theorem dX12_atHome_2 : decode cX12_atHome 2 = .ok (.iconst 0, 1) := by decide +kernel
theorem dX12_atHome_3 : decode cX12_atHome 3 = .ok (.istore_n 2, 1) := by decide +kernel
theorem dX12_atHome_4 : decode cX12_atHome 4 = .ok (.iload_n 2, 1) := by decide +kernel
theorem dX12_atHome_5 : decode cX12_atHome 5 = .ok (.aload_n 0, 1) := by decide +kernel
theorem dX12_atHome_6 : decode cX12_atHome 6 = .ok (.getfield 250, 3) := by decide +kernel
theorem dX12_atHome_9 : decode cX12_atHome 9 = .ok (.if_icmp .ge 27, 3) := by decide +kernel
theorem dX12_atHome_12 : decode cX12_atHome 12 = .ok (.iload_n 1, 1) := by decide +kernel
theorem dX12_atHome_13 : decode cX12_atHome 13 = .ok (.aload_n 0, 1) := by decide +kernel
theorem dX12_atHome_14 : decode cX12_atHome 14 = .ok (.iload_n 2, 1) := by decide +kernel
theorem dX12_atHome_15 : decode cX12_atHome 15 = .ok (.invokevirtual 287, 3) := by decide +kernel
theorem dX12_atHome_18 : decode cX12_atHome 18 = .ok (.ifCond .eq 9, 3) := by decide +kernel
theorem dX12_atHome_21 : decode cX12_atHome 21 = .ok (.iconst 1, 1) := by decide +kernel
theorem dX12_atHome_22 : decode cX12_atHome 22 = .ok (.iload_n 2, 1) := by decide +kernel
theorem dX12_atHome_23 : decode cX12_atHome 23 = .ok (.ishl, 1) := by decide +kernel
theorem dX12_atHome_24 : decode cX12_atHome 24 = .ok (.goto 4, 3) := by decide +kernel
theorem dX12_atHome_27 : decode cX12_atHome 27 = .ok (.iconst 0, 1) := by decide +kernel
theorem dX12_atHome_28 : decode cX12_atHome 28 = .ok (.ior, 1) := by decide +kernel
theorem dX12_atHome_29 : decode cX12_atHome 29 = .ok (.istore_n 1, 1) := by decide +kernel
theorem dX12_atHome_30 : decode cX12_atHome 30 = .ok (.iinc 2 1, 3) := by decide +kernel
theorem dX12_atHome_33 : decode cX12_atHome 33 = .ok (.goto (-29), 3) := by decide +kernel
theorem dX12_atHome_36 : decode cX12_atHome 36 = .ok (.iload_n 1, 1) := by decide +kernel
theorem dX12_atHome_37 : decode cX12_atHome 37 = .ok (.ireturn, 1) := by decide +kernel
theorem dX12_of_0 : decode cX12_of 0 = .ok (.iconst 0, 1) := by decide +kernel
theorem dX12_of_1 : decode cX12_of 1 = .ok (.istore_n 2, 1) := by decide +kernel
theorem dX12_of_2 : decode cX12_of 2 = .ok (.iconst 0, 1) := by decide +kernel
theorem dX12_of_3 : decode cX12_of 3 = .ok (.istore_n 3, 1) := by decide +kernel
theorem dX12_of_4 : decode cX12_of 4 = .ok (.iload_n 3, 1) := by decide +kernel
theorem dX12_of_5 : decode cX12_of 5 = .ok (.aload_n 0, 1) := by decide +kernel
theorem dX12_of_6 : decode cX12_of 6 = .ok (.getfield 250, 3) := by decide +kernel
theorem dX12_of_9 : decode cX12_of 9 = .ok (.if_icmp .ge 28, 3) := by decide +kernel
theorem dX12_of_12 : decode cX12_of 12 = .ok (.iload_n 2, 1) := by decide +kernel
theorem dX12_of_13 : decode cX12_of 13 = .ok (.aload_n 0, 1) := by decide +kernel
theorem dX12_of_14 : decode cX12_of 14 = .ok (.iload_n 3, 1) := by decide +kernel
theorem dX12_of_15 : decode cX12_of 15 = .ok (.invokevirtual 278, 3) := by decide +kernel
theorem dX12_of_18 : decode cX12_of 18 = .ok (.iload_n 1, 1) := by decide +kernel
theorem dX12_of_19 : decode cX12_of 19 = .ok (.if_icmp .ne 9, 3) := by decide +kernel
theorem dX12_of_22 : decode cX12_of 22 = .ok (.iconst 1, 1) := by decide +kernel
theorem dX12_of_23 : decode cX12_of 23 = .ok (.iload_n 3, 1) := by decide +kernel
theorem dX12_of_24 : decode cX12_of 24 = .ok (.ishl, 1) := by decide +kernel
theorem dX12_of_25 : decode cX12_of 25 = .ok (.goto 4, 3) := by decide +kernel
theorem dX12_of_28 : decode cX12_of 28 = .ok (.iconst 0, 1) := by decide +kernel
theorem dX12_of_29 : decode cX12_of 29 = .ok (.ior, 1) := by decide +kernel
theorem dX12_of_30 : decode cX12_of 30 = .ok (.istore_n 2, 1) := by decide +kernel
theorem dX12_of_31 : decode cX12_of 31 = .ok (.iinc 3 1, 3) := by decide +kernel
theorem dX12_of_34 : decode cX12_of 34 = .ok (.goto (-30), 3) := by decide +kernel
theorem dX12_of_37 : decode cX12_of 37 = .ok (.iload_n 2, 1) := by decide +kernel
theorem dX12_of_38 : decode cX12_of 38 = .ok (.ireturn, 1) := by decide +kernel
theorem dX12_wonBy_0 : decode cX12_wonBy 0 = .ok (.aload_n 0, 1) := by decide +kernel
theorem dX12_wonBy_1 : decode cX12_wonBy 1 = .ok (.invokevirtual 290, 3) := by decide +kernel
theorem dX12_wonBy_4 : decode cX12_wonBy 4 = .ok (.istore_n 1, 1) := by decide +kernel
theorem dX12_wonBy_5 : decode cX12_wonBy 5 = .ok (.aload_n 0, 1) := by decide +kernel
theorem dX12_wonBy_6 : decode cX12_wonBy 6 = .ok (.iconst 0, 1) := by decide +kernel
theorem dX12_wonBy_7 : decode cX12_wonBy 7 = .ok (.invokevirtual 293, 3) := by decide +kernel
theorem dX12_wonBy_10 : decode cX12_wonBy 10 = .ok (.iload_n 1, 1) := by decide +kernel
theorem dX12_wonBy_11 : decode cX12_wonBy 11 = .ok (.iconst (-1), 1) := by decide +kernel
theorem dX12_wonBy_12 : decode cX12_wonBy 12 = .ok (.ixor, 1) := by decide +kernel
theorem dX12_wonBy_13 : decode cX12_wonBy 13 = .ok (.iand, 1) := by decide +kernel
theorem dX12_wonBy_14 : decode cX12_wonBy 14 = .ok (.ifCond .ne 7, 3) := by decide +kernel
theorem dX12_wonBy_17 : decode cX12_wonBy 17 = .ok (.iconst 1, 1) := by decide +kernel
theorem dX12_wonBy_18 : decode cX12_wonBy 18 = .ok (.goto 4, 3) := by decide +kernel
theorem dX12_wonBy_21 : decode cX12_wonBy 21 = .ok (.iconst 0, 1) := by decide +kernel
theorem dX12_wonBy_22 : decode cX12_wonBy 22 = .ok (.istore_n 2, 1) := by decide +kernel
theorem dX12_wonBy_23 : decode cX12_wonBy 23 = .ok (.aload_n 0, 1) := by decide +kernel
theorem dX12_wonBy_24 : decode cX12_wonBy 24 = .ok (.iconst 1, 1) := by decide +kernel
theorem dX12_wonBy_25 : decode cX12_wonBy 25 = .ok (.invokevirtual 293, 3) := by decide +kernel
theorem dX12_wonBy_28 : decode cX12_wonBy 28 = .ok (.iload_n 1, 1) := by decide +kernel
theorem dX12_wonBy_29 : decode cX12_wonBy 29 = .ok (.iconst (-1), 1) := by decide +kernel
theorem dX12_wonBy_30 : decode cX12_wonBy 30 = .ok (.ixor, 1) := by decide +kernel
theorem dX12_wonBy_31 : decode cX12_wonBy 31 = .ok (.iand, 1) := by decide +kernel
theorem dX12_wonBy_32 : decode cX12_wonBy 32 = .ok (.ifCond .ne 7, 3) := by decide +kernel
theorem dX12_wonBy_35 : decode cX12_wonBy 35 = .ok (.iconst 1, 1) := by decide +kernel
theorem dX12_wonBy_36 : decode cX12_wonBy 36 = .ok (.goto 4, 3) := by decide +kernel
theorem dX12_wonBy_39 : decode cX12_wonBy 39 = .ok (.iconst 0, 1) := by decide +kernel
theorem dX12_wonBy_40 : decode cX12_wonBy 40 = .ok (.istore_n 3, 1) := by decide +kernel
theorem dX12_wonBy_41 : decode cX12_wonBy 41 = .ok (.iload_n 2, 1) := by decide +kernel
theorem dX12_wonBy_42 : decode cX12_wonBy 42 = .ok (.ifCond .eq 11, 3) := by decide +kernel
theorem dX12_wonBy_45 : decode cX12_wonBy 45 = .ok (.iload_n 3, 1) := by decide +kernel
theorem dX12_wonBy_46 : decode cX12_wonBy 46 = .ok (.ifCond .eq 7, 3) := by decide +kernel
theorem dX12_wonBy_49 : decode cX12_wonBy 49 = .ok (.iconst 2, 1) := by decide +kernel
theorem dX12_wonBy_50 : decode cX12_wonBy 50 = .ok (.goto 20, 3) := by decide +kernel
theorem dX12_wonBy_53 : decode cX12_wonBy 53 = .ok (.iload_n 2, 1) := by decide +kernel
theorem dX12_wonBy_54 : decode cX12_wonBy 54 = .ok (.ifCond .eq 7, 3) := by decide +kernel
theorem dX12_wonBy_57 : decode cX12_wonBy 57 = .ok (.iconst 1, 1) := by decide +kernel
theorem dX12_wonBy_58 : decode cX12_wonBy 58 = .ok (.goto 12, 3) := by decide +kernel
theorem dX12_wonBy_61 : decode cX12_wonBy 61 = .ok (.iload_n 3, 1) := by decide +kernel
theorem dX12_wonBy_62 : decode cX12_wonBy 62 = .ok (.ifCond .eq 7, 3) := by decide +kernel
theorem dX12_wonBy_65 : decode cX12_wonBy 65 = .ok (.iconst 0, 1) := by decide +kernel
theorem dX12_wonBy_66 : decode cX12_wonBy 66 = .ok (.goto 4, 3) := by decide +kernel
theorem dX12_wonBy_69 : decode cX12_wonBy 69 = .ok (.iconst (-1), 1) := by decide +kernel
theorem dX12_wonBy_70 : decode cX12_wonBy 70 = .ok (.ireturn, 1) := by decide +kernel
theorem dX12_isOver_0 : decode cX12_isOver 0 = .ok (.aload_n 0, 1) := by decide +kernel
theorem dX12_isOver_1 : decode cX12_isOver 1 = .ok (.getfield 250, 3) := by decide +kernel
theorem dX12_isOver_4 : decode cX12_isOver 4 = .ok (.ifCond .eq 11, 3) := by decide +kernel
theorem dX12_isOver_7 : decode cX12_isOver 7 = .ok (.aload_n 0, 1) := by decide +kernel
theorem dX12_isOver_8 : decode cX12_isOver 8 = .ok (.invokevirtual 296, 3) := by decide +kernel
theorem dX12_isOver_11 : decode cX12_isOver 11 = .ok (.iconst (-1), 1) := by decide +kernel
theorem dX12_isOver_12 : decode cX12_isOver 12 = .ok (.if_icmp .eq 7, 3) := by decide +kernel
theorem dX12_isOver_15 : decode cX12_isOver 15 = .ok (.iconst 1, 1) := by decide +kernel
theorem dX12_isOver_16 : decode cX12_isOver 16 = .ok (.goto 4, 3) := by decide +kernel
theorem dX12_isOver_19 : decode cX12_isOver 19 = .ok (.iconst 0, 1) := by decide +kernel
theorem dX12_isOver_20 : decode cX12_isOver 20 = .ok (.ireturn, 1) := by decide +kernel
theorem dX12_man_0 : decode cX12_man 0 = .ok (.aload_n 0, 1) := by decide +kernel
theorem dX12_man_1 : decode cX12_man 1 = .ok (.aload_n 0, 1) := by decide +kernel
theorem dX12_man_2 : decode cX12_man 2 = .ok (.iload_n 1, 1) := by decide +kernel
theorem dX12_man_3 : decode cX12_man 3 = .ok (.invokevirtual 299, 3) := by decide +kernel
theorem dX12_man_6 : decode cX12_man 6 = .ok (.ifCond .eq 17, 3) := by decide +kernel
theorem dX12_man_9 : decode cX12_man 9 = .ok (.iload_n 2, 1) := by decide +kernel
theorem dX12_man_10 : decode cX12_man 10 = .ok (.iconst 0, 1) := by decide +kernel
theorem dX12_man_11 : decode cX12_man 11 = .ok (.bipush 8, 2) := by decide +kernel
theorem dX12_man_13 : decode cX12_man 13 = .ok (.invokestatic 206, 3) := by decide +kernel
theorem dX12_man_16 : decode cX12_man 16 = .ok (.ifCond .eq 7, 3) := by decide +kernel
theorem dX12_man_19 : decode cX12_man 19 = .ok (.iconst 0, 1) := by decide +kernel
theorem dX12_man_20 : decode cX12_man 20 = .ok (.goto 4, 3) := by decide +kernel
theorem dX12_man_23 : decode cX12_man 23 = .ok (.iconst 1, 1) := by decide +kernel
theorem dX12_man_24 : decode cX12_man 24 = .ok (.putfield 91, 3) := by decide +kernel
theorem dX12_man_27 : decode cX12_man 27 = .ok (.aload_n 0, 1) := by decide +kernel
theorem dX12_man_28 : decode cX12_man 28 = .ok (.getfield 91, 3) := by decide +kernel
theorem dX12_man_31 : decode cX12_man 31 = .ok (.iconst 1, 1) := by decide +kernel
theorem dX12_man_32 : decode cX12_man 32 = .ok (.if_icmp .ne 5, 3) := by decide +kernel
theorem dX12_man_35 : decode cX12_man 35 = .ok (.iconst 0, 1) := by decide +kernel
theorem dX12_man_36 : decode cX12_man 36 = .ok (.ireturn, 1) := by decide +kernel
theorem dX12_man_37 : decode cX12_man 37 = .ok (.iload_n 2, 1) := by decide +kernel
theorem dX12_man_38 : decode cX12_man 38 = .ok (.tableswitch 89 1 8 #[46, 89, 89, 89, 89, 55, 65, 75], 46) := by decide +kernel
theorem dX12_man_84 : decode cX12_man 84 = .ok (.aload_n 0, 1) := by decide +kernel
theorem dX12_man_85 : decode cX12_man 85 = .ok (.getfield 58, 3) := by decide +kernel
theorem dX12_man_88 : decode cX12_man 88 = .ok (.iconst 0, 1) := by decide +kernel
theorem dX12_man_89 : decode cX12_man 89 = .ok (.iload_n 1, 1) := by decide +kernel
theorem dX12_man_90 : decode cX12_man 90 = .ok (.iadd, 1) := by decide +kernel
theorem dX12_man_91 : decode cX12_man 91 = .ok (.iaload, 1) := by decide +kernel
theorem dX12_man_92 : decode cX12_man 92 = .ok (.ireturn, 1) := by decide +kernel
theorem dX12_man_93 : decode cX12_man 93 = .ok (.aload_n 0, 1) := by decide +kernel
theorem dX12_man_94 : decode cX12_man 94 = .ok (.getfield 58, 3) := by decide +kernel
theorem dX12_man_97 : decode cX12_man 97 = .ok (.bipush 8, 2) := by decide +kernel
theorem dX12_man_99 : decode cX12_man 99 = .ok (.iload_n 1, 1) := by decide +kernel
theorem dX12_man_100 : decode cX12_man 100 = .ok (.iadd, 1) := by decide +kernel
theorem dX12_man_101 : decode cX12_man 101 = .ok (.iaload, 1) := by decide +kernel
theorem dX12_man_102 : decode cX12_man 102 = .ok (.ireturn, 1) := by decide +kernel
theorem dX12_man_103 : decode cX12_man 103 = .ok (.aload_n 0, 1) := by decide +kernel
theorem dX12_man_104 : decode cX12_man 104 = .ok (.getfield 58, 3) := by decide +kernel
theorem dX12_man_107 : decode cX12_man 107 = .ok (.bipush 16, 2) := by decide +kernel
theorem dX12_man_109 : decode cX12_man 109 = .ok (.iload_n 1, 1) := by decide +kernel
theorem dX12_man_110 : decode cX12_man 110 = .ok (.iadd, 1) := by decide +kernel
theorem dX12_man_111 : decode cX12_man 111 = .ok (.iaload, 1) := by decide +kernel
theorem dX12_man_112 : decode cX12_man 112 = .ok (.ireturn, 1) := by decide +kernel
theorem dX12_man_113 : decode cX12_man 113 = .ok (.aload_n 0, 1) := by decide +kernel
theorem dX12_man_114 : decode cX12_man 114 = .ok (.iload_n 1, 1) := by decide +kernel
theorem dX12_man_115 : decode cX12_man 115 = .ok (.invokevirtual 287, 3) := by decide +kernel
theorem dX12_man_118 : decode cX12_man 118 = .ok (.ifCond .eq 7, 3) := by decide +kernel
theorem dX12_man_121 : decode cX12_man 121 = .ok (.iconst 1, 1) := by decide +kernel
theorem dX12_man_122 : decode cX12_man 122 = .ok (.goto 4, 3) := by decide +kernel
theorem dX12_man_125 : decode cX12_man 125 = .ok (.iconst 0, 1) := by decide +kernel
theorem dX12_man_126 : decode cX12_man 126 = .ok (.ireturn, 1) := by decide +kernel
theorem dX12_man_127 : decode cX12_man 127 = .ok (.aload_n 0, 1) := by decide +kernel
theorem dX12_man_128 : decode cX12_man 128 = .ok (.getfield 49, 3) := by decide +kernel
theorem dX12_man_131 : decode cX12_man 131 = .ok (.bipush 6, 2) := by decide +kernel
theorem dX12_man_133 : decode cX12_man 133 = .ok (.iload_n 1, 1) := by decide +kernel
theorem dX12_man_134 : decode cX12_man 134 = .ok (.imul, 1) := by decide +kernel
theorem dX12_man_135 : decode cX12_man 135 = .ok (.iload_n 2, 1) := by decide +kernel
theorem dX12_man_136 : decode cX12_man 136 = .ok (.iadd, 1) := by decide +kernel
theorem dX12_man_137 : decode cX12_man 137 = .ok (.iaload, 1) := by decide +kernel
theorem dX12_man_138 : decode cX12_man 138 = .ok (.ireturn, 1) := by decide +kernel
theorem dX12_orchard_0 : decode cX12_orchard 0 = .ok (.iload_n 1, 1) := by decide +kernel
theorem dX12_orchard_1 : decode cX12_orchard 1 = .ok (.iconst 0, 1) := by decide +kernel
theorem dX12_orchard_2 : decode cX12_orchard 2 = .ok (.aload_n 0, 1) := by decide +kernel
theorem dX12_orchard_3 : decode cX12_orchard 3 = .ok (.getfield 253, 3) := by decide +kernel
theorem dX12_orchard_6 : decode cX12_orchard 6 = .ok (.iconst 1, 1) := by decide +kernel
theorem dX12_orchard_7 : decode cX12_orchard 7 = .ok (.isub, 1) := by decide +kernel
theorem dX12_orchard_8 : decode cX12_orchard 8 = .ok (.invokestatic 206, 3) := by decide +kernel
theorem dX12_orchard_11 : decode cX12_orchard 11 = .ok (.ifCond .eq 25, 3) := by decide +kernel
theorem dX12_orchard_14 : decode cX12_orchard 14 = .ok (.iload_n 2, 1) := by decide +kernel
theorem dX12_orchard_15 : decode cX12_orchard 15 = .ok (.iconst 0, 1) := by decide +kernel
theorem dX12_orchard_16 : decode cX12_orchard 16 = .ok (.iconst 1, 1) := by decide +kernel
theorem dX12_orchard_17 : decode cX12_orchard 17 = .ok (.invokestatic 206, 3) := by decide +kernel
theorem dX12_orchard_20 : decode cX12_orchard 20 = .ok (.ifCond .eq 16, 3) := by decide +kernel
theorem dX12_orchard_23 : decode cX12_orchard 23 = .ok (.aload_n 0, 1) := by decide +kernel
theorem dX12_orchard_24 : decode cX12_orchard 24 = .ok (.getfield 52, 3) := by decide +kernel
theorem dX12_orchard_27 : decode cX12_orchard 27 = .ok (.iconst 2, 1) := by decide +kernel
theorem dX12_orchard_28 : decode cX12_orchard 28 = .ok (.iload_n 1, 1) := by decide +kernel
theorem dX12_orchard_29 : decode cX12_orchard 29 = .ok (.imul, 1) := by decide +kernel
theorem dX12_orchard_30 : decode cX12_orchard 30 = .ok (.iload_n 2, 1) := by decide +kernel
theorem dX12_orchard_31 : decode cX12_orchard 31 = .ok (.iadd, 1) := by decide +kernel
theorem dX12_orchard_32 : decode cX12_orchard 32 = .ok (.iaload, 1) := by decide +kernel
theorem dX12_orchard_33 : decode cX12_orchard 33 = .ok (.goto 4, 3) := by decide +kernel
theorem dX12_orchard_36 : decode cX12_orchard 36 = .ok (.iconst (-1), 1) := by decide +kernel
theorem dX12_orchard_37 : decode cX12_orchard 37 = .ok (.ireturn, 1) := by decide +kernel
theorem dX12_law_0 : decode cX12_law 0 = .ok (.iload_n 1, 1) := by decide +kernel
theorem dX12_law_1 : decode cX12_law 1 = .ok (.iconst (-1), 1) := by decide +kernel
theorem dX12_law_2 : decode cX12_law 2 = .ok (.aload_n 0, 1) := by decide +kernel
theorem dX12_law_3 : decode cX12_law 3 = .ok (.getfield 272, 3) := by decide +kernel
theorem dX12_law_6 : decode cX12_law 6 = .ok (.iconst 1, 1) := by decide +kernel
theorem dX12_law_7 : decode cX12_law 7 = .ok (.isub, 1) := by decide +kernel
theorem dX12_law_8 : decode cX12_law 8 = .ok (.invokestatic 206, 3) := by decide +kernel
theorem dX12_law_11 : decode cX12_law 11 = .ok (.ifCond .ne 5, 3) := by decide +kernel
theorem dX12_law_14 : decode cX12_law 14 = .ok (.iconst 0, 1) := by decide +kernel
theorem dX12_law_15 : decode cX12_law 15 = .ok (.ireturn, 1) := by decide +kernel
theorem dX12_law_16 : decode cX12_law 16 = .ok (.aload_n 0, 1) := by decide +kernel
theorem dX12_law_17 : decode cX12_law 17 = .ok (.iload_n 1, 1) := by decide +kernel
theorem dX12_law_18 : decode cX12_law 18 = .ok (.putfield 61, 3) := by decide +kernel
theorem dX12_law_21 : decode cX12_law 21 = .ok (.iconst 1, 1) := by decide +kernel
theorem dX12_law_22 : decode cX12_law 22 = .ok (.ireturn, 1) := by decide +kernel
theorem dX12_won_0 : decode cX12_won 0 = .ok (.aload_n 0, 1) := by decide +kernel
theorem dX12_won_1 : decode cX12_won 1 = .ok (.getfield 250, 3) := by decide +kernel
theorem dX12_won_4 : decode cX12_won 4 = .ok (.ifCond .ne 7, 3) := by decide +kernel
theorem dX12_won_7 : decode cX12_won 7 = .ok (.iconst (-1), 1) := by decide +kernel
theorem dX12_won_8 : decode cX12_won 8 = .ok (.goto 7, 3) := by decide +kernel
theorem dX12_won_11 : decode cX12_won 11 = .ok (.aload_n 0, 1) := by decide +kernel
theorem dX12_won_12 : decode cX12_won 12 = .ok (.invokevirtual 296, 3) := by decide +kernel
theorem dX12_won_15 : decode cX12_won 15 = .ok (.ireturn, 1) := by decide +kernel
theorem dX12_keep_0 : decode cX12_keep 0 = .ok (.aload_n 0, 1) := by decide +kernel
theorem dX12_keep_1 : decode cX12_keep 1 = .ok (.getfield 262, 3) := by decide +kernel
theorem dX12_keep_4 : decode cX12_keep 4 = .ok (.bipush 40, 2) := by decide +kernel
theorem dX12_keep_6 : decode cX12_keep 6 = .ok (.if_icmp .ne 46, 3) := by decide +kernel
theorem dX12_keep_9 : decode cX12_keep 9 = .ok (.sipush 206, 3) := by decide +kernel
theorem dX12_keep_12 : decode cX12_keep 12 = .ok (.istore_n 1, 1) := by decide +kernel
theorem dX12_keep_13 : decode cX12_keep 13 = .ok (.iload_n 1, 1) := by decide +kernel
theorem dX12_keep_14 : decode cX12_keep 14 = .ok (.sipush 8240, 3) := by decide +kernel
theorem dX12_keep_17 : decode cX12_keep 17 = .ok (.if_icmp .ge 25, 3) := by decide +kernel
theorem dX12_keep_20 : decode cX12_keep 20 = .ok (.aload_n 0, 1) := by decide +kernel
theorem dX12_keep_21 : decode cX12_keep 21 = .ok (.getfield 65, 3) := by decide +kernel
theorem dX12_keep_24 : decode cX12_keep 24 = .ok (.iload_n 1, 1) := by decide +kernel
theorem dX12_keep_25 : decode cX12_keep 25 = .ok (.sipush 206, 3) := by decide +kernel
theorem dX12_keep_28 : decode cX12_keep 28 = .ok (.isub, 1) := by decide +kernel
theorem dX12_keep_29 : decode cX12_keep 29 = .ok (.aload_n 0, 1) := by decide +kernel
theorem dX12_keep_30 : decode cX12_keep 30 = .ok (.getfield 65, 3) := by decide +kernel
theorem dX12_keep_33 : decode cX12_keep 33 = .ok (.iload_n 1, 1) := by decide +kernel
theorem dX12_keep_34 : decode cX12_keep 34 = .ok (.iaload, 1) := by decide +kernel
theorem dX12_keep_35 : decode cX12_keep 35 = .ok (.iastore, 1) := by decide +kernel
theorem dX12_keep_36 : decode cX12_keep 36 = .ok (.iinc 1 1, 3) := by decide +kernel
theorem dX12_keep_39 : decode cX12_keep 39 = .ok (.goto (-26), 3) := by decide +kernel
theorem dX12_keep_42 : decode cX12_keep 42 = .ok (.aload_n 0, 1) := by decide +kernel
theorem dX12_keep_43 : decode cX12_keep 43 = .ok (.dup, 1) := by decide +kernel
theorem dX12_keep_44 : decode cX12_keep 44 = .ok (.getfield 262, 3) := by decide +kernel
theorem dX12_keep_47 : decode cX12_keep 47 = .ok (.iconst 1, 1) := by decide +kernel
theorem dX12_keep_48 : decode cX12_keep 48 = .ok (.isub, 1) := by decide +kernel
theorem dX12_keep_49 : decode cX12_keep 49 = .ok (.putfield 262, 3) := by decide +kernel
theorem dX12_keep_52 : decode cX12_keep 52 = .ok (.iconst 0, 1) := by decide +kernel
theorem dX12_keep_53 : decode cX12_keep 53 = .ok (.istore_n 1, 1) := by decide +kernel
theorem dX12_keep_54 : decode cX12_keep 54 = .ok (.iload_n 1, 1) := by decide +kernel
theorem dX12_keep_55 : decode cX12_keep 55 = .ok (.sipush 206, 3) := by decide +kernel
theorem dX12_keep_58 : decode cX12_keep 58 = .ok (.if_icmp .ge 30, 3) := by decide +kernel
theorem dX12_keep_61 : decode cX12_keep 61 = .ok (.aload_n 0, 1) := by decide +kernel
theorem dX12_keep_62 : decode cX12_keep 62 = .ok (.getfield 65, 3) := by decide +kernel
theorem dX12_keep_65 : decode cX12_keep 65 = .ok (.sipush 206, 3) := by decide +kernel
theorem dX12_keep_68 : decode cX12_keep 68 = .ok (.aload_n 0, 1) := by decide +kernel
theorem dX12_keep_69 : decode cX12_keep 69 = .ok (.getfield 262, 3) := by decide +kernel
theorem dX12_keep_72 : decode cX12_keep 72 = .ok (.imul, 1) := by decide +kernel
theorem dX12_keep_73 : decode cX12_keep 73 = .ok (.iload_n 1, 1) := by decide +kernel
theorem dX12_keep_74 : decode cX12_keep 74 = .ok (.iadd, 1) := by decide +kernel
theorem dX12_keep_75 : decode cX12_keep 75 = .ok (.aload_n 0, 1) := by decide +kernel
theorem dX12_keep_76 : decode cX12_keep 76 = .ok (.getfield 58, 3) := by decide +kernel
theorem dX12_keep_79 : decode cX12_keep 79 = .ok (.iload_n 1, 1) := by decide +kernel
theorem dX12_keep_80 : decode cX12_keep 80 = .ok (.iaload, 1) := by decide +kernel
theorem dX12_keep_81 : decode cX12_keep 81 = .ok (.iastore, 1) := by decide +kernel
theorem dX12_keep_82 : decode cX12_keep 82 = .ok (.iinc 1 1, 3) := by decide +kernel
theorem dX12_keep_85 : decode cX12_keep 85 = .ok (.goto (-31), 3) := by decide +kernel
theorem dX12_keep_88 : decode cX12_keep 88 = .ok (.aload_n 0, 1) := by decide +kernel
theorem dX12_keep_89 : decode cX12_keep 89 = .ok (.dup, 1) := by decide +kernel
theorem dX12_keep_90 : decode cX12_keep 90 = .ok (.getfield 262, 3) := by decide +kernel
theorem dX12_keep_93 : decode cX12_keep 93 = .ok (.iconst 1, 1) := by decide +kernel
theorem dX12_keep_94 : decode cX12_keep 94 = .ok (.iadd, 1) := by decide +kernel
theorem dX12_keep_95 : decode cX12_keep 95 = .ok (.putfield 262, 3) := by decide +kernel
theorem dX12_keep_98 : decode cX12_keep 98 = .ok (.return_, 1) := by decide +kernel
theorem dX12_note_0 : decode cX12_note 0 = .ok (.aload_n 0, 1) := by decide +kernel
theorem dX12_note_1 : decode cX12_note 1 = .ok (.getfield 58, 3) := by decide +kernel
theorem dX12_note_4 : decode cX12_note 4 = .ok (.bipush 25, 2) := by decide +kernel
theorem dX12_note_6 : decode cX12_note 6 = .ok (.iaload, 1) := by decide +kernel
theorem dX12_note_7 : decode cX12_note 7 = .ok (.bipush 60, 2) := by decide +kernel
theorem dX12_note_9 : decode cX12_note 9 = .ok (.if_icmp .ne 53, 3) := by decide +kernel
theorem dX12_note_12 : decode cX12_note 12 = .ok (.iconst 3, 1) := by decide +kernel
theorem dX12_note_13 : decode cX12_note 13 = .ok (.istore 4, 2) := by decide +kernel
theorem dX12_note_15 : decode cX12_note 15 = .ok (.iload 4, 2) := by decide +kernel
theorem dX12_note_17 : decode cX12_note 17 = .ok (.sipush 180, 3) := by decide +kernel
theorem dX12_note_20 : decode cX12_note 20 = .ok (.if_icmp .ge 31, 3) := by decide +kernel
theorem dX12_note_23 : decode cX12_note 23 = .ok (.aload_n 0, 1) := by decide +kernel
theorem dX12_note_24 : decode cX12_note 24 = .ok (.getfield 58, 3) := by decide +kernel
theorem dX12_note_27 : decode cX12_note 27 = .ok (.bipush 26, 2) := by decide +kernel
theorem dX12_note_29 : decode cX12_note 29 = .ok (.iload 4, 2) := by decide +kernel
theorem dX12_note_31 : decode cX12_note 31 = .ok (.iadd, 1) := by decide +kernel
theorem dX12_note_32 : decode cX12_note 32 = .ok (.iconst 3, 1) := by decide +kernel
theorem dX12_note_33 : decode cX12_note 33 = .ok (.isub, 1) := by decide +kernel
theorem dX12_note_34 : decode cX12_note 34 = .ok (.aload_n 0, 1) := by decide +kernel
theorem dX12_note_35 : decode cX12_note 35 = .ok (.getfield 58, 3) := by decide +kernel
theorem dX12_note_38 : decode cX12_note 38 = .ok (.bipush 26, 2) := by decide +kernel
theorem dX12_note_40 : decode cX12_note 40 = .ok (.iload 4, 2) := by decide +kernel
theorem dX12_note_42 : decode cX12_note 42 = .ok (.iadd, 1) := by decide +kernel
theorem dX12_note_43 : decode cX12_note 43 = .ok (.iaload, 1) := by decide +kernel
theorem dX12_note_44 : decode cX12_note 44 = .ok (.iastore, 1) := by decide +kernel
theorem dX12_note_45 : decode cX12_note 45 = .ok (.iinc 4 1, 3) := by decide +kernel
theorem dX12_note_48 : decode cX12_note 48 = .ok (.goto (-33), 3) := by decide +kernel
theorem dX12_note_51 : decode cX12_note 51 = .ok (.aload_n 0, 1) := by decide +kernel
theorem dX12_note_52 : decode cX12_note 52 = .ok (.getfield 58, 3) := by decide +kernel
theorem dX12_note_55 : decode cX12_note 55 = .ok (.bipush 25, 2) := by decide +kernel
theorem dX12_note_57 : decode cX12_note 57 = .ok (.dup2, 1) := by decide +kernel
theorem dX12_note_58 : decode cX12_note 58 = .ok (.iaload, 1) := by decide +kernel
theorem dX12_note_59 : decode cX12_note 59 = .ok (.iconst 1, 1) := by decide +kernel
theorem dX12_note_60 : decode cX12_note 60 = .ok (.isub, 1) := by decide +kernel
theorem dX12_note_61 : decode cX12_note 61 = .ok (.iastore, 1) := by decide +kernel
theorem dX12_note_62 : decode cX12_note 62 = .ok (.bipush 26, 2) := by decide +kernel
theorem dX12_note_64 : decode cX12_note 64 = .ok (.iconst 3, 1) := by decide +kernel
theorem dX12_note_65 : decode cX12_note 65 = .ok (.aload_n 0, 1) := by decide +kernel
theorem dX12_note_66 : decode cX12_note 66 = .ok (.getfield 58, 3) := by decide +kernel
theorem dX12_note_69 : decode cX12_note 69 = .ok (.bipush 25, 2) := by decide +kernel
theorem dX12_note_71 : decode cX12_note 71 = .ok (.iaload, 1) := by decide +kernel
theorem dX12_note_72 : decode cX12_note 72 = .ok (.imul, 1) := by decide +kernel
theorem dX12_note_73 : decode cX12_note 73 = .ok (.iadd, 1) := by decide +kernel
theorem dX12_note_74 : decode cX12_note 74 = .ok (.istore 4, 2) := by decide +kernel
theorem dX12_note_76 : decode cX12_note 76 = .ok (.aload_n 0, 1) := by decide +kernel
theorem dX12_note_77 : decode cX12_note 77 = .ok (.getfield 58, 3) := by decide +kernel
theorem dX12_note_80 : decode cX12_note 80 = .ok (.iload 4, 2) := by decide +kernel
theorem dX12_note_82 : decode cX12_note 82 = .ok (.iload_n 1, 1) := by decide +kernel
theorem dX12_note_83 : decode cX12_note 83 = .ok (.iastore, 1) := by decide +kernel
theorem dX12_note_84 : decode cX12_note 84 = .ok (.aload_n 0, 1) := by decide +kernel
theorem dX12_note_85 : decode cX12_note 85 = .ok (.getfield 58, 3) := by decide +kernel
theorem dX12_note_88 : decode cX12_note 88 = .ok (.iload 4, 2) := by decide +kernel
theorem dX12_note_90 : decode cX12_note 90 = .ok (.iconst 1, 1) := by decide +kernel
theorem dX12_note_91 : decode cX12_note 91 = .ok (.iadd, 1) := by decide +kernel
theorem dX12_note_92 : decode cX12_note 92 = .ok (.iload_n 2, 1) := by decide +kernel
theorem dX12_note_93 : decode cX12_note 93 = .ok (.iastore, 1) := by decide +kernel
theorem dX12_note_94 : decode cX12_note 94 = .ok (.aload_n 0, 1) := by decide +kernel
theorem dX12_note_95 : decode cX12_note 95 = .ok (.getfield 58, 3) := by decide +kernel
theorem dX12_note_98 : decode cX12_note 98 = .ok (.iload 4, 2) := by decide +kernel
theorem dX12_note_100 : decode cX12_note 100 = .ok (.iconst 2, 1) := by decide +kernel
theorem dX12_note_101 : decode cX12_note 101 = .ok (.iadd, 1) := by decide +kernel
theorem dX12_note_102 : decode cX12_note 102 = .ok (.iload_n 3, 1) := by decide +kernel
theorem dX12_note_103 : decode cX12_note 103 = .ok (.iastore, 1) := by decide +kernel
theorem dX12_note_104 : decode cX12_note 104 = .ok (.aload_n 0, 1) := by decide +kernel
theorem dX12_note_105 : decode cX12_note 105 = .ok (.getfield 58, 3) := by decide +kernel
theorem dX12_note_108 : decode cX12_note 108 = .ok (.bipush 25, 2) := by decide +kernel
theorem dX12_note_110 : decode cX12_note 110 = .ok (.dup2, 1) := by decide +kernel
theorem dX12_note_111 : decode cX12_note 111 = .ok (.iaload, 1) := by decide +kernel
theorem dX12_note_112 : decode cX12_note 112 = .ok (.iconst 1, 1) := by decide +kernel
theorem dX12_note_113 : decode cX12_note 113 = .ok (.iadd, 1) := by decide +kernel
theorem dX12_note_114 : decode cX12_note 114 = .ok (.iastore, 1) := by decide +kernel
theorem dX12_note_115 : decode cX12_note 115 = .ok (.return_, 1) := by decide +kernel
theorem dX12_isFree_0 : decode cX12_isFree 0 = .ok (.aload_n 0, 1) := by decide +kernel
theorem dX12_isFree_1 : decode cX12_isFree 1 = .ok (.iload_n 1, 1) := by decide +kernel
theorem dX12_isFree_2 : decode cX12_isFree 2 = .ok (.invokevirtual 299, 3) := by decide +kernel
theorem dX12_isFree_5 : decode cX12_isFree 5 = .ok (.ifCond .eq 34, 3) := by decide +kernel
theorem dX12_isFree_8 : decode cX12_isFree 8 = .ok (.aload_n 0, 1) := by decide +kernel
theorem dX12_isFree_9 : decode cX12_isFree 9 = .ok (.invokevirtual 302, 3) := by decide +kernel
theorem dX12_isFree_12 : decode cX12_isFree 12 = .ok (.ifCond .ne 27, 3) := by decide +kernel
theorem dX12_isFree_15 : decode cX12_isFree 15 = .ok (.aload_n 0, 1) := by decide +kernel
theorem dX12_isFree_16 : decode cX12_isFree 16 = .ok (.iload_n 1, 1) := by decide +kernel
theorem dX12_isFree_17 : decode cX12_isFree 17 = .ok (.invokevirtual 287, 3) := by decide +kernel
theorem dX12_isFree_20 : decode cX12_isFree 20 = .ok (.ifCond .ne 19, 3) := by decide +kernel
theorem dX12_isFree_23 : decode cX12_isFree 23 = .ok (.aload_n 0, 1) := by decide +kernel
theorem dX12_isFree_24 : decode cX12_isFree 24 = .ok (.getfield 58, 3) := by decide +kernel
theorem dX12_isFree_27 : decode cX12_isFree 27 = .ok (.bipush 16, 2) := by decide +kernel
theorem dX12_isFree_29 : decode cX12_isFree 29 = .ok (.iload_n 1, 1) := by decide +kernel
theorem dX12_isFree_30 : decode cX12_isFree 30 = .ok (.iadd, 1) := by decide +kernel
theorem dX12_isFree_31 : decode cX12_isFree 31 = .ok (.iaload, 1) := by decide +kernel
theorem dX12_isFree_32 : decode cX12_isFree 32 = .ok (.ifCond .ne 7, 3) := by decide +kernel
theorem dX12_isFree_35 : decode cX12_isFree 35 = .ok (.iconst 1, 1) := by decide +kernel
theorem dX12_isFree_36 : decode cX12_isFree 36 = .ok (.goto 4, 3) := by decide +kernel
theorem dX12_isFree_39 : decode cX12_isFree 39 = .ok (.iconst 0, 1) := by decide +kernel
theorem dX12_isFree_40 : decode cX12_isFree 40 = .ok (.ireturn, 1) := by decide +kernel
theorem dX12_canGo_0 : decode cX12_canGo 0 = .ok (.aload_n 0, 1) := by decide +kernel
theorem dX12_canGo_1 : decode cX12_canGo 1 = .ok (.iload_n 1, 1) := by decide +kernel
theorem dX12_canGo_2 : decode cX12_canGo 2 = .ok (.invokevirtual 305, 3) := by decide +kernel
theorem dX12_canGo_5 : decode cX12_canGo 5 = .ok (.ifCond .eq 18, 3) := by decide +kernel
theorem dX12_canGo_8 : decode cX12_canGo 8 = .ok (.aload_n 0, 1) := by decide +kernel
theorem dX12_canGo_9 : decode cX12_canGo 9 = .ok (.getfield 58, 3) := by decide +kernel
theorem dX12_canGo_12 : decode cX12_canGo 12 = .ok (.iconst 0, 1) := by decide +kernel
theorem dX12_canGo_13 : decode cX12_canGo 13 = .ok (.iload_n 1, 1) := by decide +kernel
theorem dX12_canGo_14 : decode cX12_canGo 14 = .ok (.iadd, 1) := by decide +kernel
theorem dX12_canGo_15 : decode cX12_canGo 15 = .ok (.iaload, 1) := by decide +kernel
theorem dX12_canGo_16 : decode cX12_canGo 16 = .ok (.ifCond .le 7, 3) := by decide +kernel
theorem dX12_canGo_19 : decode cX12_canGo 19 = .ok (.iconst 1, 1) := by decide +kernel
theorem dX12_canGo_20 : decode cX12_canGo 20 = .ok (.goto 4, 3) := by decide +kernel
theorem dX12_canGo_23 : decode cX12_canGo 23 = .ok (.iconst 0, 1) := by decide +kernel
theorem dX12_canGo_24 : decode cX12_canGo 24 = .ok (.ireturn, 1) := by decide +kernel
theorem dX12_goNow_0 : decode cX12_goNow 0 = .ok (.aload_n 0, 1) := by decide +kernel
theorem dX12_goNow_1 : decode cX12_goNow 1 = .ok (.iload_n 1, 1) := by decide +kernel
theorem dX12_goNow_2 : decode cX12_goNow 2 = .ok (.aload_n 0, 1) := by decide +kernel
theorem dX12_goNow_3 : decode cX12_goNow 3 = .ok (.getfield 58, 3) := by decide +kernel
theorem dX12_goNow_6 : decode cX12_goNow 6 = .ok (.iconst 0, 1) := by decide +kernel
theorem dX12_goNow_7 : decode cX12_goNow 7 = .ok (.iload_n 1, 1) := by decide +kernel
theorem dX12_goNow_8 : decode cX12_goNow 8 = .ok (.iadd, 1) := by decide +kernel
theorem dX12_goNow_9 : decode cX12_goNow 9 = .ok (.iaload, 1) := by decide +kernel
theorem dX12_goNow_10 : decode cX12_goNow 10 = .ok (.iconst 1, 1) := by decide +kernel
theorem dX12_goNow_11 : decode cX12_goNow 11 = .ok (.isub, 1) := by decide +kernel
theorem dX12_goNow_12 : decode cX12_goNow 12 = .ok (.invokevirtual 256, 3) := by decide +kernel
theorem dX12_goNow_15 : decode cX12_goNow 15 = .ok (.aload_n 0, 1) := by decide +kernel
theorem dX12_goNow_16 : decode cX12_goNow 16 = .ok (.getfield 58, 3) := by decide +kernel
theorem dX12_goNow_19 : decode cX12_goNow 19 = .ok (.bipush 16, 2) := by decide +kernel
theorem dX12_goNow_21 : decode cX12_goNow 21 = .ok (.iload_n 1, 1) := by decide +kernel
theorem dX12_goNow_22 : decode cX12_goNow 22 = .ok (.iadd, 1) := by decide +kernel
theorem dX12_goNow_23 : decode cX12_goNow 23 = .ok (.iconst 1, 1) := by decide +kernel
theorem dX12_goNow_24 : decode cX12_goNow 24 = .ok (.iastore, 1) := by decide +kernel
theorem dX12_goNow_25 : decode cX12_goNow 25 = .ok (.aload_n 0, 1) := by decide +kernel
theorem dX12_goNow_26 : decode cX12_goNow 26 = .ok (.iconst 0, 1) := by decide +kernel
theorem dX12_goNow_27 : decode cX12_goNow 27 = .ok (.iload_n 1, 1) := by decide +kernel
theorem dX12_goNow_28 : decode cX12_goNow 28 = .ok (.iconst (-1), 1) := by decide +kernel
theorem dX12_goNow_29 : decode cX12_goNow 29 = .ok (.invokevirtual 308, 3) := by decide +kernel
theorem dX12_goNow_32 : decode cX12_goNow 32 = .ok (.return_, 1) := by decide +kernel
theorem dX12_go_0 : decode cX12_go 0 = .ok (.aload_n 0, 1) := by decide +kernel
theorem dX12_go_1 : decode cX12_go 1 = .ok (.iload_n 1, 1) := by decide +kernel
theorem dX12_go_2 : decode cX12_go 2 = .ok (.invokevirtual 312, 3) := by decide +kernel
theorem dX12_go_5 : decode cX12_go 5 = .ok (.ifCond .ne 5, 3) := by decide +kernel
theorem dX12_go_8 : decode cX12_go 8 = .ok (.iconst (-1), 1) := by decide +kernel
theorem dX12_go_9 : decode cX12_go 9 = .ok (.ireturn, 1) := by decide +kernel
theorem dX12_go_10 : decode cX12_go 10 = .ok (.aload_n 0, 1) := by decide +kernel
theorem dX12_go_11 : decode cX12_go 11 = .ok (.invokevirtual 315, 3) := by decide +kernel
theorem dX12_go_14 : decode cX12_go 14 = .ok (.aload_n 0, 1) := by decide +kernel
theorem dX12_go_15 : decode cX12_go 15 = .ok (.iload_n 1, 1) := by decide +kernel
theorem dX12_go_16 : decode cX12_go 16 = .ok (.invokevirtual 318, 3) := by decide +kernel
theorem dX12_go_19 : decode cX12_go 19 = .ok (.aload_n 0, 1) := by decide +kernel
theorem dX12_go_20 : decode cX12_go 20 = .ok (.getfield 58, 3) := by decide +kernel
theorem dX12_go_23 : decode cX12_go 23 = .ok (.iconst 0, 1) := by decide +kernel
theorem dX12_go_24 : decode cX12_go 24 = .ok (.iload_n 1, 1) := by decide +kernel
theorem dX12_go_25 : decode cX12_go 25 = .ok (.iadd, 1) := by decide +kernel
theorem dX12_go_26 : decode cX12_go 26 = .ok (.iaload, 1) := by decide +kernel
theorem dX12_go_27 : decode cX12_go 27 = .ok (.ireturn, 1) := by decide +kernel
theorem dX12_canStay_0 : decode cX12_canStay 0 = .ok (.aload_n 0, 1) := by decide +kernel
theorem dX12_canStay_1 : decode cX12_canStay 1 = .ok (.iload_n 1, 1) := by decide +kernel
theorem dX12_canStay_2 : decode cX12_canStay 2 = .ok (.invokevirtual 305, 3) := by decide +kernel
theorem dX12_canStay_5 : decode cX12_canStay 5 = .ok (.ifCond .eq 19, 3) := by decide +kernel
theorem dX12_canStay_8 : decode cX12_canStay 8 = .ok (.aload_n 0, 1) := by decide +kernel
theorem dX12_canStay_9 : decode cX12_canStay 9 = .ok (.getfield 58, 3) := by decide +kernel
theorem dX12_canStay_12 : decode cX12_canStay 12 = .ok (.bipush 8, 2) := by decide +kernel
theorem dX12_canStay_14 : decode cX12_canStay 14 = .ok (.iload_n 1, 1) := by decide +kernel
theorem dX12_canStay_15 : decode cX12_canStay 15 = .ok (.iadd, 1) := by decide +kernel
theorem dX12_canStay_16 : decode cX12_canStay 16 = .ok (.iaload, 1) := by decide +kernel
theorem dX12_canStay_17 : decode cX12_canStay 17 = .ok (.ifCond .le 7, 3) := by decide +kernel
theorem dX12_canStay_20 : decode cX12_canStay 20 = .ok (.iconst 1, 1) := by decide +kernel
theorem dX12_canStay_21 : decode cX12_canStay 21 = .ok (.goto 4, 3) := by decide +kernel
theorem dX12_canStay_24 : decode cX12_canStay 24 = .ok (.iconst 0, 1) := by decide +kernel
theorem dX12_canStay_25 : decode cX12_canStay 25 = .ok (.ireturn, 1) := by decide +kernel
theorem dX12_stayNow_0 : decode cX12_stayNow 0 = .ok (.aload_n 0, 1) := by decide +kernel
theorem dX12_stayNow_1 : decode cX12_stayNow 1 = .ok (.getfield 58, 3) := by decide +kernel
theorem dX12_stayNow_4 : decode cX12_stayNow 4 = .ok (.bipush 8, 2) := by decide +kernel
theorem dX12_stayNow_6 : decode cX12_stayNow 6 = .ok (.iload_n 1, 1) := by decide +kernel
theorem dX12_stayNow_7 : decode cX12_stayNow 7 = .ok (.iadd, 1) := by decide +kernel
theorem dX12_stayNow_8 : decode cX12_stayNow 8 = .ok (.dup2, 1) := by decide +kernel
theorem dX12_stayNow_9 : decode cX12_stayNow 9 = .ok (.iaload, 1) := by decide +kernel
theorem dX12_stayNow_10 : decode cX12_stayNow 10 = .ok (.iconst 1, 1) := by decide +kernel
theorem dX12_stayNow_11 : decode cX12_stayNow 11 = .ok (.isub, 1) := by decide +kernel
theorem dX12_stayNow_12 : decode cX12_stayNow 12 = .ok (.iastore, 1) := by decide +kernel
theorem dX12_stayNow_13 : decode cX12_stayNow 13 = .ok (.aload_n 0, 1) := by decide +kernel
theorem dX12_stayNow_14 : decode cX12_stayNow 14 = .ok (.getfield 58, 3) := by decide +kernel
theorem dX12_stayNow_17 : decode cX12_stayNow 17 = .ok (.bipush 16, 2) := by decide +kernel
theorem dX12_stayNow_19 : decode cX12_stayNow 19 = .ok (.iload_n 1, 1) := by decide +kernel
theorem dX12_stayNow_20 : decode cX12_stayNow 20 = .ok (.iadd, 1) := by decide +kernel
theorem dX12_stayNow_21 : decode cX12_stayNow 21 = .ok (.iconst 1, 1) := by decide +kernel
theorem dX12_stayNow_22 : decode cX12_stayNow 22 = .ok (.iastore, 1) := by decide +kernel
theorem dX12_stayNow_23 : decode cX12_stayNow 23 = .ok (.aload_n 0, 1) := by decide +kernel
theorem dX12_stayNow_24 : decode cX12_stayNow 24 = .ok (.iconst 1, 1) := by decide +kernel
theorem dX12_stayNow_25 : decode cX12_stayNow 25 = .ok (.iload_n 1, 1) := by decide +kernel
theorem dX12_stayNow_26 : decode cX12_stayNow 26 = .ok (.iconst (-1), 1) := by decide +kernel
theorem dX12_stayNow_27 : decode cX12_stayNow 27 = .ok (.invokevirtual 308, 3) := by decide +kernel
theorem dX12_stayNow_30 : decode cX12_stayNow 30 = .ok (.return_, 1) := by decide +kernel
theorem dX12_stay_0 : decode cX12_stay 0 = .ok (.aload_n 0, 1) := by decide +kernel
theorem dX12_stay_1 : decode cX12_stay 1 = .ok (.iload_n 1, 1) := by decide +kernel
theorem dX12_stay_2 : decode cX12_stay 2 = .ok (.invokevirtual 321, 3) := by decide +kernel
theorem dX12_stay_5 : decode cX12_stay 5 = .ok (.ifCond .ne 5, 3) := by decide +kernel
theorem dX12_stay_8 : decode cX12_stay 8 = .ok (.iconst (-1), 1) := by decide +kernel
theorem dX12_stay_9 : decode cX12_stay 9 = .ok (.ireturn, 1) := by decide +kernel
theorem dX12_stay_10 : decode cX12_stay 10 = .ok (.aload_n 0, 1) := by decide +kernel
theorem dX12_stay_11 : decode cX12_stay 11 = .ok (.invokevirtual 315, 3) := by decide +kernel
theorem dX12_stay_14 : decode cX12_stay 14 = .ok (.aload_n 0, 1) := by decide +kernel
theorem dX12_stay_15 : decode cX12_stay 15 = .ok (.iload_n 1, 1) := by decide +kernel
theorem dX12_stay_16 : decode cX12_stay 16 = .ok (.invokevirtual 324, 3) := by decide +kernel
theorem dX12_stay_19 : decode cX12_stay 19 = .ok (.aload_n 0, 1) := by decide +kernel
theorem dX12_stay_20 : decode cX12_stay 20 = .ok (.getfield 58, 3) := by decide +kernel
theorem dX12_stay_23 : decode cX12_stay 23 = .ok (.bipush 8, 2) := by decide +kernel
theorem dX12_stay_25 : decode cX12_stay 25 = .ok (.iload_n 1, 1) := by decide +kernel
theorem dX12_stay_26 : decode cX12_stay 26 = .ok (.iadd, 1) := by decide +kernel
theorem dX12_stay_27 : decode cX12_stay 27 = .ok (.iaload, 1) := by decide +kernel
theorem dX12_stay_28 : decode cX12_stay 28 = .ok (.ireturn, 1) := by decide +kernel
theorem dX12_canPress_0 : decode cX12_canPress 0 = .ok (.aload_n 0, 1) := by decide +kernel
theorem dX12_canPress_1 : decode cX12_canPress 1 = .ok (.iload_n 1, 1) := by decide +kernel
theorem dX12_canPress_2 : decode cX12_canPress 2 = .ok (.invokevirtual 321, 3) := by decide +kernel
theorem dX12_canPress_5 : decode cX12_canPress 5 = .ok (.ifCond .eq 62, 3) := by decide +kernel
theorem dX12_canPress_8 : decode cX12_canPress 8 = .ok (.aload_n 0, 1) := by decide +kernel
theorem dX12_canPress_9 : decode cX12_canPress 9 = .ok (.iload_n 2, 1) := by decide +kernel
theorem dX12_canPress_10 : decode cX12_canPress 10 = .ok (.invokevirtual 299, 3) := by decide +kernel
theorem dX12_canPress_13 : decode cX12_canPress 13 = .ok (.ifCond .eq 54, 3) := by decide +kernel
theorem dX12_canPress_16 : decode cX12_canPress 16 = .ok (.iload_n 2, 1) := by decide +kernel
theorem dX12_canPress_17 : decode cX12_canPress 17 = .ok (.iload_n 1, 1) := by decide +kernel
theorem dX12_canPress_18 : decode cX12_canPress 18 = .ok (.if_icmp .eq 49, 3) := by decide +kernel
theorem dX12_canPress_21 : decode cX12_canPress 21 = .ok (.aload_n 0, 1) := by decide +kernel
theorem dX12_canPress_22 : decode cX12_canPress 22 = .ok (.iload_n 2, 1) := by decide +kernel
theorem dX12_canPress_23 : decode cX12_canPress 23 = .ok (.invokevirtual 287, 3) := by decide +kernel
theorem dX12_canPress_26 : decode cX12_canPress 26 = .ok (.ifCond .ne 41, 3) := by decide +kernel
theorem dX12_canPress_29 : decode cX12_canPress 29 = .ok (.aload_n 0, 1) := by decide +kernel
theorem dX12_canPress_30 : decode cX12_canPress 30 = .ok (.getfield 58, 3) := by decide +kernel
theorem dX12_canPress_33 : decode cX12_canPress 33 = .ok (.iconst 0, 1) := by decide +kernel
theorem dX12_canPress_34 : decode cX12_canPress 34 = .ok (.iload_n 2, 1) := by decide +kernel
theorem dX12_canPress_35 : decode cX12_canPress 35 = .ok (.iadd, 1) := by decide +kernel
theorem dX12_canPress_36 : decode cX12_canPress 36 = .ok (.iaload, 1) := by decide +kernel
theorem dX12_canPress_37 : decode cX12_canPress 37 = .ok (.ifCond .le 30, 3) := by decide +kernel
theorem dX12_canPress_40 : decode cX12_canPress 40 = .ok (.aload_n 0, 1) := by decide +kernel
theorem dX12_canPress_41 : decode cX12_canPress 41 = .ok (.iload_n 1, 1) := by decide +kernel
theorem dX12_canPress_42 : decode cX12_canPress 42 = .ok (.invokevirtual 278, 3) := by decide +kernel
theorem dX12_canPress_45 : decode cX12_canPress 45 = .ok (.aload_n 0, 1) := by decide +kernel
theorem dX12_canPress_46 : decode cX12_canPress 46 = .ok (.iload_n 2, 1) := by decide +kernel
theorem dX12_canPress_47 : decode cX12_canPress 47 = .ok (.invokevirtual 278, 3) := by decide +kernel
theorem dX12_canPress_50 : decode cX12_canPress 50 = .ok (.if_icmp .ne 13, 3) := by decide +kernel
theorem dX12_canPress_53 : decode cX12_canPress 53 = .ok (.aload_n 0, 1) := by decide +kernel
theorem dX12_canPress_54 : decode cX12_canPress 54 = .ok (.getfield 55, 3) := by decide +kernel
theorem dX12_canPress_57 : decode cX12_canPress 57 = .ok (.iconst 1, 1) := by decide +kernel
theorem dX12_canPress_58 : decode cX12_canPress 58 = .ok (.iaload, 1) := by decide +kernel
theorem dX12_canPress_59 : decode cX12_canPress 59 = .ok (.iconst 1, 1) := by decide +kernel
theorem dX12_canPress_60 : decode cX12_canPress 60 = .ok (.if_icmp .ne 7, 3) := by decide +kernel
theorem dX12_canPress_63 : decode cX12_canPress 63 = .ok (.iconst 1, 1) := by decide +kernel
theorem dX12_canPress_64 : decode cX12_canPress 64 = .ok (.goto 4, 3) := by decide +kernel
theorem dX12_canPress_67 : decode cX12_canPress 67 = .ok (.iconst 0, 1) := by decide +kernel
theorem dX12_canPress_68 : decode cX12_canPress 68 = .ok (.ireturn, 1) := by decide +kernel
theorem dX12_pressNow_0 : decode cX12_pressNow 0 = .ok (.aload_n 0, 1) := by decide +kernel
theorem dX12_pressNow_1 : decode cX12_pressNow 1 = .ok (.getfield 58, 3) := by decide +kernel
theorem dX12_pressNow_4 : decode cX12_pressNow 4 = .ok (.bipush 8, 2) := by decide +kernel
theorem dX12_pressNow_6 : decode cX12_pressNow 6 = .ok (.iload_n 1, 1) := by decide +kernel
theorem dX12_pressNow_7 : decode cX12_pressNow 7 = .ok (.iadd, 1) := by decide +kernel
theorem dX12_pressNow_8 : decode cX12_pressNow 8 = .ok (.dup2, 1) := by decide +kernel
theorem dX12_pressNow_9 : decode cX12_pressNow 9 = .ok (.iaload, 1) := by decide +kernel
theorem dX12_pressNow_10 : decode cX12_pressNow 10 = .ok (.iconst 1, 1) := by decide +kernel
theorem dX12_pressNow_11 : decode cX12_pressNow 11 = .ok (.isub, 1) := by decide +kernel
theorem dX12_pressNow_12 : decode cX12_pressNow 12 = .ok (.iastore, 1) := by decide +kernel
theorem dX12_pressNow_13 : decode cX12_pressNow 13 = .ok (.aload_n 0, 1) := by decide +kernel
theorem dX12_pressNow_14 : decode cX12_pressNow 14 = .ok (.getfield 58, 3) := by decide +kernel
theorem dX12_pressNow_17 : decode cX12_pressNow 17 = .ok (.bipush 16, 2) := by decide +kernel
theorem dX12_pressNow_19 : decode cX12_pressNow 19 = .ok (.iload_n 1, 1) := by decide +kernel
theorem dX12_pressNow_20 : decode cX12_pressNow 20 = .ok (.iadd, 1) := by decide +kernel
theorem dX12_pressNow_21 : decode cX12_pressNow 21 = .ok (.iconst 1, 1) := by decide +kernel
theorem dX12_pressNow_22 : decode cX12_pressNow 22 = .ok (.iastore, 1) := by decide +kernel
theorem dX12_pressNow_23 : decode cX12_pressNow 23 = .ok (.aload_n 0, 1) := by decide +kernel
theorem dX12_pressNow_24 : decode cX12_pressNow 24 = .ok (.iload_n 2, 1) := by decide +kernel
theorem dX12_pressNow_25 : decode cX12_pressNow 25 = .ok (.iconst 0, 1) := by decide +kernel
theorem dX12_pressNow_26 : decode cX12_pressNow 26 = .ok (.aload_n 0, 1) := by decide +kernel
theorem dX12_pressNow_27 : decode cX12_pressNow 27 = .ok (.getfield 58, 3) := by decide +kernel
theorem dX12_pressNow_30 : decode cX12_pressNow 30 = .ok (.iconst 0, 1) := by decide +kernel
theorem dX12_pressNow_31 : decode cX12_pressNow 31 = .ok (.iload_n 2, 1) := by decide +kernel
theorem dX12_pressNow_32 : decode cX12_pressNow 32 = .ok (.iadd, 1) := by decide +kernel
theorem dX12_pressNow_33 : decode cX12_pressNow 33 = .ok (.iaload, 1) := by decide +kernel
theorem dX12_pressNow_34 : decode cX12_pressNow 34 = .ok (.aload_n 0, 1) := by decide +kernel
theorem dX12_pressNow_35 : decode cX12_pressNow 35 = .ok (.getfield 49, 3) := by decide +kernel
theorem dX12_pressNow_38 : decode cX12_pressNow 38 = .ok (.bipush 6, 2) := by decide +kernel
theorem dX12_pressNow_40 : decode cX12_pressNow 40 = .ok (.iload_n 1, 1) := by decide +kernel
theorem dX12_pressNow_41 : decode cX12_pressNow 41 = .ok (.imul, 1) := by decide +kernel
theorem dX12_pressNow_42 : decode cX12_pressNow 42 = .ok (.iconst 2, 1) := by decide +kernel
theorem dX12_pressNow_43 : decode cX12_pressNow 43 = .ok (.iadd, 1) := by decide +kernel
theorem dX12_pressNow_44 : decode cX12_pressNow 44 = .ok (.iaload, 1) := by decide +kernel
theorem dX12_pressNow_45 : decode cX12_pressNow 45 = .ok (.isub, 1) := by decide +kernel
theorem dX12_pressNow_46 : decode cX12_pressNow 46 = .ok (.invokestatic 327, 3) := by decide +kernel
theorem dX12_pressNow_49 : decode cX12_pressNow 49 = .ok (.invokevirtual 256, 3) := by decide +kernel
theorem dX12_pressNow_52 : decode cX12_pressNow 52 = .ok (.aload_n 0, 1) := by decide +kernel
theorem dX12_pressNow_53 : decode cX12_pressNow 53 = .ok (.iconst 2, 1) := by decide +kernel
theorem dX12_pressNow_54 : decode cX12_pressNow 54 = .ok (.iload_n 1, 1) := by decide +kernel
theorem dX12_pressNow_55 : decode cX12_pressNow 55 = .ok (.iload_n 2, 1) := by decide +kernel
theorem dX12_pressNow_56 : decode cX12_pressNow 56 = .ok (.invokevirtual 308, 3) := by decide +kernel
theorem dX12_pressNow_59 : decode cX12_pressNow 59 = .ok (.return_, 1) := by decide +kernel
theorem dX12_press_0 : decode cX12_press 0 = .ok (.aload_n 0, 1) := by decide +kernel
theorem dX12_press_1 : decode cX12_press 1 = .ok (.iload_n 1, 1) := by decide +kernel
theorem dX12_press_2 : decode cX12_press 2 = .ok (.iload_n 2, 1) := by decide +kernel
theorem dX12_press_3 : decode cX12_press 3 = .ok (.invokevirtual 329, 3) := by decide +kernel
theorem dX12_press_6 : decode cX12_press 6 = .ok (.ifCond .ne 5, 3) := by decide +kernel
theorem dX12_press_9 : decode cX12_press 9 = .ok (.iconst (-1), 1) := by decide +kernel
theorem dX12_press_10 : decode cX12_press 10 = .ok (.ireturn, 1) := by decide +kernel
theorem dX12_press_11 : decode cX12_press 11 = .ok (.aload_n 0, 1) := by decide +kernel
theorem dX12_press_12 : decode cX12_press 12 = .ok (.invokevirtual 315, 3) := by decide +kernel
theorem dX12_press_15 : decode cX12_press 15 = .ok (.aload_n 0, 1) := by decide +kernel
theorem dX12_press_16 : decode cX12_press 16 = .ok (.iload_n 1, 1) := by decide +kernel
theorem dX12_press_17 : decode cX12_press 17 = .ok (.iload_n 2, 1) := by decide +kernel
theorem dX12_press_18 : decode cX12_press 18 = .ok (.invokevirtual 332, 3) := by decide +kernel
theorem dX12_press_21 : decode cX12_press 21 = .ok (.aload_n 0, 1) := by decide +kernel
theorem dX12_press_22 : decode cX12_press 22 = .ok (.getfield 58, 3) := by decide +kernel
theorem dX12_press_25 : decode cX12_press 25 = .ok (.iconst 0, 1) := by decide +kernel
theorem dX12_press_26 : decode cX12_press 26 = .ok (.iload_n 2, 1) := by decide +kernel
theorem dX12_press_27 : decode cX12_press 27 = .ok (.iadd, 1) := by decide +kernel
theorem dX12_press_28 : decode cX12_press 28 = .ok (.iaload, 1) := by decide +kernel
theorem dX12_press_29 : decode cX12_press 29 = .ok (.ireturn, 1) := by decide +kernel
theorem dX12_endDay_0 : decode cX12_endDay 0 = .ok (.aload_n 0, 1) := by decide +kernel
theorem dX12_endDay_1 : decode cX12_endDay 1 = .ok (.getfield 58, 3) := by decide +kernel
theorem dX12_endDay_4 : decode cX12_endDay 4 = .ok (.bipush 24, 2) := by decide +kernel
theorem dX12_endDay_6 : decode cX12_endDay 6 = .ok (.dup2, 1) := by decide +kernel
theorem dX12_endDay_7 : decode cX12_endDay 7 = .ok (.iaload, 1) := by decide +kernel
theorem dX12_endDay_8 : decode cX12_endDay 8 = .ok (.iconst 1, 1) := by decide +kernel
theorem dX12_endDay_9 : decode cX12_endDay 9 = .ok (.iadd, 1) := by decide +kernel
theorem dX12_endDay_10 : decode cX12_endDay 10 = .ok (.iastore, 1) := by decide +kernel
theorem dX12_endDay_11 : decode cX12_endDay 11 = .ok (.iconst 0, 1) := by decide +kernel
theorem dX12_endDay_12 : decode cX12_endDay 12 = .ok (.istore_n 1, 1) := by decide +kernel
theorem dX12_endDay_13 : decode cX12_endDay 13 = .ok (.iload_n 1, 1) := by decide +kernel
theorem dX12_endDay_14 : decode cX12_endDay 14 = .ok (.aload_n 0, 1) := by decide +kernel
theorem dX12_endDay_15 : decode cX12_endDay 15 = .ok (.getfield 250, 3) := by decide +kernel
theorem dX12_endDay_18 : decode cX12_endDay 18 = .ok (.if_icmp .ge 19, 3) := by decide +kernel
theorem dX12_endDay_21 : decode cX12_endDay 21 = .ok (.aload_n 0, 1) := by decide +kernel
theorem dX12_endDay_22 : decode cX12_endDay 22 = .ok (.getfield 58, 3) := by decide +kernel
theorem dX12_endDay_25 : decode cX12_endDay 25 = .ok (.bipush 16, 2) := by decide +kernel
theorem dX12_endDay_27 : decode cX12_endDay 27 = .ok (.iload_n 1, 1) := by decide +kernel
theorem dX12_endDay_28 : decode cX12_endDay 28 = .ok (.iadd, 1) := by decide +kernel
theorem dX12_endDay_29 : decode cX12_endDay 29 = .ok (.iconst 0, 1) := by decide +kernel
theorem dX12_endDay_30 : decode cX12_endDay 30 = .ok (.iastore, 1) := by decide +kernel
theorem dX12_endDay_31 : decode cX12_endDay 31 = .ok (.iinc 1 1, 3) := by decide +kernel
theorem dX12_endDay_34 : decode cX12_endDay 34 = .ok (.goto (-21), 3) := by decide +kernel
theorem dX12_endDay_37 : decode cX12_endDay 37 = .ok (.aload_n 0, 1) := by decide +kernel
theorem dX12_endDay_38 : decode cX12_endDay 38 = .ok (.iconst 3, 1) := by decide +kernel
theorem dX12_endDay_39 : decode cX12_endDay 39 = .ok (.iconst (-1), 1) := by decide +kernel
theorem dX12_endDay_40 : decode cX12_endDay 40 = .ok (.iconst (-1), 1) := by decide +kernel
theorem dX12_endDay_41 : decode cX12_endDay 41 = .ok (.invokevirtual 308, 3) := by decide +kernel
theorem dX12_endDay_44 : decode cX12_endDay 44 = .ok (.return_, 1) := by decide +kernel
theorem dX12_evening_0 : decode cX12_evening 0 = .ok (.aload_n 0, 1) := by decide +kernel
theorem dX12_evening_1 : decode cX12_evening 1 = .ok (.invokevirtual 302, 3) := by decide +kernel
theorem dX12_evening_4 : decode cX12_evening 4 = .ok (.ifCond .ne 16, 3) := by decide +kernel
theorem dX12_evening_7 : decode cX12_evening 7 = .ok (.aload_n 0, 1) := by decide +kernel
theorem dX12_evening_8 : decode cX12_evening 8 = .ok (.getfield 58, 3) := by decide +kernel
theorem dX12_evening_11 : decode cX12_evening 11 = .ok (.bipush 24, 2) := by decide +kernel
theorem dX12_evening_13 : decode cX12_evening 13 = .ok (.iaload, 1) := by decide +kernel
theorem dX12_evening_14 : decode cX12_evening 14 = .ok (.sipush 9999, 3) := by decide +kernel
theorem dX12_evening_17 : decode cX12_evening 17 = .ok (.if_icmp .ne 5, 3) := by decide +kernel
theorem dX12_evening_20 : decode cX12_evening 20 = .ok (.iconst (-1), 1) := by decide +kernel
theorem dX12_evening_21 : decode cX12_evening 21 = .ok (.ireturn, 1) := by decide +kernel
theorem dX12_evening_22 : decode cX12_evening 22 = .ok (.aload_n 0, 1) := by decide +kernel
theorem dX12_evening_23 : decode cX12_evening 23 = .ok (.invokevirtual 315, 3) := by decide +kernel
theorem dX12_evening_26 : decode cX12_evening 26 = .ok (.iconst 0, 1) := by decide +kernel
theorem dX12_evening_27 : decode cX12_evening 27 = .ok (.istore_n 1, 1) := by decide +kernel
theorem dX12_evening_28 : decode cX12_evening 28 = .ok (.iload_n 1, 1) := by decide +kernel
theorem dX12_evening_29 : decode cX12_evening 29 = .ok (.aload_n 0, 1) := by decide +kernel
theorem dX12_evening_30 : decode cX12_evening 30 = .ok (.getfield 250, 3) := by decide +kernel
theorem dX12_evening_33 : decode cX12_evening 33 = .ok (.if_icmp .ge 32, 3) := by decide +kernel
theorem dX12_evening_36 : decode cX12_evening 36 = .ok (.aload_n 0, 1) := by decide +kernel
theorem dX12_evening_37 : decode cX12_evening 37 = .ok (.iload_n 1, 1) := by decide +kernel
theorem dX12_evening_38 : decode cX12_evening 38 = .ok (.invokevirtual 312, 3) := by decide +kernel
theorem dX12_evening_41 : decode cX12_evening 41 = .ok (.ifCond .eq 18, 3) := by decide +kernel
theorem dX12_evening_44 : decode cX12_evening 44 = .ok (.aload_n 0, 1) := by decide +kernel
theorem dX12_evening_45 : decode cX12_evening 45 = .ok (.iload_n 1, 1) := by decide +kernel
theorem dX12_evening_46 : decode cX12_evening 46 = .ok (.aload_n 0, 1) := by decide +kernel
theorem dX12_evening_47 : decode cX12_evening 47 = .ok (.getfield 58, 3) := by decide +kernel
theorem dX12_evening_50 : decode cX12_evening 50 = .ok (.iconst 0, 1) := by decide +kernel
theorem dX12_evening_51 : decode cX12_evening 51 = .ok (.iload_n 1, 1) := by decide +kernel
theorem dX12_evening_52 : decode cX12_evening 52 = .ok (.iadd, 1) := by decide +kernel
theorem dX12_evening_53 : decode cX12_evening 53 = .ok (.iaload, 1) := by decide +kernel
theorem dX12_evening_54 : decode cX12_evening 54 = .ok (.iconst 1, 1) := by decide +kernel
theorem dX12_evening_55 : decode cX12_evening 55 = .ok (.isub, 1) := by decide +kernel
theorem dX12_evening_56 : decode cX12_evening 56 = .ok (.invokevirtual 256, 3) := by decide +kernel
theorem dX12_evening_59 : decode cX12_evening 59 = .ok (.iinc 1 1, 3) := by decide +kernel
theorem dX12_evening_62 : decode cX12_evening 62 = .ok (.goto (-34), 3) := by decide +kernel
theorem dX12_evening_65 : decode cX12_evening 65 = .ok (.aload_n 0, 1) := by decide +kernel
theorem dX12_evening_66 : decode cX12_evening 66 = .ok (.invokevirtual 335, 3) := by decide +kernel
theorem dX12_evening_69 : decode cX12_evening 69 = .ok (.aload_n 0, 1) := by decide +kernel
theorem dX12_evening_70 : decode cX12_evening 70 = .ok (.getfield 58, 3) := by decide +kernel
theorem dX12_evening_73 : decode cX12_evening 73 = .ok (.bipush 24, 2) := by decide +kernel
theorem dX12_evening_75 : decode cX12_evening 75 = .ok (.iaload, 1) := by decide +kernel
theorem dX12_evening_76 : decode cX12_evening 76 = .ok (.ireturn, 1) := by decide +kernel
theorem dX12_draw_0 : decode cX12_draw 0 = .ok (.aload_n 0, 1) := by decide +kernel
theorem dX12_draw_1 : decode cX12_draw 1 = .ok (.aload_n 0, 1) := by decide +kernel
theorem dX12_draw_2 : decode cX12_draw 2 = .ok (.getfield 338, 3) := by decide +kernel
theorem dX12_draw_5 : decode cX12_draw 5 = .ok (.ldc2_w 342, 3) := by decide +kernel
theorem dX12_draw_8 : decode cX12_draw 8 = .ok (.lmul, 1) := by decide +kernel
theorem dX12_draw_9 : decode cX12_draw 9 = .ok (.ldc2_w 344, 3) := by decide +kernel
theorem dX12_draw_12 : decode cX12_draw 12 = .ok (.ladd, 1) := by decide +kernel
theorem dX12_draw_13 : decode cX12_draw 13 = .ok (.putfield 338, 3) := by decide +kernel
theorem dX12_draw_16 : decode cX12_draw 16 = .ok (.aload_n 0, 1) := by decide +kernel
theorem dX12_draw_17 : decode cX12_draw 17 = .ok (.getfield 338, 3) := by decide +kernel
theorem dX12_draw_20 : decode cX12_draw 20 = .ok (.bipush 33, 2) := by decide +kernel
theorem dX12_draw_22 : decode cX12_draw 22 = .ok (.lushr, 1) := by decide +kernel
theorem dX12_draw_23 : decode cX12_draw 23 = .ok (.iload_n 1, 1) := by decide +kernel
theorem dX12_draw_24 : decode cX12_draw 24 = .ok (.i2l, 1) := by decide +kernel
theorem dX12_draw_25 : decode cX12_draw 25 = .ok (.lrem, 1) := by decide +kernel
theorem dX12_draw_26 : decode cX12_draw 26 = .ok (.l2i, 1) := by decide +kernel
theorem dX12_draw_27 : decode cX12_draw 27 = .ok (.ireturn, 1) := by decide +kernel
theorem dX12_pressLowest_0 : decode cX12_pressLowest 0 = .ok (.iconst 0, 1) := by decide +kernel
theorem dX12_pressLowest_1 : decode cX12_pressLowest 1 = .ok (.istore_n 2, 1) := by decide +kernel
theorem dX12_pressLowest_2 : decode cX12_pressLowest 2 = .ok (.iload_n 2, 1) := by decide +kernel
theorem dX12_pressLowest_3 : decode cX12_pressLowest 3 = .ok (.aload_n 0, 1) := by decide +kernel
theorem dX12_pressLowest_4 : decode cX12_pressLowest 4 = .ok (.getfield 250, 3) := by decide +kernel
theorem dX12_pressLowest_7 : decode cX12_pressLowest 7 = .ok (.if_icmp .ge 25, 3) := by decide +kernel
theorem dX12_pressLowest_10 : decode cX12_pressLowest 10 = .ok (.aload_n 0, 1) := by decide +kernel
theorem dX12_pressLowest_11 : decode cX12_pressLowest 11 = .ok (.iload_n 1, 1) := by decide +kernel
theorem dX12_pressLowest_12 : decode cX12_pressLowest 12 = .ok (.iload_n 2, 1) := by decide +kernel
theorem dX12_pressLowest_13 : decode cX12_pressLowest 13 = .ok (.invokevirtual 329, 3) := by decide +kernel
theorem dX12_pressLowest_16 : decode cX12_pressLowest 16 = .ok (.ifCond .eq 10, 3) := by decide +kernel
theorem dX12_pressLowest_19 : decode cX12_pressLowest 19 = .ok (.aload_n 0, 1) := by decide +kernel
theorem dX12_pressLowest_20 : decode cX12_pressLowest 20 = .ok (.iload_n 1, 1) := by decide +kernel
theorem dX12_pressLowest_21 : decode cX12_pressLowest 21 = .ok (.iload_n 2, 1) := by decide +kernel
theorem dX12_pressLowest_22 : decode cX12_pressLowest 22 = .ok (.invokevirtual 332, 3) := by decide +kernel
theorem dX12_pressLowest_25 : decode cX12_pressLowest 25 = .ok (.return_, 1) := by decide +kernel
theorem dX12_pressLowest_26 : decode cX12_pressLowest 26 = .ok (.iinc 2 1, 3) := by decide +kernel
theorem dX12_pressLowest_29 : decode cX12_pressLowest 29 = .ok (.goto (-27), 3) := by decide +kernel
theorem dX12_pressLowest_32 : decode cX12_pressLowest 32 = .ok (.return_, 1) := by decide +kernel
theorem dX12_drawDeed_0 : decode cX12_drawDeed 0 = .ok (.aload_n 0, 1) := by decide +kernel
theorem dX12_drawDeed_1 : decode cX12_drawDeed 1 = .ok (.bipush 10, 2) := by decide +kernel
theorem dX12_drawDeed_3 : decode cX12_drawDeed 3 = .ok (.invokevirtual 346, 3) := by decide +kernel
theorem dX12_drawDeed_6 : decode cX12_drawDeed 6 = .ok (.aload_n 0, 1) := by decide +kernel
theorem dX12_drawDeed_7 : decode cX12_drawDeed 7 = .ok (.getfield 49, 3) := by decide +kernel
theorem dX12_drawDeed_10 : decode cX12_drawDeed 10 = .ok (.bipush 6, 2) := by decide +kernel
theorem dX12_drawDeed_12 : decode cX12_drawDeed 12 = .ok (.iload_n 1, 1) := by decide +kernel
theorem dX12_drawDeed_13 : decode cX12_drawDeed 13 = .ok (.imul, 1) := by decide +kernel
theorem dX12_drawDeed_14 : decode cX12_drawDeed 14 = .ok (.iconst 5, 1) := by decide +kernel
theorem dX12_drawDeed_15 : decode cX12_drawDeed 15 = .ok (.iadd, 1) := by decide +kernel
theorem dX12_drawDeed_16 : decode cX12_drawDeed 16 = .ok (.iaload, 1) := by decide +kernel
theorem dX12_drawDeed_17 : decode cX12_drawDeed 17 = .ok (.if_icmp .ge 4, 3) := by decide +kernel
theorem dX12_drawDeed_20 : decode cX12_drawDeed 20 = .ok (.return_, 1) := by decide +kernel
theorem dX12_drawDeed_21 : decode cX12_drawDeed 21 = .ok (.aload_n 0, 1) := by decide +kernel
theorem dX12_drawDeed_22 : decode cX12_drawDeed 22 = .ok (.iconst 3, 1) := by decide +kernel
theorem dX12_drawDeed_23 : decode cX12_drawDeed 23 = .ok (.invokevirtual 346, 3) := by decide +kernel
theorem dX12_drawDeed_26 : decode cX12_drawDeed 26 = .ok (.istore_n 2, 1) := by decide +kernel
theorem dX12_drawDeed_27 : decode cX12_drawDeed 27 = .ok (.iload_n 2, 1) := by decide +kernel
theorem dX12_drawDeed_28 : decode cX12_drawDeed 28 = .ok (.ifCond .ne 19, 3) := by decide +kernel
theorem dX12_drawDeed_31 : decode cX12_drawDeed 31 = .ok (.aload_n 0, 1) := by decide +kernel
theorem dX12_drawDeed_32 : decode cX12_drawDeed 32 = .ok (.iload_n 1, 1) := by decide +kernel
theorem dX12_drawDeed_33 : decode cX12_drawDeed 33 = .ok (.invokevirtual 312, 3) := by decide +kernel
theorem dX12_drawDeed_36 : decode cX12_drawDeed 36 = .ok (.ifCond .eq 11, 3) := by decide +kernel
theorem dX12_drawDeed_39 : decode cX12_drawDeed 39 = .ok (.aload_n 0, 1) := by decide +kernel
theorem dX12_drawDeed_40 : decode cX12_drawDeed 40 = .ok (.iload_n 1, 1) := by decide +kernel
theorem dX12_drawDeed_41 : decode cX12_drawDeed 41 = .ok (.invokevirtual 318, 3) := by decide +kernel
theorem dX12_drawDeed_44 : decode cX12_drawDeed 44 = .ok (.goto 34, 3) := by decide +kernel
theorem dX12_drawDeed_47 : decode cX12_drawDeed 47 = .ok (.iload_n 2, 1) := by decide +kernel
theorem dX12_drawDeed_48 : decode cX12_drawDeed 48 = .ok (.iconst 1, 1) := by decide +kernel
theorem dX12_drawDeed_49 : decode cX12_drawDeed 49 = .ok (.if_icmp .ne 19, 3) := by decide +kernel
theorem dX12_drawDeed_52 : decode cX12_drawDeed 52 = .ok (.aload_n 0, 1) := by decide +kernel
theorem dX12_drawDeed_53 : decode cX12_drawDeed 53 = .ok (.iload_n 1, 1) := by decide +kernel
theorem dX12_drawDeed_54 : decode cX12_drawDeed 54 = .ok (.invokevirtual 321, 3) := by decide +kernel
theorem dX12_drawDeed_57 : decode cX12_drawDeed 57 = .ok (.ifCond .eq 11, 3) := by decide +kernel
theorem dX12_drawDeed_60 : decode cX12_drawDeed 60 = .ok (.aload_n 0, 1) := by decide +kernel
theorem dX12_drawDeed_61 : decode cX12_drawDeed 61 = .ok (.iload_n 1, 1) := by decide +kernel
theorem dX12_drawDeed_62 : decode cX12_drawDeed 62 = .ok (.invokevirtual 324, 3) := by decide +kernel
theorem dX12_drawDeed_65 : decode cX12_drawDeed 65 = .ok (.goto 13, 3) := by decide +kernel
theorem dX12_drawDeed_68 : decode cX12_drawDeed 68 = .ok (.iload_n 2, 1) := by decide +kernel
theorem dX12_drawDeed_69 : decode cX12_drawDeed 69 = .ok (.iconst 2, 1) := by decide +kernel
theorem dX12_drawDeed_70 : decode cX12_drawDeed 70 = .ok (.if_icmp .ne 8, 3) := by decide +kernel
theorem dX12_drawDeed_73 : decode cX12_drawDeed 73 = .ok (.aload_n 0, 1) := by decide +kernel
theorem dX12_drawDeed_74 : decode cX12_drawDeed 74 = .ok (.iload_n 1, 1) := by decide +kernel
theorem dX12_drawDeed_75 : decode cX12_drawDeed 75 = .ok (.invokevirtual 349, 3) := by decide +kernel
theorem dX12_drawDeed_78 : decode cX12_drawDeed 78 = .ok (.return_, 1) := by decide +kernel
theorem dX12_march_0 : decode cX12_march 0 = .ok (.aload_n 0, 1) := by decide +kernel
theorem dX12_march_1 : decode cX12_march 1 = .ok (.invokevirtual 302, 3) := by decide +kernel
theorem dX12_march_4 : decode cX12_march 4 = .ok (.ifCond .ne 28, 3) := by decide +kernel
theorem dX12_march_7 : decode cX12_march 7 = .ok (.iload_n 1, 1) := by decide +kernel
theorem dX12_march_8 : decode cX12_march 8 = .ok (.iconst 1, 1) := by decide +kernel
theorem dX12_march_9 : decode cX12_march 9 = .ok (.bipush 60, 2) := by decide +kernel
theorem dX12_march_11 : decode cX12_march 11 = .ok (.invokestatic 206, 3) := by decide +kernel
theorem dX12_march_14 : decode cX12_march 14 = .ok (.ifCond .eq 18, 3) := by decide +kernel
theorem dX12_march_17 : decode cX12_march 17 = .ok (.aload_n 0, 1) := by decide +kernel
theorem dX12_march_18 : decode cX12_march 18 = .ok (.getfield 58, 3) := by decide +kernel
theorem dX12_march_21 : decode cX12_march 21 = .ok (.bipush 24, 2) := by decide +kernel
theorem dX12_march_23 : decode cX12_march 23 = .ok (.iaload, 1) := by decide +kernel
theorem dX12_march_24 : decode cX12_march 24 = .ok (.iload_n 1, 1) := by decide +kernel
theorem dX12_march_25 : decode cX12_march 25 = .ok (.iadd, 1) := by decide +kernel
theorem dX12_march_26 : decode cX12_march 26 = .ok (.sipush 9999, 3) := by decide +kernel
theorem dX12_march_29 : decode cX12_march 29 = .ok (.if_icmp .le 5, 3) := by decide +kernel
theorem dX12_march_32 : decode cX12_march 32 = .ok (.iconst (-1), 1) := by decide +kernel
theorem dX12_march_33 : decode cX12_march 33 = .ok (.ireturn, 1) := by decide +kernel
theorem dX12_march_34 : decode cX12_march 34 = .ok (.aload_n 0, 1) := by decide +kernel
theorem dX12_march_35 : decode cX12_march 35 = .ok (.lload_n 2, 1) := by decide +kernel
theorem dX12_march_36 : decode cX12_march 36 = .ok (.putfield 338, 3) := by decide +kernel
theorem dX12_march_39 : decode cX12_march 39 = .ok (.iconst 0, 1) := by decide +kernel
theorem dX12_march_40 : decode cX12_march 40 = .ok (.istore 4, 2) := by decide +kernel
theorem dX12_march_42 : decode cX12_march 42 = .ok (.iload 4, 2) := by decide +kernel
theorem dX12_march_44 : decode cX12_march 44 = .ok (.iload_n 1, 1) := by decide +kernel
theorem dX12_march_45 : decode cX12_march 45 = .ok (.if_icmp .ge 57, 3) := by decide +kernel
theorem dX12_march_48 : decode cX12_march 48 = .ok (.aload_n 0, 1) := by decide +kernel
theorem dX12_march_49 : decode cX12_march 49 = .ok (.invokevirtual 302, 3) := by decide +kernel
theorem dX12_march_52 : decode cX12_march 52 = .ok (.ifCond .ne 50, 3) := by decide +kernel
theorem dX12_march_55 : decode cX12_march 55 = .ok (.aload_n 0, 1) := by decide +kernel
theorem dX12_march_56 : decode cX12_march 56 = .ok (.invokevirtual 315, 3) := by decide +kernel
theorem dX12_march_59 : decode cX12_march 59 = .ok (.iconst 0, 1) := by decide +kernel
theorem dX12_march_60 : decode cX12_march 60 = .ok (.istore 5, 2) := by decide +kernel
theorem dX12_march_62 : decode cX12_march 62 = .ok (.iload 5, 2) := by decide +kernel
theorem dX12_march_64 : decode cX12_march 64 = .ok (.aload_n 0, 1) := by decide +kernel
theorem dX12_march_65 : decode cX12_march 65 = .ok (.getfield 250, 3) := by decide +kernel
theorem dX12_march_68 : decode cX12_march 68 = .ok (.if_icmp .ge 24, 3) := by decide +kernel
theorem dX12_march_71 : decode cX12_march 71 = .ok (.aload_n 0, 1) := by decide +kernel
theorem dX12_march_72 : decode cX12_march 72 = .ok (.iload 5, 2) := by decide +kernel
theorem dX12_march_74 : decode cX12_march 74 = .ok (.invokevirtual 305, 3) := by decide +kernel
theorem dX12_march_77 : decode cX12_march 77 = .ok (.ifCond .eq 9, 3) := by decide +kernel
theorem dX12_march_80 : decode cX12_march 80 = .ok (.aload_n 0, 1) := by decide +kernel
theorem dX12_march_81 : decode cX12_march 81 = .ok (.iload 5, 2) := by decide +kernel
theorem dX12_march_83 : decode cX12_march 83 = .ok (.invokevirtual 352, 3) := by decide +kernel
theorem dX12_march_86 : decode cX12_march 86 = .ok (.iinc 5 1, 3) := by decide +kernel
theorem dX12_march_89 : decode cX12_march 89 = .ok (.goto (-27), 3) := by decide +kernel
theorem dX12_march_92 : decode cX12_march 92 = .ok (.aload_n 0, 1) := by decide +kernel
theorem dX12_march_93 : decode cX12_march 93 = .ok (.invokevirtual 335, 3) := by decide +kernel
theorem dX12_march_96 : decode cX12_march 96 = .ok (.iinc 4 1, 3) := by decide +kernel
theorem dX12_march_99 : decode cX12_march 99 = .ok (.goto (-57), 3) := by decide +kernel
theorem dX12_march_102 : decode cX12_march 102 = .ok (.aload_n 0, 1) := by decide +kernel
theorem dX12_march_103 : decode cX12_march 103 = .ok (.getfield 58, 3) := by decide +kernel
theorem dX12_march_106 : decode cX12_march 106 = .ok (.bipush 24, 2) := by decide +kernel
theorem dX12_march_108 : decode cX12_march 108 = .ok (.iaload, 1) := by decide +kernel
theorem dX12_march_109 : decode cX12_march 109 = .ok (.ireturn, 1) := by decide +kernel
theorem dX12_undo_0 : decode cX12_undo 0 = .ok (.aload_n 0, 1) := by decide +kernel
theorem dX12_undo_1 : decode cX12_undo 1 = .ok (.getfield 262, 3) := by decide +kernel
theorem dX12_undo_4 : decode cX12_undo 4 = .ok (.ifCond .ne 5, 3) := by decide +kernel
theorem dX12_undo_7 : decode cX12_undo 7 = .ok (.iconst (-1), 1) := by decide +kernel
theorem dX12_undo_8 : decode cX12_undo 8 = .ok (.ireturn, 1) := by decide +kernel
theorem dX12_undo_9 : decode cX12_undo 9 = .ok (.aload_n 0, 1) := by decide +kernel
theorem dX12_undo_10 : decode cX12_undo 10 = .ok (.dup, 1) := by decide +kernel
theorem dX12_undo_11 : decode cX12_undo 11 = .ok (.getfield 262, 3) := by decide +kernel
theorem dX12_undo_14 : decode cX12_undo 14 = .ok (.iconst 1, 1) := by decide +kernel
theorem dX12_undo_15 : decode cX12_undo 15 = .ok (.isub, 1) := by decide +kernel
theorem dX12_undo_16 : decode cX12_undo 16 = .ok (.putfield 262, 3) := by decide +kernel
theorem dX12_undo_19 : decode cX12_undo 19 = .ok (.iconst 0, 1) := by decide +kernel
theorem dX12_undo_20 : decode cX12_undo 20 = .ok (.istore_n 1, 1) := by decide +kernel
theorem dX12_undo_21 : decode cX12_undo 21 = .ok (.iload_n 1, 1) := by decide +kernel
theorem dX12_undo_22 : decode cX12_undo 22 = .ok (.sipush 206, 3) := by decide +kernel
theorem dX12_undo_25 : decode cX12_undo 25 = .ok (.if_icmp .ge 30, 3) := by decide +kernel
theorem dX12_undo_28 : decode cX12_undo 28 = .ok (.aload_n 0, 1) := by decide +kernel
theorem dX12_undo_29 : decode cX12_undo 29 = .ok (.getfield 58, 3) := by decide +kernel
theorem dX12_undo_32 : decode cX12_undo 32 = .ok (.iload_n 1, 1) := by decide +kernel
theorem dX12_undo_33 : decode cX12_undo 33 = .ok (.aload_n 0, 1) := by decide +kernel
theorem dX12_undo_34 : decode cX12_undo 34 = .ok (.getfield 65, 3) := by decide +kernel
theorem dX12_undo_37 : decode cX12_undo 37 = .ok (.sipush 206, 3) := by decide +kernel
theorem dX12_undo_40 : decode cX12_undo 40 = .ok (.aload_n 0, 1) := by decide +kernel
theorem dX12_undo_41 : decode cX12_undo 41 = .ok (.getfield 262, 3) := by decide +kernel
theorem dX12_undo_44 : decode cX12_undo 44 = .ok (.imul, 1) := by decide +kernel
theorem dX12_undo_45 : decode cX12_undo 45 = .ok (.iload_n 1, 1) := by decide +kernel
theorem dX12_undo_46 : decode cX12_undo 46 = .ok (.iadd, 1) := by decide +kernel
theorem dX12_undo_47 : decode cX12_undo 47 = .ok (.iaload, 1) := by decide +kernel
theorem dX12_undo_48 : decode cX12_undo 48 = .ok (.iastore, 1) := by decide +kernel
theorem dX12_undo_49 : decode cX12_undo 49 = .ok (.iinc 1 1, 3) := by decide +kernel
theorem dX12_undo_52 : decode cX12_undo 52 = .ok (.goto (-31), 3) := by decide +kernel
theorem dX12_undo_55 : decode cX12_undo 55 = .ok (.aload_n 0, 1) := by decide +kernel
theorem dX12_undo_56 : decode cX12_undo 56 = .ok (.getfield 262, 3) := by decide +kernel
theorem dX12_undo_59 : decode cX12_undo 59 = .ok (.ireturn, 1) := by decide +kernel
theorem dX12_log_0 : decode cX12_log 0 = .ok (.iload_n 1, 1) := by decide +kernel
theorem dX12_log_1 : decode cX12_log 1 = .ok (.iconst 0, 1) := by decide +kernel
theorem dX12_log_2 : decode cX12_log 2 = .ok (.aload_n 0, 1) := by decide +kernel
theorem dX12_log_3 : decode cX12_log 3 = .ok (.getfield 58, 3) := by decide +kernel
theorem dX12_log_6 : decode cX12_log 6 = .ok (.bipush 25, 2) := by decide +kernel
theorem dX12_log_8 : decode cX12_log 8 = .ok (.iaload, 1) := by decide +kernel
theorem dX12_log_9 : decode cX12_log 9 = .ok (.iconst 1, 1) := by decide +kernel
theorem dX12_log_10 : decode cX12_log 10 = .ok (.isub, 1) := by decide +kernel
theorem dX12_log_11 : decode cX12_log 11 = .ok (.invokestatic 206, 3) := by decide +kernel
theorem dX12_log_14 : decode cX12_log 14 = .ok (.ifCond .eq 38, 3) := by decide +kernel
theorem dX12_log_17 : decode cX12_log 17 = .ok (.iload_n 2, 1) := by decide +kernel
theorem dX12_log_18 : decode cX12_log 18 = .ok (.iconst 0, 1) := by decide +kernel
theorem dX12_log_19 : decode cX12_log 19 = .ok (.iconst 2, 1) := by decide +kernel
theorem dX12_log_20 : decode cX12_log 20 = .ok (.invokestatic 206, 3) := by decide +kernel
theorem dX12_log_23 : decode cX12_log 23 = .ok (.ifCond .eq 29, 3) := by decide +kernel
theorem dX12_log_26 : decode cX12_log 26 = .ok (.aload_n 0, 1) := by decide +kernel
theorem dX12_log_27 : decode cX12_log 27 = .ok (.getfield 58, 3) := by decide +kernel
theorem dX12_log_30 : decode cX12_log 30 = .ok (.bipush 26, 2) := by decide +kernel
theorem dX12_log_32 : decode cX12_log 32 = .ok (.iconst 3, 1) := by decide +kernel
theorem dX12_log_33 : decode cX12_log 33 = .ok (.aload_n 0, 1) := by decide +kernel
theorem dX12_log_34 : decode cX12_log 34 = .ok (.getfield 58, 3) := by decide +kernel
theorem dX12_log_37 : decode cX12_log 37 = .ok (.bipush 25, 2) := by decide +kernel
theorem dX12_log_39 : decode cX12_log 39 = .ok (.iaload, 1) := by decide +kernel
theorem dX12_log_40 : decode cX12_log 40 = .ok (.iconst 1, 1) := by decide +kernel
theorem dX12_log_41 : decode cX12_log 41 = .ok (.isub, 1) := by decide +kernel
theorem dX12_log_42 : decode cX12_log 42 = .ok (.iload_n 1, 1) := by decide +kernel
theorem dX12_log_43 : decode cX12_log 43 = .ok (.isub, 1) := by decide +kernel
theorem dX12_log_44 : decode cX12_log 44 = .ok (.imul, 1) := by decide +kernel
theorem dX12_log_45 : decode cX12_log 45 = .ok (.iadd, 1) := by decide +kernel
theorem dX12_log_46 : decode cX12_log 46 = .ok (.iload_n 2, 1) := by decide +kernel
theorem dX12_log_47 : decode cX12_log 47 = .ok (.iadd, 1) := by decide +kernel
theorem dX12_log_48 : decode cX12_log 48 = .ok (.iaload, 1) := by decide +kernel
theorem dX12_log_49 : decode cX12_log 49 = .ok (.goto 6, 3) := by decide +kernel
theorem dX12_log_52 : decode cX12_log 52 = .ok (.ldc_w 355, 3) := by decide +kernel
theorem dX12_log_55 : decode cX12_log 55 = .ok (.ireturn, 1) := by decide +kernel
theorem dX12_place_0 : decode cX12_place 0 = .ok (.iload_n 0, 1) := by decide +kernel
theorem dX12_place_1 : decode cX12_place 1 = .ok (.bipush 21, 2) := by decide +kernel
theorem dX12_place_3 : decode cX12_place 3 = .ok (.imul, 1) := by decide +kernel
theorem dX12_place_4 : decode cX12_place 4 = .ok (.iload_n 1, 1) := by decide +kernel
theorem dX12_place_5 : decode cX12_place 5 = .ok (.iadd, 1) := by decide +kernel
theorem dX12_place_6 : decode cX12_place 6 = .ok (.bipush 10, 2) := by decide +kernel
theorem dX12_place_8 : decode cX12_place 8 = .ok (.imul, 1) := by decide +kernel
theorem dX12_place_9 : decode cX12_place 9 = .ok (.iload_n 2, 1) := by decide +kernel
theorem dX12_place_10 : decode cX12_place 10 = .ok (.iadd, 1) := by decide +kernel
theorem dX12_place_11 : decode cX12_place 11 = .ok (.bipush 21, 2) := by decide +kernel
theorem dX12_place_13 : decode cX12_place 13 = .ok (.imul, 1) := by decide +kernel
theorem dX12_place_14 : decode cX12_place 14 = .ok (.iload_n 3, 1) := by decide +kernel
theorem dX12_place_15 : decode cX12_place 15 = .ok (.iadd, 1) := by decide +kernel
theorem dX12_place_16 : decode cX12_place 16 = .ok (.bipush 10, 2) := by decide +kernel
theorem dX12_place_18 : decode cX12_place 18 = .ok (.imul, 1) := by decide +kernel
theorem dX12_place_19 : decode cX12_place 19 = .ok (.iload 4, 2) := by decide +kernel
theorem dX12_place_21 : decode cX12_place 21 = .ok (.iadd, 1) := by decide +kernel
theorem dX12_place_22 : decode cX12_place 22 = .ok (.ireturn, 1) := by decide +kernel
theorem dX12_turned_0 : decode cX12_turned 0 = .ok (.iload_n 0, 1) := by decide +kernel
theorem dX12_turned_1 : decode cX12_turned 1 = .ok (.ifCond .le 10, 3) := by decide +kernel
theorem dX12_turned_4 : decode cX12_turned 4 = .ok (.iload_n 0, 1) := by decide +kernel
theorem dX12_turned_5 : decode cX12_turned 5 = .ok (.ineg, 1) := by decide +kernel
theorem dX12_turned_6 : decode cX12_turned 6 = .ok (.iconst 1, 1) := by decide +kernel
theorem dX12_turned_7 : decode cX12_turned 7 = .ok (.isub, 1) := by decide +kernel
theorem dX12_turned_8 : decode cX12_turned 8 = .ok (.goto 6, 3) := by decide +kernel
theorem dX12_turned_11 : decode cX12_turned 11 = .ok (.iconst 1, 1) := by decide +kernel
theorem dX12_turned_12 : decode cX12_turned 12 = .ok (.iload_n 0, 1) := by decide +kernel
theorem dX12_turned_13 : decode cX12_turned 13 = .ok (.isub, 1) := by decide +kernel
theorem dX12_turned_14 : decode cX12_turned 14 = .ok (.ireturn, 1) := by decide +kernel
theorem dX12_isBetter_0 : decode cX12_isBetter 0 = .ok (.iload_n 0, 1) := by decide +kernel
theorem dX12_isBetter_1 : decode cX12_isBetter 1 = .ok (.ifCond .le 20, 3) := by decide +kernel
theorem dX12_isBetter_4 : decode cX12_isBetter 4 = .ok (.iload_n 1, 1) := by decide +kernel
theorem dX12_isBetter_5 : decode cX12_isBetter 5 = .ok (.ifCond .lt 8, 3) := by decide +kernel
theorem dX12_isBetter_8 : decode cX12_isBetter 8 = .ok (.iload_n 0, 1) := by decide +kernel
theorem dX12_isBetter_9 : decode cX12_isBetter 9 = .ok (.iload_n 1, 1) := by decide +kernel
theorem dX12_isBetter_10 : decode cX12_isBetter 10 = .ok (.if_icmp .ge 7, 3) := by decide +kernel
theorem dX12_isBetter_13 : decode cX12_isBetter 13 = .ok (.iconst 1, 1) := by decide +kernel
theorem dX12_isBetter_14 : decode cX12_isBetter 14 = .ok (.goto 21, 3) := by decide +kernel
theorem dX12_isBetter_17 : decode cX12_isBetter 17 = .ok (.iconst 0, 1) := by decide +kernel
theorem dX12_isBetter_18 : decode cX12_isBetter 18 = .ok (.goto 17, 3) := by decide +kernel
theorem dX12_isBetter_21 : decode cX12_isBetter 21 = .ok (.iload_n 1, 1) := by decide +kernel
theorem dX12_isBetter_22 : decode cX12_isBetter 22 = .ok (.ifCond .ge 12, 3) := by decide +kernel
theorem dX12_isBetter_25 : decode cX12_isBetter 25 = .ok (.iload_n 0, 1) := by decide +kernel
theorem dX12_isBetter_26 : decode cX12_isBetter 26 = .ok (.iload_n 1, 1) := by decide +kernel
theorem dX12_isBetter_27 : decode cX12_isBetter 27 = .ok (.if_icmp .ge 7, 3) := by decide +kernel
theorem dX12_isBetter_30 : decode cX12_isBetter 30 = .ok (.iconst 1, 1) := by decide +kernel
theorem dX12_isBetter_31 : decode cX12_isBetter 31 = .ok (.goto 4, 3) := by decide +kernel
theorem dX12_isBetter_34 : decode cX12_isBetter 34 = .ok (.iconst 0, 1) := by decide +kernel
theorem dX12_isBetter_35 : decode cX12_isBetter 35 = .ok (.ireturn, 1) := by decide +kernel
theorem dX12_outcomeOf_0 : decode cX12_outcomeOf 0 = .ok (.iload_n 1, 1) := by decide +kernel
theorem dX12_outcomeOf_1 : decode cX12_outcomeOf 1 = .ok (.iload_n 2, 1) := by decide +kernel
theorem dX12_outcomeOf_2 : decode cX12_outcomeOf 2 = .ok (.iload_n 3, 1) := by decide +kernel
theorem dX12_outcomeOf_3 : decode cX12_outcomeOf 3 = .ok (.iload 4, 2) := by decide +kernel
theorem dX12_outcomeOf_5 : decode cX12_outcomeOf 5 = .ok (.iload 5, 2) := by decide +kernel
theorem dX12_outcomeOf_7 : decode cX12_outcomeOf 7 = .ok (.invokestatic 356, 3) := by decide +kernel
theorem dX12_outcomeOf_10 : decode cX12_outcomeOf 10 = .ok (.istore 6, 2) := by decide +kernel
theorem dX12_outcomeOf_12 : decode cX12_outcomeOf 12 = .ok (.aload_n 0, 1) := by decide +kernel
theorem dX12_outcomeOf_13 : decode cX12_outcomeOf 13 = .ok (.getfield 69, 3) := by decide +kernel
theorem dX12_outcomeOf_16 : decode cX12_outcomeOf 16 = .ok (.iload 6, 2) := by decide +kernel
theorem dX12_outcomeOf_18 : decode cX12_outcomeOf 18 = .ok (.iaload, 1) := by decide +kernel
theorem dX12_outcomeOf_19 : decode cX12_outcomeOf 19 = .ok (.ifCond .eq 11, 3) := by decide +kernel
theorem dX12_outcomeOf_22 : decode cX12_outcomeOf 22 = .ok (.aload_n 0, 1) := by decide +kernel
theorem dX12_outcomeOf_23 : decode cX12_outcomeOf 23 = .ok (.getfield 69, 3) := by decide +kernel
theorem dX12_outcomeOf_26 : decode cX12_outcomeOf 26 = .ok (.iload 6, 2) := by decide +kernel
theorem dX12_outcomeOf_28 : decode cX12_outcomeOf 28 = .ok (.iaload, 1) := by decide +kernel
theorem dX12_outcomeOf_29 : decode cX12_outcomeOf 29 = .ok (.ireturn, 1) := by decide +kernel
theorem dX12_outcomeOf_30 : decode cX12_outcomeOf 30 = .ok (.iload_n 2, 1) := by decide +kernel
theorem dX12_outcomeOf_31 : decode cX12_outcomeOf 31 = .ok (.iconst 1, 1) := by decide +kernel
theorem dX12_outcomeOf_32 : decode cX12_outcomeOf 32 = .ok (.if_icmp .ne 7, 3) := by decide +kernel
theorem dX12_outcomeOf_35 : decode cX12_outcomeOf 35 = .ok (.iconst (-1), 1) := by decide +kernel
theorem dX12_outcomeOf_36 : decode cX12_outcomeOf 36 = .ok (.goto 27, 3) := by decide +kernel
theorem dX12_outcomeOf_39 : decode cX12_outcomeOf 39 = .ok (.aload_n 0, 1) := by decide +kernel
theorem dX12_outcomeOf_40 : decode cX12_outcomeOf 40 = .ok (.iconst 1, 1) := by decide +kernel
theorem dX12_outcomeOf_41 : decode cX12_outcomeOf 41 = .ok (.iload_n 1, 1) := by decide +kernel
theorem dX12_outcomeOf_42 : decode cX12_outcomeOf 42 = .ok (.isub, 1) := by decide +kernel
theorem dX12_outcomeOf_43 : decode cX12_outcomeOf 43 = .ok (.iload 4, 2) := by decide +kernel
theorem dX12_outcomeOf_45 : decode cX12_outcomeOf 45 = .ok (.iload 5, 2) := by decide +kernel
theorem dX12_outcomeOf_47 : decode cX12_outcomeOf 47 = .ok (.iload_n 2, 1) := by decide +kernel
theorem dX12_outcomeOf_48 : decode cX12_outcomeOf 48 = .ok (.iconst 1, 1) := by decide +kernel
theorem dX12_outcomeOf_49 : decode cX12_outcomeOf 49 = .ok (.isub, 1) := by decide +kernel
theorem dX12_outcomeOf_50 : decode cX12_outcomeOf 50 = .ok (.aload_n 0, 1) := by decide +kernel
theorem dX12_outcomeOf_51 : decode cX12_outcomeOf 51 = .ok (.iload_n 2, 1) := by decide +kernel
theorem dX12_outcomeOf_52 : decode cX12_outcomeOf 52 = .ok (.iconst 1, 1) := by decide +kernel
theorem dX12_outcomeOf_53 : decode cX12_outcomeOf 53 = .ok (.isub, 1) := by decide +kernel
theorem dX12_outcomeOf_54 : decode cX12_outcomeOf 54 = .ok (.invokevirtual 275, 3) := by decide +kernel
theorem dX12_outcomeOf_57 : decode cX12_outcomeOf 57 = .ok (.invokevirtual 360, 3) := by decide +kernel
theorem dX12_outcomeOf_60 : decode cX12_outcomeOf 60 = .ok (.invokestatic 363, 3) := by decide +kernel
theorem dX12_outcomeOf_63 : decode cX12_outcomeOf 63 = .ok (.istore 7, 2) := by decide +kernel
theorem dX12_outcomeOf_65 : decode cX12_outcomeOf 65 = .ok (.aload_n 0, 1) := by decide +kernel
theorem dX12_outcomeOf_66 : decode cX12_outcomeOf 66 = .ok (.iconst 0, 1) := by decide +kernel
theorem dX12_outcomeOf_67 : decode cX12_outcomeOf 67 = .ok (.putfield 366, 3) := by decide +kernel
theorem dX12_outcomeOf_70 : decode cX12_outcomeOf 70 = .ok (.iconst 0, 1) := by decide +kernel
theorem dX12_outcomeOf_71 : decode cX12_outcomeOf 71 = .ok (.istore 8, 2) := by decide +kernel
theorem dX12_outcomeOf_73 : decode cX12_outcomeOf 73 = .ok (.iload_n 3, 1) := by decide +kernel
theorem dX12_outcomeOf_74 : decode cX12_outcomeOf 74 = .ok (.ifCond .le 105, 3) := by decide +kernel
theorem dX12_outcomeOf_77 : decode cX12_outcomeOf 77 = .ok (.aload_n 0, 1) := by decide +kernel
theorem dX12_outcomeOf_78 : decode cX12_outcomeOf 78 = .ok (.iconst 1, 1) := by decide +kernel
theorem dX12_outcomeOf_79 : decode cX12_outcomeOf 79 = .ok (.iload_n 1, 1) := by decide +kernel
theorem dX12_outcomeOf_80 : decode cX12_outcomeOf 80 = .ok (.isub, 1) := by decide +kernel
theorem dX12_outcomeOf_81 : decode cX12_outcomeOf 81 = .ok (.iload 4, 2) := by decide +kernel
theorem dX12_outcomeOf_83 : decode cX12_outcomeOf 83 = .ok (.iload 5, 2) := by decide +kernel
theorem dX12_outcomeOf_85 : decode cX12_outcomeOf 85 = .ok (.iload_n 2, 1) := by decide +kernel
theorem dX12_outcomeOf_86 : decode cX12_outcomeOf 86 = .ok (.iload_n 3, 1) := by decide +kernel
theorem dX12_outcomeOf_87 : decode cX12_outcomeOf 87 = .ok (.iconst 1, 1) := by decide +kernel
theorem dX12_outcomeOf_88 : decode cX12_outcomeOf 88 = .ok (.isub, 1) := by decide +kernel
theorem dX12_outcomeOf_89 : decode cX12_outcomeOf 89 = .ok (.invokevirtual 360, 3) := by decide +kernel
theorem dX12_outcomeOf_92 : decode cX12_outcomeOf 92 = .ok (.invokestatic 363, 3) := by decide +kernel
theorem dX12_outcomeOf_95 : decode cX12_outcomeOf 95 = .ok (.istore 9, 2) := by decide +kernel
theorem dX12_outcomeOf_97 : decode cX12_outcomeOf 97 = .ok (.iload 9, 2) := by decide +kernel
theorem dX12_outcomeOf_99 : decode cX12_outcomeOf 99 = .ok (.iload 7, 2) := by decide +kernel
theorem dX12_outcomeOf_101 : decode cX12_outcomeOf 101 = .ok (.invokestatic 369, 3) := by decide +kernel
theorem dX12_outcomeOf_104 : decode cX12_outcomeOf 104 = .ok (.ifCond .eq 10, 3) := by decide +kernel
theorem dX12_outcomeOf_107 : decode cX12_outcomeOf 107 = .ok (.iload 9, 2) := by decide +kernel
theorem dX12_outcomeOf_109 : decode cX12_outcomeOf 109 = .ok (.istore 7, 2) := by decide +kernel
theorem dX12_outcomeOf_111 : decode cX12_outcomeOf 111 = .ok (.iconst 1, 1) := by decide +kernel
theorem dX12_outcomeOf_112 : decode cX12_outcomeOf 112 = .ok (.istore 8, 2) := by decide +kernel
theorem dX12_outcomeOf_114 : decode cX12_outcomeOf 114 = .ok (.iconst 0, 1) := by decide +kernel
theorem dX12_outcomeOf_115 : decode cX12_outcomeOf 115 = .ok (.iload 4, 2) := by decide +kernel
theorem dX12_outcomeOf_117 : decode cX12_outcomeOf 117 = .ok (.aload_n 0, 1) := by decide +kernel
theorem dX12_outcomeOf_118 : decode cX12_outcomeOf 118 = .ok (.getfield 72, 3) := by decide +kernel
theorem dX12_outcomeOf_121 : decode cX12_outcomeOf 121 = .ok (.iload_n 1, 1) := by decide +kernel
theorem dX12_outcomeOf_122 : decode cX12_outcomeOf 122 = .ok (.iaload, 1) := by decide +kernel
theorem dX12_outcomeOf_123 : decode cX12_outcomeOf 123 = .ok (.isub, 1) := by decide +kernel
theorem dX12_outcomeOf_124 : decode cX12_outcomeOf 124 = .ok (.invokestatic 327, 3) := by decide +kernel
theorem dX12_outcomeOf_127 : decode cX12_outcomeOf 127 = .ok (.istore 10, 2) := by decide +kernel
theorem dX12_outcomeOf_129 : decode cX12_outcomeOf 129 = .ok (.iload 10, 2) := by decide +kernel
theorem dX12_outcomeOf_131 : decode cX12_outcomeOf 131 = .ok (.ifCond .ne 7, 3) := by decide +kernel
theorem dX12_outcomeOf_134 : decode cX12_outcomeOf 134 = .ok (.iconst 1, 1) := by decide +kernel
theorem dX12_outcomeOf_135 : decode cX12_outcomeOf 135 = .ok (.goto 25, 3) := by decide +kernel
theorem dX12_outcomeOf_138 : decode cX12_outcomeOf 138 = .ok (.aload_n 0, 1) := by decide +kernel
theorem dX12_outcomeOf_139 : decode cX12_outcomeOf 139 = .ok (.iconst 1, 1) := by decide +kernel
theorem dX12_outcomeOf_140 : decode cX12_outcomeOf 140 = .ok (.iload_n 1, 1) := by decide +kernel
theorem dX12_outcomeOf_141 : decode cX12_outcomeOf 141 = .ok (.isub, 1) := by decide +kernel
theorem dX12_outcomeOf_142 : decode cX12_outcomeOf 142 = .ok (.iload 10, 2) := by decide +kernel
theorem dX12_outcomeOf_144 : decode cX12_outcomeOf 144 = .ok (.aload_n 0, 1) := by decide +kernel
theorem dX12_outcomeOf_145 : decode cX12_outcomeOf 145 = .ok (.iload 10, 2) := by decide +kernel
theorem dX12_outcomeOf_147 : decode cX12_outcomeOf 147 = .ok (.invokevirtual 275, 3) := by decide +kernel
theorem dX12_outcomeOf_150 : decode cX12_outcomeOf 150 = .ok (.iload_n 2, 1) := by decide +kernel
theorem dX12_outcomeOf_151 : decode cX12_outcomeOf 151 = .ok (.iload_n 3, 1) := by decide +kernel
theorem dX12_outcomeOf_152 : decode cX12_outcomeOf 152 = .ok (.iconst 1, 1) := by decide +kernel
theorem dX12_outcomeOf_153 : decode cX12_outcomeOf 153 = .ok (.isub, 1) := by decide +kernel
theorem dX12_outcomeOf_154 : decode cX12_outcomeOf 154 = .ok (.invokevirtual 360, 3) := by decide +kernel
theorem dX12_outcomeOf_157 : decode cX12_outcomeOf 157 = .ok (.invokestatic 363, 3) := by decide +kernel
theorem dX12_outcomeOf_160 : decode cX12_outcomeOf 160 = .ok (.istore 11, 2) := by decide +kernel
theorem dX12_outcomeOf_162 : decode cX12_outcomeOf 162 = .ok (.iload 11, 2) := by decide +kernel
theorem dX12_outcomeOf_164 : decode cX12_outcomeOf 164 = .ok (.iload 7, 2) := by decide +kernel
theorem dX12_outcomeOf_166 : decode cX12_outcomeOf 166 = .ok (.invokestatic 369, 3) := by decide +kernel
theorem dX12_outcomeOf_169 : decode cX12_outcomeOf 169 = .ok (.ifCond .eq 10, 3) := by decide +kernel
theorem dX12_outcomeOf_172 : decode cX12_outcomeOf 172 = .ok (.iload 11, 2) := by decide +kernel
theorem dX12_outcomeOf_174 : decode cX12_outcomeOf 174 = .ok (.istore 7, 2) := by decide +kernel
theorem dX12_outcomeOf_176 : decode cX12_outcomeOf 176 = .ok (.iconst 2, 1) := by decide +kernel
theorem dX12_outcomeOf_177 : decode cX12_outcomeOf 177 = .ok (.istore 8, 2) := by decide +kernel
theorem dX12_outcomeOf_179 : decode cX12_outcomeOf 179 = .ok (.aload_n 0, 1) := by decide +kernel
theorem dX12_outcomeOf_180 : decode cX12_outcomeOf 180 = .ok (.getfield 69, 3) := by decide +kernel
theorem dX12_outcomeOf_183 : decode cX12_outcomeOf 183 = .ok (.iload 6, 2) := by decide +kernel
theorem dX12_outcomeOf_185 : decode cX12_outcomeOf 185 = .ok (.iload 7, 2) := by decide +kernel
theorem dX12_outcomeOf_187 : decode cX12_outcomeOf 187 = .ok (.iastore, 1) := by decide +kernel
theorem dX12_outcomeOf_188 : decode cX12_outcomeOf 188 = .ok (.aload_n 0, 1) := by decide +kernel
theorem dX12_outcomeOf_189 : decode cX12_outcomeOf 189 = .ok (.iload 8, 2) := by decide +kernel
theorem dX12_outcomeOf_191 : decode cX12_outcomeOf 191 = .ok (.putfield 366, 3) := by decide +kernel
theorem dX12_outcomeOf_194 : decode cX12_outcomeOf 194 = .ok (.iload 7, 2) := by decide +kernel
theorem dX12_outcomeOf_196 : decode cX12_outcomeOf 196 = .ok (.ireturn, 1) := by decide +kernel
theorem dX12_duelWith_0 : decode cX12_duelWith 0 = .ok (.iconst 0, 1) := by decide +kernel
theorem dX12_duelWith_1 : decode cX12_duelWith 1 = .ok (.istore 4, 2) := by decide +kernel
theorem dX12_duelWith_3 : decode cX12_duelWith 3 = .ok (.iload 4, 2) := by decide +kernel
theorem dX12_duelWith_5 : decode cX12_duelWith 5 = .ok (.aload_n 0, 1) := by decide +kernel
theorem dX12_duelWith_6 : decode cX12_duelWith 6 = .ok (.getfield 69, 3) := by decide +kernel
theorem dX12_duelWith_9 : decode cX12_duelWith 9 = .ok (.arraylength, 1) := by decide +kernel
theorem dX12_duelWith_10 : decode cX12_duelWith 10 = .ok (.if_icmp .ge 17, 3) := by decide +kernel
theorem dX12_duelWith_13 : decode cX12_duelWith 13 = .ok (.aload_n 0, 1) := by decide +kernel
theorem dX12_duelWith_14 : decode cX12_duelWith 14 = .ok (.getfield 69, 3) := by decide +kernel
theorem dX12_duelWith_17 : decode cX12_duelWith 17 = .ok (.iload 4, 2) := by decide +kernel
theorem dX12_duelWith_19 : decode cX12_duelWith 19 = .ok (.iconst 0, 1) := by decide +kernel
theorem dX12_duelWith_20 : decode cX12_duelWith 20 = .ok (.iastore, 1) := by decide +kernel
theorem dX12_duelWith_21 : decode cX12_duelWith 21 = .ok (.iinc 4 1, 3) := by decide +kernel
theorem dX12_duelWith_24 : decode cX12_duelWith 24 = .ok (.goto (-21), 3) := by decide +kernel
theorem dX12_duelWith_27 : decode cX12_duelWith 27 = .ok (.aload_n 0, 1) := by decide +kernel
theorem dX12_duelWith_28 : decode cX12_duelWith 28 = .ok (.getfield 72, 3) := by decide +kernel
theorem dX12_duelWith_31 : decode cX12_duelWith 31 = .ok (.iconst 0, 1) := by decide +kernel
theorem dX12_duelWith_32 : decode cX12_duelWith 32 = .ok (.aload_n 0, 1) := by decide +kernel
theorem dX12_duelWith_33 : decode cX12_duelWith 33 = .ok (.getfield 49, 3) := by decide +kernel
theorem dX12_duelWith_36 : decode cX12_duelWith 36 = .ok (.bipush 6, 2) := by decide +kernel
theorem dX12_duelWith_38 : decode cX12_duelWith 38 = .ok (.iload_n 1, 1) := by decide +kernel
theorem dX12_duelWith_39 : decode cX12_duelWith 39 = .ok (.imul, 1) := by decide +kernel
theorem dX12_duelWith_40 : decode cX12_duelWith 40 = .ok (.iconst 2, 1) := by decide +kernel
theorem dX12_duelWith_41 : decode cX12_duelWith 41 = .ok (.iadd, 1) := by decide +kernel
theorem dX12_duelWith_42 : decode cX12_duelWith 42 = .ok (.iaload, 1) := by decide +kernel
theorem dX12_duelWith_43 : decode cX12_duelWith 43 = .ok (.iastore, 1) := by decide +kernel
theorem dX12_duelWith_44 : decode cX12_duelWith 44 = .ok (.aload_n 0, 1) := by decide +kernel
theorem dX12_duelWith_45 : decode cX12_duelWith 45 = .ok (.getfield 72, 3) := by decide +kernel
theorem dX12_duelWith_48 : decode cX12_duelWith 48 = .ok (.iconst 1, 1) := by decide +kernel
theorem dX12_duelWith_49 : decode cX12_duelWith 49 = .ok (.aload_n 0, 1) := by decide +kernel
theorem dX12_duelWith_50 : decode cX12_duelWith 50 = .ok (.getfield 49, 3) := by decide +kernel
theorem dX12_duelWith_53 : decode cX12_duelWith 53 = .ok (.bipush 6, 2) := by decide +kernel
theorem dX12_duelWith_55 : decode cX12_duelWith 55 = .ok (.iload_n 2, 1) := by decide +kernel
theorem dX12_duelWith_56 : decode cX12_duelWith 56 = .ok (.imul, 1) := by decide +kernel
theorem dX12_duelWith_57 : decode cX12_duelWith 57 = .ok (.iconst 2, 1) := by decide +kernel
theorem dX12_duelWith_58 : decode cX12_duelWith 58 = .ok (.iadd, 1) := by decide +kernel
theorem dX12_duelWith_59 : decode cX12_duelWith 59 = .ok (.iaload, 1) := by decide +kernel
theorem dX12_duelWith_60 : decode cX12_duelWith 60 = .ok (.iastore, 1) := by decide +kernel
theorem dX12_duelWith_61 : decode cX12_duelWith 61 = .ok (.aload_n 0, 1) := by decide +kernel
theorem dX12_duelWith_62 : decode cX12_duelWith 62 = .ok (.iconst 0, 1) := by decide +kernel
theorem dX12_duelWith_63 : decode cX12_duelWith 63 = .ok (.aload_n 0, 1) := by decide +kernel
theorem dX12_duelWith_64 : decode cX12_duelWith 64 = .ok (.getfield 58, 3) := by decide +kernel
theorem dX12_duelWith_67 : decode cX12_duelWith 67 = .ok (.iconst 0, 1) := by decide +kernel
theorem dX12_duelWith_68 : decode cX12_duelWith 68 = .ok (.iload_n 1, 1) := by decide +kernel
theorem dX12_duelWith_69 : decode cX12_duelWith 69 = .ok (.iadd, 1) := by decide +kernel
theorem dX12_duelWith_70 : decode cX12_duelWith 70 = .ok (.iaload, 1) := by decide +kernel
theorem dX12_duelWith_71 : decode cX12_duelWith 71 = .ok (.aload_n 0, 1) := by decide +kernel
theorem dX12_duelWith_72 : decode cX12_duelWith 72 = .ok (.getfield 58, 3) := by decide +kernel
theorem dX12_duelWith_75 : decode cX12_duelWith 75 = .ok (.bipush 8, 2) := by decide +kernel
theorem dX12_duelWith_77 : decode cX12_duelWith 77 = .ok (.iload_n 1, 1) := by decide +kernel
theorem dX12_duelWith_78 : decode cX12_duelWith 78 = .ok (.iadd, 1) := by decide +kernel
theorem dX12_duelWith_79 : decode cX12_duelWith 79 = .ok (.iaload, 1) := by decide +kernel
theorem dX12_duelWith_80 : decode cX12_duelWith 80 = .ok (.iload_n 3, 1) := by decide +kernel
theorem dX12_duelWith_81 : decode cX12_duelWith 81 = .ok (.isub, 1) := by decide +kernel
theorem dX12_duelWith_82 : decode cX12_duelWith 82 = .ok (.aload_n 0, 1) := by decide +kernel
theorem dX12_duelWith_83 : decode cX12_duelWith 83 = .ok (.getfield 58, 3) := by decide +kernel
theorem dX12_duelWith_86 : decode cX12_duelWith 86 = .ok (.iconst 0, 1) := by decide +kernel
theorem dX12_duelWith_87 : decode cX12_duelWith 87 = .ok (.iload_n 2, 1) := by decide +kernel
theorem dX12_duelWith_88 : decode cX12_duelWith 88 = .ok (.iadd, 1) := by decide +kernel
theorem dX12_duelWith_89 : decode cX12_duelWith 89 = .ok (.iaload, 1) := by decide +kernel
theorem dX12_duelWith_90 : decode cX12_duelWith 90 = .ok (.aload_n 0, 1) := by decide +kernel
theorem dX12_duelWith_91 : decode cX12_duelWith 91 = .ok (.getfield 58, 3) := by decide +kernel
theorem dX12_duelWith_94 : decode cX12_duelWith 94 = .ok (.bipush 8, 2) := by decide +kernel
theorem dX12_duelWith_96 : decode cX12_duelWith 96 = .ok (.iload_n 2, 1) := by decide +kernel
theorem dX12_duelWith_97 : decode cX12_duelWith 97 = .ok (.iadd, 1) := by decide +kernel
theorem dX12_duelWith_98 : decode cX12_duelWith 98 = .ok (.iaload, 1) := by decide +kernel
theorem dX12_duelWith_99 : decode cX12_duelWith 99 = .ok (.iload_n 3, 1) := by decide +kernel
theorem dX12_duelWith_100 : decode cX12_duelWith 100 = .ok (.isub, 1) := by decide +kernel
theorem dX12_duelWith_101 : decode cX12_duelWith 101 = .ok (.invokevirtual 360, 3) := by decide +kernel
theorem dX12_duelWith_104 : decode cX12_duelWith 104 = .ok (.ireturn, 1) := by decide +kernel
theorem dX12_canDuel_0 : decode cX12_canDuel 0 = .ok (.aload_n 0, 1) := by decide +kernel
theorem dX12_canDuel_1 : decode cX12_canDuel 1 = .ok (.iload_n 1, 1) := by decide +kernel
theorem dX12_canDuel_2 : decode cX12_canDuel 2 = .ok (.invokevirtual 299, 3) := by decide +kernel
theorem dX12_canDuel_5 : decode cX12_canDuel 5 = .ok (.ifCond .eq 42, 3) := by decide +kernel
theorem dX12_canDuel_8 : decode cX12_canDuel 8 = .ok (.aload_n 0, 1) := by decide +kernel
theorem dX12_canDuel_9 : decode cX12_canDuel 9 = .ok (.iload_n 2, 1) := by decide +kernel
theorem dX12_canDuel_10 : decode cX12_canDuel 10 = .ok (.invokevirtual 299, 3) := by decide +kernel
theorem dX12_canDuel_13 : decode cX12_canDuel 13 = .ok (.ifCond .eq 34, 3) := by decide +kernel
theorem dX12_canDuel_16 : decode cX12_canDuel 16 = .ok (.iload_n 1, 1) := by decide +kernel
theorem dX12_canDuel_17 : decode cX12_canDuel 17 = .ok (.iload_n 2, 1) := by decide +kernel
theorem dX12_canDuel_18 : decode cX12_canDuel 18 = .ok (.if_icmp .eq 29, 3) := by decide +kernel
theorem dX12_canDuel_21 : decode cX12_canDuel 21 = .ok (.aload_n 0, 1) := by decide +kernel
theorem dX12_canDuel_22 : decode cX12_canDuel 22 = .ok (.getfield 58, 3) := by decide +kernel
theorem dX12_canDuel_25 : decode cX12_canDuel 25 = .ok (.iconst 0, 1) := by decide +kernel
theorem dX12_canDuel_26 : decode cX12_canDuel 26 = .ok (.iload_n 1, 1) := by decide +kernel
theorem dX12_canDuel_27 : decode cX12_canDuel 27 = .ok (.iadd, 1) := by decide +kernel
theorem dX12_canDuel_28 : decode cX12_canDuel 28 = .ok (.iaload, 1) := by decide +kernel
theorem dX12_canDuel_29 : decode cX12_canDuel 29 = .ok (.ifCond .le 18, 3) := by decide +kernel
theorem dX12_canDuel_32 : decode cX12_canDuel 32 = .ok (.aload_n 0, 1) := by decide +kernel
theorem dX12_canDuel_33 : decode cX12_canDuel 33 = .ok (.getfield 58, 3) := by decide +kernel
theorem dX12_canDuel_36 : decode cX12_canDuel 36 = .ok (.iconst 0, 1) := by decide +kernel
theorem dX12_canDuel_37 : decode cX12_canDuel 37 = .ok (.iload_n 2, 1) := by decide +kernel
theorem dX12_canDuel_38 : decode cX12_canDuel 38 = .ok (.iadd, 1) := by decide +kernel
theorem dX12_canDuel_39 : decode cX12_canDuel 39 = .ok (.iaload, 1) := by decide +kernel
theorem dX12_canDuel_40 : decode cX12_canDuel 40 = .ok (.ifCond .le 7, 3) := by decide +kernel
theorem dX12_canDuel_43 : decode cX12_canDuel 43 = .ok (.iconst 1, 1) := by decide +kernel
theorem dX12_canDuel_44 : decode cX12_canDuel 44 = .ok (.goto 4, 3) := by decide +kernel
theorem dX12_canDuel_47 : decode cX12_canDuel 47 = .ok (.iconst 0, 1) := by decide +kernel
theorem dX12_canDuel_48 : decode cX12_canDuel 48 = .ok (.ireturn, 1) := by decide +kernel
theorem dX12_duel_0 : decode cX12_duel 0 = .ok (.aload_n 0, 1) := by decide +kernel
theorem dX12_duel_1 : decode cX12_duel 1 = .ok (.iload_n 1, 1) := by decide +kernel
theorem dX12_duel_2 : decode cX12_duel 2 = .ok (.iload_n 2, 1) := by decide +kernel
theorem dX12_duel_3 : decode cX12_duel 3 = .ok (.invokevirtual 372, 3) := by decide +kernel
theorem dX12_duel_6 : decode cX12_duel 6 = .ok (.ifCond .eq 12, 3) := by decide +kernel
theorem dX12_duel_9 : decode cX12_duel 9 = .ok (.iload_n 3, 1) := by decide +kernel
theorem dX12_duel_10 : decode cX12_duel 10 = .ok (.iconst 0, 1) := by decide +kernel
theorem dX12_duel_11 : decode cX12_duel 11 = .ok (.iconst 2, 1) := by decide +kernel
theorem dX12_duel_12 : decode cX12_duel 12 = .ok (.invokestatic 206, 3) := by decide +kernel
theorem dX12_duel_15 : decode cX12_duel 15 = .ok (.ifCond .ne 5, 3) := by decide +kernel
theorem dX12_duel_18 : decode cX12_duel 18 = .ok (.iconst (-1), 1) := by decide +kernel
theorem dX12_duel_19 : decode cX12_duel 19 = .ok (.ireturn, 1) := by decide +kernel
theorem dX12_duel_20 : decode cX12_duel 20 = .ok (.aload_n 0, 1) := by decide +kernel
theorem dX12_duel_21 : decode cX12_duel 21 = .ok (.iload_n 1, 1) := by decide +kernel
theorem dX12_duel_22 : decode cX12_duel 22 = .ok (.iload_n 2, 1) := by decide +kernel
theorem dX12_duel_23 : decode cX12_duel 23 = .ok (.iconst 0, 1) := by decide +kernel
theorem dX12_duel_24 : decode cX12_duel 24 = .ok (.invokevirtual 375, 3) := by decide +kernel
theorem dX12_duel_27 : decode cX12_duel 27 = .ok (.istore 4, 2) := by decide +kernel
theorem dX12_duel_29 : decode cX12_duel 29 = .ok (.iload_n 3, 1) := by decide +kernel
theorem dX12_duel_30 : decode cX12_duel 30 = .ok (.ifCond .ne 16, 3) := by decide +kernel
theorem dX12_duel_33 : decode cX12_duel 33 = .ok (.iload 4, 2) := by decide +kernel
theorem dX12_duel_35 : decode cX12_duel 35 = .ok (.ifCond .le 7, 3) := by decide +kernel
theorem dX12_duel_38 : decode cX12_duel 38 = .ok (.iconst 1, 1) := by decide +kernel
theorem dX12_duel_39 : decode cX12_duel 39 = .ok (.goto 24, 3) := by decide +kernel
theorem dX12_duel_42 : decode cX12_duel 42 = .ok (.iconst 0, 1) := by decide +kernel
theorem dX12_duel_43 : decode cX12_duel 43 = .ok (.goto 20, 3) := by decide +kernel
theorem dX12_duel_46 : decode cX12_duel 46 = .ok (.iload_n 3, 1) := by decide +kernel
theorem dX12_duel_47 : decode cX12_duel 47 = .ok (.iconst 1, 1) := by decide +kernel
theorem dX12_duel_48 : decode cX12_duel 48 = .ok (.if_icmp .ne 11, 3) := by decide +kernel
theorem dX12_duel_51 : decode cX12_duel 51 = .ok (.iload 4, 2) := by decide +kernel
theorem dX12_duel_53 : decode cX12_duel 53 = .ok (.invokestatic 378, 3) := by decide +kernel
theorem dX12_duel_56 : decode cX12_duel 56 = .ok (.goto 7, 3) := by decide +kernel
theorem dX12_duel_59 : decode cX12_duel 59 = .ok (.aload_n 0, 1) := by decide +kernel
theorem dX12_duel_60 : decode cX12_duel 60 = .ok (.getfield 366, 3) := by decide +kernel
theorem dX12_duel_63 : decode cX12_duel 63 = .ok (.ireturn, 1) := by decide +kernel
theorem dX12_wins_0 : decode cX12_wins 0 = .ok (.iconst 0, 1) := by decide +kernel
theorem dX12_wins_1 : decode cX12_wins 1 = .ok (.istore_n 2, 1) := by decide +kernel
theorem dX12_wins_2 : decode cX12_wins 2 = .ok (.iconst 0, 1) := by decide +kernel
theorem dX12_wins_3 : decode cX12_wins 3 = .ok (.istore_n 3, 1) := by decide +kernel
theorem dX12_wins_4 : decode cX12_wins 4 = .ok (.iload_n 3, 1) := by decide +kernel
theorem dX12_wins_5 : decode cX12_wins 5 = .ok (.aload_n 0, 1) := by decide +kernel
theorem dX12_wins_6 : decode cX12_wins 6 = .ok (.getfield 250, 3) := by decide +kernel
theorem dX12_wins_9 : decode cX12_wins 9 = .ok (.if_icmp .ge 49, 3) := by decide +kernel
theorem dX12_wins_12 : decode cX12_wins 12 = .ok (.iload_n 2, 1) := by decide +kernel
theorem dX12_wins_13 : decode cX12_wins 13 = .ok (.aload_n 0, 1) := by decide +kernel
theorem dX12_wins_14 : decode cX12_wins 14 = .ok (.iload_n 3, 1) := by decide +kernel
theorem dX12_wins_15 : decode cX12_wins 15 = .ok (.invokevirtual 278, 3) := by decide +kernel
theorem dX12_wins_18 : decode cX12_wins 18 = .ok (.aload_n 0, 1) := by decide +kernel
theorem dX12_wins_19 : decode cX12_wins 19 = .ok (.iload_n 1, 1) := by decide +kernel
theorem dX12_wins_20 : decode cX12_wins 20 = .ok (.invokevirtual 278, 3) := by decide +kernel
theorem dX12_wins_23 : decode cX12_wins 23 = .ok (.if_icmp .eq 26, 3) := by decide +kernel
theorem dX12_wins_26 : decode cX12_wins 26 = .ok (.aload_n 0, 1) := by decide +kernel
theorem dX12_wins_27 : decode cX12_wins 27 = .ok (.iload_n 1, 1) := by decide +kernel
theorem dX12_wins_28 : decode cX12_wins 28 = .ok (.iload_n 3, 1) := by decide +kernel
theorem dX12_wins_29 : decode cX12_wins 29 = .ok (.invokevirtual 372, 3) := by decide +kernel
theorem dX12_wins_32 : decode cX12_wins 32 = .ok (.ifCond .eq 17, 3) := by decide +kernel
theorem dX12_wins_35 : decode cX12_wins 35 = .ok (.aload_n 0, 1) := by decide +kernel
theorem dX12_wins_36 : decode cX12_wins 36 = .ok (.iload_n 1, 1) := by decide +kernel
theorem dX12_wins_37 : decode cX12_wins 37 = .ok (.iload_n 3, 1) := by decide +kernel
theorem dX12_wins_38 : decode cX12_wins 38 = .ok (.iconst 0, 1) := by decide +kernel
theorem dX12_wins_39 : decode cX12_wins 39 = .ok (.invokevirtual 375, 3) := by decide +kernel
theorem dX12_wins_42 : decode cX12_wins 42 = .ok (.ifCond .le 7, 3) := by decide +kernel
theorem dX12_wins_45 : decode cX12_wins 45 = .ok (.iconst 1, 1) := by decide +kernel
theorem dX12_wins_46 : decode cX12_wins 46 = .ok (.goto 4, 3) := by decide +kernel
theorem dX12_wins_49 : decode cX12_wins 49 = .ok (.iconst 0, 1) := by decide +kernel
theorem dX12_wins_50 : decode cX12_wins 50 = .ok (.iadd, 1) := by decide +kernel
theorem dX12_wins_51 : decode cX12_wins 51 = .ok (.istore_n 2, 1) := by decide +kernel
theorem dX12_wins_52 : decode cX12_wins 52 = .ok (.iinc 3 1, 3) := by decide +kernel
theorem dX12_wins_55 : decode cX12_wins 55 = .ok (.goto (-51), 3) := by decide +kernel
theorem dX12_wins_58 : decode cX12_wins 58 = .ok (.iload_n 2, 1) := by decide +kernel
theorem dX12_wins_59 : decode cX12_wins 59 = .ok (.ireturn, 1) := by decide +kernel
theorem dX12_foes_0 : decode cX12_foes 0 = .ok (.iconst 0, 1) := by decide +kernel
theorem dX12_foes_1 : decode cX12_foes 1 = .ok (.istore_n 2, 1) := by decide +kernel
theorem dX12_foes_2 : decode cX12_foes 2 = .ok (.iconst 0, 1) := by decide +kernel
theorem dX12_foes_3 : decode cX12_foes 3 = .ok (.istore_n 3, 1) := by decide +kernel
theorem dX12_foes_4 : decode cX12_foes 4 = .ok (.iload_n 3, 1) := by decide +kernel
theorem dX12_foes_5 : decode cX12_foes 5 = .ok (.aload_n 0, 1) := by decide +kernel
theorem dX12_foes_6 : decode cX12_foes 6 = .ok (.getfield 250, 3) := by decide +kernel
theorem dX12_foes_9 : decode cX12_foes 9 = .ok (.if_icmp .ge 37, 3) := by decide +kernel
theorem dX12_foes_12 : decode cX12_foes 12 = .ok (.iload_n 2, 1) := by decide +kernel
theorem dX12_foes_13 : decode cX12_foes 13 = .ok (.aload_n 0, 1) := by decide +kernel
theorem dX12_foes_14 : decode cX12_foes 14 = .ok (.iload_n 3, 1) := by decide +kernel
theorem dX12_foes_15 : decode cX12_foes 15 = .ok (.invokevirtual 278, 3) := by decide +kernel
theorem dX12_foes_18 : decode cX12_foes 18 = .ok (.iload_n 1, 1) := by decide +kernel
theorem dX12_foes_19 : decode cX12_foes 19 = .ok (.if_icmp .eq 18, 3) := by decide +kernel
theorem dX12_foes_22 : decode cX12_foes 22 = .ok (.aload_n 0, 1) := by decide +kernel
theorem dX12_foes_23 : decode cX12_foes 23 = .ok (.getfield 58, 3) := by decide +kernel
theorem dX12_foes_26 : decode cX12_foes 26 = .ok (.iconst 0, 1) := by decide +kernel
theorem dX12_foes_27 : decode cX12_foes 27 = .ok (.iload_n 3, 1) := by decide +kernel
theorem dX12_foes_28 : decode cX12_foes 28 = .ok (.iadd, 1) := by decide +kernel
theorem dX12_foes_29 : decode cX12_foes 29 = .ok (.iaload, 1) := by decide +kernel
theorem dX12_foes_30 : decode cX12_foes 30 = .ok (.ifCond .le 7, 3) := by decide +kernel
theorem dX12_foes_33 : decode cX12_foes 33 = .ok (.iconst 1, 1) := by decide +kernel
theorem dX12_foes_34 : decode cX12_foes 34 = .ok (.goto 4, 3) := by decide +kernel
theorem dX12_foes_37 : decode cX12_foes 37 = .ok (.iconst 0, 1) := by decide +kernel
theorem dX12_foes_38 : decode cX12_foes 38 = .ok (.iadd, 1) := by decide +kernel
theorem dX12_foes_39 : decode cX12_foes 39 = .ok (.istore_n 2, 1) := by decide +kernel
theorem dX12_foes_40 : decode cX12_foes 40 = .ok (.iinc 3 1, 3) := by decide +kernel
theorem dX12_foes_43 : decode cX12_foes 43 = .ok (.goto (-39), 3) := by decide +kernel
theorem dX12_foes_46 : decode cX12_foes 46 = .ok (.iload_n 2, 1) := by decide +kernel
theorem dX12_foes_47 : decode cX12_foes 47 = .ok (.ireturn, 1) := by decide +kernel
theorem dX12_champion_0 : decode cX12_champion 0 = .ok (.iconst (-1), 1) := by decide +kernel
theorem dX12_champion_1 : decode cX12_champion 1 = .ok (.istore_n 2, 1) := by decide +kernel
theorem dX12_champion_2 : decode cX12_champion 2 = .ok (.iconst (-1), 1) := by decide +kernel
theorem dX12_champion_3 : decode cX12_champion 3 = .ok (.istore_n 3, 1) := by decide +kernel
theorem dX12_champion_4 : decode cX12_champion 4 = .ok (.iconst 0, 1) := by decide +kernel
theorem dX12_champion_5 : decode cX12_champion 5 = .ok (.istore 4, 2) := by decide +kernel
theorem dX12_champion_7 : decode cX12_champion 7 = .ok (.aload_n 0, 1) := by decide +kernel
theorem dX12_champion_8 : decode cX12_champion 8 = .ok (.iload_n 1, 1) := by decide +kernel
theorem dX12_champion_9 : decode cX12_champion 9 = .ok (.invokevirtual 381, 3) := by decide +kernel
theorem dX12_champion_12 : decode cX12_champion 12 = .ok (.ifCond .eq 72, 3) := by decide +kernel
theorem dX12_champion_15 : decode cX12_champion 15 = .ok (.iload 4, 2) := by decide +kernel
theorem dX12_champion_17 : decode cX12_champion 17 = .ok (.aload_n 0, 1) := by decide +kernel
theorem dX12_champion_18 : decode cX12_champion 18 = .ok (.getfield 250, 3) := by decide +kernel
theorem dX12_champion_21 : decode cX12_champion 21 = .ok (.if_icmp .ge 63, 3) := by decide +kernel
theorem dX12_champion_24 : decode cX12_champion 24 = .ok (.aload_n 0, 1) := by decide +kernel
theorem dX12_champion_25 : decode cX12_champion 25 = .ok (.iload 4, 2) := by decide +kernel
theorem dX12_champion_27 : decode cX12_champion 27 = .ok (.invokevirtual 278, 3) := by decide +kernel
theorem dX12_champion_30 : decode cX12_champion 30 = .ok (.iload_n 1, 1) := by decide +kernel
theorem dX12_champion_31 : decode cX12_champion 31 = .ok (.if_icmp .ne 24, 3) := by decide +kernel
theorem dX12_champion_34 : decode cX12_champion 34 = .ok (.aload_n 0, 1) := by decide +kernel
theorem dX12_champion_35 : decode cX12_champion 35 = .ok (.getfield 58, 3) := by decide +kernel
theorem dX12_champion_38 : decode cX12_champion 38 = .ok (.iconst 0, 1) := by decide +kernel
theorem dX12_champion_39 : decode cX12_champion 39 = .ok (.iload 4, 2) := by decide +kernel
theorem dX12_champion_41 : decode cX12_champion 41 = .ok (.iadd, 1) := by decide +kernel
theorem dX12_champion_42 : decode cX12_champion 42 = .ok (.iaload, 1) := by decide +kernel
theorem dX12_champion_43 : decode cX12_champion 43 = .ok (.ifCond .le 12, 3) := by decide +kernel
theorem dX12_champion_46 : decode cX12_champion 46 = .ok (.aload_n 0, 1) := by decide +kernel
theorem dX12_champion_47 : decode cX12_champion 47 = .ok (.iload 4, 2) := by decide +kernel
theorem dX12_champion_49 : decode cX12_champion 49 = .ok (.invokevirtual 384, 3) := by decide +kernel
theorem dX12_champion_52 : decode cX12_champion 52 = .ok (.goto 4, 3) := by decide +kernel
theorem dX12_champion_55 : decode cX12_champion 55 = .ok (.iconst (-1), 1) := by decide +kernel
theorem dX12_champion_56 : decode cX12_champion 56 = .ok (.istore 5, 2) := by decide +kernel
theorem dX12_champion_58 : decode cX12_champion 58 = .ok (.iload 5, 2) := by decide +kernel
theorem dX12_champion_60 : decode cX12_champion 60 = .ok (.iload_n 3, 1) := by decide +kernel
theorem dX12_champion_61 : decode cX12_champion 61 = .ok (.if_icmp .le 8, 3) := by decide +kernel
theorem dX12_champion_64 : decode cX12_champion 64 = .ok (.iload 4, 2) := by decide +kernel
theorem dX12_champion_66 : decode cX12_champion 66 = .ok (.goto 4, 3) := by decide +kernel
theorem dX12_champion_69 : decode cX12_champion 69 = .ok (.iload_n 2, 1) := by decide +kernel
theorem dX12_champion_70 : decode cX12_champion 70 = .ok (.istore_n 2, 1) := by decide +kernel
theorem dX12_champion_71 : decode cX12_champion 71 = .ok (.iload_n 3, 1) := by decide +kernel
theorem dX12_champion_72 : decode cX12_champion 72 = .ok (.iload 5, 2) := by decide +kernel
theorem dX12_champion_74 : decode cX12_champion 74 = .ok (.invokestatic 327, 3) := by decide +kernel
theorem dX12_champion_77 : decode cX12_champion 77 = .ok (.istore_n 3, 1) := by decide +kernel
theorem dX12_champion_78 : decode cX12_champion 78 = .ok (.iinc 4 1, 3) := by decide +kernel
theorem dX12_champion_81 : decode cX12_champion 81 = .ok (.goto (-74), 3) := by decide +kernel
theorem dX12_champion_84 : decode cX12_champion 84 = .ok (.iload_n 2, 1) := by decide +kernel
theorem dX12_champion_85 : decode cX12_champion 85 = .ok (.ireturn, 1) := by decide +kernel
theorem dX12_victors_0 : decode cX12_victors 0 = .ok (.aload_n 0, 1) := by decide +kernel
theorem dX12_victors_1 : decode cX12_victors 1 = .ok (.iload_n 1, 1) := by decide +kernel
theorem dX12_victors_2 : decode cX12_victors 2 = .ok (.invokevirtual 381, 3) := by decide +kernel
theorem dX12_victors_5 : decode cX12_victors 5 = .ok (.ifCond .ne 5, 3) := by decide +kernel
theorem dX12_victors_8 : decode cX12_victors 8 = .ok (.iconst (-1), 1) := by decide +kernel
theorem dX12_victors_9 : decode cX12_victors 9 = .ok (.ireturn, 1) := by decide +kernel
theorem dX12_victors_10 : decode cX12_victors 10 = .ok (.iconst 0, 1) := by decide +kernel
theorem dX12_victors_11 : decode cX12_victors 11 = .ok (.istore_n 2, 1) := by decide +kernel
theorem dX12_victors_12 : decode cX12_victors 12 = .ok (.aload_n 0, 1) := by decide +kernel
theorem dX12_victors_13 : decode cX12_victors 13 = .ok (.iload_n 1, 1) := by decide +kernel
theorem dX12_victors_14 : decode cX12_victors 14 = .ok (.invokevirtual 387, 3) := by decide +kernel
theorem dX12_victors_17 : decode cX12_victors 17 = .ok (.istore_n 3, 1) := by decide +kernel
theorem dX12_victors_18 : decode cX12_victors 18 = .ok (.iconst 0, 1) := by decide +kernel
theorem dX12_victors_19 : decode cX12_victors 19 = .ok (.istore 4, 2) := by decide +kernel
theorem dX12_victors_21 : decode cX12_victors 21 = .ok (.iload 4, 2) := by decide +kernel
theorem dX12_victors_23 : decode cX12_victors 23 = .ok (.aload_n 0, 1) := by decide +kernel
theorem dX12_victors_24 : decode cX12_victors 24 = .ok (.getfield 250, 3) := by decide +kernel
theorem dX12_victors_27 : decode cX12_victors 27 = .ok (.if_icmp .ge 56, 3) := by decide +kernel
theorem dX12_victors_30 : decode cX12_victors 30 = .ok (.iload_n 2, 1) := by decide +kernel
theorem dX12_victors_31 : decode cX12_victors 31 = .ok (.aload_n 0, 1) := by decide +kernel
theorem dX12_victors_32 : decode cX12_victors 32 = .ok (.iload 4, 2) := by decide +kernel
theorem dX12_victors_34 : decode cX12_victors 34 = .ok (.invokevirtual 278, 3) := by decide +kernel
theorem dX12_victors_37 : decode cX12_victors 37 = .ok (.iload_n 1, 1) := by decide +kernel
theorem dX12_victors_38 : decode cX12_victors 38 = .ok (.if_icmp .ne 36, 3) := by decide +kernel
theorem dX12_victors_41 : decode cX12_victors 41 = .ok (.aload_n 0, 1) := by decide +kernel
theorem dX12_victors_42 : decode cX12_victors 42 = .ok (.getfield 58, 3) := by decide +kernel
theorem dX12_victors_45 : decode cX12_victors 45 = .ok (.iconst 0, 1) := by decide +kernel
theorem dX12_victors_46 : decode cX12_victors 46 = .ok (.iload 4, 2) := by decide +kernel
theorem dX12_victors_48 : decode cX12_victors 48 = .ok (.iadd, 1) := by decide +kernel
theorem dX12_victors_49 : decode cX12_victors 49 = .ok (.iaload, 1) := by decide +kernel
theorem dX12_victors_50 : decode cX12_victors 50 = .ok (.ifCond .le 24, 3) := by decide +kernel
theorem dX12_victors_53 : decode cX12_victors 53 = .ok (.iload_n 3, 1) := by decide +kernel
theorem dX12_victors_54 : decode cX12_victors 54 = .ok (.ifCond .le 20, 3) := by decide +kernel
theorem dX12_victors_57 : decode cX12_victors 57 = .ok (.aload_n 0, 1) := by decide +kernel
theorem dX12_victors_58 : decode cX12_victors 58 = .ok (.iload 4, 2) := by decide +kernel
theorem dX12_victors_60 : decode cX12_victors 60 = .ok (.invokevirtual 384, 3) := by decide +kernel
theorem dX12_victors_63 : decode cX12_victors 63 = .ok (.iload_n 3, 1) := by decide +kernel
theorem dX12_victors_64 : decode cX12_victors 64 = .ok (.if_icmp .ne 10, 3) := by decide +kernel
theorem dX12_victors_67 : decode cX12_victors 67 = .ok (.iconst 1, 1) := by decide +kernel
theorem dX12_victors_68 : decode cX12_victors 68 = .ok (.iload 4, 2) := by decide +kernel
theorem dX12_victors_70 : decode cX12_victors 70 = .ok (.ishl, 1) := by decide +kernel
theorem dX12_victors_71 : decode cX12_victors 71 = .ok (.goto 4, 3) := by decide +kernel
theorem dX12_victors_74 : decode cX12_victors 74 = .ok (.iconst 0, 1) := by decide +kernel
theorem dX12_victors_75 : decode cX12_victors 75 = .ok (.ior, 1) := by decide +kernel
theorem dX12_victors_76 : decode cX12_victors 76 = .ok (.istore_n 2, 1) := by decide +kernel
theorem dX12_victors_77 : decode cX12_victors 77 = .ok (.iinc 4 1, 3) := by decide +kernel
theorem dX12_victors_80 : decode cX12_victors 80 = .ok (.goto (-59), 3) := by decide +kernel
theorem dX12_victors_83 : decode cX12_victors 83 = .ok (.iload_n 2, 1) := by decide +kernel
theorem dX12_victors_84 : decode cX12_victors 84 = .ok (.ireturn, 1) := by decide +kernel
theorem dX12_treaty_0 : decode cX12_treaty 0 = .ok (.aload_n 0, 1) := by decide +kernel
theorem dX12_treaty_1 : decode cX12_treaty 1 = .ok (.iload_n 1, 1) := by decide +kernel
theorem dX12_treaty_2 : decode cX12_treaty 2 = .ok (.iload_n 2, 1) := by decide +kernel
theorem dX12_treaty_3 : decode cX12_treaty 3 = .ok (.invokevirtual 372, 3) := by decide +kernel
theorem dX12_treaty_6 : decode cX12_treaty 6 = .ok (.ifCond .ne 5, 3) := by decide +kernel
theorem dX12_treaty_9 : decode cX12_treaty 9 = .ok (.iconst (-1), 1) := by decide +kernel
theorem dX12_treaty_10 : decode cX12_treaty 10 = .ok (.ireturn, 1) := by decide +kernel
theorem dX12_treaty_11 : decode cX12_treaty 11 = .ok (.aload_n 0, 1) := by decide +kernel
theorem dX12_treaty_12 : decode cX12_treaty 12 = .ok (.iload_n 1, 1) := by decide +kernel
theorem dX12_treaty_13 : decode cX12_treaty 13 = .ok (.iload_n 2, 1) := by decide +kernel
theorem dX12_treaty_14 : decode cX12_treaty 14 = .ok (.iconst 0, 1) := by decide +kernel
theorem dX12_treaty_15 : decode cX12_treaty 15 = .ok (.invokevirtual 375, 3) := by decide +kernel
theorem dX12_treaty_18 : decode cX12_treaty 18 = .ok (.ifCond .le 7, 3) := by decide +kernel
theorem dX12_treaty_21 : decode cX12_treaty 21 = .ok (.iconst 1, 1) := by decide +kernel
theorem dX12_treaty_22 : decode cX12_treaty 22 = .ok (.goto 4, 3) := by decide +kernel
theorem dX12_treaty_25 : decode cX12_treaty 25 = .ok (.iconst 0, 1) := by decide +kernel
theorem dX12_treaty_26 : decode cX12_treaty 26 = .ok (.istore_n 3, 1) := by decide +kernel
theorem dX12_treaty_27 : decode cX12_treaty 27 = .ok (.aload_n 0, 1) := by decide +kernel
theorem dX12_treaty_28 : decode cX12_treaty 28 = .ok (.getfield 58, 3) := by decide +kernel
theorem dX12_treaty_31 : decode cX12_treaty 31 = .ok (.bipush 8, 2) := by decide +kernel
theorem dX12_treaty_33 : decode cX12_treaty 33 = .ok (.iload_n 1, 1) := by decide +kernel
theorem dX12_treaty_34 : decode cX12_treaty 34 = .ok (.iadd, 1) := by decide +kernel
theorem dX12_treaty_35 : decode cX12_treaty 35 = .ok (.iaload, 1) := by decide +kernel
theorem dX12_treaty_36 : decode cX12_treaty 36 = .ok (.aload_n 0, 1) := by decide +kernel
theorem dX12_treaty_37 : decode cX12_treaty 37 = .ok (.getfield 58, 3) := by decide +kernel
theorem dX12_treaty_40 : decode cX12_treaty 40 = .ok (.bipush 8, 2) := by decide +kernel
theorem dX12_treaty_42 : decode cX12_treaty 42 = .ok (.iload_n 2, 1) := by decide +kernel
theorem dX12_treaty_43 : decode cX12_treaty 43 = .ok (.iadd, 1) := by decide +kernel
theorem dX12_treaty_44 : decode cX12_treaty 44 = .ok (.iaload, 1) := by decide +kernel
theorem dX12_treaty_45 : decode cX12_treaty 45 = .ok (.invokestatic 390, 3) := by decide +kernel
theorem dX12_treaty_48 : decode cX12_treaty 48 = .ok (.istore 4, 2) := by decide +kernel
theorem dX12_treaty_50 : decode cX12_treaty 50 = .ok (.iconst 0, 1) := by decide +kernel
theorem dX12_treaty_51 : decode cX12_treaty 51 = .ok (.istore 5, 2) := by decide +kernel
theorem dX12_treaty_53 : decode cX12_treaty 53 = .ok (.iload 5, 2) := by decide +kernel
theorem dX12_treaty_55 : decode cX12_treaty 55 = .ok (.iload 4, 2) := by decide +kernel
theorem dX12_treaty_57 : decode cX12_treaty 57 = .ok (.if_icmp .ge 31, 3) := by decide +kernel
theorem dX12_treaty_60 : decode cX12_treaty 60 = .ok (.aload_n 0, 1) := by decide +kernel
theorem dX12_treaty_61 : decode cX12_treaty 61 = .ok (.iload_n 1, 1) := by decide +kernel
theorem dX12_treaty_62 : decode cX12_treaty 62 = .ok (.iload_n 2, 1) := by decide +kernel
theorem dX12_treaty_63 : decode cX12_treaty 63 = .ok (.iload 5, 2) := by decide +kernel
theorem dX12_treaty_65 : decode cX12_treaty 65 = .ok (.iconst 1, 1) := by decide +kernel
theorem dX12_treaty_66 : decode cX12_treaty 66 = .ok (.iadd, 1) := by decide +kernel
theorem dX12_treaty_67 : decode cX12_treaty 67 = .ok (.invokevirtual 375, 3) := by decide +kernel
theorem dX12_treaty_70 : decode cX12_treaty 70 = .ok (.ifCond .le 7, 3) := by decide +kernel
theorem dX12_treaty_73 : decode cX12_treaty 73 = .ok (.iconst 1, 1) := by decide +kernel
theorem dX12_treaty_74 : decode cX12_treaty 74 = .ok (.goto 4, 3) := by decide +kernel
theorem dX12_treaty_77 : decode cX12_treaty 77 = .ok (.iconst 0, 1) := by decide +kernel
theorem dX12_treaty_78 : decode cX12_treaty 78 = .ok (.iload_n 3, 1) := by decide +kernel
theorem dX12_treaty_79 : decode cX12_treaty 79 = .ok (.if_icmp .ne 9, 3) := by decide +kernel
theorem dX12_treaty_82 : decode cX12_treaty 82 = .ok (.iinc 5 1, 3) := by decide +kernel
theorem dX12_treaty_85 : decode cX12_treaty 85 = .ok (.goto (-32), 3) := by decide +kernel
theorem dX12_treaty_88 : decode cX12_treaty 88 = .ok (.iload 5, 2) := by decide +kernel
theorem dX12_treaty_90 : decode cX12_treaty 90 = .ok (.ireturn, 1) := by decide +kernel
theorem dX12_isEscorted_0 : decode cX12_isEscorted 0 = .ok (.aload_n 0, 1) := by decide +kernel
theorem dX12_isEscorted_1 : decode cX12_isEscorted 1 = .ok (.iload_n 2, 1) := by decide +kernel
theorem dX12_isEscorted_2 : decode cX12_isEscorted 2 = .ok (.invokevirtual 278, 3) := by decide +kernel
theorem dX12_isEscorted_5 : decode cX12_isEscorted 5 = .ok (.aload_n 0, 1) := by decide +kernel
theorem dX12_isEscorted_6 : decode cX12_isEscorted 6 = .ok (.iload_n 1, 1) := by decide +kernel
theorem dX12_isEscorted_7 : decode cX12_isEscorted 7 = .ok (.invokevirtual 278, 3) := by decide +kernel
theorem dX12_isEscorted_10 : decode cX12_isEscorted 10 = .ok (.if_icmp .eq 41, 3) := by decide +kernel
theorem dX12_isEscorted_13 : decode cX12_isEscorted 13 = .ok (.aload_n 0, 1) := by decide +kernel
theorem dX12_isEscorted_14 : decode cX12_isEscorted 14 = .ok (.iload_n 2, 1) := by decide +kernel
theorem dX12_isEscorted_15 : decode cX12_isEscorted 15 = .ok (.invokevirtual 287, 3) := by decide +kernel
theorem dX12_isEscorted_18 : decode cX12_isEscorted 18 = .ok (.ifCond .ne 33, 3) := by decide +kernel
theorem dX12_isEscorted_21 : decode cX12_isEscorted 21 = .ok (.aload_n 0, 1) := by decide +kernel
theorem dX12_isEscorted_22 : decode cX12_isEscorted 22 = .ok (.getfield 58, 3) := by decide +kernel
theorem dX12_isEscorted_25 : decode cX12_isEscorted 25 = .ok (.iconst 0, 1) := by decide +kernel
theorem dX12_isEscorted_26 : decode cX12_isEscorted 26 = .ok (.iload_n 2, 1) := by decide +kernel
theorem dX12_isEscorted_27 : decode cX12_isEscorted 27 = .ok (.iadd, 1) := by decide +kernel
theorem dX12_isEscorted_28 : decode cX12_isEscorted 28 = .ok (.iaload, 1) := by decide +kernel
theorem dX12_isEscorted_29 : decode cX12_isEscorted 29 = .ok (.iconst 1, 1) := by decide +kernel
theorem dX12_isEscorted_30 : decode cX12_isEscorted 30 = .ok (.aload_n 0, 1) := by decide +kernel
theorem dX12_isEscorted_31 : decode cX12_isEscorted 31 = .ok (.getfield 49, 3) := by decide +kernel
theorem dX12_isEscorted_34 : decode cX12_isEscorted 34 = .ok (.bipush 6, 2) := by decide +kernel
theorem dX12_isEscorted_36 : decode cX12_isEscorted 36 = .ok (.iload_n 1, 1) := by decide +kernel
theorem dX12_isEscorted_37 : decode cX12_isEscorted 37 = .ok (.imul, 1) := by decide +kernel
theorem dX12_isEscorted_38 : decode cX12_isEscorted 38 = .ok (.iconst 2, 1) := by decide +kernel
theorem dX12_isEscorted_39 : decode cX12_isEscorted 39 = .ok (.iadd, 1) := by decide +kernel
theorem dX12_isEscorted_40 : decode cX12_isEscorted 40 = .ok (.iaload, 1) := by decide +kernel
theorem dX12_isEscorted_41 : decode cX12_isEscorted 41 = .ok (.invokestatic 206, 3) := by decide +kernel
theorem dX12_isEscorted_44 : decode cX12_isEscorted 44 = .ok (.ifCond .eq 7, 3) := by decide +kernel
theorem dX12_isEscorted_47 : decode cX12_isEscorted 47 = .ok (.iconst 1, 1) := by decide +kernel
theorem dX12_isEscorted_48 : decode cX12_isEscorted 48 = .ok (.goto 4, 3) := by decide +kernel
theorem dX12_isEscorted_51 : decode cX12_isEscorted 51 = .ok (.iconst 0, 1) := by decide +kernel
theorem dX12_isEscorted_52 : decode cX12_isEscorted 52 = .ok (.ireturn, 1) := by decide +kernel
theorem dX12_canEscort_0 : decode cX12_canEscort 0 = .ok (.aload_n 0, 1) := by decide +kernel
theorem dX12_canEscort_1 : decode cX12_canEscort 1 = .ok (.iload_n 1, 1) := by decide +kernel
theorem dX12_canEscort_2 : decode cX12_canEscort 2 = .ok (.invokevirtual 278, 3) := by decide +kernel
theorem dX12_canEscort_5 : decode cX12_canEscort 5 = .ok (.iload_n 2, 1) := by decide +kernel
theorem dX12_canEscort_6 : decode cX12_canEscort 6 = .ok (.if_icmp .ne 27, 3) := by decide +kernel
theorem dX12_canEscort_9 : decode cX12_canEscort 9 = .ok (.aload_n 0, 1) := by decide +kernel
theorem dX12_canEscort_10 : decode cX12_canEscort 10 = .ok (.iload_n 1, 1) := by decide +kernel
theorem dX12_canEscort_11 : decode cX12_canEscort 11 = .ok (.invokevirtual 287, 3) := by decide +kernel
theorem dX12_canEscort_14 : decode cX12_canEscort 14 = .ok (.ifCond .ne 19, 3) := by decide +kernel
theorem dX12_canEscort_17 : decode cX12_canEscort 17 = .ok (.aload_n 0, 1) := by decide +kernel
theorem dX12_canEscort_18 : decode cX12_canEscort 18 = .ok (.getfield 58, 3) := by decide +kernel
theorem dX12_canEscort_21 : decode cX12_canEscort 21 = .ok (.bipush 8, 2) := by decide +kernel
theorem dX12_canEscort_23 : decode cX12_canEscort 23 = .ok (.iload_n 1, 1) := by decide +kernel
theorem dX12_canEscort_24 : decode cX12_canEscort 24 = .ok (.iadd, 1) := by decide +kernel
theorem dX12_canEscort_25 : decode cX12_canEscort 25 = .ok (.iaload, 1) := by decide +kernel
theorem dX12_canEscort_26 : decode cX12_canEscort 26 = .ok (.ifCond .le 7, 3) := by decide +kernel
theorem dX12_canEscort_29 : decode cX12_canEscort 29 = .ok (.iconst 1, 1) := by decide +kernel
theorem dX12_canEscort_30 : decode cX12_canEscort 30 = .ok (.goto 4, 3) := by decide +kernel
theorem dX12_canEscort_33 : decode cX12_canEscort 33 = .ok (.iconst 0, 1) := by decide +kernel
theorem dX12_canEscort_34 : decode cX12_canEscort 34 = .ok (.ireturn, 1) := by decide +kernel
theorem dX12_tryEscorts_0 : decode cX12_tryEscorts 0 = .ok (.iload_n 1, 1) := by decide +kernel
theorem dX12_tryEscorts_1 : decode cX12_tryEscorts 1 = .ok (.aload_n 0, 1) := by decide +kernel
theorem dX12_tryEscorts_2 : decode cX12_tryEscorts 2 = .ok (.getfield 250, 3) := by decide +kernel
theorem dX12_tryEscorts_5 : decode cX12_tryEscorts 5 = .ok (.if_icmp .ne 29, 3) := by decide +kernel
theorem dX12_tryEscorts_8 : decode cX12_tryEscorts 8 = .ok (.iload_n 3, 1) := by decide +kernel
theorem dX12_tryEscorts_9 : decode cX12_tryEscorts 9 = .ok (.invokestatic 392, 3) := by decide +kernel
theorem dX12_tryEscorts_12 : decode cX12_tryEscorts 12 = .ok (.aload_n 0, 1) := by decide +kernel
theorem dX12_tryEscorts_13 : decode cX12_tryEscorts 13 = .ok (.getfield 397, 3) := by decide +kernel
theorem dX12_tryEscorts_16 : decode cX12_tryEscorts 16 = .ok (.if_icmp .le 17, 3) := by decide +kernel
theorem dX12_tryEscorts_19 : decode cX12_tryEscorts 19 = .ok (.aload_n 0, 1) := by decide +kernel
theorem dX12_tryEscorts_20 : decode cX12_tryEscorts 20 = .ok (.iload_n 3, 1) := by decide +kernel
theorem dX12_tryEscorts_21 : decode cX12_tryEscorts 21 = .ok (.invokestatic 392, 3) := by decide +kernel
theorem dX12_tryEscorts_24 : decode cX12_tryEscorts 24 = .ok (.putfield 397, 3) := by decide +kernel
theorem dX12_tryEscorts_27 : decode cX12_tryEscorts 27 = .ok (.aload_n 0, 1) := by decide +kernel
theorem dX12_tryEscorts_28 : decode cX12_tryEscorts 28 = .ok (.iload 4, 2) := by decide +kernel
theorem dX12_tryEscorts_30 : decode cX12_tryEscorts 30 = .ok (.putfield 400, 3) := by decide +kernel
theorem dX12_tryEscorts_33 : decode cX12_tryEscorts 33 = .ok (.return_, 1) := by decide +kernel
theorem dX12_tryEscorts_34 : decode cX12_tryEscorts 34 = .ok (.aload_n 0, 1) := by decide +kernel
theorem dX12_tryEscorts_35 : decode cX12_tryEscorts 35 = .ok (.iload_n 1, 1) := by decide +kernel
theorem dX12_tryEscorts_36 : decode cX12_tryEscorts 36 = .ok (.iload_n 2, 1) := by decide +kernel
theorem dX12_tryEscorts_37 : decode cX12_tryEscorts 37 = .ok (.invokevirtual 403, 3) := by decide +kernel
theorem dX12_tryEscorts_40 : decode cX12_tryEscorts 40 = .ok (.ifCond .ne 15, 3) := by decide +kernel
theorem dX12_tryEscorts_43 : decode cX12_tryEscorts 43 = .ok (.aload_n 0, 1) := by decide +kernel
theorem dX12_tryEscorts_44 : decode cX12_tryEscorts 44 = .ok (.iload_n 1, 1) := by decide +kernel
theorem dX12_tryEscorts_45 : decode cX12_tryEscorts 45 = .ok (.iconst 1, 1) := by decide +kernel
theorem dX12_tryEscorts_46 : decode cX12_tryEscorts 46 = .ok (.iadd, 1) := by decide +kernel
theorem dX12_tryEscorts_47 : decode cX12_tryEscorts 47 = .ok (.iload_n 2, 1) := by decide +kernel
theorem dX12_tryEscorts_48 : decode cX12_tryEscorts 48 = .ok (.iload_n 3, 1) := by decide +kernel
theorem dX12_tryEscorts_49 : decode cX12_tryEscorts 49 = .ok (.iload 4, 2) := by decide +kernel
theorem dX12_tryEscorts_51 : decode cX12_tryEscorts 51 = .ok (.invokevirtual 406, 3) := by decide +kernel
theorem dX12_tryEscorts_54 : decode cX12_tryEscorts 54 = .ok (.return_, 1) := by decide +kernel
theorem dX12_tryEscorts_55 : decode cX12_tryEscorts 55 = .ok (.iconst 0, 1) := by decide +kernel
theorem dX12_tryEscorts_56 : decode cX12_tryEscorts 56 = .ok (.istore 5, 2) := by decide +kernel
theorem dX12_tryEscorts_58 : decode cX12_tryEscorts 58 = .ok (.iload 5, 2) := by decide +kernel
theorem dX12_tryEscorts_60 : decode cX12_tryEscorts 60 = .ok (.aload_n 0, 1) := by decide +kernel
theorem dX12_tryEscorts_61 : decode cX12_tryEscorts 61 = .ok (.getfield 250, 3) := by decide +kernel
theorem dX12_tryEscorts_64 : decode cX12_tryEscorts 64 = .ok (.if_icmp .ge 50, 3) := by decide +kernel
theorem dX12_tryEscorts_67 : decode cX12_tryEscorts 67 = .ok (.iload_n 3, 1) := by decide +kernel
theorem dX12_tryEscorts_68 : decode cX12_tryEscorts 68 = .ok (.iload 5, 2) := by decide +kernel
theorem dX12_tryEscorts_70 : decode cX12_tryEscorts 70 = .ok (.invokestatic 217, 3) := by decide +kernel
theorem dX12_tryEscorts_73 : decode cX12_tryEscorts 73 = .ok (.ifCond .ne 35, 3) := by decide +kernel
theorem dX12_tryEscorts_76 : decode cX12_tryEscorts 76 = .ok (.aload_n 0, 1) := by decide +kernel
theorem dX12_tryEscorts_77 : decode cX12_tryEscorts 77 = .ok (.iload_n 1, 1) := by decide +kernel
theorem dX12_tryEscorts_78 : decode cX12_tryEscorts 78 = .ok (.iload 5, 2) := by decide +kernel
theorem dX12_tryEscorts_80 : decode cX12_tryEscorts 80 = .ok (.invokevirtual 410, 3) := by decide +kernel
theorem dX12_tryEscorts_83 : decode cX12_tryEscorts 83 = .ok (.ifCond .eq 25, 3) := by decide +kernel
theorem dX12_tryEscorts_86 : decode cX12_tryEscorts 86 = .ok (.aload_n 0, 1) := by decide +kernel
theorem dX12_tryEscorts_87 : decode cX12_tryEscorts 87 = .ok (.iload_n 1, 1) := by decide +kernel
theorem dX12_tryEscorts_88 : decode cX12_tryEscorts 88 = .ok (.iconst 1, 1) := by decide +kernel
theorem dX12_tryEscorts_89 : decode cX12_tryEscorts 89 = .ok (.iadd, 1) := by decide +kernel
theorem dX12_tryEscorts_90 : decode cX12_tryEscorts 90 = .ok (.iload_n 2, 1) := by decide +kernel
theorem dX12_tryEscorts_91 : decode cX12_tryEscorts 91 = .ok (.iload_n 3, 1) := by decide +kernel
theorem dX12_tryEscorts_92 : decode cX12_tryEscorts 92 = .ok (.iconst 1, 1) := by decide +kernel
theorem dX12_tryEscorts_93 : decode cX12_tryEscorts 93 = .ok (.iload 5, 2) := by decide +kernel
theorem dX12_tryEscorts_95 : decode cX12_tryEscorts 95 = .ok (.ishl, 1) := by decide +kernel
theorem dX12_tryEscorts_96 : decode cX12_tryEscorts 96 = .ok (.ior, 1) := by decide +kernel
theorem dX12_tryEscorts_97 : decode cX12_tryEscorts 97 = .ok (.bipush 10, 2) := by decide +kernel
theorem dX12_tryEscorts_99 : decode cX12_tryEscorts 99 = .ok (.iload 4, 2) := by decide +kernel
theorem dX12_tryEscorts_101 : decode cX12_tryEscorts 101 = .ok (.imul, 1) := by decide +kernel
theorem dX12_tryEscorts_102 : decode cX12_tryEscorts 102 = .ok (.iload 5, 2) := by decide +kernel
theorem dX12_tryEscorts_104 : decode cX12_tryEscorts 104 = .ok (.iadd, 1) := by decide +kernel
theorem dX12_tryEscorts_105 : decode cX12_tryEscorts 105 = .ok (.invokevirtual 406, 3) := by decide +kernel
theorem dX12_tryEscorts_108 : decode cX12_tryEscorts 108 = .ok (.iinc 5 1, 3) := by decide +kernel
theorem dX12_tryEscorts_111 : decode cX12_tryEscorts 111 = .ok (.goto (-53), 3) := by decide +kernel
theorem dX12_tryEscorts_114 : decode cX12_tryEscorts 114 = .ok (.aload_n 0, 1) := by decide +kernel
theorem dX12_tryEscorts_115 : decode cX12_tryEscorts 115 = .ok (.iload_n 1, 1) := by decide +kernel
theorem dX12_tryEscorts_116 : decode cX12_tryEscorts 116 = .ok (.iconst 1, 1) := by decide +kernel
theorem dX12_tryEscorts_117 : decode cX12_tryEscorts 117 = .ok (.iadd, 1) := by decide +kernel
theorem dX12_tryEscorts_118 : decode cX12_tryEscorts 118 = .ok (.iload_n 2, 1) := by decide +kernel
theorem dX12_tryEscorts_119 : decode cX12_tryEscorts 119 = .ok (.iload_n 3, 1) := by decide +kernel
theorem dX12_tryEscorts_120 : decode cX12_tryEscorts 120 = .ok (.bipush 10, 2) := by decide +kernel
theorem dX12_tryEscorts_122 : decode cX12_tryEscorts 122 = .ok (.iload 4, 2) := by decide +kernel
theorem dX12_tryEscorts_124 : decode cX12_tryEscorts 124 = .ok (.imul, 1) := by decide +kernel
theorem dX12_tryEscorts_125 : decode cX12_tryEscorts 125 = .ok (.bipush 9, 2) := by decide +kernel
theorem dX12_tryEscorts_127 : decode cX12_tryEscorts 127 = .ok (.iadd, 1) := by decide +kernel
theorem dX12_tryEscorts_128 : decode cX12_tryEscorts 128 = .ok (.invokevirtual 406, 3) := by decide +kernel
theorem dX12_tryEscorts_131 : decode cX12_tryEscorts 131 = .ok (.return_, 1) := by decide +kernel
theorem dX12_escorts_0 : decode cX12_escorts 0 = .ok (.aload_n 0, 1) := by decide +kernel
theorem dX12_escorts_1 : decode cX12_escorts 1 = .ok (.iload_n 1, 1) := by decide +kernel
theorem dX12_escorts_2 : decode cX12_escorts 2 = .ok (.invokevirtual 381, 3) := by decide +kernel
theorem dX12_escorts_5 : decode cX12_escorts 5 = .ok (.ifCond .eq 12, 3) := by decide +kernel
theorem dX12_escorts_8 : decode cX12_escorts 8 = .ok (.iload_n 2, 1) := by decide +kernel
theorem dX12_escorts_9 : decode cX12_escorts 9 = .ok (.iconst 0, 1) := by decide +kernel
theorem dX12_escorts_10 : decode cX12_escorts 10 = .ok (.iconst 1, 1) := by decide +kernel
theorem dX12_escorts_11 : decode cX12_escorts 11 = .ok (.invokestatic 206, 3) := by decide +kernel
theorem dX12_escorts_14 : decode cX12_escorts 14 = .ok (.ifCond .ne 5, 3) := by decide +kernel
theorem dX12_escorts_17 : decode cX12_escorts 17 = .ok (.iconst (-1), 1) := by decide +kernel
theorem dX12_escorts_18 : decode cX12_escorts 18 = .ok (.ireturn, 1) := by decide +kernel
theorem dX12_escorts_19 : decode cX12_escorts 19 = .ok (.aload_n 0, 1) := by decide +kernel
theorem dX12_escorts_20 : decode cX12_escorts 20 = .ok (.iconst (-1), 1) := by decide +kernel
theorem dX12_escorts_21 : decode cX12_escorts 21 = .ok (.putfield 397, 3) := by decide +kernel
theorem dX12_escorts_24 : decode cX12_escorts 24 = .ok (.aload_n 0, 1) := by decide +kernel
theorem dX12_escorts_25 : decode cX12_escorts 25 = .ok (.iconst 0, 1) := by decide +kernel
theorem dX12_escorts_26 : decode cX12_escorts 26 = .ok (.iload_n 1, 1) := by decide +kernel
theorem dX12_escorts_27 : decode cX12_escorts 27 = .ok (.iconst 0, 1) := by decide +kernel
theorem dX12_escorts_28 : decode cX12_escorts 28 = .ok (.iconst 0, 1) := by decide +kernel
theorem dX12_escorts_29 : decode cX12_escorts 29 = .ok (.invokevirtual 406, 3) := by decide +kernel
theorem dX12_escorts_32 : decode cX12_escorts 32 = .ok (.iload_n 2, 1) := by decide +kernel
theorem dX12_escorts_33 : decode cX12_escorts 33 = .ok (.ifCond .ne 10, 3) := by decide +kernel
theorem dX12_escorts_36 : decode cX12_escorts 36 = .ok (.aload_n 0, 1) := by decide +kernel
theorem dX12_escorts_37 : decode cX12_escorts 37 = .ok (.getfield 397, 3) := by decide +kernel
theorem dX12_escorts_40 : decode cX12_escorts 40 = .ok (.goto 7, 3) := by decide +kernel
theorem dX12_escorts_43 : decode cX12_escorts 43 = .ok (.aload_n 0, 1) := by decide +kernel
theorem dX12_escorts_44 : decode cX12_escorts 44 = .ok (.getfield 400, 3) := by decide +kernel
theorem dX12_escorts_47 : decode cX12_escorts 47 = .ok (.ireturn, 1) := by decide +kernel
theorem dX12_looseBy_0 : decode cX12_looseBy 0 = .ok (.iconst 0, 1) := by decide +kernel
theorem dX12_looseBy_1 : decode cX12_looseBy 1 = .ok (.istore_n 2, 1) := by decide +kernel
theorem dX12_looseBy_2 : decode cX12_looseBy 2 = .ok (.iconst 0, 1) := by decide +kernel
theorem dX12_looseBy_3 : decode cX12_looseBy 3 = .ok (.istore_n 3, 1) := by decide +kernel
theorem dX12_looseBy_4 : decode cX12_looseBy 4 = .ok (.iload_n 3, 1) := by decide +kernel
theorem dX12_looseBy_5 : decode cX12_looseBy 5 = .ok (.aload_n 0, 1) := by decide +kernel
theorem dX12_looseBy_6 : decode cX12_looseBy 6 = .ok (.getfield 250, 3) := by decide +kernel
theorem dX12_looseBy_9 : decode cX12_looseBy 9 = .ok (.if_icmp .ge 39, 3) := by decide +kernel
theorem dX12_looseBy_12 : decode cX12_looseBy 12 = .ok (.iload_n 2, 1) := by decide +kernel
theorem dX12_looseBy_13 : decode cX12_looseBy 13 = .ok (.aload_n 0, 1) := by decide +kernel
theorem dX12_looseBy_14 : decode cX12_looseBy 14 = .ok (.getfield 58, 3) := by decide +kernel
theorem dX12_looseBy_17 : decode cX12_looseBy 17 = .ok (.iconst 0, 1) := by decide +kernel
theorem dX12_looseBy_18 : decode cX12_looseBy 18 = .ok (.iload_n 3, 1) := by decide +kernel
theorem dX12_looseBy_19 : decode cX12_looseBy 19 = .ok (.iadd, 1) := by decide +kernel
theorem dX12_looseBy_20 : decode cX12_looseBy 20 = .ok (.iaload, 1) := by decide +kernel
theorem dX12_looseBy_21 : decode cX12_looseBy 21 = .ok (.ifCond .le 18, 3) := by decide +kernel
theorem dX12_looseBy_24 : decode cX12_looseBy 24 = .ok (.aload_n 0, 1) := by decide +kernel
theorem dX12_looseBy_25 : decode cX12_looseBy 25 = .ok (.iload_n 3, 1) := by decide +kernel
theorem dX12_looseBy_26 : decode cX12_looseBy 26 = .ok (.iload_n 1, 1) := by decide +kernel
theorem dX12_looseBy_27 : decode cX12_looseBy 27 = .ok (.invokevirtual 284, 3) := by decide +kernel
theorem dX12_looseBy_30 : decode cX12_looseBy 30 = .ok (.ifCond .eq 9, 3) := by decide +kernel
theorem dX12_looseBy_33 : decode cX12_looseBy 33 = .ok (.iconst 1, 1) := by decide +kernel
theorem dX12_looseBy_34 : decode cX12_looseBy 34 = .ok (.iload_n 3, 1) := by decide +kernel
theorem dX12_looseBy_35 : decode cX12_looseBy 35 = .ok (.ishl, 1) := by decide +kernel
theorem dX12_looseBy_36 : decode cX12_looseBy 36 = .ok (.goto 4, 3) := by decide +kernel
theorem dX12_looseBy_39 : decode cX12_looseBy 39 = .ok (.iconst 0, 1) := by decide +kernel
theorem dX12_looseBy_40 : decode cX12_looseBy 40 = .ok (.ior, 1) := by decide +kernel
theorem dX12_looseBy_41 : decode cX12_looseBy 41 = .ok (.istore_n 2, 1) := by decide +kernel
theorem dX12_looseBy_42 : decode cX12_looseBy 42 = .ok (.iinc 3 1, 3) := by decide +kernel
theorem dX12_looseBy_45 : decode cX12_looseBy 45 = .ok (.goto (-41), 3) := by decide +kernel
theorem dX12_looseBy_48 : decode cX12_looseBy 48 = .ok (.iload_n 2, 1) := by decide +kernel
theorem dX12_looseBy_49 : decode cX12_looseBy 49 = .ok (.ireturn, 1) := by decide +kernel
theorem dX12_loophole_0 : decode cX12_loophole 0 = .ok (.aload_n 0, 1) := by decide +kernel
theorem dX12_loophole_1 : decode cX12_loophole 1 = .ok (.getfield 250, 3) := by decide +kernel
theorem dX12_loophole_4 : decode cX12_loophole 4 = .ok (.ifCond .le 25, 3) := by decide +kernel
theorem dX12_loophole_7 : decode cX12_loophole 7 = .ok (.iload_n 1, 1) := by decide +kernel
theorem dX12_loophole_8 : decode cX12_loophole 8 = .ok (.iconst 0, 1) := by decide +kernel
theorem dX12_loophole_9 : decode cX12_loophole 9 = .ok (.aload_n 0, 1) := by decide +kernel
theorem dX12_loophole_10 : decode cX12_loophole 10 = .ok (.getfield 272, 3) := by decide +kernel
theorem dX12_loophole_13 : decode cX12_loophole 13 = .ok (.iconst 1, 1) := by decide +kernel
theorem dX12_loophole_14 : decode cX12_loophole 14 = .ok (.isub, 1) := by decide +kernel
theorem dX12_loophole_15 : decode cX12_loophole 15 = .ok (.invokestatic 206, 3) := by decide +kernel
theorem dX12_loophole_18 : decode cX12_loophole 18 = .ok (.ifCond .eq 11, 3) := by decide +kernel
theorem dX12_loophole_21 : decode cX12_loophole 21 = .ok (.aload_n 0, 1) := by decide +kernel
theorem dX12_loophole_22 : decode cX12_loophole 22 = .ok (.iload_n 1, 1) := by decide +kernel
theorem dX12_loophole_23 : decode cX12_loophole 23 = .ok (.invokevirtual 413, 3) := by decide +kernel
theorem dX12_loophole_26 : decode cX12_loophole 26 = .ok (.goto 4, 3) := by decide +kernel
theorem dX12_loophole_29 : decode cX12_loophole 29 = .ok (.iconst (-1), 1) := by decide +kernel
theorem dX12_loophole_30 : decode cX12_loophole 30 = .ok (.ireturn, 1) := by decide +kernel
theorem dX12_closed_0 : decode cX12_closed 0 = .ok (.iconst (-1), 1) := by decide +kernel
theorem dX12_closed_1 : decode cX12_closed 1 = .ok (.istore_n 1, 1) := by decide +kernel
theorem dX12_closed_2 : decode cX12_closed 2 = .ok (.iconst 1, 1) := by decide +kernel
theorem dX12_closed_3 : decode cX12_closed 3 = .ok (.istore_n 2, 1) := by decide +kernel
theorem dX12_closed_4 : decode cX12_closed 4 = .ok (.aload_n 0, 1) := by decide +kernel
theorem dX12_closed_5 : decode cX12_closed 5 = .ok (.getfield 250, 3) := by decide +kernel
theorem dX12_closed_8 : decode cX12_closed 8 = .ok (.ifCond .le 106, 3) := by decide +kernel
theorem dX12_closed_11 : decode cX12_closed 11 = .ok (.iload_n 2, 1) := by decide +kernel
theorem dX12_closed_12 : decode cX12_closed 12 = .ok (.iconst 1, 1) := by decide +kernel
theorem dX12_closed_13 : decode cX12_closed 13 = .ok (.aload_n 0, 1) := by decide +kernel
theorem dX12_closed_14 : decode cX12_closed 14 = .ok (.getfield 272, 3) := by decide +kernel
theorem dX12_closed_17 : decode cX12_closed 17 = .ok (.ishl, 1) := by decide +kernel
theorem dX12_closed_18 : decode cX12_closed 18 = .ok (.if_icmp .ge 96, 3) := by decide +kernel
theorem dX12_closed_21 : decode cX12_closed 21 = .ok (.iconst 1, 1) := by decide +kernel
theorem dX12_closed_22 : decode cX12_closed 22 = .ok (.aload_n 0, 1) := by decide +kernel
theorem dX12_closed_23 : decode cX12_closed 23 = .ok (.getfield 250, 3) := by decide +kernel
theorem dX12_closed_26 : decode cX12_closed 26 = .ok (.ishl, 1) := by decide +kernel
theorem dX12_closed_27 : decode cX12_closed 27 = .ok (.iconst 1, 1) := by decide +kernel
theorem dX12_closed_28 : decode cX12_closed 28 = .ok (.isub, 1) := by decide +kernel
theorem dX12_closed_29 : decode cX12_closed 29 = .ok (.istore_n 3, 1) := by decide +kernel
theorem dX12_closed_30 : decode cX12_closed 30 = .ok (.iconst 0, 1) := by decide +kernel
theorem dX12_closed_31 : decode cX12_closed 31 = .ok (.istore 4, 2) := by decide +kernel
theorem dX12_closed_33 : decode cX12_closed 33 = .ok (.iload 4, 2) := by decide +kernel
theorem dX12_closed_35 : decode cX12_closed 35 = .ok (.aload_n 0, 1) := by decide +kernel
theorem dX12_closed_36 : decode cX12_closed 36 = .ok (.getfield 272, 3) := by decide +kernel
theorem dX12_closed_39 : decode cX12_closed 39 = .ok (.if_icmp .ge 31, 3) := by decide +kernel
theorem dX12_closed_42 : decode cX12_closed 42 = .ok (.iload_n 3, 1) := by decide +kernel
theorem dX12_closed_43 : decode cX12_closed 43 = .ok (.iload_n 2, 1) := by decide +kernel
theorem dX12_closed_44 : decode cX12_closed 44 = .ok (.iload 4, 2) := by decide +kernel
theorem dX12_closed_46 : decode cX12_closed 46 = .ok (.invokestatic 217, 3) := by decide +kernel
theorem dX12_closed_49 : decode cX12_closed 49 = .ok (.ifCond .eq 12, 3) := by decide +kernel
theorem dX12_closed_52 : decode cX12_closed 52 = .ok (.aload_n 0, 1) := by decide +kernel
theorem dX12_closed_53 : decode cX12_closed 53 = .ok (.iload 4, 2) := by decide +kernel
theorem dX12_closed_55 : decode cX12_closed 55 = .ok (.invokevirtual 413, 3) := by decide +kernel
theorem dX12_closed_58 : decode cX12_closed 58 = .ok (.goto 4, 3) := by decide +kernel
theorem dX12_closed_61 : decode cX12_closed 61 = .ok (.iconst (-1), 1) := by decide +kernel
theorem dX12_closed_62 : decode cX12_closed 62 = .ok (.iand, 1) := by decide +kernel
theorem dX12_closed_63 : decode cX12_closed 63 = .ok (.istore_n 3, 1) := by decide +kernel
theorem dX12_closed_64 : decode cX12_closed 64 = .ok (.iinc 4 1, 3) := by decide +kernel
theorem dX12_closed_67 : decode cX12_closed 67 = .ok (.goto (-34), 3) := by decide +kernel
theorem dX12_closed_70 : decode cX12_closed 70 = .ok (.iload_n 1, 1) := by decide +kernel
theorem dX12_closed_71 : decode cX12_closed 71 = .ok (.iconst (-1), 1) := by decide +kernel
theorem dX12_closed_72 : decode cX12_closed 72 = .ok (.if_icmp .eq 14, 3) := by decide +kernel
theorem dX12_closed_75 : decode cX12_closed 75 = .ok (.iload_n 2, 1) := by decide +kernel
theorem dX12_closed_76 : decode cX12_closed 76 = .ok (.invokestatic 392, 3) := by decide +kernel
theorem dX12_closed_79 : decode cX12_closed 79 = .ok (.iload_n 1, 1) := by decide +kernel
theorem dX12_closed_80 : decode cX12_closed 80 = .ok (.invokestatic 392, 3) := by decide +kernel
theorem dX12_closed_83 : decode cX12_closed 83 = .ok (.if_icmp .ge 7, 3) := by decide +kernel
theorem dX12_closed_86 : decode cX12_closed 86 = .ok (.iconst 1, 1) := by decide +kernel
theorem dX12_closed_87 : decode cX12_closed 87 = .ok (.goto 4, 3) := by decide +kernel
theorem dX12_closed_90 : decode cX12_closed 90 = .ok (.iconst 0, 1) := by decide +kernel
theorem dX12_closed_91 : decode cX12_closed 91 = .ok (.istore 4, 2) := by decide +kernel
theorem dX12_closed_93 : decode cX12_closed 93 = .ok (.iload 4, 2) := by decide +kernel
theorem dX12_closed_95 : decode cX12_closed 95 = .ok (.ifCond .eq 11, 3) := by decide +kernel
theorem dX12_closed_98 : decode cX12_closed 98 = .ok (.iload_n 3, 1) := by decide +kernel
theorem dX12_closed_99 : decode cX12_closed 99 = .ok (.ifCond .ne 7, 3) := by decide +kernel
theorem dX12_closed_102 : decode cX12_closed 102 = .ok (.iload_n 2, 1) := by decide +kernel
theorem dX12_closed_103 : decode cX12_closed 103 = .ok (.goto 4, 3) := by decide +kernel
theorem dX12_closed_106 : decode cX12_closed 106 = .ok (.iload_n 1, 1) := by decide +kernel
theorem dX12_closed_107 : decode cX12_closed 107 = .ok (.istore_n 1, 1) := by decide +kernel
theorem dX12_closed_108 : decode cX12_closed 108 = .ok (.iinc 2 1, 3) := by decide +kernel
theorem dX12_closed_111 : decode cX12_closed 111 = .ok (.goto (-107), 3) := by decide +kernel
theorem dX12_closed_114 : decode cX12_closed 114 = .ok (.iload_n 1, 1) := by decide +kernel
theorem dX12_closed_115 : decode cX12_closed 115 = .ok (.ireturn, 1) := by decide +kernel
theorem dX12_reads_0 : decode cX12_reads 0 = .ok (.aload_n 0, 1) := by decide +kernel
theorem dX12_reads_1 : decode cX12_reads 1 = .ok (.iload_n 1, 1) := by decide +kernel
theorem dX12_reads_2 : decode cX12_reads 2 = .ok (.invokevirtual 299, 3) := by decide +kernel
theorem dX12_reads_5 : decode cX12_reads 5 = .ok (.ifCond .ne 5, 3) := by decide +kernel
theorem dX12_reads_8 : decode cX12_reads 8 = .ok (.iconst (-1), 1) := by decide +kernel
theorem dX12_reads_9 : decode cX12_reads 9 = .ok (.ireturn, 1) := by decide +kernel
theorem dX12_reads_10 : decode cX12_reads 10 = .ok (.iconst 0, 1) := by decide +kernel
theorem dX12_reads_11 : decode cX12_reads 11 = .ok (.istore_n 2, 1) := by decide +kernel
theorem dX12_reads_12 : decode cX12_reads 12 = .ok (.iconst 0, 1) := by decide +kernel
theorem dX12_reads_13 : decode cX12_reads 13 = .ok (.istore_n 3, 1) := by decide +kernel
theorem dX12_reads_14 : decode cX12_reads 14 = .ok (.iload_n 3, 1) := by decide +kernel
theorem dX12_reads_15 : decode cX12_reads 15 = .ok (.aload_n 0, 1) := by decide +kernel
theorem dX12_reads_16 : decode cX12_reads 16 = .ok (.getfield 272, 3) := by decide +kernel
theorem dX12_reads_19 : decode cX12_reads 19 = .ok (.if_icmp .ge 28, 3) := by decide +kernel
theorem dX12_reads_22 : decode cX12_reads 22 = .ok (.iload_n 2, 1) := by decide +kernel
theorem dX12_reads_23 : decode cX12_reads 23 = .ok (.aload_n 0, 1) := by decide +kernel
theorem dX12_reads_24 : decode cX12_reads 24 = .ok (.iload_n 1, 1) := by decide +kernel
theorem dX12_reads_25 : decode cX12_reads 25 = .ok (.iload_n 3, 1) := by decide +kernel
theorem dX12_reads_26 : decode cX12_reads 26 = .ok (.invokevirtual 284, 3) := by decide +kernel
theorem dX12_reads_29 : decode cX12_reads 29 = .ok (.ifCond .eq 9, 3) := by decide +kernel
theorem dX12_reads_32 : decode cX12_reads 32 = .ok (.iconst 1, 1) := by decide +kernel
theorem dX12_reads_33 : decode cX12_reads 33 = .ok (.iload_n 3, 1) := by decide +kernel
theorem dX12_reads_34 : decode cX12_reads 34 = .ok (.ishl, 1) := by decide +kernel
theorem dX12_reads_35 : decode cX12_reads 35 = .ok (.goto 4, 3) := by decide +kernel
theorem dX12_reads_38 : decode cX12_reads 38 = .ok (.iconst 0, 1) := by decide +kernel
theorem dX12_reads_39 : decode cX12_reads 39 = .ok (.ior, 1) := by decide +kernel
theorem dX12_reads_40 : decode cX12_reads 40 = .ok (.istore_n 2, 1) := by decide +kernel
theorem dX12_reads_41 : decode cX12_reads 41 = .ok (.iinc 3 1, 3) := by decide +kernel
theorem dX12_reads_44 : decode cX12_reads 44 = .ok (.goto (-30), 3) := by decide +kernel
theorem dX12_reads_47 : decode cX12_reads 47 = .ok (.iload_n 2, 1) := by decide +kernel
theorem dX12_reads_48 : decode cX12_reads 48 = .ok (.ireturn, 1) := by decide +kernel
theorem dX12_isAhead_0 : decode cX12_isAhead 0 = .ok (.aload_n 0, 1) := by decide +kernel
theorem dX12_isAhead_1 : decode cX12_isAhead 1 = .ok (.getfield 52, 3) := by decide +kernel
theorem dX12_isAhead_4 : decode cX12_isAhead 4 = .ok (.iconst 2, 1) := by decide +kernel
theorem dX12_isAhead_5 : decode cX12_isAhead 5 = .ok (.iload_n 2, 1) := by decide +kernel
theorem dX12_isAhead_6 : decode cX12_isAhead 6 = .ok (.imul, 1) := by decide +kernel
theorem dX12_isAhead_7 : decode cX12_isAhead 7 = .ok (.iaload, 1) := by decide +kernel
theorem dX12_isAhead_8 : decode cX12_isAhead 8 = .ok (.aload_n 0, 1) := by decide +kernel
theorem dX12_isAhead_9 : decode cX12_isAhead 9 = .ok (.getfield 58, 3) := by decide +kernel
theorem dX12_isAhead_12 : decode cX12_isAhead 12 = .ok (.iconst 0, 1) := by decide +kernel
theorem dX12_isAhead_13 : decode cX12_isAhead 13 = .ok (.iload_n 1, 1) := by decide +kernel
theorem dX12_isAhead_14 : decode cX12_isAhead 14 = .ok (.iadd, 1) := by decide +kernel
theorem dX12_isAhead_15 : decode cX12_isAhead 15 = .ok (.iaload, 1) := by decide +kernel
theorem dX12_isAhead_16 : decode cX12_isAhead 16 = .ok (.if_icmp .ge 7, 3) := by decide +kernel
theorem dX12_isAhead_19 : decode cX12_isAhead 19 = .ok (.iconst 1, 1) := by decide +kernel
theorem dX12_isAhead_20 : decode cX12_isAhead 20 = .ok (.goto 4, 3) := by decide +kernel
theorem dX12_isAhead_23 : decode cX12_isAhead 23 = .ok (.iconst 0, 1) := by decide +kernel
theorem dX12_isAhead_24 : decode cX12_isAhead 24 = .ok (.ireturn, 1) := by decide +kernel
theorem dX12_away_0 : decode cX12_away 0 = .ok (.aload_n 0, 1) := by decide +kernel
theorem dX12_away_1 : decode cX12_away 1 = .ok (.iload_n 1, 1) := by decide +kernel
theorem dX12_away_2 : decode cX12_away 2 = .ok (.invokevirtual 299, 3) := by decide +kernel
theorem dX12_away_5 : decode cX12_away 5 = .ok (.ifCond .ne 5, 3) := by decide +kernel
theorem dX12_away_8 : decode cX12_away 8 = .ok (.iconst (-1), 1) := by decide +kernel
theorem dX12_away_9 : decode cX12_away 9 = .ok (.ireturn, 1) := by decide +kernel
theorem dX12_away_10 : decode cX12_away 10 = .ok (.aload_n 0, 1) := by decide +kernel
theorem dX12_away_11 : decode cX12_away 11 = .ok (.getfield 58, 3) := by decide +kernel
theorem dX12_away_14 : decode cX12_away 14 = .ok (.iconst 0, 1) := by decide +kernel
theorem dX12_away_15 : decode cX12_away 15 = .ok (.iload_n 1, 1) := by decide +kernel
theorem dX12_away_16 : decode cX12_away 16 = .ok (.iadd, 1) := by decide +kernel
theorem dX12_away_17 : decode cX12_away 17 = .ok (.iaload, 1) := by decide +kernel
theorem dX12_away_18 : decode cX12_away 18 = .ok (.aload_n 0, 1) := by decide +kernel
theorem dX12_away_19 : decode cX12_away 19 = .ok (.getfield 58, 3) := by decide +kernel
theorem dX12_away_22 : decode cX12_away 22 = .ok (.bipush 8, 2) := by decide +kernel
theorem dX12_away_24 : decode cX12_away 24 = .ok (.iload_n 1, 1) := by decide +kernel
theorem dX12_away_25 : decode cX12_away 25 = .ok (.iadd, 1) := by decide +kernel
theorem dX12_away_26 : decode cX12_away 26 = .ok (.iaload, 1) := by decide +kernel
theorem dX12_away_27 : decode cX12_away 27 = .ok (.iadd, 1) := by decide +kernel
theorem dX12_away_28 : decode cX12_away 28 = .ok (.istore_n 2, 1) := by decide +kernel
theorem dX12_away_29 : decode cX12_away 29 = .ok (.iconst 0, 1) := by decide +kernel
theorem dX12_away_30 : decode cX12_away 30 = .ok (.istore_n 3, 1) := by decide +kernel
theorem dX12_away_31 : decode cX12_away 31 = .ok (.iload_n 3, 1) := by decide +kernel
theorem dX12_away_32 : decode cX12_away 32 = .ok (.aload_n 0, 1) := by decide +kernel
theorem dX12_away_33 : decode cX12_away 33 = .ok (.getfield 253, 3) := by decide +kernel
theorem dX12_away_36 : decode cX12_away 36 = .ok (.if_icmp .ge 35, 3) := by decide +kernel
theorem dX12_away_39 : decode cX12_away 39 = .ok (.iload_n 2, 1) := by decide +kernel
theorem dX12_away_40 : decode cX12_away 40 = .ok (.aload_n 0, 1) := by decide +kernel
theorem dX12_away_41 : decode cX12_away 41 = .ok (.iload_n 1, 1) := by decide +kernel
theorem dX12_away_42 : decode cX12_away 42 = .ok (.iload_n 3, 1) := by decide +kernel
theorem dX12_away_43 : decode cX12_away 43 = .ok (.invokevirtual 416, 3) := by decide +kernel
theorem dX12_away_46 : decode cX12_away 46 = .ok (.ifCond .eq 16, 3) := by decide +kernel
theorem dX12_away_49 : decode cX12_away 49 = .ok (.aload_n 0, 1) := by decide +kernel
theorem dX12_away_50 : decode cX12_away 50 = .ok (.getfield 52, 3) := by decide +kernel
theorem dX12_away_53 : decode cX12_away 53 = .ok (.iconst 2, 1) := by decide +kernel
theorem dX12_away_54 : decode cX12_away 54 = .ok (.iload_n 3, 1) := by decide +kernel
theorem dX12_away_55 : decode cX12_away 55 = .ok (.imul, 1) := by decide +kernel
theorem dX12_away_56 : decode cX12_away 56 = .ok (.iconst 1, 1) := by decide +kernel
theorem dX12_away_57 : decode cX12_away 57 = .ok (.iadd, 1) := by decide +kernel
theorem dX12_away_58 : decode cX12_away 58 = .ok (.iaload, 1) := by decide +kernel
theorem dX12_away_59 : decode cX12_away 59 = .ok (.goto 4, 3) := by decide +kernel
theorem dX12_away_62 : decode cX12_away 62 = .ok (.iconst 0, 1) := by decide +kernel
theorem dX12_away_63 : decode cX12_away 63 = .ok (.iadd, 1) := by decide +kernel
theorem dX12_away_64 : decode cX12_away 64 = .ok (.istore_n 2, 1) := by decide +kernel
theorem dX12_away_65 : decode cX12_away 65 = .ok (.iinc 3 1, 3) := by decide +kernel
theorem dX12_away_68 : decode cX12_away 68 = .ok (.goto (-37), 3) := by decide +kernel
theorem dX12_away_71 : decode cX12_away 71 = .ok (.iload_n 2, 1) := by decide +kernel
theorem dX12_away_72 : decode cX12_away 72 = .ok (.ireturn, 1) := by decide +kernel
theorem dX12_forced_0 : decode cX12_forced 0 = .ok (.aload_n 0, 1) := by decide +kernel
theorem dX12_forced_1 : decode cX12_forced 1 = .ok (.iload_n 1, 1) := by decide +kernel
theorem dX12_forced_2 : decode cX12_forced 2 = .ok (.invokevirtual 299, 3) := by decide +kernel
theorem dX12_forced_5 : decode cX12_forced 5 = .ok (.ifCond .ne 5, 3) := by decide +kernel
theorem dX12_forced_8 : decode cX12_forced 8 = .ok (.iconst (-1), 1) := by decide +kernel
theorem dX12_forced_9 : decode cX12_forced 9 = .ok (.ireturn, 1) := by decide +kernel
theorem dX12_forced_10 : decode cX12_forced 10 = .ok (.aload_n 0, 1) := by decide +kernel
theorem dX12_forced_11 : decode cX12_forced 11 = .ok (.getfield 58, 3) := by decide +kernel
theorem dX12_forced_14 : decode cX12_forced 14 = .ok (.iconst 0, 1) := by decide +kernel
theorem dX12_forced_15 : decode cX12_forced 15 = .ok (.iload_n 1, 1) := by decide +kernel
theorem dX12_forced_16 : decode cX12_forced 16 = .ok (.iadd, 1) := by decide +kernel
theorem dX12_forced_17 : decode cX12_forced 17 = .ok (.iaload, 1) := by decide +kernel
theorem dX12_forced_18 : decode cX12_forced 18 = .ok (.istore_n 2, 1) := by decide +kernel
theorem dX12_forced_19 : decode cX12_forced 19 = .ok (.iconst 0, 1) := by decide +kernel
theorem dX12_forced_20 : decode cX12_forced 20 = .ok (.istore_n 3, 1) := by decide +kernel
theorem dX12_forced_21 : decode cX12_forced 21 = .ok (.iload_n 2, 1) := by decide +kernel
theorem dX12_forced_22 : decode cX12_forced 22 = .ok (.ifCond .le 77, 3) := by decide +kernel
theorem dX12_forced_25 : decode cX12_forced 25 = .ok (.iinc 3 1, 3) := by decide +kernel
theorem dX12_forced_28 : decode cX12_forced 28 = .ok (.iinc 2 (-1), 3) := by decide +kernel
theorem dX12_forced_31 : decode cX12_forced 31 = .ok (.iconst 0, 1) := by decide +kernel
theorem dX12_forced_32 : decode cX12_forced 32 = .ok (.istore 4, 2) := by decide +kernel
theorem dX12_forced_34 : decode cX12_forced 34 = .ok (.iload 4, 2) := by decide +kernel
theorem dX12_forced_36 : decode cX12_forced 36 = .ok (.aload_n 0, 1) := by decide +kernel
theorem dX12_forced_37 : decode cX12_forced 37 = .ok (.getfield 250, 3) := by decide +kernel
theorem dX12_forced_40 : decode cX12_forced 40 = .ok (.if_icmp .ge 56, 3) := by decide +kernel
theorem dX12_forced_43 : decode cX12_forced 43 = .ok (.iload_n 2, 1) := by decide +kernel
theorem dX12_forced_44 : decode cX12_forced 44 = .ok (.aload_n 0, 1) := by decide +kernel
theorem dX12_forced_45 : decode cX12_forced 45 = .ok (.iload 4, 2) := by decide +kernel
theorem dX12_forced_47 : decode cX12_forced 47 = .ok (.invokevirtual 278, 3) := by decide +kernel
theorem dX12_forced_50 : decode cX12_forced 50 = .ok (.aload_n 0, 1) := by decide +kernel
theorem dX12_forced_51 : decode cX12_forced 51 = .ok (.iload_n 1, 1) := by decide +kernel
theorem dX12_forced_52 : decode cX12_forced 52 = .ok (.invokevirtual 278, 3) := by decide +kernel
theorem dX12_forced_55 : decode cX12_forced 55 = .ok (.if_icmp .eq 32, 3) := by decide +kernel
theorem dX12_forced_58 : decode cX12_forced 58 = .ok (.aload_n 0, 1) := by decide +kernel
theorem dX12_forced_59 : decode cX12_forced 59 = .ok (.getfield 58, 3) := by decide +kernel
theorem dX12_forced_62 : decode cX12_forced 62 = .ok (.bipush 8, 2) := by decide +kernel
theorem dX12_forced_64 : decode cX12_forced 64 = .ok (.iload 4, 2) := by decide +kernel
theorem dX12_forced_66 : decode cX12_forced 66 = .ok (.iadd, 1) := by decide +kernel
theorem dX12_forced_67 : decode cX12_forced 67 = .ok (.iaload, 1) := by decide +kernel
theorem dX12_forced_68 : decode cX12_forced 68 = .ok (.iload_n 3, 1) := by decide +kernel
theorem dX12_forced_69 : decode cX12_forced 69 = .ok (.if_icmp .lt 18, 3) := by decide +kernel
theorem dX12_forced_72 : decode cX12_forced 72 = .ok (.aload_n 0, 1) := by decide +kernel
theorem dX12_forced_73 : decode cX12_forced 73 = .ok (.getfield 49, 3) := by decide +kernel
theorem dX12_forced_76 : decode cX12_forced 76 = .ok (.bipush 6, 2) := by decide +kernel
theorem dX12_forced_78 : decode cX12_forced 78 = .ok (.iload 4, 2) := by decide +kernel
theorem dX12_forced_80 : decode cX12_forced 80 = .ok (.imul, 1) := by decide +kernel
theorem dX12_forced_81 : decode cX12_forced 81 = .ok (.iconst 2, 1) := by decide +kernel
theorem dX12_forced_82 : decode cX12_forced 82 = .ok (.iadd, 1) := by decide +kernel
theorem dX12_forced_83 : decode cX12_forced 83 = .ok (.iaload, 1) := by decide +kernel
theorem dX12_forced_84 : decode cX12_forced 84 = .ok (.goto 4, 3) := by decide +kernel
theorem dX12_forced_87 : decode cX12_forced 87 = .ok (.iconst 0, 1) := by decide +kernel
theorem dX12_forced_88 : decode cX12_forced 88 = .ok (.isub, 1) := by decide +kernel
theorem dX12_forced_89 : decode cX12_forced 89 = .ok (.istore_n 2, 1) := by decide +kernel
theorem dX12_forced_90 : decode cX12_forced 90 = .ok (.iinc 4 1, 3) := by decide +kernel
theorem dX12_forced_93 : decode cX12_forced 93 = .ok (.goto (-59), 3) := by decide +kernel
theorem dX12_forced_96 : decode cX12_forced 96 = .ok (.goto (-75), 3) := by decide +kernel
theorem dX12_forced_99 : decode cX12_forced 99 = .ok (.iload_n 3, 1) := by decide +kernel
theorem dX12_forced_100 : decode cX12_forced 100 = .ok (.ireturn, 1) := by decide +kernel
theorem dX12_farthest_0 : decode cX12_farthest 0 = .ok (.iconst (-1), 1) := by decide +kernel
theorem dX12_farthest_1 : decode cX12_farthest 1 = .ok (.istore_n 2, 1) := by decide +kernel
theorem dX12_farthest_2 : decode cX12_farthest 2 = .ok (.iconst 0, 1) := by decide +kernel
theorem dX12_farthest_3 : decode cX12_farthest 3 = .ok (.istore_n 3, 1) := by decide +kernel
theorem dX12_farthest_4 : decode cX12_farthest 4 = .ok (.iload_n 3, 1) := by decide +kernel
theorem dX12_farthest_5 : decode cX12_farthest 5 = .ok (.aload_n 0, 1) := by decide +kernel
theorem dX12_farthest_6 : decode cX12_farthest 6 = .ok (.getfield 250, 3) := by decide +kernel
theorem dX12_farthest_9 : decode cX12_farthest 9 = .ok (.if_icmp .ge 47, 3) := by decide +kernel
theorem dX12_farthest_12 : decode cX12_farthest 12 = .ok (.iload_n 1, 1) := by decide +kernel
theorem dX12_farthest_13 : decode cX12_farthest 13 = .ok (.iload_n 3, 1) := by decide +kernel
theorem dX12_farthest_14 : decode cX12_farthest 14 = .ok (.invokestatic 217, 3) := by decide +kernel
theorem dX12_farthest_17 : decode cX12_farthest 17 = .ok (.ifCond .eq 31, 3) := by decide +kernel
theorem dX12_farthest_20 : decode cX12_farthest 20 = .ok (.iload_n 2, 1) := by decide +kernel
theorem dX12_farthest_21 : decode cX12_farthest 21 = .ok (.iconst (-1), 1) := by decide +kernel
theorem dX12_farthest_22 : decode cX12_farthest 22 = .ok (.if_icmp .eq 22, 3) := by decide +kernel
theorem dX12_farthest_25 : decode cX12_farthest 25 = .ok (.aload_n 0, 1) := by decide +kernel
theorem dX12_farthest_26 : decode cX12_farthest 26 = .ok (.getfield 58, 3) := by decide +kernel
theorem dX12_farthest_29 : decode cX12_farthest 29 = .ok (.iconst 0, 1) := by decide +kernel
theorem dX12_farthest_30 : decode cX12_farthest 30 = .ok (.iload_n 3, 1) := by decide +kernel
theorem dX12_farthest_31 : decode cX12_farthest 31 = .ok (.iadd, 1) := by decide +kernel
theorem dX12_farthest_32 : decode cX12_farthest 32 = .ok (.iaload, 1) := by decide +kernel
theorem dX12_farthest_33 : decode cX12_farthest 33 = .ok (.aload_n 0, 1) := by decide +kernel
theorem dX12_farthest_34 : decode cX12_farthest 34 = .ok (.getfield 58, 3) := by decide +kernel
theorem dX12_farthest_37 : decode cX12_farthest 37 = .ok (.iconst 0, 1) := by decide +kernel
theorem dX12_farthest_38 : decode cX12_farthest 38 = .ok (.iload_n 2, 1) := by decide +kernel
theorem dX12_farthest_39 : decode cX12_farthest 39 = .ok (.iadd, 1) := by decide +kernel
theorem dX12_farthest_40 : decode cX12_farthest 40 = .ok (.iaload, 1) := by decide +kernel
theorem dX12_farthest_41 : decode cX12_farthest 41 = .ok (.if_icmp .le 7, 3) := by decide +kernel
theorem dX12_farthest_44 : decode cX12_farthest 44 = .ok (.iload_n 3, 1) := by decide +kernel
theorem dX12_farthest_45 : decode cX12_farthest 45 = .ok (.goto 4, 3) := by decide +kernel
theorem dX12_farthest_48 : decode cX12_farthest 48 = .ok (.iload_n 2, 1) := by decide +kernel
theorem dX12_farthest_49 : decode cX12_farthest 49 = .ok (.istore_n 2, 1) := by decide +kernel
theorem dX12_farthest_50 : decode cX12_farthest 50 = .ok (.iinc 3 1, 3) := by decide +kernel
theorem dX12_farthest_53 : decode cX12_farthest 53 = .ok (.goto (-49), 3) := by decide +kernel
theorem dX12_farthest_56 : decode cX12_farthest 56 = .ok (.iload_n 2, 1) := by decide +kernel
theorem dX12_farthest_57 : decode cX12_farthest 57 = .ok (.ireturn, 1) := by decide +kernel
theorem dX12_soonest_0 : decode cX12_soonest 0 = .ok (.aload_n 0, 1) := by decide +kernel
theorem dX12_soonest_1 : decode cX12_soonest 1 = .ok (.iload_n 1, 1) := by decide +kernel
theorem dX12_soonest_2 : decode cX12_soonest 2 = .ok (.invokevirtual 381, 3) := by decide +kernel
theorem dX12_soonest_5 : decode cX12_soonest 5 = .ok (.ifCond .eq 22, 3) := by decide +kernel
theorem dX12_soonest_8 : decode cX12_soonest 8 = .ok (.aload_n 0, 1) := by decide +kernel
theorem dX12_soonest_9 : decode cX12_soonest 9 = .ok (.getfield 58, 3) := by decide +kernel
theorem dX12_soonest_12 : decode cX12_soonest 12 = .ok (.iconst 0, 1) := by decide +kernel
theorem dX12_soonest_13 : decode cX12_soonest 13 = .ok (.aload_n 0, 1) := by decide +kernel
theorem dX12_soonest_14 : decode cX12_soonest 14 = .ok (.aload_n 0, 1) := by decide +kernel
theorem dX12_soonest_15 : decode cX12_soonest 15 = .ok (.iload_n 1, 1) := by decide +kernel
theorem dX12_soonest_16 : decode cX12_soonest 16 = .ok (.invokevirtual 293, 3) := by decide +kernel
theorem dX12_soonest_19 : decode cX12_soonest 19 = .ok (.invokevirtual 419, 3) := by decide +kernel
theorem dX12_soonest_22 : decode cX12_soonest 22 = .ok (.iadd, 1) := by decide +kernel
theorem dX12_soonest_23 : decode cX12_soonest 23 = .ok (.iaload, 1) := by decide +kernel
theorem dX12_soonest_24 : decode cX12_soonest 24 = .ok (.goto 4, 3) := by decide +kernel
theorem dX12_soonest_27 : decode cX12_soonest 27 = .ok (.iconst (-1), 1) := by decide +kernel
theorem dX12_soonest_28 : decode cX12_soonest 28 = .ok (.ireturn, 1) := by decide +kernel
theorem dX12_pony_0 : decode cX12_pony 0 = .ok (.aload_n 0, 1) := by decide +kernel
theorem dX12_pony_1 : decode cX12_pony 1 = .ok (.iload_n 1, 1) := by decide +kernel
theorem dX12_pony_2 : decode cX12_pony 2 = .ok (.invokevirtual 381, 3) := by decide +kernel
theorem dX12_pony_5 : decode cX12_pony 5 = .ok (.ifCond .eq 15, 3) := by decide +kernel
theorem dX12_pony_8 : decode cX12_pony 8 = .ok (.aload_n 0, 1) := by decide +kernel
theorem dX12_pony_9 : decode cX12_pony 9 = .ok (.aload_n 0, 1) := by decide +kernel
theorem dX12_pony_10 : decode cX12_pony 10 = .ok (.iload_n 1, 1) := by decide +kernel
theorem dX12_pony_11 : decode cX12_pony 11 = .ok (.invokevirtual 293, 3) := by decide +kernel
theorem dX12_pony_14 : decode cX12_pony 14 = .ok (.invokevirtual 419, 3) := by decide +kernel
theorem dX12_pony_17 : decode cX12_pony 17 = .ok (.goto 4, 3) := by decide +kernel
theorem dX12_pony_20 : decode cX12_pony 20 = .ok (.iconst (-1), 1) := by decide +kernel
theorem dX12_pony_21 : decode cX12_pony 21 = .ok (.ireturn, 1) := by decide +kernel
theorem dX12_last_0 : decode cX12_last 0 = .ok (.aload_n 0, 1) := by decide +kernel
theorem dX12_last_1 : decode cX12_last 1 = .ok (.iconst (-1), 1) := by decide +kernel
theorem dX12_last_2 : decode cX12_last 2 = .ok (.invokevirtual 419, 3) := by decide +kernel
theorem dX12_last_5 : decode cX12_last 5 = .ok (.ireturn, 1) := by decide +kernel
theorem dX12_behind_0 : decode cX12_behind 0 = .ok (.aload_n 0, 1) := by decide +kernel
theorem dX12_behind_1 : decode cX12_behind 1 = .ok (.iload_n 1, 1) := by decide +kernel
theorem dX12_behind_2 : decode cX12_behind 2 = .ok (.invokevirtual 381, 3) := by decide +kernel
theorem dX12_behind_5 : decode cX12_behind 5 = .ok (.ifCond .eq 18, 3) := by decide +kernel
theorem dX12_behind_8 : decode cX12_behind 8 = .ok (.aload_n 0, 1) := by decide +kernel
theorem dX12_behind_9 : decode cX12_behind 9 = .ok (.iload_n 1, 1) := by decide +kernel
theorem dX12_behind_10 : decode cX12_behind 10 = .ok (.invokevirtual 293, 3) := by decide +kernel
theorem dX12_behind_13 : decode cX12_behind 13 = .ok (.aload_n 0, 1) := by decide +kernel
theorem dX12_behind_14 : decode cX12_behind 14 = .ok (.invokevirtual 290, 3) := by decide +kernel
theorem dX12_behind_17 : decode cX12_behind 17 = .ok (.iconst (-1), 1) := by decide +kernel
theorem dX12_behind_18 : decode cX12_behind 18 = .ok (.ixor, 1) := by decide +kernel
theorem dX12_behind_19 : decode cX12_behind 19 = .ok (.iand, 1) := by decide +kernel
theorem dX12_behind_20 : decode cX12_behind 20 = .ok (.goto 4, 3) := by decide +kernel
theorem dX12_behind_23 : decode cX12_behind 23 = .ok (.iconst (-1), 1) := by decide +kernel
theorem dX12_behind_24 : decode cX12_behind 24 = .ok (.ireturn, 1) := by decide +kernel
theorem dX12_next_0 : decode cX12_next 0 = .ok (.iconst (-1), 1) := by decide +kernel
theorem dX12_next_1 : decode cX12_next 1 = .ok (.istore_n 2, 1) := by decide +kernel
theorem dX12_next_2 : decode cX12_next 2 = .ok (.iconst 0, 1) := by decide +kernel
theorem dX12_next_3 : decode cX12_next 3 = .ok (.istore_n 3, 1) := by decide +kernel
theorem dX12_next_4 : decode cX12_next 4 = .ok (.aload_n 0, 1) := by decide +kernel
theorem dX12_next_5 : decode cX12_next 5 = .ok (.iload_n 1, 1) := by decide +kernel
theorem dX12_next_6 : decode cX12_next 6 = .ok (.invokevirtual 299, 3) := by decide +kernel
theorem dX12_next_9 : decode cX12_next 9 = .ok (.ifCond .eq 56, 3) := by decide +kernel
theorem dX12_next_12 : decode cX12_next 12 = .ok (.iload_n 3, 1) := by decide +kernel
theorem dX12_next_13 : decode cX12_next 13 = .ok (.aload_n 0, 1) := by decide +kernel
theorem dX12_next_14 : decode cX12_next 14 = .ok (.getfield 253, 3) := by decide +kernel
theorem dX12_next_17 : decode cX12_next 17 = .ok (.if_icmp .ge 48, 3) := by decide +kernel
theorem dX12_next_20 : decode cX12_next 20 = .ok (.aload_n 0, 1) := by decide +kernel
theorem dX12_next_21 : decode cX12_next 21 = .ok (.iload_n 1, 1) := by decide +kernel
theorem dX12_next_22 : decode cX12_next 22 = .ok (.iload_n 3, 1) := by decide +kernel
theorem dX12_next_23 : decode cX12_next 23 = .ok (.invokevirtual 416, 3) := by decide +kernel
theorem dX12_next_26 : decode cX12_next 26 = .ok (.ifCond .eq 31, 3) := by decide +kernel
theorem dX12_next_29 : decode cX12_next 29 = .ok (.iload_n 2, 1) := by decide +kernel
theorem dX12_next_30 : decode cX12_next 30 = .ok (.iconst (-1), 1) := by decide +kernel
theorem dX12_next_31 : decode cX12_next 31 = .ok (.if_icmp .eq 22, 3) := by decide +kernel
theorem dX12_next_34 : decode cX12_next 34 = .ok (.aload_n 0, 1) := by decide +kernel
theorem dX12_next_35 : decode cX12_next 35 = .ok (.getfield 52, 3) := by decide +kernel
theorem dX12_next_38 : decode cX12_next 38 = .ok (.iconst 2, 1) := by decide +kernel
theorem dX12_next_39 : decode cX12_next 39 = .ok (.iload_n 3, 1) := by decide +kernel
theorem dX12_next_40 : decode cX12_next 40 = .ok (.imul, 1) := by decide +kernel
theorem dX12_next_41 : decode cX12_next 41 = .ok (.iaload, 1) := by decide +kernel
theorem dX12_next_42 : decode cX12_next 42 = .ok (.aload_n 0, 1) := by decide +kernel
theorem dX12_next_43 : decode cX12_next 43 = .ok (.getfield 52, 3) := by decide +kernel
theorem dX12_next_46 : decode cX12_next 46 = .ok (.iconst 2, 1) := by decide +kernel
theorem dX12_next_47 : decode cX12_next 47 = .ok (.iload_n 2, 1) := by decide +kernel
theorem dX12_next_48 : decode cX12_next 48 = .ok (.imul, 1) := by decide +kernel
theorem dX12_next_49 : decode cX12_next 49 = .ok (.iaload, 1) := by decide +kernel
theorem dX12_next_50 : decode cX12_next 50 = .ok (.if_icmp .le 7, 3) := by decide +kernel
theorem dX12_next_53 : decode cX12_next 53 = .ok (.iload_n 3, 1) := by decide +kernel
theorem dX12_next_54 : decode cX12_next 54 = .ok (.goto 4, 3) := by decide +kernel
theorem dX12_next_57 : decode cX12_next 57 = .ok (.iload_n 2, 1) := by decide +kernel
theorem dX12_next_58 : decode cX12_next 58 = .ok (.istore_n 2, 1) := by decide +kernel
theorem dX12_next_59 : decode cX12_next 59 = .ok (.iinc 3 1, 3) := by decide +kernel
theorem dX12_next_62 : decode cX12_next 62 = .ok (.goto (-58), 3) := by decide +kernel
theorem dX12_next_65 : decode cX12_next 65 = .ok (.iload_n 2, 1) := by decide +kernel
theorem dX12_next_66 : decode cX12_next 66 = .ok (.ireturn, 1) := by decide +kernel
theorem dX12_ahead_0 : decode cX12_ahead 0 = .ok (.aload_n 0, 1) := by decide +kernel
theorem dX12_ahead_1 : decode cX12_ahead 1 = .ok (.iload_n 1, 1) := by decide +kernel
theorem dX12_ahead_2 : decode cX12_ahead 2 = .ok (.invokevirtual 299, 3) := by decide +kernel
theorem dX12_ahead_5 : decode cX12_ahead 5 = .ok (.ifCond .ne 5, 3) := by decide +kernel
theorem dX12_ahead_8 : decode cX12_ahead 8 = .ok (.iconst (-1), 1) := by decide +kernel
theorem dX12_ahead_9 : decode cX12_ahead 9 = .ok (.ireturn, 1) := by decide +kernel
theorem dX12_ahead_10 : decode cX12_ahead 10 = .ok (.iconst 0, 1) := by decide +kernel
theorem dX12_ahead_11 : decode cX12_ahead 11 = .ok (.istore_n 2, 1) := by decide +kernel
theorem dX12_ahead_12 : decode cX12_ahead 12 = .ok (.iconst 0, 1) := by decide +kernel
theorem dX12_ahead_13 : decode cX12_ahead 13 = .ok (.istore_n 3, 1) := by decide +kernel
theorem dX12_ahead_14 : decode cX12_ahead 14 = .ok (.iload_n 3, 1) := by decide +kernel
theorem dX12_ahead_15 : decode cX12_ahead 15 = .ok (.aload_n 0, 1) := by decide +kernel
theorem dX12_ahead_16 : decode cX12_ahead 16 = .ok (.getfield 253, 3) := by decide +kernel
theorem dX12_ahead_19 : decode cX12_ahead 19 = .ok (.if_icmp .ge 28, 3) := by decide +kernel
theorem dX12_ahead_22 : decode cX12_ahead 22 = .ok (.iload_n 2, 1) := by decide +kernel
theorem dX12_ahead_23 : decode cX12_ahead 23 = .ok (.aload_n 0, 1) := by decide +kernel
theorem dX12_ahead_24 : decode cX12_ahead 24 = .ok (.iload_n 1, 1) := by decide +kernel
theorem dX12_ahead_25 : decode cX12_ahead 25 = .ok (.iload_n 3, 1) := by decide +kernel
theorem dX12_ahead_26 : decode cX12_ahead 26 = .ok (.invokevirtual 416, 3) := by decide +kernel
theorem dX12_ahead_29 : decode cX12_ahead 29 = .ok (.ifCond .eq 9, 3) := by decide +kernel
theorem dX12_ahead_32 : decode cX12_ahead 32 = .ok (.iconst 1, 1) := by decide +kernel
theorem dX12_ahead_33 : decode cX12_ahead 33 = .ok (.iload_n 3, 1) := by decide +kernel
theorem dX12_ahead_34 : decode cX12_ahead 34 = .ok (.ishl, 1) := by decide +kernel
theorem dX12_ahead_35 : decode cX12_ahead 35 = .ok (.goto 4, 3) := by decide +kernel
theorem dX12_ahead_38 : decode cX12_ahead 38 = .ok (.iconst 0, 1) := by decide +kernel
theorem dX12_ahead_39 : decode cX12_ahead 39 = .ok (.ior, 1) := by decide +kernel
theorem dX12_ahead_40 : decode cX12_ahead 40 = .ok (.istore_n 2, 1) := by decide +kernel
theorem dX12_ahead_41 : decode cX12_ahead 41 = .ok (.iinc 3 1, 3) := by decide +kernel
theorem dX12_ahead_44 : decode cX12_ahead 44 = .ok (.goto (-30), 3) := by decide +kernel
theorem dX12_ahead_47 : decode cX12_ahead 47 = .ok (.iload_n 2, 1) := by decide +kernel
theorem dX12_ahead_48 : decode cX12_ahead 48 = .ok (.ireturn, 1) := by decide +kernel
theorem dX12_even_0 : decode cX12_even 0 = .ok (.aload_n 0, 1) := by decide +kernel
theorem dX12_even_1 : decode cX12_even 1 = .ok (.getfield 250, 3) := by decide +kernel
theorem dX12_even_4 : decode cX12_even 4 = .ok (.ifCond .ne 5, 3) := by decide +kernel
theorem dX12_even_7 : decode cX12_even 7 = .ok (.iconst (-1), 1) := by decide +kernel
theorem dX12_even_8 : decode cX12_even 8 = .ok (.ireturn, 1) := by decide +kernel
theorem dX12_even_9 : decode cX12_even 9 = .ok (.iconst 0, 1) := by decide +kernel
theorem dX12_even_10 : decode cX12_even 10 = .ok (.istore_n 1, 1) := by decide +kernel
theorem dX12_even_11 : decode cX12_even 11 = .ok (.iconst 0, 1) := by decide +kernel
theorem dX12_even_12 : decode cX12_even 12 = .ok (.istore_n 2, 1) := by decide +kernel
theorem dX12_even_13 : decode cX12_even 13 = .ok (.iload_n 2, 1) := by decide +kernel
theorem dX12_even_14 : decode cX12_even 14 = .ok (.aload_n 0, 1) := by decide +kernel
theorem dX12_even_15 : decode cX12_even 15 = .ok (.getfield 250, 3) := by decide +kernel
theorem dX12_even_18 : decode cX12_even 18 = .ok (.if_icmp .ge 40, 3) := by decide +kernel
theorem dX12_even_21 : decode cX12_even 21 = .ok (.iload_n 1, 1) := by decide +kernel
theorem dX12_even_22 : decode cX12_even 22 = .ok (.aload_n 0, 1) := by decide +kernel
theorem dX12_even_23 : decode cX12_even 23 = .ok (.iload_n 2, 1) := by decide +kernel
theorem dX12_even_24 : decode cX12_even 24 = .ok (.invokevirtual 278, 3) := by decide +kernel
theorem dX12_even_27 : decode cX12_even 27 = .ok (.ifCond .ne 14, 3) := by decide +kernel
theorem dX12_even_30 : decode cX12_even 30 = .ok (.aload_n 0, 1) := by decide +kernel
theorem dX12_even_31 : decode cX12_even 31 = .ok (.getfield 58, 3) := by decide +kernel
theorem dX12_even_34 : decode cX12_even 34 = .ok (.iconst 0, 1) := by decide +kernel
theorem dX12_even_35 : decode cX12_even 35 = .ok (.iload_n 2, 1) := by decide +kernel
theorem dX12_even_36 : decode cX12_even 36 = .ok (.iadd, 1) := by decide +kernel
theorem dX12_even_37 : decode cX12_even 37 = .ok (.iaload, 1) := by decide +kernel
theorem dX12_even_38 : decode cX12_even 38 = .ok (.goto 12, 3) := by decide +kernel
theorem dX12_even_41 : decode cX12_even 41 = .ok (.aload_n 0, 1) := by decide +kernel
theorem dX12_even_42 : decode cX12_even 42 = .ok (.getfield 58, 3) := by decide +kernel
theorem dX12_even_45 : decode cX12_even 45 = .ok (.iconst 0, 1) := by decide +kernel
theorem dX12_even_46 : decode cX12_even 46 = .ok (.iload_n 2, 1) := by decide +kernel
theorem dX12_even_47 : decode cX12_even 47 = .ok (.iadd, 1) := by decide +kernel
theorem dX12_even_48 : decode cX12_even 48 = .ok (.iaload, 1) := by decide +kernel
theorem dX12_even_49 : decode cX12_even 49 = .ok (.ineg, 1) := by decide +kernel
theorem dX12_even_50 : decode cX12_even 50 = .ok (.iadd, 1) := by decide +kernel
theorem dX12_even_51 : decode cX12_even 51 = .ok (.istore_n 1, 1) := by decide +kernel
theorem dX12_even_52 : decode cX12_even 52 = .ok (.iinc 2 1, 3) := by decide +kernel
theorem dX12_even_55 : decode cX12_even 55 = .ok (.goto (-42), 3) := by decide +kernel
theorem dX12_even_58 : decode cX12_even 58 = .ok (.iload_n 1, 1) := by decide +kernel
theorem dX12_even_59 : decode cX12_even 59 = .ok (.ifCond .ne 7, 3) := by decide +kernel
theorem dX12_even_62 : decode cX12_even 62 = .ok (.iconst 1, 1) := by decide +kernel
theorem dX12_even_63 : decode cX12_even 63 = .ok (.goto 4, 3) := by decide +kernel
theorem dX12_even_66 : decode cX12_even 66 = .ok (.iconst 0, 1) := by decide +kernel
theorem dX12_even_67 : decode cX12_even 67 = .ok (.ireturn, 1) := by decide +kernel
theorem dX12_meeting_0 : decode cX12_meeting 0 = .ok (.aload_n 0, 1) := by decide +kernel
theorem dX12_meeting_1 : decode cX12_meeting 1 = .ok (.iload_n 1, 1) := by decide +kernel
theorem dX12_meeting_2 : decode cX12_meeting 2 = .ok (.invokevirtual 299, 3) := by decide +kernel
theorem dX12_meeting_5 : decode cX12_meeting 5 = .ok (.ifCond .eq 34, 3) := by decide +kernel
theorem dX12_meeting_8 : decode cX12_meeting 8 = .ok (.aload_n 0, 1) := by decide +kernel
theorem dX12_meeting_9 : decode cX12_meeting 9 = .ok (.iload_n 2, 1) := by decide +kernel
theorem dX12_meeting_10 : decode cX12_meeting 10 = .ok (.invokevirtual 299, 3) := by decide +kernel
theorem dX12_meeting_13 : decode cX12_meeting 13 = .ok (.ifCond .eq 26, 3) := by decide +kernel
theorem dX12_meeting_16 : decode cX12_meeting 16 = .ok (.aload_n 0, 1) := by decide +kernel
theorem dX12_meeting_17 : decode cX12_meeting 17 = .ok (.getfield 58, 3) := by decide +kernel
theorem dX12_meeting_20 : decode cX12_meeting 20 = .ok (.iconst 0, 1) := by decide +kernel
theorem dX12_meeting_21 : decode cX12_meeting 21 = .ok (.iload_n 1, 1) := by decide +kernel
theorem dX12_meeting_22 : decode cX12_meeting 22 = .ok (.iadd, 1) := by decide +kernel
theorem dX12_meeting_23 : decode cX12_meeting 23 = .ok (.iaload, 1) := by decide +kernel
theorem dX12_meeting_24 : decode cX12_meeting 24 = .ok (.aload_n 0, 1) := by decide +kernel
theorem dX12_meeting_25 : decode cX12_meeting 25 = .ok (.getfield 58, 3) := by decide +kernel
theorem dX12_meeting_28 : decode cX12_meeting 28 = .ok (.iconst 0, 1) := by decide +kernel
theorem dX12_meeting_29 : decode cX12_meeting 29 = .ok (.iload_n 2, 1) := by decide +kernel
theorem dX12_meeting_30 : decode cX12_meeting 30 = .ok (.iadd, 1) := by decide +kernel
theorem dX12_meeting_31 : decode cX12_meeting 31 = .ok (.iaload, 1) := by decide +kernel
theorem dX12_meeting_32 : decode cX12_meeting 32 = .ok (.isub, 1) := by decide +kernel
theorem dX12_meeting_33 : decode cX12_meeting 33 = .ok (.invokestatic 378, 3) := by decide +kernel
theorem dX12_meeting_36 : decode cX12_meeting 36 = .ok (.goto 4, 3) := by decide +kernel
theorem dX12_meeting_39 : decode cX12_meeting 39 = .ok (.iconst (-1), 1) := by decide +kernel
theorem dX12_meeting_40 : decode cX12_meeting 40 = .ok (.ireturn, 1) := by decide +kernel
theorem dX12_weary_0 : decode cX12_weary 0 = .ok (.aload_n 0, 1) := by decide +kernel
theorem dX12_weary_1 : decode cX12_weary 1 = .ok (.invokevirtual 290, 3) := by decide +kernel
theorem dX12_weary_4 : decode cX12_weary 4 = .ok (.istore_n 1, 1) := by decide +kernel
theorem dX12_weary_5 : decode cX12_weary 5 = .ok (.iconst (-1), 1) := by decide +kernel
theorem dX12_weary_6 : decode cX12_weary 6 = .ok (.istore_n 2, 1) := by decide +kernel
