theorem dX5_court_84 : decode cX5_court 84 = .ok (.aload_n 0, 1) := by decide +kernel
theorem dX5_court_85 : decode cX5_court 85 = .ok (.aload_n 0, 1) := by decide +kernel
theorem dX5_court_86 : decode cX5_court 86 = .ok (.getfield 105, 3) := by decide +kernel
theorem dX5_court_89 : decode cX5_court 89 = .ok (.putfield 108, 3) := by decide +kernel
theorem dX5_court_92 : decode cX5_court 92 = .ok (.aload_n 0, 1) := by decide +kernel
theorem dX5_court_93 : decode cX5_court 93 = .ok (.aload_n 0, 1) := by decide +kernel
theorem dX5_court_94 : decode cX5_court 94 = .ok (.getfield 111, 3) := by decide +kernel
theorem dX5_court_97 : decode cX5_court 97 = .ok (.putfield 78, 3) := by decide +kernel
theorem dX5_court_100 : decode cX5_court 100 = .ok (.aload_n 0, 1) := by decide +kernel
theorem dX5_court_101 : decode cX5_court 101 = .ok (.aload_n 0, 1) := by decide +kernel
theorem dX5_court_102 : decode cX5_court 102 = .ok (.getfield 114, 3) := by decide +kernel
theorem dX5_court_105 : decode cX5_court 105 = .ok (.putfield 81, 3) := by decide +kernel
theorem dX5_court_108 : decode cX5_court 108 = .ok (.iconst 0, 1) := by decide +kernel
theorem dX5_court_109 : decode cX5_court 109 = .ok (.istore 7, 2) := by decide +kernel
theorem dX5_court_111 : decode cX5_court 111 = .ok (.iload 7, 2) := by decide +kernel
theorem dX5_court_113 : decode cX5_court 113 = .ok (.aload_n 0, 1) := by decide +kernel
theorem dX5_court_114 : decode cX5_court 114 = .ok (.getfield 78, 3) := by decide +kernel
theorem dX5_court_117 : decode cX5_court 117 = .ok (.if_icmp .ge 59, 3) := by decide +kernel
theorem dX5_court_120 : decode cX5_court 120 = .ok (.aload_n 0, 1) := by decide +kernel
theorem dX5_court_121 : decode cX5_court 121 = .ok (.getfield 19, 3) := by decide +kernel
theorem dX5_court_124 : decode cX5_court 124 = .ok (.iload 7, 2) := by decide +kernel
theorem dX5_court_126 : decode cX5_court 126 = .ok (.aload_n 0, 1) := by decide +kernel
theorem dX5_court_127 : decode cX5_court 127 = .ok (.getfield 41, 3) := by decide +kernel
theorem dX5_court_130 : decode cX5_court 130 = .ok (.iconst 2, 1) := by decide +kernel
theorem dX5_court_131 : decode cX5_court 131 = .ok (.iload 7, 2) := by decide +kernel
theorem dX5_court_133 : decode cX5_court 133 = .ok (.imul, 1) := by decide +kernel
theorem dX5_court_134 : decode cX5_court 134 = .ok (.iaload, 1) := by decide +kernel
theorem dX5_court_135 : decode cX5_court 135 = .ok (.iastore, 1) := by decide +kernel
theorem dX5_court_136 : decode cX5_court 136 = .ok (.aload_n 0, 1) := by decide +kernel
theorem dX5_court_137 : decode cX5_court 137 = .ok (.getfield 22, 3) := by decide +kernel
theorem dX5_court_140 : decode cX5_court 140 = .ok (.iload 7, 2) := by decide +kernel
theorem dX5_court_142 : decode cX5_court 142 = .ok (.aload_n 0, 1) := by decide +kernel
theorem dX5_court_143 : decode cX5_court 143 = .ok (.getfield 41, 3) := by decide +kernel
theorem dX5_court_146 : decode cX5_court 146 = .ok (.iconst 2, 1) := by decide +kernel
theorem dX5_court_147 : decode cX5_court 147 = .ok (.iload 7, 2) := by decide +kernel
theorem dX5_court_149 : decode cX5_court 149 = .ok (.imul, 1) := by decide +kernel
theorem dX5_court_150 : decode cX5_court 150 = .ok (.iconst 1, 1) := by decide +kernel
theorem dX5_court_151 : decode cX5_court 151 = .ok (.iadd, 1) := by decide +kernel
theorem dX5_court_152 : decode cX5_court 152 = .ok (.iaload, 1) := by decide +kernel
theorem dX5_court_153 : decode cX5_court 153 = .ok (.iastore, 1) := by decide +kernel
theorem dX5_court_154 : decode cX5_court 154 = .ok (.aload_n 0, 1) := by decide +kernel
theorem dX5_court_155 : decode cX5_court 155 = .ok (.getfield 25, 3) := by decide +kernel
theorem dX5_court_158 : decode cX5_court 158 = .ok (.iload 7, 2) := by decide +kernel
theorem dX5_court_160 : decode cX5_court 160 = .ok (.iconst 0, 1) := by decide +kernel
theorem dX5_court_161 : decode cX5_court 161 = .ok (.bastore, 1) := by decide +kernel
theorem dX5_court_162 : decode cX5_court 162 = .ok (.aload_n 0, 1) := by decide +kernel
theorem dX5_court_163 : decode cX5_court 163 = .ok (.getfield 29, 3) := by decide +kernel
theorem dX5_court_166 : decode cX5_court 166 = .ok (.iload 7, 2) := by decide +kernel
theorem dX5_court_168 : decode cX5_court 168 = .ok (.iconst 0, 1) := by decide +kernel
theorem dX5_court_169 : decode cX5_court 169 = .ok (.bastore, 1) := by decide +kernel
theorem dX5_court_170 : decode cX5_court 170 = .ok (.iinc 7 1, 3) := by decide +kernel
theorem dX5_court_173 : decode cX5_court 173 = .ok (.goto (-62), 3) := by decide +kernel
theorem dX5_court_176 : decode cX5_court 176 = .ok (.iconst 0, 1) := by decide +kernel
theorem dX5_court_177 : decode cX5_court 177 = .ok (.istore 7, 2) := by decide +kernel
theorem dX5_court_179 : decode cX5_court 179 = .ok (.iload 7, 2) := by decide +kernel
theorem dX5_court_181 : decode cX5_court 181 = .ok (.aload_n 0, 1) := by decide +kernel
theorem dX5_court_182 : decode cX5_court 182 = .ok (.getfield 81, 3) := by decide +kernel
theorem dX5_court_185 : decode cX5_court 185 = .ok (.if_icmp .ge 61, 3) := by decide +kernel
theorem dX5_court_188 : decode cX5_court 188 = .ok (.aload_n 0, 1) := by decide +kernel
theorem dX5_court_189 : decode cX5_court 189 = .ok (.getfield 32, 3) := by decide +kernel
theorem dX5_court_192 : decode cX5_court 192 = .ok (.iload 7, 2) := by decide +kernel
theorem dX5_court_194 : decode cX5_court 194 = .ok (.aload_n 0, 1) := by decide +kernel
theorem dX5_court_195 : decode cX5_court 195 = .ok (.getfield 44, 3) := by decide +kernel
theorem dX5_court_198 : decode cX5_court 198 = .ok (.iconst 3, 1) := by decide +kernel
theorem dX5_court_199 : decode cX5_court 199 = .ok (.iload 7, 2) := by decide +kernel
theorem dX5_court_201 : decode cX5_court 201 = .ok (.imul, 1) := by decide +kernel
theorem dX5_court_202 : decode cX5_court 202 = .ok (.iaload, 1) := by decide +kernel
theorem dX5_court_203 : decode cX5_court 203 = .ok (.iastore, 1) := by decide +kernel
theorem dX5_court_204 : decode cX5_court 204 = .ok (.aload_n 0, 1) := by decide +kernel
theorem dX5_court_205 : decode cX5_court 205 = .ok (.getfield 35, 3) := by decide +kernel
theorem dX5_court_208 : decode cX5_court 208 = .ok (.iload 7, 2) := by decide +kernel
theorem dX5_court_210 : decode cX5_court 210 = .ok (.aload_n 0, 1) := by decide +kernel
theorem dX5_court_211 : decode cX5_court 211 = .ok (.getfield 44, 3) := by decide +kernel
theorem dX5_court_214 : decode cX5_court 214 = .ok (.iconst 3, 1) := by decide +kernel
theorem dX5_court_215 : decode cX5_court 215 = .ok (.iload 7, 2) := by decide +kernel
theorem dX5_court_217 : decode cX5_court 217 = .ok (.imul, 1) := by decide +kernel
theorem dX5_court_218 : decode cX5_court 218 = .ok (.iconst 1, 1) := by decide +kernel
theorem dX5_court_219 : decode cX5_court 219 = .ok (.iadd, 1) := by decide +kernel
theorem dX5_court_220 : decode cX5_court 220 = .ok (.iaload, 1) := by decide +kernel
theorem dX5_court_221 : decode cX5_court 221 = .ok (.iastore, 1) := by decide +kernel
theorem dX5_court_222 : decode cX5_court 222 = .ok (.aload_n 0, 1) := by decide +kernel
theorem dX5_court_223 : decode cX5_court 223 = .ok (.getfield 38, 3) := by decide +kernel
theorem dX5_court_226 : decode cX5_court 226 = .ok (.iload 7, 2) := by decide +kernel
theorem dX5_court_228 : decode cX5_court 228 = .ok (.aload_n 0, 1) := by decide +kernel
theorem dX5_court_229 : decode cX5_court 229 = .ok (.getfield 44, 3) := by decide +kernel
theorem dX5_court_232 : decode cX5_court 232 = .ok (.iconst 3, 1) := by decide +kernel
theorem dX5_court_233 : decode cX5_court 233 = .ok (.iload 7, 2) := by decide +kernel
theorem dX5_court_235 : decode cX5_court 235 = .ok (.imul, 1) := by decide +kernel
theorem dX5_court_236 : decode cX5_court 236 = .ok (.iconst 2, 1) := by decide +kernel
theorem dX5_court_237 : decode cX5_court 237 = .ok (.iadd, 1) := by decide +kernel
theorem dX5_court_238 : decode cX5_court 238 = .ok (.iaload, 1) := by decide +kernel
theorem dX5_court_239 : decode cX5_court 239 = .ok (.iastore, 1) := by decide +kernel
theorem dX5_court_240 : decode cX5_court 240 = .ok (.iinc 7 1, 3) := by decide +kernel
theorem dX5_court_243 : decode cX5_court 243 = .ok (.goto (-64), 3) := by decide +kernel
theorem dX5_court_246 : decode cX5_court 246 = .ok (.aload_n 0, 1) := by decide +kernel
theorem dX5_court_247 : decode cX5_court 247 = .ok (.iconst 0, 1) := by decide +kernel
theorem dX5_court_248 : decode cX5_court 248 = .ok (.putfield 117, 3) := by decide +kernel
theorem dX5_court_251 : decode cX5_court 251 = .ok (.aload_n 0, 1) := by decide +kernel
theorem dX5_court_252 : decode cX5_court 252 = .ok (.iconst 0, 1) := by decide +kernel
theorem dX5_court_253 : decode cX5_court 253 = .ok (.putfield 120, 3) := by decide +kernel
theorem dX5_court_256 : decode cX5_court 256 = .ok (.aload_n 0, 1) := by decide +kernel
theorem dX5_court_257 : decode cX5_court 257 = .ok (.getfield 81, 3) := by decide +kernel
theorem dX5_court_260 : decode cX5_court 260 = .ok (.ireturn, 1) := by decide +kernel
theorem dX5_readCourt_0 : decode cX5_readCourt 0 = .ok (.aload_n 0, 1) := by decide +kernel
theorem dX5_readCourt_1 : decode cX5_readCourt 1 = .ok (.iconst 0, 1) := by decide +kernel
theorem dX5_readCourt_2 : decode cX5_readCourt 2 = .ok (.putfield 111, 3) := by decide +kernel
theorem dX5_readCourt_5 : decode cX5_readCourt 5 = .ok (.aload_n 0, 1) := by decide +kernel
theorem dX5_readCourt_6 : decode cX5_readCourt 6 = .ok (.iconst 0, 1) := by decide +kernel
theorem dX5_readCourt_7 : decode cX5_readCourt 7 = .ok (.putfield 114, 3) := by decide +kernel
theorem dX5_readCourt_10 : decode cX5_readCourt 10 = .ok (.aload_n 0, 1) := by decide +kernel
theorem dX5_readCourt_11 : decode cX5_readCourt 11 = .ok (.iload_n 1, 1) := by decide +kernel
theorem dX5_readCourt_12 : decode cX5_readCourt 12 = .ok (.bipush 107, 2) := by decide +kernel
theorem dX5_readCourt_14 : decode cX5_readCourt 14 = .ok (.invokevirtual 123, 3) := by decide +kernel
theorem dX5_readCourt_17 : decode cX5_readCourt 17 = .ok (.ifCond .eq 29, 3) := by decide +kernel
theorem dX5_readCourt_20 : decode cX5_readCourt 20 = .ok (.aload_n 0, 1) := by decide +kernel
theorem dX5_readCourt_21 : decode cX5_readCourt 21 = .ok (.iload_n 1, 1) := by decide +kernel
theorem dX5_readCourt_22 : decode cX5_readCourt 22 = .ok (.invokevirtual 127, 3) := by decide +kernel
theorem dX5_readCourt_25 : decode cX5_readCourt 25 = .ok (.ifCond .eq 21, 3) := by decide +kernel
theorem dX5_readCourt_28 : decode cX5_readCourt 28 = .ok (.aload_n 0, 1) := by decide +kernel
theorem dX5_readCourt_29 : decode cX5_readCourt 29 = .ok (.iload_n 1, 1) := by decide +kernel
theorem dX5_readCourt_30 : decode cX5_readCourt 30 = .ok (.bipush 44, 2) := by decide +kernel
theorem dX5_readCourt_32 : decode cX5_readCourt 32 = .ok (.invokevirtual 123, 3) := by decide +kernel
theorem dX5_readCourt_35 : decode cX5_readCourt 35 = .ok (.ifCond .eq 11, 3) := by decide +kernel
theorem dX5_readCourt_38 : decode cX5_readCourt 38 = .ok (.aload_n 0, 1) := by decide +kernel
theorem dX5_readCourt_39 : decode cX5_readCourt 39 = .ok (.iload_n 1, 1) := by decide +kernel
theorem dX5_readCourt_40 : decode cX5_readCourt 40 = .ok (.invokevirtual 130, 3) := by decide +kernel
theorem dX5_readCourt_43 : decode cX5_readCourt 43 = .ok (.ifCond .ne 5, 3) := by decide +kernel
theorem dX5_readCourt_46 : decode cX5_readCourt 46 = .ok (.iconst 0, 1) := by decide +kernel
theorem dX5_readCourt_47 : decode cX5_readCourt 47 = .ok (.ireturn, 1) := by decide +kernel
theorem dX5_readCourt_48 : decode cX5_readCourt 48 = .ok (.aload_n 0, 1) := by decide +kernel
theorem dX5_readCourt_49 : decode cX5_readCourt 49 = .ok (.getfield 111, 3) := by decide +kernel
theorem dX5_readCourt_52 : decode cX5_readCourt 52 = .ok (.iconst 5, 1) := by decide +kernel
theorem dX5_readCourt_53 : decode cX5_readCourt 53 = .ok (.if_icmp .ge 23, 3) := by decide +kernel
theorem dX5_readCourt_56 : decode cX5_readCourt 56 = .ok (.aload_n 0, 1) := by decide +kernel
theorem dX5_readCourt_57 : decode cX5_readCourt 57 = .ok (.iload_n 1, 1) := by decide +kernel
theorem dX5_readCourt_58 : decode cX5_readCourt 58 = .ok (.bipush 44, 2) := by decide +kernel
theorem dX5_readCourt_60 : decode cX5_readCourt 60 = .ok (.invokevirtual 123, 3) := by decide +kernel
theorem dX5_readCourt_63 : decode cX5_readCourt 63 = .ok (.ifCond .eq 13, 3) := by decide +kernel
theorem dX5_readCourt_66 : decode cX5_readCourt 66 = .ok (.aload_n 0, 1) := by decide +kernel
theorem dX5_readCourt_67 : decode cX5_readCourt 67 = .ok (.iload_n 1, 1) := by decide +kernel
theorem dX5_readCourt_68 : decode cX5_readCourt 68 = .ok (.invokevirtual 130, 3) := by decide +kernel
theorem dX5_readCourt_71 : decode cX5_readCourt 71 = .ok (.ifCond .ne (-23), 3) := by decide +kernel
theorem dX5_readCourt_74 : decode cX5_readCourt 74 = .ok (.iconst 0, 1) := by decide +kernel
theorem dX5_readCourt_75 : decode cX5_readCourt 75 = .ok (.ireturn, 1) := by decide +kernel
theorem dX5_readCourt_76 : decode cX5_readCourt 76 = .ok (.aload_n 0, 1) := by decide +kernel
theorem dX5_readCourt_77 : decode cX5_readCourt 77 = .ok (.iload_n 1, 1) := by decide +kernel
theorem dX5_readCourt_78 : decode cX5_readCourt 78 = .ok (.bipush 59, 2) := by decide +kernel
theorem dX5_readCourt_80 : decode cX5_readCourt 80 = .ok (.invokevirtual 123, 3) := by decide +kernel
theorem dX5_readCourt_83 : decode cX5_readCourt 83 = .ok (.ifCond .eq 11, 3) := by decide +kernel
theorem dX5_readCourt_86 : decode cX5_readCourt 86 = .ok (.aload_n 0, 1) := by decide +kernel
theorem dX5_readCourt_87 : decode cX5_readCourt 87 = .ok (.iload_n 1, 1) := by decide +kernel
theorem dX5_readCourt_88 : decode cX5_readCourt 88 = .ok (.invokevirtual 133, 3) := by decide +kernel
theorem dX5_readCourt_91 : decode cX5_readCourt 91 = .ok (.ifCond .ne 5, 3) := by decide +kernel
theorem dX5_readCourt_94 : decode cX5_readCourt 94 = .ok (.iconst 0, 1) := by decide +kernel
theorem dX5_readCourt_95 : decode cX5_readCourt 95 = .ok (.ireturn, 1) := by decide +kernel
theorem dX5_readCourt_96 : decode cX5_readCourt 96 = .ok (.aload_n 0, 1) := by decide +kernel
theorem dX5_readCourt_97 : decode cX5_readCourt 97 = .ok (.getfield 114, 3) := by decide +kernel
theorem dX5_readCourt_100 : decode cX5_readCourt 100 = .ok (.iconst 5, 1) := by decide +kernel
theorem dX5_readCourt_101 : decode cX5_readCourt 101 = .ok (.if_icmp .ge 23, 3) := by decide +kernel
theorem dX5_readCourt_104 : decode cX5_readCourt 104 = .ok (.aload_n 0, 1) := by decide +kernel
theorem dX5_readCourt_105 : decode cX5_readCourt 105 = .ok (.iload_n 1, 1) := by decide +kernel
theorem dX5_readCourt_106 : decode cX5_readCourt 106 = .ok (.bipush 59, 2) := by decide +kernel
theorem dX5_readCourt_108 : decode cX5_readCourt 108 = .ok (.invokevirtual 123, 3) := by decide +kernel
theorem dX5_readCourt_111 : decode cX5_readCourt 111 = .ok (.ifCond .eq 13, 3) := by decide +kernel
theorem dX5_readCourt_114 : decode cX5_readCourt 114 = .ok (.aload_n 0, 1) := by decide +kernel
theorem dX5_readCourt_115 : decode cX5_readCourt 115 = .ok (.iload_n 1, 1) := by decide +kernel
theorem dX5_readCourt_116 : decode cX5_readCourt 116 = .ok (.invokevirtual 133, 3) := by decide +kernel
theorem dX5_readCourt_119 : decode cX5_readCourt 119 = .ok (.ifCond .ne (-23), 3) := by decide +kernel
theorem dX5_readCourt_122 : decode cX5_readCourt 122 = .ok (.iconst 0, 1) := by decide +kernel
theorem dX5_readCourt_123 : decode cX5_readCourt 123 = .ok (.ireturn, 1) := by decide +kernel
theorem dX5_readCourt_124 : decode cX5_readCourt 124 = .ok (.aload_n 0, 1) := by decide +kernel
theorem dX5_readCourt_125 : decode cX5_readCourt 125 = .ok (.getfield 84, 3) := by decide +kernel
theorem dX5_readCourt_128 : decode cX5_readCourt 128 = .ok (.iload_n 1, 1) := by decide +kernel
theorem dX5_readCourt_129 : decode cX5_readCourt 129 = .ok (.if_icmp .ne 7, 3) := by decide +kernel
theorem dX5_readCourt_132 : decode cX5_readCourt 132 = .ok (.iconst 1, 1) := by decide +kernel
theorem dX5_readCourt_133 : decode cX5_readCourt 133 = .ok (.goto 4, 3) := by decide +kernel
theorem dX5_readCourt_136 : decode cX5_readCourt 136 = .ok (.iconst 0, 1) := by decide +kernel
theorem dX5_readCourt_137 : decode cX5_readCourt 137 = .ok (.ireturn, 1) := by decide +kernel
theorem dX5_readTheMinutes_0 : decode cX5_readTheMinutes 0 = .ok (.aload_n 0, 1) := by decide +kernel
theorem dX5_readTheMinutes_1 : decode cX5_readTheMinutes 1 = .ok (.iload_n 1, 1) := by decide +kernel
theorem dX5_readTheMinutes_2 : decode cX5_readTheMinutes 2 = .ok (.iconst 0, 1) := by decide +kernel
theorem dX5_readTheMinutes_3 : decode cX5_readTheMinutes 3 = .ok (.bipush 6, 2) := by decide +kernel
theorem dX5_readTheMinutes_5 : decode cX5_readTheMinutes 5 = .ok (.invokevirtual 136, 3) := by decide +kernel
theorem dX5_readTheMinutes_8 : decode cX5_readTheMinutes 8 = .ok (.istore_n 2, 1) := by decide +kernel
theorem dX5_readTheMinutes_9 : decode cX5_readTheMinutes 9 = .ok (.iload_n 2, 1) := by decide +kernel
theorem dX5_readTheMinutes_10 : decode cX5_readTheMinutes 10 = .ok (.bipush (-9), 2) := by decide +kernel
theorem dX5_readTheMinutes_12 : decode cX5_readTheMinutes 12 = .ok (.if_icmp .ne 5, 3) := by decide +kernel
theorem dX5_readTheMinutes_15 : decode cX5_readTheMinutes 15 = .ok (.iconst 0, 1) := by decide +kernel
theorem dX5_readTheMinutes_16 : decode cX5_readTheMinutes 16 = .ok (.ireturn, 1) := by decide +kernel
theorem dX5_readTheMinutes_17 : decode cX5_readTheMinutes 17 = .ok (.aload_n 0, 1) := by decide +kernel
theorem dX5_readTheMinutes_18 : decode cX5_readTheMinutes 18 = .ok (.iload_n 1, 1) := by decide +kernel
theorem dX5_readTheMinutes_19 : decode cX5_readTheMinutes 19 = .ok (.iload_n 2, 1) := by decide +kernel
theorem dX5_readTheMinutes_20 : decode cX5_readTheMinutes 20 = .ok (.ifCond .ne 7, 3) := by decide +kernel
theorem dX5_readTheMinutes_23 : decode cX5_readTheMinutes 23 = .ok (.iconst 5, 1) := by decide +kernel
theorem dX5_readTheMinutes_24 : decode cX5_readTheMinutes 24 = .ok (.goto 4, 3) := by decide +kernel
theorem dX5_readTheMinutes_27 : decode cX5_readTheMinutes 27 = .ok (.iconst 0, 1) := by decide +kernel
theorem dX5_readTheMinutes_28 : decode cX5_readTheMinutes 28 = .ok (.iload_n 2, 1) := by decide +kernel
theorem dX5_readTheMinutes_29 : decode cX5_readTheMinutes 29 = .ok (.bipush 6, 2) := by decide +kernel
theorem dX5_readTheMinutes_31 : decode cX5_readTheMinutes 31 = .ok (.if_icmp .ne 7, 3) := by decide +kernel
theorem dX5_readTheMinutes_34 : decode cX5_readTheMinutes 34 = .ok (.iconst 0, 1) := by decide +kernel
theorem dX5_readTheMinutes_35 : decode cX5_readTheMinutes 35 = .ok (.goto 5, 3) := by decide +kernel
theorem dX5_readTheMinutes_38 : decode cX5_readTheMinutes 38 = .ok (.bipush 9, 2) := by decide +kernel
theorem dX5_readTheMinutes_40 : decode cX5_readTheMinutes 40 = .ok (.invokevirtual 136, 3) := by decide +kernel
theorem dX5_readTheMinutes_43 : decode cX5_readTheMinutes 43 = .ok (.istore_n 3, 1) := by decide +kernel
theorem dX5_readTheMinutes_44 : decode cX5_readTheMinutes 44 = .ok (.aload_n 0, 1) := by decide +kernel
theorem dX5_readTheMinutes_45 : decode cX5_readTheMinutes 45 = .ok (.bipush 10, 2) := by decide +kernel
theorem dX5_readTheMinutes_47 : decode cX5_readTheMinutes 47 = .ok (.iload_n 2, 1) := by decide +kernel
theorem dX5_readTheMinutes_48 : decode cX5_readTheMinutes 48 = .ok (.imul, 1) := by decide +kernel
theorem dX5_readTheMinutes_49 : decode cX5_readTheMinutes 49 = .ok (.iload_n 3, 1) := by decide +kernel
theorem dX5_readTheMinutes_50 : decode cX5_readTheMinutes 50 = .ok (.iadd, 1) := by decide +kernel
theorem dX5_readTheMinutes_51 : decode cX5_readTheMinutes 51 = .ok (.putfield 105, 3) := by decide +kernel
theorem dX5_readTheMinutes_54 : decode cX5_readTheMinutes 54 = .ok (.iload_n 3, 1) := by decide +kernel
theorem dX5_readTheMinutes_55 : decode cX5_readTheMinutes 55 = .ok (.bipush (-9), 2) := by decide +kernel
theorem dX5_readTheMinutes_57 : decode cX5_readTheMinutes 57 = .ok (.if_icmp .eq 7, 3) := by decide +kernel
theorem dX5_readTheMinutes_60 : decode cX5_readTheMinutes 60 = .ok (.iconst 1, 1) := by decide +kernel
theorem dX5_readTheMinutes_61 : decode cX5_readTheMinutes 61 = .ok (.goto 4, 3) := by decide +kernel
theorem dX5_readTheMinutes_64 : decode cX5_readTheMinutes 64 = .ok (.iconst 0, 1) := by decide +kernel
theorem dX5_readTheMinutes_65 : decode cX5_readTheMinutes 65 = .ok (.ireturn, 1) := by decide +kernel
theorem dX5_readOneJuror_0 : decode cX5_readOneJuror 0 = .ok (.iconst 2, 1) := by decide +kernel
theorem dX5_readOneJuror_1 : decode cX5_readOneJuror 1 = .ok (.aload_n 0, 1) := by decide +kernel
theorem dX5_readOneJuror_2 : decode cX5_readOneJuror 2 = .ok (.getfield 111, 3) := by decide +kernel
theorem dX5_readOneJuror_5 : decode cX5_readOneJuror 5 = .ok (.imul, 1) := by decide +kernel
theorem dX5_readOneJuror_6 : decode cX5_readOneJuror 6 = .ok (.istore_n 2, 1) := by decide +kernel
theorem dX5_readOneJuror_7 : decode cX5_readOneJuror 7 = .ok (.aload_n 0, 1) := by decide +kernel
theorem dX5_readOneJuror_8 : decode cX5_readOneJuror 8 = .ok (.getfield 84, 3) := by decide +kernel
theorem dX5_readOneJuror_11 : decode cX5_readOneJuror 11 = .ok (.iload_n 1, 1) := by decide +kernel
theorem dX5_readOneJuror_12 : decode cX5_readOneJuror 12 = .ok (.if_icmp .ge 15, 3) := by decide +kernel
theorem dX5_readOneJuror_15 : decode cX5_readOneJuror 15 = .ok (.aload_n 0, 1) := by decide +kernel
theorem dX5_readOneJuror_16 : decode cX5_readOneJuror 16 = .ok (.getfield 16, 3) := by decide +kernel
theorem dX5_readOneJuror_19 : decode cX5_readOneJuror 19 = .ok (.aload_n 0, 1) := by decide +kernel
theorem dX5_readOneJuror_20 : decode cX5_readOneJuror 20 = .ok (.getfield 84, 3) := by decide +kernel
theorem dX5_readOneJuror_23 : decode cX5_readOneJuror 23 = .ok (.iaload, 1) := by decide +kernel
theorem dX5_readOneJuror_24 : decode cX5_readOneJuror 24 = .ok (.goto 4, 3) := by decide +kernel
theorem dX5_readOneJuror_27 : decode cX5_readOneJuror 27 = .ok (.iconst 0, 1) := by decide +kernel
theorem dX5_readOneJuror_28 : decode cX5_readOneJuror 28 = .ok (.istore_n 3, 1) := by decide +kernel
theorem dX5_readOneJuror_29 : decode cX5_readOneJuror 29 = .ok (.aload_n 0, 1) := by decide +kernel
theorem dX5_readOneJuror_30 : decode cX5_readOneJuror 30 = .ok (.getfield 41, 3) := by decide +kernel
theorem dX5_readOneJuror_33 : decode cX5_readOneJuror 33 = .ok (.iload_n 2, 1) := by decide +kernel
theorem dX5_readOneJuror_34 : decode cX5_readOneJuror 34 = .ok (.iload_n 3, 1) := by decide +kernel
theorem dX5_readOneJuror_35 : decode cX5_readOneJuror 35 = .ok (.bipush 99, 2) := by decide +kernel
theorem dX5_readOneJuror_37 : decode cX5_readOneJuror 37 = .ok (.if_icmp .ne 7, 3) := by decide +kernel
theorem dX5_readOneJuror_40 : decode cX5_readOneJuror 40 = .ok (.iconst 0, 1) := by decide +kernel
theorem dX5_readOneJuror_41 : decode cX5_readOneJuror 41 = .ok (.goto 25, 3) := by decide +kernel
theorem dX5_readOneJuror_44 : decode cX5_readOneJuror 44 = .ok (.iload_n 3, 1) := by decide +kernel
theorem dX5_readOneJuror_45 : decode cX5_readOneJuror 45 = .ok (.bipush 104, 2) := by decide +kernel
theorem dX5_readOneJuror_47 : decode cX5_readOneJuror 47 = .ok (.if_icmp .ne 7, 3) := by decide +kernel
theorem dX5_readOneJuror_50 : decode cX5_readOneJuror 50 = .ok (.iconst 1, 1) := by decide +kernel
theorem dX5_readOneJuror_51 : decode cX5_readOneJuror 51 = .ok (.goto 15, 3) := by decide +kernel
theorem dX5_readOneJuror_54 : decode cX5_readOneJuror 54 = .ok (.iload_n 3, 1) := by decide +kernel
theorem dX5_readOneJuror_55 : decode cX5_readOneJuror 55 = .ok (.bipush 115, 2) := by decide +kernel
theorem dX5_readOneJuror_57 : decode cX5_readOneJuror 57 = .ok (.if_icmp .ne 7, 3) := by decide +kernel
theorem dX5_readOneJuror_60 : decode cX5_readOneJuror 60 = .ok (.iconst 2, 1) := by decide +kernel
theorem dX5_readOneJuror_61 : decode cX5_readOneJuror 61 = .ok (.goto 5, 3) := by decide +kernel
theorem dX5_readOneJuror_64 : decode cX5_readOneJuror 64 = .ok (.bipush (-9), 2) := by decide +kernel
theorem dX5_readOneJuror_66 : decode cX5_readOneJuror 66 = .ok (.iastore, 1) := by decide +kernel
theorem dX5_readOneJuror_67 : decode cX5_readOneJuror 67 = .ok (.aload_n 0, 1) := by decide +kernel
theorem dX5_readOneJuror_68 : decode cX5_readOneJuror 68 = .ok (.getfield 41, 3) := by decide +kernel
theorem dX5_readOneJuror_71 : decode cX5_readOneJuror 71 = .ok (.iload_n 2, 1) := by decide +kernel
theorem dX5_readOneJuror_72 : decode cX5_readOneJuror 72 = .ok (.iaload, 1) := by decide +kernel
theorem dX5_readOneJuror_73 : decode cX5_readOneJuror 73 = .ok (.bipush (-9), 2) := by decide +kernel
theorem dX5_readOneJuror_75 : decode cX5_readOneJuror 75 = .ok (.if_icmp .ne 5, 3) := by decide +kernel
theorem dX5_readOneJuror_78 : decode cX5_readOneJuror 78 = .ok (.iconst 0, 1) := by decide +kernel
theorem dX5_readOneJuror_79 : decode cX5_readOneJuror 79 = .ok (.ireturn, 1) := by decide +kernel
theorem dX5_readOneJuror_80 : decode cX5_readOneJuror 80 = .ok (.aload_n 0, 1) := by decide +kernel
theorem dX5_readOneJuror_81 : decode cX5_readOneJuror 81 = .ok (.dup, 1) := by decide +kernel
theorem dX5_readOneJuror_82 : decode cX5_readOneJuror 82 = .ok (.getfield 84, 3) := by decide +kernel
theorem dX5_readOneJuror_85 : decode cX5_readOneJuror 85 = .ok (.iconst 1, 1) := by decide +kernel
theorem dX5_readOneJuror_86 : decode cX5_readOneJuror 86 = .ok (.iadd, 1) := by decide +kernel
theorem dX5_readOneJuror_87 : decode cX5_readOneJuror 87 = .ok (.putfield 84, 3) := by decide +kernel
theorem dX5_readOneJuror_90 : decode cX5_readOneJuror 90 = .ok (.aload_n 0, 1) := by decide +kernel
theorem dX5_readOneJuror_91 : decode cX5_readOneJuror 91 = .ok (.getfield 41, 3) := by decide +kernel
theorem dX5_readOneJuror_94 : decode cX5_readOneJuror 94 = .ok (.iload_n 2, 1) := by decide +kernel
theorem dX5_readOneJuror_95 : decode cX5_readOneJuror 95 = .ok (.iconst 1, 1) := by decide +kernel
theorem dX5_readOneJuror_96 : decode cX5_readOneJuror 96 = .ok (.iadd, 1) := by decide +kernel
theorem dX5_readOneJuror_97 : decode cX5_readOneJuror 97 = .ok (.aload_n 0, 1) := by decide +kernel
theorem dX5_readOneJuror_98 : decode cX5_readOneJuror 98 = .ok (.iload_n 1, 1) := by decide +kernel
theorem dX5_readOneJuror_99 : decode cX5_readOneJuror 99 = .ok (.iconst 1, 1) := by decide +kernel
theorem dX5_readOneJuror_100 : decode cX5_readOneJuror 100 = .ok (.bipush 9, 2) := by decide +kernel
theorem dX5_readOneJuror_102 : decode cX5_readOneJuror 102 = .ok (.invokevirtual 136, 3) := by decide +kernel
theorem dX5_readOneJuror_105 : decode cX5_readOneJuror 105 = .ok (.iastore, 1) := by decide +kernel
theorem dX5_readOneJuror_106 : decode cX5_readOneJuror 106 = .ok (.aload_n 0, 1) := by decide +kernel
theorem dX5_readOneJuror_107 : decode cX5_readOneJuror 107 = .ok (.dup, 1) := by decide +kernel
theorem dX5_readOneJuror_108 : decode cX5_readOneJuror 108 = .ok (.getfield 111, 3) := by decide +kernel
theorem dX5_readOneJuror_111 : decode cX5_readOneJuror 111 = .ok (.iconst 1, 1) := by decide +kernel
theorem dX5_readOneJuror_112 : decode cX5_readOneJuror 112 = .ok (.iadd, 1) := by decide +kernel
theorem dX5_readOneJuror_113 : decode cX5_readOneJuror 113 = .ok (.putfield 111, 3) := by decide +kernel
theorem dX5_readOneJuror_116 : decode cX5_readOneJuror 116 = .ok (.aload_n 0, 1) := by decide +kernel
theorem dX5_readOneJuror_117 : decode cX5_readOneJuror 117 = .ok (.getfield 41, 3) := by decide +kernel
theorem dX5_readOneJuror_120 : decode cX5_readOneJuror 120 = .ok (.iload_n 2, 1) := by decide +kernel
theorem dX5_readOneJuror_121 : decode cX5_readOneJuror 121 = .ok (.iconst 1, 1) := by decide +kernel
theorem dX5_readOneJuror_122 : decode cX5_readOneJuror 122 = .ok (.iadd, 1) := by decide +kernel
theorem dX5_readOneJuror_123 : decode cX5_readOneJuror 123 = .ok (.iaload, 1) := by decide +kernel
theorem dX5_readOneJuror_124 : decode cX5_readOneJuror 124 = .ok (.bipush (-9), 2) := by decide +kernel
theorem dX5_readOneJuror_126 : decode cX5_readOneJuror 126 = .ok (.if_icmp .eq 7, 3) := by decide +kernel
theorem dX5_readOneJuror_129 : decode cX5_readOneJuror 129 = .ok (.iconst 1, 1) := by decide +kernel
theorem dX5_readOneJuror_130 : decode cX5_readOneJuror 130 = .ok (.goto 4, 3) := by decide +kernel
theorem dX5_readOneJuror_133 : decode cX5_readOneJuror 133 = .ok (.iconst 0, 1) := by decide +kernel
theorem dX5_readOneJuror_134 : decode cX5_readOneJuror 134 = .ok (.ireturn, 1) := by decide +kernel
theorem dX5_readOneCase_0 : decode cX5_readOneCase 0 = .ok (.iconst 0, 1) := by decide +kernel
theorem dX5_readOneCase_1 : decode cX5_readOneCase 1 = .ok (.istore_n 2, 1) := by decide +kernel
theorem dX5_readOneCase_2 : decode cX5_readOneCase 2 = .ok (.iload_n 2, 1) := by decide +kernel
theorem dX5_readOneCase_3 : decode cX5_readOneCase 3 = .ok (.iconst 3, 1) := by decide +kernel
theorem dX5_readOneCase_4 : decode cX5_readOneCase 4 = .ok (.if_icmp .ge 56, 3) := by decide +kernel
theorem dX5_readOneCase_7 : decode cX5_readOneCase 7 = .ok (.aload_n 0, 1) := by decide +kernel
theorem dX5_readOneCase_8 : decode cX5_readOneCase 8 = .ok (.iload_n 1, 1) := by decide +kernel
theorem dX5_readOneCase_9 : decode cX5_readOneCase 9 = .ok (.iload_n 2, 1) := by decide +kernel
theorem dX5_readOneCase_10 : decode cX5_readOneCase 10 = .ok (.ifCond .ne 7, 3) := by decide +kernel
theorem dX5_readOneCase_13 : decode cX5_readOneCase 13 = .ok (.iconst 0, 1) := by decide +kernel
theorem dX5_readOneCase_14 : decode cX5_readOneCase 14 = .ok (.goto 4, 3) := by decide +kernel
theorem dX5_readOneCase_17 : decode cX5_readOneCase 17 = .ok (.iconst 1, 1) := by decide +kernel
theorem dX5_readOneCase_18 : decode cX5_readOneCase 18 = .ok (.iload_n 2, 1) := by decide +kernel
theorem dX5_readOneCase_19 : decode cX5_readOneCase 19 = .ok (.ifCond .ne 7, 3) := by decide +kernel
theorem dX5_readOneCase_22 : decode cX5_readOneCase 22 = .ok (.iconst 5, 1) := by decide +kernel
theorem dX5_readOneCase_23 : decode cX5_readOneCase 23 = .ok (.goto 5, 3) := by decide +kernel
theorem dX5_readOneCase_26 : decode cX5_readOneCase 26 = .ok (.bipush 9, 2) := by decide +kernel
theorem dX5_readOneCase_28 : decode cX5_readOneCase 28 = .ok (.invokevirtual 136, 3) := by decide +kernel
theorem dX5_readOneCase_31 : decode cX5_readOneCase 31 = .ok (.istore_n 3, 1) := by decide +kernel
theorem dX5_readOneCase_32 : decode cX5_readOneCase 32 = .ok (.iload_n 3, 1) := by decide +kernel
theorem dX5_readOneCase_33 : decode cX5_readOneCase 33 = .ok (.bipush (-9), 2) := by decide +kernel
theorem dX5_readOneCase_35 : decode cX5_readOneCase 35 = .ok (.if_icmp .ne 5, 3) := by decide +kernel
theorem dX5_readOneCase_38 : decode cX5_readOneCase 38 = .ok (.iconst 0, 1) := by decide +kernel
theorem dX5_readOneCase_39 : decode cX5_readOneCase 39 = .ok (.ireturn, 1) := by decide +kernel
theorem dX5_readOneCase_40 : decode cX5_readOneCase 40 = .ok (.aload_n 0, 1) := by decide +kernel
theorem dX5_readOneCase_41 : decode cX5_readOneCase 41 = .ok (.getfield 44, 3) := by decide +kernel
theorem dX5_readOneCase_44 : decode cX5_readOneCase 44 = .ok (.iconst 3, 1) := by decide +kernel
theorem dX5_readOneCase_45 : decode cX5_readOneCase 45 = .ok (.aload_n 0, 1) := by decide +kernel
theorem dX5_readOneCase_46 : decode cX5_readOneCase 46 = .ok (.getfield 114, 3) := by decide +kernel
theorem dX5_readOneCase_49 : decode cX5_readOneCase 49 = .ok (.imul, 1) := by decide +kernel
theorem dX5_readOneCase_50 : decode cX5_readOneCase 50 = .ok (.iload_n 2, 1) := by decide +kernel
theorem dX5_readOneCase_51 : decode cX5_readOneCase 51 = .ok (.iadd, 1) := by decide +kernel
theorem dX5_readOneCase_52 : decode cX5_readOneCase 52 = .ok (.iload_n 3, 1) := by decide +kernel
theorem dX5_readOneCase_53 : decode cX5_readOneCase 53 = .ok (.iastore, 1) := by decide +kernel
theorem dX5_readOneCase_54 : decode cX5_readOneCase 54 = .ok (.iinc 2 1, 3) := by decide +kernel
theorem dX5_readOneCase_57 : decode cX5_readOneCase 57 = .ok (.goto (-55), 3) := by decide +kernel
theorem dX5_readOneCase_60 : decode cX5_readOneCase 60 = .ok (.aload_n 0, 1) := by decide +kernel
theorem dX5_readOneCase_61 : decode cX5_readOneCase 61 = .ok (.dup, 1) := by decide +kernel
theorem dX5_readOneCase_62 : decode cX5_readOneCase 62 = .ok (.getfield 114, 3) := by decide +kernel
theorem dX5_readOneCase_65 : decode cX5_readOneCase 65 = .ok (.iconst 1, 1) := by decide +kernel
theorem dX5_readOneCase_66 : decode cX5_readOneCase 66 = .ok (.iadd, 1) := by decide +kernel
theorem dX5_readOneCase_67 : decode cX5_readOneCase 67 = .ok (.putfield 114, 3) := by decide +kernel
theorem dX5_readOneCase_70 : decode cX5_readOneCase 70 = .ok (.iconst 1, 1) := by decide +kernel
theorem dX5_readOneCase_71 : decode cX5_readOneCase 71 = .ok (.ireturn, 1) := by decide +kernel
theorem dX5_ofJuror_0 : decode cX5_ofJuror 0 = .ok (.aload_n 0, 1) := by decide +kernel
theorem dX5_ofJuror_1 : decode cX5_ofJuror 1 = .ok (.iload_n 1, 1) := by decide +kernel
theorem dX5_ofJuror_2 : decode cX5_ofJuror 2 = .ok (.invokevirtual 140, 3) := by decide +kernel
theorem dX5_ofJuror_5 : decode cX5_ofJuror 5 = .ok (.ifCond .ne 5, 3) := by decide +kernel
theorem dX5_ofJuror_8 : decode cX5_ofJuror 8 = .ok (.iconst (-1), 1) := by decide +kernel
theorem dX5_ofJuror_9 : decode cX5_ofJuror 9 = .ok (.ireturn, 1) := by decide +kernel
theorem dX5_ofJuror_10 : decode cX5_ofJuror 10 = .ok (.iload_n 2, 1) := by decide +kernel
theorem dX5_ofJuror_11 : decode cX5_ofJuror 11 = .ok (.tableswitch 73 0 3 #[29, 36, 43, 58], 29) := by decide +kernel
theorem dX5_ofJuror_40 : decode cX5_ofJuror 40 = .ok (.aload_n 0, 1) := by decide +kernel
theorem dX5_ofJuror_41 : decode cX5_ofJuror 41 = .ok (.getfield 19, 3) := by decide +kernel
theorem dX5_ofJuror_44 : decode cX5_ofJuror 44 = .ok (.iload_n 1, 1) := by decide +kernel
theorem dX5_ofJuror_45 : decode cX5_ofJuror 45 = .ok (.iaload, 1) := by decide +kernel
theorem dX5_ofJuror_46 : decode cX5_ofJuror 46 = .ok (.ireturn, 1) := by decide +kernel
theorem dX5_ofJuror_47 : decode cX5_ofJuror 47 = .ok (.aload_n 0, 1) := by decide +kernel
theorem dX5_ofJuror_48 : decode cX5_ofJuror 48 = .ok (.getfield 22, 3) := by decide +kernel
theorem dX5_ofJuror_51 : decode cX5_ofJuror 51 = .ok (.iload_n 1, 1) := by decide +kernel
theorem dX5_ofJuror_52 : decode cX5_ofJuror 52 = .ok (.iaload, 1) := by decide +kernel
theorem dX5_ofJuror_53 : decode cX5_ofJuror 53 = .ok (.ireturn, 1) := by decide +kernel
theorem dX5_ofJuror_54 : decode cX5_ofJuror 54 = .ok (.aload_n 0, 1) := by decide +kernel
theorem dX5_ofJuror_55 : decode cX5_ofJuror 55 = .ok (.getfield 25, 3) := by decide +kernel
theorem dX5_ofJuror_58 : decode cX5_ofJuror 58 = .ok (.iload_n 1, 1) := by decide +kernel
theorem dX5_ofJuror_59 : decode cX5_ofJuror 59 = .ok (.baload, 1) := by decide +kernel
theorem dX5_ofJuror_60 : decode cX5_ofJuror 60 = .ok (.ifCond .eq 7, 3) := by decide +kernel
theorem dX5_ofJuror_63 : decode cX5_ofJuror 63 = .ok (.iconst 1, 1) := by decide +kernel
theorem dX5_ofJuror_64 : decode cX5_ofJuror 64 = .ok (.goto 4, 3) := by decide +kernel
theorem dX5_ofJuror_67 : decode cX5_ofJuror 67 = .ok (.iconst 0, 1) := by decide +kernel
theorem dX5_ofJuror_68 : decode cX5_ofJuror 68 = .ok (.ireturn, 1) := by decide +kernel
theorem dX5_ofJuror_69 : decode cX5_ofJuror 69 = .ok (.aload_n 0, 1) := by decide +kernel
theorem dX5_ofJuror_70 : decode cX5_ofJuror 70 = .ok (.getfield 29, 3) := by decide +kernel
theorem dX5_ofJuror_73 : decode cX5_ofJuror 73 = .ok (.iload_n 1, 1) := by decide +kernel
theorem dX5_ofJuror_74 : decode cX5_ofJuror 74 = .ok (.baload, 1) := by decide +kernel
theorem dX5_ofJuror_75 : decode cX5_ofJuror 75 = .ok (.ifCond .eq 7, 3) := by decide +kernel
theorem dX5_ofJuror_78 : decode cX5_ofJuror 78 = .ok (.iconst 1, 1) := by decide +kernel
theorem dX5_ofJuror_79 : decode cX5_ofJuror 79 = .ok (.goto 4, 3) := by decide +kernel
theorem dX5_ofJuror_82 : decode cX5_ofJuror 82 = .ok (.iconst 0, 1) := by decide +kernel
theorem dX5_ofJuror_83 : decode cX5_ofJuror 83 = .ok (.ireturn, 1) := by decide +kernel
theorem dX5_ofJuror_84 : decode cX5_ofJuror 84 = .ok (.bipush (-2), 2) := by decide +kernel
theorem dX5_ofJuror_86 : decode cX5_ofJuror 86 = .ok (.ireturn, 1) := by decide +kernel
theorem dX5_ofCase_0 : decode cX5_ofCase 0 = .ok (.aload_n 0, 1) := by decide +kernel
theorem dX5_ofCase_1 : decode cX5_ofCase 1 = .ok (.iload_n 1, 1) := by decide +kernel
theorem dX5_ofCase_2 : decode cX5_ofCase 2 = .ok (.invokevirtual 143, 3) := by decide +kernel
theorem dX5_ofCase_5 : decode cX5_ofCase 5 = .ok (.ifCond .ne 5, 3) := by decide +kernel
theorem dX5_ofCase_8 : decode cX5_ofCase 8 = .ok (.iconst (-1), 1) := by decide +kernel
theorem dX5_ofCase_9 : decode cX5_ofCase 9 = .ok (.ireturn, 1) := by decide +kernel
theorem dX5_ofCase_10 : decode cX5_ofCase 10 = .ok (.iload_n 2, 1) := by decide +kernel
theorem dX5_ofCase_11 : decode cX5_ofCase 11 = .ok (.ifCond .ne 12, 3) := by decide +kernel
theorem dX5_ofCase_14 : decode cX5_ofCase 14 = .ok (.aload_n 0, 1) := by decide +kernel
theorem dX5_ofCase_15 : decode cX5_ofCase 15 = .ok (.getfield 32, 3) := by decide +kernel
theorem dX5_ofCase_18 : decode cX5_ofCase 18 = .ok (.iload_n 1, 1) := by decide +kernel
theorem dX5_ofCase_19 : decode cX5_ofCase 19 = .ok (.iaload, 1) := by decide +kernel
theorem dX5_ofCase_20 : decode cX5_ofCase 20 = .ok (.goto 33, 3) := by decide +kernel
theorem dX5_ofCase_23 : decode cX5_ofCase 23 = .ok (.iload_n 2, 1) := by decide +kernel
theorem dX5_ofCase_24 : decode cX5_ofCase 24 = .ok (.iconst 1, 1) := by decide +kernel
theorem dX5_ofCase_25 : decode cX5_ofCase 25 = .ok (.if_icmp .ne 12, 3) := by decide +kernel
theorem dX5_ofCase_28 : decode cX5_ofCase 28 = .ok (.aload_n 0, 1) := by decide +kernel
theorem dX5_ofCase_29 : decode cX5_ofCase 29 = .ok (.getfield 35, 3) := by decide +kernel
theorem dX5_ofCase_32 : decode cX5_ofCase 32 = .ok (.iload_n 1, 1) := by decide +kernel
theorem dX5_ofCase_33 : decode cX5_ofCase 33 = .ok (.iaload, 1) := by decide +kernel
theorem dX5_ofCase_34 : decode cX5_ofCase 34 = .ok (.goto 19, 3) := by decide +kernel
theorem dX5_ofCase_37 : decode cX5_ofCase 37 = .ok (.iload_n 2, 1) := by decide +kernel
theorem dX5_ofCase_38 : decode cX5_ofCase 38 = .ok (.iconst 2, 1) := by decide +kernel
theorem dX5_ofCase_39 : decode cX5_ofCase 39 = .ok (.if_icmp .ne 12, 3) := by decide +kernel
theorem dX5_ofCase_42 : decode cX5_ofCase 42 = .ok (.aload_n 0, 1) := by decide +kernel
theorem dX5_ofCase_43 : decode cX5_ofCase 43 = .ok (.getfield 38, 3) := by decide +kernel
theorem dX5_ofCase_46 : decode cX5_ofCase 46 = .ok (.iload_n 1, 1) := by decide +kernel
theorem dX5_ofCase_47 : decode cX5_ofCase 47 = .ok (.iaload, 1) := by decide +kernel
theorem dX5_ofCase_48 : decode cX5_ofCase 48 = .ok (.goto 5, 3) := by decide +kernel
theorem dX5_ofCase_51 : decode cX5_ofCase 51 = .ok (.bipush (-2), 2) := by decide +kernel
theorem dX5_ofCase_53 : decode cX5_ofCase 53 = .ok (.ireturn, 1) := by decide +kernel
theorem dX5_chalk_0 : decode cX5_chalk 0 = .ok (.iload_n 1, 1) := by decide +kernel
theorem dX5_chalk_1 : decode cX5_chalk 1 = .ok (.iconst 0, 1) := by decide +kernel
theorem dX5_chalk_2 : decode cX5_chalk 2 = .ok (.bipush 63, 2) := by decide +kernel
theorem dX5_chalk_4 : decode cX5_chalk 4 = .ok (.invokestatic 74, 3) := by decide +kernel
theorem dX5_chalk_7 : decode cX5_chalk 7 = .ok (.ifCond .ne 6, 3) := by decide +kernel
theorem dX5_chalk_10 : decode cX5_chalk 10 = .ok (.bipush (-2), 2) := by decide +kernel
theorem dX5_chalk_12 : decode cX5_chalk 12 = .ok (.ireturn, 1) := by decide +kernel
theorem dX5_chalk_13 : decode cX5_chalk 13 = .ok (.aload_n 0, 1) := by decide +kernel
theorem dX5_chalk_14 : decode cX5_chalk 14 = .ok (.getfield 81, 3) := by decide +kernel
theorem dX5_chalk_17 : decode cX5_chalk 17 = .ok (.ifCond .ne 6, 3) := by decide +kernel
theorem dX5_chalk_20 : decode cX5_chalk 20 = .ok (.bipush (-3), 2) := by decide +kernel
theorem dX5_chalk_22 : decode cX5_chalk 22 = .ok (.ireturn, 1) := by decide +kernel
theorem dX5_chalk_23 : decode cX5_chalk 23 = .ok (.aload_n 0, 1) := by decide +kernel
theorem dX5_chalk_24 : decode cX5_chalk 24 = .ok (.getfield 117, 3) := by decide +kernel
theorem dX5_chalk_27 : decode cX5_chalk 27 = .ok (.istore_n 2, 1) := by decide +kernel
theorem dX5_chalk_28 : decode cX5_chalk 28 = .ok (.aload_n 0, 1) := by decide +kernel
theorem dX5_chalk_29 : decode cX5_chalk 29 = .ok (.iload_n 1, 1) := by decide +kernel
theorem dX5_chalk_30 : decode cX5_chalk 30 = .ok (.putfield 117, 3) := by decide +kernel
theorem dX5_chalk_33 : decode cX5_chalk 33 = .ok (.iload_n 2, 1) := by decide +kernel
theorem dX5_chalk_34 : decode cX5_chalk 34 = .ok (.ireturn, 1) := by decide +kernel
theorem dX5_treat_0 : decode cX5_treat 0 = .ok (.aload_n 0, 1) := by decide +kernel
theorem dX5_treat_1 : decode cX5_treat 1 = .ok (.iload_n 1, 1) := by decide +kernel
theorem dX5_treat_2 : decode cX5_treat 2 = .ok (.invokevirtual 140, 3) := by decide +kernel
theorem dX5_treat_5 : decode cX5_treat 5 = .ok (.ifCond .ne 5, 3) := by decide +kernel
theorem dX5_treat_8 : decode cX5_treat 8 = .ok (.iconst (-1), 1) := by decide +kernel
theorem dX5_treat_9 : decode cX5_treat 9 = .ok (.ireturn, 1) := by decide +kernel
theorem dX5_treat_10 : decode cX5_treat 10 = .ok (.aload_n 0, 1) := by decide +kernel
theorem dX5_treat_11 : decode cX5_treat 11 = .ok (.getfield 25, 3) := by decide +kernel
theorem dX5_treat_14 : decode cX5_treat 14 = .ok (.iload_n 1, 1) := by decide +kernel
theorem dX5_treat_15 : decode cX5_treat 15 = .ok (.baload, 1) := by decide +kernel
theorem dX5_treat_16 : decode cX5_treat 16 = .ok (.istore_n 3, 1) := by decide +kernel
theorem dX5_treat_17 : decode cX5_treat 17 = .ok (.aload_n 0, 1) := by decide +kernel
theorem dX5_treat_18 : decode cX5_treat 18 = .ok (.getfield 25, 3) := by decide +kernel
theorem dX5_treat_21 : decode cX5_treat 21 = .ok (.iload_n 1, 1) := by decide +kernel
theorem dX5_treat_22 : decode cX5_treat 22 = .ok (.iload_n 2, 1) := by decide +kernel
theorem dX5_treat_23 : decode cX5_treat 23 = .ok (.bastore, 1) := by decide +kernel
theorem dX5_treat_24 : decode cX5_treat 24 = .ok (.iload_n 3, 1) := by decide +kernel
theorem dX5_treat_25 : decode cX5_treat 25 = .ok (.iload_n 2, 1) := by decide +kernel
theorem dX5_treat_26 : decode cX5_treat 26 = .ok (.if_icmp .ne 7, 3) := by decide +kernel
theorem dX5_treat_29 : decode cX5_treat 29 = .ok (.iconst 0, 1) := by decide +kernel
theorem dX5_treat_30 : decode cX5_treat 30 = .ok (.goto 4, 3) := by decide +kernel
theorem dX5_treat_33 : decode cX5_treat 33 = .ok (.iconst 1, 1) := by decide +kernel
theorem dX5_treat_34 : decode cX5_treat 34 = .ok (.ireturn, 1) := by decide +kernel
theorem dX5_strike_0 : decode cX5_strike 0 = .ok (.aload_n 0, 1) := by decide +kernel
theorem dX5_strike_1 : decode cX5_strike 1 = .ok (.iload_n 1, 1) := by decide +kernel
theorem dX5_strike_2 : decode cX5_strike 2 = .ok (.invokevirtual 140, 3) := by decide +kernel
theorem dX5_strike_5 : decode cX5_strike 5 = .ok (.ifCond .ne 5, 3) := by decide +kernel
theorem dX5_strike_8 : decode cX5_strike 8 = .ok (.iconst (-1), 1) := by decide +kernel
theorem dX5_strike_9 : decode cX5_strike 9 = .ok (.ireturn, 1) := by decide +kernel
theorem dX5_strike_10 : decode cX5_strike 10 = .ok (.aload_n 0, 1) := by decide +kernel
theorem dX5_strike_11 : decode cX5_strike 11 = .ok (.getfield 29, 3) := by decide +kernel
theorem dX5_strike_14 : decode cX5_strike 14 = .ok (.iload_n 1, 1) := by decide +kernel
theorem dX5_strike_15 : decode cX5_strike 15 = .ok (.baload, 1) := by decide +kernel
theorem dX5_strike_16 : decode cX5_strike 16 = .ok (.istore_n 3, 1) := by decide +kernel
theorem dX5_strike_17 : decode cX5_strike 17 = .ok (.aload_n 0, 1) := by decide +kernel
theorem dX5_strike_18 : decode cX5_strike 18 = .ok (.getfield 29, 3) := by decide +kernel
theorem dX5_strike_21 : decode cX5_strike 21 = .ok (.iload_n 1, 1) := by decide +kernel
theorem dX5_strike_22 : decode cX5_strike 22 = .ok (.iload_n 2, 1) := by decide +kernel
theorem dX5_strike_23 : decode cX5_strike 23 = .ok (.bastore, 1) := by decide +kernel
theorem dX5_strike_24 : decode cX5_strike 24 = .ok (.iload_n 3, 1) := by decide +kernel
theorem dX5_strike_25 : decode cX5_strike 25 = .ok (.iload_n 2, 1) := by decide +kernel
theorem dX5_strike_26 : decode cX5_strike 26 = .ok (.if_icmp .ne 7, 3) := by decide +kernel
theorem dX5_strike_29 : decode cX5_strike 29 = .ok (.iconst 0, 1) := by decide +kernel
theorem dX5_strike_30 : decode cX5_strike 30 = .ok (.goto 4, 3) := by decide +kernel
theorem dX5_strike_33 : decode cX5_strike 33 = .ok (.iconst 1, 1) := by decide +kernel
theorem dX5_strike_34 : decode cX5_strike 34 = .ok (.ireturn, 1) := by decide +kernel
theorem dX5_minutes_0 : decode cX5_minutes 0 = .ok (.iload_n 1, 1) := by decide +kernel
theorem dX5_minutes_1 : decode cX5_minutes 1 = .ok (.iconst 5, 1) := by decide +kernel
theorem dX5_minutes_2 : decode cX5_minutes 2 = .ok (.bipush 60, 2) := by decide +kernel
theorem dX5_minutes_4 : decode cX5_minutes 4 = .ok (.invokestatic 74, 3) := by decide +kernel
theorem dX5_minutes_7 : decode cX5_minutes 7 = .ok (.ifCond .ne 6, 3) := by decide +kernel
theorem dX5_minutes_10 : decode cX5_minutes 10 = .ok (.bipush (-2), 2) := by decide +kernel
theorem dX5_minutes_12 : decode cX5_minutes 12 = .ok (.ireturn, 1) := by decide +kernel
theorem dX5_minutes_13 : decode cX5_minutes 13 = .ok (.aload_n 0, 1) := by decide +kernel
theorem dX5_minutes_14 : decode cX5_minutes 14 = .ok (.getfield 81, 3) := by decide +kernel
theorem dX5_minutes_17 : decode cX5_minutes 17 = .ok (.ifCond .ne 6, 3) := by decide +kernel
theorem dX5_minutes_20 : decode cX5_minutes 20 = .ok (.bipush (-3), 2) := by decide +kernel
theorem dX5_minutes_22 : decode cX5_minutes 22 = .ok (.ireturn, 1) := by decide +kernel
theorem dX5_minutes_23 : decode cX5_minutes 23 = .ok (.aload_n 0, 1) := by decide +kernel
theorem dX5_minutes_24 : decode cX5_minutes 24 = .ok (.getfield 108, 3) := by decide +kernel
theorem dX5_minutes_27 : decode cX5_minutes 27 = .ok (.istore_n 2, 1) := by decide +kernel
theorem dX5_minutes_28 : decode cX5_minutes 28 = .ok (.aload_n 0, 1) := by decide +kernel
theorem dX5_minutes_29 : decode cX5_minutes 29 = .ok (.iload_n 1, 1) := by decide +kernel
theorem dX5_minutes_30 : decode cX5_minutes 30 = .ok (.putfield 108, 3) := by decide +kernel
theorem dX5_minutes_33 : decode cX5_minutes 33 = .ok (.iload_n 2, 1) := by decide +kernel
theorem dX5_minutes_34 : decode cX5_minutes 34 = .ok (.ireturn, 1) := by decide +kernel
theorem dX5_begin_0 : decode cX5_begin 0 = .ok (.aload_n 0, 1) := by decide +kernel
theorem dX5_begin_1 : decode cX5_begin 1 = .ok (.iconst 0, 1) := by decide +kernel
theorem dX5_begin_2 : decode cX5_begin 2 = .ok (.putfield 146, 3) := by decide +kernel
theorem dX5_begin_5 : decode cX5_begin 5 = .ok (.aload_n 0, 1) := by decide +kernel
theorem dX5_begin_6 : decode cX5_begin 6 = .ok (.iconst 0, 1) := by decide +kernel
theorem dX5_begin_7 : decode cX5_begin 7 = .ok (.putfield 149, 3) := by decide +kernel
theorem dX5_begin_10 : decode cX5_begin 10 = .ok (.iconst 0, 1) := by decide +kernel
theorem dX5_begin_11 : decode cX5_begin 11 = .ok (.istore_n 1, 1) := by decide +kernel
theorem dX5_begin_12 : decode cX5_begin 12 = .ok (.iload_n 1, 1) := by decide +kernel
theorem dX5_begin_13 : decode cX5_begin 13 = .ok (.aload_n 0, 1) := by decide +kernel
theorem dX5_begin_14 : decode cX5_begin 14 = .ok (.getfield 81, 3) := by decide +kernel
theorem dX5_begin_17 : decode cX5_begin 17 = .ok (.if_icmp .ge 17, 3) := by decide +kernel
theorem dX5_begin_20 : decode cX5_begin 20 = .ok (.aload_n 0, 1) := by decide +kernel
theorem dX5_begin_21 : decode cX5_begin 21 = .ok (.getfield 47, 3) := by decide +kernel
theorem dX5_begin_24 : decode cX5_begin 24 = .ok (.iload_n 1, 1) := by decide +kernel
theorem dX5_begin_25 : decode cX5_begin 25 = .ok (.bipush (-9), 2) := by decide +kernel
theorem dX5_begin_27 : decode cX5_begin 27 = .ok (.iastore, 1) := by decide +kernel
theorem dX5_begin_28 : decode cX5_begin 28 = .ok (.iinc 1 1, 3) := by decide +kernel
theorem dX5_begin_31 : decode cX5_begin 31 = .ok (.goto (-19), 3) := by decide +kernel
theorem dX5_begin_34 : decode cX5_begin 34 = .ok (.iconst 0, 1) := by decide +kernel
theorem dX5_begin_35 : decode cX5_begin 35 = .ok (.istore_n 1, 1) := by decide +kernel
theorem dX5_begin_36 : decode cX5_begin 36 = .ok (.iload_n 1, 1) := by decide +kernel
theorem dX5_begin_37 : decode cX5_begin 37 = .ok (.bipush 6, 2) := by decide +kernel
theorem dX5_begin_39 : decode cX5_begin 39 = .ok (.if_icmp .ge 17, 3) := by decide +kernel
theorem dX5_begin_42 : decode cX5_begin 42 = .ok (.aload_n 0, 1) := by decide +kernel
theorem dX5_begin_43 : decode cX5_begin 43 = .ok (.getfield 50, 3) := by decide +kernel
theorem dX5_begin_46 : decode cX5_begin 46 = .ok (.iload_n 1, 1) := by decide +kernel
theorem dX5_begin_47 : decode cX5_begin 47 = .ok (.bipush (-9), 2) := by decide +kernel
theorem dX5_begin_49 : decode cX5_begin 49 = .ok (.iastore, 1) := by decide +kernel
theorem dX5_begin_50 : decode cX5_begin 50 = .ok (.iinc 1 1, 3) := by decide +kernel
theorem dX5_begin_53 : decode cX5_begin 53 = .ok (.goto (-17), 3) := by decide +kernel
theorem dX5_begin_56 : decode cX5_begin 56 = .ok (.iconst 0, 1) := by decide +kernel
theorem dX5_begin_57 : decode cX5_begin 57 = .ok (.istore_n 1, 1) := by decide +kernel
theorem dX5_begin_58 : decode cX5_begin 58 = .ok (.iload_n 1, 1) := by decide +kernel
theorem dX5_begin_59 : decode cX5_begin 59 = .ok (.aload_n 0, 1) := by decide +kernel
theorem dX5_begin_60 : decode cX5_begin 60 = .ok (.getfield 78, 3) := by decide +kernel
theorem dX5_begin_63 : decode cX5_begin 63 = .ok (.if_icmp .ge 16, 3) := by decide +kernel
theorem dX5_begin_66 : decode cX5_begin 66 = .ok (.aload_n 0, 1) := by decide +kernel
theorem dX5_begin_67 : decode cX5_begin 67 = .ok (.getfield 53, 3) := by decide +kernel
theorem dX5_begin_70 : decode cX5_begin 70 = .ok (.iload_n 1, 1) := by decide +kernel
theorem dX5_begin_71 : decode cX5_begin 71 = .ok (.iconst 0, 1) := by decide +kernel
theorem dX5_begin_72 : decode cX5_begin 72 = .ok (.bastore, 1) := by decide +kernel
theorem dX5_begin_73 : decode cX5_begin 73 = .ok (.iinc 1 1, 3) := by decide +kernel
theorem dX5_begin_76 : decode cX5_begin 76 = .ok (.goto (-18), 3) := by decide +kernel
theorem dX5_begin_79 : decode cX5_begin 79 = .ok (.return_, 1) := by decide +kernel
theorem dX5_isCrime_0 : decode cX5_isCrime 0 = .ok (.aload_n 0, 1) := by decide +kernel
theorem dX5_isCrime_1 : decode cX5_isCrime 1 = .ok (.getfield 117, 3) := by decide +kernel
theorem dX5_isCrime_4 : decode cX5_isCrime 4 = .ok (.aload_n 0, 1) := by decide +kernel
theorem dX5_isCrime_5 : decode cX5_isCrime 5 = .ok (.getfield 32, 3) := by decide +kernel
theorem dX5_isCrime_8 : decode cX5_isCrime 8 = .ok (.iload_n 1, 1) := by decide +kernel
theorem dX5_isCrime_9 : decode cX5_isCrime 9 = .ok (.iaload, 1) := by decide +kernel
theorem dX5_isCrime_10 : decode cX5_isCrime 10 = .ok (.ishr, 1) := by decide +kernel
theorem dX5_isCrime_11 : decode cX5_isCrime 11 = .ok (.iconst 1, 1) := by decide +kernel
theorem dX5_isCrime_12 : decode cX5_isCrime 12 = .ok (.iand, 1) := by decide +kernel
theorem dX5_isCrime_13 : decode cX5_isCrime 13 = .ok (.iconst 1, 1) := by decide +kernel
theorem dX5_isCrime_14 : decode cX5_isCrime 14 = .ok (.if_icmp .ne 7, 3) := by decide +kernel
theorem dX5_isCrime_17 : decode cX5_isCrime 17 = .ok (.iconst 1, 1) := by decide +kernel
theorem dX5_isCrime_18 : decode cX5_isCrime 18 = .ok (.goto 4, 3) := by decide +kernel
theorem dX5_isCrime_21 : decode cX5_isCrime 21 = .ok (.iconst 0, 1) := by decide +kernel
theorem dX5_isCrime_22 : decode cX5_isCrime 22 = .ok (.ireturn, 1) := by decide +kernel
theorem dX5_isAgainst_0 : decode cX5_isAgainst 0 = .ok (.aload_n 0, 1) := by decide +kernel
theorem dX5_isAgainst_1 : decode cX5_isAgainst 1 = .ok (.getfield 19, 3) := by decide +kernel
theorem dX5_isAgainst_4 : decode cX5_isAgainst 4 = .ok (.iload_n 1, 1) := by decide +kernel
theorem dX5_isAgainst_5 : decode cX5_isAgainst 5 = .ok (.iaload, 1) := by decide +kernel
theorem dX5_isAgainst_6 : decode cX5_isAgainst 6 = .ok (.iconst 2, 1) := by decide +kernel
theorem dX5_isAgainst_7 : decode cX5_isAgainst 7 = .ok (.if_icmp .ne 31, 3) := by decide +kernel
theorem dX5_isAgainst_10 : decode cX5_isAgainst 10 = .ok (.aload_n 0, 1) := by decide +kernel
theorem dX5_isAgainst_11 : decode cX5_isAgainst 11 = .ok (.getfield 25, 3) := by decide +kernel
theorem dX5_isAgainst_14 : decode cX5_isAgainst 14 = .ok (.iload_n 1, 1) := by decide +kernel
theorem dX5_isAgainst_15 : decode cX5_isAgainst 15 = .ok (.baload, 1) := by decide +kernel
theorem dX5_isAgainst_16 : decode cX5_isAgainst 16 = .ok (.ifCond .eq 22, 3) := by decide +kernel
theorem dX5_isAgainst_19 : decode cX5_isAgainst 19 = .ok (.aload_n 0, 1) := by decide +kernel
theorem dX5_isAgainst_20 : decode cX5_isAgainst 20 = .ok (.getfield 53, 3) := by decide +kernel
theorem dX5_isAgainst_23 : decode cX5_isAgainst 23 = .ok (.iload_n 1, 1) := by decide +kernel
theorem dX5_isAgainst_24 : decode cX5_isAgainst 24 = .ok (.baload, 1) := by decide +kernel
theorem dX5_isAgainst_25 : decode cX5_isAgainst 25 = .ok (.ifCond .ne 13, 3) := by decide +kernel
theorem dX5_isAgainst_28 : decode cX5_isAgainst 28 = .ok (.aload_n 0, 1) := by decide +kernel
theorem dX5_isAgainst_29 : decode cX5_isAgainst 29 = .ok (.getfield 53, 3) := by decide +kernel
theorem dX5_isAgainst_32 : decode cX5_isAgainst 32 = .ok (.iload_n 1, 1) := by decide +kernel
theorem dX5_isAgainst_33 : decode cX5_isAgainst 33 = .ok (.iload 4, 2) := by decide +kernel
theorem dX5_isAgainst_35 : decode cX5_isAgainst 35 = .ok (.bastore, 1) := by decide +kernel
theorem dX5_isAgainst_36 : decode cX5_isAgainst 36 = .ok (.iconst 0, 1) := by decide +kernel
theorem dX5_isAgainst_37 : decode cX5_isAgainst 37 = .ok (.ireturn, 1) := by decide +kernel
theorem dX5_isAgainst_38 : decode cX5_isAgainst 38 = .ok (.aload_n 0, 1) := by decide +kernel
theorem dX5_isAgainst_39 : decode cX5_isAgainst 39 = .ok (.iload_n 2, 1) := by decide +kernel
theorem dX5_isAgainst_40 : decode cX5_isAgainst 40 = .ok (.invokevirtual 153, 3) := by decide +kernel
theorem dX5_isAgainst_43 : decode cX5_isAgainst 43 = .ok (.ifCond .ne 25, 3) := by decide +kernel
theorem dX5_isAgainst_46 : decode cX5_isAgainst 46 = .ok (.aload_n 0, 1) := by decide +kernel
theorem dX5_isAgainst_47 : decode cX5_isAgainst 47 = .ok (.getfield 19, 3) := by decide +kernel
theorem dX5_isAgainst_50 : decode cX5_isAgainst 50 = .ok (.iload_n 1, 1) := by decide +kernel
theorem dX5_isAgainst_51 : decode cX5_isAgainst 51 = .ok (.iaload, 1) := by decide +kernel
theorem dX5_isAgainst_52 : decode cX5_isAgainst 52 = .ok (.iconst 1, 1) := by decide +kernel
theorem dX5_isAgainst_53 : decode cX5_isAgainst 53 = .ok (.if_icmp .ne 19, 3) := by decide +kernel
theorem dX5_isAgainst_56 : decode cX5_isAgainst 56 = .ok (.iload_n 3, 1) := by decide +kernel
theorem dX5_isAgainst_57 : decode cX5_isAgainst 57 = .ok (.iconst 5, 1) := by decide +kernel
theorem dX5_isAgainst_58 : decode cX5_isAgainst 58 = .ok (.aload_n 0, 1) := by decide +kernel
theorem dX5_isAgainst_59 : decode cX5_isAgainst 59 = .ok (.getfield 22, 3) := by decide +kernel
theorem dX5_isAgainst_62 : decode cX5_isAgainst 62 = .ok (.iload_n 1, 1) := by decide +kernel
theorem dX5_isAgainst_63 : decode cX5_isAgainst 63 = .ok (.iaload, 1) := by decide +kernel
theorem dX5_isAgainst_64 : decode cX5_isAgainst 64 = .ok (.imul, 1) := by decide +kernel
theorem dX5_isAgainst_65 : decode cX5_isAgainst 65 = .ok (.if_icmp .lt 7, 3) := by decide +kernel
theorem dX5_isAgainst_68 : decode cX5_isAgainst 68 = .ok (.iconst 1, 1) := by decide +kernel
theorem dX5_isAgainst_69 : decode cX5_isAgainst 69 = .ok (.goto 4, 3) := by decide +kernel
theorem dX5_isAgainst_72 : decode cX5_isAgainst 72 = .ok (.iconst 0, 1) := by decide +kernel
theorem dX5_isAgainst_73 : decode cX5_isAgainst 73 = .ok (.ireturn, 1) := by decide +kernel
theorem dX5_verdictOf_0 : decode cX5_verdictOf 0 = .ok (.iconst 0, 1) := by decide +kernel
theorem dX5_verdictOf_1 : decode cX5_verdictOf 1 = .ok (.istore_n 2, 1) := by decide +kernel
theorem dX5_verdictOf_2 : decode cX5_verdictOf 2 = .ok (.iconst 0, 1) := by decide +kernel
theorem dX5_verdictOf_3 : decode cX5_verdictOf 3 = .ok (.istore_n 3, 1) := by decide +kernel
theorem dX5_verdictOf_4 : decode cX5_verdictOf 4 = .ok (.iconst 0, 1) := by decide +kernel
theorem dX5_verdictOf_5 : decode cX5_verdictOf 5 = .ok (.istore 4, 2) := by decide +kernel
theorem dX5_verdictOf_7 : decode cX5_verdictOf 7 = .ok (.iload 4, 2) := by decide +kernel
theorem dX5_verdictOf_9 : decode cX5_verdictOf 9 = .ok (.aload_n 0, 1) := by decide +kernel
theorem dX5_verdictOf_10 : decode cX5_verdictOf 10 = .ok (.getfield 78, 3) := by decide +kernel
theorem dX5_verdictOf_13 : decode cX5_verdictOf 13 = .ok (.if_icmp .ge 45, 3) := by decide +kernel
theorem dX5_verdictOf_16 : decode cX5_verdictOf 16 = .ok (.aload_n 0, 1) := by decide +kernel
theorem dX5_verdictOf_17 : decode cX5_verdictOf 17 = .ok (.getfield 29, 3) := by decide +kernel
theorem dX5_verdictOf_20 : decode cX5_verdictOf 20 = .ok (.iload 4, 2) := by decide +kernel
theorem dX5_verdictOf_22 : decode cX5_verdictOf 22 = .ok (.baload, 1) := by decide +kernel
theorem dX5_verdictOf_23 : decode cX5_verdictOf 23 = .ok (.ifCond .ne 29, 3) := by decide +kernel
theorem dX5_verdictOf_26 : decode cX5_verdictOf 26 = .ok (.iinc 2 1, 3) := by decide +kernel
theorem dX5_verdictOf_29 : decode cX5_verdictOf 29 = .ok (.iload_n 3, 1) := by decide +kernel
theorem dX5_verdictOf_30 : decode cX5_verdictOf 30 = .ok (.aload_n 0, 1) := by decide +kernel
theorem dX5_verdictOf_31 : decode cX5_verdictOf 31 = .ok (.iload 4, 2) := by decide +kernel
theorem dX5_verdictOf_33 : decode cX5_verdictOf 33 = .ok (.iload_n 1, 1) := by decide +kernel
theorem dX5_verdictOf_34 : decode cX5_verdictOf 34 = .ok (.aload_n 0, 1) := by decide +kernel
theorem dX5_verdictOf_35 : decode cX5_verdictOf 35 = .ok (.getfield 146, 3) := by decide +kernel
theorem dX5_verdictOf_38 : decode cX5_verdictOf 38 = .ok (.iconst 1, 1) := by decide +kernel
theorem dX5_verdictOf_39 : decode cX5_verdictOf 39 = .ok (.invokevirtual 156, 3) := by decide +kernel
theorem dX5_verdictOf_42 : decode cX5_verdictOf 42 = .ok (.ifCond .eq 7, 3) := by decide +kernel
theorem dX5_verdictOf_45 : decode cX5_verdictOf 45 = .ok (.iconst 1, 1) := by decide +kernel
theorem dX5_verdictOf_46 : decode cX5_verdictOf 46 = .ok (.goto 4, 3) := by decide +kernel
theorem dX5_verdictOf_49 : decode cX5_verdictOf 49 = .ok (.iconst 0, 1) := by decide +kernel
theorem dX5_verdictOf_50 : decode cX5_verdictOf 50 = .ok (.iadd, 1) := by decide +kernel
theorem dX5_verdictOf_51 : decode cX5_verdictOf 51 = .ok (.istore_n 3, 1) := by decide +kernel
theorem dX5_verdictOf_52 : decode cX5_verdictOf 52 = .ok (.iinc 4 1, 3) := by decide +kernel
theorem dX5_verdictOf_55 : decode cX5_verdictOf 55 = .ok (.goto (-48), 3) := by decide +kernel
theorem dX5_verdictOf_58 : decode cX5_verdictOf 58 = .ok (.iconst 2, 1) := by decide +kernel
theorem dX5_verdictOf_59 : decode cX5_verdictOf 59 = .ok (.iload_n 3, 1) := by decide +kernel
theorem dX5_verdictOf_60 : decode cX5_verdictOf 60 = .ok (.imul, 1) := by decide +kernel
theorem dX5_verdictOf_61 : decode cX5_verdictOf 61 = .ok (.iload_n 2, 1) := by decide +kernel
theorem dX5_verdictOf_62 : decode cX5_verdictOf 62 = .ok (.if_icmp .le 7, 3) := by decide +kernel
theorem dX5_verdictOf_65 : decode cX5_verdictOf 65 = .ok (.iconst 1, 1) := by decide +kernel
theorem dX5_verdictOf_66 : decode cX5_verdictOf 66 = .ok (.goto 4, 3) := by decide +kernel
theorem dX5_verdictOf_69 : decode cX5_verdictOf 69 = .ok (.iconst 0, 1) := by decide +kernel
theorem dX5_verdictOf_70 : decode cX5_verdictOf 70 = .ok (.ireturn, 1) := by decide +kernel
theorem dX5_tryCase_0 : decode cX5_tryCase 0 = .ok (.aload_n 0, 1) := by decide +kernel
theorem dX5_tryCase_1 : decode cX5_tryCase 1 = .ok (.getfield 32, 3) := by decide +kernel
theorem dX5_tryCase_4 : decode cX5_tryCase 4 = .ok (.iload_n 1, 1) := by decide +kernel
theorem dX5_tryCase_5 : decode cX5_tryCase 5 = .ok (.iaload, 1) := by decide +kernel
theorem dX5_tryCase_6 : decode cX5_tryCase 6 = .ok (.istore_n 2, 1) := by decide +kernel
theorem dX5_tryCase_7 : decode cX5_tryCase 7 = .ok (.aload_n 0, 1) := by decide +kernel
theorem dX5_tryCase_8 : decode cX5_tryCase 8 = .ok (.getfield 50, 3) := by decide +kernel
theorem dX5_tryCase_11 : decode cX5_tryCase 11 = .ok (.iload_n 2, 1) := by decide +kernel
theorem dX5_tryCase_12 : decode cX5_tryCase 12 = .ok (.iaload, 1) := by decide +kernel
theorem dX5_tryCase_13 : decode cX5_tryCase 13 = .ok (.bipush (-9), 2) := by decide +kernel
theorem dX5_tryCase_15 : decode cX5_tryCase 15 = .ok (.if_icmp .ne 12, 3) := by decide +kernel
theorem dX5_tryCase_18 : decode cX5_tryCase 18 = .ok (.aload_n 0, 1) := by decide +kernel
theorem dX5_tryCase_19 : decode cX5_tryCase 19 = .ok (.getfield 35, 3) := by decide +kernel
theorem dX5_tryCase_22 : decode cX5_tryCase 22 = .ok (.iload_n 1, 1) := by decide +kernel
theorem dX5_tryCase_23 : decode cX5_tryCase 23 = .ok (.iaload, 1) := by decide +kernel
theorem dX5_tryCase_24 : decode cX5_tryCase 24 = .ok (.goto 4, 3) := by decide +kernel
theorem dX5_tryCase_27 : decode cX5_tryCase 27 = .ok (.iconst 1, 1) := by decide +kernel
theorem dX5_tryCase_28 : decode cX5_tryCase 28 = .ok (.istore_n 3, 1) := by decide +kernel
theorem dX5_tryCase_29 : decode cX5_tryCase 29 = .ok (.aload_n 0, 1) := by decide +kernel
theorem dX5_tryCase_30 : decode cX5_tryCase 30 = .ok (.aload_n 0, 1) := by decide +kernel
theorem dX5_tryCase_31 : decode cX5_tryCase 31 = .ok (.getfield 149, 3) := by decide +kernel
theorem dX5_tryCase_34 : decode cX5_tryCase 34 = .ok (.ifCond .ne 16, 3) := by decide +kernel
theorem dX5_tryCase_37 : decode cX5_tryCase 37 = .ok (.aload_n 0, 1) := by decide +kernel
theorem dX5_tryCase_38 : decode cX5_tryCase 38 = .ok (.getfield 146, 3) := by decide +kernel
theorem dX5_tryCase_41 : decode cX5_tryCase 41 = .ok (.iload_n 3, 1) := by decide +kernel
theorem dX5_tryCase_42 : decode cX5_tryCase 42 = .ok (.iadd, 1) := by decide +kernel
theorem dX5_tryCase_43 : decode cX5_tryCase 43 = .ok (.aload_n 0, 1) := by decide +kernel
theorem dX5_tryCase_44 : decode cX5_tryCase 44 = .ok (.getfield 108, 3) := by decide +kernel
theorem dX5_tryCase_47 : decode cX5_tryCase 47 = .ok (.if_icmp .le 7, 3) := by decide +kernel
theorem dX5_tryCase_50 : decode cX5_tryCase 50 = .ok (.iconst 1, 1) := by decide +kernel
theorem dX5_tryCase_51 : decode cX5_tryCase 51 = .ok (.goto 4, 3) := by decide +kernel
theorem dX5_tryCase_54 : decode cX5_tryCase 54 = .ok (.iconst 0, 1) := by decide +kernel
theorem dX5_tryCase_55 : decode cX5_tryCase 55 = .ok (.putfield 149, 3) := by decide +kernel
theorem dX5_tryCase_58 : decode cX5_tryCase 58 = .ok (.aload_n 0, 1) := by decide +kernel
theorem dX5_tryCase_59 : decode cX5_tryCase 59 = .ok (.getfield 149, 3) := by decide +kernel
theorem dX5_tryCase_62 : decode cX5_tryCase 62 = .ok (.ifCond .eq 11, 3) := by decide +kernel
theorem dX5_tryCase_65 : decode cX5_tryCase 65 = .ok (.aload_n 0, 1) := by decide +kernel
theorem dX5_tryCase_66 : decode cX5_tryCase 66 = .ok (.getfield 47, 3) := by decide +kernel
theorem dX5_tryCase_69 : decode cX5_tryCase 69 = .ok (.iload_n 1, 1) := by decide +kernel
theorem dX5_tryCase_70 : decode cX5_tryCase 70 = .ok (.iconst 2, 1) := by decide +kernel
theorem dX5_tryCase_71 : decode cX5_tryCase 71 = .ok (.iastore, 1) := by decide +kernel
theorem dX5_tryCase_72 : decode cX5_tryCase 72 = .ok (.return_, 1) := by decide +kernel
theorem dX5_tryCase_73 : decode cX5_tryCase 73 = .ok (.aload_n 0, 1) := by decide +kernel
theorem dX5_tryCase_74 : decode cX5_tryCase 74 = .ok (.dup, 1) := by decide +kernel
theorem dX5_tryCase_75 : decode cX5_tryCase 75 = .ok (.getfield 146, 3) := by decide +kernel
theorem dX5_tryCase_78 : decode cX5_tryCase 78 = .ok (.iload_n 3, 1) := by decide +kernel
theorem dX5_tryCase_79 : decode cX5_tryCase 79 = .ok (.iadd, 1) := by decide +kernel
theorem dX5_tryCase_80 : decode cX5_tryCase 80 = .ok (.putfield 146, 3) := by decide +kernel
theorem dX5_tryCase_83 : decode cX5_tryCase 83 = .ok (.aload_n 0, 1) := by decide +kernel
theorem dX5_tryCase_84 : decode cX5_tryCase 84 = .ok (.getfield 50, 3) := by decide +kernel
theorem dX5_tryCase_87 : decode cX5_tryCase 87 = .ok (.iload_n 2, 1) := by decide +kernel
theorem dX5_tryCase_88 : decode cX5_tryCase 88 = .ok (.aload_n 0, 1) := by decide +kernel
theorem dX5_tryCase_89 : decode cX5_tryCase 89 = .ok (.getfield 50, 3) := by decide +kernel
theorem dX5_tryCase_92 : decode cX5_tryCase 92 = .ok (.iload_n 2, 1) := by decide +kernel
theorem dX5_tryCase_93 : decode cX5_tryCase 93 = .ok (.iaload, 1) := by decide +kernel
theorem dX5_tryCase_94 : decode cX5_tryCase 94 = .ok (.bipush (-9), 2) := by decide +kernel
theorem dX5_tryCase_96 : decode cX5_tryCase 96 = .ok (.if_icmp .ne 11, 3) := by decide +kernel
theorem dX5_tryCase_99 : decode cX5_tryCase 99 = .ok (.aload_n 0, 1) := by decide +kernel
theorem dX5_tryCase_100 : decode cX5_tryCase 100 = .ok (.iload_n 1, 1) := by decide +kernel
theorem dX5_tryCase_101 : decode cX5_tryCase 101 = .ok (.invokevirtual 160, 3) := by decide +kernel
theorem dX5_tryCase_104 : decode cX5_tryCase 104 = .ok (.goto 9, 3) := by decide +kernel
theorem dX5_tryCase_107 : decode cX5_tryCase 107 = .ok (.aload_n 0, 1) := by decide +kernel
theorem dX5_tryCase_108 : decode cX5_tryCase 108 = .ok (.getfield 50, 3) := by decide +kernel
theorem dX5_tryCase_111 : decode cX5_tryCase 111 = .ok (.iload_n 2, 1) := by decide +kernel
theorem dX5_tryCase_112 : decode cX5_tryCase 112 = .ok (.iaload, 1) := by decide +kernel
theorem dX5_tryCase_113 : decode cX5_tryCase 113 = .ok (.iastore, 1) := by decide +kernel
theorem dX5_tryCase_114 : decode cX5_tryCase 114 = .ok (.aload_n 0, 1) := by decide +kernel
theorem dX5_tryCase_115 : decode cX5_tryCase 115 = .ok (.getfield 47, 3) := by decide +kernel
theorem dX5_tryCase_118 : decode cX5_tryCase 118 = .ok (.iload_n 1, 1) := by decide +kernel
theorem dX5_tryCase_119 : decode cX5_tryCase 119 = .ok (.aload_n 0, 1) := by decide +kernel
theorem dX5_tryCase_120 : decode cX5_tryCase 120 = .ok (.getfield 50, 3) := by decide +kernel
theorem dX5_tryCase_123 : decode cX5_tryCase 123 = .ok (.iload_n 2, 1) := by decide +kernel
theorem dX5_tryCase_124 : decode cX5_tryCase 124 = .ok (.iaload, 1) := by decide +kernel
theorem dX5_tryCase_125 : decode cX5_tryCase 125 = .ok (.iastore, 1) := by decide +kernel
theorem dX5_tryCase_126 : decode cX5_tryCase 126 = .ok (.return_, 1) := by decide +kernel
theorem dX5_sentenced_0 : decode cX5_sentenced 0 = .ok (.iconst 0, 1) := by decide +kernel
theorem dX5_sentenced_1 : decode cX5_sentenced 1 = .ok (.istore_n 1, 1) := by decide +kernel
theorem dX5_sentenced_2 : decode cX5_sentenced 2 = .ok (.iconst 0, 1) := by decide +kernel
theorem dX5_sentenced_3 : decode cX5_sentenced 3 = .ok (.istore_n 2, 1) := by decide +kernel
theorem dX5_sentenced_4 : decode cX5_sentenced 4 = .ok (.iload_n 2, 1) := by decide +kernel
theorem dX5_sentenced_5 : decode cX5_sentenced 5 = .ok (.aload_n 0, 1) := by decide +kernel
theorem dX5_sentenced_6 : decode cX5_sentenced 6 = .ok (.getfield 81, 3) := by decide +kernel
theorem dX5_sentenced_9 : decode cX5_sentenced 9 = .ok (.if_icmp .ge 32, 3) := by decide +kernel
theorem dX5_sentenced_12 : decode cX5_sentenced 12 = .ok (.iload_n 1, 1) := by decide +kernel
theorem dX5_sentenced_13 : decode cX5_sentenced 13 = .ok (.aload_n 0, 1) := by decide +kernel
theorem dX5_sentenced_14 : decode cX5_sentenced 14 = .ok (.getfield 47, 3) := by decide +kernel
theorem dX5_sentenced_17 : decode cX5_sentenced 17 = .ok (.iload_n 2, 1) := by decide +kernel
theorem dX5_sentenced_18 : decode cX5_sentenced 18 = .ok (.iaload, 1) := by decide +kernel
theorem dX5_sentenced_19 : decode cX5_sentenced 19 = .ok (.iconst 1, 1) := by decide +kernel
theorem dX5_sentenced_20 : decode cX5_sentenced 20 = .ok (.if_icmp .ne 12, 3) := by decide +kernel
theorem dX5_sentenced_23 : decode cX5_sentenced 23 = .ok (.aload_n 0, 1) := by decide +kernel
theorem dX5_sentenced_24 : decode cX5_sentenced 24 = .ok (.getfield 38, 3) := by decide +kernel
theorem dX5_sentenced_27 : decode cX5_sentenced 27 = .ok (.iload_n 2, 1) := by decide +kernel
theorem dX5_sentenced_28 : decode cX5_sentenced 28 = .ok (.iaload, 1) := by decide +kernel
theorem dX5_sentenced_29 : decode cX5_sentenced 29 = .ok (.goto 4, 3) := by decide +kernel
theorem dX5_sentenced_32 : decode cX5_sentenced 32 = .ok (.iconst 0, 1) := by decide +kernel
theorem dX5_sentenced_33 : decode cX5_sentenced 33 = .ok (.iadd, 1) := by decide +kernel
theorem dX5_sentenced_34 : decode cX5_sentenced 34 = .ok (.istore_n 1, 1) := by decide +kernel
theorem dX5_sentenced_35 : decode cX5_sentenced 35 = .ok (.iinc 2 1, 3) := by decide +kernel
theorem dX5_sentenced_38 : decode cX5_sentenced 38 = .ok (.goto (-34), 3) := by decide +kernel
theorem dX5_sentenced_41 : decode cX5_sentenced 41 = .ok (.iload_n 1, 1) := by decide +kernel
theorem dX5_sentenced_42 : decode cX5_sentenced 42 = .ok (.ireturn, 1) := by decide +kernel
theorem dX5_goRow_0 : decode cX5_goRow 0 = .ok (.aload_n 0, 1) := by decide +kernel
theorem dX5_goRow_1 : decode cX5_goRow 1 = .ok (.invokevirtual 163, 3) := by decide +kernel
theorem dX5_goRow_4 : decode cX5_goRow 4 = .ok (.iconst 0, 1) := by decide +kernel
theorem dX5_goRow_5 : decode cX5_goRow 5 = .ok (.istore_n 1, 1) := by decide +kernel
theorem dX5_goRow_6 : decode cX5_goRow 6 = .ok (.iload_n 1, 1) := by decide +kernel
theorem dX5_goRow_7 : decode cX5_goRow 7 = .ok (.aload_n 0, 1) := by decide +kernel
theorem dX5_goRow_8 : decode cX5_goRow 8 = .ok (.getfield 166, 3) := by decide +kernel
theorem dX5_goRow_11 : decode cX5_goRow 11 = .ok (.if_icmp .ge 19, 3) := by decide +kernel
theorem dX5_goRow_14 : decode cX5_goRow 14 = .ok (.aload_n 0, 1) := by decide +kernel
theorem dX5_goRow_15 : decode cX5_goRow 15 = .ok (.aload_n 0, 1) := by decide +kernel
theorem dX5_goRow_16 : decode cX5_goRow 16 = .ok (.getfield 56, 3) := by decide +kernel
theorem dX5_goRow_19 : decode cX5_goRow 19 = .ok (.iload_n 1, 1) := by decide +kernel
theorem dX5_goRow_20 : decode cX5_goRow 20 = .ok (.iaload, 1) := by decide +kernel
theorem dX5_goRow_21 : decode cX5_goRow 21 = .ok (.invokevirtual 169, 3) := by decide +kernel
theorem dX5_goRow_24 : decode cX5_goRow 24 = .ok (.iinc 1 1, 3) := by decide +kernel
theorem dX5_goRow_27 : decode cX5_goRow 27 = .ok (.goto (-21), 3) := by decide +kernel
theorem dX5_goRow_30 : decode cX5_goRow 30 = .ok (.return_, 1) := by decide +kernel
theorem dX5_layNumbers_0 : decode cX5_layNumbers 0 = .ok (.aload_n 0, 1) := by decide +kernel
theorem dX5_layNumbers_1 : decode cX5_layNumbers 1 = .ok (.aload_n 0, 1) := by decide +kernel
theorem dX5_layNumbers_2 : decode cX5_layNumbers 2 = .ok (.getfield 81, 3) := by decide +kernel
theorem dX5_layNumbers_5 : decode cX5_layNumbers 5 = .ok (.putfield 166, 3) := by decide +kernel
theorem dX5_layNumbers_8 : decode cX5_layNumbers 8 = .ok (.iconst 0, 1) := by decide +kernel
theorem dX5_layNumbers_9 : decode cX5_layNumbers 9 = .ok (.istore_n 1, 1) := by decide +kernel
theorem dX5_layNumbers_10 : decode cX5_layNumbers 10 = .ok (.iload_n 1, 1) := by decide +kernel
theorem dX5_layNumbers_11 : decode cX5_layNumbers 11 = .ok (.aload_n 0, 1) := by decide +kernel
theorem dX5_layNumbers_12 : decode cX5_layNumbers 12 = .ok (.getfield 81, 3) := by decide +kernel
theorem dX5_layNumbers_15 : decode cX5_layNumbers 15 = .ok (.if_icmp .ge 16, 3) := by decide +kernel
theorem dX5_layNumbers_18 : decode cX5_layNumbers 18 = .ok (.aload_n 0, 1) := by decide +kernel
theorem dX5_layNumbers_19 : decode cX5_layNumbers 19 = .ok (.getfield 56, 3) := by decide +kernel
theorem dX5_layNumbers_22 : decode cX5_layNumbers 22 = .ok (.iload_n 1, 1) := by decide +kernel
theorem dX5_layNumbers_23 : decode cX5_layNumbers 23 = .ok (.iload_n 1, 1) := by decide +kernel
theorem dX5_layNumbers_24 : decode cX5_layNumbers 24 = .ok (.iastore, 1) := by decide +kernel
theorem dX5_layNumbers_25 : decode cX5_layNumbers 25 = .ok (.iinc 1 1, 3) := by decide +kernel
theorem dX5_layNumbers_28 : decode cX5_layNumbers 28 = .ok (.goto (-18), 3) := by decide +kernel
theorem dX5_layNumbers_31 : decode cX5_layNumbers 31 = .ok (.return_, 1) := by decide +kernel
theorem dX5_byNumbers_0 : decode cX5_byNumbers 0 = .ok (.aload_n 0, 1) := by decide +kernel
theorem dX5_byNumbers_1 : decode cX5_byNumbers 1 = .ok (.invokevirtual 173, 3) := by decide +kernel
theorem dX5_byNumbers_4 : decode cX5_byNumbers 4 = .ok (.aload_n 0, 1) := by decide +kernel
theorem dX5_byNumbers_5 : decode cX5_byNumbers 5 = .ok (.invokevirtual 176, 3) := by decide +kernel
theorem dX5_byNumbers_8 : decode cX5_byNumbers 8 = .ok (.aload_n 0, 1) := by decide +kernel
theorem dX5_byNumbers_9 : decode cX5_byNumbers 9 = .ok (.invokevirtual 179, 3) := by decide +kernel
theorem dX5_byNumbers_12 : decode cX5_byNumbers 12 = .ok (.ireturn, 1) := by decide +kernel
theorem dX5_layRow_0 : decode cX5_layRow 0 = .ok (.aload_n 0, 1) := by decide +kernel
theorem dX5_layRow_1 : decode cX5_layRow 1 = .ok (.iload_n 1, 1) := by decide +kernel
theorem dX5_layRow_2 : decode cX5_layRow 2 = .ok (.iload_n 2, 1) := by decide +kernel
theorem dX5_layRow_3 : decode cX5_layRow 3 = .ok (.iload_n 3, 1) := by decide +kernel
theorem dX5_layRow_4 : decode cX5_layRow 4 = .ok (.iload 4, 2) := by decide +kernel
theorem dX5_layRow_6 : decode cX5_layRow 6 = .ok (.invokevirtual 94, 3) := by decide +kernel
theorem dX5_layRow_9 : decode cX5_layRow 9 = .ok (.istore 5, 2) := by decide +kernel
theorem dX5_layRow_11 : decode cX5_layRow 11 = .ok (.iload 5, 2) := by decide +kernel
theorem dX5_layRow_13 : decode cX5_layRow 13 = .ok (.ifCond .eq 10, 3) := by decide +kernel
theorem dX5_layRow_16 : decode cX5_layRow 16 = .ok (.aload_n 0, 1) := by decide +kernel
theorem dX5_layRow_17 : decode cX5_layRow 17 = .ok (.iload 5, 2) := by decide +kernel
theorem dX5_layRow_19 : decode cX5_layRow 19 = .ok (.invokevirtual 98, 3) := by decide +kernel
theorem dX5_layRow_22 : decode cX5_layRow 22 = .ok (.ireturn, 1) := by decide +kernel
theorem dX5_layRow_23 : decode cX5_layRow 23 = .ok (.aload_n 0, 1) := by decide +kernel
theorem dX5_layRow_24 : decode cX5_layRow 24 = .ok (.getfield 81, 3) := by decide +kernel
theorem dX5_layRow_27 : decode cX5_layRow 27 = .ok (.ifCond .ne 6, 3) := by decide +kernel
theorem dX5_layRow_30 : decode cX5_layRow 30 = .ok (.bipush (-3), 2) := by decide +kernel
theorem dX5_layRow_32 : decode cX5_layRow 32 = .ok (.ireturn, 1) := by decide +kernel
theorem dX5_layRow_33 : decode cX5_layRow 33 = .ok (.bipush 60, 2) := by decide +kernel
theorem dX5_layRow_35 : decode cX5_layRow 35 = .ok (.iload_n 1, 1) := by decide +kernel
theorem dX5_layRow_36 : decode cX5_layRow 36 = .ok (.imul, 1) := by decide +kernel
theorem dX5_layRow_37 : decode cX5_layRow 37 = .ok (.iload_n 3, 1) := by decide +kernel
theorem dX5_layRow_38 : decode cX5_layRow 38 = .ok (.iadd, 1) := by decide +kernel
theorem dX5_layRow_39 : decode cX5_layRow 39 = .ok (.istore 6, 2) := by decide +kernel
theorem dX5_layRow_41 : decode cX5_layRow 41 = .ok (.iconst 0, 1) := by decide +kernel
theorem dX5_layRow_42 : decode cX5_layRow 42 = .ok (.istore 7, 2) := by decide +kernel
theorem dX5_layRow_44 : decode cX5_layRow 44 = .ok (.iconst 0, 1) := by decide +kernel
theorem dX5_layRow_45 : decode cX5_layRow 45 = .ok (.istore 8, 2) := by decide +kernel
theorem dX5_layRow_47 : decode cX5_layRow 47 = .ok (.iload 8, 2) := by decide +kernel
theorem dX5_layRow_49 : decode cX5_layRow 49 = .ok (.iload 4, 2) := by decide +kernel
theorem dX5_layRow_51 : decode cX5_layRow 51 = .ok (.if_icmp .ge 61, 3) := by decide +kernel
theorem dX5_layRow_54 : decode cX5_layRow 54 = .ok (.aload_n 0, 1) := by decide +kernel
theorem dX5_layRow_55 : decode cX5_layRow 55 = .ok (.getfield 16, 3) := by decide +kernel
theorem dX5_layRow_58 : decode cX5_layRow 58 = .ok (.iload 6, 2) := by decide +kernel
theorem dX5_layRow_60 : decode cX5_layRow 60 = .ok (.iload 8, 2) := by decide +kernel
theorem dX5_layRow_62 : decode cX5_layRow 62 = .ok (.iadd, 1) := by decide +kernel
theorem dX5_layRow_63 : decode cX5_layRow 63 = .ok (.iaload, 1) := by decide +kernel
theorem dX5_layRow_64 : decode cX5_layRow 64 = .ok (.istore 9, 2) := by decide +kernel
theorem dX5_layRow_66 : decode cX5_layRow 66 = .ok (.aload_n 0, 1) := by decide +kernel
theorem dX5_layRow_67 : decode cX5_layRow 67 = .ok (.iload 9, 2) := by decide +kernel
theorem dX5_layRow_69 : decode cX5_layRow 69 = .ok (.invokevirtual 143, 3) := by decide +kernel
theorem dX5_layRow_72 : decode cX5_layRow 72 = .ok (.ifCond .eq 14, 3) := by decide +kernel
theorem dX5_layRow_75 : decode cX5_layRow 75 = .ok (.iload 7, 2) := by decide +kernel
theorem dX5_layRow_77 : decode cX5_layRow 77 = .ok (.iload 9, 2) := by decide +kernel
theorem dX5_layRow_79 : decode cX5_layRow 79 = .ok (.ishr, 1) := by decide +kernel
theorem dX5_layRow_80 : decode cX5_layRow 80 = .ok (.iconst 1, 1) := by decide +kernel
theorem dX5_layRow_81 : decode cX5_layRow 81 = .ok (.iand, 1) := by decide +kernel
theorem dX5_layRow_82 : decode cX5_layRow 82 = .ok (.iconst 1, 1) := by decide +kernel
theorem dX5_layRow_83 : decode cX5_layRow 83 = .ok (.if_icmp .ne 5, 3) := by decide +kernel
theorem dX5_layRow_86 : decode cX5_layRow 86 = .ok (.iconst (-1), 1) := by decide +kernel
theorem dX5_layRow_87 : decode cX5_layRow 87 = .ok (.ireturn, 1) := by decide +kernel
theorem dX5_layRow_88 : decode cX5_layRow 88 = .ok (.iload 7, 2) := by decide +kernel
theorem dX5_layRow_90 : decode cX5_layRow 90 = .ok (.iconst 1, 1) := by decide +kernel
theorem dX5_layRow_91 : decode cX5_layRow 91 = .ok (.iload 9, 2) := by decide +kernel
theorem dX5_layRow_93 : decode cX5_layRow 93 = .ok (.ishl, 1) := by decide +kernel
theorem dX5_layRow_94 : decode cX5_layRow 94 = .ok (.ior, 1) := by decide +kernel
theorem dX5_layRow_95 : decode cX5_layRow 95 = .ok (.istore 7, 2) := by decide +kernel
theorem dX5_layRow_97 : decode cX5_layRow 97 = .ok (.aload_n 0, 1) := by decide +kernel
theorem dX5_layRow_98 : decode cX5_layRow 98 = .ok (.getfield 56, 3) := by decide +kernel
theorem dX5_layRow_101 : decode cX5_layRow 101 = .ok (.iload 8, 2) := by decide +kernel
theorem dX5_layRow_103 : decode cX5_layRow 103 = .ok (.iload 9, 2) := by decide +kernel
theorem dX5_layRow_105 : decode cX5_layRow 105 = .ok (.iastore, 1) := by decide +kernel
theorem dX5_layRow_106 : decode cX5_layRow 106 = .ok (.iinc 8 1, 3) := by decide +kernel
theorem dX5_layRow_109 : decode cX5_layRow 109 = .ok (.goto (-62), 3) := by decide +kernel
theorem dX5_layRow_112 : decode cX5_layRow 112 = .ok (.aload_n 0, 1) := by decide +kernel
theorem dX5_layRow_113 : decode cX5_layRow 113 = .ok (.iload 4, 2) := by decide +kernel
theorem dX5_layRow_115 : decode cX5_layRow 115 = .ok (.putfield 166, 3) := by decide +kernel
theorem dX5_layRow_118 : decode cX5_layRow 118 = .ok (.iconst 0, 1) := by decide +kernel
theorem dX5_layRow_119 : decode cX5_layRow 119 = .ok (.ireturn, 1) := by decide +kernel
theorem dX5_sitting_0 : decode cX5_sitting 0 = .ok (.aload_n 0, 1) := by decide +kernel
theorem dX5_sitting_1 : decode cX5_sitting 1 = .ok (.iconst 0, 1) := by decide +kernel
theorem dX5_sitting_2 : decode cX5_sitting 2 = .ok (.putfield 68, 3) := by decide +kernel
theorem dX5_sitting_5 : decode cX5_sitting 5 = .ok (.iload_n 1, 1) := by decide +kernel
theorem dX5_sitting_6 : decode cX5_sitting 6 = .ok (.invokestatic 87, 3) := by decide +kernel
theorem dX5_sitting_9 : decode cX5_sitting 9 = .ok (.ifCond .ne 5, 3) := by decide +kernel
theorem dX5_sitting_12 : decode cX5_sitting 12 = .ok (.iconst (-1), 1) := by decide +kernel
theorem dX5_sitting_13 : decode cX5_sitting 13 = .ok (.ireturn, 1) := by decide +kernel
theorem dX5_sitting_14 : decode cX5_sitting 14 = .ok (.iload_n 2, 1) := by decide +kernel
theorem dX5_sitting_15 : decode cX5_sitting 15 = .ok (.invokestatic 91, 3) := by decide +kernel
theorem dX5_sitting_18 : decode cX5_sitting 18 = .ok (.ifCond .eq 25, 3) := by decide +kernel
theorem dX5_sitting_21 : decode cX5_sitting 21 = .ok (.iload 5, 2) := by decide +kernel
theorem dX5_sitting_23 : decode cX5_sitting 23 = .ok (.iconst 0, 1) := by decide +kernel
theorem dX5_sitting_24 : decode cX5_sitting 24 = .ok (.iconst 1, 1) := by decide +kernel
theorem dX5_sitting_25 : decode cX5_sitting 25 = .ok (.invokestatic 74, 3) := by decide +kernel
theorem dX5_sitting_28 : decode cX5_sitting 28 = .ok (.ifCond .ne 18, 3) := by decide +kernel
theorem dX5_sitting_31 : decode cX5_sitting 31 = .ok (.iload 5, 2) := by decide +kernel
theorem dX5_sitting_33 : decode cX5_sitting 33 = .ok (.bipush 10, 2) := by decide +kernel
theorem dX5_sitting_35 : decode cX5_sitting 35 = .ok (.bipush 14, 2) := by decide +kernel
theorem dX5_sitting_37 : decode cX5_sitting 37 = .ok (.invokestatic 74, 3) := by decide +kernel
theorem dX5_sitting_40 : decode cX5_sitting 40 = .ok (.ifCond .ne 6, 3) := by decide +kernel
theorem dX5_sitting_43 : decode cX5_sitting 43 = .ok (.bipush (-2), 2) := by decide +kernel
theorem dX5_sitting_45 : decode cX5_sitting 45 = .ok (.ireturn, 1) := by decide +kernel
theorem dX5_sitting_46 : decode cX5_sitting 46 = .ok (.aload_n 0, 1) := by decide +kernel
theorem dX5_sitting_47 : decode cX5_sitting 47 = .ok (.iload_n 1, 1) := by decide +kernel
theorem dX5_sitting_48 : decode cX5_sitting 48 = .ok (.iload_n 2, 1) := by decide +kernel
theorem dX5_sitting_49 : decode cX5_sitting 49 = .ok (.iload_n 3, 1) := by decide +kernel
theorem dX5_sitting_50 : decode cX5_sitting 50 = .ok (.iload 4, 2) := by decide +kernel
theorem dX5_sitting_52 : decode cX5_sitting 52 = .ok (.invokevirtual 183, 3) := by decide +kernel
theorem dX5_sitting_55 : decode cX5_sitting 55 = .ok (.istore 6, 2) := by decide +kernel
theorem dX5_sitting_57 : decode cX5_sitting 57 = .ok (.iload 6, 2) := by decide +kernel
theorem dX5_sitting_59 : decode cX5_sitting 59 = .ok (.ifCond .eq 6, 3) := by decide +kernel
theorem dX5_sitting_62 : decode cX5_sitting 62 = .ok (.iload 6, 2) := by decide +kernel
theorem dX5_sitting_64 : decode cX5_sitting 64 = .ok (.ireturn, 1) := by decide +kernel
theorem dX5_sitting_65 : decode cX5_sitting 65 = .ok (.aload_n 0, 1) := by decide +kernel
theorem dX5_sitting_66 : decode cX5_sitting 66 = .ok (.invokevirtual 176, 3) := by decide +kernel
theorem dX5_sitting_69 : decode cX5_sitting 69 = .ok (.iload 5, 2) := by decide +kernel
theorem dX5_sitting_71 : decode cX5_sitting 71 = .ok (.iconst 2, 1) := by decide +kernel
theorem dX5_sitting_72 : decode cX5_sitting 72 = .ok (.if_icmp .ge 20, 3) := by decide +kernel
theorem dX5_sitting_75 : decode cX5_sitting 75 = .ok (.iload 5, 2) := by decide +kernel
theorem dX5_sitting_77 : decode cX5_sitting 77 = .ok (.ifCond .ne 10, 3) := by decide +kernel
theorem dX5_sitting_80 : decode cX5_sitting 80 = .ok (.aload_n 0, 1) := by decide +kernel
theorem dX5_sitting_81 : decode cX5_sitting 81 = .ok (.invokevirtual 179, 3) := by decide +kernel
theorem dX5_sitting_84 : decode cX5_sitting 84 = .ok (.goto 7, 3) := by decide +kernel
