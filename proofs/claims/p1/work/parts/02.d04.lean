theorem dX11_placeOf_6 : decode cX11_placeOf 6 = .ok (.ifCond .eq 7, 3) := by decide +kernel
theorem dX11_placeOf_9 : decode cX11_placeOf 9 = .ok (.iconst 0, 1) := by decide +kernel
theorem dX11_placeOf_10 : decode cX11_placeOf 10 = .ok (.goto 4, 3) := by decide +kernel
theorem dX11_placeOf_13 : decode cX11_placeOf 13 = .ok (.iconst 1, 1) := by decide +kernel
theorem dX11_placeOf_14 : decode cX11_placeOf 14 = .ok (.putfield 192, 3) := by decide +kernel
theorem dX11_placeOf_17 : decode cX11_placeOf 17 = .ok (.aload_n 0, 1) := by decide +kernel
theorem dX11_placeOf_18 : decode cX11_placeOf 18 = .ok (.getfield 192, 3) := by decide +kernel
theorem dX11_placeOf_21 : decode cX11_placeOf 21 = .ok (.ifCond .le 7, 3) := by decide +kernel
theorem dX11_placeOf_24 : decode cX11_placeOf 24 = .ok (.iconst 0, 1) := by decide +kernel
theorem dX11_placeOf_25 : decode cX11_placeOf 25 = .ok (.goto 20, 3) := by decide +kernel
theorem dX11_placeOf_28 : decode cX11_placeOf 28 = .ok (.aload_n 0, 1) := by decide +kernel
theorem dX11_placeOf_29 : decode cX11_placeOf 29 = .ok (.getfield 398, 3) := by decide +kernel
theorem dX11_placeOf_32 : decode cX11_placeOf 32 = .ok (.ifCond .ne 7, 3) := by decide +kernel
theorem dX11_placeOf_35 : decode cX11_placeOf 35 = .ok (.iconst (-1), 1) := by decide +kernel
theorem dX11_placeOf_36 : decode cX11_placeOf 36 = .ok (.goto 9, 3) := by decide +kernel
theorem dX11_placeOf_39 : decode cX11_placeOf 39 = .ok (.aload_n 0, 1) := by decide +kernel
theorem dX11_placeOf_40 : decode cX11_placeOf 40 = .ok (.getfield 155, 3) := by decide +kernel
theorem dX11_placeOf_43 : decode cX11_placeOf 43 = .ok (.iload_n 1, 1) := by decide +kernel
theorem dX11_placeOf_44 : decode cX11_placeOf 44 = .ok (.iaload, 1) := by decide +kernel
theorem dX11_placeOf_45 : decode cX11_placeOf 45 = .ok (.ireturn, 1) := by decide +kernel
theorem dX11_decisions_0 : decode cX11_decisions 0 = .ok (.aload_n 0, 1) := by decide +kernel
theorem dX11_decisions_1 : decode cX11_decisions 1 = .ok (.iconst 0, 1) := by decide +kernel
theorem dX11_decisions_2 : decode cX11_decisions 2 = .ok (.putfield 192, 3) := by decide +kernel
theorem dX11_decisions_5 : decode cX11_decisions 5 = .ok (.aload_n 0, 1) := by decide +kernel
theorem dX11_decisions_6 : decode cX11_decisions 6 = .ok (.getfield 401, 3) := by decide +kernel
theorem dX11_decisions_9 : decode cX11_decisions 9 = .ok (.ireturn, 1) := by decide +kernel
theorem dX11_wayAt_0 : decode cX11_wayAt 0 = .ok (.aload_n 0, 1) := by decide +kernel
theorem dX11_wayAt_1 : decode cX11_wayAt 1 = .ok (.iload_n 1, 1) := by decide +kernel
theorem dX11_wayAt_2 : decode cX11_wayAt 2 = .ok (.iconst 0, 1) := by decide +kernel
theorem dX11_wayAt_3 : decode cX11_wayAt 3 = .ok (.aload_n 0, 1) := by decide +kernel
theorem dX11_wayAt_4 : decode cX11_wayAt 4 = .ok (.getfield 401, 3) := by decide +kernel
theorem dX11_wayAt_7 : decode cX11_wayAt 7 = .ok (.iconst 1, 1) := by decide +kernel
theorem dX11_wayAt_8 : decode cX11_wayAt 8 = .ok (.isub, 1) := by decide +kernel
theorem dX11_wayAt_9 : decode cX11_wayAt 9 = .ok (.invokestatic 195, 3) := by decide +kernel
theorem dX11_wayAt_12 : decode cX11_wayAt 12 = .ok (.ifCond .eq 7, 3) := by decide +kernel
theorem dX11_wayAt_15 : decode cX11_wayAt 15 = .ok (.iconst 0, 1) := by decide +kernel
theorem dX11_wayAt_16 : decode cX11_wayAt 16 = .ok (.goto 4, 3) := by decide +kernel
theorem dX11_wayAt_19 : decode cX11_wayAt 19 = .ok (.iconst 1, 1) := by decide +kernel
theorem dX11_wayAt_20 : decode cX11_wayAt 20 = .ok (.putfield 192, 3) := by decide +kernel
theorem dX11_wayAt_23 : decode cX11_wayAt 23 = .ok (.aload_n 0, 1) := by decide +kernel
theorem dX11_wayAt_24 : decode cX11_wayAt 24 = .ok (.getfield 192, 3) := by decide +kernel
theorem dX11_wayAt_27 : decode cX11_wayAt 27 = .ok (.ifCond .ne 12, 3) := by decide +kernel
theorem dX11_wayAt_30 : decode cX11_wayAt 30 = .ok (.aload_n 0, 1) := by decide +kernel
theorem dX11_wayAt_31 : decode cX11_wayAt 31 = .ok (.getfield 158, 3) := by decide +kernel
theorem dX11_wayAt_34 : decode cX11_wayAt 34 = .ok (.iload_n 1, 1) := by decide +kernel
theorem dX11_wayAt_35 : decode cX11_wayAt 35 = .ok (.iaload, 1) := by decide +kernel
theorem dX11_wayAt_36 : decode cX11_wayAt 36 = .ok (.goto 4, 3) := by decide +kernel
theorem dX11_wayAt_39 : decode cX11_wayAt 39 = .ok (.iconst 0, 1) := by decide +kernel
theorem dX11_wayAt_40 : decode cX11_wayAt 40 = .ok (.ireturn, 1) := by decide +kernel
theorem dX11_breakPages_0 : decode cX11_breakPages 0 = .ok (.aload_n 0, 1) := by decide +kernel
theorem dX11_breakPages_1 : decode cX11_breakPages 1 = .ok (.iload_n 1, 1) := by decide +kernel
theorem dX11_breakPages_2 : decode cX11_breakPages 2 = .ok (.iconst 1, 1) := by decide +kernel
theorem dX11_breakPages_3 : decode cX11_breakPages 3 = .ok (.bipush 20, 2) := by decide +kernel
theorem dX11_breakPages_5 : decode cX11_breakPages 5 = .ok (.invokestatic 195, 3) := by decide +kernel
theorem dX11_breakPages_8 : decode cX11_breakPages 8 = .ok (.ifCond .ne 7, 3) := by decide +kernel
theorem dX11_breakPages_11 : decode cX11_breakPages 11 = .ok (.iconst 1, 1) := by decide +kernel
theorem dX11_breakPages_12 : decode cX11_breakPages 12 = .ok (.goto 15, 3) := by decide +kernel
theorem dX11_breakPages_15 : decode cX11_breakPages 15 = .ok (.aload_n 0, 1) := by decide +kernel
theorem dX11_breakPages_16 : decode cX11_breakPages 16 = .ok (.getfield 398, 3) := by decide +kernel
theorem dX11_breakPages_19 : decode cX11_breakPages 19 = .ok (.ifCond .ne 7, 3) := by decide +kernel
theorem dX11_breakPages_22 : decode cX11_breakPages 22 = .ok (.iconst 2, 1) := by decide +kernel
theorem dX11_breakPages_23 : decode cX11_breakPages 23 = .ok (.goto 4, 3) := by decide +kernel
theorem dX11_breakPages_26 : decode cX11_breakPages 26 = .ok (.iconst 0, 1) := by decide +kernel
theorem dX11_breakPages_27 : decode cX11_breakPages 27 = .ok (.putfield 192, 3) := by decide +kernel
theorem dX11_breakPages_30 : decode cX11_breakPages 30 = .ok (.aload_n 0, 1) := by decide +kernel
theorem dX11_breakPages_31 : decode cX11_breakPages 31 = .ok (.getfield 192, 3) := by decide +kernel
theorem dX11_breakPages_34 : decode cX11_breakPages 34 = .ok (.ifCond .le 5, 3) := by decide +kernel
theorem dX11_breakPages_37 : decode cX11_breakPages 37 = .ok (.iconst 0, 1) := by decide +kernel
theorem dX11_breakPages_38 : decode cX11_breakPages 38 = .ok (.ireturn, 1) := by decide +kernel
theorem dX11_breakPages_39 : decode cX11_breakPages 39 = .ok (.aload_n 0, 1) := by decide +kernel
theorem dX11_breakPages_40 : decode cX11_breakPages 40 = .ok (.getfield 179, 3) := by decide +kernel
theorem dX11_breakPages_43 : decode cX11_breakPages 43 = .ok (.aload_n 0, 1) := by decide +kernel
theorem dX11_breakPages_44 : decode cX11_breakPages 44 = .ok (.getfield 398, 3) := by decide +kernel
theorem dX11_breakPages_47 : decode cX11_breakPages 47 = .ok (.iconst 0, 1) := by decide +kernel
theorem dX11_breakPages_48 : decode cX11_breakPages 48 = .ok (.iastore, 1) := by decide +kernel
theorem dX11_breakPages_49 : decode cX11_breakPages 49 = .ok (.aload_n 0, 1) := by decide +kernel
theorem dX11_breakPages_50 : decode cX11_breakPages 50 = .ok (.getfield 182, 3) := by decide +kernel
theorem dX11_breakPages_53 : decode cX11_breakPages 53 = .ok (.aload_n 0, 1) := by decide +kernel
theorem dX11_breakPages_54 : decode cX11_breakPages 54 = .ok (.getfield 398, 3) := by decide +kernel
theorem dX11_breakPages_57 : decode cX11_breakPages 57 = .ok (.iconst 0, 1) := by decide +kernel
theorem dX11_breakPages_58 : decode cX11_breakPages 58 = .ok (.iastore, 1) := by decide +kernel
theorem dX11_breakPages_59 : decode cX11_breakPages 59 = .ok (.aload_n 0, 1) := by decide +kernel
theorem dX11_breakPages_60 : decode cX11_breakPages 60 = .ok (.getfield 398, 3) := by decide +kernel
theorem dX11_breakPages_63 : decode cX11_breakPages 63 = .ok (.iconst 1, 1) := by decide +kernel
theorem dX11_breakPages_64 : decode cX11_breakPages 64 = .ok (.isub, 1) := by decide +kernel
theorem dX11_breakPages_65 : decode cX11_breakPages 65 = .ok (.istore_n 2, 1) := by decide +kernel
theorem dX11_breakPages_66 : decode cX11_breakPages 66 = .ok (.iload_n 2, 1) := by decide +kernel
theorem dX11_breakPages_67 : decode cX11_breakPages 67 = .ok (.ifCond .lt 183, 3) := by decide +kernel
theorem dX11_breakPages_70 : decode cX11_breakPages 70 = .ok (.aload_n 0, 1) := by decide +kernel
theorem dX11_breakPages_71 : decode cX11_breakPages 71 = .ok (.getfield 185, 3) := by decide +kernel
theorem dX11_breakPages_74 : decode cX11_breakPages 74 = .ok (.iload_n 2, 1) := by decide +kernel
theorem dX11_breakPages_75 : decode cX11_breakPages 75 = .ok (.iconst 0, 1) := by decide +kernel
theorem dX11_breakPages_76 : decode cX11_breakPages 76 = .ok (.iastore, 1) := by decide +kernel
theorem dX11_breakPages_77 : decode cX11_breakPages 77 = .ok (.iconst 1, 1) := by decide +kernel
theorem dX11_breakPages_78 : decode cX11_breakPages 78 = .ok (.istore_n 3, 1) := by decide +kernel
theorem dX11_breakPages_79 : decode cX11_breakPages 79 = .ok (.iload_n 3, 1) := by decide +kernel
theorem dX11_breakPages_80 : decode cX11_breakPages 80 = .ok (.iload_n 1, 1) := by decide +kernel
theorem dX11_breakPages_81 : decode cX11_breakPages 81 = .ok (.if_icmp .gt 163, 3) := by decide +kernel
theorem dX11_breakPages_84 : decode cX11_breakPages 84 = .ok (.iload_n 2, 1) := by decide +kernel
theorem dX11_breakPages_85 : decode cX11_breakPages 85 = .ok (.iload_n 3, 1) := by decide +kernel
theorem dX11_breakPages_86 : decode cX11_breakPages 86 = .ok (.iadd, 1) := by decide +kernel
theorem dX11_breakPages_87 : decode cX11_breakPages 87 = .ok (.aload_n 0, 1) := by decide +kernel
theorem dX11_breakPages_88 : decode cX11_breakPages 88 = .ok (.getfield 398, 3) := by decide +kernel
theorem dX11_breakPages_91 : decode cX11_breakPages 91 = .ok (.if_icmp .gt 153, 3) := by decide +kernel
theorem dX11_breakPages_94 : decode cX11_breakPages 94 = .ok (.iload_n 2, 1) := by decide +kernel
theorem dX11_breakPages_95 : decode cX11_breakPages 95 = .ok (.iload_n 3, 1) := by decide +kernel
theorem dX11_breakPages_96 : decode cX11_breakPages 96 = .ok (.iadd, 1) := by decide +kernel
theorem dX11_breakPages_97 : decode cX11_breakPages 97 = .ok (.istore 4, 2) := by decide +kernel
theorem dX11_breakPages_99 : decode cX11_breakPages 99 = .ok (.iload 4, 2) := by decide +kernel
theorem dX11_breakPages_101 : decode cX11_breakPages 101 = .ok (.aload_n 0, 1) := by decide +kernel
theorem dX11_breakPages_102 : decode cX11_breakPages 102 = .ok (.getfield 398, 3) := by decide +kernel
theorem dX11_breakPages_105 : decode cX11_breakPages 105 = .ok (.if_icmp .ne 7, 3) := by decide +kernel
theorem dX11_breakPages_108 : decode cX11_breakPages 108 = .ok (.iconst 1, 1) := by decide +kernel
theorem dX11_breakPages_109 : decode cX11_breakPages 109 = .ok (.goto 4, 3) := by decide +kernel
theorem dX11_breakPages_112 : decode cX11_breakPages 112 = .ok (.iconst 0, 1) := by decide +kernel
theorem dX11_breakPages_113 : decode cX11_breakPages 113 = .ok (.istore 5, 2) := by decide +kernel
theorem dX11_breakPages_115 : decode cX11_breakPages 115 = .ok (.iload 5, 2) := by decide +kernel
theorem dX11_breakPages_117 : decode cX11_breakPages 117 = .ok (.ifCond .eq 7, 3) := by decide +kernel
theorem dX11_breakPages_120 : decode cX11_breakPages 120 = .ok (.iconst 0, 1) := by decide +kernel
theorem dX11_breakPages_121 : decode cX11_breakPages 121 = .ok (.goto 27, 3) := by decide +kernel
theorem dX11_breakPages_124 : decode cX11_breakPages 124 = .ok (.iload_n 1, 1) := by decide +kernel
theorem dX11_breakPages_125 : decode cX11_breakPages 125 = .ok (.iload_n 3, 1) := by decide +kernel
theorem dX11_breakPages_126 : decode cX11_breakPages 126 = .ok (.isub, 1) := by decide +kernel
theorem dX11_breakPages_127 : decode cX11_breakPages 127 = .ok (.iload_n 1, 1) := by decide +kernel
theorem dX11_breakPages_128 : decode cX11_breakPages 128 = .ok (.iload_n 3, 1) := by decide +kernel
theorem dX11_breakPages_129 : decode cX11_breakPages 129 = .ok (.isub, 1) := by decide +kernel
theorem dX11_breakPages_130 : decode cX11_breakPages 130 = .ok (.imul, 1) := by decide +kernel
theorem dX11_breakPages_131 : decode cX11_breakPages 131 = .ok (.aload_n 0, 1) := by decide +kernel
theorem dX11_breakPages_132 : decode cX11_breakPages 132 = .ok (.iload 4, 2) := by decide +kernel
theorem dX11_breakPages_134 : decode cX11_breakPages 134 = .ok (.iconst 1, 1) := by decide +kernel
theorem dX11_breakPages_135 : decode cX11_breakPages 135 = .ok (.isub, 1) := by decide +kernel
theorem dX11_breakPages_136 : decode cX11_breakPages 136 = .ok (.invokevirtual 444, 3) := by decide +kernel
theorem dX11_breakPages_139 : decode cX11_breakPages 139 = .ok (.iadd, 1) := by decide +kernel
theorem dX11_breakPages_140 : decode cX11_breakPages 140 = .ok (.aload_n 0, 1) := by decide +kernel
theorem dX11_breakPages_141 : decode cX11_breakPages 141 = .ok (.getfield 179, 3) := by decide +kernel
theorem dX11_breakPages_144 : decode cX11_breakPages 144 = .ok (.iload 4, 2) := by decide +kernel
theorem dX11_breakPages_146 : decode cX11_breakPages 146 = .ok (.iaload, 1) := by decide +kernel
theorem dX11_breakPages_147 : decode cX11_breakPages 147 = .ok (.iadd, 1) := by decide +kernel
theorem dX11_breakPages_148 : decode cX11_breakPages 148 = .ok (.istore 6, 2) := by decide +kernel
theorem dX11_breakPages_150 : decode cX11_breakPages 150 = .ok (.iconst 1, 1) := by decide +kernel
theorem dX11_breakPages_151 : decode cX11_breakPages 151 = .ok (.aload_n 0, 1) := by decide +kernel
theorem dX11_breakPages_152 : decode cX11_breakPages 152 = .ok (.getfield 182, 3) := by decide +kernel
theorem dX11_breakPages_155 : decode cX11_breakPages 155 = .ok (.iload 4, 2) := by decide +kernel
theorem dX11_breakPages_157 : decode cX11_breakPages 157 = .ok (.iaload, 1) := by decide +kernel
theorem dX11_breakPages_158 : decode cX11_breakPages 158 = .ok (.iadd, 1) := by decide +kernel
theorem dX11_breakPages_159 : decode cX11_breakPages 159 = .ok (.istore 7, 2) := by decide +kernel
theorem dX11_breakPages_161 : decode cX11_breakPages 161 = .ok (.aload_n 0, 1) := by decide +kernel
theorem dX11_breakPages_162 : decode cX11_breakPages 162 = .ok (.getfield 185, 3) := by decide +kernel
theorem dX11_breakPages_165 : decode cX11_breakPages 165 = .ok (.iload_n 2, 1) := by decide +kernel
theorem dX11_breakPages_166 : decode cX11_breakPages 166 = .ok (.iaload, 1) := by decide +kernel
theorem dX11_breakPages_167 : decode cX11_breakPages 167 = .ok (.ifCond .eq 36, 3) := by decide +kernel
theorem dX11_breakPages_170 : decode cX11_breakPages 170 = .ok (.iload 6, 2) := by decide +kernel
theorem dX11_breakPages_172 : decode cX11_breakPages 172 = .ok (.aload_n 0, 1) := by decide +kernel
theorem dX11_breakPages_173 : decode cX11_breakPages 173 = .ok (.getfield 179, 3) := by decide +kernel
theorem dX11_breakPages_176 : decode cX11_breakPages 176 = .ok (.iload_n 2, 1) := by decide +kernel
theorem dX11_breakPages_177 : decode cX11_breakPages 177 = .ok (.iaload, 1) := by decide +kernel
theorem dX11_breakPages_178 : decode cX11_breakPages 178 = .ok (.if_icmp .lt 25, 3) := by decide +kernel
theorem dX11_breakPages_181 : decode cX11_breakPages 181 = .ok (.iload 6, 2) := by decide +kernel
theorem dX11_breakPages_183 : decode cX11_breakPages 183 = .ok (.aload_n 0, 1) := by decide +kernel
theorem dX11_breakPages_184 : decode cX11_breakPages 184 = .ok (.getfield 179, 3) := by decide +kernel
theorem dX11_breakPages_187 : decode cX11_breakPages 187 = .ok (.iload_n 2, 1) := by decide +kernel
theorem dX11_breakPages_188 : decode cX11_breakPages 188 = .ok (.iaload, 1) := by decide +kernel
theorem dX11_breakPages_189 : decode cX11_breakPages 189 = .ok (.if_icmp .ne 18, 3) := by decide +kernel
theorem dX11_breakPages_192 : decode cX11_breakPages 192 = .ok (.iload 7, 2) := by decide +kernel
theorem dX11_breakPages_194 : decode cX11_breakPages 194 = .ok (.aload_n 0, 1) := by decide +kernel
theorem dX11_breakPages_195 : decode cX11_breakPages 195 = .ok (.getfield 182, 3) := by decide +kernel
theorem dX11_breakPages_198 : decode cX11_breakPages 198 = .ok (.iload_n 2, 1) := by decide +kernel
theorem dX11_breakPages_199 : decode cX11_breakPages 199 = .ok (.iaload, 1) := by decide +kernel
theorem dX11_breakPages_200 : decode cX11_breakPages 200 = .ok (.if_icmp .gt 7, 3) := by decide +kernel
theorem dX11_breakPages_203 : decode cX11_breakPages 203 = .ok (.iconst 1, 1) := by decide +kernel
theorem dX11_breakPages_204 : decode cX11_breakPages 204 = .ok (.goto 4, 3) := by decide +kernel
theorem dX11_breakPages_207 : decode cX11_breakPages 207 = .ok (.iconst 0, 1) := by decide +kernel
theorem dX11_breakPages_208 : decode cX11_breakPages 208 = .ok (.istore 8, 2) := by decide +kernel
theorem dX11_breakPages_210 : decode cX11_breakPages 210 = .ok (.iload 8, 2) := by decide +kernel
theorem dX11_breakPages_212 : decode cX11_breakPages 212 = .ok (.ifCond .eq 26, 3) := by decide +kernel
theorem dX11_breakPages_215 : decode cX11_breakPages 215 = .ok (.aload_n 0, 1) := by decide +kernel
theorem dX11_breakPages_216 : decode cX11_breakPages 216 = .ok (.getfield 179, 3) := by decide +kernel
theorem dX11_breakPages_219 : decode cX11_breakPages 219 = .ok (.iload_n 2, 1) := by decide +kernel
theorem dX11_breakPages_220 : decode cX11_breakPages 220 = .ok (.iload 6, 2) := by decide +kernel
theorem dX11_breakPages_222 : decode cX11_breakPages 222 = .ok (.iastore, 1) := by decide +kernel
theorem dX11_breakPages_223 : decode cX11_breakPages 223 = .ok (.aload_n 0, 1) := by decide +kernel
theorem dX11_breakPages_224 : decode cX11_breakPages 224 = .ok (.getfield 182, 3) := by decide +kernel
theorem dX11_breakPages_227 : decode cX11_breakPages 227 = .ok (.iload_n 2, 1) := by decide +kernel
theorem dX11_breakPages_228 : decode cX11_breakPages 228 = .ok (.iload 7, 2) := by decide +kernel
theorem dX11_breakPages_230 : decode cX11_breakPages 230 = .ok (.iastore, 1) := by decide +kernel
theorem dX11_breakPages_231 : decode cX11_breakPages 231 = .ok (.aload_n 0, 1) := by decide +kernel
theorem dX11_breakPages_232 : decode cX11_breakPages 232 = .ok (.getfield 185, 3) := by decide +kernel
theorem dX11_breakPages_235 : decode cX11_breakPages 235 = .ok (.iload_n 2, 1) := by decide +kernel
theorem dX11_breakPages_236 : decode cX11_breakPages 236 = .ok (.iload_n 3, 1) := by decide +kernel
theorem dX11_breakPages_237 : decode cX11_breakPages 237 = .ok (.iastore, 1) := by decide +kernel
theorem dX11_breakPages_238 : decode cX11_breakPages 238 = .ok (.iinc 3 1, 3) := by decide +kernel
theorem dX11_breakPages_241 : decode cX11_breakPages 241 = .ok (.goto (-162), 3) := by decide +kernel
theorem dX11_breakPages_244 : decode cX11_breakPages 244 = .ok (.iinc 2 (-1), 3) := by decide +kernel
theorem dX11_breakPages_247 : decode cX11_breakPages 247 = .ok (.goto (-181), 3) := by decide +kernel
theorem dX11_breakPages_250 : decode cX11_breakPages 250 = .ok (.iconst 0, 1) := by decide +kernel
theorem dX11_breakPages_251 : decode cX11_breakPages 251 = .ok (.istore_n 2, 1) := by decide +kernel
theorem dX11_breakPages_252 : decode cX11_breakPages 252 = .ok (.aload_n 0, 1) := by decide +kernel
theorem dX11_breakPages_253 : decode cX11_breakPages 253 = .ok (.getfield 185, 3) := by decide +kernel
theorem dX11_breakPages_256 : decode cX11_breakPages 256 = .ok (.iconst 0, 1) := by decide +kernel
theorem dX11_breakPages_257 : decode cX11_breakPages 257 = .ok (.iaload, 1) := by decide +kernel
theorem dX11_breakPages_258 : decode cX11_breakPages 258 = .ok (.istore_n 3, 1) := by decide +kernel
theorem dX11_breakPages_259 : decode cX11_breakPages 259 = .ok (.iconst 0, 1) := by decide +kernel
theorem dX11_breakPages_260 : decode cX11_breakPages 260 = .ok (.istore 4, 2) := by decide +kernel
theorem dX11_breakPages_262 : decode cX11_breakPages 262 = .ok (.iload 4, 2) := by decide +kernel
theorem dX11_breakPages_264 : decode cX11_breakPages 264 = .ok (.aload_n 0, 1) := by decide +kernel
theorem dX11_breakPages_265 : decode cX11_breakPages 265 = .ok (.getfield 398, 3) := by decide +kernel
theorem dX11_breakPages_268 : decode cX11_breakPages 268 = .ok (.if_icmp .ge 35, 3) := by decide +kernel
theorem dX11_breakPages_271 : decode cX11_breakPages 271 = .ok (.iload_n 3, 1) := by decide +kernel
theorem dX11_breakPages_272 : decode cX11_breakPages 272 = .ok (.ifCond .ne 14, 3) := by decide +kernel
theorem dX11_breakPages_275 : decode cX11_breakPages 275 = .ok (.iinc 2 1, 3) := by decide +kernel
theorem dX11_breakPages_278 : decode cX11_breakPages 278 = .ok (.aload_n 0, 1) := by decide +kernel
theorem dX11_breakPages_279 : decode cX11_breakPages 279 = .ok (.getfield 185, 3) := by decide +kernel
theorem dX11_breakPages_282 : decode cX11_breakPages 282 = .ok (.iload 4, 2) := by decide +kernel
theorem dX11_breakPages_284 : decode cX11_breakPages 284 = .ok (.iaload, 1) := by decide +kernel
theorem dX11_breakPages_285 : decode cX11_breakPages 285 = .ok (.istore_n 3, 1) := by decide +kernel
theorem dX11_breakPages_286 : decode cX11_breakPages 286 = .ok (.aload_n 0, 1) := by decide +kernel
theorem dX11_breakPages_287 : decode cX11_breakPages 287 = .ok (.getfield 173, 3) := by decide +kernel
theorem dX11_breakPages_290 : decode cX11_breakPages 290 = .ok (.iload 4, 2) := by decide +kernel
theorem dX11_breakPages_292 : decode cX11_breakPages 292 = .ok (.iload_n 2, 1) := by decide +kernel
theorem dX11_breakPages_293 : decode cX11_breakPages 293 = .ok (.iastore, 1) := by decide +kernel
theorem dX11_breakPages_294 : decode cX11_breakPages 294 = .ok (.iinc 3 (-1), 3) := by decide +kernel
theorem dX11_breakPages_297 : decode cX11_breakPages 297 = .ok (.iinc 4 1, 3) := by decide +kernel
theorem dX11_breakPages_300 : decode cX11_breakPages 300 = .ok (.goto (-38), 3) := by decide +kernel
theorem dX11_breakPages_303 : decode cX11_breakPages 303 = .ok (.aload_n 0, 1) := by decide +kernel
theorem dX11_breakPages_304 : decode cX11_breakPages 304 = .ok (.iconst 1, 1) := by decide +kernel
theorem dX11_breakPages_305 : decode cX11_breakPages 305 = .ok (.putfield 404, 3) := by decide +kernel
theorem dX11_breakPages_308 : decode cX11_breakPages 308 = .ok (.aload_n 0, 1) := by decide +kernel
theorem dX11_breakPages_309 : decode cX11_breakPages 309 = .ok (.getfield 179, 3) := by decide +kernel
theorem dX11_breakPages_312 : decode cX11_breakPages 312 = .ok (.iconst 0, 1) := by decide +kernel
theorem dX11_breakPages_313 : decode cX11_breakPages 313 = .ok (.iaload, 1) := by decide +kernel
theorem dX11_breakPages_314 : decode cX11_breakPages 314 = .ok (.ireturn, 1) := by decide +kernel
theorem dX11_pageOf_0 : decode cX11_pageOf 0 = .ok (.aload_n 0, 1) := by decide +kernel
theorem dX11_pageOf_1 : decode cX11_pageOf 1 = .ok (.iload_n 1, 1) := by decide +kernel
theorem dX11_pageOf_2 : decode cX11_pageOf 2 = .ok (.iconst 0, 1) := by decide +kernel
theorem dX11_pageOf_3 : decode cX11_pageOf 3 = .ok (.aload_n 0, 1) := by decide +kernel
theorem dX11_pageOf_4 : decode cX11_pageOf 4 = .ok (.getfield 398, 3) := by decide +kernel
theorem dX11_pageOf_7 : decode cX11_pageOf 7 = .ok (.iconst 1, 1) := by decide +kernel
theorem dX11_pageOf_8 : decode cX11_pageOf 8 = .ok (.isub, 1) := by decide +kernel
theorem dX11_pageOf_9 : decode cX11_pageOf 9 = .ok (.invokestatic 195, 3) := by decide +kernel
theorem dX11_pageOf_12 : decode cX11_pageOf 12 = .ok (.ifCond .ne 7, 3) := by decide +kernel
theorem dX11_pageOf_15 : decode cX11_pageOf 15 = .ok (.iconst 1, 1) := by decide +kernel
theorem dX11_pageOf_16 : decode cX11_pageOf 16 = .ok (.goto 15, 3) := by decide +kernel
theorem dX11_pageOf_19 : decode cX11_pageOf 19 = .ok (.aload_n 0, 1) := by decide +kernel
theorem dX11_pageOf_20 : decode cX11_pageOf 20 = .ok (.getfield 404, 3) := by decide +kernel
theorem dX11_pageOf_23 : decode cX11_pageOf 23 = .ok (.ifCond .ne 7, 3) := by decide +kernel
theorem dX11_pageOf_26 : decode cX11_pageOf 26 = .ok (.iconst 2, 1) := by decide +kernel
theorem dX11_pageOf_27 : decode cX11_pageOf 27 = .ok (.goto 4, 3) := by decide +kernel
theorem dX11_pageOf_30 : decode cX11_pageOf 30 = .ok (.iconst 0, 1) := by decide +kernel
theorem dX11_pageOf_31 : decode cX11_pageOf 31 = .ok (.putfield 192, 3) := by decide +kernel
theorem dX11_pageOf_34 : decode cX11_pageOf 34 = .ok (.aload_n 0, 1) := by decide +kernel
theorem dX11_pageOf_35 : decode cX11_pageOf 35 = .ok (.getfield 192, 3) := by decide +kernel
theorem dX11_pageOf_38 : decode cX11_pageOf 38 = .ok (.ifCond .ne 12, 3) := by decide +kernel
theorem dX11_pageOf_41 : decode cX11_pageOf 41 = .ok (.aload_n 0, 1) := by decide +kernel
theorem dX11_pageOf_42 : decode cX11_pageOf 42 = .ok (.getfield 173, 3) := by decide +kernel
theorem dX11_pageOf_45 : decode cX11_pageOf 45 = .ok (.iload_n 1, 1) := by decide +kernel
theorem dX11_pageOf_46 : decode cX11_pageOf 46 = .ok (.iaload, 1) := by decide +kernel
theorem dX11_pageOf_47 : decode cX11_pageOf 47 = .ok (.goto 4, 3) := by decide +kernel
theorem dX11_pageOf_50 : decode cX11_pageOf 50 = .ok (.iconst 0, 1) := by decide +kernel
theorem dX11_pageOf_51 : decode cX11_pageOf 51 = .ok (.ireturn, 1) := by decide +kernel
theorem dJ7_fill_53178_0 : decode cJ7_fill_53178 0 = .ok (.iconst 0, 1) := by decide +kernel
theorem dJ7_fill_53178_1 : decode cJ7_fill_53178 1 = .ok (.istore_n 2, 1) := by decide +kernel
theorem dJ7_fill_53178_2 : decode cJ7_fill_53178 2 = .ok (.aload_n 0, 1) := by decide +kernel
theorem dJ7_fill_53178_3 : decode cJ7_fill_53178 3 = .ok (.arraylength, 1) := by decide +kernel
theorem dJ7_fill_53178_4 : decode cJ7_fill_53178 4 = .ok (.istore_n 3, 1) := by decide +kernel
theorem dJ7_fill_53178_5 : decode cJ7_fill_53178 5 = .ok (.iload_n 2, 1) := by decide +kernel
theorem dJ7_fill_53178_6 : decode cJ7_fill_53178 6 = .ok (.iload_n 3, 1) := by decide +kernel
theorem dJ7_fill_53178_7 : decode cJ7_fill_53178 7 = .ok (.if_icmp .ge 13, 3) := by decide +kernel
theorem dJ7_fill_53178_10 : decode cJ7_fill_53178 10 = .ok (.aload_n 0, 1) := by decide +kernel
theorem dJ7_fill_53178_11 : decode cJ7_fill_53178 11 = .ok (.iload_n 2, 1) := by decide +kernel
theorem dJ7_fill_53178_12 : decode cJ7_fill_53178 12 = .ok (.iload_n 1, 1) := by decide +kernel
theorem dJ7_fill_53178_13 : decode cJ7_fill_53178 13 = .ok (.iastore, 1) := by decide +kernel
theorem dJ7_fill_53178_14 : decode cJ7_fill_53178 14 = .ok (.iinc 2 1, 3) := by decide +kernel
theorem dJ7_fill_53178_17 : decode cJ7_fill_53178 17 = .ok (.goto (-12), 3) := by decide +kernel
theorem dJ7_fill_53178_20 : decode cJ7_fill_53178 20 = .ok (.return_, 1) := by decide +kernel
theorem dL_text_0 : decode cL_text 0 = .ok (.aload_n 3, 1) := by decide +kernel
theorem dL_text_1 : decode cL_text 1 = .ok (.iconst 0, 1) := by decide +kernel
theorem dL_text_2 : decode cL_text 2 = .ok (.aload_n 0, 1) := by decide +kernel
theorem dL_text_3 : decode cL_text 3 = .ok (.iload_n 1, 1) := by decide +kernel
theorem dL_text_4 : decode cL_text 4 = .ok (.iload_n 2, 1) := by decide +kernel
theorem dL_text_5 : decode cL_text 5 = .ok (.invokevirtual 7, 3) := by decide +kernel
theorem dL_text_8 : decode cL_text 8 = .ok (.i2l, 1) := by decide +kernel
theorem dL_text_9 : decode cL_text 9 = .ok (.lastore, 1) := by decide +kernel
theorem dL_text_10 : decode cL_text 10 = .ok (.goto 11, 3) := by decide +kernel
theorem dL_text_13 : decode cL_text 13 = .ok (.astore 4, 2) := by decide +kernel
theorem dL_text_15 : decode cL_text 15 = .ok (.iconst 1, 1) := by decide +kernel
theorem dL_text_16 : decode cL_text 16 = .ok (.ireturn, 1) := by decide +kernel
theorem dL_text_17 : decode cL_text 17 = .ok (.astore 4, 2) := by decide +kernel
theorem dL_text_19 : decode cL_text 19 = .ok (.iconst 2, 1) := by decide +kernel
theorem dL_text_20 : decode cL_text 20 = .ok (.ireturn, 1) := by decide +kernel
theorem dL_text_21 : decode cL_text 21 = .ok (.iconst 0, 1) := by decide +kernel
theorem dL_text_22 : decode cL_text 22 = .ok (.ireturn, 1) := by decide +kernel
theorem dL_remark_0 : decode cL_remark 0 = .ok (.aload_n 3, 1) := by decide +kernel
theorem dL_remark_1 : decode cL_remark 1 = .ok (.iconst 0, 1) := by decide +kernel
theorem dL_remark_2 : decode cL_remark 2 = .ok (.aload_n 0, 1) := by decide +kernel
theorem dL_remark_3 : decode cL_remark 3 = .ok (.iload_n 1, 1) := by decide +kernel
theorem dL_remark_4 : decode cL_remark 4 = .ok (.iload_n 2, 1) := by decide +kernel
theorem dL_remark_5 : decode cL_remark 5 = .ok (.invokevirtual 17, 3) := by decide +kernel
theorem dL_remark_8 : decode cL_remark 8 = .ok (.i2l, 1) := by decide +kernel
theorem dL_remark_9 : decode cL_remark 9 = .ok (.lastore, 1) := by decide +kernel
theorem dL_remark_10 : decode cL_remark 10 = .ok (.goto 11, 3) := by decide +kernel
theorem dL_remark_13 : decode cL_remark 13 = .ok (.astore 4, 2) := by decide +kernel
theorem dL_remark_15 : decode cL_remark 15 = .ok (.iconst 1, 1) := by decide +kernel
theorem dL_remark_16 : decode cL_remark 16 = .ok (.ireturn, 1) := by decide +kernel
theorem dL_remark_17 : decode cL_remark 17 = .ok (.astore 4, 2) := by decide +kernel
theorem dL_remark_19 : decode cL_remark 19 = .ok (.iconst 2, 1) := by decide +kernel
theorem dL_remark_20 : decode cL_remark 20 = .ok (.ireturn, 1) := by decide +kernel
theorem dL_remark_21 : decode cL_remark 21 = .ok (.iconst 0, 1) := by decide +kernel
theorem dL_remark_22 : decode cL_remark 22 = .ok (.ireturn, 1) := by decide +kernel
theorem dL_line_0 : decode cL_line 0 = .ok (.aload_n 1, 1) := by decide +kernel
theorem dL_line_1 : decode cL_line 1 = .ok (.iconst 0, 1) := by decide +kernel
theorem dL_line_2 : decode cL_line 2 = .ok (.aload_n 0, 1) := by decide +kernel
theorem dL_line_3 : decode cL_line 3 = .ok (.invokevirtual 20, 3) := by decide +kernel
theorem dL_line_6 : decode cL_line 6 = .ok (.i2l, 1) := by decide +kernel
theorem dL_line_7 : decode cL_line 7 = .ok (.lastore, 1) := by decide +kernel
theorem dL_line_8 : decode cL_line 8 = .ok (.goto 6, 3) := by decide +kernel
theorem dL_line_11 : decode cL_line 11 = .ok (.astore_n 2, 1) := by decide +kernel
theorem dL_line_12 : decode cL_line 12 = .ok (.iconst 1, 1) := by decide +kernel
theorem dL_line_13 : decode cL_line 13 = .ok (.ireturn, 1) := by decide +kernel
theorem dL_line_14 : decode cL_line 14 = .ok (.iconst 0, 1) := by decide +kernel
theorem dL_line_15 : decode cL_line 15 = .ok (.ireturn, 1) := by decide +kernel
theorem dL_soft_0 : decode cL_soft 0 = .ok (.aload_n 1, 1) := by decide +kernel
theorem dL_soft_1 : decode cL_soft 1 = .ok (.iconst 0, 1) := by decide +kernel
theorem dL_soft_2 : decode cL_soft 2 = .ok (.aload_n 0, 1) := by decide +kernel
theorem dL_soft_3 : decode cL_soft 3 = .ok (.invokevirtual 24, 3) := by decide +kernel
theorem dL_soft_6 : decode cL_soft 6 = .ok (.i2l, 1) := by decide +kernel
theorem dL_soft_7 : decode cL_soft 7 = .ok (.lastore, 1) := by decide +kernel
theorem dL_soft_8 : decode cL_soft 8 = .ok (.goto 6, 3) := by decide +kernel
theorem dL_soft_11 : decode cL_soft 11 = .ok (.astore_n 2, 1) := by decide +kernel
theorem dL_soft_12 : decode cL_soft 12 = .ok (.iconst 1, 1) := by decide +kernel
theorem dL_soft_13 : decode cL_soft 13 = .ok (.ireturn, 1) := by decide +kernel
theorem dL_soft_14 : decode cL_soft 14 = .ok (.iconst 0, 1) := by decide +kernel
theorem dL_soft_15 : decode cL_soft 15 = .ok (.ireturn, 1) := by decide +kernel
theorem dL_hard_0 : decode cL_hard 0 = .ok (.aload_n 1, 1) := by decide +kernel
theorem dL_hard_1 : decode cL_hard 1 = .ok (.iconst 0, 1) := by decide +kernel
theorem dL_hard_2 : decode cL_hard 2 = .ok (.aload_n 0, 1) := by decide +kernel
theorem dL_hard_3 : decode cL_hard 3 = .ok (.invokevirtual 27, 3) := by decide +kernel
theorem dL_hard_6 : decode cL_hard 6 = .ok (.i2l, 1) := by decide +kernel
theorem dL_hard_7 : decode cL_hard 7 = .ok (.lastore, 1) := by decide +kernel
theorem dL_hard_8 : decode cL_hard 8 = .ok (.goto 6, 3) := by decide +kernel
theorem dL_hard_11 : decode cL_hard 11 = .ok (.astore_n 2, 1) := by decide +kernel
theorem dL_hard_12 : decode cL_hard 12 = .ok (.iconst 1, 1) := by decide +kernel
theorem dL_hard_13 : decode cL_hard 13 = .ok (.ireturn, 1) := by decide +kernel
theorem dL_hard_14 : decode cL_hard 14 = .ok (.iconst 0, 1) := by decide +kernel
theorem dL_hard_15 : decode cL_hard 15 = .ok (.ireturn, 1) := by decide +kernel
theorem dL_tab_0 : decode cL_tab 0 = .ok (.aload_n 2, 1) := by decide +kernel
theorem dL_tab_1 : decode cL_tab 1 = .ok (.iconst 0, 1) := by decide +kernel
theorem dL_tab_2 : decode cL_tab 2 = .ok (.aload_n 0, 1) := by decide +kernel
theorem dL_tab_3 : decode cL_tab 3 = .ok (.iload_n 1, 1) := by decide +kernel
theorem dL_tab_4 : decode cL_tab 4 = .ok (.invokevirtual 30, 3) := by decide +kernel
theorem dL_tab_7 : decode cL_tab 7 = .ok (.i2l, 1) := by decide +kernel
theorem dL_tab_8 : decode cL_tab 8 = .ok (.lastore, 1) := by decide +kernel
theorem dL_tab_9 : decode cL_tab 9 = .ok (.goto 9, 3) := by decide +kernel
theorem dL_tab_12 : decode cL_tab 12 = .ok (.astore_n 3, 1) := by decide +kernel
theorem dL_tab_13 : decode cL_tab 13 = .ok (.iconst 1, 1) := by decide +kernel
theorem dL_tab_14 : decode cL_tab 14 = .ok (.ireturn, 1) := by decide +kernel
theorem dL_tab_15 : decode cL_tab 15 = .ok (.astore_n 3, 1) := by decide +kernel
theorem dL_tab_16 : decode cL_tab 16 = .ok (.iconst 2, 1) := by decide +kernel
theorem dL_tab_17 : decode cL_tab 17 = .ok (.ireturn, 1) := by decide +kernel
theorem dL_tab_18 : decode cL_tab 18 = .ok (.iconst 0, 1) := by decide +kernel
theorem dL_tab_19 : decode cL_tab 19 = .ok (.ireturn, 1) := by decide +kernel
theorem dL_pair_0 : decode cL_pair 0 = .ok (.aload_n 3, 1) := by decide +kernel
theorem dL_pair_1 : decode cL_pair 1 = .ok (.iconst 0, 1) := by decide +kernel
theorem dL_pair_2 : decode cL_pair 2 = .ok (.aload_n 0, 1) := by decide +kernel
theorem dL_pair_3 : decode cL_pair 3 = .ok (.iload_n 1, 1) := by decide +kernel
theorem dL_pair_4 : decode cL_pair 4 = .ok (.iload_n 2, 1) := by decide +kernel
theorem dL_pair_5 : decode cL_pair 5 = .ok (.invokevirtual 34, 3) := by decide +kernel
theorem dL_pair_8 : decode cL_pair 8 = .ok (.i2l, 1) := by decide +kernel
theorem dL_pair_9 : decode cL_pair 9 = .ok (.lastore, 1) := by decide +kernel
theorem dL_pair_10 : decode cL_pair 10 = .ok (.goto 11, 3) := by decide +kernel
theorem dL_pair_13 : decode cL_pair 13 = .ok (.astore 4, 2) := by decide +kernel
theorem dL_pair_15 : decode cL_pair 15 = .ok (.iconst 1, 1) := by decide +kernel
theorem dL_pair_16 : decode cL_pair 16 = .ok (.ireturn, 1) := by decide +kernel
theorem dL_pair_17 : decode cL_pair 17 = .ok (.astore 4, 2) := by decide +kernel
theorem dL_pair_19 : decode cL_pair 19 = .ok (.iconst 2, 1) := by decide +kernel
theorem dL_pair_20 : decode cL_pair 20 = .ok (.ireturn, 1) := by decide +kernel
theorem dL_pair_21 : decode cL_pair 21 = .ok (.iconst 0, 1) := by decide +kernel
theorem dL_pair_22 : decode cL_pair 22 = .ok (.ireturn, 1) := by decide +kernel
theorem dL_nest_0 : decode cL_nest 0 = .ok (.aload_n 3, 1) := by decide +kernel
theorem dL_nest_1 : decode cL_nest 1 = .ok (.iconst 0, 1) := by decide +kernel
theorem dL_nest_2 : decode cL_nest 2 = .ok (.aload_n 0, 1) := by decide +kernel
theorem dL_nest_3 : decode cL_nest 3 = .ok (.iload_n 1, 1) := by decide +kernel
theorem dL_nest_4 : decode cL_nest 4 = .ok (.iload_n 2, 1) := by decide +kernel
theorem dL_nest_5 : decode cL_nest 5 = .ok (.invokevirtual 39, 3) := by decide +kernel
theorem dL_nest_8 : decode cL_nest 8 = .ok (.i2l, 1) := by decide +kernel
theorem dL_nest_9 : decode cL_nest 9 = .ok (.lastore, 1) := by decide +kernel
theorem dL_nest_10 : decode cL_nest 10 = .ok (.goto 15, 3) := by decide +kernel
theorem dL_nest_13 : decode cL_nest 13 = .ok (.astore 4, 2) := by decide +kernel
theorem dL_nest_15 : decode cL_nest 15 = .ok (.iconst 1, 1) := by decide +kernel
theorem dL_nest_16 : decode cL_nest 16 = .ok (.ireturn, 1) := by decide +kernel
theorem dL_nest_17 : decode cL_nest 17 = .ok (.astore 4, 2) := by decide +kernel
theorem dL_nest_19 : decode cL_nest 19 = .ok (.iconst 2, 1) := by decide +kernel
theorem dL_nest_20 : decode cL_nest 20 = .ok (.ireturn, 1) := by decide +kernel
theorem dL_nest_21 : decode cL_nest 21 = .ok (.astore 4, 2) := by decide +kernel
theorem dL_nest_23 : decode cL_nest 23 = .ok (.iconst 3, 1) := by decide +kernel
theorem dL_nest_24 : decode cL_nest 24 = .ok (.ireturn, 1) := by decide +kernel
theorem dL_nest_25 : decode cL_nest 25 = .ok (.iconst 0, 1) := by decide +kernel
theorem dL_nest_26 : decode cL_nest 26 = .ok (.ireturn, 1) := by decide +kernel
theorem dL_align_0 : decode cL_align 0 = .ok (.aload_n 2, 1) := by decide +kernel
theorem dL_align_1 : decode cL_align 1 = .ok (.iconst 0, 1) := by decide +kernel
theorem dL_align_2 : decode cL_align 2 = .ok (.aload_n 0, 1) := by decide +kernel
theorem dL_align_3 : decode cL_align 3 = .ok (.iload_n 1, 1) := by decide +kernel
theorem dL_align_4 : decode cL_align 4 = .ok (.invokevirtual 42, 3) := by decide +kernel
theorem dL_align_7 : decode cL_align 7 = .ok (.i2l, 1) := by decide +kernel
theorem dL_align_8 : decode cL_align 8 = .ok (.lastore, 1) := by decide +kernel
theorem dL_align_9 : decode cL_align 9 = .ok (.goto 9, 3) := by decide +kernel
theorem dL_align_12 : decode cL_align 12 = .ok (.astore_n 3, 1) := by decide +kernel
theorem dL_align_13 : decode cL_align 13 = .ok (.iconst 1, 1) := by decide +kernel
theorem dL_align_14 : decode cL_align 14 = .ok (.ireturn, 1) := by decide +kernel
theorem dL_align_15 : decode cL_align 15 = .ok (.astore_n 3, 1) := by decide +kernel
theorem dL_align_16 : decode cL_align 16 = .ok (.iconst 2, 1) := by decide +kernel
theorem dL_align_17 : decode cL_align 17 = .ok (.ireturn, 1) := by decide +kernel
theorem dL_align_18 : decode cL_align 18 = .ok (.iconst 0, 1) := by decide +kernel
theorem dL_align_19 : decode cL_align 19 = .ok (.ireturn, 1) := by decide +kernel
theorem dL_group_0 : decode cL_group 0 = .ok (.aload_n 2, 1) := by decide +kernel
theorem dL_group_1 : decode cL_group 1 = .ok (.iconst 0, 1) := by decide +kernel
theorem dL_group_2 : decode cL_group 2 = .ok (.aload_n 0, 1) := by decide +kernel
theorem dL_group_3 : decode cL_group 3 = .ok (.iload_n 1, 1) := by decide +kernel
theorem dL_group_4 : decode cL_group 4 = .ok (.invokevirtual 45, 3) := by decide +kernel
theorem dL_group_7 : decode cL_group 7 = .ok (.i2l, 1) := by decide +kernel
theorem dL_group_8 : decode cL_group 8 = .ok (.lastore, 1) := by decide +kernel
theorem dL_group_9 : decode cL_group 9 = .ok (.goto 9, 3) := by decide +kernel
theorem dL_group_12 : decode cL_group 12 = .ok (.astore_n 3, 1) := by decide +kernel
theorem dL_group_13 : decode cL_group 13 = .ok (.iconst 1, 1) := by decide +kernel
theorem dL_group_14 : decode cL_group 14 = .ok (.ireturn, 1) := by decide +kernel
theorem dL_group_15 : decode cL_group 15 = .ok (.astore_n 3, 1) := by decide +kernel
theorem dL_group_16 : decode cL_group 16 = .ok (.iconst 2, 1) := by decide +kernel
theorem dL_group_17 : decode cL_group 17 = .ok (.ireturn, 1) := by decide +kernel
theorem dL_group_18 : decode cL_group 18 = .ok (.iconst 0, 1) := by decide +kernel
theorem dL_group_19 : decode cL_group 19 = .ok (.ireturn, 1) := by decide +kernel
theorem dL_choice_0 : decode cL_choice 0 = .ok (.aload_n 3, 1) := by decide +kernel
theorem dL_choice_1 : decode cL_choice 1 = .ok (.iconst 0, 1) := by decide +kernel
theorem dL_choice_2 : decode cL_choice 2 = .ok (.aload_n 0, 1) := by decide +kernel
theorem dL_choice_3 : decode cL_choice 3 = .ok (.iload_n 1, 1) := by decide +kernel
theorem dL_choice_4 : decode cL_choice 4 = .ok (.iload_n 2, 1) := by decide +kernel
theorem dL_choice_5 : decode cL_choice 5 = .ok (.invokevirtual 48, 3) := by decide +kernel
theorem dL_choice_8 : decode cL_choice 8 = .ok (.i2l, 1) := by decide +kernel
theorem dL_choice_9 : decode cL_choice 9 = .ok (.lastore, 1) := by decide +kernel
theorem dL_choice_10 : decode cL_choice 10 = .ok (.goto 11, 3) := by decide +kernel
theorem dL_choice_13 : decode cL_choice 13 = .ok (.astore 4, 2) := by decide +kernel
theorem dL_choice_15 : decode cL_choice 15 = .ok (.iconst 1, 1) := by decide +kernel
theorem dL_choice_16 : decode cL_choice 16 = .ok (.ireturn, 1) := by decide +kernel
theorem dL_choice_17 : decode cL_choice 17 = .ok (.astore 4, 2) := by decide +kernel
theorem dL_choice_19 : decode cL_choice 19 = .ok (.iconst 2, 1) := by decide +kernel
theorem dL_choice_20 : decode cL_choice 20 = .ok (.ireturn, 1) := by decide +kernel
theorem dL_choice_21 : decode cL_choice 21 = .ok (.iconst 0, 1) := by decide +kernel
theorem dL_choice_22 : decode cL_choice 22 = .ok (.ireturn, 1) := by decide +kernel
theorem dL_flat_0 : decode cL_flat 0 = .ok (.aload_n 2, 1) := by decide +kernel
theorem dL_flat_1 : decode cL_flat 1 = .ok (.iconst 0, 1) := by decide +kernel
theorem dL_flat_2 : decode cL_flat 2 = .ok (.aload_n 0, 1) := by decide +kernel
theorem dL_flat_3 : decode cL_flat 3 = .ok (.iload_n 1, 1) := by decide +kernel
theorem dL_flat_4 : decode cL_flat 4 = .ok (.invokevirtual 51, 3) := by decide +kernel
theorem dL_flat_7 : decode cL_flat 7 = .ok (.i2l, 1) := by decide +kernel
theorem dL_flat_8 : decode cL_flat 8 = .ok (.lastore, 1) := by decide +kernel
theorem dL_flat_9 : decode cL_flat 9 = .ok (.goto 9, 3) := by decide +kernel
theorem dL_flat_12 : decode cL_flat 12 = .ok (.astore_n 3, 1) := by decide +kernel
theorem dL_flat_13 : decode cL_flat 13 = .ok (.iconst 1, 1) := by decide +kernel
theorem dL_flat_14 : decode cL_flat 14 = .ok (.ireturn, 1) := by decide +kernel
theorem dL_flat_15 : decode cL_flat 15 = .ok (.astore_n 3, 1) := by decide +kernel
theorem dL_flat_16 : decode cL_flat 16 = .ok (.iconst 2, 1) := by decide +kernel
theorem dL_flat_17 : decode cL_flat 17 = .ok (.ireturn, 1) := by decide +kernel
theorem dL_flat_18 : decode cL_flat 18 = .ok (.iconst 0, 1) := by decide +kernel
theorem dL_flat_19 : decode cL_flat 19 = .ok (.ireturn, 1) := by decide +kernel
theorem dL_broken_0 : decode cL_broken 0 = .ok (.aload_n 3, 1) := by decide +kernel
theorem dL_broken_1 : decode cL_broken 1 = .ok (.iconst 0, 1) := by decide +kernel
theorem dL_broken_2 : decode cL_broken 2 = .ok (.aload_n 0, 1) := by decide +kernel
theorem dL_broken_3 : decode cL_broken 3 = .ok (.iload_n 1, 1) := by decide +kernel
theorem dL_broken_4 : decode cL_broken 4 = .ok (.iload_n 2, 1) := by decide +kernel
theorem dL_broken_5 : decode cL_broken 5 = .ok (.invokevirtual 54, 3) := by decide +kernel
theorem dL_broken_8 : decode cL_broken 8 = .ok (.i2l, 1) := by decide +kernel
theorem dL_broken_9 : decode cL_broken 9 = .ok (.lastore, 1) := by decide +kernel
theorem dL_broken_10 : decode cL_broken 10 = .ok (.goto 11, 3) := by decide +kernel
theorem dL_broken_13 : decode cL_broken 13 = .ok (.astore 4, 2) := by decide +kernel
theorem dL_broken_15 : decode cL_broken 15 = .ok (.iconst 1, 1) := by decide +kernel
theorem dL_broken_16 : decode cL_broken 16 = .ok (.ireturn, 1) := by decide +kernel
theorem dL_broken_17 : decode cL_broken 17 = .ok (.astore 4, 2) := by decide +kernel
theorem dL_broken_19 : decode cL_broken 19 = .ok (.iconst 2, 1) := by decide +kernel
theorem dL_broken_20 : decode cL_broken 20 = .ok (.ireturn, 1) := by decide +kernel
theorem dL_broken_21 : decode cL_broken 21 = .ok (.iconst 0, 1) := by decide +kernel
theorem dL_broken_22 : decode cL_broken 22 = .ok (.ireturn, 1) := by decide +kernel
theorem dL_price_0 : decode cL_price 0 = .ok (.aload_n 3, 1) := by decide +kernel
theorem dL_price_1 : decode cL_price 1 = .ok (.iconst 0, 1) := by decide +kernel
theorem dL_price_2 : decode cL_price 2 = .ok (.aload_n 0, 1) := by decide +kernel
theorem dL_price_3 : decode cL_price 3 = .ok (.iload_n 1, 1) := by decide +kernel
theorem dL_price_4 : decode cL_price 4 = .ok (.iload_n 2, 1) := by decide +kernel
theorem dL_price_5 : decode cL_price 5 = .ok (.invokevirtual 57, 3) := by decide +kernel
theorem dL_price_8 : decode cL_price 8 = .ok (.i2l, 1) := by decide +kernel
theorem dL_price_9 : decode cL_price 9 = .ok (.lastore, 1) := by decide +kernel
theorem dL_price_10 : decode cL_price 10 = .ok (.goto 15, 3) := by decide +kernel
theorem dL_price_13 : decode cL_price 13 = .ok (.astore 4, 2) := by decide +kernel
theorem dL_price_15 : decode cL_price 15 = .ok (.iconst 1, 1) := by decide +kernel
theorem dL_price_16 : decode cL_price 16 = .ok (.ireturn, 1) := by decide +kernel
theorem dL_price_17 : decode cL_price 17 = .ok (.astore 4, 2) := by decide +kernel
theorem dL_price_19 : decode cL_price 19 = .ok (.iconst 2, 1) := by decide +kernel
theorem dL_price_20 : decode cL_price 20 = .ok (.ireturn, 1) := by decide +kernel
theorem dL_price_21 : decode cL_price 21 = .ok (.astore 4, 2) := by decide +kernel
theorem dL_price_23 : decode cL_price 23 = .ok (.iconst 3, 1) := by decide +kernel
theorem dL_price_24 : decode cL_price 24 = .ok (.ireturn, 1) := by decide +kernel
theorem dL_price_25 : decode cL_price 25 = .ok (.iconst 0, 1) := by decide +kernel
theorem dL_price_26 : decode cL_price 26 = .ok (.ireturn, 1) := by decide +kernel
theorem dL_keep_0 : decode cL_keep 0 = .ok (.aload_n 3, 1) := by decide +kernel
