theorem dX8_init_0 : decode cX8_init 0 = .ok (.aload_n 0, 1) := by decide +kernel
theorem dX8_init_1 : decode cX8_init 1 = .ok (.invokespecial 1, 3) := by decide +kernel
theorem dX8_init_4 : decode cX8_init 4 = .ok (.aload_n 0, 1) := by decide +kernel
theorem dX8_init_5 : decode cX8_init 5 = .ok (.bipush 6, 2) := by decide +kernel
theorem dX8_init_7 : decode cX8_init 7 = .ok (.newarray .int, 2) := by decide +kernel
theorem dX8_init_9 : decode cX8_init 9 = .ok (.putfield 7, 3) := by decide +kernel
theorem dX8_init_12 : decode cX8_init 12 = .ok (.aload_n 0, 1) := by decide +kernel
theorem dX8_init_13 : decode cX8_init 13 = .ok (.bipush 6, 2) := by decide +kernel
theorem dX8_init_15 : decode cX8_init 15 = .ok (.newarray .int, 2) := by decide +kernel
theorem dX8_init_17 : decode cX8_init 17 = .ok (.putfield 13, 3) := by decide +kernel
theorem dX8_init_20 : decode cX8_init 20 = .ok (.aload_n 0, 1) := by decide +kernel
theorem dX8_init_21 : decode cX8_init 21 = .ok (.bipush 36, 2) := by decide +kernel
theorem dX8_init_23 : decode cX8_init 23 = .ok (.newarray .int, 2) := by decide +kernel
theorem dX8_init_25 : decode cX8_init 25 = .ok (.putfield 16, 3) := by decide +kernel
theorem dX8_init_28 : decode cX8_init 28 = .ok (.aload_n 0, 1) := by decide +kernel
theorem dX8_init_29 : decode cX8_init 29 = .ok (.iconst 4, 1) := by decide +kernel
theorem dX8_init_30 : decode cX8_init 30 = .ok (.newarray .int, 2) := by decide +kernel
theorem dX8_init_32 : decode cX8_init 32 = .ok (.putfield 19, 3) := by decide +kernel
theorem dX8_init_35 : decode cX8_init 35 = .ok (.aload_n 0, 1) := by decide +kernel
theorem dX8_init_36 : decode cX8_init 36 = .ok (.iconst 4, 1) := by decide +kernel
theorem dX8_init_37 : decode cX8_init 37 = .ok (.newarray .int, 2) := by decide +kernel
theorem dX8_init_39 : decode cX8_init 39 = .ok (.putfield 22, 3) := by decide +kernel
theorem dX8_init_42 : decode cX8_init 42 = .ok (.aload_n 0, 1) := by decide +kernel
theorem dX8_init_43 : decode cX8_init 43 = .ok (.iconst 4, 1) := by decide +kernel
theorem dX8_init_44 : decode cX8_init 44 = .ok (.newarray .int, 2) := by decide +kernel
theorem dX8_init_46 : decode cX8_init 46 = .ok (.putfield 25, 3) := by decide +kernel
theorem dX8_init_49 : decode cX8_init 49 = .ok (.aload_n 0, 1) := by decide +kernel
theorem dX8_init_50 : decode cX8_init 50 = .ok (.bipush 6, 2) := by decide +kernel
theorem dX8_init_52 : decode cX8_init 52 = .ok (.newarray .int, 2) := by decide +kernel
theorem dX8_init_54 : decode cX8_init 54 = .ok (.putfield 28, 3) := by decide +kernel
theorem dX8_init_57 : decode cX8_init 57 = .ok (.aload_n 0, 1) := by decide +kernel
theorem dX8_init_58 : decode cX8_init 58 = .ok (.bipush 6, 2) := by decide +kernel
theorem dX8_init_60 : decode cX8_init 60 = .ok (.newarray .int, 2) := by decide +kernel
theorem dX8_init_62 : decode cX8_init 62 = .ok (.putfield 31, 3) := by decide +kernel
theorem dX8_init_65 : decode cX8_init 65 = .ok (.aload_n 0, 1) := by decide +kernel
theorem dX8_init_66 : decode cX8_init 66 = .ok (.bipush 36, 2) := by decide +kernel
theorem dX8_init_68 : decode cX8_init 68 = .ok (.newarray .int, 2) := by decide +kernel
theorem dX8_init_70 : decode cX8_init 70 = .ok (.putfield 34, 3) := by decide +kernel
theorem dX8_init_73 : decode cX8_init 73 = .ok (.aload_n 0, 1) := by decide +kernel
theorem dX8_init_74 : decode cX8_init 74 = .ok (.iconst 4, 1) := by decide +kernel
theorem dX8_init_75 : decode cX8_init 75 = .ok (.newarray .int, 2) := by decide +kernel
theorem dX8_init_77 : decode cX8_init 77 = .ok (.putfield 37, 3) := by decide +kernel
theorem dX8_init_80 : decode cX8_init 80 = .ok (.aload_n 0, 1) := by decide +kernel
theorem dX8_init_81 : decode cX8_init 81 = .ok (.iconst 4, 1) := by decide +kernel
theorem dX8_init_82 : decode cX8_init 82 = .ok (.newarray .int, 2) := by decide +kernel
theorem dX8_init_84 : decode cX8_init 84 = .ok (.putfield 40, 3) := by decide +kernel
theorem dX8_init_87 : decode cX8_init 87 = .ok (.aload_n 0, 1) := by decide +kernel
theorem dX8_init_88 : decode cX8_init 88 = .ok (.iconst 4, 1) := by decide +kernel
theorem dX8_init_89 : decode cX8_init 89 = .ok (.newarray .int, 2) := by decide +kernel
theorem dX8_init_91 : decode cX8_init 91 = .ok (.putfield 43, 3) := by decide +kernel
theorem dX8_init_94 : decode cX8_init 94 = .ok (.aload_n 0, 1) := by decide +kernel
theorem dX8_init_95 : decode cX8_init 95 = .ok (.sipush 456, 3) := by decide +kernel
theorem dX8_init_98 : decode cX8_init 98 = .ok (.newarray .int, 2) := by decide +kernel
theorem dX8_init_100 : decode cX8_init 100 = .ok (.putfield 46, 3) := by decide +kernel
theorem dX8_init_103 : decode cX8_init 103 = .ok (.aload_n 0, 1) := by decide +kernel
theorem dX8_init_104 : decode cX8_init 104 = .ok (.sipush 200, 3) := by decide +kernel
theorem dX8_init_107 : decode cX8_init 107 = .ok (.newarray .byte, 2) := by decide +kernel
theorem dX8_init_109 : decode cX8_init 109 = .ok (.putfield 49, 3) := by decide +kernel
theorem dX8_init_112 : decode cX8_init 112 = .ok (.aload_n 0, 1) := by decide +kernel
theorem dX8_init_113 : decode cX8_init 113 = .ok (.bipush 6, 2) := by decide +kernel
theorem dX8_init_115 : decode cX8_init 115 = .ok (.newarray .int, 2) := by decide +kernel
theorem dX8_init_117 : decode cX8_init 117 = .ok (.putfield 53, 3) := by decide +kernel
theorem dX8_init_120 : decode cX8_init 120 = .ok (.aload_n 0, 1) := by decide +kernel
theorem dX8_init_121 : decode cX8_init 121 = .ok (.bipush 6, 2) := by decide +kernel
theorem dX8_init_123 : decode cX8_init 123 = .ok (.newarray .int, 2) := by decide +kernel
theorem dX8_init_125 : decode cX8_init 125 = .ok (.putfield 56, 3) := by decide +kernel
theorem dX8_init_128 : decode cX8_init 128 = .ok (.aload_n 0, 1) := by decide +kernel
theorem dX8_init_129 : decode cX8_init 129 = .ok (.bipush 6, 2) := by decide +kernel
theorem dX8_init_131 : decode cX8_init 131 = .ok (.newarray .int, 2) := by decide +kernel
theorem dX8_init_133 : decode cX8_init 133 = .ok (.putfield 59, 3) := by decide +kernel
theorem dX8_init_136 : decode cX8_init 136 = .ok (.aload_n 0, 1) := by decide +kernel
theorem dX8_init_137 : decode cX8_init 137 = .ok (.bipush 6, 2) := by decide +kernel
theorem dX8_init_139 : decode cX8_init 139 = .ok (.newarray .int, 2) := by decide +kernel
theorem dX8_init_141 : decode cX8_init 141 = .ok (.putfield 62, 3) := by decide +kernel
theorem dX8_init_144 : decode cX8_init 144 = .ok (.aload_n 0, 1) := by decide +kernel
theorem dX8_init_145 : decode cX8_init 145 = .ok (.invokevirtual 65, 3) := by decide +kernel
theorem dX8_init_148 : decode cX8_init 148 = .ok (.aload_n 0, 1) := by decide +kernel
theorem dX8_init_149 : decode cX8_init 149 = .ok (.bipush 24, 2) := by decide +kernel
theorem dX8_init_151 : decode cX8_init 151 = .ok (.iconst 4, 1) := by decide +kernel
theorem dX8_init_152 : decode cX8_init 152 = .ok (.invokevirtual 68, 3) := by decide +kernel
theorem dX8_init_155 : decode cX8_init 155 = .ok (.aload_n 0, 1) := by decide +kernel
theorem dX8_init_156 : decode cX8_init 156 = .ok (.bipush 31, 2) := by decide +kernel
theorem dX8_init_158 : decode cX8_init 158 = .ok (.iconst 5, 1) := by decide +kernel
theorem dX8_init_159 : decode cX8_init 159 = .ok (.invokevirtual 68, 3) := by decide +kernel
theorem dX8_init_162 : decode cX8_init 162 = .ok (.aload_n 0, 1) := by decide +kernel
theorem dX8_init_163 : decode cX8_init 163 = .ok (.bipush 38, 2) := by decide +kernel
theorem dX8_init_165 : decode cX8_init 165 = .ok (.iconst 4, 1) := by decide +kernel
theorem dX8_init_166 : decode cX8_init 166 = .ok (.invokevirtual 68, 3) := by decide +kernel
theorem dX8_init_169 : decode cX8_init 169 = .ok (.aload_n 0, 1) := by decide +kernel
theorem dX8_init_170 : decode cX8_init 170 = .ok (.bipush 60, 2) := by decide +kernel
theorem dX8_init_172 : decode cX8_init 172 = .ok (.iconst 2, 1) := by decide +kernel
theorem dX8_init_173 : decode cX8_init 173 = .ok (.invokevirtual 68, 3) := by decide +kernel
theorem dX8_init_176 : decode cX8_init 176 = .ok (.aload_n 0, 1) := by decide +kernel
theorem dX8_init_177 : decode cX8_init 177 = .ok (.iconst 0, 1) := by decide +kernel
theorem dX8_init_178 : decode cX8_init 178 = .ok (.iconst 1, 1) := by decide +kernel
theorem dX8_init_179 : decode cX8_init 179 = .ok (.bipush 6, 2) := by decide +kernel
theorem dX8_init_181 : decode cX8_init 181 = .ok (.invokevirtual 72, 3) := by decide +kernel
theorem dX8_init_184 : decode cX8_init 184 = .ok (.aload_n 0, 1) := by decide +kernel
theorem dX8_init_185 : decode cX8_init 185 = .ok (.iconst 1, 1) := by decide +kernel
theorem dX8_init_186 : decode cX8_init 186 = .ok (.iconst 2, 1) := by decide +kernel
theorem dX8_init_187 : decode cX8_init 187 = .ok (.bipush 15, 2) := by decide +kernel
theorem dX8_init_189 : decode cX8_init 189 = .ok (.invokevirtual 72, 3) := by decide +kernel
theorem dX8_init_192 : decode cX8_init 192 = .ok (.aload_n 0, 1) := by decide +kernel
theorem dX8_init_193 : decode cX8_init 193 = .ok (.iconst 0, 1) := by decide +kernel
theorem dX8_init_194 : decode cX8_init 194 = .ok (.iconst 2, 1) := by decide +kernel
theorem dX8_init_195 : decode cX8_init 195 = .ok (.bipush 10, 2) := by decide +kernel
theorem dX8_init_197 : decode cX8_init 197 = .ok (.invokevirtual 72, 3) := by decide +kernel
theorem dX8_init_200 : decode cX8_init 200 = .ok (.aload_n 0, 1) := by decide +kernel
theorem dX8_init_201 : decode cX8_init 201 = .ok (.iconst 2, 1) := by decide +kernel
theorem dX8_init_202 : decode cX8_init 202 = .ok (.iconst 3, 1) := by decide +kernel
theorem dX8_init_203 : decode cX8_init 203 = .ok (.bipush 30, 2) := by decide +kernel
theorem dX8_init_205 : decode cX8_init 205 = .ok (.invokevirtual 72, 3) := by decide +kernel
theorem dX8_init_208 : decode cX8_init 208 = .ok (.aload_n 0, 1) := by decide +kernel
theorem dX8_init_209 : decode cX8_init 209 = .ok (.iconst 0, 1) := by decide +kernel
theorem dX8_init_210 : decode cX8_init 210 = .ok (.bipush 20, 2) := by decide +kernel
theorem dX8_init_212 : decode cX8_init 212 = .ok (.bipush 9, 2) := by decide +kernel
theorem dX8_init_214 : decode cX8_init 214 = .ok (.invokevirtual 76, 3) := by decide +kernel
theorem dX8_init_217 : decode cX8_init 217 = .ok (.aload_n 0, 1) := by decide +kernel
theorem dX8_init_218 : decode cX8_init 218 = .ok (.iconst 1, 1) := by decide +kernel
theorem dX8_init_219 : decode cX8_init 219 = .ok (.bipush 25, 2) := by decide +kernel
theorem dX8_init_221 : decode cX8_init 221 = .ok (.bipush 8, 2) := by decide +kernel
theorem dX8_init_223 : decode cX8_init 223 = .ok (.invokevirtual 76, 3) := by decide +kernel
theorem dX8_init_226 : decode cX8_init 226 = .ok (.aload_n 0, 1) := by decide +kernel
theorem dX8_init_227 : decode cX8_init 227 = .ok (.iconst 2, 1) := by decide +kernel
theorem dX8_init_228 : decode cX8_init 228 = .ok (.bipush 15, 2) := by decide +kernel
theorem dX8_init_230 : decode cX8_init 230 = .ok (.bipush 9, 2) := by decide +kernel
theorem dX8_init_232 : decode cX8_init 232 = .ok (.invokevirtual 76, 3) := by decide +kernel
theorem dX8_init_235 : decode cX8_init 235 = .ok (.aload_n 0, 1) := by decide +kernel
theorem dX8_init_236 : decode cX8_init 236 = .ok (.iconst 3, 1) := by decide +kernel
theorem dX8_init_237 : decode cX8_init 237 = .ok (.bipush 30, 2) := by decide +kernel
theorem dX8_init_239 : decode cX8_init 239 = .ok (.iconst 5, 1) := by decide +kernel
theorem dX8_init_240 : decode cX8_init 240 = .ok (.invokevirtual 76, 3) := by decide +kernel
theorem dX8_init_243 : decode cX8_init 243 = .ok (.aload_n 0, 1) := by decide +kernel
theorem dX8_init_244 : decode cX8_init 244 = .ok (.invokevirtual 79, 3) := by decide +kernel
theorem dX8_init_247 : decode cX8_init 247 = .ok (.return_, 1) := by decide +kernel
theorem dX8_in_0 : decode cX8_in 0 = .ok (.lload_n 0, 1) := by decide +kernel
theorem dX8_in_1 : decode cX8_in 1 = .ok (.lload_n 2, 1) := by decide +kernel
theorem dX8_in_2 : decode cX8_in 2 = .ok (.lcmp, 1) := by decide +kernel
theorem dX8_in_3 : decode cX8_in 3 = .ok (.ifCond .lt 14, 3) := by decide +kernel
theorem dX8_in_6 : decode cX8_in 6 = .ok (.lload_n 0, 1) := by decide +kernel
theorem dX8_in_7 : decode cX8_in 7 = .ok (.lload 4, 2) := by decide +kernel
theorem dX8_in_9 : decode cX8_in 9 = .ok (.lcmp, 1) := by decide +kernel
theorem dX8_in_10 : decode cX8_in 10 = .ok (.ifCond .gt 7, 3) := by decide +kernel
theorem dX8_in_13 : decode cX8_in 13 = .ok (.iconst 1, 1) := by decide +kernel
theorem dX8_in_14 : decode cX8_in 14 = .ok (.goto 4, 3) := by decide +kernel
theorem dX8_in_17 : decode cX8_in 17 = .ok (.iconst 0, 1) := by decide +kernel
theorem dX8_in_18 : decode cX8_in 18 = .ok (.ireturn, 1) := by decide +kernel
theorem dX8_has_0 : decode cX8_has 0 = .ok (.iload_n 0, 1) := by decide +kernel
theorem dX8_has_1 : decode cX8_has 1 = .ok (.iload_n 1, 1) := by decide +kernel
theorem dX8_has_2 : decode cX8_has 2 = .ok (.ishr, 1) := by decide +kernel
theorem dX8_has_3 : decode cX8_has 3 = .ok (.iconst 1, 1) := by decide +kernel
theorem dX8_has_4 : decode cX8_has 4 = .ok (.iand, 1) := by decide +kernel
theorem dX8_has_5 : decode cX8_has 5 = .ok (.iconst 1, 1) := by decide +kernel
theorem dX8_has_6 : decode cX8_has 6 = .ok (.if_icmp .ne 7, 3) := by decide +kernel
theorem dX8_has_9 : decode cX8_has 9 = .ok (.iconst 1, 1) := by decide +kernel
theorem dX8_has_10 : decode cX8_has 10 = .ok (.goto 4, 3) := by decide +kernel
theorem dX8_has_13 : decode cX8_has 13 = .ok (.iconst 0, 1) := by decide +kernel
theorem dX8_has_14 : decode cX8_has 14 = .ok (.ireturn, 1) := by decide +kernel
theorem dX8_apart_0 : decode cX8_apart 0 = .ok (.iload_n 0, 1) := by decide +kernel
theorem dX8_apart_1 : decode cX8_apart 1 = .ok (.iload_n 1, 1) := by decide +kernel
theorem dX8_apart_2 : decode cX8_apart 2 = .ok (.if_icmp .ge 9, 3) := by decide +kernel
theorem dX8_apart_5 : decode cX8_apart 5 = .ok (.iload_n 1, 1) := by decide +kernel
theorem dX8_apart_6 : decode cX8_apart 6 = .ok (.iload_n 0, 1) := by decide +kernel
theorem dX8_apart_7 : decode cX8_apart 7 = .ok (.isub, 1) := by decide +kernel
theorem dX8_apart_8 : decode cX8_apart 8 = .ok (.goto 6, 3) := by decide +kernel
theorem dX8_apart_11 : decode cX8_apart 11 = .ok (.iload_n 0, 1) := by decide +kernel
theorem dX8_apart_12 : decode cX8_apart 12 = .ok (.iload_n 1, 1) := by decide +kernel
theorem dX8_apart_13 : decode cX8_apart 13 = .ok (.isub, 1) := by decide +kernel
theorem dX8_apart_14 : decode cX8_apart 14 = .ok (.ireturn, 1) := by decide +kernel
theorem dX8_smaller_0 : decode cX8_smaller 0 = .ok (.iload_n 0, 1) := by decide +kernel
theorem dX8_smaller_1 : decode cX8_smaller 1 = .ok (.iload_n 1, 1) := by decide +kernel
theorem dX8_smaller_2 : decode cX8_smaller 2 = .ok (.if_icmp .ge 7, 3) := by decide +kernel
theorem dX8_smaller_5 : decode cX8_smaller 5 = .ok (.iload_n 0, 1) := by decide +kernel
theorem dX8_smaller_6 : decode cX8_smaller 6 = .ok (.goto 4, 3) := by decide +kernel
theorem dX8_smaller_9 : decode cX8_smaller 9 = .ok (.iload_n 1, 1) := by decide +kernel
theorem dX8_smaller_10 : decode cX8_smaller 10 = .ok (.ireturn, 1) := by decide +kernel
theorem dX8_larger_0 : decode cX8_larger 0 = .ok (.iload_n 0, 1) := by decide +kernel
theorem dX8_larger_1 : decode cX8_larger 1 = .ok (.iload_n 1, 1) := by decide +kernel
theorem dX8_larger_2 : decode cX8_larger 2 = .ok (.if_icmp .ge 7, 3) := by decide +kernel
theorem dX8_larger_5 : decode cX8_larger 5 = .ok (.iload_n 1, 1) := by decide +kernel
theorem dX8_larger_6 : decode cX8_larger 6 = .ok (.goto 4, 3) := by decide +kernel
theorem dX8_larger_9 : decode cX8_larger 9 = .ok (.iload_n 0, 1) := by decide +kernel
theorem dX8_larger_10 : decode cX8_larger 10 = .ok (.ireturn, 1) := by decide +kernel
theorem dX8_clears_0 : decode cX8_clears 0 = .ok (.aload_n 0, 1) := by decide +kernel
theorem dX8_clears_1 : decode cX8_clears 1 = .ok (.bipush 36, 2) := by decide +kernel
theorem dX8_clears_3 : decode cX8_clears 3 = .ok (.putfield 82, 3) := by decide +kernel
theorem dX8_clears_6 : decode cX8_clears 6 = .ok (.aload_n 0, 1) := by decide +kernel
theorem dX8_clears_7 : decode cX8_clears 7 = .ok (.iconst 0, 1) := by decide +kernel
theorem dX8_clears_8 : decode cX8_clears 8 = .ok (.putfield 86, 3) := by decide +kernel
theorem dX8_clears_11 : decode cX8_clears 11 = .ok (.aload_n 0, 1) := by decide +kernel
theorem dX8_clears_12 : decode cX8_clears 12 = .ok (.iconst 0, 1) := by decide +kernel
theorem dX8_clears_13 : decode cX8_clears 13 = .ok (.putfield 89, 3) := by decide +kernel
theorem dX8_clears_16 : decode cX8_clears 16 = .ok (.iconst 0, 1) := by decide +kernel
theorem dX8_clears_17 : decode cX8_clears 17 = .ok (.istore_n 1, 1) := by decide +kernel
theorem dX8_clears_18 : decode cX8_clears 18 = .ok (.iload_n 1, 1) := by decide +kernel
theorem dX8_clears_19 : decode cX8_clears 19 = .ok (.bipush 36, 2) := by decide +kernel
theorem dX8_clears_21 : decode cX8_clears 21 = .ok (.if_icmp .ge 17, 3) := by decide +kernel
theorem dX8_clears_24 : decode cX8_clears 24 = .ok (.aload_n 0, 1) := by decide +kernel
theorem dX8_clears_25 : decode cX8_clears 25 = .ok (.getfield 34, 3) := by decide +kernel
theorem dX8_clears_28 : decode cX8_clears 28 = .ok (.iload_n 1, 1) := by decide +kernel
theorem dX8_clears_29 : decode cX8_clears 29 = .ok (.bipush 10, 2) := by decide +kernel
theorem dX8_clears_31 : decode cX8_clears 31 = .ok (.iastore, 1) := by decide +kernel
theorem dX8_clears_32 : decode cX8_clears 32 = .ok (.iinc 1 1, 3) := by decide +kernel
theorem dX8_clears_35 : decode cX8_clears 35 = .ok (.goto (-17), 3) := by decide +kernel
theorem dX8_clears_38 : decode cX8_clears 38 = .ok (.return_, 1) := by decide +kernel
theorem dX8_lies_0 : decode cX8_lies 0 = .ok (.aload_n 0, 1) := by decide +kernel
theorem dX8_lies_1 : decode cX8_lies 1 = .ok (.getfield 28, 3) := by decide +kernel
theorem dX8_lies_4 : decode cX8_lies 4 = .ok (.aload_n 0, 1) := by decide +kernel
theorem dX8_lies_5 : decode cX8_lies 5 = .ok (.getfield 86, 3) := by decide +kernel
theorem dX8_lies_8 : decode cX8_lies 8 = .ok (.iload_n 1, 1) := by decide +kernel
theorem dX8_lies_9 : decode cX8_lies 9 = .ok (.iastore, 1) := by decide +kernel
theorem dX8_lies_10 : decode cX8_lies 10 = .ok (.aload_n 0, 1) := by decide +kernel
theorem dX8_lies_11 : decode cX8_lies 11 = .ok (.getfield 31, 3) := by decide +kernel
theorem dX8_lies_14 : decode cX8_lies 14 = .ok (.aload_n 0, 1) := by decide +kernel
theorem dX8_lies_15 : decode cX8_lies 15 = .ok (.getfield 86, 3) := by decide +kernel
theorem dX8_lies_18 : decode cX8_lies 18 = .ok (.iload_n 2, 1) := by decide +kernel
theorem dX8_lies_19 : decode cX8_lies 19 = .ok (.iconst 4, 1) := by decide +kernel
theorem dX8_lies_20 : decode cX8_lies 20 = .ok (.isub, 1) := by decide +kernel
theorem dX8_lies_21 : decode cX8_lies 21 = .ok (.iastore, 1) := by decide +kernel
theorem dX8_lies_22 : decode cX8_lies 22 = .ok (.aload_n 0, 1) := by decide +kernel
theorem dX8_lies_23 : decode cX8_lies 23 = .ok (.dup, 1) := by decide +kernel
theorem dX8_lies_24 : decode cX8_lies 24 = .ok (.getfield 86, 3) := by decide +kernel
theorem dX8_lies_27 : decode cX8_lies 27 = .ok (.iconst 1, 1) := by decide +kernel
theorem dX8_lies_28 : decode cX8_lies 28 = .ok (.iadd, 1) := by decide +kernel
theorem dX8_lies_29 : decode cX8_lies 29 = .ok (.putfield 86, 3) := by decide +kernel
theorem dX8_lies_32 : decode cX8_lies 32 = .ok (.return_, 1) := by decide +kernel
theorem dX8_bends_0 : decode cX8_bends 0 = .ok (.aload_n 0, 1) := by decide +kernel
theorem dX8_bends_1 : decode cX8_bends 1 = .ok (.getfield 34, 3) := by decide +kernel
theorem dX8_bends_4 : decode cX8_bends 4 = .ok (.bipush 6, 2) := by decide +kernel
theorem dX8_bends_6 : decode cX8_bends 6 = .ok (.iload_n 1, 1) := by decide +kernel
theorem dX8_bends_7 : decode cX8_bends 7 = .ok (.imul, 1) := by decide +kernel
theorem dX8_bends_8 : decode cX8_bends 8 = .ok (.iload_n 2, 1) := by decide +kernel
theorem dX8_bends_9 : decode cX8_bends 9 = .ok (.iadd, 1) := by decide +kernel
theorem dX8_bends_10 : decode cX8_bends 10 = .ok (.iload_n 3, 1) := by decide +kernel
theorem dX8_bends_11 : decode cX8_bends 11 = .ok (.iastore, 1) := by decide +kernel
theorem dX8_bends_12 : decode cX8_bends 12 = .ok (.aload_n 0, 1) := by decide +kernel
theorem dX8_bends_13 : decode cX8_bends 13 = .ok (.getfield 34, 3) := by decide +kernel
theorem dX8_bends_16 : decode cX8_bends 16 = .ok (.bipush 6, 2) := by decide +kernel
theorem dX8_bends_18 : decode cX8_bends 18 = .ok (.iload_n 2, 1) := by decide +kernel
theorem dX8_bends_19 : decode cX8_bends 19 = .ok (.imul, 1) := by decide +kernel
theorem dX8_bends_20 : decode cX8_bends 20 = .ok (.iload_n 1, 1) := by decide +kernel
theorem dX8_bends_21 : decode cX8_bends 21 = .ok (.iadd, 1) := by decide +kernel
theorem dX8_bends_22 : decode cX8_bends 22 = .ok (.iload_n 3, 1) := by decide +kernel
theorem dX8_bends_23 : decode cX8_bends 23 = .ok (.iastore, 1) := by decide +kernel
theorem dX8_bends_24 : decode cX8_bends 24 = .ok (.return_, 1) := by decide +kernel
theorem dX8_goes_0 : decode cX8_goes 0 = .ok (.aload_n 0, 1) := by decide +kernel
theorem dX8_goes_1 : decode cX8_goes 1 = .ok (.getfield 37, 3) := by decide +kernel
theorem dX8_goes_4 : decode cX8_goes 4 = .ok (.aload_n 0, 1) := by decide +kernel
theorem dX8_goes_5 : decode cX8_goes 5 = .ok (.getfield 89, 3) := by decide +kernel
theorem dX8_goes_8 : decode cX8_goes 8 = .ok (.iload_n 1, 1) := by decide +kernel
theorem dX8_goes_9 : decode cX8_goes 9 = .ok (.iastore, 1) := by decide +kernel
theorem dX8_goes_10 : decode cX8_goes 10 = .ok (.aload_n 0, 1) := by decide +kernel
theorem dX8_goes_11 : decode cX8_goes 11 = .ok (.getfield 40, 3) := by decide +kernel
theorem dX8_goes_14 : decode cX8_goes 14 = .ok (.aload_n 0, 1) := by decide +kernel
theorem dX8_goes_15 : decode cX8_goes 15 = .ok (.getfield 89, 3) := by decide +kernel
theorem dX8_goes_18 : decode cX8_goes 18 = .ok (.iload_n 2, 1) := by decide +kernel
theorem dX8_goes_19 : decode cX8_goes 19 = .ok (.iastore, 1) := by decide +kernel
theorem dX8_goes_20 : decode cX8_goes 20 = .ok (.aload_n 0, 1) := by decide +kernel
theorem dX8_goes_21 : decode cX8_goes 21 = .ok (.getfield 43, 3) := by decide +kernel
theorem dX8_goes_24 : decode cX8_goes 24 = .ok (.aload_n 0, 1) := by decide +kernel
theorem dX8_goes_25 : decode cX8_goes 25 = .ok (.getfield 89, 3) := by decide +kernel
theorem dX8_goes_28 : decode cX8_goes 28 = .ok (.iload_n 3, 1) := by decide +kernel
theorem dX8_goes_29 : decode cX8_goes 29 = .ok (.iastore, 1) := by decide +kernel
theorem dX8_goes_30 : decode cX8_goes 30 = .ok (.aload_n 0, 1) := by decide +kernel
theorem dX8_goes_31 : decode cX8_goes 31 = .ok (.dup, 1) := by decide +kernel
theorem dX8_goes_32 : decode cX8_goes 32 = .ok (.getfield 89, 3) := by decide +kernel
theorem dX8_goes_35 : decode cX8_goes 35 = .ok (.iconst 1, 1) := by decide +kernel
theorem dX8_goes_36 : decode cX8_goes 36 = .ok (.iadd, 1) := by decide +kernel
theorem dX8_goes_37 : decode cX8_goes 37 = .ok (.putfield 89, 3) := by decide +kernel
theorem dX8_goes_40 : decode cX8_goes 40 = .ok (.return_, 1) := by decide +kernel
theorem dX8_settles_0 : decode cX8_settles 0 = .ok (.aload_n 0, 1) := by decide +kernel
theorem dX8_settles_1 : decode cX8_settles 1 = .ok (.bipush 40, 2) := by decide +kernel
theorem dX8_settles_3 : decode cX8_settles 3 = .ok (.aload_n 0, 1) := by decide +kernel
theorem dX8_settles_4 : decode cX8_settles 4 = .ok (.getfield 82, 3) := by decide +kernel
theorem dX8_settles_7 : decode cX8_settles 7 = .ok (.imul, 1) := by decide +kernel
theorem dX8_settles_8 : decode cX8_settles 8 = .ok (.putfield 92, 3) := by decide +kernel
theorem dX8_settles_11 : decode cX8_settles 11 = .ok (.aload_n 0, 1) := by decide +kernel
theorem dX8_settles_12 : decode cX8_settles 12 = .ok (.aload_n 0, 1) := by decide +kernel
theorem dX8_settles_13 : decode cX8_settles 13 = .ok (.getfield 86, 3) := by decide +kernel
theorem dX8_settles_16 : decode cX8_settles 16 = .ok (.putfield 95, 3) := by decide +kernel
theorem dX8_settles_19 : decode cX8_settles 19 = .ok (.aload_n 0, 1) := by decide +kernel
theorem dX8_settles_20 : decode cX8_settles 20 = .ok (.aload_n 0, 1) := by decide +kernel
theorem dX8_settles_21 : decode cX8_settles 21 = .ok (.getfield 89, 3) := by decide +kernel
theorem dX8_settles_24 : decode cX8_settles 24 = .ok (.putfield 98, 3) := by decide +kernel
theorem dX8_settles_27 : decode cX8_settles 27 = .ok (.iconst 0, 1) := by decide +kernel
theorem dX8_settles_28 : decode cX8_settles 28 = .ok (.istore_n 1, 1) := by decide +kernel
theorem dX8_settles_29 : decode cX8_settles 29 = .ok (.iload_n 1, 1) := by decide +kernel
theorem dX8_settles_30 : decode cX8_settles 30 = .ok (.bipush 6, 2) := by decide +kernel
theorem dX8_settles_32 : decode cX8_settles 32 = .ok (.if_icmp .ge 33, 3) := by decide +kernel
theorem dX8_settles_35 : decode cX8_settles 35 = .ok (.aload_n 0, 1) := by decide +kernel
theorem dX8_settles_36 : decode cX8_settles 36 = .ok (.getfield 7, 3) := by decide +kernel
theorem dX8_settles_39 : decode cX8_settles 39 = .ok (.iload_n 1, 1) := by decide +kernel
theorem dX8_settles_40 : decode cX8_settles 40 = .ok (.aload_n 0, 1) := by decide +kernel
theorem dX8_settles_41 : decode cX8_settles 41 = .ok (.getfield 28, 3) := by decide +kernel
theorem dX8_settles_44 : decode cX8_settles 44 = .ok (.iload_n 1, 1) := by decide +kernel
theorem dX8_settles_45 : decode cX8_settles 45 = .ok (.iaload, 1) := by decide +kernel
theorem dX8_settles_46 : decode cX8_settles 46 = .ok (.iastore, 1) := by decide +kernel
theorem dX8_settles_47 : decode cX8_settles 47 = .ok (.aload_n 0, 1) := by decide +kernel
theorem dX8_settles_48 : decode cX8_settles 48 = .ok (.getfield 13, 3) := by decide +kernel
theorem dX8_settles_51 : decode cX8_settles 51 = .ok (.iload_n 1, 1) := by decide +kernel
theorem dX8_settles_52 : decode cX8_settles 52 = .ok (.aload_n 0, 1) := by decide +kernel
theorem dX8_settles_53 : decode cX8_settles 53 = .ok (.getfield 31, 3) := by decide +kernel
theorem dX8_settles_56 : decode cX8_settles 56 = .ok (.iload_n 1, 1) := by decide +kernel
theorem dX8_settles_57 : decode cX8_settles 57 = .ok (.iaload, 1) := by decide +kernel
theorem dX8_settles_58 : decode cX8_settles 58 = .ok (.iastore, 1) := by decide +kernel
theorem dX8_settles_59 : decode cX8_settles 59 = .ok (.iinc 1 1, 3) := by decide +kernel
theorem dX8_settles_62 : decode cX8_settles 62 = .ok (.goto (-33), 3) := by decide +kernel
theorem dX8_settles_65 : decode cX8_settles 65 = .ok (.iconst 0, 1) := by decide +kernel
theorem dX8_settles_66 : decode cX8_settles 66 = .ok (.istore_n 1, 1) := by decide +kernel
theorem dX8_settles_67 : decode cX8_settles 67 = .ok (.iload_n 1, 1) := by decide +kernel
theorem dX8_settles_68 : decode cX8_settles 68 = .ok (.bipush 36, 2) := by decide +kernel
theorem dX8_settles_70 : decode cX8_settles 70 = .ok (.if_icmp .ge 21, 3) := by decide +kernel
theorem dX8_settles_73 : decode cX8_settles 73 = .ok (.aload_n 0, 1) := by decide +kernel
theorem dX8_settles_74 : decode cX8_settles 74 = .ok (.getfield 16, 3) := by decide +kernel
theorem dX8_settles_77 : decode cX8_settles 77 = .ok (.iload_n 1, 1) := by decide +kernel
theorem dX8_settles_78 : decode cX8_settles 78 = .ok (.aload_n 0, 1) := by decide +kernel
theorem dX8_settles_79 : decode cX8_settles 79 = .ok (.getfield 34, 3) := by decide +kernel
theorem dX8_settles_82 : decode cX8_settles 82 = .ok (.iload_n 1, 1) := by decide +kernel
theorem dX8_settles_83 : decode cX8_settles 83 = .ok (.iaload, 1) := by decide +kernel
theorem dX8_settles_84 : decode cX8_settles 84 = .ok (.iastore, 1) := by decide +kernel
theorem dX8_settles_85 : decode cX8_settles 85 = .ok (.iinc 1 1, 3) := by decide +kernel
theorem dX8_settles_88 : decode cX8_settles 88 = .ok (.goto (-21), 3) := by decide +kernel
theorem dX8_settles_91 : decode cX8_settles 91 = .ok (.iconst 0, 1) := by decide +kernel
theorem dX8_settles_92 : decode cX8_settles 92 = .ok (.istore_n 1, 1) := by decide +kernel
theorem dX8_settles_93 : decode cX8_settles 93 = .ok (.iload_n 1, 1) := by decide +kernel
theorem dX8_settles_94 : decode cX8_settles 94 = .ok (.iconst 4, 1) := by decide +kernel
theorem dX8_settles_95 : decode cX8_settles 95 = .ok (.if_icmp .ge 45, 3) := by decide +kernel
theorem dX8_settles_98 : decode cX8_settles 98 = .ok (.aload_n 0, 1) := by decide +kernel
theorem dX8_settles_99 : decode cX8_settles 99 = .ok (.getfield 19, 3) := by decide +kernel
theorem dX8_settles_102 : decode cX8_settles 102 = .ok (.iload_n 1, 1) := by decide +kernel
theorem dX8_settles_103 : decode cX8_settles 103 = .ok (.aload_n 0, 1) := by decide +kernel
theorem dX8_settles_104 : decode cX8_settles 104 = .ok (.getfield 37, 3) := by decide +kernel
theorem dX8_settles_107 : decode cX8_settles 107 = .ok (.iload_n 1, 1) := by decide +kernel
theorem dX8_settles_108 : decode cX8_settles 108 = .ok (.iaload, 1) := by decide +kernel
theorem dX8_settles_109 : decode cX8_settles 109 = .ok (.iastore, 1) := by decide +kernel
theorem dX8_settles_110 : decode cX8_settles 110 = .ok (.aload_n 0, 1) := by decide +kernel
theorem dX8_settles_111 : decode cX8_settles 111 = .ok (.getfield 22, 3) := by decide +kernel
theorem dX8_settles_114 : decode cX8_settles 114 = .ok (.iload_n 1, 1) := by decide +kernel
theorem dX8_settles_115 : decode cX8_settles 115 = .ok (.aload_n 0, 1) := by decide +kernel
theorem dX8_settles_116 : decode cX8_settles 116 = .ok (.getfield 40, 3) := by decide +kernel
theorem dX8_settles_119 : decode cX8_settles 119 = .ok (.iload_n 1, 1) := by decide +kernel
theorem dX8_settles_120 : decode cX8_settles 120 = .ok (.iaload, 1) := by decide +kernel
theorem dX8_settles_121 : decode cX8_settles 121 = .ok (.iastore, 1) := by decide +kernel
theorem dX8_settles_122 : decode cX8_settles 122 = .ok (.aload_n 0, 1) := by decide +kernel
theorem dX8_settles_123 : decode cX8_settles 123 = .ok (.getfield 25, 3) := by decide +kernel
theorem dX8_settles_126 : decode cX8_settles 126 = .ok (.iload_n 1, 1) := by decide +kernel
theorem dX8_settles_127 : decode cX8_settles 127 = .ok (.aload_n 0, 1) := by decide +kernel
theorem dX8_settles_128 : decode cX8_settles 128 = .ok (.getfield 43, 3) := by decide +kernel
theorem dX8_settles_131 : decode cX8_settles 131 = .ok (.iload_n 1, 1) := by decide +kernel
theorem dX8_settles_132 : decode cX8_settles 132 = .ok (.iaload, 1) := by decide +kernel
theorem dX8_settles_133 : decode cX8_settles 133 = .ok (.iastore, 1) := by decide +kernel
theorem dX8_settles_134 : decode cX8_settles 134 = .ok (.iinc 1 1, 3) := by decide +kernel
theorem dX8_settles_137 : decode cX8_settles 137 = .ok (.goto (-44), 3) := by decide +kernel
theorem dX8_settles_140 : decode cX8_settles 140 = .ok (.return_, 1) := by decide +kernel
theorem dX8_copies_0 : decode cX8_copies 0 = .ok (.iconst 0, 1) := by decide +kernel
theorem dX8_copies_1 : decode cX8_copies 1 = .ok (.istore_n 3, 1) := by decide +kernel
theorem dX8_copies_2 : decode cX8_copies 2 = .ok (.iload_n 3, 1) := by decide +kernel
theorem dX8_copies_3 : decode cX8_copies 3 = .ok (.bipush 38, 2) := by decide +kernel
theorem dX8_copies_5 : decode cX8_copies 5 = .ok (.if_icmp .ge 25, 3) := by decide +kernel
theorem dX8_copies_8 : decode cX8_copies 8 = .ok (.aload_n 0, 1) := by decide +kernel
theorem dX8_copies_9 : decode cX8_copies 9 = .ok (.getfield 46, 3) := by decide +kernel
theorem dX8_copies_12 : decode cX8_copies 12 = .ok (.iload_n 2, 1) := by decide +kernel
theorem dX8_copies_13 : decode cX8_copies 13 = .ok (.iload_n 3, 1) := by decide +kernel
theorem dX8_copies_14 : decode cX8_copies 14 = .ok (.iadd, 1) := by decide +kernel
theorem dX8_copies_15 : decode cX8_copies 15 = .ok (.aload_n 0, 1) := by decide +kernel
theorem dX8_copies_16 : decode cX8_copies 16 = .ok (.getfield 46, 3) := by decide +kernel
theorem dX8_copies_19 : decode cX8_copies 19 = .ok (.iload_n 1, 1) := by decide +kernel
theorem dX8_copies_20 : decode cX8_copies 20 = .ok (.iload_n 3, 1) := by decide +kernel
theorem dX8_copies_21 : decode cX8_copies 21 = .ok (.iadd, 1) := by decide +kernel
theorem dX8_copies_22 : decode cX8_copies 22 = .ok (.iaload, 1) := by decide +kernel
theorem dX8_copies_23 : decode cX8_copies 23 = .ok (.iastore, 1) := by decide +kernel
theorem dX8_copies_24 : decode cX8_copies 24 = .ok (.iinc 3 1, 3) := by decide +kernel
theorem dX8_copies_27 : decode cX8_copies 27 = .ok (.goto (-25), 3) := by decide +kernel
theorem dX8_copies_30 : decode cX8_copies 30 = .ok (.return_, 1) := by decide +kernel
theorem dX8_isTown_0 : decode cX8_isTown 0 = .ok (.iload_n 1, 1) := by decide +kernel
theorem dX8_isTown_1 : decode cX8_isTown 1 = .ok (.i2l, 1) := by decide +kernel
theorem dX8_isTown_2 : decode cX8_isTown 2 = .ok (.lconst 0, 1) := by decide +kernel
theorem dX8_isTown_3 : decode cX8_isTown 3 = .ok (.aload_n 0, 1) := by decide +kernel
theorem dX8_isTown_4 : decode cX8_isTown 4 = .ok (.getfield 95, 3) := by decide +kernel
theorem dX8_isTown_7 : decode cX8_isTown 7 = .ok (.iconst 1, 1) := by decide +kernel
theorem dX8_isTown_8 : decode cX8_isTown 8 = .ok (.isub, 1) := by decide +kernel
theorem dX8_isTown_9 : decode cX8_isTown 9 = .ok (.i2l, 1) := by decide +kernel
theorem dX8_isTown_10 : decode cX8_isTown 10 = .ok (.invokestatic 101, 3) := by decide +kernel
theorem dX8_isTown_13 : decode cX8_isTown 13 = .ok (.ireturn, 1) := by decide +kernel
theorem dX8_areTowns_0 : decode cX8_areTowns 0 = .ok (.aload_n 0, 1) := by decide +kernel
theorem dX8_areTowns_1 : decode cX8_areTowns 1 = .ok (.iload_n 1, 1) := by decide +kernel
theorem dX8_areTowns_2 : decode cX8_areTowns 2 = .ok (.invokevirtual 105, 3) := by decide +kernel
theorem dX8_areTowns_5 : decode cX8_areTowns 5 = .ok (.ifCond .eq 20, 3) := by decide +kernel
theorem dX8_areTowns_8 : decode cX8_areTowns 8 = .ok (.aload_n 0, 1) := by decide +kernel
theorem dX8_areTowns_9 : decode cX8_areTowns 9 = .ok (.iload_n 2, 1) := by decide +kernel
theorem dX8_areTowns_10 : decode cX8_areTowns 10 = .ok (.invokevirtual 105, 3) := by decide +kernel
theorem dX8_areTowns_13 : decode cX8_areTowns 13 = .ok (.ifCond .eq 12, 3) := by decide +kernel
theorem dX8_areTowns_16 : decode cX8_areTowns 16 = .ok (.iload_n 1, 1) := by decide +kernel
theorem dX8_areTowns_17 : decode cX8_areTowns 17 = .ok (.iload_n 2, 1) := by decide +kernel
theorem dX8_areTowns_18 : decode cX8_areTowns 18 = .ok (.if_icmp .eq 7, 3) := by decide +kernel
theorem dX8_areTowns_21 : decode cX8_areTowns 21 = .ok (.iconst 1, 1) := by decide +kernel
theorem dX8_areTowns_22 : decode cX8_areTowns 22 = .ok (.goto 4, 3) := by decide +kernel
theorem dX8_areTowns_25 : decode cX8_areTowns 25 = .ok (.iconst 0, 1) := by decide +kernel
theorem dX8_areTowns_26 : decode cX8_areTowns 26 = .ok (.ireturn, 1) := by decide +kernel
theorem dX8_isWalker_0 : decode cX8_isWalker 0 = .ok (.iload_n 1, 1) := by decide +kernel
theorem dX8_isWalker_1 : decode cX8_isWalker 1 = .ok (.i2l, 1) := by decide +kernel
theorem dX8_isWalker_2 : decode cX8_isWalker 2 = .ok (.lconst 0, 1) := by decide +kernel
theorem dX8_isWalker_3 : decode cX8_isWalker 3 = .ok (.aload_n 0, 1) := by decide +kernel
theorem dX8_isWalker_4 : decode cX8_isWalker 4 = .ok (.getfield 98, 3) := by decide +kernel
theorem dX8_isWalker_7 : decode cX8_isWalker 7 = .ok (.iconst 1, 1) := by decide +kernel
theorem dX8_isWalker_8 : decode cX8_isWalker 8 = .ok (.isub, 1) := by decide +kernel
theorem dX8_isWalker_9 : decode cX8_isWalker 9 = .ok (.i2l, 1) := by decide +kernel
theorem dX8_isWalker_10 : decode cX8_isWalker 10 = .ok (.invokestatic 101, 3) := by decide +kernel
theorem dX8_isWalker_13 : decode cX8_isWalker 13 = .ok (.ireturn, 1) := by decide +kernel
theorem dX8_isReport_0 : decode cX8_isReport 0 = .ok (.iload_n 1, 1) := by decide +kernel
theorem dX8_isReport_1 : decode cX8_isReport 1 = .ok (.i2l, 1) := by decide +kernel
theorem dX8_isReport_2 : decode cX8_isReport 2 = .ok (.lconst 0, 1) := by decide +kernel
theorem dX8_isReport_3 : decode cX8_isReport 3 = .ok (.aload_n 0, 1) := by decide +kernel
theorem dX8_isReport_4 : decode cX8_isReport 4 = .ok (.getfield 46, 3) := by decide +kernel
theorem dX8_isReport_7 : decode cX8_isReport 7 = .ok (.bipush 36, 2) := by decide +kernel
theorem dX8_isReport_9 : decode cX8_isReport 9 = .ok (.iaload, 1) := by decide +kernel
theorem dX8_isReport_10 : decode cX8_isReport 10 = .ok (.iconst 1, 1) := by decide +kernel
theorem dX8_isReport_11 : decode cX8_isReport 11 = .ok (.isub, 1) := by decide +kernel
theorem dX8_isReport_12 : decode cX8_isReport 12 = .ok (.i2l, 1) := by decide +kernel
theorem dX8_isReport_13 : decode cX8_isReport 13 = .ok (.invokestatic 101, 3) := by decide +kernel
theorem dX8_isReport_16 : decode cX8_isReport 16 = .ok (.ireturn, 1) := by decide +kernel
theorem dX8_write_0 : decode cX8_write 0 = .ok (.iload_n 1, 1) := by decide +kernel
theorem dX8_write_1 : decode cX8_write 1 = .ok (.i2l, 1) := by decide +kernel
theorem dX8_write_2 : decode cX8_write 2 = .ok (.ldc2_w 109, 3) := by decide +kernel
theorem dX8_write_5 : decode cX8_write 5 = .ok (.ldc2_w 111, 3) := by decide +kernel
theorem dX8_write_8 : decode cX8_write 8 = .ok (.invokestatic 101, 3) := by decide +kernel
theorem dX8_write_11 : decode cX8_write 11 = .ok (.ifCond .ne 5, 3) := by decide +kernel
theorem dX8_write_14 : decode cX8_write 14 = .ok (.iconst (-1), 1) := by decide +kernel
theorem dX8_write_15 : decode cX8_write 15 = .ok (.ireturn, 1) := by decide +kernel
theorem dX8_write_16 : decode cX8_write 16 = .ok (.aload_n 0, 1) := by decide +kernel
theorem dX8_write_17 : decode cX8_write 17 = .ok (.getfield 113, 3) := by decide +kernel
theorem dX8_write_20 : decode cX8_write 20 = .ok (.sipush 200, 3) := by decide +kernel
theorem dX8_write_23 : decode cX8_write 23 = .ok (.if_icmp .ne 6, 3) := by decide +kernel
theorem dX8_write_26 : decode cX8_write 26 = .ok (.bipush (-3), 2) := by decide +kernel
theorem dX8_write_28 : decode cX8_write 28 = .ok (.ireturn, 1) := by decide +kernel
theorem dX8_write_29 : decode cX8_write 29 = .ok (.aload_n 0, 1) := by decide +kernel
theorem dX8_write_30 : decode cX8_write 30 = .ok (.getfield 49, 3) := by decide +kernel
theorem dX8_write_33 : decode cX8_write 33 = .ok (.aload_n 0, 1) := by decide +kernel
theorem dX8_write_34 : decode cX8_write 34 = .ok (.getfield 113, 3) := by decide +kernel
theorem dX8_write_37 : decode cX8_write 37 = .ok (.iload_n 1, 1) := by decide +kernel
theorem dX8_write_38 : decode cX8_write 38 = .ok (.i2b, 1) := by decide +kernel
theorem dX8_write_39 : decode cX8_write 39 = .ok (.bastore, 1) := by decide +kernel
theorem dX8_write_40 : decode cX8_write 40 = .ok (.aload_n 0, 1) := by decide +kernel
theorem dX8_write_41 : decode cX8_write 41 = .ok (.dup, 1) := by decide +kernel
theorem dX8_write_42 : decode cX8_write 42 = .ok (.getfield 113, 3) := by decide +kernel
theorem dX8_write_45 : decode cX8_write 45 = .ok (.iconst 1, 1) := by decide +kernel
theorem dX8_write_46 : decode cX8_write 46 = .ok (.iadd, 1) := by decide +kernel
theorem dX8_write_47 : decode cX8_write 47 = .ok (.putfield 113, 3) := by decide +kernel
theorem dX8_write_50 : decode cX8_write 50 = .ok (.aload_n 0, 1) := by decide +kernel
theorem dX8_write_51 : decode cX8_write 51 = .ok (.getfield 113, 3) := by decide +kernel
theorem dX8_write_54 : decode cX8_write 54 = .ok (.ireturn, 1) := by decide +kernel
theorem dX8_wipe_0 : decode cX8_wipe 0 = .ok (.aload_n 0, 1) := by decide +kernel
theorem dX8_wipe_1 : decode cX8_wipe 1 = .ok (.getfield 113, 3) := by decide +kernel
theorem dX8_wipe_4 : decode cX8_wipe 4 = .ok (.istore_n 1, 1) := by decide +kernel
theorem dX8_wipe_5 : decode cX8_wipe 5 = .ok (.aload_n 0, 1) := by decide +kernel
theorem dX8_wipe_6 : decode cX8_wipe 6 = .ok (.iconst 0, 1) := by decide +kernel
theorem dX8_wipe_7 : decode cX8_wipe 7 = .ok (.putfield 113, 3) := by decide +kernel
theorem dX8_wipe_10 : decode cX8_wipe 10 = .ok (.iload_n 1, 1) := by decide +kernel
theorem dX8_wipe_11 : decode cX8_wipe 11 = .ok (.ireturn, 1) := by decide +kernel
theorem dX8_peek_0 : decode cX8_peek 0 = .ok (.aload_n 0, 1) := by decide +kernel
theorem dX8_peek_1 : decode cX8_peek 1 = .ok (.getfield 116, 3) := by decide +kernel
theorem dX8_peek_4 : decode cX8_peek 4 = .ok (.aload_n 0, 1) := by decide +kernel
theorem dX8_peek_5 : decode cX8_peek 5 = .ok (.getfield 113, 3) := by decide +kernel
theorem dX8_peek_8 : decode cX8_peek 8 = .ok (.if_icmp .ge 15, 3) := by decide +kernel
theorem dX8_peek_11 : decode cX8_peek 11 = .ok (.aload_n 0, 1) := by decide +kernel
theorem dX8_peek_12 : decode cX8_peek 12 = .ok (.getfield 49, 3) := by decide +kernel
theorem dX8_peek_15 : decode cX8_peek 15 = .ok (.aload_n 0, 1) := by decide +kernel
theorem dX8_peek_16 : decode cX8_peek 16 = .ok (.getfield 116, 3) := by decide +kernel
theorem dX8_peek_19 : decode cX8_peek 19 = .ok (.baload, 1) := by decide +kernel
theorem dX8_peek_20 : decode cX8_peek 20 = .ok (.goto 4, 3) := by decide +kernel
theorem dX8_peek_23 : decode cX8_peek 23 = .ok (.iconst (-1), 1) := by decide +kernel
theorem dX8_peek_24 : decode cX8_peek 24 = .ok (.ireturn, 1) := by decide +kernel
theorem dX8_number_0 : decode cX8_number 0 = .ok (.iconst 0, 1) := by decide +kernel
theorem dX8_number_1 : decode cX8_number 1 = .ok (.istore_n 3, 1) := by decide +kernel
theorem dX8_number_2 : decode cX8_number 2 = .ok (.iconst 0, 1) := by decide +kernel
theorem dX8_number_3 : decode cX8_number 3 = .ok (.istore 4, 2) := by decide +kernel
theorem dX8_number_5 : decode cX8_number 5 = .ok (.aload_n 0, 1) := by decide +kernel
theorem dX8_number_6 : decode cX8_number 6 = .ok (.invokevirtual 119, 3) := by decide +kernel
theorem dX8_number_9 : decode cX8_number 9 = .ok (.i2l, 1) := by decide +kernel
theorem dX8_number_10 : decode cX8_number 10 = .ok (.ldc2_w 123, 3) := by decide +kernel
theorem dX8_number_13 : decode cX8_number 13 = .ok (.ldc2_w 125, 3) := by decide +kernel
theorem dX8_number_16 : decode cX8_number 16 = .ok (.invokestatic 101, 3) := by decide +kernel
theorem dX8_number_19 : decode cX8_number 19 = .ok (.ifCond .eq 38, 3) := by decide +kernel
theorem dX8_number_22 : decode cX8_number 22 = .ok (.iload 4, 2) := by decide +kernel
theorem dX8_number_24 : decode cX8_number 24 = .ok (.iconst 3, 1) := by decide +kernel
theorem dX8_number_25 : decode cX8_number 25 = .ok (.if_icmp .ge 32, 3) := by decide +kernel
theorem dX8_number_28 : decode cX8_number 28 = .ok (.bipush 10, 2) := by decide +kernel
theorem dX8_number_30 : decode cX8_number 30 = .ok (.iload_n 3, 1) := by decide +kernel
theorem dX8_number_31 : decode cX8_number 31 = .ok (.imul, 1) := by decide +kernel
theorem dX8_number_32 : decode cX8_number 32 = .ok (.aload_n 0, 1) := by decide +kernel
theorem dX8_number_33 : decode cX8_number 33 = .ok (.invokevirtual 119, 3) := by decide +kernel
theorem dX8_number_36 : decode cX8_number 36 = .ok (.iadd, 1) := by decide +kernel
theorem dX8_number_37 : decode cX8_number 37 = .ok (.bipush 48, 2) := by decide +kernel
theorem dX8_number_39 : decode cX8_number 39 = .ok (.isub, 1) := by decide +kernel
theorem dX8_number_40 : decode cX8_number 40 = .ok (.istore_n 3, 1) := by decide +kernel
theorem dX8_number_41 : decode cX8_number 41 = .ok (.iinc 4 1, 3) := by decide +kernel
theorem dX8_number_44 : decode cX8_number 44 = .ok (.aload_n 0, 1) := by decide +kernel
theorem dX8_number_45 : decode cX8_number 45 = .ok (.dup, 1) := by decide +kernel
theorem dX8_number_46 : decode cX8_number 46 = .ok (.getfield 116, 3) := by decide +kernel
theorem dX8_number_49 : decode cX8_number 49 = .ok (.iconst 1, 1) := by decide +kernel
theorem dX8_number_50 : decode cX8_number 50 = .ok (.iadd, 1) := by decide +kernel
theorem dX8_number_51 : decode cX8_number 51 = .ok (.putfield 116, 3) := by decide +kernel
theorem dX8_number_54 : decode cX8_number 54 = .ok (.goto (-49), 3) := by decide +kernel
theorem dX8_number_57 : decode cX8_number 57 = .ok (.aload_n 0, 1) := by decide +kernel
theorem dX8_number_58 : decode cX8_number 58 = .ok (.aload_n 0, 1) := by decide +kernel
theorem dX8_number_59 : decode cX8_number 59 = .ok (.getfield 127, 3) := by decide +kernel
theorem dX8_number_62 : decode cX8_number 62 = .ok (.ifCond .ne 26, 3) := by decide +kernel
theorem dX8_number_65 : decode cX8_number 65 = .ok (.iload 4, 2) := by decide +kernel
theorem dX8_number_67 : decode cX8_number 67 = .ok (.ifCond .eq 21, 3) := by decide +kernel
theorem dX8_number_70 : decode cX8_number 70 = .ok (.iload 4, 2) := by decide +kernel
theorem dX8_number_72 : decode cX8_number 72 = .ok (.iconst 2, 1) := by decide +kernel
theorem dX8_number_73 : decode cX8_number 73 = .ok (.if_icmp .gt 15, 3) := by decide +kernel
theorem dX8_number_76 : decode cX8_number 76 = .ok (.iload_n 3, 1) := by decide +kernel
theorem dX8_number_77 : decode cX8_number 77 = .ok (.i2l, 1) := by decide +kernel
theorem dX8_number_78 : decode cX8_number 78 = .ok (.iload_n 1, 1) := by decide +kernel
theorem dX8_number_79 : decode cX8_number 79 = .ok (.i2l, 1) := by decide +kernel
theorem dX8_number_80 : decode cX8_number 80 = .ok (.iload_n 2, 1) := by decide +kernel
theorem dX8_number_81 : decode cX8_number 81 = .ok (.i2l, 1) := by decide +kernel
theorem dX8_number_82 : decode cX8_number 82 = .ok (.invokestatic 101, 3) := by decide +kernel
theorem dX8_number_85 : decode cX8_number 85 = .ok (.ifCond .ne 7, 3) := by decide +kernel
theorem dX8_number_88 : decode cX8_number 88 = .ok (.iconst 1, 1) := by decide +kernel
theorem dX8_number_89 : decode cX8_number 89 = .ok (.goto 4, 3) := by decide +kernel
theorem dX8_number_92 : decode cX8_number 92 = .ok (.iconst 0, 1) := by decide +kernel
theorem dX8_number_93 : decode cX8_number 93 = .ok (.putfield 127, 3) := by decide +kernel
theorem dX8_number_96 : decode cX8_number 96 = .ok (.aload_n 0, 1) := by decide +kernel
theorem dX8_number_97 : decode cX8_number 97 = .ok (.getfield 127, 3) := by decide +kernel
theorem dX8_number_100 : decode cX8_number 100 = .ok (.ifCond .eq 7, 3) := by decide +kernel
theorem dX8_number_103 : decode cX8_number 103 = .ok (.iconst 0, 1) := by decide +kernel
theorem dX8_number_104 : decode cX8_number 104 = .ok (.goto 4, 3) := by decide +kernel
theorem dX8_number_107 : decode cX8_number 107 = .ok (.iload_n 3, 1) := by decide +kernel
theorem dX8_number_108 : decode cX8_number 108 = .ok (.ireturn, 1) := by decide +kernel
theorem dX8_more_0 : decode cX8_more 0 = .ok (.aload_n 0, 1) := by decide +kernel
theorem dX8_more_1 : decode cX8_more 1 = .ok (.aload_n 0, 1) := by decide +kernel
theorem dX8_more_2 : decode cX8_more 2 = .ok (.getfield 127, 3) := by decide +kernel
theorem dX8_more_5 : decode cX8_more 5 = .ok (.ifCond .ne 12, 3) := by decide +kernel
theorem dX8_more_8 : decode cX8_more 8 = .ok (.aload_n 0, 1) := by decide +kernel
theorem dX8_more_9 : decode cX8_more 9 = .ok (.invokevirtual 119, 3) := by decide +kernel
theorem dX8_more_12 : decode cX8_more 12 = .ok (.bipush 44, 2) := by decide +kernel
theorem dX8_more_14 : decode cX8_more 14 = .ok (.if_icmp .eq 7, 3) := by decide +kernel
theorem dX8_more_17 : decode cX8_more 17 = .ok (.iconst 1, 1) := by decide +kernel
theorem dX8_more_18 : decode cX8_more 18 = .ok (.goto 4, 3) := by decide +kernel
theorem dX8_more_21 : decode cX8_more 21 = .ok (.iconst 0, 1) := by decide +kernel
theorem dX8_more_22 : decode cX8_more 22 = .ok (.putfield 127, 3) := by decide +kernel
theorem dX8_more_25 : decode cX8_more 25 = .ok (.aload_n 0, 1) := by decide +kernel
theorem dX8_more_26 : decode cX8_more 26 = .ok (.dup, 1) := by decide +kernel
theorem dX8_more_27 : decode cX8_more 27 = .ok (.getfield 116, 3) := by decide +kernel
theorem dX8_more_30 : decode cX8_more 30 = .ok (.iconst 1, 1) := by decide +kernel
theorem dX8_more_31 : decode cX8_more 31 = .ok (.iadd, 1) := by decide +kernel
theorem dX8_more_32 : decode cX8_more 32 = .ok (.putfield 116, 3) := by decide +kernel
theorem dX8_more_35 : decode cX8_more 35 = .ok (.aload_n 0, 1) := by decide +kernel
theorem dX8_more_36 : decode cX8_more 36 = .ok (.getfield 127, 3) := by decide +kernel
theorem dX8_more_39 : decode cX8_more 39 = .ok (.ifCond .eq 7, 3) := by decide +kernel
theorem dX8_more_42 : decode cX8_more 42 = .ok (.iconst 0, 1) := by decide +kernel
theorem dX8_more_43 : decode cX8_more 43 = .ok (.goto 9, 3) := by decide +kernel
theorem dX8_more_46 : decode cX8_more 46 = .ok (.aload_n 0, 1) := by decide +kernel
theorem dX8_more_47 : decode cX8_more 47 = .ok (.iload_n 1, 1) := by decide +kernel
theorem dX8_more_48 : decode cX8_more 48 = .ok (.iload_n 2, 1) := by decide +kernel
theorem dX8_more_49 : decode cX8_more 49 = .ok (.invokevirtual 131, 3) := by decide +kernel
theorem dX8_more_52 : decode cX8_more 52 = .ok (.ireturn, 1) := by decide +kernel
theorem dX8_item_0 : decode cX8_item 0 = .ok (.iload_n 1, 1) := by decide +kernel
theorem dX8_item_1 : decode cX8_item 1 = .ok (.bipush 103, 2) := by decide +kernel
theorem dX8_item_3 : decode cX8_item 3 = .ok (.if_icmp .ne 17, 3) := by decide +kernel
theorem dX8_item_6 : decode cX8_item 6 = .ok (.aload_n 0, 1) := by decide +kernel
theorem dX8_item_7 : decode cX8_item 7 = .ok (.aload_n 0, 1) := by decide +kernel
theorem dX8_item_8 : decode cX8_item 8 = .ok (.iconst 1, 1) := by decide +kernel
theorem dX8_item_9 : decode cX8_item 9 = .ok (.bipush 99, 2) := by decide +kernel
theorem dX8_item_11 : decode cX8_item 11 = .ok (.invokevirtual 131, 3) := by decide +kernel
theorem dX8_item_14 : decode cX8_item 14 = .ok (.putfield 82, 3) := by decide +kernel
theorem dX8_item_17 : decode cX8_item 17 = .ok (.goto 229, 3) := by decide +kernel
theorem dX8_item_20 : decode cX8_item 20 = .ok (.iload_n 1, 1) := by decide +kernel
theorem dX8_item_21 : decode cX8_item 21 = .ok (.bipush 116, 2) := by decide +kernel
theorem dX8_item_23 : decode cX8_item 23 = .ok (.if_icmp .ne 64, 3) := by decide +kernel
theorem dX8_item_26 : decode cX8_item 26 = .ok (.aload_n 0, 1) := by decide +kernel
theorem dX8_item_27 : decode cX8_item 27 = .ok (.aload_n 0, 1) := by decide +kernel
theorem dX8_item_28 : decode cX8_item 28 = .ok (.getfield 86, 3) := by decide +kernel
theorem dX8_item_31 : decode cX8_item 31 = .ok (.bipush 6, 2) := by decide +kernel
theorem dX8_item_33 : decode cX8_item 33 = .ok (.if_icmp .ne 7, 3) := by decide +kernel
theorem dX8_item_36 : decode cX8_item 36 = .ok (.iconst 1, 1) := by decide +kernel
theorem dX8_item_37 : decode cX8_item 37 = .ok (.goto 4, 3) := by decide +kernel
theorem dX8_item_40 : decode cX8_item 40 = .ok (.iconst 0, 1) := by decide +kernel
theorem dX8_item_41 : decode cX8_item 41 = .ok (.putfield 127, 3) := by decide +kernel
theorem dX8_item_44 : decode cX8_item 44 = .ok (.aload_n 0, 1) := by decide +kernel
theorem dX8_item_45 : decode cX8_item 45 = .ok (.getfield 127, 3) := by decide +kernel
theorem dX8_item_48 : decode cX8_item 48 = .ok (.ifCond .eq 7, 3) := by decide +kernel
theorem dX8_item_51 : decode cX8_item 51 = .ok (.iconst 0, 1) := by decide +kernel
theorem dX8_item_52 : decode cX8_item 52 = .ok (.goto 10, 3) := by decide +kernel
theorem dX8_item_55 : decode cX8_item 55 = .ok (.aload_n 0, 1) := by decide +kernel
theorem dX8_item_56 : decode cX8_item 56 = .ok (.iconst 0, 1) := by decide +kernel
theorem dX8_item_57 : decode cX8_item 57 = .ok (.bipush 80, 2) := by decide +kernel
theorem dX8_item_59 : decode cX8_item 59 = .ok (.invokevirtual 131, 3) := by decide +kernel
theorem dX8_item_62 : decode cX8_item 62 = .ok (.istore_n 2, 1) := by decide +kernel
theorem dX8_item_63 : decode cX8_item 63 = .ok (.aload_n 0, 1) := by decide +kernel
theorem dX8_item_64 : decode cX8_item 64 = .ok (.iconst 0, 1) := by decide +kernel
theorem dX8_item_65 : decode cX8_item 65 = .ok (.bipush 8, 2) := by decide +kernel
theorem dX8_item_67 : decode cX8_item 67 = .ok (.invokevirtual 135, 3) := by decide +kernel
theorem dX8_item_70 : decode cX8_item 70 = .ok (.istore_n 3, 1) := by decide +kernel
theorem dX8_item_71 : decode cX8_item 71 = .ok (.aload_n 0, 1) := by decide +kernel
theorem dX8_item_72 : decode cX8_item 72 = .ok (.getfield 127, 3) := by decide +kernel
theorem dX8_item_75 : decode cX8_item 75 = .ok (.ifCond .ne 9, 3) := by decide +kernel
theorem dX8_item_78 : decode cX8_item 78 = .ok (.aload_n 0, 1) := by decide +kernel
theorem dX8_item_79 : decode cX8_item 79 = .ok (.iload_n 2, 1) := by decide +kernel
theorem dX8_item_80 : decode cX8_item 80 = .ok (.iload_n 3, 1) := by decide +kernel
theorem dX8_item_81 : decode cX8_item 81 = .ok (.invokevirtual 68, 3) := by decide +kernel
theorem dX8_item_84 : decode cX8_item 84 = .ok (.goto 162, 3) := by decide +kernel
theorem dX8_item_87 : decode cX8_item 87 = .ok (.iload_n 1, 1) := by decide +kernel
theorem dX8_item_88 : decode cX8_item 88 = .ok (.bipush 114, 2) := by decide +kernel
theorem dX8_item_90 : decode cX8_item 90 = .ok (.if_icmp .ne 75, 3) := by decide +kernel
theorem dX8_item_93 : decode cX8_item 93 = .ok (.aload_n 0, 1) := by decide +kernel
theorem dX8_item_94 : decode cX8_item 94 = .ok (.iconst 0, 1) := by decide +kernel
theorem dX8_item_95 : decode cX8_item 95 = .ok (.aload_n 0, 1) := by decide +kernel
theorem dX8_item_96 : decode cX8_item 96 = .ok (.getfield 86, 3) := by decide +kernel
theorem dX8_item_99 : decode cX8_item 99 = .ok (.iconst 1, 1) := by decide +kernel
theorem dX8_item_100 : decode cX8_item 100 = .ok (.isub, 1) := by decide +kernel
theorem dX8_item_101 : decode cX8_item 101 = .ok (.invokevirtual 131, 3) := by decide +kernel
theorem dX8_item_104 : decode cX8_item 104 = .ok (.istore_n 2, 1) := by decide +kernel
theorem dX8_item_105 : decode cX8_item 105 = .ok (.aload_n 0, 1) := by decide +kernel
theorem dX8_item_106 : decode cX8_item 106 = .ok (.iconst 0, 1) := by decide +kernel
theorem dX8_item_107 : decode cX8_item 107 = .ok (.aload_n 0, 1) := by decide +kernel
theorem dX8_item_108 : decode cX8_item 108 = .ok (.getfield 86, 3) := by decide +kernel
theorem dX8_item_111 : decode cX8_item 111 = .ok (.iconst 1, 1) := by decide +kernel
theorem dX8_item_112 : decode cX8_item 112 = .ok (.isub, 1) := by decide +kernel
theorem dX8_item_113 : decode cX8_item 113 = .ok (.invokevirtual 135, 3) := by decide +kernel
theorem dX8_item_116 : decode cX8_item 116 = .ok (.istore_n 3, 1) := by decide +kernel
theorem dX8_item_117 : decode cX8_item 117 = .ok (.aload_n 0, 1) := by decide +kernel
theorem dX8_item_118 : decode cX8_item 118 = .ok (.iconst 0, 1) := by decide +kernel
theorem dX8_item_119 : decode cX8_item 119 = .ok (.bipush 50, 2) := by decide +kernel
theorem dX8_item_121 : decode cX8_item 121 = .ok (.invokevirtual 135, 3) := by decide +kernel
theorem dX8_item_124 : decode cX8_item 124 = .ok (.istore 4, 2) := by decide +kernel
theorem dX8_item_126 : decode cX8_item 126 = .ok (.aload_n 0, 1) := by decide +kernel
theorem dX8_item_127 : decode cX8_item 127 = .ok (.aload_n 0, 1) := by decide +kernel
theorem dX8_item_128 : decode cX8_item 128 = .ok (.getfield 127, 3) := by decide +kernel
theorem dX8_item_131 : decode cX8_item 131 = .ok (.ifCond .ne 8, 3) := by decide +kernel
theorem dX8_item_134 : decode cX8_item 134 = .ok (.iload_n 2, 1) := by decide +kernel
theorem dX8_item_135 : decode cX8_item 135 = .ok (.iload_n 3, 1) := by decide +kernel
theorem dX8_item_136 : decode cX8_item 136 = .ok (.if_icmp .ne 7, 3) := by decide +kernel
theorem dX8_item_139 : decode cX8_item 139 = .ok (.iconst 1, 1) := by decide +kernel
theorem dX8_item_140 : decode cX8_item 140 = .ok (.goto 4, 3) := by decide +kernel
theorem dX8_item_143 : decode cX8_item 143 = .ok (.iconst 0, 1) := by decide +kernel
theorem dX8_item_144 : decode cX8_item 144 = .ok (.putfield 127, 3) := by decide +kernel
theorem dX8_item_147 : decode cX8_item 147 = .ok (.aload_n 0, 1) := by decide +kernel
theorem dX8_item_148 : decode cX8_item 148 = .ok (.getfield 127, 3) := by decide +kernel
theorem dX8_item_151 : decode cX8_item 151 = .ok (.ifCond .ne 11, 3) := by decide +kernel
theorem dX8_item_154 : decode cX8_item 154 = .ok (.aload_n 0, 1) := by decide +kernel
theorem dX8_item_155 : decode cX8_item 155 = .ok (.iload_n 2, 1) := by decide +kernel
theorem dX8_item_156 : decode cX8_item 156 = .ok (.iload_n 3, 1) := by decide +kernel
theorem dX8_item_157 : decode cX8_item 157 = .ok (.iload 4, 2) := by decide +kernel
theorem dX8_item_159 : decode cX8_item 159 = .ok (.invokevirtual 72, 3) := by decide +kernel
theorem dX8_item_162 : decode cX8_item 162 = .ok (.goto 84, 3) := by decide +kernel
theorem dX8_item_165 : decode cX8_item 165 = .ok (.iload_n 1, 1) := by decide +kernel
theorem dX8_item_166 : decode cX8_item 166 = .ok (.bipush 119, 2) := by decide +kernel
theorem dX8_item_168 : decode cX8_item 168 = .ok (.if_icmp .ne 73, 3) := by decide +kernel
theorem dX8_item_171 : decode cX8_item 171 = .ok (.aload_n 0, 1) := by decide +kernel
theorem dX8_item_172 : decode cX8_item 172 = .ok (.aload_n 0, 1) := by decide +kernel
theorem dX8_item_173 : decode cX8_item 173 = .ok (.getfield 89, 3) := by decide +kernel
theorem dX8_item_176 : decode cX8_item 176 = .ok (.iconst 4, 1) := by decide +kernel
theorem dX8_item_177 : decode cX8_item 177 = .ok (.if_icmp .ne 7, 3) := by decide +kernel
theorem dX8_item_180 : decode cX8_item 180 = .ok (.iconst 1, 1) := by decide +kernel
theorem dX8_item_181 : decode cX8_item 181 = .ok (.goto 4, 3) := by decide +kernel
theorem dX8_item_184 : decode cX8_item 184 = .ok (.iconst 0, 1) := by decide +kernel
theorem dX8_item_185 : decode cX8_item 185 = .ok (.putfield 127, 3) := by decide +kernel
theorem dX8_item_188 : decode cX8_item 188 = .ok (.aload_n 0, 1) := by decide +kernel
theorem dX8_item_189 : decode cX8_item 189 = .ok (.getfield 127, 3) := by decide +kernel
theorem dX8_item_192 : decode cX8_item 192 = .ok (.ifCond .eq 7, 3) := by decide +kernel
theorem dX8_item_195 : decode cX8_item 195 = .ok (.iconst 0, 1) := by decide +kernel
theorem dX8_item_196 : decode cX8_item 196 = .ok (.goto 9, 3) := by decide +kernel
theorem dX8_item_199 : decode cX8_item 199 = .ok (.aload_n 0, 1) := by decide +kernel
theorem dX8_item_200 : decode cX8_item 200 = .ok (.iconst 0, 1) := by decide +kernel
theorem dX8_item_201 : decode cX8_item 201 = .ok (.iconst 3, 1) := by decide +kernel
theorem dX8_item_202 : decode cX8_item 202 = .ok (.invokevirtual 131, 3) := by decide +kernel
theorem dX8_item_205 : decode cX8_item 205 = .ok (.istore_n 2, 1) := by decide +kernel
theorem dX8_item_206 : decode cX8_item 206 = .ok (.aload_n 0, 1) := by decide +kernel
theorem dX8_item_207 : decode cX8_item 207 = .ok (.iconst 1, 1) := by decide +kernel
theorem dX8_item_208 : decode cX8_item 208 = .ok (.bipush 40, 2) := by decide +kernel
theorem dX8_item_210 : decode cX8_item 210 = .ok (.invokevirtual 135, 3) := by decide +kernel
theorem dX8_item_213 : decode cX8_item 213 = .ok (.istore_n 3, 1) := by decide +kernel
theorem dX8_item_214 : decode cX8_item 214 = .ok (.aload_n 0, 1) := by decide +kernel
theorem dX8_item_215 : decode cX8_item 215 = .ok (.iconst 1, 1) := by decide +kernel
theorem dX8_item_216 : decode cX8_item 216 = .ok (.bipush 9, 2) := by decide +kernel
theorem dX8_item_218 : decode cX8_item 218 = .ok (.invokevirtual 135, 3) := by decide +kernel
theorem dX8_item_221 : decode cX8_item 221 = .ok (.istore 4, 2) := by decide +kernel
theorem dX8_item_223 : decode cX8_item 223 = .ok (.aload_n 0, 1) := by decide +kernel
theorem dX8_item_224 : decode cX8_item 224 = .ok (.getfield 127, 3) := by decide +kernel
theorem dX8_item_227 : decode cX8_item 227 = .ok (.ifCond .ne 11, 3) := by decide +kernel
theorem dX8_item_230 : decode cX8_item 230 = .ok (.aload_n 0, 1) := by decide +kernel
theorem dX8_item_231 : decode cX8_item 231 = .ok (.iload_n 2, 1) := by decide +kernel
theorem dX8_item_232 : decode cX8_item 232 = .ok (.iload_n 3, 1) := by decide +kernel
theorem dX8_item_233 : decode cX8_item 233 = .ok (.iload 4, 2) := by decide +kernel
theorem dX8_item_235 : decode cX8_item 235 = .ok (.invokevirtual 76, 3) := by decide +kernel
theorem dX8_item_238 : decode cX8_item 238 = .ok (.goto 8, 3) := by decide +kernel
theorem dX8_item_241 : decode cX8_item 241 = .ok (.aload_n 0, 1) := by decide +kernel
theorem dX8_item_242 : decode cX8_item 242 = .ok (.iconst 1, 1) := by decide +kernel
theorem dX8_item_243 : decode cX8_item 243 = .ok (.putfield 127, 3) := by decide +kernel
theorem dX8_item_246 : decode cX8_item 246 = .ok (.return_, 1) := by decide +kernel
theorem dX8_reads_0 : decode cX8_reads 0 = .ok (.aload_n 0, 1) := by decide +kernel
theorem dX8_reads_1 : decode cX8_reads 1 = .ok (.invokevirtual 65, 3) := by decide +kernel
theorem dX8_reads_4 : decode cX8_reads 4 = .ok (.aload_n 0, 1) := by decide +kernel
theorem dX8_reads_5 : decode cX8_reads 5 = .ok (.iconst 0, 1) := by decide +kernel
theorem dX8_reads_6 : decode cX8_reads 6 = .ok (.putfield 116, 3) := by decide +kernel
theorem dX8_reads_9 : decode cX8_reads 9 = .ok (.aload_n 0, 1) := by decide +kernel
theorem dX8_reads_10 : decode cX8_reads 10 = .ok (.iconst 0, 1) := by decide +kernel
theorem dX8_reads_11 : decode cX8_reads 11 = .ok (.putfield 127, 3) := by decide +kernel
theorem dX8_reads_14 : decode cX8_reads 14 = .ok (.aload_n 0, 1) := by decide +kernel
theorem dX8_reads_15 : decode cX8_reads 15 = .ok (.getfield 116, 3) := by decide +kernel
theorem dX8_reads_18 : decode cX8_reads 18 = .ok (.aload_n 0, 1) := by decide +kernel
theorem dX8_reads_19 : decode cX8_reads 19 = .ok (.getfield 113, 3) := by decide +kernel
theorem dX8_reads_22 : decode cX8_reads 22 = .ok (.if_icmp .ge 76, 3) := by decide +kernel
theorem dX8_reads_25 : decode cX8_reads 25 = .ok (.aload_n 0, 1) := by decide +kernel
theorem dX8_reads_26 : decode cX8_reads 26 = .ok (.getfield 127, 3) := by decide +kernel
theorem dX8_reads_29 : decode cX8_reads 29 = .ok (.ifCond .ne 69, 3) := by decide +kernel
theorem dX8_reads_32 : decode cX8_reads 32 = .ok (.aload_n 0, 1) := by decide +kernel
theorem dX8_reads_33 : decode cX8_reads 33 = .ok (.aload_n 0, 1) := by decide +kernel
theorem dX8_reads_34 : decode cX8_reads 34 = .ok (.getfield 116, 3) := by decide +kernel
theorem dX8_reads_37 : decode cX8_reads 37 = .ok (.putfield 138, 3) := by decide +kernel
theorem dX8_reads_40 : decode cX8_reads 40 = .ok (.aload_n 0, 1) := by decide +kernel
theorem dX8_reads_41 : decode cX8_reads 41 = .ok (.invokevirtual 119, 3) := by decide +kernel
theorem dX8_reads_44 : decode cX8_reads 44 = .ok (.istore_n 1, 1) := by decide +kernel
theorem dX8_reads_45 : decode cX8_reads 45 = .ok (.aload_n 0, 1) := by decide +kernel
theorem dX8_reads_46 : decode cX8_reads 46 = .ok (.dup, 1) := by decide +kernel
theorem dX8_reads_47 : decode cX8_reads 47 = .ok (.getfield 116, 3) := by decide +kernel
theorem dX8_reads_50 : decode cX8_reads 50 = .ok (.iconst 1, 1) := by decide +kernel
theorem dX8_reads_51 : decode cX8_reads 51 = .ok (.iadd, 1) := by decide +kernel
theorem dX8_reads_52 : decode cX8_reads 52 = .ok (.putfield 116, 3) := by decide +kernel
theorem dX8_reads_55 : decode cX8_reads 55 = .ok (.aload_n 0, 1) := by decide +kernel
theorem dX8_reads_56 : decode cX8_reads 56 = .ok (.iload_n 1, 1) := by decide +kernel
theorem dX8_reads_57 : decode cX8_reads 57 = .ok (.invokevirtual 141, 3) := by decide +kernel
theorem dX8_reads_60 : decode cX8_reads 60 = .ok (.aload_n 0, 1) := by decide +kernel
theorem dX8_reads_61 : decode cX8_reads 61 = .ok (.aload_n 0, 1) := by decide +kernel
theorem dX8_reads_62 : decode cX8_reads 62 = .ok (.getfield 127, 3) := by decide +kernel
theorem dX8_reads_65 : decode cX8_reads 65 = .ok (.ifCond .ne 12, 3) := by decide +kernel
theorem dX8_reads_68 : decode cX8_reads 68 = .ok (.aload_n 0, 1) := by decide +kernel
theorem dX8_reads_69 : decode cX8_reads 69 = .ok (.invokevirtual 119, 3) := by decide +kernel
theorem dX8_reads_72 : decode cX8_reads 72 = .ok (.bipush 59, 2) := by decide +kernel
theorem dX8_reads_74 : decode cX8_reads 74 = .ok (.if_icmp .eq 7, 3) := by decide +kernel
theorem dX8_reads_77 : decode cX8_reads 77 = .ok (.iconst 1, 1) := by decide +kernel
theorem dX8_reads_78 : decode cX8_reads 78 = .ok (.goto 4, 3) := by decide +kernel
theorem dX8_reads_81 : decode cX8_reads 81 = .ok (.iconst 0, 1) := by decide +kernel
theorem dX8_reads_82 : decode cX8_reads 82 = .ok (.putfield 127, 3) := by decide +kernel
theorem dX8_reads_85 : decode cX8_reads 85 = .ok (.aload_n 0, 1) := by decide +kernel
theorem dX8_reads_86 : decode cX8_reads 86 = .ok (.dup, 1) := by decide +kernel
theorem dX8_reads_87 : decode cX8_reads 87 = .ok (.getfield 116, 3) := by decide +kernel
theorem dX8_reads_90 : decode cX8_reads 90 = .ok (.iconst 1, 1) := by decide +kernel
theorem dX8_reads_91 : decode cX8_reads 91 = .ok (.iadd, 1) := by decide +kernel
theorem dX8_reads_92 : decode cX8_reads 92 = .ok (.putfield 116, 3) := by decide +kernel
theorem dX8_reads_95 : decode cX8_reads 95 = .ok (.goto (-81), 3) := by decide +kernel
theorem dX8_reads_98 : decode cX8_reads 98 = .ok (.aload_n 0, 1) := by decide +kernel
theorem dX8_reads_99 : decode cX8_reads 99 = .ok (.getfield 127, 3) := by decide +kernel
theorem dX8_reads_102 : decode cX8_reads 102 = .ok (.ifCond .ne 7, 3) := by decide +kernel
theorem dX8_reads_105 : decode cX8_reads 105 = .ok (.iconst 1, 1) := by decide +kernel
theorem dX8_reads_106 : decode cX8_reads 106 = .ok (.goto 4, 3) := by decide +kernel
theorem dX8_reads_109 : decode cX8_reads 109 = .ok (.iconst 0, 1) := by decide +kernel
theorem dX8_reads_110 : decode cX8_reads 110 = .ok (.ireturn, 1) := by decide +kernel
theorem dX8_fault_0 : decode cX8_fault 0 = .ok (.aload_n 0, 1) := by decide +kernel
theorem dX8_fault_1 : decode cX8_fault 1 = .ok (.invokevirtual 145, 3) := by decide +kernel
theorem dX8_fault_4 : decode cX8_fault 4 = .ok (.ifCond .eq 8, 3) := by decide +kernel
theorem dX8_fault_7 : decode cX8_fault 7 = .ok (.bipush (-4), 2) := by decide +kernel
theorem dX8_fault_9 : decode cX8_fault 9 = .ok (.goto 7, 3) := by decide +kernel
theorem dX8_fault_12 : decode cX8_fault 12 = .ok (.aload_n 0, 1) := by decide +kernel
theorem dX8_fault_13 : decode cX8_fault 13 = .ok (.getfield 138, 3) := by decide +kernel
theorem dX8_fault_16 : decode cX8_fault 16 = .ok (.ireturn, 1) := by decide +kernel
theorem dX8_lay_0 : decode cX8_lay 0 = .ok (.aload_n 0, 1) := by decide +kernel
theorem dX8_lay_1 : decode cX8_lay 1 = .ok (.invokevirtual 145, 3) := by decide +kernel
theorem dX8_lay_4 : decode cX8_lay 4 = .ok (.ifCond .eq 18, 3) := by decide +kernel
theorem dX8_lay_7 : decode cX8_lay 7 = .ok (.aload_n 0, 1) := by decide +kernel
theorem dX8_lay_8 : decode cX8_lay 8 = .ok (.getfield 86, 3) := by decide +kernel
theorem dX8_lay_11 : decode cX8_lay 11 = .ok (.iconst 2, 1) := by decide +kernel
theorem dX8_lay_12 : decode cX8_lay 12 = .ok (.if_icmp .lt 10, 3) := by decide +kernel
theorem dX8_lay_15 : decode cX8_lay 15 = .ok (.aload_n 0, 1) := by decide +kernel
theorem dX8_lay_16 : decode cX8_lay 16 = .ok (.getfield 89, 3) := by decide +kernel
theorem dX8_lay_19 : decode cX8_lay 19 = .ok (.ifCond .ne 6, 3) := by decide +kernel
theorem dX8_lay_22 : decode cX8_lay 22 = .ok (.bipush (-2), 2) := by decide +kernel
theorem dX8_lay_24 : decode cX8_lay 24 = .ok (.ireturn, 1) := by decide +kernel
theorem dX8_lay_25 : decode cX8_lay 25 = .ok (.aload_n 0, 1) := by decide +kernel
theorem dX8_lay_26 : decode cX8_lay 26 = .ok (.invokevirtual 79, 3) := by decide +kernel
theorem dX8_lay_29 : decode cX8_lay 29 = .ok (.aload_n 0, 1) := by decide +kernel
theorem dX8_lay_30 : decode cX8_lay 30 = .ok (.getfield 46, 3) := by decide +kernel
theorem dX8_lay_33 : decode cX8_lay 33 = .ok (.bipush 36, 2) := by decide +kernel
theorem dX8_lay_35 : decode cX8_lay 35 = .ok (.iconst 0, 1) := by decide +kernel
theorem dX8_lay_36 : decode cX8_lay 36 = .ok (.iastore, 1) := by decide +kernel
theorem dX8_lay_37 : decode cX8_lay 37 = .ok (.aload_n 0, 1) := by decide +kernel
theorem dX8_lay_38 : decode cX8_lay 38 = .ok (.getfield 46, 3) := by decide +kernel
theorem dX8_lay_41 : decode cX8_lay 41 = .ok (.bipush 37, 2) := by decide +kernel
theorem dX8_lay_43 : decode cX8_lay 43 = .ok (.iconst 0, 1) := by decide +kernel
theorem dX8_lay_44 : decode cX8_lay 44 = .ok (.iastore, 1) := by decide +kernel
theorem dX8_lay_45 : decode cX8_lay 45 = .ok (.aload_n 0, 1) := by decide +kernel
theorem dX8_lay_46 : decode cX8_lay 46 = .ok (.iconst 0, 1) := by decide +kernel
theorem dX8_lay_47 : decode cX8_lay 47 = .ok (.putfield 149, 3) := by decide +kernel
theorem dX8_lay_50 : decode cX8_lay 50 = .ok (.aload_n 0, 1) := by decide +kernel
theorem dX8_lay_51 : decode cX8_lay 51 = .ok (.iconst 0, 1) := by decide +kernel
theorem dX8_lay_52 : decode cX8_lay 52 = .ok (.putfield 152, 3) := by decide +kernel
theorem dX8_lay_55 : decode cX8_lay 55 = .ok (.aload_n 0, 1) := by decide +kernel
theorem dX8_lay_56 : decode cX8_lay 56 = .ok (.iconst 0, 1) := by decide +kernel
theorem dX8_lay_57 : decode cX8_lay 57 = .ok (.putfield 155, 3) := by decide +kernel
theorem dX8_lay_60 : decode cX8_lay 60 = .ok (.aload_n 0, 1) := by decide +kernel
theorem dX8_lay_61 : decode cX8_lay 61 = .ok (.getfield 95, 3) := by decide +kernel
theorem dX8_lay_64 : decode cX8_lay 64 = .ok (.ireturn, 1) := by decide +kernel
theorem dX8_shadow_0 : decode cX8_shadow 0 = .ok (.iconst 0, 1) := by decide +kernel
theorem dX8_shadow_1 : decode cX8_shadow 1 = .ok (.aload_n 0, 1) := by decide +kernel
theorem dX8_shadow_2 : decode cX8_shadow 2 = .ok (.getfield 7, 3) := by decide +kernel
theorem dX8_shadow_5 : decode cX8_shadow 5 = .ok (.iload_n 1, 1) := by decide +kernel
theorem dX8_shadow_6 : decode cX8_shadow 6 = .ok (.iaload, 1) := by decide +kernel
theorem dX8_shadow_7 : decode cX8_shadow 7 = .ok (.aload_n 0, 1) := by decide +kernel
theorem dX8_shadow_8 : decode cX8_shadow 8 = .ok (.getfield 13, 3) := by decide +kernel
theorem dX8_shadow_11 : decode cX8_shadow 11 = .ok (.iload_n 1, 1) := by decide +kernel
theorem dX8_shadow_12 : decode cX8_shadow 12 = .ok (.iaload, 1) := by decide +kernel
theorem dX8_shadow_13 : decode cX8_shadow 13 = .ok (.iadd, 1) := by decide +kernel
theorem dX8_shadow_14 : decode cX8_shadow 14 = .ok (.invokestatic 158, 3) := by decide +kernel
theorem dX8_shadow_17 : decode cX8_shadow 17 = .ok (.ireturn, 1) := by decide +kernel
theorem dX8_straight_0 : decode cX8_straight 0 = .ok (.aload_n 0, 1) := by decide +kernel
theorem dX8_straight_1 : decode cX8_straight 1 = .ok (.getfield 92, 3) := by decide +kernel
theorem dX8_straight_4 : decode cX8_straight 4 = .ok (.aload_n 0, 1) := by decide +kernel
theorem dX8_straight_5 : decode cX8_straight 5 = .ok (.getfield 7, 3) := by decide +kernel
theorem dX8_straight_8 : decode cX8_straight 8 = .ok (.iload_n 1, 1) := by decide +kernel
theorem dX8_straight_9 : decode cX8_straight 9 = .ok (.iaload, 1) := by decide +kernel
theorem dX8_straight_10 : decode cX8_straight 10 = .ok (.aload_n 0, 1) := by decide +kernel
theorem dX8_straight_11 : decode cX8_straight 11 = .ok (.getfield 7, 3) := by decide +kernel
theorem dX8_straight_14 : decode cX8_straight 14 = .ok (.iload_n 2, 1) := by decide +kernel
theorem dX8_straight_15 : decode cX8_straight 15 = .ok (.iaload, 1) := by decide +kernel
theorem dX8_straight_16 : decode cX8_straight 16 = .ok (.invokestatic 161, 3) := by decide +kernel
theorem dX8_straight_19 : decode cX8_straight 19 = .ok (.imul, 1) := by decide +kernel
theorem dX8_straight_20 : decode cX8_straight 20 = .ok (.sipush 360, 3) := by decide +kernel
theorem dX8_straight_23 : decode cX8_straight 23 = .ok (.idiv, 1) := by decide +kernel
theorem dX8_straight_24 : decode cX8_straight 24 = .ok (.ireturn, 1) := by decide +kernel
theorem dX8_road_0 : decode cX8_road 0 = .ok (.aload_n 0, 1) := by decide +kernel
theorem dX8_road_1 : decode cX8_road 1 = .ok (.iload_n 1, 1) := by decide +kernel
theorem dX8_road_2 : decode cX8_road 2 = .ok (.iload_n 2, 1) := by decide +kernel
theorem dX8_road_3 : decode cX8_road 3 = .ok (.invokevirtual 164, 3) := by decide +kernel
theorem dX8_road_6 : decode cX8_road 6 = .ok (.bipush 100, 2) := by decide +kernel
theorem dX8_road_8 : decode cX8_road 8 = .ok (.aload_n 0, 1) := by decide +kernel
theorem dX8_road_9 : decode cX8_road 9 = .ok (.getfield 16, 3) := by decide +kernel
theorem dX8_road_12 : decode cX8_road 12 = .ok (.bipush 6, 2) := by decide +kernel
theorem dX8_road_14 : decode cX8_road 14 = .ok (.iload_n 1, 1) := by decide +kernel
theorem dX8_road_15 : decode cX8_road 15 = .ok (.imul, 1) := by decide +kernel
theorem dX8_road_16 : decode cX8_road 16 = .ok (.iload_n 2, 1) := by decide +kernel
theorem dX8_road_17 : decode cX8_road 17 = .ok (.iadd, 1) := by decide +kernel
theorem dX8_road_18 : decode cX8_road 18 = .ok (.iaload, 1) := by decide +kernel
theorem dX8_road_19 : decode cX8_road 19 = .ok (.iadd, 1) := by decide +kernel
theorem dX8_road_20 : decode cX8_road 20 = .ok (.imul, 1) := by decide +kernel
theorem dX8_road_21 : decode cX8_road 21 = .ok (.bipush 100, 2) := by decide +kernel
theorem dX8_road_23 : decode cX8_road 23 = .ok (.idiv, 1) := by decide +kernel
theorem dX8_road_24 : decode cX8_road 24 = .ok (.ireturn, 1) := by decide +kernel
theorem dX8_degrees_0 : decode cX8_degrees 0 = .ok (.aload_n 0, 1) := by decide +kernel
theorem dX8_degrees_1 : decode cX8_degrees 1 = .ok (.iload_n 1, 1) := by decide +kernel
theorem dX8_degrees_2 : decode cX8_degrees 2 = .ok (.invokevirtual 167, 3) := by decide +kernel
theorem dX8_degrees_5 : decode cX8_degrees 5 = .ok (.aload_n 0, 1) := by decide +kernel
theorem dX8_degrees_6 : decode cX8_degrees 6 = .ok (.iload_n 2, 1) := by decide +kernel
theorem dX8_degrees_7 : decode cX8_degrees 7 = .ok (.invokevirtual 167, 3) := by decide +kernel
theorem dX8_degrees_10 : decode cX8_degrees 10 = .ok (.invokestatic 161, 3) := by decide +kernel
theorem dX8_degrees_13 : decode cX8_degrees 13 = .ok (.ireturn, 1) := by decide +kernel
theorem dX8_town_0 : decode cX8_town 0 = .ok (.aload_n 0, 1) := by decide +kernel
theorem dX8_town_1 : decode cX8_town 1 = .ok (.iload_n 1, 1) := by decide +kernel
theorem dX8_town_2 : decode cX8_town 2 = .ok (.invokevirtual 105, 3) := by decide +kernel
theorem dX8_town_5 : decode cX8_town 5 = .ok (.ifCond .eq 13, 3) := by decide +kernel
theorem dX8_town_8 : decode cX8_town 8 = .ok (.iload_n 2, 1) := by decide +kernel
theorem dX8_town_9 : decode cX8_town 9 = .ok (.i2l, 1) := by decide +kernel
theorem dX8_town_10 : decode cX8_town 10 = .ok (.lconst 0, 1) := by decide +kernel
theorem dX8_town_11 : decode cX8_town 11 = .ok (.lconst 1, 1) := by decide +kernel
theorem dX8_town_12 : decode cX8_town 12 = .ok (.invokestatic 101, 3) := by decide +kernel
theorem dX8_town_15 : decode cX8_town 15 = .ok (.ifCond .ne 5, 3) := by decide +kernel
theorem dX8_town_18 : decode cX8_town 18 = .ok (.iconst (-1), 1) := by decide +kernel
theorem dX8_town_19 : decode cX8_town 19 = .ok (.ireturn, 1) := by decide +kernel
theorem dX8_town_20 : decode cX8_town 20 = .ok (.iload_n 2, 1) := by decide +kernel
theorem dX8_town_21 : decode cX8_town 21 = .ok (.ifCond .ne 12, 3) := by decide +kernel
theorem dX8_town_24 : decode cX8_town 24 = .ok (.aload_n 0, 1) := by decide +kernel
theorem dX8_town_25 : decode cX8_town 25 = .ok (.getfield 7, 3) := by decide +kernel
theorem dX8_town_28 : decode cX8_town 28 = .ok (.iload_n 1, 1) := by decide +kernel
theorem dX8_town_29 : decode cX8_town 29 = .ok (.iaload, 1) := by decide +kernel
theorem dX8_town_30 : decode cX8_town 30 = .ok (.goto 8, 3) := by decide +kernel
theorem dX8_town_33 : decode cX8_town 33 = .ok (.aload_n 0, 1) := by decide +kernel
theorem dX8_town_34 : decode cX8_town 34 = .ok (.iload_n 1, 1) := by decide +kernel
theorem dX8_town_35 : decode cX8_town 35 = .ok (.invokevirtual 167, 3) := by decide +kernel
theorem dX8_town_38 : decode cX8_town 38 = .ok (.ireturn, 1) := by decide +kernel
theorem dX8_between_0 : decode cX8_between 0 = .ok (.aload_n 0, 1) := by decide +kernel
theorem dX8_between_1 : decode cX8_between 1 = .ok (.iload_n 1, 1) := by decide +kernel
theorem dX8_between_2 : decode cX8_between 2 = .ok (.iload_n 2, 1) := by decide +kernel
theorem dX8_between_3 : decode cX8_between 3 = .ok (.invokevirtual 171, 3) := by decide +kernel
theorem dX8_between_6 : decode cX8_between 6 = .ok (.ifCond .eq 15, 3) := by decide +kernel
theorem dX8_between_9 : decode cX8_between 9 = .ok (.iload_n 3, 1) := by decide +kernel
theorem dX8_between_10 : decode cX8_between 10 = .ok (.i2l, 1) := by decide +kernel
theorem dX8_between_11 : decode cX8_between 11 = .ok (.lconst 0, 1) := by decide +kernel
theorem dX8_between_12 : decode cX8_between 12 = .ok (.ldc2_w 175, 3) := by decide +kernel
theorem dX8_between_15 : decode cX8_between 15 = .ok (.invokestatic 101, 3) := by decide +kernel
theorem dX8_between_18 : decode cX8_between 18 = .ok (.ifCond .ne 5, 3) := by decide +kernel
theorem dX8_between_21 : decode cX8_between 21 = .ok (.iconst (-1), 1) := by decide +kernel
theorem dX8_between_22 : decode cX8_between 22 = .ok (.ireturn, 1) := by decide +kernel
theorem dX8_between_23 : decode cX8_between 23 = .ok (.iload_n 3, 1) := by decide +kernel
theorem dX8_between_24 : decode cX8_between 24 = .ok (.ifCond .ne 12, 3) := by decide +kernel
theorem dX8_between_27 : decode cX8_between 27 = .ok (.aload_n 0, 1) := by decide +kernel
theorem dX8_between_28 : decode cX8_between 28 = .ok (.iload_n 1, 1) := by decide +kernel
theorem dX8_between_29 : decode cX8_between 29 = .ok (.iload_n 2, 1) := by decide +kernel
theorem dX8_between_30 : decode cX8_between 30 = .ok (.invokevirtual 164, 3) := by decide +kernel
theorem dX8_between_33 : decode cX8_between 33 = .ok (.goto 23, 3) := by decide +kernel
theorem dX8_between_36 : decode cX8_between 36 = .ok (.iload_n 3, 1) := by decide +kernel
theorem dX8_between_37 : decode cX8_between 37 = .ok (.iconst 1, 1) := by decide +kernel
theorem dX8_between_38 : decode cX8_between 38 = .ok (.if_icmp .ne 12, 3) := by decide +kernel
theorem dX8_between_41 : decode cX8_between 41 = .ok (.aload_n 0, 1) := by decide +kernel
theorem dX8_between_42 : decode cX8_between 42 = .ok (.iload_n 1, 1) := by decide +kernel
theorem dX8_between_43 : decode cX8_between 43 = .ok (.iload_n 2, 1) := by decide +kernel
theorem dX8_between_44 : decode cX8_between 44 = .ok (.invokevirtual 177, 3) := by decide +kernel
theorem dX8_between_47 : decode cX8_between 47 = .ok (.goto 9, 3) := by decide +kernel
theorem dX8_between_50 : decode cX8_between 50 = .ok (.aload_n 0, 1) := by decide +kernel
theorem dX8_between_51 : decode cX8_between 51 = .ok (.iload_n 1, 1) := by decide +kernel
theorem dX8_between_52 : decode cX8_between 52 = .ok (.iload_n 2, 1) := by decide +kernel
theorem dX8_between_53 : decode cX8_between 53 = .ok (.invokevirtual 180, 3) := by decide +kernel
theorem dX8_between_56 : decode cX8_between 56 = .ok (.ireturn, 1) := by decide +kernel
theorem dX8_walker_0 : decode cX8_walker 0 = .ok (.aload_n 0, 1) := by decide +kernel
theorem dX8_walker_1 : decode cX8_walker 1 = .ok (.iload_n 1, 1) := by decide +kernel
theorem dX8_walker_2 : decode cX8_walker 2 = .ok (.invokevirtual 183, 3) := by decide +kernel
theorem dX8_walker_5 : decode cX8_walker 5 = .ok (.ifCond .eq 15, 3) := by decide +kernel
theorem dX8_walker_8 : decode cX8_walker 8 = .ok (.iload_n 2, 1) := by decide +kernel
theorem dX8_walker_9 : decode cX8_walker 9 = .ok (.i2l, 1) := by decide +kernel
theorem dX8_walker_10 : decode cX8_walker 10 = .ok (.lconst 0, 1) := by decide +kernel
theorem dX8_walker_11 : decode cX8_walker 11 = .ok (.ldc2_w 175, 3) := by decide +kernel
theorem dX8_walker_14 : decode cX8_walker 14 = .ok (.invokestatic 101, 3) := by decide +kernel
theorem dX8_walker_17 : decode cX8_walker 17 = .ok (.ifCond .ne 5, 3) := by decide +kernel
theorem dX8_walker_20 : decode cX8_walker 20 = .ok (.iconst (-1), 1) := by decide +kernel
theorem dX8_walker_21 : decode cX8_walker 21 = .ok (.ireturn, 1) := by decide +kernel
theorem dX8_walker_22 : decode cX8_walker 22 = .ok (.iload_n 2, 1) := by decide +kernel
theorem dX8_walker_23 : decode cX8_walker 23 = .ok (.ifCond .ne 12, 3) := by decide +kernel
theorem dX8_walker_26 : decode cX8_walker 26 = .ok (.aload_n 0, 1) := by decide +kernel
theorem dX8_walker_27 : decode cX8_walker 27 = .ok (.getfield 19, 3) := by decide +kernel
theorem dX8_walker_30 : decode cX8_walker 30 = .ok (.iload_n 1, 1) := by decide +kernel
theorem dX8_walker_31 : decode cX8_walker 31 = .ok (.iaload, 1) := by decide +kernel
theorem dX8_walker_32 : decode cX8_walker 32 = .ok (.goto 23, 3) := by decide +kernel
theorem dX8_walker_35 : decode cX8_walker 35 = .ok (.iload_n 2, 1) := by decide +kernel
theorem dX8_walker_36 : decode cX8_walker 36 = .ok (.iconst 1, 1) := by decide +kernel
theorem dX8_walker_37 : decode cX8_walker 37 = .ok (.if_icmp .ne 12, 3) := by decide +kernel
theorem dX8_walker_40 : decode cX8_walker 40 = .ok (.aload_n 0, 1) := by decide +kernel
theorem dX8_walker_41 : decode cX8_walker 41 = .ok (.getfield 22, 3) := by decide +kernel
theorem dX8_walker_44 : decode cX8_walker 44 = .ok (.iload_n 1, 1) := by decide +kernel
theorem dX8_walker_45 : decode cX8_walker 45 = .ok (.iaload, 1) := by decide +kernel
theorem dX8_walker_46 : decode cX8_walker 46 = .ok (.goto 9, 3) := by decide +kernel
theorem dX8_walker_49 : decode cX8_walker 49 = .ok (.aload_n 0, 1) := by decide +kernel
theorem dX8_walker_50 : decode cX8_walker 50 = .ok (.getfield 25, 3) := by decide +kernel
theorem dX8_walker_53 : decode cX8_walker 53 = .ok (.iload_n 1, 1) := by decide +kernel
theorem dX8_walker_54 : decode cX8_walker 54 = .ok (.iaload, 1) := by decide +kernel
theorem dX8_walker_55 : decode cX8_walker 55 = .ok (.ireturn, 1) := by decide +kernel
theorem dX8_tells_0 : decode cX8_tells 0 = .ok (.iload_n 1, 1) := by decide +kernel
theorem dX8_tells_1 : decode cX8_tells 1 = .ok (.bipush 10, 2) := by decide +kernel
theorem dX8_tells_3 : decode cX8_tells 3 = .ok (.imul, 1) := by decide +kernel
theorem dX8_tells_4 : decode cX8_tells 4 = .ok (.iload_n 2, 1) := by decide +kernel
theorem dX8_tells_5 : decode cX8_tells 5 = .ok (.idiv, 1) := by decide +kernel
theorem dX8_tells_6 : decode cX8_tells 6 = .ok (.istore_n 3, 1) := by decide +kernel
theorem dX8_tells_7 : decode cX8_tells 7 = .ok (.iload_n 0, 1) := by decide +kernel
theorem dX8_tells_8 : decode cX8_tells 8 = .ok (.iconst 1, 1) := by decide +kernel
theorem dX8_tells_9 : decode cX8_tells 9 = .ok (.if_icmp .ne 15, 3) := by decide +kernel
theorem dX8_tells_12 : decode cX8_tells 12 = .ok (.iload_n 3, 1) := by decide +kernel
theorem dX8_tells_13 : decode cX8_tells 13 = .ok (.iconst 5, 1) := by decide +kernel
theorem dX8_tells_14 : decode cX8_tells 14 = .ok (.iadd, 1) := by decide +kernel
theorem dX8_tells_15 : decode cX8_tells 15 = .ok (.bipush 10, 2) := by decide +kernel
theorem dX8_tells_17 : decode cX8_tells 17 = .ok (.idiv, 1) := by decide +kernel
theorem dX8_tells_18 : decode cX8_tells 18 = .ok (.bipush 10, 2) := by decide +kernel
theorem dX8_tells_20 : decode cX8_tells 20 = .ok (.imul, 1) := by decide +kernel
theorem dX8_tells_21 : decode cX8_tells 21 = .ok (.goto 19, 3) := by decide +kernel
theorem dX8_tells_24 : decode cX8_tells 24 = .ok (.iload_n 0, 1) := by decide +kernel
theorem dX8_tells_25 : decode cX8_tells 25 = .ok (.iconst 2, 1) := by decide +kernel
theorem dX8_tells_26 : decode cX8_tells 26 = .ok (.if_icmp .ne 13, 3) := by decide +kernel
theorem dX8_tells_29 : decode cX8_tells 29 = .ok (.iload_n 3, 1) := by decide +kernel
theorem dX8_tells_30 : decode cX8_tells 30 = .ok (.bipush 9, 2) := by decide +kernel
theorem dX8_tells_32 : decode cX8_tells 32 = .ok (.imul, 1) := by decide +kernel
theorem dX8_tells_33 : decode cX8_tells 33 = .ok (.bipush 10, 2) := by decide +kernel
theorem dX8_tells_35 : decode cX8_tells 35 = .ok (.idiv, 1) := by decide +kernel
theorem dX8_tells_36 : decode cX8_tells 36 = .ok (.goto 4, 3) := by decide +kernel
theorem dX8_tells_39 : decode cX8_tells 39 = .ok (.iload_n 3, 1) := by decide +kernel
theorem dX8_tells_40 : decode cX8_tells 40 = .ok (.ireturn, 1) := by decide +kernel
theorem dX8_copied_0 : decode cX8_copied 0 = .ok (.bipush (-4), 2) := by decide +kernel
theorem dX8_copied_2 : decode cX8_copied 2 = .ok (.istore 5, 2) := by decide +kernel
theorem dX8_copied_4 : decode cX8_copied 4 = .ok (.iconst 0, 1) := by decide +kernel
theorem dX8_copied_5 : decode cX8_copied 5 = .ok (.istore 6, 2) := by decide +kernel
theorem dX8_copied_7 : decode cX8_copied 7 = .ok (.iload 6, 2) := by decide +kernel
theorem dX8_copied_9 : decode cX8_copied 9 = .ok (.aload_n 0, 1) := by decide +kernel
theorem dX8_copied_10 : decode cX8_copied 10 = .ok (.getfield 46, 3) := by decide +kernel
theorem dX8_copied_13 : decode cX8_copied 13 = .ok (.iload_n 1, 1) := by decide +kernel
theorem dX8_copied_14 : decode cX8_copied 14 = .ok (.bipush 36, 2) := by decide +kernel
theorem dX8_copied_16 : decode cX8_copied 16 = .ok (.iadd, 1) := by decide +kernel
theorem dX8_copied_17 : decode cX8_copied 17 = .ok (.iaload, 1) := by decide +kernel
theorem dX8_copied_18 : decode cX8_copied 18 = .ok (.if_icmp .ge 112, 3) := by decide +kernel
theorem dX8_copied_21 : decode cX8_copied 21 = .ok (.aload_n 0, 1) := by decide +kernel
theorem dX8_copied_22 : decode cX8_copied 22 = .ok (.getfield 46, 3) := by decide +kernel
theorem dX8_copied_25 : decode cX8_copied 25 = .ok (.iload_n 1, 1) := by decide +kernel
theorem dX8_copied_26 : decode cX8_copied 26 = .ok (.iconst 4, 1) := by decide +kernel
theorem dX8_copied_27 : decode cX8_copied 27 = .ok (.iload 6, 2) := by decide +kernel
theorem dX8_copied_29 : decode cX8_copied 29 = .ok (.imul, 1) := by decide +kernel
theorem dX8_copied_30 : decode cX8_copied 30 = .ok (.iadd, 1) := by decide +kernel
theorem dX8_copied_31 : decode cX8_copied 31 = .ok (.iconst 1, 1) := by decide +kernel
theorem dX8_copied_32 : decode cX8_copied 32 = .ok (.iadd, 1) := by decide +kernel
theorem dX8_copied_33 : decode cX8_copied 33 = .ok (.iaload, 1) := by decide +kernel
theorem dX8_copied_34 : decode cX8_copied 34 = .ok (.istore 7, 2) := by decide +kernel
theorem dX8_copied_36 : decode cX8_copied 36 = .ok (.aload_n 0, 1) := by decide +kernel
theorem dX8_copied_37 : decode cX8_copied 37 = .ok (.getfield 46, 3) := by decide +kernel
theorem dX8_copied_40 : decode cX8_copied 40 = .ok (.iload_n 1, 1) := by decide +kernel
theorem dX8_copied_41 : decode cX8_copied 41 = .ok (.iconst 4, 1) := by decide +kernel
theorem dX8_copied_42 : decode cX8_copied 42 = .ok (.iload 6, 2) := by decide +kernel
theorem dX8_copied_44 : decode cX8_copied 44 = .ok (.imul, 1) := by decide +kernel
theorem dX8_copied_45 : decode cX8_copied 45 = .ok (.iadd, 1) := by decide +kernel
theorem dX8_copied_46 : decode cX8_copied 46 = .ok (.iconst 2, 1) := by decide +kernel
theorem dX8_copied_47 : decode cX8_copied 47 = .ok (.iadd, 1) := by decide +kernel
theorem dX8_copied_48 : decode cX8_copied 48 = .ok (.iaload, 1) := by decide +kernel
theorem dX8_copied_49 : decode cX8_copied 49 = .ok (.istore 8, 2) := by decide +kernel
theorem dX8_copied_51 : decode cX8_copied 51 = .ok (.aload_n 0, 1) := by decide +kernel
theorem dX8_copied_52 : decode cX8_copied 52 = .ok (.getfield 46, 3) := by decide +kernel
theorem dX8_copied_55 : decode cX8_copied 55 = .ok (.iload_n 1, 1) := by decide +kernel
theorem dX8_copied_56 : decode cX8_copied 56 = .ok (.iconst 4, 1) := by decide +kernel
theorem dX8_copied_57 : decode cX8_copied 57 = .ok (.iload 6, 2) := by decide +kernel
theorem dX8_copied_59 : decode cX8_copied 59 = .ok (.imul, 1) := by decide +kernel
theorem dX8_copied_60 : decode cX8_copied 60 = .ok (.iadd, 1) := by decide +kernel
theorem dX8_copied_61 : decode cX8_copied 61 = .ok (.iaload, 1) := by decide +kernel
theorem dX8_copied_62 : decode cX8_copied 62 = .ok (.iload_n 2, 1) := by decide +kernel
theorem dX8_copied_63 : decode cX8_copied 63 = .ok (.if_icmp .eq 33, 3) := by decide +kernel
theorem dX8_copied_66 : decode cX8_copied 66 = .ok (.iload 7, 2) := by decide +kernel
theorem dX8_copied_68 : decode cX8_copied 68 = .ok (.iload_n 3, 1) := by decide +kernel
theorem dX8_copied_69 : decode cX8_copied 69 = .ok (.if_icmp .ne 10, 3) := by decide +kernel
theorem dX8_copied_72 : decode cX8_copied 72 = .ok (.iload 8, 2) := by decide +kernel
theorem dX8_copied_74 : decode cX8_copied 74 = .ok (.iload 4, 2) := by decide +kernel
theorem dX8_copied_76 : decode cX8_copied 76 = .ok (.if_icmp .eq 16, 3) := by decide +kernel
theorem dX8_copied_79 : decode cX8_copied 79 = .ok (.iload 7, 2) := by decide +kernel
theorem dX8_copied_81 : decode cX8_copied 81 = .ok (.iload 4, 2) := by decide +kernel
theorem dX8_copied_83 : decode cX8_copied 83 = .ok (.if_icmp .ne 13, 3) := by decide +kernel
theorem dX8_copied_86 : decode cX8_copied 86 = .ok (.iload 8, 2) := by decide +kernel
theorem dX8_copied_88 : decode cX8_copied 88 = .ok (.iload_n 3, 1) := by decide +kernel
theorem dX8_copied_89 : decode cX8_copied 89 = .ok (.if_icmp .ne 7, 3) := by decide +kernel
theorem dX8_copied_92 : decode cX8_copied 92 = .ok (.iconst 1, 1) := by decide +kernel
theorem dX8_copied_93 : decode cX8_copied 93 = .ok (.goto 4, 3) := by decide +kernel
theorem dX8_copied_96 : decode cX8_copied 96 = .ok (.iconst 0, 1) := by decide +kernel
theorem dX8_copied_97 : decode cX8_copied 97 = .ok (.istore 9, 2) := by decide +kernel
theorem dX8_copied_99 : decode cX8_copied 99 = .ok (.iload 9, 2) := by decide +kernel
theorem dX8_copied_101 : decode cX8_copied 101 = .ok (.ifCond .eq 19, 3) := by decide +kernel
theorem dX8_copied_104 : decode cX8_copied 104 = .ok (.aload_n 0, 1) := by decide +kernel
theorem dX8_copied_105 : decode cX8_copied 105 = .ok (.getfield 46, 3) := by decide +kernel
theorem dX8_copied_108 : decode cX8_copied 108 = .ok (.iload_n 1, 1) := by decide +kernel
theorem dX8_copied_109 : decode cX8_copied 109 = .ok (.iconst 4, 1) := by decide +kernel
theorem dX8_copied_110 : decode cX8_copied 110 = .ok (.iload 6, 2) := by decide +kernel
theorem dX8_copied_112 : decode cX8_copied 112 = .ok (.imul, 1) := by decide +kernel
theorem dX8_copied_113 : decode cX8_copied 113 = .ok (.iadd, 1) := by decide +kernel
theorem dX8_copied_114 : decode cX8_copied 114 = .ok (.iconst 3, 1) := by decide +kernel
theorem dX8_copied_115 : decode cX8_copied 115 = .ok (.iadd, 1) := by decide +kernel
theorem dX8_copied_116 : decode cX8_copied 116 = .ok (.iaload, 1) := by decide +kernel
theorem dX8_copied_117 : decode cX8_copied 117 = .ok (.goto 5, 3) := by decide +kernel
theorem dX8_copied_120 : decode cX8_copied 120 = .ok (.iload 5, 2) := by decide +kernel
theorem dX8_copied_122 : decode cX8_copied 122 = .ok (.istore 5, 2) := by decide +kernel
theorem dX8_copied_124 : decode cX8_copied 124 = .ok (.iinc 6 1, 3) := by decide +kernel
theorem dX8_copied_127 : decode cX8_copied 127 = .ok (.goto (-120), 3) := by decide +kernel
theorem dX8_copied_130 : decode cX8_copied 130 = .ok (.iload 5, 2) := by decide +kernel
theorem dX8_copied_132 : decode cX8_copied 132 = .ok (.ireturn, 1) := by decide +kernel
theorem dX8_told_0 : decode cX8_told 0 = .ok (.iload 5, 2) := by decide +kernel
theorem dX8_told_2 : decode cX8_told 2 = .ok (.iconst 3, 1) := by decide +kernel
theorem dX8_told_3 : decode cX8_told 3 = .ok (.if_icmp .ne 15, 3) := by decide +kernel
theorem dX8_told_6 : decode cX8_told 6 = .ok (.aload_n 0, 1) := by decide +kernel
theorem dX8_told_7 : decode cX8_told 7 = .ok (.iload_n 1, 1) := by decide +kernel
theorem dX8_told_8 : decode cX8_told 8 = .ok (.iload_n 2, 1) := by decide +kernel
theorem dX8_told_9 : decode cX8_told 9 = .ok (.iload_n 3, 1) := by decide +kernel
theorem dX8_told_10 : decode cX8_told 10 = .ok (.iload 4, 2) := by decide +kernel
theorem dX8_told_12 : decode cX8_told 12 = .ok (.invokevirtual 186, 3) := by decide +kernel
theorem dX8_told_15 : decode cX8_told 15 = .ok (.goto 5, 3) := by decide +kernel
theorem dX8_told_18 : decode cX8_told 18 = .ok (.bipush (-4), 2) := by decide +kernel
theorem dX8_told_20 : decode cX8_told 20 = .ok (.istore 7, 2) := by decide +kernel
theorem dX8_told_22 : decode cX8_told 22 = .ok (.iload 7, 2) := by decide +kernel
theorem dX8_told_24 : decode cX8_told 24 = .ok (.ifCond .ge 20, 3) := by decide +kernel
theorem dX8_told_27 : decode cX8_told 27 = .ok (.iload 5, 2) := by decide +kernel
theorem dX8_told_29 : decode cX8_told 29 = .ok (.aload_n 0, 1) := by decide +kernel
theorem dX8_told_30 : decode cX8_told 30 = .ok (.iload_n 3, 1) := by decide +kernel
theorem dX8_told_31 : decode cX8_told 31 = .ok (.iload 4, 2) := by decide +kernel
theorem dX8_told_33 : decode cX8_told 33 = .ok (.invokevirtual 177, 3) := by decide +kernel
theorem dX8_told_36 : decode cX8_told 36 = .ok (.iload 6, 2) := by decide +kernel
theorem dX8_told_38 : decode cX8_told 38 = .ok (.invokestatic 190, 3) := by decide +kernel
theorem dX8_told_41 : decode cX8_told 41 = .ok (.goto 5, 3) := by decide +kernel
theorem dX8_told_44 : decode cX8_told 44 = .ok (.iload 7, 2) := by decide +kernel
theorem dX8_told_46 : decode cX8_told 46 = .ok (.ireturn, 1) := by decide +kernel
theorem dX8_toldBy_0 : decode cX8_toldBy 0 = .ok (.aload_n 0, 1) := by decide +kernel
theorem dX8_toldBy_1 : decode cX8_toldBy 1 = .ok (.getfield 46, 3) := by decide +kernel
theorem dX8_toldBy_4 : decode cX8_toldBy 4 = .ok (.iload_n 1, 1) := by decide +kernel
theorem dX8_toldBy_5 : decode cX8_toldBy 5 = .ok (.iconst 4, 1) := by decide +kernel
theorem dX8_toldBy_6 : decode cX8_toldBy 6 = .ok (.iload_n 2, 1) := by decide +kernel
theorem dX8_toldBy_7 : decode cX8_toldBy 7 = .ok (.imul, 1) := by decide +kernel
theorem dX8_toldBy_8 : decode cX8_toldBy 8 = .ok (.iadd, 1) := by decide +kernel
theorem dX8_toldBy_9 : decode cX8_toldBy 9 = .ok (.iconst 3, 1) := by decide +kernel
theorem dX8_toldBy_10 : decode cX8_toldBy 10 = .ok (.iadd, 1) := by decide +kernel
theorem dX8_toldBy_11 : decode cX8_toldBy 11 = .ok (.iaload, 1) := by decide +kernel
theorem dX8_toldBy_12 : decode cX8_toldBy 12 = .ok (.ireturn, 1) := by decide +kernel
theorem dX8_girthOf_0 : decode cX8_girthOf 0 = .ok (.iload_n 3, 1) := by decide +kernel
theorem dX8_girthOf_1 : decode cX8_girthOf 1 = .ok (.iconst 1, 1) := by decide +kernel
theorem dX8_girthOf_2 : decode cX8_girthOf 2 = .ok (.if_icmp .ge 8, 3) := by decide +kernel
theorem dX8_girthOf_5 : decode cX8_girthOf 5 = .ok (.bipush (-4), 2) := by decide +kernel
theorem dX8_girthOf_7 : decode cX8_girthOf 7 = .ok (.goto 11, 3) := by decide +kernel
theorem dX8_girthOf_10 : decode cX8_girthOf 10 = .ok (.iload_n 1, 1) := by decide +kernel
theorem dX8_girthOf_11 : decode cX8_girthOf 11 = .ok (.iload_n 2, 1) := by decide +kernel
theorem dX8_girthOf_12 : decode cX8_girthOf 12 = .ok (.imul, 1) := by decide +kernel
theorem dX8_girthOf_13 : decode cX8_girthOf 13 = .ok (.bipush 36, 2) := by decide +kernel
theorem dX8_girthOf_15 : decode cX8_girthOf 15 = .ok (.imul, 1) := by decide +kernel
theorem dX8_girthOf_16 : decode cX8_girthOf 16 = .ok (.iload_n 3, 1) := by decide +kernel
theorem dX8_girthOf_17 : decode cX8_girthOf 17 = .ok (.idiv, 1) := by decide +kernel
theorem dX8_girthOf_18 : decode cX8_girthOf 18 = .ok (.ireturn, 1) := by decide +kernel
theorem dX8_degreesOf_0 : decode cX8_degreesOf 0 = .ok (.aload_n 0, 1) := by decide +kernel
theorem dX8_degreesOf_1 : decode cX8_degreesOf 1 = .ok (.aload_n 0, 1) := by decide +kernel
theorem dX8_degreesOf_2 : decode cX8_degreesOf 2 = .ok (.getfield 46, 3) := by decide +kernel
theorem dX8_degreesOf_5 : decode cX8_degreesOf 5 = .ok (.iload_n 1, 1) := by decide +kernel
theorem dX8_degreesOf_6 : decode cX8_degreesOf 6 = .ok (.iconst 4, 1) := by decide +kernel
theorem dX8_degreesOf_7 : decode cX8_degreesOf 7 = .ok (.iload_n 2, 1) := by decide +kernel
theorem dX8_degreesOf_8 : decode cX8_degreesOf 8 = .ok (.imul, 1) := by decide +kernel
theorem dX8_degreesOf_9 : decode cX8_degreesOf 9 = .ok (.iadd, 1) := by decide +kernel
theorem dX8_degreesOf_10 : decode cX8_degreesOf 10 = .ok (.iconst 1, 1) := by decide +kernel
theorem dX8_degreesOf_11 : decode cX8_degreesOf 11 = .ok (.iadd, 1) := by decide +kernel
theorem dX8_degreesOf_12 : decode cX8_degreesOf 12 = .ok (.iaload, 1) := by decide +kernel
theorem dX8_degreesOf_13 : decode cX8_degreesOf 13 = .ok (.aload_n 0, 1) := by decide +kernel
theorem dX8_degreesOf_14 : decode cX8_degreesOf 14 = .ok (.getfield 46, 3) := by decide +kernel
theorem dX8_degreesOf_17 : decode cX8_degreesOf 17 = .ok (.iload_n 1, 1) := by decide +kernel
theorem dX8_degreesOf_18 : decode cX8_degreesOf 18 = .ok (.iconst 4, 1) := by decide +kernel
theorem dX8_degreesOf_19 : decode cX8_degreesOf 19 = .ok (.iload_n 2, 1) := by decide +kernel
theorem dX8_degreesOf_20 : decode cX8_degreesOf 20 = .ok (.imul, 1) := by decide +kernel
theorem dX8_degreesOf_21 : decode cX8_degreesOf 21 = .ok (.iadd, 1) := by decide +kernel
theorem dX8_degreesOf_22 : decode cX8_degreesOf 22 = .ok (.iconst 2, 1) := by decide +kernel
theorem dX8_degreesOf_23 : decode cX8_degreesOf 23 = .ok (.iadd, 1) := by decide +kernel
theorem dX8_degreesOf_24 : decode cX8_degreesOf 24 = .ok (.iaload, 1) := by decide +kernel
theorem dX8_degreesOf_25 : decode cX8_degreesOf 25 = .ok (.invokevirtual 180, 3) := by decide +kernel
theorem dX8_degreesOf_28 : decode cX8_degreesOf 28 = .ok (.ireturn, 1) := by decide +kernel
theorem dX8_girthBy_0 : decode cX8_girthBy 0 = .ok (.aload_n 0, 1) := by decide +kernel
theorem dX8_girthBy_1 : decode cX8_girthBy 1 = .ok (.aload_n 0, 1) := by decide +kernel
theorem dX8_girthBy_2 : decode cX8_girthBy 2 = .ok (.iload_n 1, 1) := by decide +kernel
theorem dX8_girthBy_3 : decode cX8_girthBy 3 = .ok (.iload_n 2, 1) := by decide +kernel
theorem dX8_girthBy_4 : decode cX8_girthBy 4 = .ok (.invokevirtual 194, 3) := by decide +kernel
theorem dX8_girthBy_7 : decode cX8_girthBy 7 = .ok (.aload_n 0, 1) := by decide +kernel
theorem dX8_girthBy_8 : decode cX8_girthBy 8 = .ok (.getfield 25, 3) := by decide +kernel
theorem dX8_girthBy_11 : decode cX8_girthBy 11 = .ok (.aload_n 0, 1) := by decide +kernel
theorem dX8_girthBy_12 : decode cX8_girthBy 12 = .ok (.getfield 46, 3) := by decide +kernel
theorem dX8_girthBy_15 : decode cX8_girthBy 15 = .ok (.iload_n 1, 1) := by decide +kernel
theorem dX8_girthBy_16 : decode cX8_girthBy 16 = .ok (.iconst 4, 1) := by decide +kernel
theorem dX8_girthBy_17 : decode cX8_girthBy 17 = .ok (.iload_n 2, 1) := by decide +kernel
theorem dX8_girthBy_18 : decode cX8_girthBy 18 = .ok (.imul, 1) := by decide +kernel
theorem dX8_girthBy_19 : decode cX8_girthBy 19 = .ok (.iadd, 1) := by decide +kernel
theorem dX8_girthBy_20 : decode cX8_girthBy 20 = .ok (.iaload, 1) := by decide +kernel
theorem dX8_girthBy_21 : decode cX8_girthBy 21 = .ok (.iaload, 1) := by decide +kernel
theorem dX8_girthBy_22 : decode cX8_girthBy 22 = .ok (.aload_n 0, 1) := by decide +kernel
theorem dX8_girthBy_23 : decode cX8_girthBy 23 = .ok (.iload_n 1, 1) := by decide +kernel
theorem dX8_girthBy_24 : decode cX8_girthBy 24 = .ok (.iload_n 2, 1) := by decide +kernel
theorem dX8_girthBy_25 : decode cX8_girthBy 25 = .ok (.invokevirtual 197, 3) := by decide +kernel
theorem dX8_girthBy_28 : decode cX8_girthBy 28 = .ok (.invokevirtual 200, 3) := by decide +kernel
theorem dX8_girthBy_31 : decode cX8_girthBy 31 = .ok (.ireturn, 1) := by decide +kernel
theorem dX8_bound_0 : decode cX8_bound 0 = .ok (.aload_n 0, 1) := by decide +kernel
theorem dX8_bound_1 : decode cX8_bound 1 = .ok (.aload_n 0, 1) := by decide +kernel
theorem dX8_bound_2 : decode cX8_bound 2 = .ok (.iload_n 1, 1) := by decide +kernel
theorem dX8_bound_3 : decode cX8_bound 3 = .ok (.iload_n 2, 1) := by decide +kernel
theorem dX8_bound_4 : decode cX8_bound 4 = .ok (.invokevirtual 194, 3) := by decide +kernel
theorem dX8_bound_7 : decode cX8_bound 7 = .ok (.aload_n 0, 1) := by decide +kernel
theorem dX8_bound_8 : decode cX8_bound 8 = .ok (.getfield 25, 3) := by decide +kernel
theorem dX8_bound_11 : decode cX8_bound 11 = .ok (.aload_n 0, 1) := by decide +kernel
theorem dX8_bound_12 : decode cX8_bound 12 = .ok (.getfield 46, 3) := by decide +kernel
theorem dX8_bound_15 : decode cX8_bound 15 = .ok (.iload_n 1, 1) := by decide +kernel
theorem dX8_bound_16 : decode cX8_bound 16 = .ok (.iconst 4, 1) := by decide +kernel
theorem dX8_bound_17 : decode cX8_bound 17 = .ok (.iload_n 2, 1) := by decide +kernel
theorem dX8_bound_18 : decode cX8_bound 18 = .ok (.imul, 1) := by decide +kernel
theorem dX8_bound_19 : decode cX8_bound 19 = .ok (.iadd, 1) := by decide +kernel
theorem dX8_bound_20 : decode cX8_bound 20 = .ok (.iaload, 1) := by decide +kernel
theorem dX8_bound_21 : decode cX8_bound 21 = .ok (.iaload, 1) := by decide +kernel
theorem dX8_bound_22 : decode cX8_bound 22 = .ok (.aload_n 0, 1) := by decide +kernel
theorem dX8_bound_23 : decode cX8_bound 23 = .ok (.iload_n 1, 1) := by decide +kernel
theorem dX8_bound_24 : decode cX8_bound 24 = .ok (.iload_n 2, 1) := by decide +kernel
theorem dX8_bound_25 : decode cX8_bound 25 = .ok (.invokevirtual 197, 3) := by decide +kernel
theorem dX8_bound_28 : decode cX8_bound 28 = .ok (.iload_n 3, 1) := by decide +kernel
theorem dX8_bound_29 : decode cX8_bound 29 = .ok (.iadd, 1) := by decide +kernel
theorem dX8_bound_30 : decode cX8_bound 30 = .ok (.invokevirtual 200, 3) := by decide +kernel
theorem dX8_bound_33 : decode cX8_bound 33 = .ok (.ireturn, 1) := by decide +kernel
theorem dX8_report_0 : decode cX8_report 0 = .ok (.aload_n 0, 1) := by decide +kernel
theorem dX8_report_1 : decode cX8_report 1 = .ok (.iload_n 1, 1) := by decide +kernel
theorem dX8_report_2 : decode cX8_report 2 = .ok (.invokevirtual 203, 3) := by decide +kernel
theorem dX8_report_5 : decode cX8_report 5 = .ok (.ifCond .eq 15, 3) := by decide +kernel
theorem dX8_report_8 : decode cX8_report 8 = .ok (.iload_n 2, 1) := by decide +kernel
theorem dX8_report_9 : decode cX8_report 9 = .ok (.i2l, 1) := by decide +kernel
theorem dX8_report_10 : decode cX8_report 10 = .ok (.lconst 0, 1) := by decide +kernel
theorem dX8_report_11 : decode cX8_report 11 = .ok (.ldc2_w 206, 3) := by decide +kernel
theorem dX8_report_14 : decode cX8_report 14 = .ok (.invokestatic 101, 3) := by decide +kernel
theorem dX8_report_17 : decode cX8_report 17 = .ok (.ifCond .ne 5, 3) := by decide +kernel
theorem dX8_report_20 : decode cX8_report 20 = .ok (.iconst (-1), 1) := by decide +kernel
theorem dX8_report_21 : decode cX8_report 21 = .ok (.ireturn, 1) := by decide +kernel
theorem dX8_report_22 : decode cX8_report 22 = .ok (.iload_n 2, 1) := by decide +kernel
theorem dX8_report_23 : decode cX8_report 23 = .ok (.iconst 4, 1) := by decide +kernel
theorem dX8_report_24 : decode cX8_report 24 = .ok (.if_icmp .ge 16, 3) := by decide +kernel
theorem dX8_report_27 : decode cX8_report 27 = .ok (.aload_n 0, 1) := by decide +kernel
theorem dX8_report_28 : decode cX8_report 28 = .ok (.getfield 46, 3) := by decide +kernel
theorem dX8_report_31 : decode cX8_report 31 = .ok (.iconst 4, 1) := by decide +kernel
theorem dX8_report_32 : decode cX8_report 32 = .ok (.iload_n 1, 1) := by decide +kernel
theorem dX8_report_33 : decode cX8_report 33 = .ok (.imul, 1) := by decide +kernel
theorem dX8_report_34 : decode cX8_report 34 = .ok (.iload_n 2, 1) := by decide +kernel
theorem dX8_report_35 : decode cX8_report 35 = .ok (.iadd, 1) := by decide +kernel
theorem dX8_report_36 : decode cX8_report 36 = .ok (.iaload, 1) := by decide +kernel
theorem dX8_report_37 : decode cX8_report 37 = .ok (.goto 34, 3) := by decide +kernel
theorem dX8_report_40 : decode cX8_report 40 = .ok (.iload_n 2, 1) := by decide +kernel
theorem dX8_report_41 : decode cX8_report 41 = .ok (.iconst 4, 1) := by decide +kernel
theorem dX8_report_42 : decode cX8_report 42 = .ok (.if_icmp .ne 12, 3) := by decide +kernel
theorem dX8_report_45 : decode cX8_report 45 = .ok (.aload_n 0, 1) := by decide +kernel
theorem dX8_report_46 : decode cX8_report 46 = .ok (.iconst 0, 1) := by decide +kernel
theorem dX8_report_47 : decode cX8_report 47 = .ok (.iload_n 1, 1) := by decide +kernel
theorem dX8_report_48 : decode cX8_report 48 = .ok (.invokevirtual 208, 3) := by decide +kernel
theorem dX8_report_51 : decode cX8_report 51 = .ok (.goto 20, 3) := by decide +kernel
theorem dX8_report_54 : decode cX8_report 54 = .ok (.aload_n 0, 1) := by decide +kernel
theorem dX8_report_55 : decode cX8_report 55 = .ok (.iconst 0, 1) := by decide +kernel
theorem dX8_report_56 : decode cX8_report 56 = .ok (.iload_n 1, 1) := by decide +kernel
theorem dX8_report_57 : decode cX8_report 57 = .ok (.iload_n 2, 1) := by decide +kernel
theorem dX8_report_58 : decode cX8_report 58 = .ok (.iconst 5, 1) := by decide +kernel
theorem dX8_report_59 : decode cX8_report 59 = .ok (.if_icmp .ne 7, 3) := by decide +kernel
theorem dX8_report_62 : decode cX8_report 62 = .ok (.iconst 2, 1) := by decide +kernel
theorem dX8_report_63 : decode cX8_report 63 = .ok (.goto 5, 3) := by decide +kernel
theorem dX8_report_66 : decode cX8_report 66 = .ok (.bipush (-2), 2) := by decide +kernel
theorem dX8_report_68 : decode cX8_report 68 = .ok (.invokevirtual 211, 3) := by decide +kernel
theorem dX8_report_71 : decode cX8_report 71 = .ok (.ireturn, 1) := by decide +kernel
theorem dX8_known_0 : decode cX8_known 0 = .ok (.aload_n 0, 1) := by decide +kernel
theorem dX8_known_1 : decode cX8_known 1 = .ok (.getfield 149, 3) := by decide +kernel
theorem dX8_known_4 : decode cX8_known 4 = .ok (.bipush 8, 2) := by decide +kernel
theorem dX8_known_6 : decode cX8_known 6 = .ok (.if_icmp .ne 40, 3) := by decide +kernel
theorem dX8_known_9 : decode cX8_known 9 = .ok (.bipush 38, 2) := by decide +kernel
theorem dX8_known_11 : decode cX8_known 11 = .ok (.istore_n 1, 1) := by decide +kernel
theorem dX8_known_12 : decode cX8_known 12 = .ok (.iload_n 1, 1) := by decide +kernel
theorem dX8_known_13 : decode cX8_known 13 = .ok (.sipush 304, 3) := by decide +kernel
theorem dX8_known_16 : decode cX8_known 16 = .ok (.if_icmp .ge 24, 3) := by decide +kernel
theorem dX8_known_19 : decode cX8_known 19 = .ok (.aload_n 0, 1) := by decide +kernel
theorem dX8_known_20 : decode cX8_known 20 = .ok (.getfield 46, 3) := by decide +kernel
theorem dX8_known_23 : decode cX8_known 23 = .ok (.iload_n 1, 1) := by decide +kernel
theorem dX8_known_24 : decode cX8_known 24 = .ok (.aload_n 0, 1) := by decide +kernel
theorem dX8_known_25 : decode cX8_known 25 = .ok (.getfield 46, 3) := by decide +kernel
theorem dX8_known_28 : decode cX8_known 28 = .ok (.iload_n 1, 1) := by decide +kernel
theorem dX8_known_29 : decode cX8_known 29 = .ok (.bipush 38, 2) := by decide +kernel
theorem dX8_known_31 : decode cX8_known 31 = .ok (.iadd, 1) := by decide +kernel
theorem dX8_known_32 : decode cX8_known 32 = .ok (.iaload, 1) := by decide +kernel
theorem dX8_known_33 : decode cX8_known 33 = .ok (.iastore, 1) := by decide +kernel
theorem dX8_known_34 : decode cX8_known 34 = .ok (.iinc 1 1, 3) := by decide +kernel
theorem dX8_known_37 : decode cX8_known 37 = .ok (.goto (-25), 3) := by decide +kernel
theorem dX8_known_40 : decode cX8_known 40 = .ok (.aload_n 0, 1) := by decide +kernel
theorem dX8_known_41 : decode cX8_known 41 = .ok (.bipush 7, 2) := by decide +kernel
theorem dX8_known_43 : decode cX8_known 43 = .ok (.putfield 149, 3) := by decide +kernel
theorem dX8_known_46 : decode cX8_known 46 = .ok (.aload_n 0, 1) := by decide +kernel
theorem dX8_known_47 : decode cX8_known 47 = .ok (.dup, 1) := by decide +kernel
theorem dX8_known_48 : decode cX8_known 48 = .ok (.getfield 149, 3) := by decide +kernel
theorem dX8_known_51 : decode cX8_known 51 = .ok (.iconst 1, 1) := by decide +kernel
theorem dX8_known_52 : decode cX8_known 52 = .ok (.iadd, 1) := by decide +kernel
theorem dX8_known_53 : decode cX8_known 53 = .ok (.putfield 149, 3) := by decide +kernel
theorem dX8_known_56 : decode cX8_known 56 = .ok (.aload_n 0, 1) := by decide +kernel
theorem dX8_known_57 : decode cX8_known 57 = .ok (.iconst 0, 1) := by decide +kernel
theorem dX8_known_58 : decode cX8_known 58 = .ok (.aload_n 0, 1) := by decide +kernel
theorem dX8_known_59 : decode cX8_known 59 = .ok (.getfield 149, 3) := by decide +kernel
theorem dX8_known_62 : decode cX8_known 62 = .ok (.bipush 38, 2) := by decide +kernel
theorem dX8_known_64 : decode cX8_known 64 = .ok (.imul, 1) := by decide +kernel
theorem dX8_known_65 : decode cX8_known 65 = .ok (.invokevirtual 214, 3) := by decide +kernel
theorem dX8_known_68 : decode cX8_known 68 = .ok (.return_, 1) := by decide +kernel
theorem dX8_walks_0 : decode cX8_walks 0 = .ok (.aload_n 0, 1) := by decide +kernel
theorem dX8_walks_1 : decode cX8_walks 1 = .ok (.iload_n 1, 1) := by decide +kernel
theorem dX8_walks_2 : decode cX8_walks 2 = .ok (.iload_n 2, 1) := by decide +kernel
theorem dX8_walks_3 : decode cX8_walks 3 = .ok (.iload_n 3, 1) := by decide +kernel
theorem dX8_walks_4 : decode cX8_walks 4 = .ok (.iload 4, 2) := by decide +kernel
theorem dX8_walks_6 : decode cX8_walks 6 = .ok (.aload_n 0, 1) := by decide +kernel
theorem dX8_walks_7 : decode cX8_walks 7 = .ok (.getfield 19, 3) := by decide +kernel
theorem dX8_walks_10 : decode cX8_walks 10 = .ok (.iload_n 2, 1) := by decide +kernel
theorem dX8_walks_11 : decode cX8_walks 11 = .ok (.iaload, 1) := by decide +kernel
theorem dX8_walks_12 : decode cX8_walks 12 = .ok (.aload_n 0, 1) := by decide +kernel
theorem dX8_walks_13 : decode cX8_walks 13 = .ok (.getfield 25, 3) := by decide +kernel
theorem dX8_walks_16 : decode cX8_walks 16 = .ok (.iload_n 2, 1) := by decide +kernel
theorem dX8_walks_17 : decode cX8_walks 17 = .ok (.iaload, 1) := by decide +kernel
theorem dX8_walks_18 : decode cX8_walks 18 = .ok (.invokevirtual 217, 3) := by decide +kernel
theorem dX8_walks_21 : decode cX8_walks 21 = .ok (.istore 5, 2) := by decide +kernel
theorem dX8_walks_23 : decode cX8_walks 23 = .ok (.aload_n 0, 1) := by decide +kernel
theorem dX8_walks_24 : decode cX8_walks 24 = .ok (.getfield 46, 3) := by decide +kernel
theorem dX8_walks_27 : decode cX8_walks 27 = .ok (.iload_n 1, 1) := by decide +kernel
theorem dX8_walks_28 : decode cX8_walks 28 = .ok (.bipush 36, 2) := by decide +kernel
theorem dX8_walks_30 : decode cX8_walks 30 = .ok (.iadd, 1) := by decide +kernel
theorem dX8_walks_31 : decode cX8_walks 31 = .ok (.iaload, 1) := by decide +kernel
theorem dX8_walks_32 : decode cX8_walks 32 = .ok (.istore 6, 2) := by decide +kernel
theorem dX8_walks_34 : decode cX8_walks 34 = .ok (.aload_n 0, 1) := by decide +kernel
theorem dX8_walks_35 : decode cX8_walks 35 = .ok (.getfield 46, 3) := by decide +kernel
theorem dX8_walks_38 : decode cX8_walks 38 = .ok (.iload_n 1, 1) := by decide +kernel
theorem dX8_walks_39 : decode cX8_walks 39 = .ok (.iconst 4, 1) := by decide +kernel
theorem dX8_walks_40 : decode cX8_walks 40 = .ok (.iload 6, 2) := by decide +kernel
theorem dX8_walks_42 : decode cX8_walks 42 = .ok (.imul, 1) := by decide +kernel
theorem dX8_walks_43 : decode cX8_walks 43 = .ok (.iadd, 1) := by decide +kernel
theorem dX8_walks_44 : decode cX8_walks 44 = .ok (.iload_n 2, 1) := by decide +kernel
theorem dX8_walks_45 : decode cX8_walks 45 = .ok (.iastore, 1) := by decide +kernel
theorem dX8_walks_46 : decode cX8_walks 46 = .ok (.aload_n 0, 1) := by decide +kernel
theorem dX8_walks_47 : decode cX8_walks 47 = .ok (.getfield 46, 3) := by decide +kernel
theorem dX8_walks_50 : decode cX8_walks 50 = .ok (.iload_n 1, 1) := by decide +kernel
theorem dX8_walks_51 : decode cX8_walks 51 = .ok (.iconst 4, 1) := by decide +kernel
theorem dX8_walks_52 : decode cX8_walks 52 = .ok (.iload 6, 2) := by decide +kernel
theorem dX8_walks_54 : decode cX8_walks 54 = .ok (.imul, 1) := by decide +kernel
theorem dX8_walks_55 : decode cX8_walks 55 = .ok (.iadd, 1) := by decide +kernel
theorem dX8_walks_56 : decode cX8_walks 56 = .ok (.iconst 1, 1) := by decide +kernel
theorem dX8_walks_57 : decode cX8_walks 57 = .ok (.iadd, 1) := by decide +kernel
theorem dX8_walks_58 : decode cX8_walks 58 = .ok (.iload_n 3, 1) := by decide +kernel
theorem dX8_walks_59 : decode cX8_walks 59 = .ok (.iastore, 1) := by decide +kernel
theorem dX8_walks_60 : decode cX8_walks 60 = .ok (.aload_n 0, 1) := by decide +kernel
theorem dX8_walks_61 : decode cX8_walks 61 = .ok (.getfield 46, 3) := by decide +kernel
theorem dX8_walks_64 : decode cX8_walks 64 = .ok (.iload_n 1, 1) := by decide +kernel
theorem dX8_walks_65 : decode cX8_walks 65 = .ok (.iconst 4, 1) := by decide +kernel
theorem dX8_walks_66 : decode cX8_walks 66 = .ok (.iload 6, 2) := by decide +kernel
theorem dX8_walks_68 : decode cX8_walks 68 = .ok (.imul, 1) := by decide +kernel
theorem dX8_walks_69 : decode cX8_walks 69 = .ok (.iadd, 1) := by decide +kernel
theorem dX8_walks_70 : decode cX8_walks 70 = .ok (.iconst 2, 1) := by decide +kernel
theorem dX8_walks_71 : decode cX8_walks 71 = .ok (.iadd, 1) := by decide +kernel
theorem dX8_walks_72 : decode cX8_walks 72 = .ok (.iload 4, 2) := by decide +kernel
theorem dX8_walks_74 : decode cX8_walks 74 = .ok (.iastore, 1) := by decide +kernel
theorem dX8_walks_75 : decode cX8_walks 75 = .ok (.aload_n 0, 1) := by decide +kernel
theorem dX8_walks_76 : decode cX8_walks 76 = .ok (.getfield 46, 3) := by decide +kernel
theorem dX8_walks_79 : decode cX8_walks 79 = .ok (.iload_n 1, 1) := by decide +kernel
theorem dX8_walks_80 : decode cX8_walks 80 = .ok (.iconst 4, 1) := by decide +kernel
theorem dX8_walks_81 : decode cX8_walks 81 = .ok (.iload 6, 2) := by decide +kernel
theorem dX8_walks_83 : decode cX8_walks 83 = .ok (.imul, 1) := by decide +kernel
