-- what stands at each place of the code
theorem dL_set_0 : decode bL_set 0 = .ok (.aload 5, 2) := by decide +kernel
theorem dL_set_2 : decode bL_set 2 = .ok (.iconst 0, 1) := by decide +kernel
theorem dL_set_3 : decode bL_set 3 = .ok (.aload_n 0, 1) := by decide +kernel
theorem dL_set_4 : decode bL_set 4 = .ok (.iload_n 1, 1) := by decide +kernel
theorem dL_set_5 : decode bL_set 5 = .ok (.lload_n 2, 1) := by decide +kernel
theorem dL_set_6 : decode bL_set 6 = .ok (.iload 4, 2) := by decide +kernel
theorem dL_set_8 : decode bL_set 8 = .ok (.invokevirtual 7, 3) := by decide +kernel
theorem dL_set_11 : decode bL_set 11 = .ok (.i2l, 1) := by decide +kernel
theorem dL_set_12 : decode bL_set 12 = .ok (.lastore, 1) := by decide +kernel
theorem dL_set_13 : decode bL_set 13 = .ok (.goto 7, 3) := by decide +kernel
theorem dL_set_16 : decode bL_set 16 = .ok (.astore 6, 2) := by decide +kernel
theorem dL_set_18 : decode bL_set 18 = .ok (.iconst 1, 1) := by decide +kernel
theorem dL_set_19 : decode bL_set 19 = .ok (.ireturn, 1) := by decide +kernel
theorem dL_set_20 : decode bL_set 20 = .ok (.iconst 0, 1) := by decide +kernel
theorem dL_set_21 : decode bL_set 21 = .ok (.ireturn, 1) := by decide +kernel
theorem dL_drop_0 : decode bL_drop 0 = .ok (.aload_n 2, 1) := by decide +kernel
theorem dL_drop_1 : decode bL_drop 1 = .ok (.iconst 0, 1) := by decide +kernel
theorem dL_drop_2 : decode bL_drop 2 = .ok (.aload_n 0, 1) := by decide +kernel
theorem dL_drop_3 : decode bL_drop 3 = .ok (.iload_n 1, 1) := by decide +kernel
theorem dL_drop_4 : decode bL_drop 4 = .ok (.invokevirtual 15, 3) := by decide +kernel
theorem dL_drop_7 : decode bL_drop 7 = .ok (.lastore, 1) := by decide +kernel
theorem dL_drop_8 : decode bL_drop 8 = .ok (.goto 9, 3) := by decide +kernel
theorem dL_drop_11 : decode bL_drop 11 = .ok (.astore_n 3, 1) := by decide +kernel
theorem dL_drop_12 : decode bL_drop 12 = .ok (.iconst 1, 1) := by decide +kernel
theorem dL_drop_13 : decode bL_drop 13 = .ok (.ireturn, 1) := by decide +kernel
theorem dL_drop_14 : decode bL_drop 14 = .ok (.astore_n 3, 1) := by decide +kernel
theorem dL_drop_15 : decode bL_drop 15 = .ok (.iconst 2, 1) := by decide +kernel
theorem dL_drop_16 : decode bL_drop 16 = .ok (.ireturn, 1) := by decide +kernel
theorem dL_drop_17 : decode bL_drop 17 = .ok (.iconst 0, 1) := by decide +kernel
theorem dL_drop_18 : decode bL_drop 18 = .ok (.ireturn, 1) := by decide +kernel
theorem dL_take_0 : decode bL_take 0 = .ok (.aload_n 1, 1) := by decide +kernel
theorem dL_take_1 : decode bL_take 1 = .ok (.iconst 0, 1) := by decide +kernel
theorem dL_take_2 : decode bL_take 2 = .ok (.aload_n 0, 1) := by decide +kernel
theorem dL_take_3 : decode bL_take 3 = .ok (.invokevirtual 21, 3) := by decide +kernel
theorem dL_take_6 : decode bL_take 6 = .ok (.i2l, 1) := by decide +kernel
theorem dL_take_7 : decode bL_take 7 = .ok (.lastore, 1) := by decide +kernel
theorem dL_take_8 : decode bL_take 8 = .ok (.goto 6, 3) := by decide +kernel
theorem dL_take_11 : decode bL_take 11 = .ok (.astore_n 2, 1) := by decide +kernel
theorem dL_take_12 : decode bL_take 12 = .ok (.iconst 1, 1) := by decide +kernel
theorem dL_take_13 : decode bL_take 13 = .ok (.ireturn, 1) := by decide +kernel
theorem dL_take_14 : decode bL_take 14 = .ok (.iconst 0, 1) := by decide +kernel
theorem dL_take_15 : decode bL_take 15 = .ok (.ireturn, 1) := by decide +kernel
theorem dL_go_0 : decode bL_go 0 = .ok (.aload_n 3, 1) := by decide +kernel
theorem dL_go_1 : decode bL_go 1 = .ok (.iconst 0, 1) := by decide +kernel
theorem dL_go_2 : decode bL_go 2 = .ok (.aload_n 0, 1) := by decide +kernel
theorem dL_go_3 : decode bL_go 3 = .ok (.lload_n 1, 1) := by decide +kernel
theorem dL_go_4 : decode bL_go 4 = .ok (.invokevirtual 25, 3) := by decide +kernel
theorem dL_go_7 : decode bL_go 7 = .ok (.i2l, 1) := by decide +kernel
theorem dL_go_8 : decode bL_go 8 = .ok (.lastore, 1) := by decide +kernel
theorem dL_go_9 : decode bL_go 9 = .ok (.goto 7, 3) := by decide +kernel
theorem dL_go_12 : decode bL_go 12 = .ok (.astore 4, 2) := by decide +kernel
theorem dL_go_14 : decode bL_go 14 = .ok (.iconst 1, 1) := by decide +kernel
theorem dL_go_15 : decode bL_go 15 = .ok (.ireturn, 1) := by decide +kernel
theorem dL_go_16 : decode bL_go 16 = .ok (.iconst 0, 1) := by decide +kernel
theorem dL_go_17 : decode bL_go 17 = .ok (.ireturn, 1) := by decide +kernel
theorem dL_skip_0 : decode bL_skip 0 = .ok (.aload_n 1, 1) := by decide +kernel
theorem dL_skip_1 : decode bL_skip 1 = .ok (.iconst 0, 1) := by decide +kernel
theorem dL_skip_2 : decode bL_skip 2 = .ok (.aload_n 0, 1) := by decide +kernel
theorem dL_skip_3 : decode bL_skip 3 = .ok (.invokevirtual 29, 3) := by decide +kernel
theorem dL_skip_6 : decode bL_skip 6 = .ok (.i2l, 1) := by decide +kernel
theorem dL_skip_7 : decode bL_skip 7 = .ok (.lastore, 1) := by decide +kernel
theorem dL_skip_8 : decode bL_skip 8 = .ok (.goto 6, 3) := by decide +kernel
theorem dL_skip_11 : decode bL_skip 11 = .ok (.astore_n 2, 1) := by decide +kernel
theorem dL_skip_12 : decode bL_skip 12 = .ok (.iconst 1, 1) := by decide +kernel
theorem dL_skip_13 : decode bL_skip 13 = .ok (.ireturn, 1) := by decide +kernel
theorem dL_skip_14 : decode bL_skip 14 = .ok (.iconst 0, 1) := by decide +kernel
theorem dL_skip_15 : decode bL_skip 15 = .ok (.ireturn, 1) := by decide +kernel
theorem dL_timer_0 : decode bL_timer 0 = .ok (.aload_n 3, 1) := by decide +kernel
theorem dL_timer_1 : decode bL_timer 1 = .ok (.iconst 0, 1) := by decide +kernel
theorem dL_timer_2 : decode bL_timer 2 = .ok (.aload_n 0, 1) := by decide +kernel
theorem dL_timer_3 : decode bL_timer 3 = .ok (.iload_n 1, 1) := by decide +kernel
theorem dL_timer_4 : decode bL_timer 4 = .ok (.iload_n 2, 1) := by decide +kernel
theorem dL_timer_5 : decode bL_timer 5 = .ok (.invokevirtual 32, 3) := by decide +kernel
theorem dL_timer_8 : decode bL_timer 8 = .ok (.lastore, 1) := by decide +kernel
theorem dL_timer_9 : decode bL_timer 9 = .ok (.goto 7, 3) := by decide +kernel
theorem dL_timer_12 : decode bL_timer 12 = .ok (.astore 4, 2) := by decide +kernel
theorem dL_timer_14 : decode bL_timer 14 = .ok (.iconst 1, 1) := by decide +kernel
theorem dL_timer_15 : decode bL_timer 15 = .ok (.ireturn, 1) := by decide +kernel
theorem dL_timer_16 : decode bL_timer 16 = .ok (.iconst 0, 1) := by decide +kernel
theorem dL_timer_17 : decode bL_timer 17 = .ok (.ireturn, 1) := by decide +kernel
theorem dL_count_0 : decode bL_count 0 = .ok (.aload_n 2, 1) := by decide +kernel
theorem dL_count_1 : decode bL_count 1 = .ok (.iconst 0, 1) := by decide +kernel
theorem dL_count_2 : decode bL_count 2 = .ok (.aload_n 0, 1) := by decide +kernel
theorem dL_count_3 : decode bL_count 3 = .ok (.iload_n 1, 1) := by decide +kernel
theorem dL_count_4 : decode bL_count 4 = .ok (.invokevirtual 36, 3) := by decide +kernel
theorem dL_count_7 : decode bL_count 7 = .ok (.lastore, 1) := by decide +kernel
theorem dL_count_8 : decode bL_count 8 = .ok (.goto 6, 3) := by decide +kernel
theorem dL_count_11 : decode bL_count 11 = .ok (.astore_n 3, 1) := by decide +kernel
theorem dL_count_12 : decode bL_count 12 = .ok (.iconst 1, 1) := by decide +kernel
theorem dL_count_13 : decode bL_count 13 = .ok (.ireturn, 1) := by decide +kernel
theorem dL_count_14 : decode bL_count 14 = .ok (.iconst 0, 1) := by decide +kernel
theorem dL_count_15 : decode bL_count 15 = .ok (.ireturn, 1) := by decide +kernel
theorem dL_law_0 : decode bL_law 0 = .ok (.new 8, 3) := by decide +kernel
theorem dL_law_3 : decode bL_law 3 = .ok (.dup, 1) := by decide +kernel
theorem dL_law_4 : decode bL_law 4 = .ok (.invokespecial 39, 3) := by decide +kernel
theorem dL_law_7 : decode bL_law 7 = .ok (.astore_n 1, 1) := by decide +kernel
theorem dL_law_8 : decode bL_law 8 = .ok (.new 40, 3) := by decide +kernel
theorem dL_law_11 : decode bL_law 11 = .ok (.dup, 1) := by decide +kernel
theorem dL_law_12 : decode bL_law 12 = .ok (.invokespecial 42, 3) := by decide +kernel
theorem dL_law_15 : decode bL_law 15 = .ok (.astore_n 2, 1) := by decide +kernel
theorem dL_law_16 : decode bL_law 16 = .ok (.iconst 1, 1) := by decide +kernel
theorem dL_law_17 : decode bL_law 17 = .ok (.newarray .long, 2) := by decide +kernel
theorem dL_law_19 : decode bL_law 19 = .ok (.astore_n 3, 1) := by decide +kernel
theorem dL_law_20 : decode bL_law 20 = .ok (.iconst 0, 1) := by decide +kernel
theorem dL_law_21 : decode bL_law 21 = .ok (.istore 4, 2) := by decide +kernel
theorem dL_law_23 : decode bL_law 23 = .ok (.iload 4, 2) := by decide +kernel
theorem dL_law_25 : decode bL_law 25 = .ok (.aload_n 0, 1) := by decide +kernel
theorem dL_law_26 : decode bL_law 26 = .ok (.arraylength, 1) := by decide +kernel
theorem dL_law_27 : decode bL_law 27 = .ok (.iconst 5, 1) := by decide +kernel
theorem dL_law_28 : decode bL_law 28 = .ok (.isub, 1) := by decide +kernel
theorem dL_law_29 : decode bL_law 29 = .ok (.if_icmp .gt 540, 3) := by decide +kernel
theorem dL_law_32 : decode bL_law 32 = .ok (.aload_n 0, 1) := by decide +kernel
theorem dL_law_33 : decode bL_law 33 = .ok (.iload 4, 2) := by decide +kernel
theorem dL_law_35 : decode bL_law 35 = .ok (.iaload, 1) := by decide +kernel
theorem dL_law_36 : decode bL_law 36 = .ok (.bipush 7, 2) := by decide +kernel
theorem dL_law_38 : decode bL_law 38 = .ok (.iand, 1) := by decide +kernel
theorem dL_law_39 : decode bL_law 39 = .ok (.tableswitch 524 0 7 #[45, 157, 212, 256, 270, 358, 402, 469], 45) := by decide +kernel
theorem dL_law_84 : decode bL_law 84 = .ok (.aload_n 1, 1) := by decide +kernel
theorem dL_law_85 : decode bL_law 85 = .ok (.aload_n 0, 1) := by decide +kernel
theorem dL_law_86 : decode bL_law 86 = .ok (.iload 4, 2) := by decide +kernel
theorem dL_law_88 : decode bL_law 88 = .ok (.iconst 1, 1) := by decide +kernel
theorem dL_law_89 : decode bL_law 89 = .ok (.iadd, 1) := by decide +kernel
theorem dL_law_90 : decode bL_law 90 = .ok (.iaload, 1) := by decide +kernel
theorem dL_law_91 : decode bL_law 91 = .ok (.aload_n 0, 1) := by decide +kernel
theorem dL_law_92 : decode bL_law 92 = .ok (.iload 4, 2) := by decide +kernel
theorem dL_law_94 : decode bL_law 94 = .ok (.iconst 2, 1) := by decide +kernel
theorem dL_law_95 : decode bL_law 95 = .ok (.iadd, 1) := by decide +kernel
theorem dL_law_96 : decode bL_law 96 = .ok (.iaload, 1) := by decide +kernel
theorem dL_law_97 : decode bL_law 97 = .ok (.i2l, 1) := by decide +kernel
theorem dL_law_98 : decode bL_law 98 = .ok (.bipush 32, 2) := by decide +kernel
theorem dL_law_100 : decode bL_law 100 = .ok (.lshl, 1) := by decide +kernel
theorem dL_law_101 : decode bL_law 101 = .ok (.aload_n 0, 1) := by decide +kernel
theorem dL_law_102 : decode bL_law 102 = .ok (.iload 4, 2) := by decide +kernel
theorem dL_law_104 : decode bL_law 104 = .ok (.iconst 3, 1) := by decide +kernel
theorem dL_law_105 : decode bL_law 105 = .ok (.iadd, 1) := by decide +kernel
theorem dL_law_106 : decode bL_law 106 = .ok (.iaload, 1) := by decide +kernel
theorem dL_law_107 : decode bL_law 107 = .ok (.i2l, 1) := by decide +kernel
theorem dL_law_108 : decode bL_law 108 = .ok (.ldc2_w 43, 3) := by decide +kernel
theorem dL_law_111 : decode bL_law 111 = .ok (.land, 1) := by decide +kernel
theorem dL_law_112 : decode bL_law 112 = .ok (.lor, 1) := by decide +kernel
theorem dL_law_113 : decode bL_law 113 = .ok (.aload_n 0, 1) := by decide +kernel
theorem dL_law_114 : decode bL_law 114 = .ok (.iload 4, 2) := by decide +kernel
theorem dL_law_116 : decode bL_law 116 = .ok (.iconst 4, 1) := by decide +kernel
theorem dL_law_117 : decode bL_law 117 = .ok (.iadd, 1) := by decide +kernel
theorem dL_law_118 : decode bL_law 118 = .ok (.iaload, 1) := by decide +kernel
theorem dL_law_119 : decode bL_law 119 = .ok (.aload_n 3, 1) := by decide +kernel
theorem dL_law_120 : decode bL_law 120 = .ok (.invokestatic 45, 3) := by decide +kernel
theorem dL_law_123 : decode bL_law 123 = .ok (.istore 5, 2) := by decide +kernel
theorem dL_law_125 : decode bL_law 125 = .ok (.aload_n 2, 1) := by decide +kernel
theorem dL_law_126 : decode bL_law 126 = .ok (.aload_n 0, 1) := by decide +kernel
theorem dL_law_127 : decode bL_law 127 = .ok (.iload 4, 2) := by decide +kernel
theorem dL_law_129 : decode bL_law 129 = .ok (.iconst 1, 1) := by decide +kernel
theorem dL_law_130 : decode bL_law 130 = .ok (.iadd, 1) := by decide +kernel
theorem dL_law_131 : decode bL_law 131 = .ok (.iaload, 1) := by decide +kernel
theorem dL_law_132 : decode bL_law 132 = .ok (.aload_n 0, 1) := by decide +kernel
theorem dL_law_133 : decode bL_law 133 = .ok (.iload 4, 2) := by decide +kernel
theorem dL_law_135 : decode bL_law 135 = .ok (.iconst 2, 1) := by decide +kernel
theorem dL_law_136 : decode bL_law 136 = .ok (.iadd, 1) := by decide +kernel
theorem dL_law_137 : decode bL_law 137 = .ok (.iaload, 1) := by decide +kernel
theorem dL_law_138 : decode bL_law 138 = .ok (.i2l, 1) := by decide +kernel
theorem dL_law_139 : decode bL_law 139 = .ok (.bipush 32, 2) := by decide +kernel
theorem dL_law_141 : decode bL_law 141 = .ok (.lshl, 1) := by decide +kernel
theorem dL_law_142 : decode bL_law 142 = .ok (.aload_n 0, 1) := by decide +kernel
theorem dL_law_143 : decode bL_law 143 = .ok (.iload 4, 2) := by decide +kernel
theorem dL_law_145 : decode bL_law 145 = .ok (.iconst 3, 1) := by decide +kernel
theorem dL_law_146 : decode bL_law 146 = .ok (.iadd, 1) := by decide +kernel
theorem dL_law_147 : decode bL_law 147 = .ok (.iaload, 1) := by decide +kernel
theorem dL_law_148 : decode bL_law 148 = .ok (.i2l, 1) := by decide +kernel
theorem dL_law_149 : decode bL_law 149 = .ok (.ldc2_w 43, 3) := by decide +kernel
theorem dL_law_152 : decode bL_law 152 = .ok (.land, 1) := by decide +kernel
theorem dL_law_153 : decode bL_law 153 = .ok (.lor, 1) := by decide +kernel
theorem dL_law_154 : decode bL_law 154 = .ok (.aload_n 0, 1) := by decide +kernel
theorem dL_law_155 : decode bL_law 155 = .ok (.iload 4, 2) := by decide +kernel
theorem dL_law_157 : decode bL_law 157 = .ok (.iconst 4, 1) := by decide +kernel
theorem dL_law_158 : decode bL_law 158 = .ok (.iadd, 1) := by decide +kernel
theorem dL_law_159 : decode bL_law 159 = .ok (.iaload, 1) := by decide +kernel
theorem dL_law_160 : decode bL_law 160 = .ok (.invokevirtual 50, 3) := by decide +kernel
theorem dL_law_163 : decode bL_law 163 = .ok (.istore 6, 2) := by decide +kernel
theorem dL_law_165 : decode bL_law 165 = .ok (.aload_n 2, 1) := by decide +kernel
theorem dL_law_166 : decode bL_law 166 = .ok (.invokevirtual 51, 3) := by decide +kernel
theorem dL_law_169 : decode bL_law 169 = .ok (.iload 5, 2) := by decide +kernel
theorem dL_law_171 : decode bL_law 171 = .ok (.if_icmp .eq 5, 3) := by decide +kernel
theorem dL_law_174 : decode bL_law 174 = .ok (.iconst 0, 1) := by decide +kernel
theorem dL_law_175 : decode bL_law 175 = .ok (.ireturn, 1) := by decide +kernel
theorem dL_law_176 : decode bL_law 176 = .ok (.iload 5, 2) := by decide +kernel
theorem dL_law_178 : decode bL_law 178 = .ok (.ifCond .ne 15, 3) := by decide +kernel
theorem dL_law_181 : decode bL_law 181 = .ok (.aload_n 3, 1) := by decide +kernel
theorem dL_law_182 : decode bL_law 182 = .ok (.iconst 0, 1) := by decide +kernel
theorem dL_law_183 : decode bL_law 183 = .ok (.laload, 1) := by decide +kernel
theorem dL_law_184 : decode bL_law 184 = .ok (.iload 6, 2) := by decide +kernel
theorem dL_law_186 : decode bL_law 186 = .ok (.i2l, 1) := by decide +kernel
theorem dL_law_187 : decode bL_law 187 = .ok (.lcmp, 1) := by decide +kernel
theorem dL_law_188 : decode bL_law 188 = .ok (.ifCond .eq 5, 3) := by decide +kernel
theorem dL_law_191 : decode bL_law 191 = .ok (.iconst 0, 1) := by decide +kernel
theorem dL_law_192 : decode bL_law 192 = .ok (.ireturn, 1) := by decide +kernel
theorem dL_law_193 : decode bL_law 193 = .ok (.goto 370, 3) := by decide +kernel
theorem dL_law_196 : decode bL_law 196 = .ok (.aload_n 1, 1) := by decide +kernel
theorem dL_law_197 : decode bL_law 197 = .ok (.aload_n 0, 1) := by decide +kernel
theorem dL_law_198 : decode bL_law 198 = .ok (.iload 4, 2) := by decide +kernel
theorem dL_law_200 : decode bL_law 200 = .ok (.iconst 1, 1) := by decide +kernel
theorem dL_law_201 : decode bL_law 201 = .ok (.iadd, 1) := by decide +kernel
theorem dL_law_202 : decode bL_law 202 = .ok (.iaload, 1) := by decide +kernel
theorem dL_law_203 : decode bL_law 203 = .ok (.aload_n 3, 1) := by decide +kernel
theorem dL_law_204 : decode bL_law 204 = .ok (.invokestatic 54, 3) := by decide +kernel
theorem dL_law_207 : decode bL_law 207 = .ok (.istore 5, 2) := by decide +kernel
theorem dL_law_209 : decode bL_law 209 = .ok (.aload_n 2, 1) := by decide +kernel
theorem dL_law_210 : decode bL_law 210 = .ok (.aload_n 0, 1) := by decide +kernel
theorem dL_law_211 : decode bL_law 211 = .ok (.iload 4, 2) := by decide +kernel
theorem dL_law_213 : decode bL_law 213 = .ok (.iconst 1, 1) := by decide +kernel
theorem dL_law_214 : decode bL_law 214 = .ok (.iadd, 1) := by decide +kernel
theorem dL_law_215 : decode bL_law 215 = .ok (.iaload, 1) := by decide +kernel
theorem dL_law_216 : decode bL_law 216 = .ok (.invokevirtual 57, 3) := by decide +kernel
theorem dL_law_219 : decode bL_law 219 = .ok (.lstore 6, 2) := by decide +kernel
theorem dL_law_221 : decode bL_law 221 = .ok (.aload_n 2, 1) := by decide +kernel
theorem dL_law_222 : decode bL_law 222 = .ok (.invokevirtual 51, 3) := by decide +kernel
theorem dL_law_225 : decode bL_law 225 = .ok (.iload 5, 2) := by decide +kernel
theorem dL_law_227 : decode bL_law 227 = .ok (.if_icmp .eq 5, 3) := by decide +kernel
theorem dL_law_230 : decode bL_law 230 = .ok (.iconst 0, 1) := by decide +kernel
theorem dL_law_231 : decode bL_law 231 = .ok (.ireturn, 1) := by decide +kernel
theorem dL_law_232 : decode bL_law 232 = .ok (.iload 5, 2) := by decide +kernel
theorem dL_law_234 : decode bL_law 234 = .ok (.ifCond .ne 14, 3) := by decide +kernel
theorem dL_law_237 : decode bL_law 237 = .ok (.aload_n 3, 1) := by decide +kernel
theorem dL_law_238 : decode bL_law 238 = .ok (.iconst 0, 1) := by decide +kernel
theorem dL_law_239 : decode bL_law 239 = .ok (.laload, 1) := by decide +kernel
theorem dL_law_240 : decode bL_law 240 = .ok (.lload 6, 2) := by decide +kernel
theorem dL_law_242 : decode bL_law 242 = .ok (.lcmp, 1) := by decide +kernel
theorem dL_law_243 : decode bL_law 243 = .ok (.ifCond .eq 5, 3) := by decide +kernel
theorem dL_law_246 : decode bL_law 246 = .ok (.iconst 0, 1) := by decide +kernel
theorem dL_law_247 : decode bL_law 247 = .ok (.ireturn, 1) := by decide +kernel
theorem dL_law_248 : decode bL_law 248 = .ok (.goto 315, 3) := by decide +kernel
theorem dL_law_251 : decode bL_law 251 = .ok (.aload_n 1, 1) := by decide +kernel
theorem dL_law_252 : decode bL_law 252 = .ok (.aload_n 3, 1) := by decide +kernel
theorem dL_law_253 : decode bL_law 253 = .ok (.invokestatic 58, 3) := by decide +kernel
theorem dL_law_256 : decode bL_law 256 = .ok (.istore 5, 2) := by decide +kernel
theorem dL_law_258 : decode bL_law 258 = .ok (.aload_n 2, 1) := by decide +kernel
theorem dL_law_259 : decode bL_law 259 = .ok (.invokevirtual 61, 3) := by decide +kernel
theorem dL_law_262 : decode bL_law 262 = .ok (.istore 6, 2) := by decide +kernel
theorem dL_law_264 : decode bL_law 264 = .ok (.aload_n 2, 1) := by decide +kernel
theorem dL_law_265 : decode bL_law 265 = .ok (.invokevirtual 51, 3) := by decide +kernel
theorem dL_law_268 : decode bL_law 268 = .ok (.iload 5, 2) := by decide +kernel
theorem dL_law_270 : decode bL_law 270 = .ok (.if_icmp .eq 5, 3) := by decide +kernel
theorem dL_law_273 : decode bL_law 273 = .ok (.iconst 0, 1) := by decide +kernel
theorem dL_law_274 : decode bL_law 274 = .ok (.ireturn, 1) := by decide +kernel
theorem dL_law_275 : decode bL_law 275 = .ok (.iload 5, 2) := by decide +kernel
theorem dL_law_277 : decode bL_law 277 = .ok (.ifCond .ne 15, 3) := by decide +kernel
theorem dL_law_280 : decode bL_law 280 = .ok (.aload_n 3, 1) := by decide +kernel
theorem dL_law_281 : decode bL_law 281 = .ok (.iconst 0, 1) := by decide +kernel
theorem dL_law_282 : decode bL_law 282 = .ok (.laload, 1) := by decide +kernel
theorem dL_law_283 : decode bL_law 283 = .ok (.iload 6, 2) := by decide +kernel
theorem dL_law_285 : decode bL_law 285 = .ok (.i2l, 1) := by decide +kernel
theorem dL_law_286 : decode bL_law 286 = .ok (.lcmp, 1) := by decide +kernel
theorem dL_law_287 : decode bL_law 287 = .ok (.ifCond .eq 5, 3) := by decide +kernel
theorem dL_law_290 : decode bL_law 290 = .ok (.iconst 0, 1) := by decide +kernel
theorem dL_law_291 : decode bL_law 291 = .ok (.ireturn, 1) := by decide +kernel
theorem dL_law_292 : decode bL_law 292 = .ok (.goto 271, 3) := by decide +kernel
theorem dL_law_295 : decode bL_law 295 = .ok (.aload_n 1, 1) := by decide +kernel
theorem dL_law_296 : decode bL_law 296 = .ok (.invokevirtual 62, 3) := by decide +kernel
theorem dL_law_299 : decode bL_law 299 = .ok (.aload_n 2, 1) := by decide +kernel
theorem dL_law_300 : decode bL_law 300 = .ok (.invokevirtual 66, 3) := by decide +kernel
theorem dL_law_303 : decode bL_law 303 = .ok (.lcmp, 1) := by decide +kernel
theorem dL_law_304 : decode bL_law 304 = .ok (.ifCond .eq 259, 3) := by decide +kernel
theorem dL_law_307 : decode bL_law 307 = .ok (.iconst 0, 1) := by decide +kernel
theorem dL_law_308 : decode bL_law 308 = .ok (.ireturn, 1) := by decide +kernel
theorem dL_law_309 : decode bL_law 309 = .ok (.aload_n 1, 1) := by decide +kernel
theorem dL_law_310 : decode bL_law 310 = .ok (.aload_n 0, 1) := by decide +kernel
theorem dL_law_311 : decode bL_law 311 = .ok (.iload 4, 2) := by decide +kernel
theorem dL_law_313 : decode bL_law 313 = .ok (.iconst 1, 1) := by decide +kernel
theorem dL_law_314 : decode bL_law 314 = .ok (.iadd, 1) := by decide +kernel
theorem dL_law_315 : decode bL_law 315 = .ok (.iaload, 1) := by decide +kernel
theorem dL_law_316 : decode bL_law 316 = .ok (.i2l, 1) := by decide +kernel
theorem dL_law_317 : decode bL_law 317 = .ok (.bipush 32, 2) := by decide +kernel
theorem dL_law_319 : decode bL_law 319 = .ok (.lshl, 1) := by decide +kernel
theorem dL_law_320 : decode bL_law 320 = .ok (.aload_n 0, 1) := by decide +kernel
theorem dL_law_321 : decode bL_law 321 = .ok (.iload 4, 2) := by decide +kernel
theorem dL_law_323 : decode bL_law 323 = .ok (.iconst 2, 1) := by decide +kernel
theorem dL_law_324 : decode bL_law 324 = .ok (.iadd, 1) := by decide +kernel
theorem dL_law_325 : decode bL_law 325 = .ok (.iaload, 1) := by decide +kernel
theorem dL_law_326 : decode bL_law 326 = .ok (.i2l, 1) := by decide +kernel
theorem dL_law_327 : decode bL_law 327 = .ok (.ldc2_w 43, 3) := by decide +kernel
theorem dL_law_330 : decode bL_law 330 = .ok (.land, 1) := by decide +kernel
theorem dL_law_331 : decode bL_law 331 = .ok (.lor, 1) := by decide +kernel
theorem dL_law_332 : decode bL_law 332 = .ok (.aload_n 3, 1) := by decide +kernel
theorem dL_law_333 : decode bL_law 333 = .ok (.invokestatic 67, 3) := by decide +kernel
theorem dL_law_336 : decode bL_law 336 = .ok (.istore 5, 2) := by decide +kernel
theorem dL_law_338 : decode bL_law 338 = .ok (.aload_n 2, 1) := by decide +kernel
theorem dL_law_339 : decode bL_law 339 = .ok (.aload_n 0, 1) := by decide +kernel
theorem dL_law_340 : decode bL_law 340 = .ok (.iload 4, 2) := by decide +kernel
theorem dL_law_342 : decode bL_law 342 = .ok (.iconst 1, 1) := by decide +kernel
theorem dL_law_343 : decode bL_law 343 = .ok (.iadd, 1) := by decide +kernel
theorem dL_law_344 : decode bL_law 344 = .ok (.iaload, 1) := by decide +kernel
theorem dL_law_345 : decode bL_law 345 = .ok (.i2l, 1) := by decide +kernel
theorem dL_law_346 : decode bL_law 346 = .ok (.bipush 32, 2) := by decide +kernel
theorem dL_law_348 : decode bL_law 348 = .ok (.lshl, 1) := by decide +kernel
theorem dL_law_349 : decode bL_law 349 = .ok (.aload_n 0, 1) := by decide +kernel
theorem dL_law_350 : decode bL_law 350 = .ok (.iload 4, 2) := by decide +kernel
theorem dL_law_352 : decode bL_law 352 = .ok (.iconst 2, 1) := by decide +kernel
theorem dL_law_353 : decode bL_law 353 = .ok (.iadd, 1) := by decide +kernel
theorem dL_law_354 : decode bL_law 354 = .ok (.iaload, 1) := by decide +kernel
theorem dL_law_355 : decode bL_law 355 = .ok (.i2l, 1) := by decide +kernel
theorem dL_law_356 : decode bL_law 356 = .ok (.ldc2_w 43, 3) := by decide +kernel
theorem dL_law_359 : decode bL_law 359 = .ok (.land, 1) := by decide +kernel
theorem dL_law_360 : decode bL_law 360 = .ok (.lor, 1) := by decide +kernel
theorem dL_law_361 : decode bL_law 361 = .ok (.invokevirtual 70, 3) := by decide +kernel
theorem dL_law_364 : decode bL_law 364 = .ok (.istore 6, 2) := by decide +kernel
theorem dL_law_366 : decode bL_law 366 = .ok (.aload_n 2, 1) := by decide +kernel
theorem dL_law_367 : decode bL_law 367 = .ok (.invokevirtual 51, 3) := by decide +kernel
theorem dL_law_370 : decode bL_law 370 = .ok (.iload 5, 2) := by decide +kernel
theorem dL_law_372 : decode bL_law 372 = .ok (.if_icmp .eq 5, 3) := by decide +kernel
theorem dL_law_375 : decode bL_law 375 = .ok (.iconst 0, 1) := by decide +kernel
theorem dL_law_376 : decode bL_law 376 = .ok (.ireturn, 1) := by decide +kernel
theorem dL_law_377 : decode bL_law 377 = .ok (.iload 5, 2) := by decide +kernel
theorem dL_law_379 : decode bL_law 379 = .ok (.ifCond .ne 15, 3) := by decide +kernel
theorem dL_law_382 : decode bL_law 382 = .ok (.aload_n 3, 1) := by decide +kernel
theorem dL_law_383 : decode bL_law 383 = .ok (.iconst 0, 1) := by decide +kernel
theorem dL_law_384 : decode bL_law 384 = .ok (.laload, 1) := by decide +kernel
theorem dL_law_385 : decode bL_law 385 = .ok (.iload 6, 2) := by decide +kernel
theorem dL_law_387 : decode bL_law 387 = .ok (.i2l, 1) := by decide +kernel
theorem dL_law_388 : decode bL_law 388 = .ok (.lcmp, 1) := by decide +kernel
theorem dL_law_389 : decode bL_law 389 = .ok (.ifCond .eq 5, 3) := by decide +kernel
theorem dL_law_392 : decode bL_law 392 = .ok (.iconst 0, 1) := by decide +kernel
theorem dL_law_393 : decode bL_law 393 = .ok (.ireturn, 1) := by decide +kernel
theorem dL_law_394 : decode bL_law 394 = .ok (.goto 169, 3) := by decide +kernel
theorem dL_law_397 : decode bL_law 397 = .ok (.aload_n 1, 1) := by decide +kernel
theorem dL_law_398 : decode bL_law 398 = .ok (.aload_n 3, 1) := by decide +kernel
theorem dL_law_399 : decode bL_law 399 = .ok (.invokestatic 71, 3) := by decide +kernel
theorem dL_law_402 : decode bL_law 402 = .ok (.istore 5, 2) := by decide +kernel
theorem dL_law_404 : decode bL_law 404 = .ok (.aload_n 2, 1) := by decide +kernel
theorem dL_law_405 : decode bL_law 405 = .ok (.invokevirtual 73, 3) := by decide +kernel
theorem dL_law_408 : decode bL_law 408 = .ok (.istore 6, 2) := by decide +kernel
theorem dL_law_410 : decode bL_law 410 = .ok (.aload_n 2, 1) := by decide +kernel
theorem dL_law_411 : decode bL_law 411 = .ok (.invokevirtual 51, 3) := by decide +kernel
theorem dL_law_414 : decode bL_law 414 = .ok (.iload 5, 2) := by decide +kernel
theorem dL_law_416 : decode bL_law 416 = .ok (.if_icmp .eq 5, 3) := by decide +kernel
theorem dL_law_419 : decode bL_law 419 = .ok (.iconst 0, 1) := by decide +kernel
theorem dL_law_420 : decode bL_law 420 = .ok (.ireturn, 1) := by decide +kernel
theorem dL_law_421 : decode bL_law 421 = .ok (.iload 5, 2) := by decide +kernel
theorem dL_law_423 : decode bL_law 423 = .ok (.ifCond .ne 15, 3) := by decide +kernel
theorem dL_law_426 : decode bL_law 426 = .ok (.aload_n 3, 1) := by decide +kernel
theorem dL_law_427 : decode bL_law 427 = .ok (.iconst 0, 1) := by decide +kernel
theorem dL_law_428 : decode bL_law 428 = .ok (.laload, 1) := by decide +kernel
theorem dL_law_429 : decode bL_law 429 = .ok (.iload 6, 2) := by decide +kernel
theorem dL_law_431 : decode bL_law 431 = .ok (.i2l, 1) := by decide +kernel
theorem dL_law_432 : decode bL_law 432 = .ok (.lcmp, 1) := by decide +kernel
theorem dL_law_433 : decode bL_law 433 = .ok (.ifCond .eq 5, 3) := by decide +kernel
theorem dL_law_436 : decode bL_law 436 = .ok (.iconst 0, 1) := by decide +kernel
theorem dL_law_437 : decode bL_law 437 = .ok (.ireturn, 1) := by decide +kernel
theorem dL_law_438 : decode bL_law 438 = .ok (.goto 125, 3) := by decide +kernel
theorem dL_law_441 : decode bL_law 441 = .ok (.aload_n 1, 1) := by decide +kernel
theorem dL_law_442 : decode bL_law 442 = .ok (.aload_n 0, 1) := by decide +kernel
theorem dL_law_443 : decode bL_law 443 = .ok (.iload 4, 2) := by decide +kernel
theorem dL_law_445 : decode bL_law 445 = .ok (.iconst 1, 1) := by decide +kernel
theorem dL_law_446 : decode bL_law 446 = .ok (.iadd, 1) := by decide +kernel
theorem dL_law_447 : decode bL_law 447 = .ok (.iaload, 1) := by decide +kernel
theorem dL_law_448 : decode bL_law 448 = .ok (.aload_n 0, 1) := by decide +kernel
theorem dL_law_449 : decode bL_law 449 = .ok (.iload 4, 2) := by decide +kernel
theorem dL_law_451 : decode bL_law 451 = .ok (.iconst 2, 1) := by decide +kernel
theorem dL_law_452 : decode bL_law 452 = .ok (.iadd, 1) := by decide +kernel
theorem dL_law_453 : decode bL_law 453 = .ok (.iaload, 1) := by decide +kernel
theorem dL_law_454 : decode bL_law 454 = .ok (.aload_n 3, 1) := by decide +kernel
theorem dL_law_455 : decode bL_law 455 = .ok (.invokestatic 74, 3) := by decide +kernel
theorem dL_law_458 : decode bL_law 458 = .ok (.istore 5, 2) := by decide +kernel
theorem dL_law_460 : decode bL_law 460 = .ok (.aload_n 2, 1) := by decide +kernel
theorem dL_law_461 : decode bL_law 461 = .ok (.aload_n 0, 1) := by decide +kernel
theorem dL_law_462 : decode bL_law 462 = .ok (.iload 4, 2) := by decide +kernel
theorem dL_law_464 : decode bL_law 464 = .ok (.iconst 1, 1) := by decide +kernel
theorem dL_law_465 : decode bL_law 465 = .ok (.iadd, 1) := by decide +kernel
theorem dL_law_466 : decode bL_law 466 = .ok (.iaload, 1) := by decide +kernel
theorem dL_law_467 : decode bL_law 467 = .ok (.aload_n 0, 1) := by decide +kernel
theorem dL_law_468 : decode bL_law 468 = .ok (.iload 4, 2) := by decide +kernel
theorem dL_law_470 : decode bL_law 470 = .ok (.iconst 2, 1) := by decide +kernel
theorem dL_law_471 : decode bL_law 471 = .ok (.iadd, 1) := by decide +kernel
theorem dL_law_472 : decode bL_law 472 = .ok (.iaload, 1) := by decide +kernel
theorem dL_law_473 : decode bL_law 473 = .ok (.invokevirtual 77, 3) := by decide +kernel
theorem dL_law_476 : decode bL_law 476 = .ok (.lstore 6, 2) := by decide +kernel
theorem dL_law_478 : decode bL_law 478 = .ok (.aload_n 2, 1) := by decide +kernel
theorem dL_law_479 : decode bL_law 479 = .ok (.invokevirtual 51, 3) := by decide +kernel
theorem dL_law_482 : decode bL_law 482 = .ok (.iload 5, 2) := by decide +kernel
theorem dL_law_484 : decode bL_law 484 = .ok (.if_icmp .eq 5, 3) := by decide +kernel
theorem dL_law_487 : decode bL_law 487 = .ok (.iconst 0, 1) := by decide +kernel
theorem dL_law_488 : decode bL_law 488 = .ok (.ireturn, 1) := by decide +kernel
theorem dL_law_489 : decode bL_law 489 = .ok (.iload 5, 2) := by decide +kernel
theorem dL_law_491 : decode bL_law 491 = .ok (.ifCond .ne 14, 3) := by decide +kernel
theorem dL_law_494 : decode bL_law 494 = .ok (.aload_n 3, 1) := by decide +kernel
theorem dL_law_495 : decode bL_law 495 = .ok (.iconst 0, 1) := by decide +kernel
theorem dL_law_496 : decode bL_law 496 = .ok (.laload, 1) := by decide +kernel
theorem dL_law_497 : decode bL_law 497 = .ok (.lload 6, 2) := by decide +kernel
theorem dL_law_499 : decode bL_law 499 = .ok (.lcmp, 1) := by decide +kernel
theorem dL_law_500 : decode bL_law 500 = .ok (.ifCond .eq 5, 3) := by decide +kernel
theorem dL_law_503 : decode bL_law 503 = .ok (.iconst 0, 1) := by decide +kernel
theorem dL_law_504 : decode bL_law 504 = .ok (.ireturn, 1) := by decide +kernel
theorem dL_law_505 : decode bL_law 505 = .ok (.goto 58, 3) := by decide +kernel
theorem dL_law_508 : decode bL_law 508 = .ok (.aload_n 1, 1) := by decide +kernel
theorem dL_law_509 : decode bL_law 509 = .ok (.aload_n 0, 1) := by decide +kernel
theorem dL_law_510 : decode bL_law 510 = .ok (.iload 4, 2) := by decide +kernel
theorem dL_law_512 : decode bL_law 512 = .ok (.iconst 1, 1) := by decide +kernel
theorem dL_law_513 : decode bL_law 513 = .ok (.iadd, 1) := by decide +kernel
theorem dL_law_514 : decode bL_law 514 = .ok (.iaload, 1) := by decide +kernel
theorem dL_law_515 : decode bL_law 515 = .ok (.aload_n 3, 1) := by decide +kernel
theorem dL_law_516 : decode bL_law 516 = .ok (.invokestatic 78, 3) := by decide +kernel
theorem dL_law_519 : decode bL_law 519 = .ok (.istore 5, 2) := by decide +kernel
theorem dL_law_521 : decode bL_law 521 = .ok (.aload_n 2, 1) := by decide +kernel
theorem dL_law_522 : decode bL_law 522 = .ok (.aload_n 0, 1) := by decide +kernel
theorem dL_law_523 : decode bL_law 523 = .ok (.iload 4, 2) := by decide +kernel
theorem dL_law_525 : decode bL_law 525 = .ok (.iconst 1, 1) := by decide +kernel
theorem dL_law_526 : decode bL_law 526 = .ok (.iadd, 1) := by decide +kernel
theorem dL_law_527 : decode bL_law 527 = .ok (.iaload, 1) := by decide +kernel
theorem dL_law_528 : decode bL_law 528 = .ok (.invokevirtual 80, 3) := by decide +kernel
theorem dL_law_531 : decode bL_law 531 = .ok (.lstore 6, 2) := by decide +kernel
theorem dL_law_533 : decode bL_law 533 = .ok (.aload_n 2, 1) := by decide +kernel
theorem dL_law_534 : decode bL_law 534 = .ok (.invokevirtual 51, 3) := by decide +kernel
theorem dL_law_537 : decode bL_law 537 = .ok (.iload 5, 2) := by decide +kernel
theorem dL_law_539 : decode bL_law 539 = .ok (.if_icmp .eq 5, 3) := by decide +kernel
theorem dL_law_542 : decode bL_law 542 = .ok (.iconst 0, 1) := by decide +kernel
theorem dL_law_543 : decode bL_law 543 = .ok (.ireturn, 1) := by decide +kernel
theorem dL_law_544 : decode bL_law 544 = .ok (.iload 5, 2) := by decide +kernel
theorem dL_law_546 : decode bL_law 546 = .ok (.ifCond .ne 14, 3) := by decide +kernel
theorem dL_law_549 : decode bL_law 549 = .ok (.aload_n 3, 1) := by decide +kernel
theorem dL_law_550 : decode bL_law 550 = .ok (.iconst 0, 1) := by decide +kernel
theorem dL_law_551 : decode bL_law 551 = .ok (.laload, 1) := by decide +kernel
theorem dL_law_552 : decode bL_law 552 = .ok (.lload 6, 2) := by decide +kernel
theorem dL_law_554 : decode bL_law 554 = .ok (.lcmp, 1) := by decide +kernel
theorem dL_law_555 : decode bL_law 555 = .ok (.ifCond .eq 5, 3) := by decide +kernel
theorem dL_law_558 : decode bL_law 558 = .ok (.iconst 0, 1) := by decide +kernel
theorem dL_law_559 : decode bL_law 559 = .ok (.ireturn, 1) := by decide +kernel
theorem dL_law_560 : decode bL_law 560 = .ok (.goto 3, 3) := by decide +kernel
theorem dL_law_563 : decode bL_law 563 = .ok (.iinc 4 5, 3) := by decide +kernel
theorem dL_law_566 : decode bL_law 566 = .ok (.goto (-543), 3) := by decide +kernel
theorem dL_law_569 : decode bL_law 569 = .ok (.iconst 1, 1) := by decide +kernel
theorem dL_law_570 : decode bL_law 570 = .ok (.ireturn, 1) := by decide +kernel
