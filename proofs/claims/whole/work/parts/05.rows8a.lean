theorem dX8_init_0 : decode cX8_init 0 = .ok (.aload_n 0, 1) := by decide +kernel
theorem dX8_init_1 : decode cX8_init 1 = .ok (.invokespecial 1, 3) := by decide +kernel
theorem dX8_init_4 : decode cX8_init 4 = .ok (.aload_n 0, 1) := by decide +kernel
theorem dX8_init_5 : decode cX8_init 5 = .ok (.iconst 4, 1) := by decide +kernel
theorem dX8_init_6 : decode cX8_init 6 = .ok (.newarray .int, 2) := by decide +kernel
theorem dX8_init_8 : decode cX8_init 8 = .ok (.dup, 1) := by decide +kernel
theorem dX8_init_9 : decode cX8_init 9 = .ok (.iconst 0, 1) := by decide +kernel
theorem dX8_init_10 : decode cX8_init 10 = .ok (.bipush (-9), 2) := by decide +kernel
theorem dX8_init_12 : decode cX8_init 12 = .ok (.iastore, 1) := by decide +kernel
theorem dX8_init_13 : decode cX8_init 13 = .ok (.dup, 1) := by decide +kernel
theorem dX8_init_14 : decode cX8_init 14 = .ok (.iconst 1, 1) := by decide +kernel
theorem dX8_init_15 : decode cX8_init 15 = .ok (.bipush (-9), 2) := by decide +kernel
theorem dX8_init_17 : decode cX8_init 17 = .ok (.iastore, 1) := by decide +kernel
theorem dX8_init_18 : decode cX8_init 18 = .ok (.dup, 1) := by decide +kernel
theorem dX8_init_19 : decode cX8_init 19 = .ok (.iconst 2, 1) := by decide +kernel
theorem dX8_init_20 : decode cX8_init 20 = .ok (.bipush (-9), 2) := by decide +kernel
theorem dX8_init_22 : decode cX8_init 22 = .ok (.iastore, 1) := by decide +kernel
theorem dX8_init_23 : decode cX8_init 23 = .ok (.dup, 1) := by decide +kernel
theorem dX8_init_24 : decode cX8_init 24 = .ok (.iconst 3, 1) := by decide +kernel
theorem dX8_init_25 : decode cX8_init 25 = .ok (.bipush (-9), 2) := by decide +kernel
theorem dX8_init_27 : decode cX8_init 27 = .ok (.iastore, 1) := by decide +kernel
theorem dX8_init_28 : decode cX8_init 28 = .ok (.putfield 9, 3) := by decide +kernel
theorem dX8_init_31 : decode cX8_init 31 = .ok (.aload_n 0, 1) := by decide +kernel
theorem dX8_init_32 : decode cX8_init 32 = .ok (.iconst 4, 1) := by decide +kernel
theorem dX8_init_33 : decode cX8_init 33 = .ok (.newarray .int, 2) := by decide +kernel
theorem dX8_init_35 : decode cX8_init 35 = .ok (.putfield 13, 3) := by decide +kernel
theorem dX8_init_38 : decode cX8_init 38 = .ok (.aload_n 0, 1) := by decide +kernel
theorem dX8_init_39 : decode cX8_init 39 = .ok (.sipush 160, 3) := by decide +kernel
theorem dX8_init_42 : decode cX8_init 42 = .ok (.newarray .int, 2) := by decide +kernel
theorem dX8_init_44 : decode cX8_init 44 = .ok (.putfield 16, 3) := by decide +kernel
theorem dX8_init_47 : decode cX8_init 47 = .ok (.aload_n 0, 1) := by decide +kernel
theorem dX8_init_48 : decode cX8_init 48 = .ok (.bipush 8, 2) := by decide +kernel
theorem dX8_init_50 : decode cX8_init 50 = .ok (.newarray .int, 2) := by decide +kernel
theorem dX8_init_52 : decode cX8_init 52 = .ok (.putfield 19, 3) := by decide +kernel
theorem dX8_init_55 : decode cX8_init 55 = .ok (.aload_n 0, 1) := by decide +kernel
theorem dX8_init_56 : decode cX8_init 56 = .ok (.bipush 8, 2) := by decide +kernel
theorem dX8_init_58 : decode cX8_init 58 = .ok (.newarray .int, 2) := by decide +kernel
theorem dX8_init_60 : decode cX8_init 60 = .ok (.putfield 22, 3) := by decide +kernel
theorem dX8_init_63 : decode cX8_init 63 = .ok (.aload_n 0, 1) := by decide +kernel
theorem dX8_init_64 : decode cX8_init 64 = .ok (.bipush 8, 2) := by decide +kernel
theorem dX8_init_66 : decode cX8_init 66 = .ok (.newarray .int, 2) := by decide +kernel
theorem dX8_init_68 : decode cX8_init 68 = .ok (.putfield 25, 3) := by decide +kernel
theorem dX8_init_71 : decode cX8_init 71 = .ok (.aload_n 0, 1) := by decide +kernel
theorem dX8_init_72 : decode cX8_init 72 = .ok (.bipush 8, 2) := by decide +kernel
theorem dX8_init_74 : decode cX8_init 74 = .ok (.newarray .int, 2) := by decide +kernel
theorem dX8_init_76 : decode cX8_init 76 = .ok (.putfield 28, 3) := by decide +kernel
theorem dX8_init_79 : decode cX8_init 79 = .ok (.aload_n 0, 1) := by decide +kernel
theorem dX8_init_80 : decode cX8_init 80 = .ok (.bipush 8, 2) := by decide +kernel
theorem dX8_init_82 : decode cX8_init 82 = .ok (.newarray .int, 2) := by decide +kernel
theorem dX8_init_84 : decode cX8_init 84 = .ok (.putfield 31, 3) := by decide +kernel
theorem dX8_init_87 : decode cX8_init 87 = .ok (.aload_n 0, 1) := by decide +kernel
theorem dX8_init_88 : decode cX8_init 88 = .ok (.bipush 8, 2) := by decide +kernel
theorem dX8_init_90 : decode cX8_init 90 = .ok (.newarray .int, 2) := by decide +kernel
theorem dX8_init_92 : decode cX8_init 92 = .ok (.putfield 34, 3) := by decide +kernel
theorem dX8_init_95 : decode cX8_init 95 = .ok (.aload_n 0, 1) := by decide +kernel
theorem dX8_init_96 : decode cX8_init 96 = .ok (.bipush 6, 2) := by decide +kernel
theorem dX8_init_98 : decode cX8_init 98 = .ok (.newarray .int, 2) := by decide +kernel
theorem dX8_init_100 : decode cX8_init 100 = .ok (.putfield 37, 3) := by decide +kernel
theorem dX8_init_103 : decode cX8_init 103 = .ok (.aload_n 0, 1) := by decide +kernel
theorem dX8_init_104 : decode cX8_init 104 = .ok (.bipush 6, 2) := by decide +kernel
theorem dX8_init_106 : decode cX8_init 106 = .ok (.newarray .int, 2) := by decide +kernel
theorem dX8_init_108 : decode cX8_init 108 = .ok (.putfield 40, 3) := by decide +kernel
theorem dX8_init_111 : decode cX8_init 111 = .ok (.aload_n 0, 1) := by decide +kernel
theorem dX8_init_112 : decode cX8_init 112 = .ok (.bipush 6, 2) := by decide +kernel
theorem dX8_init_114 : decode cX8_init 114 = .ok (.newarray .int, 2) := by decide +kernel
theorem dX8_init_116 : decode cX8_init 116 = .ok (.putfield 43, 3) := by decide +kernel
theorem dX8_init_119 : decode cX8_init 119 = .ok (.aload_n 0, 1) := by decide +kernel
theorem dX8_init_120 : decode cX8_init 120 = .ok (.bipush 10, 2) := by decide +kernel
theorem dX8_init_122 : decode cX8_init 122 = .ok (.newarray .int, 2) := by decide +kernel
theorem dX8_init_124 : decode cX8_init 124 = .ok (.putfield 46, 3) := by decide +kernel
theorem dX8_init_127 : decode cX8_init 127 = .ok (.aload_n 0, 1) := by decide +kernel
theorem dX8_init_128 : decode cX8_init 128 = .ok (.bipush 10, 2) := by decide +kernel
theorem dX8_init_130 : decode cX8_init 130 = .ok (.newarray .int, 2) := by decide +kernel
theorem dX8_init_132 : decode cX8_init 132 = .ok (.putfield 49, 3) := by decide +kernel
theorem dX8_init_135 : decode cX8_init 135 = .ok (.aload_n 0, 1) := by decide +kernel
theorem dX8_init_136 : decode cX8_init 136 = .ok (.bipush 10, 2) := by decide +kernel
theorem dX8_init_138 : decode cX8_init 138 = .ok (.newarray .int, 2) := by decide +kernel
theorem dX8_init_140 : decode cX8_init 140 = .ok (.putfield 52, 3) := by decide +kernel
theorem dX8_init_143 : decode cX8_init 143 = .ok (.aload_n 0, 1) := by decide +kernel
theorem dX8_init_144 : decode cX8_init 144 = .ok (.bipush 10, 2) := by decide +kernel
theorem dX8_init_146 : decode cX8_init 146 = .ok (.newarray .int, 2) := by decide +kernel
theorem dX8_init_148 : decode cX8_init 148 = .ok (.putfield 55, 3) := by decide +kernel
theorem dX8_init_151 : decode cX8_init 151 = .ok (.aload_n 0, 1) := by decide +kernel
theorem dX8_init_152 : decode cX8_init 152 = .ok (.bipush 6, 2) := by decide +kernel
theorem dX8_init_154 : decode cX8_init 154 = .ok (.newarray .int, 2) := by decide +kernel
theorem dX8_init_156 : decode cX8_init 156 = .ok (.putfield 58, 3) := by decide +kernel
theorem dX8_init_159 : decode cX8_init 159 = .ok (.aload_n 0, 1) := by decide +kernel
theorem dX8_init_160 : decode cX8_init 160 = .ok (.bipush 8, 2) := by decide +kernel
theorem dX8_init_162 : decode cX8_init 162 = .ok (.newarray .int, 2) := by decide +kernel
theorem dX8_init_164 : decode cX8_init 164 = .ok (.putfield 61, 3) := by decide +kernel
theorem dX8_init_167 : decode cX8_init 167 = .ok (.aload_n 0, 1) := by decide +kernel
theorem dX8_init_168 : decode cX8_init 168 = .ok (.bipush 8, 2) := by decide +kernel
theorem dX8_init_170 : decode cX8_init 170 = .ok (.newarray .int, 2) := by decide +kernel
theorem dX8_init_172 : decode cX8_init 172 = .ok (.putfield 64, 3) := by decide +kernel
theorem dX8_init_175 : decode cX8_init 175 = .ok (.aload_n 0, 1) := by decide +kernel
theorem dX8_init_176 : decode cX8_init 176 = .ok (.bipush 96, 2) := by decide +kernel
theorem dX8_init_178 : decode cX8_init 178 = .ok (.newarray .int, 2) := by decide +kernel
theorem dX8_init_180 : decode cX8_init 180 = .ok (.putfield 67, 3) := by decide +kernel
theorem dX8_init_183 : decode cX8_init 183 = .ok (.aload_n 0, 1) := by decide +kernel
theorem dX8_init_184 : decode cX8_init 184 = .ok (.bipush 96, 2) := by decide +kernel
theorem dX8_init_186 : decode cX8_init 186 = .ok (.newarray .int, 2) := by decide +kernel
theorem dX8_init_188 : decode cX8_init 188 = .ok (.putfield 70, 3) := by decide +kernel
theorem dX8_init_191 : decode cX8_init 191 = .ok (.aload_n 0, 1) := by decide +kernel
theorem dX8_init_192 : decode cX8_init 192 = .ok (.bipush 72, 2) := by decide +kernel
theorem dX8_init_194 : decode cX8_init 194 = .ok (.newarray .int, 2) := by decide +kernel
theorem dX8_init_196 : decode cX8_init 196 = .ok (.putfield 73, 3) := by decide +kernel
theorem dX8_init_199 : decode cX8_init 199 = .ok (.aload_n 0, 1) := by decide +kernel
theorem dX8_init_200 : decode cX8_init 200 = .ok (.bipush 10, 2) := by decide +kernel
theorem dX8_init_202 : decode cX8_init 202 = .ok (.newarray .int, 2) := by decide +kernel
theorem dX8_init_204 : decode cX8_init 204 = .ok (.putfield 76, 3) := by decide +kernel
theorem dX8_init_207 : decode cX8_init 207 = .ok (.aload_n 0, 1) := by decide +kernel
theorem dX8_init_208 : decode cX8_init 208 = .ok (.bipush 10, 2) := by decide +kernel
theorem dX8_init_210 : decode cX8_init 210 = .ok (.newarray .int, 2) := by decide +kernel
theorem dX8_init_212 : decode cX8_init 212 = .ok (.putfield 79, 3) := by decide +kernel
theorem dX8_init_215 : decode cX8_init 215 = .ok (.aload_n 0, 1) := by decide +kernel
theorem dX8_init_216 : decode cX8_init 216 = .ok (.bipush 8, 2) := by decide +kernel
theorem dX8_init_218 : decode cX8_init 218 = .ok (.newarray .int, 2) := by decide +kernel
theorem dX8_init_220 : decode cX8_init 220 = .ok (.putfield 82, 3) := by decide +kernel
theorem dX8_init_223 : decode cX8_init 223 = .ok (.aload_n 0, 1) := by decide +kernel
theorem dX8_init_224 : decode cX8_init 224 = .ok (.bipush 8, 2) := by decide +kernel
theorem dX8_init_226 : decode cX8_init 226 = .ok (.newarray .int, 2) := by decide +kernel
theorem dX8_init_228 : decode cX8_init 228 = .ok (.putfield 85, 3) := by decide +kernel
theorem dX8_init_231 : decode cX8_init 231 = .ok (.aload_n 0, 1) := by decide +kernel
theorem dX8_init_232 : decode cX8_init 232 = .ok (.bipush 97, 2) := by decide +kernel
theorem dX8_init_234 : decode cX8_init 234 = .ok (.newarray .int, 2) := by decide +kernel
theorem dX8_init_236 : decode cX8_init 236 = .ok (.putfield 88, 3) := by decide +kernel
theorem dX8_init_239 : decode cX8_init 239 = .ok (.aload_n 0, 1) := by decide +kernel
theorem dX8_init_240 : decode cX8_init 240 = .ok (.bipush 97, 2) := by decide +kernel
theorem dX8_init_242 : decode cX8_init 242 = .ok (.newarray .int, 2) := by decide +kernel
theorem dX8_init_244 : decode cX8_init 244 = .ok (.putfield 91, 3) := by decide +kernel
theorem dX8_init_247 : decode cX8_init 247 = .ok (.aload_n 0, 1) := by decide +kernel
theorem dX8_init_248 : decode cX8_init 248 = .ok (.sipush 2401, 3) := by decide +kernel
theorem dX8_init_251 : decode cX8_init 251 = .ok (.newarray .int, 2) := by decide +kernel
theorem dX8_init_253 : decode cX8_init 253 = .ok (.putfield 94, 3) := by decide +kernel
theorem dX8_init_256 : decode cX8_init 256 = .ok (.aload_n 0, 1) := by decide +kernel
theorem dX8_init_257 : decode cX8_init 257 = .ok (.sipush 2401, 3) := by decide +kernel
theorem dX8_init_260 : decode cX8_init 260 = .ok (.newarray .int, 2) := by decide +kernel
theorem dX8_init_262 : decode cX8_init 262 = .ok (.putfield 97, 3) := by decide +kernel
theorem dX8_init_265 : decode cX8_init 265 = .ok (.return_, 1) := by decide +kernel
theorem dX8_fails_0 : decode cX8_fails 0 = .ok (.aload_n 0, 1) := by decide +kernel
theorem dX8_fails_1 : decode cX8_fails 1 = .ok (.iload_n 1, 1) := by decide +kernel
theorem dX8_fails_2 : decode cX8_fails 2 = .ok (.putfield 100, 3) := by decide +kernel
theorem dX8_fails_5 : decode cX8_fails 5 = .ok (.bipush (-10), 2) := by decide +kernel
theorem dX8_fails_7 : decode cX8_fails 7 = .ok (.iload_n 1, 1) := by decide +kernel
theorem dX8_fails_8 : decode cX8_fails 8 = .ok (.isub, 1) := by decide +kernel
theorem dX8_fails_9 : decode cX8_fails 9 = .ok (.ireturn, 1) := by decide +kernel
theorem dX8_lost_0 : decode cX8_lost 0 = .ok (.aload_n 0, 1) := by decide +kernel
theorem dX8_lost_1 : decode cX8_lost 1 = .ok (.iload_n 1, 1) := by decide +kernel
theorem dX8_lost_2 : decode cX8_lost 2 = .ok (.putfield 100, 3) := by decide +kernel
theorem dX8_lost_5 : decode cX8_lost 5 = .ok (.ldc2_w 104, 3) := by decide +kernel
theorem dX8_lost_8 : decode cX8_lost 8 = .ok (.lreturn, 1) := by decide +kernel
theorem dX8_within_0 : decode cX8_within 0 = .ok (.iload_n 0, 1) := by decide +kernel
theorem dX8_within_1 : decode cX8_within 1 = .ok (.iload_n 1, 1) := by decide +kernel
theorem dX8_within_2 : decode cX8_within 2 = .ok (.if_icmp .lt 12, 3) := by decide +kernel
theorem dX8_within_5 : decode cX8_within 5 = .ok (.iload_n 0, 1) := by decide +kernel
theorem dX8_within_6 : decode cX8_within 6 = .ok (.iload_n 2, 1) := by decide +kernel
theorem dX8_within_7 : decode cX8_within 7 = .ok (.if_icmp .gt 7, 3) := by decide +kernel
theorem dX8_within_10 : decode cX8_within 10 = .ok (.iconst 1, 1) := by decide +kernel
theorem dX8_within_11 : decode cX8_within 11 = .ok (.goto 4, 3) := by decide +kernel
theorem dX8_within_14 : decode cX8_within 14 = .ok (.iconst 0, 1) := by decide +kernel
theorem dX8_within_15 : decode cX8_within 15 = .ok (.ireturn, 1) := by decide +kernel
theorem dX8_share_0 : decode cX8_share 0 = .ok (.lload_n 0, 1) := by decide +kernel
theorem dX8_share_1 : decode cX8_share 1 = .ok (.lstore 5, 2) := by decide +kernel
theorem dX8_share_3 : decode cX8_share 3 = .ok (.lload_n 2, 1) := by decide +kernel
theorem dX8_share_4 : decode cX8_share 4 = .ok (.lstore 7, 2) := by decide +kernel
theorem dX8_share_6 : decode cX8_share 6 = .ok (.lload 7, 2) := by decide +kernel
theorem dX8_share_8 : decode cX8_share 8 = .ok (.lconst 0, 1) := by decide +kernel
theorem dX8_share_9 : decode cX8_share 9 = .ok (.lcmp, 1) := by decide +kernel
theorem dX8_share_10 : decode cX8_share 10 = .ok (.ifCond .eq 21, 3) := by decide +kernel
theorem dX8_share_13 : decode cX8_share 13 = .ok (.lload 5, 2) := by decide +kernel
theorem dX8_share_15 : decode cX8_share 15 = .ok (.lload 7, 2) := by decide +kernel
theorem dX8_share_17 : decode cX8_share 17 = .ok (.lrem, 1) := by decide +kernel
theorem dX8_share_18 : decode cX8_share 18 = .ok (.lstore 9, 2) := by decide +kernel
theorem dX8_share_20 : decode cX8_share 20 = .ok (.lload 7, 2) := by decide +kernel
theorem dX8_share_22 : decode cX8_share 22 = .ok (.lstore 5, 2) := by decide +kernel
theorem dX8_share_24 : decode cX8_share 24 = .ok (.lload 9, 2) := by decide +kernel
theorem dX8_share_26 : decode cX8_share 26 = .ok (.lstore 7, 2) := by decide +kernel
theorem dX8_share_28 : decode cX8_share 28 = .ok (.goto (-22), 3) := by decide +kernel
theorem dX8_share_31 : decode cX8_share 31 = .ok (.iload 4, 2) := by decide +kernel
theorem dX8_share_33 : decode cX8_share 33 = .ok (.ifCond .ne 10, 3) := by decide +kernel
theorem dX8_share_36 : decode cX8_share 36 = .ok (.lload_n 0, 1) := by decide +kernel
theorem dX8_share_37 : decode cX8_share 37 = .ok (.lload 5, 2) := by decide +kernel
theorem dX8_share_39 : decode cX8_share 39 = .ok (.ldiv, 1) := by decide +kernel
theorem dX8_share_40 : decode cX8_share 40 = .ok (.goto 7, 3) := by decide +kernel
theorem dX8_share_43 : decode cX8_share 43 = .ok (.lload_n 2, 1) := by decide +kernel
theorem dX8_share_44 : decode cX8_share 44 = .ok (.lload 5, 2) := by decide +kernel
theorem dX8_share_46 : decode cX8_share 46 = .ok (.ldiv, 1) := by decide +kernel
theorem dX8_share_47 : decode cX8_share 47 = .ok (.lreturn, 1) := by decide +kernel
set_option maxRecDepth 20000 in
theorem ggX8_isSheet_X8_within : GoodIn wsX8_isSheet wsX8_within := goodIn_r _ [4] (by decide +kernel) (by decide +kernel)
set_option maxRecDepth 20000 in
theorem gX8_isSheet_X8_within : GoodIn wsX8_isSheet (va_wsS RX8 106 yX8_within wsX8_within) := goodIn_app (goodIn_of _ (by decide +kernel)) ggX8_isSheet_X8_within
theorem dX8_isSheet_0 : decode cX8_isSheet 0 = .ok (.iload_n 0, 1) := by decide +kernel
theorem dX8_isSheet_1 : decode cX8_isSheet 1 = .ok (.iconst 0, 1) := by decide +kernel
theorem dX8_isSheet_2 : decode cX8_isSheet 2 = .ok (.iconst 3, 1) := by decide +kernel
theorem dX8_isSheet_3 : decode cX8_isSheet 3 = .ok (.invokestatic 106, 3) := by decide +kernel
theorem dX8_isSheet_6 : decode cX8_isSheet 6 = .ok (.ireturn, 1) := by decide +kernel
set_option maxRecDepth 20000 in
theorem ggX8_isSort_X8_within : GoodIn wsX8_isSort wsX8_within := goodIn_r _ [4] (by decide +kernel) (by decide +kernel)
set_option maxRecDepth 20000 in
theorem gX8_isSort_X8_within : GoodIn wsX8_isSort (va_wsS RX8 106 yX8_within wsX8_within) := goodIn_app (goodIn_of _ (by decide +kernel)) ggX8_isSort_X8_within
theorem dX8_isSort_0 : decode cX8_isSort 0 = .ok (.iload_n 0, 1) := by decide +kernel
theorem dX8_isSort_1 : decode cX8_isSort 1 = .ok (.iconst 0, 1) := by decide +kernel
theorem dX8_isSort_2 : decode cX8_isSort 2 = .ok (.iconst 2, 1) := by decide +kernel
theorem dX8_isSort_3 : decode cX8_isSort 3 = .ok (.invokestatic 106, 3) := by decide +kernel
theorem dX8_isSort_6 : decode cX8_isSort 6 = .ok (.ireturn, 1) := by decide +kernel
theorem dX8_against_0 : decode cX8_against 0 = .ok (.aload_n 0, 1) := by decide +kernel
theorem dX8_against_1 : decode cX8_against 1 = .ok (.getfield 9, 3) := by decide +kernel
theorem dX8_against_4 : decode cX8_against 4 = .ok (.iload_n 1, 1) := by decide +kernel
theorem dX8_against_5 : decode cX8_against 5 = .ok (.iaload, 1) := by decide +kernel
theorem dX8_against_6 : decode cX8_against 6 = .ok (.bipush (-9), 2) := by decide +kernel
theorem dX8_against_8 : decode cX8_against 8 = .ok (.if_icmp .eq 15, 3) := by decide +kernel
theorem dX8_against_11 : decode cX8_against 11 = .ok (.aload_n 0, 1) := by decide +kernel
theorem dX8_against_12 : decode cX8_against 12 = .ok (.getfield 9, 3) := by decide +kernel
theorem dX8_against_15 : decode cX8_against 15 = .ok (.iload_n 1, 1) := by decide +kernel
theorem dX8_against_16 : decode cX8_against 16 = .ok (.iaload, 1) := by decide +kernel
theorem dX8_against_17 : decode cX8_against 17 = .ok (.iload_n 2, 1) := by decide +kernel
theorem dX8_against_18 : decode cX8_against 18 = .ok (.if_icmp .eq 5, 3) := by decide +kernel
theorem dX8_against_21 : decode cX8_against 21 = .ok (.iconst 2, 1) := by decide +kernel
theorem dX8_against_22 : decode cX8_against 22 = .ok (.ireturn, 1) := by decide +kernel
theorem dX8_against_23 : decode cX8_against 23 = .ok (.aload_n 0, 1) := by decide +kernel
theorem dX8_against_24 : decode cX8_against 24 = .ok (.getfield 9, 3) := by decide +kernel
theorem dX8_against_27 : decode cX8_against 27 = .ok (.iload_n 1, 1) := by decide +kernel
theorem dX8_against_28 : decode cX8_against 28 = .ok (.iaload, 1) := by decide +kernel
theorem dX8_against_29 : decode cX8_against 29 = .ok (.bipush (-9), 2) := by decide +kernel
theorem dX8_against_31 : decode cX8_against 31 = .ok (.if_icmp .ne 5, 3) := by decide +kernel
theorem dX8_against_34 : decode cX8_against 34 = .ok (.iconst 1, 1) := by decide +kernel
theorem dX8_against_35 : decode cX8_against 35 = .ok (.ireturn, 1) := by decide +kernel
theorem dX8_against_36 : decode cX8_against 36 = .ok (.iload 4, 2) := by decide +kernel
theorem dX8_against_38 : decode cX8_against 38 = .ok (.ifCond .ge 5, 3) := by decide +kernel
theorem dX8_against_41 : decode cX8_against 41 = .ok (.iconst 4, 1) := by decide +kernel
theorem dX8_against_42 : decode cX8_against 42 = .ok (.ireturn, 1) := by decide +kernel
theorem dX8_against_43 : decode cX8_against 43 = .ok (.iload_n 3, 1) := by decide +kernel
theorem dX8_against_44 : decode cX8_against 44 = .ok (.ifCond .lt 26, 3) := by decide +kernel
theorem dX8_against_47 : decode cX8_against 47 = .ok (.iload_n 3, 1) := by decide +kernel
theorem dX8_against_48 : decode cX8_against 48 = .ok (.aload_n 0, 1) := by decide +kernel
theorem dX8_against_49 : decode cX8_against 49 = .ok (.getfield 13, 3) := by decide +kernel
theorem dX8_against_52 : decode cX8_against 52 = .ok (.iload_n 1, 1) := by decide +kernel
theorem dX8_against_53 : decode cX8_against 53 = .ok (.iaload, 1) := by decide +kernel
theorem dX8_against_54 : decode cX8_against 54 = .ok (.if_icmp .gt 16, 3) := by decide +kernel
theorem dX8_against_57 : decode cX8_against 57 = .ok (.iload 4, 2) := by decide +kernel
theorem dX8_against_59 : decode cX8_against 59 = .ok (.aload_n 0, 1) := by decide +kernel
theorem dX8_against_60 : decode cX8_against 60 = .ok (.getfield 13, 3) := by decide +kernel
theorem dX8_against_63 : decode cX8_against 63 = .ok (.iload_n 1, 1) := by decide +kernel
theorem dX8_against_64 : decode cX8_against 64 = .ok (.iaload, 1) := by decide +kernel
theorem dX8_against_65 : decode cX8_against 65 = .ok (.iload_n 3, 1) := by decide +kernel
theorem dX8_against_66 : decode cX8_against 66 = .ok (.isub, 1) := by decide +kernel
theorem dX8_against_67 : decode cX8_against 67 = .ok (.if_icmp .le 7, 3) := by decide +kernel
theorem dX8_against_70 : decode cX8_against 70 = .ok (.iconst 3, 1) := by decide +kernel
theorem dX8_against_71 : decode cX8_against 71 = .ok (.goto 4, 3) := by decide +kernel
theorem dX8_against_74 : decode cX8_against 74 = .ok (.iconst 0, 1) := by decide +kernel
theorem dX8_against_75 : decode cX8_against 75 = .ok (.ireturn, 1) := by decide +kernel
theorem dX8_isPlain_0 : decode cX8_isPlain 0 = .ok (.aload_n 0, 1) := by decide +kernel
theorem dX8_isPlain_1 : decode cX8_isPlain 1 = .ok (.getfield 110, 3) := by decide +kernel
theorem dX8_isPlain_4 : decode cX8_isPlain 4 = .ok (.ifCond .le 7, 3) := by decide +kernel
theorem dX8_isPlain_7 : decode cX8_isPlain 7 = .ok (.iconst 1, 1) := by decide +kernel
theorem dX8_isPlain_8 : decode cX8_isPlain 8 = .ok (.goto 4, 3) := by decide +kernel
theorem dX8_isPlain_11 : decode cX8_isPlain 11 = .ok (.iconst 0, 1) := by decide +kernel
theorem dX8_isPlain_12 : decode cX8_isPlain 12 = .ok (.ireturn, 1) := by decide +kernel
theorem dX8_isField_0 : decode cX8_isField 0 = .ok (.iload_n 1, 1) := by decide +kernel
theorem dX8_isField_1 : decode cX8_isField 1 = .ok (.ifCond .lt 15, 3) := by decide +kernel
theorem dX8_isField_4 : decode cX8_isField 4 = .ok (.iload_n 1, 1) := by decide +kernel
theorem dX8_isField_5 : decode cX8_isField 5 = .ok (.aload_n 0, 1) := by decide +kernel
theorem dX8_isField_6 : decode cX8_isField 6 = .ok (.getfield 110, 3) := by decide +kernel
theorem dX8_isField_9 : decode cX8_isField 9 = .ok (.if_icmp .ge 7, 3) := by decide +kernel
theorem dX8_isField_12 : decode cX8_isField 12 = .ok (.iconst 1, 1) := by decide +kernel
theorem dX8_isField_13 : decode cX8_isField 13 = .ok (.goto 4, 3) := by decide +kernel
theorem dX8_isField_16 : decode cX8_isField 16 = .ok (.iconst 0, 1) := by decide +kernel
theorem dX8_isField_17 : decode cX8_isField 17 = .ok (.ireturn, 1) := by decide +kernel
set_option maxRecDepth 20000 in
theorem ggX8_digit_X8_within : GoodIn wsX8_digit wsX8_within := goodIn_r _ [6] (by decide +kernel) (by decide +kernel)
set_option maxRecDepth 20000 in
theorem gX8_digit_X8_within : GoodIn wsX8_digit (va_wsS RX8 106 yX8_within wsX8_within) := goodIn_app (goodIn_of _ (by decide +kernel)) ggX8_digit_X8_within
theorem dX8_digit_0 : decode cX8_digit 0 = .ok (.aload_n 0, 1) := by decide +kernel
theorem dX8_digit_1 : decode cX8_digit 1 = .ok (.getfield 113, 3) := by decide +kernel
theorem dX8_digit_4 : decode cX8_digit 4 = .ok (.iload_n 1, 1) := by decide +kernel
theorem dX8_digit_5 : decode cX8_digit 5 = .ok (.if_icmp .ge 24, 3) := by decide +kernel
theorem dX8_digit_8 : decode cX8_digit 8 = .ok (.aload_n 0, 1) := by decide +kernel
theorem dX8_digit_9 : decode cX8_digit 9 = .ok (.getfield 16, 3) := by decide +kernel
theorem dX8_digit_12 : decode cX8_digit 12 = .ok (.aload_n 0, 1) := by decide +kernel
theorem dX8_digit_13 : decode cX8_digit 13 = .ok (.getfield 113, 3) := by decide +kernel
theorem dX8_digit_16 : decode cX8_digit 16 = .ok (.iaload, 1) := by decide +kernel
theorem dX8_digit_17 : decode cX8_digit 17 = .ok (.bipush 48, 2) := by decide +kernel
theorem dX8_digit_19 : decode cX8_digit 19 = .ok (.bipush 48, 2) := by decide +kernel
theorem dX8_digit_21 : decode cX8_digit 21 = .ok (.iload_n 2, 1) := by decide +kernel
theorem dX8_digit_22 : decode cX8_digit 22 = .ok (.iadd, 1) := by decide +kernel
theorem dX8_digit_23 : decode cX8_digit 23 = .ok (.invokestatic 106, 3) := by decide +kernel
theorem dX8_digit_26 : decode cX8_digit 26 = .ok (.ifCond .ne 6, 3) := by decide +kernel
theorem dX8_digit_29 : decode cX8_digit 29 = .ok (.bipush (-9), 2) := by decide +kernel
theorem dX8_digit_31 : decode cX8_digit 31 = .ok (.ireturn, 1) := by decide +kernel
theorem dX8_digit_32 : decode cX8_digit 32 = .ok (.aload_n 0, 1) := by decide +kernel
theorem dX8_digit_33 : decode cX8_digit 33 = .ok (.dup, 1) := by decide +kernel
theorem dX8_digit_34 : decode cX8_digit 34 = .ok (.getfield 113, 3) := by decide +kernel
theorem dX8_digit_37 : decode cX8_digit 37 = .ok (.iconst 1, 1) := by decide +kernel
theorem dX8_digit_38 : decode cX8_digit 38 = .ok (.iadd, 1) := by decide +kernel
theorem dX8_digit_39 : decode cX8_digit 39 = .ok (.putfield 113, 3) := by decide +kernel
theorem dX8_digit_42 : decode cX8_digit 42 = .ok (.aload_n 0, 1) := by decide +kernel
theorem dX8_digit_43 : decode cX8_digit 43 = .ok (.getfield 16, 3) := by decide +kernel
theorem dX8_digit_46 : decode cX8_digit 46 = .ok (.aload_n 0, 1) := by decide +kernel
theorem dX8_digit_47 : decode cX8_digit 47 = .ok (.getfield 113, 3) := by decide +kernel
theorem dX8_digit_50 : decode cX8_digit 50 = .ok (.iconst 1, 1) := by decide +kernel
theorem dX8_digit_51 : decode cX8_digit 51 = .ok (.isub, 1) := by decide +kernel
theorem dX8_digit_52 : decode cX8_digit 52 = .ok (.iaload, 1) := by decide +kernel
theorem dX8_digit_53 : decode cX8_digit 53 = .ok (.bipush 48, 2) := by decide +kernel
theorem dX8_digit_55 : decode cX8_digit 55 = .ok (.isub, 1) := by decide +kernel
theorem dX8_digit_56 : decode cX8_digit 56 = .ok (.ireturn, 1) := by decide +kernel
set_option maxRecDepth 20000 in
theorem ggX8_plain_X8_isSheet : GoodIn wsX8_plain wsX8_isSheet := goodIn_r _ [19, 20, 21, 18, 22] (by decide +kernel) (by decide +kernel)
set_option maxRecDepth 20000 in
theorem gX8_plain_X8_isSheet : GoodIn wsX8_plain (va_wsS RX8 116 yX8_isSheet wsX8_isSheet) := goodIn_app (goodIn_of _ (by decide +kernel)) ggX8_plain_X8_isSheet
set_option maxRecDepth 20000 in
theorem ggX8_plain_X8_isSort : GoodIn wsX8_plain wsX8_isSort := goodIn_r _ [25, 20, 21, 18, 22] (by decide +kernel) (by decide +kernel)
set_option maxRecDepth 20000 in
theorem gX8_plain_X8_isSort : GoodIn wsX8_plain (va_wsS RX8 120 yX8_isSort wsX8_isSort) := goodIn_app (goodIn_of _ (by decide +kernel)) ggX8_plain_X8_isSort
set_option maxRecDepth 20000 in
theorem ggX8_plain_X8_against : GoodIn wsX8_plain wsX8_against := goodIn_r _ [29, 30, 31, 45, 46, 47, 48, 49, 50, 51, 52, 53, 54, 55, 56, 57, 58, 59, 60, 61, 62, 63, 64, 65, 66, 67, 68, 69, 70, 71, 72, 73, 74, 75, 76, 77, 78, 79, 80, 81, 82, 83, 84, 85, 86, 87, 88] (by decide +kernel) (by decide +kernel)
set_option maxRecDepth 20000 in
theorem gX8_plain_X8_against : GoodIn wsX8_plain (wsV RX8 123 RX8 yX8_against wsX8_against) := goodIn_app (goodIn_of _ (by decide +kernel)) ggX8_plain_X8_against
set_option maxRecDepth 20000 in
theorem ggX8_plain_X8_fails : GoodIn wsX8_plain wsX8_fails := goodIn_r _ [35, 1, 45, 46, 47, 48, 49, 50, 51, 52, 53, 54, 55, 56, 57, 58, 59, 60, 61, 62, 63, 64, 65, 66, 67, 68, 69, 70, 71, 72, 73, 74, 75, 76, 77, 78, 79, 80, 81, 82, 83, 84, 85, 86, 87, 88] (by decide +kernel) (by decide +kernel)
set_option maxRecDepth 20000 in
theorem gX8_plain_X8_fails : GoodIn wsX8_plain (wsV RX8 127 RX8 yX8_fails wsX8_fails) := goodIn_app (goodIn_of _ (by decide +kernel)) ggX8_plain_X8_fails
set_option maxRecDepth 20000 in
theorem ggX8_plain_X8_readPlain : GoodIn wsX8_plain wsX8_readPlain := goodIn_r _ [39, 3, 2, 40, 6, 8, 10, 41, 42, 43, 18, 44, 20, 21, 22, 45, 46, 47, 48, 49, 50, 51, 52, 53, 54, 55, 56, 57, 58, 59, 60, 61, 62, 63, 64, 65, 66, 67, 68, 69, 70, 71, 72, 73, 74, 75, 76, 77, 78, 79, 80, 81, 82, 83, 84, 85, 86, 87, 88] (by decide +kernel) (by decide +kernel)
set_option maxRecDepth 20000 in
theorem gX8_plain_X8_readPlain : GoodIn wsX8_plain (wsV RX8 131 RX8 yX8_readPlain wsX8_readPlain) := goodIn_app (goodIn_of _ (by decide +kernel)) ggX8_plain_X8_readPlain
theorem dX8_plain_0 : decode cX8_plain 0 = .ok (.aload_n 0, 1) := by decide +kernel
theorem dX8_plain_1 : decode cX8_plain 1 = .ok (.iconst 0, 1) := by decide +kernel
theorem dX8_plain_2 : decode cX8_plain 2 = .ok (.putfield 100, 3) := by decide +kernel
theorem dX8_plain_5 : decode cX8_plain 5 = .ok (.iload_n 1, 1) := by decide +kernel
theorem dX8_plain_6 : decode cX8_plain 6 = .ok (.invokestatic 116, 3) := by decide +kernel
theorem dX8_plain_9 : decode cX8_plain 9 = .ok (.ifCond .ne 5, 3) := by decide +kernel
theorem dX8_plain_12 : decode cX8_plain 12 = .ok (.iconst (-1), 1) := by decide +kernel
theorem dX8_plain_13 : decode cX8_plain 13 = .ok (.ireturn, 1) := by decide +kernel
theorem dX8_plain_14 : decode cX8_plain 14 = .ok (.iload_n 2, 1) := by decide +kernel
theorem dX8_plain_15 : decode cX8_plain 15 = .ok (.invokestatic 120, 3) := by decide +kernel
theorem dX8_plain_18 : decode cX8_plain 18 = .ok (.ifCond .ne 6, 3) := by decide +kernel
theorem dX8_plain_21 : decode cX8_plain 21 = .ok (.bipush (-2), 2) := by decide +kernel
theorem dX8_plain_23 : decode cX8_plain 23 = .ok (.ireturn, 1) := by decide +kernel
theorem dX8_plain_24 : decode cX8_plain 24 = .ok (.aload_n 0, 1) := by decide +kernel
theorem dX8_plain_25 : decode cX8_plain 25 = .ok (.iload_n 1, 1) := by decide +kernel
theorem dX8_plain_26 : decode cX8_plain 26 = .ok (.iload_n 2, 1) := by decide +kernel
theorem dX8_plain_27 : decode cX8_plain 27 = .ok (.iload_n 3, 1) := by decide +kernel
theorem dX8_plain_28 : decode cX8_plain 28 = .ok (.iload 4, 2) := by decide +kernel
theorem dX8_plain_30 : decode cX8_plain 30 = .ok (.invokevirtual 123, 3) := by decide +kernel
theorem dX8_plain_33 : decode cX8_plain 33 = .ok (.istore 5, 2) := by decide +kernel
theorem dX8_plain_35 : decode cX8_plain 35 = .ok (.iload 5, 2) := by decide +kernel
theorem dX8_plain_37 : decode cX8_plain 37 = .ok (.ifCond .eq 10, 3) := by decide +kernel
theorem dX8_plain_40 : decode cX8_plain 40 = .ok (.aload_n 0, 1) := by decide +kernel
theorem dX8_plain_41 : decode cX8_plain 41 = .ok (.iload 5, 2) := by decide +kernel
theorem dX8_plain_43 : decode cX8_plain 43 = .ok (.invokevirtual 127, 3) := by decide +kernel
theorem dX8_plain_46 : decode cX8_plain 46 = .ok (.ireturn, 1) := by decide +kernel
theorem dX8_plain_47 : decode cX8_plain 47 = .ok (.bipush 40, 2) := by decide +kernel
theorem dX8_plain_49 : decode cX8_plain 49 = .ok (.iload_n 1, 1) := by decide +kernel
theorem dX8_plain_50 : decode cX8_plain 50 = .ok (.imul, 1) := by decide +kernel
theorem dX8_plain_51 : decode cX8_plain 51 = .ok (.iload_n 3, 1) := by decide +kernel
theorem dX8_plain_52 : decode cX8_plain 52 = .ok (.iadd, 1) := by decide +kernel
theorem dX8_plain_53 : decode cX8_plain 53 = .ok (.istore 6, 2) := by decide +kernel
theorem dX8_plain_55 : decode cX8_plain 55 = .ok (.aload_n 0, 1) := by decide +kernel
theorem dX8_plain_56 : decode cX8_plain 56 = .ok (.iload 6, 2) := by decide +kernel
theorem dX8_plain_58 : decode cX8_plain 58 = .ok (.putfield 113, 3) := by decide +kernel
theorem dX8_plain_61 : decode cX8_plain 61 = .ok (.aload_n 0, 1) := by decide +kernel
theorem dX8_plain_62 : decode cX8_plain 62 = .ok (.iload 6, 2) := by decide +kernel
theorem dX8_plain_64 : decode cX8_plain 64 = .ok (.iload 4, 2) := by decide +kernel
theorem dX8_plain_66 : decode cX8_plain 66 = .ok (.iadd, 1) := by decide +kernel
theorem dX8_plain_67 : decode cX8_plain 67 = .ok (.invokevirtual 131, 3) := by decide +kernel
theorem dX8_plain_70 : decode cX8_plain 70 = .ok (.ifCond .ne 14, 3) := by decide +kernel
theorem dX8_plain_73 : decode cX8_plain 73 = .ok (.bipush (-100), 2) := by decide +kernel
theorem dX8_plain_75 : decode cX8_plain 75 = .ok (.aload_n 0, 1) := by decide +kernel
theorem dX8_plain_76 : decode cX8_plain 76 = .ok (.getfield 113, 3) := by decide +kernel
theorem dX8_plain_79 : decode cX8_plain 79 = .ok (.iload 6, 2) := by decide +kernel
theorem dX8_plain_81 : decode cX8_plain 81 = .ok (.isub, 1) := by decide +kernel
theorem dX8_plain_82 : decode cX8_plain 82 = .ok (.isub, 1) := by decide +kernel
theorem dX8_plain_83 : decode cX8_plain 83 = .ok (.ireturn, 1) := by decide +kernel
theorem dX8_plain_84 : decode cX8_plain 84 = .ok (.aload_n 0, 1) := by decide +kernel
theorem dX8_plain_85 : decode cX8_plain 85 = .ok (.aload_n 0, 1) := by decide +kernel
theorem dX8_plain_86 : decode cX8_plain 86 = .ok (.getfield 134, 3) := by decide +kernel
theorem dX8_plain_89 : decode cX8_plain 89 = .ok (.putfield 110, 3) := by decide +kernel
theorem dX8_plain_92 : decode cX8_plain 92 = .ok (.iconst 0, 1) := by decide +kernel
theorem dX8_plain_93 : decode cX8_plain 93 = .ok (.istore 7, 2) := by decide +kernel
theorem dX8_plain_95 : decode cX8_plain 95 = .ok (.iload 7, 2) := by decide +kernel
theorem dX8_plain_97 : decode cX8_plain 97 = .ok (.aload_n 0, 1) := by decide +kernel
theorem dX8_plain_98 : decode cX8_plain 98 = .ok (.getfield 110, 3) := by decide +kernel
theorem dX8_plain_101 : decode cX8_plain 101 = .ok (.if_icmp .ge 51, 3) := by decide +kernel
theorem dX8_plain_104 : decode cX8_plain 104 = .ok (.aload_n 0, 1) := by decide +kernel
theorem dX8_plain_105 : decode cX8_plain 105 = .ok (.getfield 19, 3) := by decide +kernel
theorem dX8_plain_108 : decode cX8_plain 108 = .ok (.iload 7, 2) := by decide +kernel
theorem dX8_plain_110 : decode cX8_plain 110 = .ok (.aload_n 0, 1) := by decide +kernel
theorem dX8_plain_111 : decode cX8_plain 111 = .ok (.getfield 28, 3) := by decide +kernel
theorem dX8_plain_114 : decode cX8_plain 114 = .ok (.iload 7, 2) := by decide +kernel
theorem dX8_plain_116 : decode cX8_plain 116 = .ok (.iaload, 1) := by decide +kernel
theorem dX8_plain_117 : decode cX8_plain 117 = .ok (.iastore, 1) := by decide +kernel
theorem dX8_plain_118 : decode cX8_plain 118 = .ok (.aload_n 0, 1) := by decide +kernel
theorem dX8_plain_119 : decode cX8_plain 119 = .ok (.getfield 22, 3) := by decide +kernel
theorem dX8_plain_122 : decode cX8_plain 122 = .ok (.iload 7, 2) := by decide +kernel
theorem dX8_plain_124 : decode cX8_plain 124 = .ok (.aload_n 0, 1) := by decide +kernel
theorem dX8_plain_125 : decode cX8_plain 125 = .ok (.getfield 31, 3) := by decide +kernel
theorem dX8_plain_128 : decode cX8_plain 128 = .ok (.iload 7, 2) := by decide +kernel
theorem dX8_plain_130 : decode cX8_plain 130 = .ok (.iaload, 1) := by decide +kernel
theorem dX8_plain_131 : decode cX8_plain 131 = .ok (.iastore, 1) := by decide +kernel
theorem dX8_plain_132 : decode cX8_plain 132 = .ok (.aload_n 0, 1) := by decide +kernel
theorem dX8_plain_133 : decode cX8_plain 133 = .ok (.getfield 25, 3) := by decide +kernel
theorem dX8_plain_136 : decode cX8_plain 136 = .ok (.iload 7, 2) := by decide +kernel
theorem dX8_plain_138 : decode cX8_plain 138 = .ok (.aload_n 0, 1) := by decide +kernel
theorem dX8_plain_139 : decode cX8_plain 139 = .ok (.getfield 34, 3) := by decide +kernel
theorem dX8_plain_142 : decode cX8_plain 142 = .ok (.iload 7, 2) := by decide +kernel
theorem dX8_plain_144 : decode cX8_plain 144 = .ok (.iaload, 1) := by decide +kernel
theorem dX8_plain_145 : decode cX8_plain 145 = .ok (.iastore, 1) := by decide +kernel
theorem dX8_plain_146 : decode cX8_plain 146 = .ok (.iinc 7 1, 3) := by decide +kernel
theorem dX8_plain_149 : decode cX8_plain 149 = .ok (.goto (-54), 3) := by decide +kernel
theorem dX8_plain_152 : decode cX8_plain 152 = .ok (.aload_n 0, 1) := by decide +kernel
theorem dX8_plain_153 : decode cX8_plain 153 = .ok (.iconst 0, 1) := by decide +kernel
theorem dX8_plain_154 : decode cX8_plain 154 = .ok (.putfield 137, 3) := by decide +kernel
theorem dX8_plain_157 : decode cX8_plain 157 = .ok (.aload_n 0, 1) := by decide +kernel
theorem dX8_plain_158 : decode cX8_plain 158 = .ok (.iconst 0, 1) := by decide +kernel
theorem dX8_plain_159 : decode cX8_plain 159 = .ok (.putfield 140, 3) := by decide +kernel
theorem dX8_plain_162 : decode cX8_plain 162 = .ok (.aload_n 0, 1) := by decide +kernel
theorem dX8_plain_163 : decode cX8_plain 163 = .ok (.iconst 0, 1) := by decide +kernel
theorem dX8_plain_164 : decode cX8_plain 164 = .ok (.putfield 143, 3) := by decide +kernel
theorem dX8_plain_167 : decode cX8_plain 167 = .ok (.aload_n 0, 1) := by decide +kernel
theorem dX8_plain_168 : decode cX8_plain 168 = .ok (.iconst 0, 1) := by decide +kernel
theorem dX8_plain_169 : decode cX8_plain 169 = .ok (.putfield 146, 3) := by decide +kernel
theorem dX8_plain_172 : decode cX8_plain 172 = .ok (.aload_n 0, 1) := by decide +kernel
theorem dX8_plain_173 : decode cX8_plain 173 = .ok (.iconst 0, 1) := by decide +kernel
theorem dX8_plain_174 : decode cX8_plain 174 = .ok (.putfield 149, 3) := by decide +kernel
theorem dX8_plain_177 : decode cX8_plain 177 = .ok (.aload_n 0, 1) := by decide +kernel
theorem dX8_plain_178 : decode cX8_plain 178 = .ok (.getfield 110, 3) := by decide +kernel
theorem dX8_plain_181 : decode cX8_plain 181 = .ok (.ireturn, 1) := by decide +kernel
set_option maxRecDepth 20000 in
theorem ggX8_readPlain_X8_digit : GoodIn wsX8_readPlain wsX8_digit := goodIn_r _ [11, 2, 3, 12, 13, 10, 14, 15, 16, 17, 18, 19, 20, 21, 22, 23, 24, 25, 26, 27, 28, 29, 30, 31, 32, 33, 34, 35, 36, 37, 38, 39, 40, 41, 42, 43, 44, 45, 46, 47, 48, 49, 50, 51, 52, 53, 54, 55, 56, 57, 58] (by decide +kernel) (by decide +kernel)
set_option maxRecDepth 20000 in
theorem gX8_readPlain_X8_digit : GoodIn wsX8_readPlain (wsV RX8 152 RX8 yX8_digit wsX8_digit) := goodIn_app (goodIn_of _ (by decide +kernel)) ggX8_readPlain_X8_digit
theorem dX8_readPlain_0 : decode cX8_readPlain 0 = .ok (.aload_n 0, 1) := by decide +kernel
theorem dX8_readPlain_1 : decode cX8_readPlain 1 = .ok (.iconst 0, 1) := by decide +kernel
theorem dX8_readPlain_2 : decode cX8_readPlain 2 = .ok (.putfield 134, 3) := by decide +kernel
theorem dX8_readPlain_5 : decode cX8_readPlain 5 = .ok (.aload_n 0, 1) := by decide +kernel
theorem dX8_readPlain_6 : decode cX8_readPlain 6 = .ok (.getfield 134, 3) := by decide +kernel
theorem dX8_readPlain_9 : decode cX8_readPlain 9 = .ok (.iconst 2, 1) := by decide +kernel
theorem dX8_readPlain_10 : decode cX8_readPlain 10 = .ok (.if_icmp .lt 11, 3) := by decide +kernel
theorem dX8_readPlain_13 : decode cX8_readPlain 13 = .ok (.aload_n 0, 1) := by decide +kernel
theorem dX8_readPlain_14 : decode cX8_readPlain 14 = .ok (.getfield 113, 3) := by decide +kernel
theorem dX8_readPlain_17 : decode cX8_readPlain 17 = .ok (.iload_n 1, 1) := by decide +kernel
theorem dX8_readPlain_18 : decode cX8_readPlain 18 = .ok (.if_icmp .ge 154, 3) := by decide +kernel
theorem dX8_readPlain_21 : decode cX8_readPlain 21 = .ok (.aload_n 0, 1) := by decide +kernel
theorem dX8_readPlain_22 : decode cX8_readPlain 22 = .ok (.getfield 134, 3) := by decide +kernel
theorem dX8_readPlain_25 : decode cX8_readPlain 25 = .ok (.ifCond .le 46, 3) := by decide +kernel
theorem dX8_readPlain_28 : decode cX8_readPlain 28 = .ok (.aload_n 0, 1) := by decide +kernel
theorem dX8_readPlain_29 : decode cX8_readPlain 29 = .ok (.getfield 134, 3) := by decide +kernel
theorem dX8_readPlain_32 : decode cX8_readPlain 32 = .ok (.bipush 8, 2) := by decide +kernel
theorem dX8_readPlain_34 : decode cX8_readPlain 34 = .ok (.if_icmp .eq 25, 3) := by decide +kernel
theorem dX8_readPlain_37 : decode cX8_readPlain 37 = .ok (.aload_n 0, 1) := by decide +kernel
theorem dX8_readPlain_38 : decode cX8_readPlain 38 = .ok (.getfield 113, 3) := by decide +kernel
theorem dX8_readPlain_41 : decode cX8_readPlain 41 = .ok (.iload_n 1, 1) := by decide +kernel
theorem dX8_readPlain_42 : decode cX8_readPlain 42 = .ok (.if_icmp .ge 17, 3) := by decide +kernel
theorem dX8_readPlain_45 : decode cX8_readPlain 45 = .ok (.aload_n 0, 1) := by decide +kernel
theorem dX8_readPlain_46 : decode cX8_readPlain 46 = .ok (.getfield 16, 3) := by decide +kernel
theorem dX8_readPlain_49 : decode cX8_readPlain 49 = .ok (.aload_n 0, 1) := by decide +kernel
theorem dX8_readPlain_50 : decode cX8_readPlain 50 = .ok (.getfield 113, 3) := by decide +kernel
theorem dX8_readPlain_53 : decode cX8_readPlain 53 = .ok (.iaload, 1) := by decide +kernel
theorem dX8_readPlain_54 : decode cX8_readPlain 54 = .ok (.bipush 59, 2) := by decide +kernel
theorem dX8_readPlain_56 : decode cX8_readPlain 56 = .ok (.if_icmp .eq 5, 3) := by decide +kernel
theorem dX8_readPlain_59 : decode cX8_readPlain 59 = .ok (.iconst 0, 1) := by decide +kernel
theorem dX8_readPlain_60 : decode cX8_readPlain 60 = .ok (.ireturn, 1) := by decide +kernel
theorem dX8_readPlain_61 : decode cX8_readPlain 61 = .ok (.aload_n 0, 1) := by decide +kernel
theorem dX8_readPlain_62 : decode cX8_readPlain 62 = .ok (.dup, 1) := by decide +kernel
theorem dX8_readPlain_63 : decode cX8_readPlain 63 = .ok (.getfield 113, 3) := by decide +kernel
theorem dX8_readPlain_66 : decode cX8_readPlain 66 = .ok (.iconst 1, 1) := by decide +kernel
theorem dX8_readPlain_67 : decode cX8_readPlain 67 = .ok (.iadd, 1) := by decide +kernel
theorem dX8_readPlain_68 : decode cX8_readPlain 68 = .ok (.putfield 113, 3) := by decide +kernel
theorem dX8_readPlain_71 : decode cX8_readPlain 71 = .ok (.aload_n 0, 1) := by decide +kernel
theorem dX8_readPlain_72 : decode cX8_readPlain 72 = .ok (.getfield 134, 3) := by decide +kernel
theorem dX8_readPlain_75 : decode cX8_readPlain 75 = .ok (.istore_n 2, 1) := by decide +kernel
theorem dX8_readPlain_76 : decode cX8_readPlain 76 = .ok (.aload_n 0, 1) := by decide +kernel
theorem dX8_readPlain_77 : decode cX8_readPlain 77 = .ok (.getfield 28, 3) := by decide +kernel
theorem dX8_readPlain_80 : decode cX8_readPlain 80 = .ok (.iload_n 2, 1) := by decide +kernel
theorem dX8_readPlain_81 : decode cX8_readPlain 81 = .ok (.aload_n 0, 1) := by decide +kernel
theorem dX8_readPlain_82 : decode cX8_readPlain 82 = .ok (.iload_n 1, 1) := by decide +kernel
theorem dX8_readPlain_83 : decode cX8_readPlain 83 = .ok (.iconst 3, 1) := by decide +kernel
theorem dX8_readPlain_84 : decode cX8_readPlain 84 = .ok (.invokevirtual 152, 3) := by decide +kernel
theorem dX8_readPlain_87 : decode cX8_readPlain 87 = .ok (.iastore, 1) := by decide +kernel
theorem dX8_readPlain_88 : decode cX8_readPlain 88 = .ok (.aload_n 0, 1) := by decide +kernel
theorem dX8_readPlain_89 : decode cX8_readPlain 89 = .ok (.getfield 31, 3) := by decide +kernel
theorem dX8_readPlain_92 : decode cX8_readPlain 92 = .ok (.iload_n 2, 1) := by decide +kernel
theorem dX8_readPlain_93 : decode cX8_readPlain 93 = .ok (.aload_n 0, 1) := by decide +kernel
theorem dX8_readPlain_94 : decode cX8_readPlain 94 = .ok (.getfield 28, 3) := by decide +kernel
theorem dX8_readPlain_97 : decode cX8_readPlain 97 = .ok (.iload_n 2, 1) := by decide +kernel
theorem dX8_readPlain_98 : decode cX8_readPlain 98 = .ok (.iaload, 1) := by decide +kernel
theorem dX8_readPlain_99 : decode cX8_readPlain 99 = .ok (.bipush (-9), 2) := by decide +kernel
theorem dX8_readPlain_101 : decode cX8_readPlain 101 = .ok (.if_icmp .ne 8, 3) := by decide +kernel
theorem dX8_readPlain_104 : decode cX8_readPlain 104 = .ok (.bipush (-9), 2) := by decide +kernel
theorem dX8_readPlain_106 : decode cX8_readPlain 106 = .ok (.goto 10, 3) := by decide +kernel
theorem dX8_readPlain_109 : decode cX8_readPlain 109 = .ok (.aload_n 0, 1) := by decide +kernel
theorem dX8_readPlain_110 : decode cX8_readPlain 110 = .ok (.iload_n 1, 1) := by decide +kernel
theorem dX8_readPlain_111 : decode cX8_readPlain 111 = .ok (.bipush 9, 2) := by decide +kernel
theorem dX8_readPlain_113 : decode cX8_readPlain 113 = .ok (.invokevirtual 152, 3) := by decide +kernel
theorem dX8_readPlain_116 : decode cX8_readPlain 116 = .ok (.iastore, 1) := by decide +kernel
theorem dX8_readPlain_117 : decode cX8_readPlain 117 = .ok (.aload_n 0, 1) := by decide +kernel
theorem dX8_readPlain_118 : decode cX8_readPlain 118 = .ok (.getfield 34, 3) := by decide +kernel
theorem dX8_readPlain_121 : decode cX8_readPlain 121 = .ok (.iload_n 2, 1) := by decide +kernel
theorem dX8_readPlain_122 : decode cX8_readPlain 122 = .ok (.aload_n 0, 1) := by decide +kernel
theorem dX8_readPlain_123 : decode cX8_readPlain 123 = .ok (.getfield 31, 3) := by decide +kernel
theorem dX8_readPlain_126 : decode cX8_readPlain 126 = .ok (.iload_n 2, 1) := by decide +kernel
theorem dX8_readPlain_127 : decode cX8_readPlain 127 = .ok (.iaload, 1) := by decide +kernel
theorem dX8_readPlain_128 : decode cX8_readPlain 128 = .ok (.bipush (-9), 2) := by decide +kernel
theorem dX8_readPlain_130 : decode cX8_readPlain 130 = .ok (.if_icmp .ne 8, 3) := by decide +kernel
theorem dX8_readPlain_133 : decode cX8_readPlain 133 = .ok (.bipush (-9), 2) := by decide +kernel
theorem dX8_readPlain_135 : decode cX8_readPlain 135 = .ok (.goto 10, 3) := by decide +kernel
theorem dX8_readPlain_138 : decode cX8_readPlain 138 = .ok (.aload_n 0, 1) := by decide +kernel
theorem dX8_readPlain_139 : decode cX8_readPlain 139 = .ok (.iload_n 1, 1) := by decide +kernel
theorem dX8_readPlain_140 : decode cX8_readPlain 140 = .ok (.bipush 9, 2) := by decide +kernel
theorem dX8_readPlain_142 : decode cX8_readPlain 142 = .ok (.invokevirtual 152, 3) := by decide +kernel
theorem dX8_readPlain_145 : decode cX8_readPlain 145 = .ok (.iastore, 1) := by decide +kernel
theorem dX8_readPlain_146 : decode cX8_readPlain 146 = .ok (.aload_n 0, 1) := by decide +kernel
theorem dX8_readPlain_147 : decode cX8_readPlain 147 = .ok (.getfield 34, 3) := by decide +kernel
theorem dX8_readPlain_150 : decode cX8_readPlain 150 = .ok (.iload_n 2, 1) := by decide +kernel
theorem dX8_readPlain_151 : decode cX8_readPlain 151 = .ok (.iaload, 1) := by decide +kernel
theorem dX8_readPlain_152 : decode cX8_readPlain 152 = .ok (.bipush (-9), 2) := by decide +kernel
theorem dX8_readPlain_154 : decode cX8_readPlain 154 = .ok (.if_icmp .ne 5, 3) := by decide +kernel
theorem dX8_readPlain_157 : decode cX8_readPlain 157 = .ok (.iconst 0, 1) := by decide +kernel
theorem dX8_readPlain_158 : decode cX8_readPlain 158 = .ok (.ireturn, 1) := by decide +kernel
theorem dX8_readPlain_159 : decode cX8_readPlain 159 = .ok (.aload_n 0, 1) := by decide +kernel
theorem dX8_readPlain_160 : decode cX8_readPlain 160 = .ok (.dup, 1) := by decide +kernel
theorem dX8_readPlain_161 : decode cX8_readPlain 161 = .ok (.getfield 134, 3) := by decide +kernel
theorem dX8_readPlain_164 : decode cX8_readPlain 164 = .ok (.iconst 1, 1) := by decide +kernel
theorem dX8_readPlain_165 : decode cX8_readPlain 165 = .ok (.iadd, 1) := by decide +kernel
theorem dX8_readPlain_166 : decode cX8_readPlain 166 = .ok (.putfield 134, 3) := by decide +kernel
theorem dX8_readPlain_169 : decode cX8_readPlain 169 = .ok (.goto (-164), 3) := by decide +kernel
theorem dX8_readPlain_172 : decode cX8_readPlain 172 = .ok (.iconst 1, 1) := by decide +kernel
theorem dX8_readPlain_173 : decode cX8_readPlain 173 = .ok (.ireturn, 1) := by decide +kernel
set_option maxRecDepth 20000 in
theorem ggX8_ofField_X8_isField : GoodIn wsX8_ofField wsX8_isField := goodIn_r _ [8, 9, 10, 11, 12, 13, 14, 15, 16, 17, 18, 19, 20, 21, 22, 23, 24, 25, 26, 27, 28, 29, 30, 31, 32, 33, 34, 35, 36, 37, 38, 39, 40, 41, 42, 43, 44, 45, 46, 47, 48, 49, 50, 51, 52, 53] (by decide +kernel) (by decide +kernel)
set_option maxRecDepth 20000 in
theorem gX8_ofField_X8_isField : GoodIn wsX8_ofField (wsV RX8 156 RX8 yX8_isField wsX8_isField) := goodIn_app (goodIn_of _ (by decide +kernel)) ggX8_ofField_X8_isField
theorem dX8_ofField_0 : decode cX8_ofField 0 = .ok (.aload_n 0, 1) := by decide +kernel
theorem dX8_ofField_1 : decode cX8_ofField 1 = .ok (.iload_n 1, 1) := by decide +kernel
theorem dX8_ofField_2 : decode cX8_ofField 2 = .ok (.invokevirtual 156, 3) := by decide +kernel
theorem dX8_ofField_5 : decode cX8_ofField 5 = .ok (.ifCond .ne 5, 3) := by decide +kernel
theorem dX8_ofField_8 : decode cX8_ofField 8 = .ok (.iconst (-1), 1) := by decide +kernel
theorem dX8_ofField_9 : decode cX8_ofField 9 = .ok (.ireturn, 1) := by decide +kernel
theorem dX8_ofField_10 : decode cX8_ofField 10 = .ok (.iload_n 2, 1) := by decide +kernel
theorem dX8_ofField_11 : decode cX8_ofField 11 = .ok (.ifCond .ne 12, 3) := by decide +kernel
theorem dX8_ofField_14 : decode cX8_ofField 14 = .ok (.aload_n 0, 1) := by decide +kernel
theorem dX8_ofField_15 : decode cX8_ofField 15 = .ok (.getfield 19, 3) := by decide +kernel
theorem dX8_ofField_18 : decode cX8_ofField 18 = .ok (.iload_n 1, 1) := by decide +kernel
theorem dX8_ofField_19 : decode cX8_ofField 19 = .ok (.iaload, 1) := by decide +kernel
theorem dX8_ofField_20 : decode cX8_ofField 20 = .ok (.goto 33, 3) := by decide +kernel
theorem dX8_ofField_23 : decode cX8_ofField 23 = .ok (.iload_n 2, 1) := by decide +kernel
theorem dX8_ofField_24 : decode cX8_ofField 24 = .ok (.iconst 1, 1) := by decide +kernel
theorem dX8_ofField_25 : decode cX8_ofField 25 = .ok (.if_icmp .ne 12, 3) := by decide +kernel
theorem dX8_ofField_28 : decode cX8_ofField 28 = .ok (.aload_n 0, 1) := by decide +kernel
theorem dX8_ofField_29 : decode cX8_ofField 29 = .ok (.getfield 22, 3) := by decide +kernel
theorem dX8_ofField_32 : decode cX8_ofField 32 = .ok (.iload_n 1, 1) := by decide +kernel
theorem dX8_ofField_33 : decode cX8_ofField 33 = .ok (.iaload, 1) := by decide +kernel
theorem dX8_ofField_34 : decode cX8_ofField 34 = .ok (.goto 19, 3) := by decide +kernel
theorem dX8_ofField_37 : decode cX8_ofField 37 = .ok (.iload_n 2, 1) := by decide +kernel
theorem dX8_ofField_38 : decode cX8_ofField 38 = .ok (.iconst 2, 1) := by decide +kernel
theorem dX8_ofField_39 : decode cX8_ofField 39 = .ok (.if_icmp .ne 12, 3) := by decide +kernel
theorem dX8_ofField_42 : decode cX8_ofField 42 = .ok (.aload_n 0, 1) := by decide +kernel
theorem dX8_ofField_43 : decode cX8_ofField 43 = .ok (.getfield 25, 3) := by decide +kernel
theorem dX8_ofField_46 : decode cX8_ofField 46 = .ok (.iload_n 1, 1) := by decide +kernel
theorem dX8_ofField_47 : decode cX8_ofField 47 = .ok (.iaload, 1) := by decide +kernel
theorem dX8_ofField_48 : decode cX8_ofField 48 = .ok (.goto 5, 3) := by decide +kernel
theorem dX8_ofField_51 : decode cX8_ofField 51 = .ok (.bipush (-2), 2) := by decide +kernel
theorem dX8_ofField_53 : decode cX8_ofField 53 = .ok (.ireturn, 1) := by decide +kernel
set_option maxRecDepth 20000 in
theorem ggX8_maySet_X8_within : GoodIn wsX8_maySet wsX8_within := goodIn_r _ [4] (by decide +kernel) (by decide +kernel)
set_option maxRecDepth 20000 in
theorem gX8_maySet_X8_within : GoodIn wsX8_maySet (va_wsS RX8 106 yX8_within wsX8_within) := goodIn_app (goodIn_of _ (by decide +kernel)) ggX8_maySet_X8_within
theorem dX8_maySet_0 : decode cX8_maySet 0 = .ok (.iload_n 0, 1) := by decide +kernel
theorem dX8_maySet_1 : decode cX8_maySet 1 = .ok (.ifCond .ne 13, 3) := by decide +kernel
theorem dX8_maySet_4 : decode cX8_maySet 4 = .ok (.iload_n 1, 1) := by decide +kernel
theorem dX8_maySet_5 : decode cX8_maySet 5 = .ok (.bipush (-3), 2) := by decide +kernel
theorem dX8_maySet_7 : decode cX8_maySet 7 = .ok (.iconst 3, 1) := by decide +kernel
theorem dX8_maySet_8 : decode cX8_maySet 8 = .ok (.invokestatic 106, 3) := by decide +kernel
theorem dX8_maySet_11 : decode cX8_maySet 11 = .ok (.ifCond .ne 34, 3) := by decide +kernel
theorem dX8_maySet_14 : decode cX8_maySet 14 = .ok (.iload_n 0, 1) := by decide +kernel
theorem dX8_maySet_15 : decode cX8_maySet 15 = .ok (.iconst 1, 1) := by decide +kernel
theorem dX8_maySet_16 : decode cX8_maySet 16 = .ok (.if_icmp .ne 13, 3) := by decide +kernel
theorem dX8_maySet_19 : decode cX8_maySet 19 = .ok (.iload_n 1, 1) := by decide +kernel
theorem dX8_maySet_20 : decode cX8_maySet 20 = .ok (.iconst 0, 1) := by decide +kernel
theorem dX8_maySet_21 : decode cX8_maySet 21 = .ok (.bipush 9, 2) := by decide +kernel
theorem dX8_maySet_23 : decode cX8_maySet 23 = .ok (.invokestatic 106, 3) := by decide +kernel
theorem dX8_maySet_26 : decode cX8_maySet 26 = .ok (.ifCond .ne 19, 3) := by decide +kernel
theorem dX8_maySet_29 : decode cX8_maySet 29 = .ok (.iload_n 0, 1) := by decide +kernel
theorem dX8_maySet_30 : decode cX8_maySet 30 = .ok (.iconst 2, 1) := by decide +kernel
theorem dX8_maySet_31 : decode cX8_maySet 31 = .ok (.if_icmp .ne 18, 3) := by decide +kernel
theorem dX8_maySet_34 : decode cX8_maySet 34 = .ok (.iload_n 1, 1) := by decide +kernel
theorem dX8_maySet_35 : decode cX8_maySet 35 = .ok (.iconst 0, 1) := by decide +kernel
theorem dX8_maySet_36 : decode cX8_maySet 36 = .ok (.sipush 4095, 3) := by decide +kernel
theorem dX8_maySet_39 : decode cX8_maySet 39 = .ok (.invokestatic 106, 3) := by decide +kernel
theorem dX8_maySet_42 : decode cX8_maySet 42 = .ok (.ifCond .eq 7, 3) := by decide +kernel
theorem dX8_maySet_45 : decode cX8_maySet 45 = .ok (.iconst 1, 1) := by decide +kernel
theorem dX8_maySet_46 : decode cX8_maySet 46 = .ok (.goto 4, 3) := by decide +kernel
theorem dX8_maySet_49 : decode cX8_maySet 49 = .ok (.iconst 0, 1) := by decide +kernel
theorem dX8_maySet_50 : decode cX8_maySet 50 = .ok (.ireturn, 1) := by decide +kernel
set_option maxRecDepth 20000 in
theorem ggX8_set_X8_maySet : GoodIn wsX8_set wsX8_maySet := goodIn_r _ [7, 8, 9, 6, 10] (by decide +kernel) (by decide +kernel)
set_option maxRecDepth 20000 in
theorem gX8_set_X8_maySet : GoodIn wsX8_set (va_wsS RX8 159 yX8_maySet wsX8_maySet) := goodIn_app (goodIn_of _ (by decide +kernel)) ggX8_set_X8_maySet
set_option maxRecDepth 20000 in
theorem ggX8_set_X8_isPlain : GoodIn wsX8_set wsX8_isPlain := goodIn_r _ [14, 15, 16, 17, 18, 19, 20, 21, 22, 23, 24, 25, 26, 27, 28, 29, 30, 31, 32, 33, 34, 35, 36, 37, 38, 39, 40, 41, 42, 43, 44, 45, 46, 47, 48, 49, 50, 51, 52, 53, 54, 55, 56, 57, 58, 59] (by decide +kernel) (by decide +kernel)
set_option maxRecDepth 20000 in
theorem gX8_set_X8_isPlain : GoodIn wsX8_set (wsV RX8 163 RX8 yX8_isPlain wsX8_isPlain) := goodIn_app (goodIn_of _ (by decide +kernel)) ggX8_set_X8_isPlain
theorem dX8_set_0 : decode cX8_set 0 = .ok (.iload_n 1, 1) := by decide +kernel
theorem dX8_set_1 : decode cX8_set 1 = .ok (.iload_n 2, 1) := by decide +kernel
theorem dX8_set_2 : decode cX8_set 2 = .ok (.invokestatic 159, 3) := by decide +kernel
theorem dX8_set_5 : decode cX8_set 5 = .ok (.ifCond .ne 6, 3) := by decide +kernel
theorem dX8_set_8 : decode cX8_set 8 = .ok (.bipush (-2), 2) := by decide +kernel
theorem dX8_set_10 : decode cX8_set 10 = .ok (.ireturn, 1) := by decide +kernel
theorem dX8_set_11 : decode cX8_set 11 = .ok (.aload_n 0, 1) := by decide +kernel
theorem dX8_set_12 : decode cX8_set 12 = .ok (.invokevirtual 163, 3) := by decide +kernel
theorem dX8_set_15 : decode cX8_set 15 = .ok (.ifCond .ne 6, 3) := by decide +kernel
theorem dX8_set_18 : decode cX8_set 18 = .ok (.bipush (-3), 2) := by decide +kernel
theorem dX8_set_20 : decode cX8_set 20 = .ok (.ireturn, 1) := by decide +kernel
theorem dX8_set_21 : decode cX8_set 21 = .ok (.iload_n 1, 1) := by decide +kernel
theorem dX8_set_22 : decode cX8_set 22 = .ok (.ifCond .ne 13, 3) := by decide +kernel
theorem dX8_set_25 : decode cX8_set 25 = .ok (.aload_n 0, 1) := by decide +kernel
theorem dX8_set_26 : decode cX8_set 26 = .ok (.getfield 143, 3) := by decide +kernel
theorem dX8_set_29 : decode cX8_set 29 = .ok (.bipush 10, 2) := by decide +kernel
theorem dX8_set_31 : decode cX8_set 31 = .ok (.iadd, 1) := by decide +kernel
theorem dX8_set_32 : decode cX8_set 32 = .ok (.goto 19, 3) := by decide +kernel
theorem dX8_set_35 : decode cX8_set 35 = .ok (.iload_n 1, 1) := by decide +kernel
theorem dX8_set_36 : decode cX8_set 36 = .ok (.iconst 1, 1) := by decide +kernel
theorem dX8_set_37 : decode cX8_set 37 = .ok (.if_icmp .ne 10, 3) := by decide +kernel
theorem dX8_set_40 : decode cX8_set 40 = .ok (.aload_n 0, 1) := by decide +kernel
theorem dX8_set_41 : decode cX8_set 41 = .ok (.getfield 146, 3) := by decide +kernel
theorem dX8_set_44 : decode cX8_set 44 = .ok (.goto 7, 3) := by decide +kernel
theorem dX8_set_47 : decode cX8_set 47 = .ok (.aload_n 0, 1) := by decide +kernel
theorem dX8_set_48 : decode cX8_set 48 = .ok (.getfield 149, 3) := by decide +kernel
theorem dX8_set_51 : decode cX8_set 51 = .ok (.istore_n 3, 1) := by decide +kernel
theorem dX8_set_52 : decode cX8_set 52 = .ok (.aload_n 0, 1) := by decide +kernel
theorem dX8_set_53 : decode cX8_set 53 = .ok (.iload_n 1, 1) := by decide +kernel
theorem dX8_set_54 : decode cX8_set 54 = .ok (.ifCond .ne 7, 3) := by decide +kernel
theorem dX8_set_57 : decode cX8_set 57 = .ok (.iload_n 2, 1) := by decide +kernel
theorem dX8_set_58 : decode cX8_set 58 = .ok (.goto 7, 3) := by decide +kernel
theorem dX8_set_61 : decode cX8_set 61 = .ok (.aload_n 0, 1) := by decide +kernel
theorem dX8_set_62 : decode cX8_set 62 = .ok (.getfield 143, 3) := by decide +kernel
theorem dX8_set_65 : decode cX8_set 65 = .ok (.putfield 143, 3) := by decide +kernel
theorem dX8_set_68 : decode cX8_set 68 = .ok (.aload_n 0, 1) := by decide +kernel
theorem dX8_set_69 : decode cX8_set 69 = .ok (.iload_n 1, 1) := by decide +kernel
theorem dX8_set_70 : decode cX8_set 70 = .ok (.iconst 1, 1) := by decide +kernel
theorem dX8_set_71 : decode cX8_set 71 = .ok (.if_icmp .ne 7, 3) := by decide +kernel
theorem dX8_set_74 : decode cX8_set 74 = .ok (.iload_n 2, 1) := by decide +kernel
theorem dX8_set_75 : decode cX8_set 75 = .ok (.goto 7, 3) := by decide +kernel
theorem dX8_set_78 : decode cX8_set 78 = .ok (.aload_n 0, 1) := by decide +kernel
theorem dX8_set_79 : decode cX8_set 79 = .ok (.getfield 146, 3) := by decide +kernel
theorem dX8_set_82 : decode cX8_set 82 = .ok (.putfield 146, 3) := by decide +kernel
theorem dX8_set_85 : decode cX8_set 85 = .ok (.aload_n 0, 1) := by decide +kernel
theorem dX8_set_86 : decode cX8_set 86 = .ok (.iload_n 1, 1) := by decide +kernel
theorem dX8_set_87 : decode cX8_set 87 = .ok (.iconst 2, 1) := by decide +kernel
theorem dX8_set_88 : decode cX8_set 88 = .ok (.if_icmp .ne 7, 3) := by decide +kernel
theorem dX8_set_91 : decode cX8_set 91 = .ok (.iload_n 2, 1) := by decide +kernel
theorem dX8_set_92 : decode cX8_set 92 = .ok (.goto 7, 3) := by decide +kernel
theorem dX8_set_95 : decode cX8_set 95 = .ok (.aload_n 0, 1) := by decide +kernel
theorem dX8_set_96 : decode cX8_set 96 = .ok (.getfield 149, 3) := by decide +kernel
theorem dX8_set_99 : decode cX8_set 99 = .ok (.putfield 149, 3) := by decide +kernel
theorem dX8_set_102 : decode cX8_set 102 = .ok (.iload_n 3, 1) := by decide +kernel
theorem dX8_set_103 : decode cX8_set 103 = .ok (.ireturn, 1) := by decide +kernel
set_option maxRecDepth 20000 in
theorem ggX8_isHour_X8_within : GoodIn wsX8_isHour wsX8_within := goodIn_r _ [4] (by decide +kernel) (by decide +kernel)
set_option maxRecDepth 20000 in
theorem gX8_isHour_X8_within : GoodIn wsX8_isHour (va_wsS RX8 106 yX8_within wsX8_within) := goodIn_app (goodIn_of _ (by decide +kernel)) ggX8_isHour_X8_within
theorem dX8_isHour_0 : decode cX8_isHour 0 = .ok (.iload_n 0, 1) := by decide +kernel
theorem dX8_isHour_1 : decode cX8_isHour 1 = .ok (.iconst 0, 1) := by decide +kernel
theorem dX8_isHour_2 : decode cX8_isHour 2 = .ok (.bipush 11, 2) := by decide +kernel
theorem dX8_isHour_4 : decode cX8_isHour 4 = .ok (.invokestatic 106, 3) := by decide +kernel
theorem dX8_isHour_7 : decode cX8_isHour 7 = .ok (.ireturn, 1) := by decide +kernel
theorem dX8_isForbidden_0 : decode cX8_isForbidden 0 = .ok (.aload_n 0, 1) := by decide +kernel
theorem dX8_isForbidden_1 : decode cX8_isForbidden 1 = .ok (.getfield 149, 3) := by decide +kernel
theorem dX8_isForbidden_4 : decode cX8_isForbidden 4 = .ok (.iload_n 1, 1) := by decide +kernel
theorem dX8_isForbidden_5 : decode cX8_isForbidden 5 = .ok (.ishr, 1) := by decide +kernel
theorem dX8_isForbidden_6 : decode cX8_isForbidden 6 = .ok (.iconst 1, 1) := by decide +kernel
theorem dX8_isForbidden_7 : decode cX8_isForbidden 7 = .ok (.iand, 1) := by decide +kernel
theorem dX8_isForbidden_8 : decode cX8_isForbidden 8 = .ok (.iconst 1, 1) := by decide +kernel
theorem dX8_isForbidden_9 : decode cX8_isForbidden 9 = .ok (.if_icmp .ne 7, 3) := by decide +kernel
theorem dX8_isForbidden_12 : decode cX8_isForbidden 12 = .ok (.iconst 1, 1) := by decide +kernel
theorem dX8_isForbidden_13 : decode cX8_isForbidden 13 = .ok (.goto 4, 3) := by decide +kernel
theorem dX8_isForbidden_16 : decode cX8_isForbidden 16 = .ok (.iconst 0, 1) := by decide +kernel
theorem dX8_isForbidden_17 : decode cX8_isForbidden 17 = .ok (.ireturn, 1) := by decide +kernel
set_option maxRecDepth 20000 in
theorem ggX8_cloud_X8_within : GoodIn wsX8_cloud wsX8_within := goodIn_r _ [8] (by decide +kernel) (by decide +kernel)
set_option maxRecDepth 20000 in
theorem gX8_cloud_X8_within : GoodIn wsX8_cloud (va_wsS RX8 106 yX8_within wsX8_within) := goodIn_app (goodIn_of _ (by decide +kernel)) ggX8_cloud_X8_within
set_option maxRecDepth 20000 in
theorem ggX8_cloud_X8_isPlain : GoodIn wsX8_cloud wsX8_isPlain := goodIn_r _ [12, 13, 14, 15, 16, 17, 18, 19, 20, 21, 22, 23, 24, 25, 26, 27, 28, 29, 30, 31, 32, 33, 34, 35, 36, 37, 38, 39, 40, 41, 42, 43, 44, 45, 46, 47, 48, 49, 50, 51, 52, 53, 54, 55, 56, 57] (by decide +kernel) (by decide +kernel)
set_option maxRecDepth 20000 in
theorem gX8_cloud_X8_isPlain : GoodIn wsX8_cloud (wsV RX8 163 RX8 yX8_isPlain wsX8_isPlain) := goodIn_app (goodIn_of _ (by decide +kernel)) ggX8_cloud_X8_isPlain
theorem dX8_cloud_0 : decode cX8_cloud 0 = .ok (.iload_n 1, 1) := by decide +kernel
theorem dX8_cloud_1 : decode cX8_cloud 1 = .ok (.bipush (-20), 2) := by decide +kernel
theorem dX8_cloud_3 : decode cX8_cloud 3 = .ok (.bipush 20, 2) := by decide +kernel
theorem dX8_cloud_5 : decode cX8_cloud 5 = .ok (.invokestatic 106, 3) := by decide +kernel
theorem dX8_cloud_8 : decode cX8_cloud 8 = .ok (.ifCond .eq 23, 3) := by decide +kernel
theorem dX8_cloud_11 : decode cX8_cloud 11 = .ok (.iload_n 2, 1) := by decide +kernel
theorem dX8_cloud_12 : decode cX8_cloud 12 = .ok (.iconst 1, 1) := by decide +kernel
theorem dX8_cloud_13 : decode cX8_cloud 13 = .ok (.bipush 30, 2) := by decide +kernel
theorem dX8_cloud_15 : decode cX8_cloud 15 = .ok (.invokestatic 106, 3) := by decide +kernel
theorem dX8_cloud_18 : decode cX8_cloud 18 = .ok (.ifCond .eq 13, 3) := by decide +kernel
theorem dX8_cloud_21 : decode cX8_cloud 21 = .ok (.iload_n 3, 1) := by decide +kernel
theorem dX8_cloud_22 : decode cX8_cloud 22 = .ok (.iconst 1, 1) := by decide +kernel
theorem dX8_cloud_23 : decode cX8_cloud 23 = .ok (.bipush 9, 2) := by decide +kernel
theorem dX8_cloud_25 : decode cX8_cloud 25 = .ok (.invokestatic 106, 3) := by decide +kernel
theorem dX8_cloud_28 : decode cX8_cloud 28 = .ok (.ifCond .ne 6, 3) := by decide +kernel
theorem dX8_cloud_31 : decode cX8_cloud 31 = .ok (.bipush (-2), 2) := by decide +kernel
theorem dX8_cloud_33 : decode cX8_cloud 33 = .ok (.ireturn, 1) := by decide +kernel
theorem dX8_cloud_34 : decode cX8_cloud 34 = .ok (.aload_n 0, 1) := by decide +kernel
theorem dX8_cloud_35 : decode cX8_cloud 35 = .ok (.invokevirtual 163, 3) := by decide +kernel
theorem dX8_cloud_38 : decode cX8_cloud 38 = .ok (.ifCond .ne 6, 3) := by decide +kernel
theorem dX8_cloud_41 : decode cX8_cloud 41 = .ok (.bipush (-3), 2) := by decide +kernel
theorem dX8_cloud_43 : decode cX8_cloud 43 = .ok (.ireturn, 1) := by decide +kernel
theorem dX8_cloud_44 : decode cX8_cloud 44 = .ok (.aload_n 0, 1) := by decide +kernel
theorem dX8_cloud_45 : decode cX8_cloud 45 = .ok (.getfield 137, 3) := by decide +kernel
theorem dX8_cloud_48 : decode cX8_cloud 48 = .ok (.bipush 6, 2) := by decide +kernel
theorem dX8_cloud_50 : decode cX8_cloud 50 = .ok (.if_icmp .ne 6, 3) := by decide +kernel
theorem dX8_cloud_53 : decode cX8_cloud 53 = .ok (.bipush (-4), 2) := by decide +kernel
theorem dX8_cloud_55 : decode cX8_cloud 55 = .ok (.ireturn, 1) := by decide +kernel
theorem dX8_cloud_56 : decode cX8_cloud 56 = .ok (.aload_n 0, 1) := by decide +kernel
theorem dX8_cloud_57 : decode cX8_cloud 57 = .ok (.getfield 37, 3) := by decide +kernel
theorem dX8_cloud_60 : decode cX8_cloud 60 = .ok (.aload_n 0, 1) := by decide +kernel
theorem dX8_cloud_61 : decode cX8_cloud 61 = .ok (.getfield 137, 3) := by decide +kernel
theorem dX8_cloud_64 : decode cX8_cloud 64 = .ok (.iload_n 1, 1) := by decide +kernel
theorem dX8_cloud_65 : decode cX8_cloud 65 = .ok (.iastore, 1) := by decide +kernel
theorem dX8_cloud_66 : decode cX8_cloud 66 = .ok (.aload_n 0, 1) := by decide +kernel
theorem dX8_cloud_67 : decode cX8_cloud 67 = .ok (.getfield 40, 3) := by decide +kernel
theorem dX8_cloud_70 : decode cX8_cloud 70 = .ok (.aload_n 0, 1) := by decide +kernel
theorem dX8_cloud_71 : decode cX8_cloud 71 = .ok (.getfield 137, 3) := by decide +kernel
theorem dX8_cloud_74 : decode cX8_cloud 74 = .ok (.iload_n 2, 1) := by decide +kernel
theorem dX8_cloud_75 : decode cX8_cloud 75 = .ok (.iastore, 1) := by decide +kernel
theorem dX8_cloud_76 : decode cX8_cloud 76 = .ok (.aload_n 0, 1) := by decide +kernel
theorem dX8_cloud_77 : decode cX8_cloud 77 = .ok (.getfield 43, 3) := by decide +kernel
theorem dX8_cloud_80 : decode cX8_cloud 80 = .ok (.aload_n 0, 1) := by decide +kernel
theorem dX8_cloud_81 : decode cX8_cloud 81 = .ok (.getfield 137, 3) := by decide +kernel
theorem dX8_cloud_84 : decode cX8_cloud 84 = .ok (.iload_n 3, 1) := by decide +kernel
theorem dX8_cloud_85 : decode cX8_cloud 85 = .ok (.iastore, 1) := by decide +kernel
theorem dX8_cloud_86 : decode cX8_cloud 86 = .ok (.aload_n 0, 1) := by decide +kernel
theorem dX8_cloud_87 : decode cX8_cloud 87 = .ok (.dup, 1) := by decide +kernel
theorem dX8_cloud_88 : decode cX8_cloud 88 = .ok (.getfield 137, 3) := by decide +kernel
theorem dX8_cloud_91 : decode cX8_cloud 91 = .ok (.iconst 1, 1) := by decide +kernel
theorem dX8_cloud_92 : decode cX8_cloud 92 = .ok (.iadd, 1) := by decide +kernel
theorem dX8_cloud_93 : decode cX8_cloud 93 = .ok (.putfield 137, 3) := by decide +kernel
theorem dX8_cloud_96 : decode cX8_cloud 96 = .ok (.aload_n 0, 1) := by decide +kernel
theorem dX8_cloud_97 : decode cX8_cloud 97 = .ok (.getfield 137, 3) := by decide +kernel
theorem dX8_cloud_100 : decode cX8_cloud 100 = .ok (.iconst 1, 1) := by decide +kernel
theorem dX8_cloud_101 : decode cX8_cloud 101 = .ok (.isub, 1) := by decide +kernel
theorem dX8_cloud_102 : decode cX8_cloud 102 = .ok (.ireturn, 1) := by decide +kernel
theorem dX8_isShot_0 : decode cX8_isShot 0 = .ok (.iload_n 1, 1) := by decide +kernel
theorem dX8_isShot_1 : decode cX8_isShot 1 = .ok (.ifCond .lt 15, 3) := by decide +kernel
theorem dX8_isShot_4 : decode cX8_isShot 4 = .ok (.iload_n 1, 1) := by decide +kernel
theorem dX8_isShot_5 : decode cX8_isShot 5 = .ok (.aload_n 0, 1) := by decide +kernel
theorem dX8_isShot_6 : decode cX8_isShot 6 = .ok (.getfield 140, 3) := by decide +kernel
theorem dX8_isShot_9 : decode cX8_isShot 9 = .ok (.if_icmp .ge 7, 3) := by decide +kernel
theorem dX8_isShot_12 : decode cX8_isShot 12 = .ok (.iconst 1, 1) := by decide +kernel
theorem dX8_isShot_13 : decode cX8_isShot 13 = .ok (.goto 4, 3) := by decide +kernel
theorem dX8_isShot_16 : decode cX8_isShot 16 = .ok (.iconst 0, 1) := by decide +kernel
theorem dX8_isShot_17 : decode cX8_isShot 17 = .ok (.ireturn, 1) := by decide +kernel
set_option maxRecDepth 20000 in
theorem ggX8_shot_X8_isField : GoodIn wsX8_shot wsX8_isField := goodIn_r _ [6, 7, 22, 23, 24, 25, 26, 27, 28, 29, 30, 31, 32, 33, 34, 35, 36, 37, 38, 39, 40, 41, 42, 43, 44, 45, 46, 47, 48, 49, 50, 51, 52, 53, 54, 55, 56, 57, 58, 59, 60, 61, 62, 63, 64, 65] (by decide +kernel) (by decide +kernel)
set_option maxRecDepth 20000 in
theorem gX8_shot_X8_isField : GoodIn wsX8_shot (wsV RX8 156 RX8 yX8_isField wsX8_isField) := goodIn_app (goodIn_of _ (by decide +kernel)) ggX8_shot_X8_isField
set_option maxRecDepth 20000 in
theorem ggX8_shot_X8_within : GoodIn wsX8_shot wsX8_within := goodIn_r _ [10] (by decide +kernel) (by decide +kernel)
set_option maxRecDepth 20000 in
theorem gX8_shot_X8_within : GoodIn wsX8_shot (va_wsS RX8 106 yX8_within wsX8_within) := goodIn_app (goodIn_of _ (by decide +kernel)) ggX8_shot_X8_within
set_option maxRecDepth 20000 in
theorem ggX8_shot_X8_isHour : GoodIn wsX8_shot wsX8_isHour := goodIn_r _ [13, 8, 9, 5, 10] (by decide +kernel) (by decide +kernel)
set_option maxRecDepth 20000 in
theorem gX8_shot_X8_isHour : GoodIn wsX8_shot (va_wsS RX8 167 yX8_isHour wsX8_isHour) := goodIn_app (goodIn_of _ (by decide +kernel)) ggX8_shot_X8_isHour
set_option maxRecDepth 20000 in
theorem ggX8_shot_X8_layShot : GoodIn wsX8_shot wsX8_layShot := goodIn_r _ [17, 18, 19, 20, 21, 22, 23, 24, 25, 26, 27, 28, 29, 30, 31, 32, 33, 34, 35, 36, 37, 38, 39, 40, 41, 42, 43, 44, 45, 46, 47, 48, 49, 50, 51, 52, 53, 54, 55, 56, 57, 58, 59, 60, 61, 62, 63, 64, 65] (by decide +kernel) (by decide +kernel)
set_option maxRecDepth 20000 in
theorem gX8_shot_X8_layShot : GoodIn wsX8_shot (wsV RX8 170 RX8 yX8_layShot wsX8_layShot) := goodIn_app (goodIn_of _ (by decide +kernel)) ggX8_shot_X8_layShot
theorem dX8_shot_0 : decode cX8_shot 0 = .ok (.aload_n 0, 1) := by decide +kernel
theorem dX8_shot_1 : decode cX8_shot 1 = .ok (.iload_n 2, 1) := by decide +kernel
theorem dX8_shot_2 : decode cX8_shot 2 = .ok (.invokevirtual 156, 3) := by decide +kernel
theorem dX8_shot_5 : decode cX8_shot 5 = .ok (.ifCond .ne 5, 3) := by decide +kernel
theorem dX8_shot_8 : decode cX8_shot 8 = .ok (.iconst (-1), 1) := by decide +kernel
theorem dX8_shot_9 : decode cX8_shot 9 = .ok (.ireturn, 1) := by decide +kernel
theorem dX8_shot_10 : decode cX8_shot 10 = .ok (.iload_n 1, 1) := by decide +kernel
theorem dX8_shot_11 : decode cX8_shot 11 = .ok (.iconst 0, 1) := by decide +kernel
theorem dX8_shot_12 : decode cX8_shot 12 = .ok (.iconst 2, 1) := by decide +kernel
theorem dX8_shot_13 : decode cX8_shot 13 = .ok (.invokestatic 106, 3) := by decide +kernel
theorem dX8_shot_16 : decode cX8_shot 16 = .ok (.ifCond .eq 21, 3) := by decide +kernel
theorem dX8_shot_19 : decode cX8_shot 19 = .ok (.iload_n 3, 1) := by decide +kernel
theorem dX8_shot_20 : decode cX8_shot 20 = .ok (.invokestatic 167, 3) := by decide +kernel
theorem dX8_shot_23 : decode cX8_shot 23 = .ok (.ifCond .eq 14, 3) := by decide +kernel
theorem dX8_shot_26 : decode cX8_shot 26 = .ok (.iload 4, 2) := by decide +kernel
theorem dX8_shot_28 : decode cX8_shot 28 = .ok (.iconst 1, 1) := by decide +kernel
theorem dX8_shot_29 : decode cX8_shot 29 = .ok (.bipush 9, 2) := by decide +kernel
theorem dX8_shot_31 : decode cX8_shot 31 = .ok (.invokestatic 106, 3) := by decide +kernel
theorem dX8_shot_34 : decode cX8_shot 34 = .ok (.ifCond .ne 6, 3) := by decide +kernel
theorem dX8_shot_37 : decode cX8_shot 37 = .ok (.bipush (-2), 2) := by decide +kernel
theorem dX8_shot_39 : decode cX8_shot 39 = .ok (.ireturn, 1) := by decide +kernel
theorem dX8_shot_40 : decode cX8_shot 40 = .ok (.aload_n 0, 1) := by decide +kernel
theorem dX8_shot_41 : decode cX8_shot 41 = .ok (.getfield 140, 3) := by decide +kernel
theorem dX8_shot_44 : decode cX8_shot 44 = .ok (.bipush 8, 2) := by decide +kernel
theorem dX8_shot_46 : decode cX8_shot 46 = .ok (.if_icmp .ne 6, 3) := by decide +kernel
theorem dX8_shot_49 : decode cX8_shot 49 = .ok (.bipush (-4), 2) := by decide +kernel
theorem dX8_shot_51 : decode cX8_shot 51 = .ok (.ireturn, 1) := by decide +kernel
theorem dX8_shot_52 : decode cX8_shot 52 = .ok (.aload_n 0, 1) := by decide +kernel
theorem dX8_shot_53 : decode cX8_shot 53 = .ok (.aload_n 0, 1) := by decide +kernel
theorem dX8_shot_54 : decode cX8_shot 54 = .ok (.getfield 140, 3) := by decide +kernel
theorem dX8_shot_57 : decode cX8_shot 57 = .ok (.iload_n 1, 1) := by decide +kernel
theorem dX8_shot_58 : decode cX8_shot 58 = .ok (.iload_n 2, 1) := by decide +kernel
theorem dX8_shot_59 : decode cX8_shot 59 = .ok (.iload_n 3, 1) := by decide +kernel
theorem dX8_shot_60 : decode cX8_shot 60 = .ok (.iload 4, 2) := by decide +kernel
theorem dX8_shot_62 : decode cX8_shot 62 = .ok (.invokevirtual 170, 3) := by decide +kernel
theorem dX8_shot_65 : decode cX8_shot 65 = .ok (.aload_n 0, 1) := by decide +kernel
theorem dX8_shot_66 : decode cX8_shot 66 = .ok (.dup, 1) := by decide +kernel
theorem dX8_shot_67 : decode cX8_shot 67 = .ok (.getfield 140, 3) := by decide +kernel
theorem dX8_shot_70 : decode cX8_shot 70 = .ok (.iconst 1, 1) := by decide +kernel
theorem dX8_shot_71 : decode cX8_shot 71 = .ok (.iadd, 1) := by decide +kernel
theorem dX8_shot_72 : decode cX8_shot 72 = .ok (.putfield 140, 3) := by decide +kernel
theorem dX8_shot_75 : decode cX8_shot 75 = .ok (.aload_n 0, 1) := by decide +kernel
theorem dX8_shot_76 : decode cX8_shot 76 = .ok (.getfield 140, 3) := by decide +kernel
theorem dX8_shot_79 : decode cX8_shot 79 = .ok (.iconst 1, 1) := by decide +kernel
theorem dX8_shot_80 : decode cX8_shot 80 = .ok (.isub, 1) := by decide +kernel
theorem dX8_shot_81 : decode cX8_shot 81 = .ok (.ireturn, 1) := by decide +kernel
theorem dX8_layShot_0 : decode cX8_layShot 0 = .ok (.aload_n 0, 1) := by decide +kernel
theorem dX8_layShot_1 : decode cX8_layShot 1 = .ok (.getfield 46, 3) := by decide +kernel
theorem dX8_layShot_4 : decode cX8_layShot 4 = .ok (.iload_n 1, 1) := by decide +kernel
theorem dX8_layShot_5 : decode cX8_layShot 5 = .ok (.iload_n 2, 1) := by decide +kernel
theorem dX8_layShot_6 : decode cX8_layShot 6 = .ok (.iastore, 1) := by decide +kernel
theorem dX8_layShot_7 : decode cX8_layShot 7 = .ok (.aload_n 0, 1) := by decide +kernel
theorem dX8_layShot_8 : decode cX8_layShot 8 = .ok (.getfield 49, 3) := by decide +kernel
theorem dX8_layShot_11 : decode cX8_layShot 11 = .ok (.iload_n 1, 1) := by decide +kernel
theorem dX8_layShot_12 : decode cX8_layShot 12 = .ok (.iload_n 3, 1) := by decide +kernel
theorem dX8_layShot_13 : decode cX8_layShot 13 = .ok (.iastore, 1) := by decide +kernel
theorem dX8_layShot_14 : decode cX8_layShot 14 = .ok (.aload_n 0, 1) := by decide +kernel
theorem dX8_layShot_15 : decode cX8_layShot 15 = .ok (.getfield 52, 3) := by decide +kernel
theorem dX8_layShot_18 : decode cX8_layShot 18 = .ok (.iload_n 1, 1) := by decide +kernel
theorem dX8_layShot_19 : decode cX8_layShot 19 = .ok (.iload 4, 2) := by decide +kernel
theorem dX8_layShot_21 : decode cX8_layShot 21 = .ok (.iastore, 1) := by decide +kernel
theorem dX8_layShot_22 : decode cX8_layShot 22 = .ok (.aload_n 0, 1) := by decide +kernel
theorem dX8_layShot_23 : decode cX8_layShot 23 = .ok (.getfield 55, 3) := by decide +kernel
theorem dX8_layShot_26 : decode cX8_layShot 26 = .ok (.iload_n 1, 1) := by decide +kernel
theorem dX8_layShot_27 : decode cX8_layShot 27 = .ok (.iload 5, 2) := by decide +kernel
theorem dX8_layShot_29 : decode cX8_layShot 29 = .ok (.iastore, 1) := by decide +kernel
theorem dX8_layShot_30 : decode cX8_layShot 30 = .ok (.return_, 1) := by decide +kernel
theorem dX8_reaches_0 : decode cX8_reaches 0 = .ok (.aload_n 0, 1) := by decide +kernel
theorem dX8_reaches_1 : decode cX8_reaches 1 = .ok (.getfield 46, 3) := by decide +kernel
theorem dX8_reaches_4 : decode cX8_reaches 4 = .ok (.iload_n 1, 1) := by decide +kernel
theorem dX8_reaches_5 : decode cX8_reaches 5 = .ok (.iaload, 1) := by decide +kernel
theorem dX8_reaches_6 : decode cX8_reaches 6 = .ok (.ifCond .ne 12, 3) := by decide +kernel
theorem dX8_reaches_9 : decode cX8_reaches 9 = .ok (.aload_n 0, 1) := by decide +kernel
theorem dX8_reaches_10 : decode cX8_reaches 10 = .ok (.getfield 55, 3) := by decide +kernel
theorem dX8_reaches_13 : decode cX8_reaches 13 = .ok (.iload_n 1, 1) := by decide +kernel
theorem dX8_reaches_14 : decode cX8_reaches 14 = .ok (.iaload, 1) := by decide +kernel
theorem dX8_reaches_15 : decode cX8_reaches 15 = .ok (.goto 11, 3) := by decide +kernel
theorem dX8_reaches_18 : decode cX8_reaches 18 = .ok (.iconst 2, 1) := by decide +kernel
theorem dX8_reaches_19 : decode cX8_reaches 19 = .ok (.aload_n 0, 1) := by decide +kernel
theorem dX8_reaches_20 : decode cX8_reaches 20 = .ok (.getfield 55, 3) := by decide +kernel
theorem dX8_reaches_23 : decode cX8_reaches 23 = .ok (.iload_n 1, 1) := by decide +kernel
theorem dX8_reaches_24 : decode cX8_reaches 24 = .ok (.iaload, 1) := by decide +kernel
theorem dX8_reaches_25 : decode cX8_reaches 25 = .ok (.imul, 1) := by decide +kernel
theorem dX8_reaches_26 : decode cX8_reaches 26 = .ok (.ireturn, 1) := by decide +kernel
set_option maxRecDepth 20000 in
theorem ggX8_ofShot_X8_isShot : GoodIn wsX8_ofShot wsX8_isShot := goodIn_r _ [9, 10, 15, 16, 17, 18, 19, 20, 21, 22, 23, 24, 25, 26, 27, 28, 29, 30, 31, 32, 33, 34, 35, 36, 37, 38, 39, 40, 41, 42, 43, 44, 45, 46, 47, 48, 49, 50, 51, 52, 53, 54, 55, 56, 57, 58] (by decide +kernel) (by decide +kernel)
set_option maxRecDepth 20000 in
theorem gX8_ofShot_X8_isShot : GoodIn wsX8_ofShot (wsV RX8 174 RX8 yX8_isShot wsX8_isShot) := goodIn_app (goodIn_of _ (by decide +kernel)) ggX8_ofShot_X8_isShot
set_option maxRecDepth 20000 in
theorem ggX8_ofShot_X8_reaches : GoodIn wsX8_ofShot wsX8_reaches := goodIn_r _ [14, 1, 4, 15, 16, 17, 18, 19, 20, 21, 22, 23, 24, 25, 26, 27, 28, 29, 30, 31, 32, 33, 34, 35, 36, 37, 38, 39, 40, 41, 42, 43, 44, 45, 46, 47, 48, 49, 50, 51, 52, 53, 54, 55, 56, 57, 58] (by decide +kernel) (by decide +kernel)
set_option maxRecDepth 20000 in
theorem gX8_ofShot_X8_reaches : GoodIn wsX8_ofShot (wsV RX8 177 RX8 yX8_reaches wsX8_reaches) := goodIn_app (goodIn_of _ (by decide +kernel)) ggX8_ofShot_X8_reaches
theorem dX8_ofShot_0 : decode cX8_ofShot 0 = .ok (.aload_n 0, 1) := by decide +kernel
theorem dX8_ofShot_1 : decode cX8_ofShot 1 = .ok (.iload_n 1, 1) := by decide +kernel
theorem dX8_ofShot_2 : decode cX8_ofShot 2 = .ok (.invokevirtual 174, 3) := by decide +kernel
theorem dX8_ofShot_5 : decode cX8_ofShot 5 = .ok (.ifCond .ne 5, 3) := by decide +kernel
theorem dX8_ofShot_8 : decode cX8_ofShot 8 = .ok (.iconst (-1), 1) := by decide +kernel
theorem dX8_ofShot_9 : decode cX8_ofShot 9 = .ok (.ireturn, 1) := by decide +kernel
theorem dX8_ofShot_10 : decode cX8_ofShot 10 = .ok (.iload_n 2, 1) := by decide +kernel
theorem dX8_ofShot_11 : decode cX8_ofShot 11 = .ok (.tableswitch 67 0 4 #[33, 40, 47, 54, 61], 33) := by decide +kernel
theorem dX8_ofShot_44 : decode cX8_ofShot 44 = .ok (.aload_n 0, 1) := by decide +kernel
theorem dX8_ofShot_45 : decode cX8_ofShot 45 = .ok (.getfield 46, 3) := by decide +kernel
theorem dX8_ofShot_48 : decode cX8_ofShot 48 = .ok (.iload_n 1, 1) := by decide +kernel
theorem dX8_ofShot_49 : decode cX8_ofShot 49 = .ok (.iaload, 1) := by decide +kernel
theorem dX8_ofShot_50 : decode cX8_ofShot 50 = .ok (.ireturn, 1) := by decide +kernel
theorem dX8_ofShot_51 : decode cX8_ofShot 51 = .ok (.aload_n 0, 1) := by decide +kernel
theorem dX8_ofShot_52 : decode cX8_ofShot 52 = .ok (.getfield 49, 3) := by decide +kernel
theorem dX8_ofShot_55 : decode cX8_ofShot 55 = .ok (.iload_n 1, 1) := by decide +kernel
theorem dX8_ofShot_56 : decode cX8_ofShot 56 = .ok (.iaload, 1) := by decide +kernel
theorem dX8_ofShot_57 : decode cX8_ofShot 57 = .ok (.ireturn, 1) := by decide +kernel
theorem dX8_ofShot_58 : decode cX8_ofShot 58 = .ok (.aload_n 0, 1) := by decide +kernel
theorem dX8_ofShot_59 : decode cX8_ofShot 59 = .ok (.getfield 52, 3) := by decide +kernel
theorem dX8_ofShot_62 : decode cX8_ofShot 62 = .ok (.iload_n 1, 1) := by decide +kernel
theorem dX8_ofShot_63 : decode cX8_ofShot 63 = .ok (.iaload, 1) := by decide +kernel
theorem dX8_ofShot_64 : decode cX8_ofShot 64 = .ok (.ireturn, 1) := by decide +kernel
theorem dX8_ofShot_65 : decode cX8_ofShot 65 = .ok (.aload_n 0, 1) := by decide +kernel
theorem dX8_ofShot_66 : decode cX8_ofShot 66 = .ok (.getfield 55, 3) := by decide +kernel
theorem dX8_ofShot_69 : decode cX8_ofShot 69 = .ok (.iload_n 1, 1) := by decide +kernel
theorem dX8_ofShot_70 : decode cX8_ofShot 70 = .ok (.iaload, 1) := by decide +kernel
theorem dX8_ofShot_71 : decode cX8_ofShot 71 = .ok (.ireturn, 1) := by decide +kernel
theorem dX8_ofShot_72 : decode cX8_ofShot 72 = .ok (.aload_n 0, 1) := by decide +kernel
theorem dX8_ofShot_73 : decode cX8_ofShot 73 = .ok (.iload_n 1, 1) := by decide +kernel
theorem dX8_ofShot_74 : decode cX8_ofShot 74 = .ok (.invokevirtual 177, 3) := by decide +kernel
theorem dX8_ofShot_77 : decode cX8_ofShot 77 = .ok (.ireturn, 1) := by decide +kernel
theorem dX8_ofShot_78 : decode cX8_ofShot 78 = .ok (.bipush (-2), 2) := by decide +kernel
theorem dX8_ofShot_80 : decode cX8_ofShot 80 = .ok (.ireturn, 1) := by decide +kernel
set_option maxRecDepth 20000 in
theorem ggX8_back_X8_within : GoodIn wsX8_back wsX8_within := goodIn_r _ [5] (by decide +kernel) (by decide +kernel)
set_option maxRecDepth 20000 in
theorem gX8_back_X8_within : GoodIn wsX8_back (va_wsS RX8 106 yX8_within wsX8_within) := goodIn_app (goodIn_of _ (by decide +kernel)) ggX8_back_X8_within
theorem dX8_back_0 : decode cX8_back 0 = .ok (.iload_n 1, 1) := by decide +kernel
theorem dX8_back_1 : decode cX8_back 1 = .ok (.iconst 0, 1) := by decide +kernel
theorem dX8_back_2 : decode cX8_back 2 = .ok (.aload_n 0, 1) := by decide +kernel
theorem dX8_back_3 : decode cX8_back 3 = .ok (.getfield 140, 3) := by decide +kernel
theorem dX8_back_6 : decode cX8_back 6 = .ok (.invokestatic 106, 3) := by decide +kernel
theorem dX8_back_9 : decode cX8_back 9 = .ok (.ifCond .ne 6, 3) := by decide +kernel
theorem dX8_back_12 : decode cX8_back 12 = .ok (.bipush (-2), 2) := by decide +kernel
theorem dX8_back_14 : decode cX8_back 14 = .ok (.ireturn, 1) := by decide +kernel
theorem dX8_back_15 : decode cX8_back 15 = .ok (.aload_n 0, 1) := by decide +kernel
theorem dX8_back_16 : decode cX8_back 16 = .ok (.dup, 1) := by decide +kernel
theorem dX8_back_17 : decode cX8_back 17 = .ok (.getfield 140, 3) := by decide +kernel
theorem dX8_back_20 : decode cX8_back 20 = .ok (.iload_n 1, 1) := by decide +kernel
theorem dX8_back_21 : decode cX8_back 21 = .ok (.isub, 1) := by decide +kernel
theorem dX8_back_22 : decode cX8_back 22 = .ok (.putfield 140, 3) := by decide +kernel
theorem dX8_back_25 : decode cX8_back 25 = .ok (.aload_n 0, 1) := by decide +kernel
theorem dX8_back_26 : decode cX8_back 26 = .ok (.getfield 140, 3) := by decide +kernel
theorem dX8_back_29 : decode cX8_back 29 = .ok (.ireturn, 1) := by decide +kernel
theorem dX8_place_0 : decode cX8_place 0 = .ok (.aload_n 0, 1) := by decide +kernel
theorem dX8_place_1 : decode cX8_place 1 = .ok (.getfield 37, 3) := by decide +kernel
theorem dX8_place_4 : decode cX8_place 4 = .ok (.iload_n 1, 1) := by decide +kernel
theorem dX8_place_5 : decode cX8_place 5 = .ok (.iaload, 1) := by decide +kernel
theorem dX8_place_6 : decode cX8_place 6 = .ok (.aload_n 0, 1) := by decide +kernel
theorem dX8_place_7 : decode cX8_place 7 = .ok (.getfield 180, 3) := by decide +kernel
theorem dX8_place_10 : decode cX8_place 10 = .ok (.iload_n 2, 1) := by decide +kernel
theorem dX8_place_11 : decode cX8_place 11 = .ok (.imul, 1) := by decide +kernel
theorem dX8_place_12 : decode cX8_place 12 = .ok (.iadd, 1) := by decide +kernel
theorem dX8_place_13 : decode cX8_place 13 = .ok (.ireturn, 1) := by decide +kernel
theorem dX8_every_0 : decode cX8_every 0 = .ok (.iconst 1, 1) := by decide +kernel
theorem dX8_every_1 : decode cX8_every 1 = .ok (.iload_n 0, 1) := by decide +kernel
theorem dX8_every_2 : decode cX8_every 2 = .ok (.ishl, 1) := by decide +kernel
theorem dX8_every_3 : decode cX8_every 3 = .ok (.iconst 1, 1) := by decide +kernel
theorem dX8_every_4 : decode cX8_every 4 = .ok (.isub, 1) := by decide +kernel
theorem dX8_every_5 : decode cX8_every 5 = .ok (.ireturn, 1) := by decide +kernel
set_option maxRecDepth 20000 in
theorem ggX8_goDay_X8_goHour : GoodIn wsX8_goDay wsX8_goHour := goodIn_r _ [16, 3, 17, 4, 18, 19, 6, 2, 20, 21, 22, 23, 15, 24, 25, 1, 26, 27, 28, 29, 30, 31, 32, 33, 34, 35, 36, 37, 7, 8, 9, 38, 39, 40, 41, 42, 43, 44, 45, 46, 47, 48, 49, 50, 51, 52, 53, 54, 55, 56, 57, 58, 59, 60, 61, 62, 63, 64, 65, 66, 67, 68, 69, 70, 71, 72, 73, 74, 75, 76, 77, 78, 79, 80, 81, 82, 83, 84, 85] (by decide +kernel) (by decide +kernel)
set_option maxRecDepth 20000 in
theorem gX8_goDay_X8_goHour : GoodIn wsX8_goDay (wsV RX8 186 RX8 yX8_goHour wsX8_goHour) := goodIn_app (goodIn_of _ (by decide +kernel)) ggX8_goDay_X8_goHour
theorem dX8_goDay_0 : decode cX8_goDay 0 = .ok (.aload_n 0, 1) := by decide +kernel
theorem dX8_goDay_1 : decode cX8_goDay 1 = .ok (.iload_n 1, 1) := by decide +kernel
theorem dX8_goDay_2 : decode cX8_goDay 2 = .ok (.putfield 180, 3) := by decide +kernel
theorem dX8_goDay_5 : decode cX8_goDay 5 = .ok (.aload_n 0, 1) := by decide +kernel
theorem dX8_goDay_6 : decode cX8_goDay 6 = .ok (.iload_n 2, 1) := by decide +kernel
theorem dX8_goDay_7 : decode cX8_goDay 7 = .ok (.putfield 183, 3) := by decide +kernel
theorem dX8_goDay_10 : decode cX8_goDay 10 = .ok (.iconst 0, 1) := by decide +kernel
theorem dX8_goDay_11 : decode cX8_goDay 11 = .ok (.istore_n 3, 1) := by decide +kernel
theorem dX8_goDay_12 : decode cX8_goDay 12 = .ok (.iload_n 3, 1) := by decide +kernel
theorem dX8_goDay_13 : decode cX8_goDay 13 = .ok (.aload_n 0, 1) := by decide +kernel
theorem dX8_goDay_14 : decode cX8_goDay 14 = .ok (.getfield 137, 3) := by decide +kernel
theorem dX8_goDay_17 : decode cX8_goDay 17 = .ok (.if_icmp .ge 21, 3) := by decide +kernel
theorem dX8_goDay_20 : decode cX8_goDay 20 = .ok (.aload_n 0, 1) := by decide +kernel
theorem dX8_goDay_21 : decode cX8_goDay 21 = .ok (.getfield 58, 3) := by decide +kernel
theorem dX8_goDay_24 : decode cX8_goDay 24 = .ok (.iload_n 3, 1) := by decide +kernel
theorem dX8_goDay_25 : decode cX8_goDay 25 = .ok (.aload_n 0, 1) := by decide +kernel
theorem dX8_goDay_26 : decode cX8_goDay 26 = .ok (.getfield 40, 3) := by decide +kernel
theorem dX8_goDay_29 : decode cX8_goDay 29 = .ok (.iload_n 3, 1) := by decide +kernel
theorem dX8_goDay_30 : decode cX8_goDay 30 = .ok (.iaload, 1) := by decide +kernel
theorem dX8_goDay_31 : decode cX8_goDay 31 = .ok (.iastore, 1) := by decide +kernel
theorem dX8_goDay_32 : decode cX8_goDay 32 = .ok (.iinc 3 1, 3) := by decide +kernel
theorem dX8_goDay_35 : decode cX8_goDay 35 = .ok (.goto (-23), 3) := by decide +kernel
theorem dX8_goDay_38 : decode cX8_goDay 38 = .ok (.iconst 0, 1) := by decide +kernel
theorem dX8_goDay_39 : decode cX8_goDay 39 = .ok (.istore_n 3, 1) := by decide +kernel
theorem dX8_goDay_40 : decode cX8_goDay 40 = .ok (.iload_n 3, 1) := by decide +kernel
theorem dX8_goDay_41 : decode cX8_goDay 41 = .ok (.bipush 8, 2) := by decide +kernel
theorem dX8_goDay_43 : decode cX8_goDay 43 = .ok (.if_icmp .ge 23, 3) := by decide +kernel
theorem dX8_goDay_46 : decode cX8_goDay 46 = .ok (.aload_n 0, 1) := by decide +kernel
theorem dX8_goDay_47 : decode cX8_goDay 47 = .ok (.getfield 61, 3) := by decide +kernel
theorem dX8_goDay_50 : decode cX8_goDay 50 = .ok (.iload_n 3, 1) := by decide +kernel
theorem dX8_goDay_51 : decode cX8_goDay 51 = .ok (.iconst 0, 1) := by decide +kernel
theorem dX8_goDay_52 : decode cX8_goDay 52 = .ok (.iastore, 1) := by decide +kernel
theorem dX8_goDay_53 : decode cX8_goDay 53 = .ok (.aload_n 0, 1) := by decide +kernel
theorem dX8_goDay_54 : decode cX8_goDay 54 = .ok (.getfield 64, 3) := by decide +kernel
theorem dX8_goDay_57 : decode cX8_goDay 57 = .ok (.iload_n 3, 1) := by decide +kernel
theorem dX8_goDay_58 : decode cX8_goDay 58 = .ok (.iconst 0, 1) := by decide +kernel
theorem dX8_goDay_59 : decode cX8_goDay 59 = .ok (.iastore, 1) := by decide +kernel
theorem dX8_goDay_60 : decode cX8_goDay 60 = .ok (.iinc 3 1, 3) := by decide +kernel
theorem dX8_goDay_63 : decode cX8_goDay 63 = .ok (.goto (-23), 3) := by decide +kernel
theorem dX8_goDay_66 : decode cX8_goDay 66 = .ok (.iconst 0, 1) := by decide +kernel
theorem dX8_goDay_67 : decode cX8_goDay 67 = .ok (.istore_n 3, 1) := by decide +kernel
theorem dX8_goDay_68 : decode cX8_goDay 68 = .ok (.iload_n 3, 1) := by decide +kernel
theorem dX8_goDay_69 : decode cX8_goDay 69 = .ok (.bipush 10, 2) := by decide +kernel
theorem dX8_goDay_71 : decode cX8_goDay 71 = .ok (.if_icmp .ge 24, 3) := by decide +kernel
theorem dX8_goDay_74 : decode cX8_goDay 74 = .ok (.aload_n 0, 1) := by decide +kernel
theorem dX8_goDay_75 : decode cX8_goDay 75 = .ok (.getfield 76, 3) := by decide +kernel
theorem dX8_goDay_78 : decode cX8_goDay 78 = .ok (.iload_n 3, 1) := by decide +kernel
theorem dX8_goDay_79 : decode cX8_goDay 79 = .ok (.iconst 0, 1) := by decide +kernel
theorem dX8_goDay_80 : decode cX8_goDay 80 = .ok (.iastore, 1) := by decide +kernel
theorem dX8_goDay_81 : decode cX8_goDay 81 = .ok (.aload_n 0, 1) := by decide +kernel
theorem dX8_goDay_82 : decode cX8_goDay 82 = .ok (.getfield 79, 3) := by decide +kernel
theorem dX8_goDay_85 : decode cX8_goDay 85 = .ok (.iload_n 3, 1) := by decide +kernel
theorem dX8_goDay_86 : decode cX8_goDay 86 = .ok (.bipush (-9), 2) := by decide +kernel
theorem dX8_goDay_88 : decode cX8_goDay 88 = .ok (.iastore, 1) := by decide +kernel
theorem dX8_goDay_89 : decode cX8_goDay 89 = .ok (.iinc 3 1, 3) := by decide +kernel
theorem dX8_goDay_92 : decode cX8_goDay 92 = .ok (.goto (-24), 3) := by decide +kernel
theorem dX8_goDay_95 : decode cX8_goDay 95 = .ok (.iconst 0, 1) := by decide +kernel
theorem dX8_goDay_96 : decode cX8_goDay 96 = .ok (.istore_n 3, 1) := by decide +kernel
theorem dX8_goDay_97 : decode cX8_goDay 97 = .ok (.iload_n 3, 1) := by decide +kernel
theorem dX8_goDay_98 : decode cX8_goDay 98 = .ok (.bipush 12, 2) := by decide +kernel
theorem dX8_goDay_100 : decode cX8_goDay 100 = .ok (.if_icmp .ge 68, 3) := by decide +kernel
theorem dX8_goDay_103 : decode cX8_goDay 103 = .ok (.aload_n 0, 1) := by decide +kernel
theorem dX8_goDay_104 : decode cX8_goDay 104 = .ok (.iload_n 3, 1) := by decide +kernel
theorem dX8_goDay_105 : decode cX8_goDay 105 = .ok (.invokevirtual 186, 3) := by decide +kernel
theorem dX8_goDay_108 : decode cX8_goDay 108 = .ok (.iconst 0, 1) := by decide +kernel
theorem dX8_goDay_109 : decode cX8_goDay 109 = .ok (.istore 4, 2) := by decide +kernel
theorem dX8_goDay_111 : decode cX8_goDay 111 = .ok (.iload 4, 2) := by decide +kernel
theorem dX8_goDay_113 : decode cX8_goDay 113 = .ok (.bipush 8, 2) := by decide +kernel
theorem dX8_goDay_115 : decode cX8_goDay 115 = .ok (.if_icmp .ge 47, 3) := by decide +kernel
theorem dX8_goDay_118 : decode cX8_goDay 118 = .ok (.aload_n 0, 1) := by decide +kernel
theorem dX8_goDay_119 : decode cX8_goDay 119 = .ok (.getfield 67, 3) := by decide +kernel
theorem dX8_goDay_122 : decode cX8_goDay 122 = .ok (.bipush 8, 2) := by decide +kernel
theorem dX8_goDay_124 : decode cX8_goDay 124 = .ok (.iload_n 3, 1) := by decide +kernel
theorem dX8_goDay_125 : decode cX8_goDay 125 = .ok (.imul, 1) := by decide +kernel
theorem dX8_goDay_126 : decode cX8_goDay 126 = .ok (.iload 4, 2) := by decide +kernel
theorem dX8_goDay_128 : decode cX8_goDay 128 = .ok (.iadd, 1) := by decide +kernel
theorem dX8_goDay_129 : decode cX8_goDay 129 = .ok (.aload_n 0, 1) := by decide +kernel
theorem dX8_goDay_130 : decode cX8_goDay 130 = .ok (.getfield 61, 3) := by decide +kernel
theorem dX8_goDay_133 : decode cX8_goDay 133 = .ok (.iload 4, 2) := by decide +kernel
theorem dX8_goDay_135 : decode cX8_goDay 135 = .ok (.iaload, 1) := by decide +kernel
theorem dX8_goDay_136 : decode cX8_goDay 136 = .ok (.iastore, 1) := by decide +kernel
theorem dX8_goDay_137 : decode cX8_goDay 137 = .ok (.aload_n 0, 1) := by decide +kernel
theorem dX8_goDay_138 : decode cX8_goDay 138 = .ok (.getfield 70, 3) := by decide +kernel
theorem dX8_goDay_141 : decode cX8_goDay 141 = .ok (.bipush 8, 2) := by decide +kernel
theorem dX8_goDay_143 : decode cX8_goDay 143 = .ok (.iload_n 3, 1) := by decide +kernel
theorem dX8_goDay_144 : decode cX8_goDay 144 = .ok (.imul, 1) := by decide +kernel
theorem dX8_goDay_145 : decode cX8_goDay 145 = .ok (.iload 4, 2) := by decide +kernel
theorem dX8_goDay_147 : decode cX8_goDay 147 = .ok (.iadd, 1) := by decide +kernel
theorem dX8_goDay_148 : decode cX8_goDay 148 = .ok (.aload_n 0, 1) := by decide +kernel
theorem dX8_goDay_149 : decode cX8_goDay 149 = .ok (.getfield 64, 3) := by decide +kernel
theorem dX8_goDay_152 : decode cX8_goDay 152 = .ok (.iload 4, 2) := by decide +kernel
theorem dX8_goDay_154 : decode cX8_goDay 154 = .ok (.iaload, 1) := by decide +kernel
theorem dX8_goDay_155 : decode cX8_goDay 155 = .ok (.iastore, 1) := by decide +kernel
theorem dX8_goDay_156 : decode cX8_goDay 156 = .ok (.iinc 4 1, 3) := by decide +kernel
theorem dX8_goDay_159 : decode cX8_goDay 159 = .ok (.goto (-48), 3) := by decide +kernel
theorem dX8_goDay_162 : decode cX8_goDay 162 = .ok (.iinc 3 1, 3) := by decide +kernel
theorem dX8_goDay_165 : decode cX8_goDay 165 = .ok (.goto (-68), 3) := by decide +kernel
theorem dX8_goDay_168 : decode cX8_goDay 168 = .ok (.return_, 1) := by decide +kernel
set_option maxRecDepth 20000 in
theorem ggX8_goHour_X8_place : GoodIn wsX8_goHour wsX8_place := goodIn_r _ [13, 14, 15, 35, 36, 37, 38, 39, 40, 41, 42, 43, 44, 45, 46, 47, 48, 49, 50, 51, 52, 53, 54, 55, 56, 57, 58, 59, 60, 61, 62, 63, 64, 65, 66, 67, 68, 69, 70, 71, 72, 73, 74, 75, 76, 77, 78] (by decide +kernel) (by decide +kernel)
set_option maxRecDepth 20000 in
theorem gX8_goHour_X8_place : GoodIn wsX8_goHour (wsV RX8 190 RX8 yX8_place wsX8_place) := goodIn_app (goodIn_of _ (by decide +kernel)) ggX8_goHour_X8_place
set_option maxRecDepth 20000 in
theorem ggX8_goHour_X8_isField : GoodIn wsX8_goHour wsX8_isField := goodIn_r _ [19, 20, 35, 36, 37, 38, 39, 40, 41, 42, 43, 44, 45, 46, 47, 48, 49, 50, 51, 52, 53, 54, 55, 56, 57, 58, 59, 60, 61, 62, 63, 64, 65, 66, 67, 68, 69, 70, 71, 72, 73, 74, 75, 76, 77, 78] (by decide +kernel) (by decide +kernel)
set_option maxRecDepth 20000 in
theorem gX8_goHour_X8_isField : GoodIn wsX8_goHour (wsV RX8 156 RX8 yX8_isField wsX8_isField) := goodIn_app (goodIn_of _ (by decide +kernel)) ggX8_goHour_X8_isField
set_option maxRecDepth 20000 in
theorem ggX8_goHour_X8_fire : GoodIn wsX8_goHour wsX8_fire := goodIn_r _ [24, 1, 25, 3, 4, 26, 27, 28, 6, 29, 30, 9, 10, 11, 12, 13, 14, 15, 31, 32, 33, 34, 35, 36, 37, 38, 39, 40, 41, 42, 43, 44, 45, 46, 47, 48, 49, 50, 51, 52, 53, 54, 55, 56, 57, 58, 59, 60, 61, 62, 63, 64, 65, 66, 67, 68, 69, 70, 71, 72, 73, 74, 75, 76, 77, 78] (by decide +kernel) (by decide +kernel)
set_option maxRecDepth 20000 in
theorem gX8_goHour_X8_fire : GoodIn wsX8_goHour (wsV RX8 193 RX8 yX8_fire wsX8_fire) := goodIn_app (goodIn_of _ (by decide +kernel)) ggX8_goHour_X8_fire
theorem dX8_goHour_0 : decode cX8_goHour 0 = .ok (.iconst 0, 1) := by decide +kernel
theorem dX8_goHour_1 : decode cX8_goHour 1 = .ok (.istore_n 2, 1) := by decide +kernel
theorem dX8_goHour_2 : decode cX8_goHour 2 = .ok (.iload_n 2, 1) := by decide +kernel
theorem dX8_goHour_3 : decode cX8_goHour 3 = .ok (.aload_n 0, 1) := by decide +kernel
theorem dX8_goHour_4 : decode cX8_goHour 4 = .ok (.getfield 137, 3) := by decide +kernel
theorem dX8_goHour_7 : decode cX8_goHour 7 = .ok (.if_icmp .ge 26, 3) := by decide +kernel
theorem dX8_goHour_10 : decode cX8_goHour 10 = .ok (.aload_n 0, 1) := by decide +kernel
theorem dX8_goHour_11 : decode cX8_goHour 11 = .ok (.getfield 73, 3) := by decide +kernel
theorem dX8_goHour_14 : decode cX8_goHour 14 = .ok (.bipush 6, 2) := by decide +kernel
theorem dX8_goHour_16 : decode cX8_goHour 16 = .ok (.iload_n 1, 1) := by decide +kernel
theorem dX8_goHour_17 : decode cX8_goHour 17 = .ok (.imul, 1) := by decide +kernel
theorem dX8_goHour_18 : decode cX8_goHour 18 = .ok (.iload_n 2, 1) := by decide +kernel
theorem dX8_goHour_19 : decode cX8_goHour 19 = .ok (.iadd, 1) := by decide +kernel
theorem dX8_goHour_20 : decode cX8_goHour 20 = .ok (.aload_n 0, 1) := by decide +kernel
theorem dX8_goHour_21 : decode cX8_goHour 21 = .ok (.getfield 58, 3) := by decide +kernel
theorem dX8_goHour_24 : decode cX8_goHour 24 = .ok (.iload_n 2, 1) := by decide +kernel
theorem dX8_goHour_25 : decode cX8_goHour 25 = .ok (.iaload, 1) := by decide +kernel
theorem dX8_goHour_26 : decode cX8_goHour 26 = .ok (.iastore, 1) := by decide +kernel
theorem dX8_goHour_27 : decode cX8_goHour 27 = .ok (.iinc 2 1, 3) := by decide +kernel
theorem dX8_goHour_30 : decode cX8_goHour 30 = .ok (.goto (-28), 3) := by decide +kernel
theorem dX8_goHour_33 : decode cX8_goHour 33 = .ok (.iconst 0, 1) := by decide +kernel
theorem dX8_goHour_34 : decode cX8_goHour 34 = .ok (.istore_n 2, 1) := by decide +kernel
theorem dX8_goHour_35 : decode cX8_goHour 35 = .ok (.iload_n 2, 1) := by decide +kernel
theorem dX8_goHour_36 : decode cX8_goHour 36 = .ok (.aload_n 0, 1) := by decide +kernel
theorem dX8_goHour_37 : decode cX8_goHour 37 = .ok (.getfield 137, 3) := by decide +kernel
theorem dX8_goHour_40 : decode cX8_goHour 40 = .ok (.if_icmp .ge 69, 3) := by decide +kernel
theorem dX8_goHour_43 : decode cX8_goHour 43 = .ok (.aload_n 0, 1) := by decide +kernel
theorem dX8_goHour_44 : decode cX8_goHour 44 = .ok (.aload_n 0, 1) := by decide +kernel
theorem dX8_goHour_45 : decode cX8_goHour 45 = .ok (.iload_n 2, 1) := by decide +kernel
theorem dX8_goHour_46 : decode cX8_goHour 46 = .ok (.iload_n 1, 1) := by decide +kernel
theorem dX8_goHour_47 : decode cX8_goHour 47 = .ok (.invokevirtual 190, 3) := by decide +kernel
theorem dX8_goHour_50 : decode cX8_goHour 50 = .ok (.invokevirtual 156, 3) := by decide +kernel
theorem dX8_goHour_53 : decode cX8_goHour 53 = .ok (.ifCond .eq 50, 3) := by decide +kernel
theorem dX8_goHour_56 : decode cX8_goHour 56 = .ok (.aload_n 0, 1) := by decide +kernel
theorem dX8_goHour_57 : decode cX8_goHour 57 = .ok (.getfield 43, 3) := by decide +kernel
theorem dX8_goHour_60 : decode cX8_goHour 60 = .ok (.iload_n 2, 1) := by decide +kernel
theorem dX8_goHour_61 : decode cX8_goHour 61 = .ok (.iaload, 1) := by decide +kernel
theorem dX8_goHour_62 : decode cX8_goHour 62 = .ok (.aload_n 0, 1) := by decide +kernel
theorem dX8_goHour_63 : decode cX8_goHour 63 = .ok (.getfield 146, 3) := by decide +kernel
theorem dX8_goHour_66 : decode cX8_goHour 66 = .ok (.if_icmp .gt 37, 3) := by decide +kernel
theorem dX8_goHour_69 : decode cX8_goHour 69 = .ok (.aload_n 0, 1) := by decide +kernel
theorem dX8_goHour_70 : decode cX8_goHour 70 = .ok (.getfield 58, 3) := by decide +kernel
theorem dX8_goHour_73 : decode cX8_goHour 73 = .ok (.iload_n 2, 1) := by decide +kernel
theorem dX8_goHour_74 : decode cX8_goHour 74 = .ok (.iaload, 1) := by decide +kernel
theorem dX8_goHour_75 : decode cX8_goHour 75 = .ok (.ifCond .le 28, 3) := by decide +kernel
theorem dX8_goHour_78 : decode cX8_goHour 78 = .ok (.aload_n 0, 1) := by decide +kernel
theorem dX8_goHour_79 : decode cX8_goHour 79 = .ok (.getfield 58, 3) := by decide +kernel
theorem dX8_goHour_82 : decode cX8_goHour 82 = .ok (.iload_n 2, 1) := by decide +kernel
theorem dX8_goHour_83 : decode cX8_goHour 83 = .ok (.dup2, 1) := by decide +kernel
theorem dX8_goHour_84 : decode cX8_goHour 84 = .ok (.iaload, 1) := by decide +kernel
theorem dX8_goHour_85 : decode cX8_goHour 85 = .ok (.iconst 1, 1) := by decide +kernel
theorem dX8_goHour_86 : decode cX8_goHour 86 = .ok (.isub, 1) := by decide +kernel
theorem dX8_goHour_87 : decode cX8_goHour 87 = .ok (.iastore, 1) := by decide +kernel
theorem dX8_goHour_88 : decode cX8_goHour 88 = .ok (.aload_n 0, 1) := by decide +kernel
theorem dX8_goHour_89 : decode cX8_goHour 89 = .ok (.getfield 61, 3) := by decide +kernel
theorem dX8_goHour_92 : decode cX8_goHour 92 = .ok (.aload_n 0, 1) := by decide +kernel
theorem dX8_goHour_93 : decode cX8_goHour 93 = .ok (.iload_n 2, 1) := by decide +kernel
theorem dX8_goHour_94 : decode cX8_goHour 94 = .ok (.iload_n 1, 1) := by decide +kernel
theorem dX8_goHour_95 : decode cX8_goHour 95 = .ok (.invokevirtual 190, 3) := by decide +kernel
theorem dX8_goHour_98 : decode cX8_goHour 98 = .ok (.dup2, 1) := by decide +kernel
theorem dX8_goHour_99 : decode cX8_goHour 99 = .ok (.iaload, 1) := by decide +kernel
theorem dX8_goHour_100 : decode cX8_goHour 100 = .ok (.iconst 1, 1) := by decide +kernel
theorem dX8_goHour_101 : decode cX8_goHour 101 = .ok (.iadd, 1) := by decide +kernel
theorem dX8_goHour_102 : decode cX8_goHour 102 = .ok (.iastore, 1) := by decide +kernel
theorem dX8_goHour_103 : decode cX8_goHour 103 = .ok (.iinc 2 1, 3) := by decide +kernel
theorem dX8_goHour_106 : decode cX8_goHour 106 = .ok (.goto (-71), 3) := by decide +kernel
theorem dX8_goHour_109 : decode cX8_goHour 109 = .ok (.iconst 0, 1) := by decide +kernel
theorem dX8_goHour_110 : decode cX8_goHour 110 = .ok (.istore_n 2, 1) := by decide +kernel
theorem dX8_goHour_111 : decode cX8_goHour 111 = .ok (.iload_n 2, 1) := by decide +kernel
theorem dX8_goHour_112 : decode cX8_goHour 112 = .ok (.bipush 10, 2) := by decide +kernel
theorem dX8_goHour_114 : decode cX8_goHour 114 = .ok (.if_icmp .ge 37, 3) := by decide +kernel
theorem dX8_goHour_117 : decode cX8_goHour 117 = .ok (.aload_n 0, 1) := by decide +kernel
theorem dX8_goHour_118 : decode cX8_goHour 118 = .ok (.getfield 183, 3) := by decide +kernel
theorem dX8_goHour_121 : decode cX8_goHour 121 = .ok (.iload_n 2, 1) := by decide +kernel
theorem dX8_goHour_122 : decode cX8_goHour 122 = .ok (.ishr, 1) := by decide +kernel
theorem dX8_goHour_123 : decode cX8_goHour 123 = .ok (.iconst 1, 1) := by decide +kernel
theorem dX8_goHour_124 : decode cX8_goHour 124 = .ok (.iand, 1) := by decide +kernel
theorem dX8_goHour_125 : decode cX8_goHour 125 = .ok (.iconst 1, 1) := by decide +kernel
theorem dX8_goHour_126 : decode cX8_goHour 126 = .ok (.if_icmp .ne 19, 3) := by decide +kernel
theorem dX8_goHour_129 : decode cX8_goHour 129 = .ok (.aload_n 0, 1) := by decide +kernel
theorem dX8_goHour_130 : decode cX8_goHour 130 = .ok (.getfield 52, 3) := by decide +kernel
theorem dX8_goHour_133 : decode cX8_goHour 133 = .ok (.iload_n 2, 1) := by decide +kernel
theorem dX8_goHour_134 : decode cX8_goHour 134 = .ok (.iaload, 1) := by decide +kernel
theorem dX8_goHour_135 : decode cX8_goHour 135 = .ok (.iload_n 1, 1) := by decide +kernel
theorem dX8_goHour_136 : decode cX8_goHour 136 = .ok (.if_icmp .ne 9, 3) := by decide +kernel
theorem dX8_goHour_139 : decode cX8_goHour 139 = .ok (.aload_n 0, 1) := by decide +kernel
theorem dX8_goHour_140 : decode cX8_goHour 140 = .ok (.iload_n 2, 1) := by decide +kernel
theorem dX8_goHour_141 : decode cX8_goHour 141 = .ok (.iload_n 1, 1) := by decide +kernel
theorem dX8_goHour_142 : decode cX8_goHour 142 = .ok (.invokevirtual 193, 3) := by decide +kernel
theorem dX8_goHour_145 : decode cX8_goHour 145 = .ok (.iinc 2 1, 3) := by decide +kernel
theorem dX8_goHour_148 : decode cX8_goHour 148 = .ok (.goto (-37), 3) := by decide +kernel
theorem dX8_goHour_151 : decode cX8_goHour 151 = .ok (.return_, 1) := by decide +kernel
set_option maxRecDepth 20000 in
theorem ggX8_fire_X8_place : GoodIn wsX8_fire wsX8_place := goodIn_r _ [15, 16, 17, 22, 23, 24, 25, 26, 27, 28, 29, 30, 31, 32, 33, 34, 35, 36, 37, 38, 39, 40, 41, 42, 43, 44, 45, 46, 47, 48, 49, 50, 51, 52, 53, 54, 55, 56, 57, 58, 59, 60, 61, 62, 63, 64, 65] (by decide +kernel) (by decide +kernel)
set_option maxRecDepth 20000 in
theorem gX8_fire_X8_place : GoodIn wsX8_fire (wsV RX8 190 RX8 yX8_place wsX8_place) := goodIn_app (goodIn_of _ (by decide +kernel)) ggX8_fire_X8_place
set_option maxRecDepth 20000 in
theorem ggX8_fire_X8_reaches : GoodIn wsX8_fire wsX8_reaches := goodIn_r _ [21, 6, 5, 22, 23, 24, 25, 26, 27, 28, 29, 30, 31, 32, 33, 34, 35, 36, 37, 38, 39, 40, 41, 42, 43, 44, 45, 46, 47, 48, 49, 50, 51, 52, 53, 54, 55, 56, 57, 58, 59, 60, 61, 62, 63, 64, 65] (by decide +kernel) (by decide +kernel)
set_option maxRecDepth 20000 in
theorem gX8_fire_X8_reaches : GoodIn wsX8_fire (wsV RX8 177 RX8 yX8_reaches wsX8_reaches) := goodIn_app (goodIn_of _ (by decide +kernel)) ggX8_fire_X8_reaches
theorem dX8_fire_0 : decode cX8_fire 0 = .ok (.bipush (-9), 2) := by decide +kernel
theorem dX8_fire_2 : decode cX8_fire 2 = .ok (.istore_n 3, 1) := by decide +kernel
theorem dX8_fire_3 : decode cX8_fire 3 = .ok (.iconst 0, 1) := by decide +kernel
theorem dX8_fire_4 : decode cX8_fire 4 = .ok (.istore 4, 2) := by decide +kernel
theorem dX8_fire_6 : decode cX8_fire 6 = .ok (.iload 4, 2) := by decide +kernel
theorem dX8_fire_8 : decode cX8_fire 8 = .ok (.aload_n 0, 1) := by decide +kernel
theorem dX8_fire_9 : decode cX8_fire 9 = .ok (.getfield 137, 3) := by decide +kernel
theorem dX8_fire_12 : decode cX8_fire 12 = .ok (.if_icmp .ge 87, 3) := by decide +kernel
theorem dX8_fire_15 : decode cX8_fire 15 = .ok (.aload_n 0, 1) := by decide +kernel
theorem dX8_fire_16 : decode cX8_fire 16 = .ok (.iload 4, 2) := by decide +kernel
theorem dX8_fire_18 : decode cX8_fire 18 = .ok (.iload_n 2, 1) := by decide +kernel
theorem dX8_fire_19 : decode cX8_fire 19 = .ok (.invokevirtual 190, 3) := by decide +kernel
theorem dX8_fire_22 : decode cX8_fire 22 = .ok (.aload_n 0, 1) := by decide +kernel
theorem dX8_fire_23 : decode cX8_fire 23 = .ok (.getfield 49, 3) := by decide +kernel
theorem dX8_fire_26 : decode cX8_fire 26 = .ok (.iload_n 1, 1) := by decide +kernel
theorem dX8_fire_27 : decode cX8_fire 27 = .ok (.iaload, 1) := by decide +kernel
theorem dX8_fire_28 : decode cX8_fire 28 = .ok (.if_icmp .ne 32, 3) := by decide +kernel
theorem dX8_fire_31 : decode cX8_fire 31 = .ok (.aload_n 0, 1) := by decide +kernel
theorem dX8_fire_32 : decode cX8_fire 32 = .ok (.getfield 58, 3) := by decide +kernel
theorem dX8_fire_35 : decode cX8_fire 35 = .ok (.iload 4, 2) := by decide +kernel
theorem dX8_fire_37 : decode cX8_fire 37 = .ok (.iaload, 1) := by decide +kernel
theorem dX8_fire_38 : decode cX8_fire 38 = .ok (.ifCond .le 22, 3) := by decide +kernel
theorem dX8_fire_41 : decode cX8_fire 41 = .ok (.aload_n 0, 1) := by decide +kernel
theorem dX8_fire_42 : decode cX8_fire 42 = .ok (.getfield 43, 3) := by decide +kernel
theorem dX8_fire_45 : decode cX8_fire 45 = .ok (.iload 4, 2) := by decide +kernel
theorem dX8_fire_47 : decode cX8_fire 47 = .ok (.iaload, 1) := by decide +kernel
theorem dX8_fire_48 : decode cX8_fire 48 = .ok (.aload_n 0, 1) := by decide +kernel
theorem dX8_fire_49 : decode cX8_fire 49 = .ok (.iload_n 1, 1) := by decide +kernel
theorem dX8_fire_50 : decode cX8_fire 50 = .ok (.invokevirtual 177, 3) := by decide +kernel
theorem dX8_fire_53 : decode cX8_fire 53 = .ok (.if_icmp .gt 7, 3) := by decide +kernel
theorem dX8_fire_56 : decode cX8_fire 56 = .ok (.iconst 1, 1) := by decide +kernel
theorem dX8_fire_57 : decode cX8_fire 57 = .ok (.goto 4, 3) := by decide +kernel
theorem dX8_fire_60 : decode cX8_fire 60 = .ok (.iconst 0, 1) := by decide +kernel
theorem dX8_fire_61 : decode cX8_fire 61 = .ok (.istore 5, 2) := by decide +kernel
theorem dX8_fire_63 : decode cX8_fire 63 = .ok (.iload 5, 2) := by decide +kernel
theorem dX8_fire_65 : decode cX8_fire 65 = .ok (.ifCond .eq 28, 3) := by decide +kernel
theorem dX8_fire_68 : decode cX8_fire 68 = .ok (.iload_n 3, 1) := by decide +kernel
theorem dX8_fire_69 : decode cX8_fire 69 = .ok (.bipush (-9), 2) := by decide +kernel
theorem dX8_fire_71 : decode cX8_fire 71 = .ok (.if_icmp .eq 19, 3) := by decide +kernel
theorem dX8_fire_74 : decode cX8_fire 74 = .ok (.aload_n 0, 1) := by decide +kernel
theorem dX8_fire_75 : decode cX8_fire 75 = .ok (.getfield 43, 3) := by decide +kernel
theorem dX8_fire_78 : decode cX8_fire 78 = .ok (.iload 4, 2) := by decide +kernel
theorem dX8_fire_80 : decode cX8_fire 80 = .ok (.iaload, 1) := by decide +kernel
theorem dX8_fire_81 : decode cX8_fire 81 = .ok (.aload_n 0, 1) := by decide +kernel
theorem dX8_fire_82 : decode cX8_fire 82 = .ok (.getfield 43, 3) := by decide +kernel
theorem dX8_fire_85 : decode cX8_fire 85 = .ok (.iload_n 3, 1) := by decide +kernel
theorem dX8_fire_86 : decode cX8_fire 86 = .ok (.iaload, 1) := by decide +kernel
theorem dX8_fire_87 : decode cX8_fire 87 = .ok (.if_icmp .ge 6, 3) := by decide +kernel
theorem dX8_fire_90 : decode cX8_fire 90 = .ok (.iload 4, 2) := by decide +kernel
theorem dX8_fire_92 : decode cX8_fire 92 = .ok (.istore_n 3, 1) := by decide +kernel
theorem dX8_fire_93 : decode cX8_fire 93 = .ok (.iinc 4 1, 3) := by decide +kernel
theorem dX8_fire_96 : decode cX8_fire 96 = .ok (.goto (-90), 3) := by decide +kernel
theorem dX8_fire_99 : decode cX8_fire 99 = .ok (.iload_n 3, 1) := by decide +kernel
theorem dX8_fire_100 : decode cX8_fire 100 = .ok (.bipush (-9), 2) := by decide +kernel
theorem dX8_fire_102 : decode cX8_fire 102 = .ok (.if_icmp .ne 4, 3) := by decide +kernel
theorem dX8_fire_105 : decode cX8_fire 105 = .ok (.return_, 1) := by decide +kernel
theorem dX8_fire_106 : decode cX8_fire 106 = .ok (.aload_n 0, 1) := by decide +kernel
theorem dX8_fire_107 : decode cX8_fire 107 = .ok (.getfield 55, 3) := by decide +kernel
theorem dX8_fire_110 : decode cX8_fire 110 = .ok (.iload_n 1, 1) := by decide +kernel
theorem dX8_fire_111 : decode cX8_fire 111 = .ok (.iaload, 1) := by decide +kernel
theorem dX8_fire_112 : decode cX8_fire 112 = .ok (.aload_n 0, 1) := by decide +kernel
theorem dX8_fire_113 : decode cX8_fire 113 = .ok (.getfield 58, 3) := by decide +kernel
theorem dX8_fire_116 : decode cX8_fire 116 = .ok (.iload_n 3, 1) := by decide +kernel
theorem dX8_fire_117 : decode cX8_fire 117 = .ok (.iaload, 1) := by decide +kernel
theorem dX8_fire_118 : decode cX8_fire 118 = .ok (.if_icmp .ge 12, 3) := by decide +kernel
theorem dX8_fire_121 : decode cX8_fire 121 = .ok (.aload_n 0, 1) := by decide +kernel
theorem dX8_fire_122 : decode cX8_fire 122 = .ok (.getfield 55, 3) := by decide +kernel
theorem dX8_fire_125 : decode cX8_fire 125 = .ok (.iload_n 1, 1) := by decide +kernel
theorem dX8_fire_126 : decode cX8_fire 126 = .ok (.iaload, 1) := by decide +kernel
theorem dX8_fire_127 : decode cX8_fire 127 = .ok (.goto 9, 3) := by decide +kernel
theorem dX8_fire_130 : decode cX8_fire 130 = .ok (.aload_n 0, 1) := by decide +kernel
theorem dX8_fire_131 : decode cX8_fire 131 = .ok (.getfield 58, 3) := by decide +kernel
theorem dX8_fire_134 : decode cX8_fire 134 = .ok (.iload_n 3, 1) := by decide +kernel
theorem dX8_fire_135 : decode cX8_fire 135 = .ok (.iaload, 1) := by decide +kernel
theorem dX8_fire_136 : decode cX8_fire 136 = .ok (.istore 4, 2) := by decide +kernel
theorem dX8_fire_138 : decode cX8_fire 138 = .ok (.aload_n 0, 1) := by decide +kernel
theorem dX8_fire_139 : decode cX8_fire 139 = .ok (.getfield 58, 3) := by decide +kernel
theorem dX8_fire_142 : decode cX8_fire 142 = .ok (.iload_n 3, 1) := by decide +kernel
theorem dX8_fire_143 : decode cX8_fire 143 = .ok (.dup2, 1) := by decide +kernel
theorem dX8_fire_144 : decode cX8_fire 144 = .ok (.iaload, 1) := by decide +kernel
theorem dX8_fire_145 : decode cX8_fire 145 = .ok (.iload 4, 2) := by decide +kernel
theorem dX8_fire_147 : decode cX8_fire 147 = .ok (.isub, 1) := by decide +kernel
theorem dX8_fire_148 : decode cX8_fire 148 = .ok (.iastore, 1) := by decide +kernel
theorem dX8_fire_149 : decode cX8_fire 149 = .ok (.aload_n 0, 1) := by decide +kernel
theorem dX8_fire_150 : decode cX8_fire 150 = .ok (.getfield 46, 3) := by decide +kernel
theorem dX8_fire_153 : decode cX8_fire 153 = .ok (.iload_n 1, 1) := by decide +kernel
theorem dX8_fire_154 : decode cX8_fire 154 = .ok (.iaload, 1) := by decide +kernel
theorem dX8_fire_155 : decode cX8_fire 155 = .ok (.iconst 2, 1) := by decide +kernel
theorem dX8_fire_156 : decode cX8_fire 156 = .ok (.if_icmp .ne 10, 3) := by decide +kernel
theorem dX8_fire_159 : decode cX8_fire 159 = .ok (.iload 4, 2) := by decide +kernel
theorem dX8_fire_161 : decode cX8_fire 161 = .ok (.iconst 3, 1) := by decide +kernel
theorem dX8_fire_162 : decode cX8_fire 162 = .ok (.idiv, 1) := by decide +kernel
theorem dX8_fire_163 : decode cX8_fire 163 = .ok (.goto 4, 3) := by decide +kernel
theorem dX8_fire_166 : decode cX8_fire 166 = .ok (.iconst 0, 1) := by decide +kernel
theorem dX8_fire_167 : decode cX8_fire 167 = .ok (.istore 5, 2) := by decide +kernel
theorem dX8_fire_169 : decode cX8_fire 169 = .ok (.aload_n 0, 1) := by decide +kernel
theorem dX8_fire_170 : decode cX8_fire 170 = .ok (.getfield 64, 3) := by decide +kernel
theorem dX8_fire_173 : decode cX8_fire 173 = .ok (.aload_n 0, 1) := by decide +kernel
theorem dX8_fire_174 : decode cX8_fire 174 = .ok (.getfield 49, 3) := by decide +kernel
theorem dX8_fire_177 : decode cX8_fire 177 = .ok (.iload_n 1, 1) := by decide +kernel
theorem dX8_fire_178 : decode cX8_fire 178 = .ok (.iaload, 1) := by decide +kernel
theorem dX8_fire_179 : decode cX8_fire 179 = .ok (.dup2, 1) := by decide +kernel
theorem dX8_fire_180 : decode cX8_fire 180 = .ok (.iaload, 1) := by decide +kernel
theorem dX8_fire_181 : decode cX8_fire 181 = .ok (.iload 5, 2) := by decide +kernel
theorem dX8_fire_183 : decode cX8_fire 183 = .ok (.iadd, 1) := by decide +kernel
theorem dX8_fire_184 : decode cX8_fire 184 = .ok (.iastore, 1) := by decide +kernel
theorem dX8_fire_185 : decode cX8_fire 185 = .ok (.aload_n 0, 1) := by decide +kernel
theorem dX8_fire_186 : decode cX8_fire 186 = .ok (.getfield 61, 3) := by decide +kernel
theorem dX8_fire_189 : decode cX8_fire 189 = .ok (.aload_n 0, 1) := by decide +kernel
theorem dX8_fire_190 : decode cX8_fire 190 = .ok (.getfield 49, 3) := by decide +kernel
theorem dX8_fire_193 : decode cX8_fire 193 = .ok (.iload_n 1, 1) := by decide +kernel
theorem dX8_fire_194 : decode cX8_fire 194 = .ok (.iaload, 1) := by decide +kernel
theorem dX8_fire_195 : decode cX8_fire 195 = .ok (.dup2, 1) := by decide +kernel
theorem dX8_fire_196 : decode cX8_fire 196 = .ok (.iaload, 1) := by decide +kernel
theorem dX8_fire_197 : decode cX8_fire 197 = .ok (.iload 4, 2) := by decide +kernel
theorem dX8_fire_199 : decode cX8_fire 199 = .ok (.iload 5, 2) := by decide +kernel
theorem dX8_fire_201 : decode cX8_fire 201 = .ok (.isub, 1) := by decide +kernel
theorem dX8_fire_202 : decode cX8_fire 202 = .ok (.iadd, 1) := by decide +kernel
theorem dX8_fire_203 : decode cX8_fire 203 = .ok (.iastore, 1) := by decide +kernel
theorem dX8_fire_204 : decode cX8_fire 204 = .ok (.aload_n 0, 1) := by decide +kernel
theorem dX8_fire_205 : decode cX8_fire 205 = .ok (.getfield 76, 3) := by decide +kernel
theorem dX8_fire_208 : decode cX8_fire 208 = .ok (.iload_n 1, 1) := by decide +kernel
theorem dX8_fire_209 : decode cX8_fire 209 = .ok (.iload 4, 2) := by decide +kernel
theorem dX8_fire_211 : decode cX8_fire 211 = .ok (.iastore, 1) := by decide +kernel
theorem dX8_fire_212 : decode cX8_fire 212 = .ok (.aload_n 0, 1) := by decide +kernel
theorem dX8_fire_213 : decode cX8_fire 213 = .ok (.getfield 79, 3) := by decide +kernel
theorem dX8_fire_216 : decode cX8_fire 216 = .ok (.iload_n 1, 1) := by decide +kernel
theorem dX8_fire_217 : decode cX8_fire 217 = .ok (.iload_n 3, 1) := by decide +kernel
theorem dX8_fire_218 : decode cX8_fire 218 = .ok (.iastore, 1) := by decide +kernel
theorem dX8_fire_219 : decode cX8_fire 219 = .ok (.return_, 1) := by decide +kernel
set_option maxRecDepth 20000 in
theorem ggX8_goNow_X8_every : GoodIn wsX8_goNow wsX8_every := goodIn_r _ [6] (by decide +kernel) (by decide +kernel)
set_option maxRecDepth 20000 in
theorem gX8_goNow_X8_every : GoodIn wsX8_goNow (va_wsS RX8 197 yX8_every wsX8_every) := goodIn_app (goodIn_of _ (by decide +kernel)) ggX8_goNow_X8_every
set_option maxRecDepth 20000 in
theorem ggX8_goNow_X8_goDay : GoodIn wsX8_goNow wsX8_goDay := goodIn_r _ [10, 11, 12, 13, 14, 15, 16, 17, 18, 19, 20, 21, 22, 23, 24, 5, 25, 26, 27, 28, 29, 30, 31, 32, 33, 34, 35, 36, 37, 38, 39, 40, 41, 42, 43, 44, 45, 46, 47, 48, 49, 50, 51, 52, 53, 54, 55, 56, 57, 58, 59, 60, 61, 62, 63, 64, 65, 66, 67, 68, 69, 70, 71, 72, 73, 74, 75, 76, 77, 78, 79, 80, 81, 82, 83, 84, 85, 86, 87, 88, 89, 90, 91, 92, 93, 94] (by decide +kernel) (by decide +kernel)
set_option maxRecDepth 20000 in
theorem gX8_goNow_X8_goDay : GoodIn wsX8_goNow (wsV RX8 200 RX8 yX8_goDay wsX8_goDay) := goodIn_app (goodIn_of _ (by decide +kernel)) ggX8_goNow_X8_goDay
theorem dX8_goNow_0 : decode cX8_goNow 0 = .ok (.aload_n 0, 1) := by decide +kernel
theorem dX8_goNow_1 : decode cX8_goNow 1 = .ok (.aload_n 0, 1) := by decide +kernel
theorem dX8_goNow_2 : decode cX8_goNow 2 = .ok (.getfield 143, 3) := by decide +kernel
theorem dX8_goNow_5 : decode cX8_goNow 5 = .ok (.aload_n 0, 1) := by decide +kernel
theorem dX8_goNow_6 : decode cX8_goNow 6 = .ok (.getfield 140, 3) := by decide +kernel
theorem dX8_goNow_9 : decode cX8_goNow 9 = .ok (.invokestatic 197, 3) := by decide +kernel
theorem dX8_goNow_12 : decode cX8_goNow 12 = .ok (.invokevirtual 200, 3) := by decide +kernel
theorem dX8_goNow_15 : decode cX8_goNow 15 = .ok (.return_, 1) := by decide +kernel
theorem dX8_yieldOf_0 : decode cX8_yieldOf 0 = .ok (.aload_n 0, 1) := by decide +kernel
theorem dX8_yieldOf_1 : decode cX8_yieldOf 1 = .ok (.getfield 61, 3) := by decide +kernel
theorem dX8_yieldOf_4 : decode cX8_yieldOf 4 = .ok (.iload_n 1, 1) := by decide +kernel
theorem dX8_yieldOf_5 : decode cX8_yieldOf 5 = .ok (.iaload, 1) := by decide +kernel
theorem dX8_yieldOf_6 : decode cX8_yieldOf 6 = .ok (.aload_n 0, 1) := by decide +kernel
theorem dX8_yieldOf_7 : decode cX8_yieldOf 7 = .ok (.getfield 22, 3) := by decide +kernel
theorem dX8_yieldOf_10 : decode cX8_yieldOf 10 = .ok (.iload_n 1, 1) := by decide +kernel
theorem dX8_yieldOf_11 : decode cX8_yieldOf 11 = .ok (.iaload, 1) := by decide +kernel
theorem dX8_yieldOf_12 : decode cX8_yieldOf 12 = .ok (.if_icmp .ge 12, 3) := by decide +kernel
theorem dX8_yieldOf_15 : decode cX8_yieldOf 15 = .ok (.aload_n 0, 1) := by decide +kernel
theorem dX8_yieldOf_16 : decode cX8_yieldOf 16 = .ok (.getfield 61, 3) := by decide +kernel
theorem dX8_yieldOf_19 : decode cX8_yieldOf 19 = .ok (.iload_n 1, 1) := by decide +kernel
theorem dX8_yieldOf_20 : decode cX8_yieldOf 20 = .ok (.iaload, 1) := by decide +kernel
theorem dX8_yieldOf_21 : decode cX8_yieldOf 21 = .ok (.goto 9, 3) := by decide +kernel
theorem dX8_yieldOf_24 : decode cX8_yieldOf 24 = .ok (.aload_n 0, 1) := by decide +kernel
theorem dX8_yieldOf_25 : decode cX8_yieldOf 25 = .ok (.getfield 22, 3) := by decide +kernel
theorem dX8_yieldOf_28 : decode cX8_yieldOf 28 = .ok (.iload_n 1, 1) := by decide +kernel
theorem dX8_yieldOf_29 : decode cX8_yieldOf 29 = .ok (.iaload, 1) := by decide +kernel
theorem dX8_yieldOf_30 : decode cX8_yieldOf 30 = .ok (.istore_n 2, 1) := by decide +kernel
theorem dX8_yieldOf_31 : decode cX8_yieldOf 31 = .ok (.aload_n 0, 1) := by decide +kernel
theorem dX8_yieldOf_32 : decode cX8_yieldOf 32 = .ok (.getfield 25, 3) := by decide +kernel
theorem dX8_yieldOf_35 : decode cX8_yieldOf 35 = .ok (.iload_n 1, 1) := by decide +kernel
theorem dX8_yieldOf_36 : decode cX8_yieldOf 36 = .ok (.iaload, 1) := by decide +kernel
theorem dX8_yieldOf_37 : decode cX8_yieldOf 37 = .ok (.iload_n 2, 1) := by decide +kernel
theorem dX8_yieldOf_38 : decode cX8_yieldOf 38 = .ok (.imul, 1) := by decide +kernel
theorem dX8_yieldOf_39 : decode cX8_yieldOf 39 = .ok (.iconst 2, 1) := by decide +kernel
theorem dX8_yieldOf_40 : decode cX8_yieldOf 40 = .ok (.aload_n 0, 1) := by decide +kernel
theorem dX8_yieldOf_41 : decode cX8_yieldOf 41 = .ok (.getfield 64, 3) := by decide +kernel
theorem dX8_yieldOf_44 : decode cX8_yieldOf 44 = .ok (.iload_n 1, 1) := by decide +kernel
theorem dX8_yieldOf_45 : decode cX8_yieldOf 45 = .ok (.iaload, 1) := by decide +kernel
theorem dX8_yieldOf_46 : decode cX8_yieldOf 46 = .ok (.imul, 1) := by decide +kernel
theorem dX8_yieldOf_47 : decode cX8_yieldOf 47 = .ok (.isub, 1) := by decide +kernel
theorem dX8_yieldOf_48 : decode cX8_yieldOf 48 = .ok (.istore_n 3, 1) := by decide +kernel
theorem dX8_yieldOf_49 : decode cX8_yieldOf 49 = .ok (.iload_n 3, 1) := by decide +kernel
theorem dX8_yieldOf_50 : decode cX8_yieldOf 50 = .ok (.ifCond .ge 7, 3) := by decide +kernel
theorem dX8_yieldOf_53 : decode cX8_yieldOf 53 = .ok (.iconst 0, 1) := by decide +kernel
theorem dX8_yieldOf_54 : decode cX8_yieldOf 54 = .ok (.goto 4, 3) := by decide +kernel
theorem dX8_yieldOf_57 : decode cX8_yieldOf 57 = .ok (.iload_n 3, 1) := by decide +kernel
theorem dX8_yieldOf_58 : decode cX8_yieldOf 58 = .ok (.ireturn, 1) := by decide +kernel
set_option maxRecDepth 20000 in
theorem ggX8_yieldTo_X8_yieldOf : GoodIn wsX8_yieldTo wsX8_yieldOf := goodIn_r _ [7, 8, 9, 10, 11, 12, 13, 14, 15, 16, 17, 18, 19, 20, 21, 22, 23, 24, 25, 26, 27, 28, 29, 30, 31, 32, 33, 34, 35, 36, 37, 38, 39, 40, 41, 42, 43, 44, 45, 46, 47, 48, 49, 50, 51, 52, 53, 54, 55] (by decide +kernel) (by decide +kernel)
set_option maxRecDepth 20000 in
theorem gX8_yieldTo_X8_yieldOf : GoodIn wsX8_yieldTo (wsV RX8 203 RX8 yX8_yieldOf wsX8_yieldOf) := goodIn_app (goodIn_of _ (by decide +kernel)) ggX8_yieldTo_X8_yieldOf
theorem dX8_yieldTo_0 : decode cX8_yieldTo 0 = .ok (.iconst 0, 1) := by decide +kernel
theorem dX8_yieldTo_1 : decode cX8_yieldTo 1 = .ok (.istore_n 2, 1) := by decide +kernel
theorem dX8_yieldTo_2 : decode cX8_yieldTo 2 = .ok (.iconst 0, 1) := by decide +kernel
theorem dX8_yieldTo_3 : decode cX8_yieldTo 3 = .ok (.istore_n 3, 1) := by decide +kernel
theorem dX8_yieldTo_4 : decode cX8_yieldTo 4 = .ok (.iload_n 3, 1) := by decide +kernel
theorem dX8_yieldTo_5 : decode cX8_yieldTo 5 = .ok (.aload_n 0, 1) := by decide +kernel
theorem dX8_yieldTo_6 : decode cX8_yieldTo 6 = .ok (.getfield 110, 3) := by decide +kernel
theorem dX8_yieldTo_9 : decode cX8_yieldTo 9 = .ok (.if_icmp .ge 36, 3) := by decide +kernel
theorem dX8_yieldTo_12 : decode cX8_yieldTo 12 = .ok (.iload_n 2, 1) := by decide +kernel
theorem dX8_yieldTo_13 : decode cX8_yieldTo 13 = .ok (.iload_n 1, 1) := by decide +kernel
theorem dX8_yieldTo_14 : decode cX8_yieldTo 14 = .ok (.iconst (-1), 1) := by decide +kernel
theorem dX8_yieldTo_15 : decode cX8_yieldTo 15 = .ok (.if_icmp .eq 13, 3) := by decide +kernel
theorem dX8_yieldTo_18 : decode cX8_yieldTo 18 = .ok (.aload_n 0, 1) := by decide +kernel
theorem dX8_yieldTo_19 : decode cX8_yieldTo 19 = .ok (.getfield 19, 3) := by decide +kernel
theorem dX8_yieldTo_22 : decode cX8_yieldTo 22 = .ok (.iload_n 3, 1) := by decide +kernel
theorem dX8_yieldTo_23 : decode cX8_yieldTo 23 = .ok (.iaload, 1) := by decide +kernel
theorem dX8_yieldTo_24 : decode cX8_yieldTo 24 = .ok (.iload_n 1, 1) := by decide +kernel
theorem dX8_yieldTo_25 : decode cX8_yieldTo 25 = .ok (.if_icmp .ne 11, 3) := by decide +kernel
theorem dX8_yieldTo_28 : decode cX8_yieldTo 28 = .ok (.aload_n 0, 1) := by decide +kernel
theorem dX8_yieldTo_29 : decode cX8_yieldTo 29 = .ok (.iload_n 3, 1) := by decide +kernel
theorem dX8_yieldTo_30 : decode cX8_yieldTo 30 = .ok (.invokevirtual 203, 3) := by decide +kernel
theorem dX8_yieldTo_33 : decode cX8_yieldTo 33 = .ok (.goto 4, 3) := by decide +kernel
theorem dX8_yieldTo_36 : decode cX8_yieldTo 36 = .ok (.iconst 0, 1) := by decide +kernel
theorem dX8_yieldTo_37 : decode cX8_yieldTo 37 = .ok (.iadd, 1) := by decide +kernel
theorem dX8_yieldTo_38 : decode cX8_yieldTo 38 = .ok (.istore_n 2, 1) := by decide +kernel
theorem dX8_yieldTo_39 : decode cX8_yieldTo 39 = .ok (.iinc 3 1, 3) := by decide +kernel
theorem dX8_yieldTo_42 : decode cX8_yieldTo 42 = .ok (.goto (-38), 3) := by decide +kernel
theorem dX8_yieldTo_45 : decode cX8_yieldTo 45 = .ok (.iload_n 2, 1) := by decide +kernel
theorem dX8_yieldTo_46 : decode cX8_yieldTo 46 = .ok (.ireturn, 1) := by decide +kernel
set_option maxRecDepth 20000 in
theorem ggX8_ofCloud_X8_isHour : GoodIn wsX8_ofCloud wsX8_isHour := goodIn_r _ [7, 8, 9, 6, 10] (by decide +kernel) (by decide +kernel)
set_option maxRecDepth 20000 in
theorem gX8_ofCloud_X8_isHour : GoodIn wsX8_ofCloud (va_wsS RX8 167 yX8_isHour wsX8_isHour) := goodIn_app (goodIn_of _ (by decide +kernel)) ggX8_ofCloud_X8_isHour
set_option maxRecDepth 20000 in
theorem ggX8_ofCloud_X8_goNow : GoodIn wsX8_ofCloud wsX8_goNow := goodIn_r _ [14, 15, 16, 17, 18, 6, 19, 20, 21, 22, 23, 24, 25, 1, 26, 27, 28, 29, 30, 31, 32, 33, 34, 35, 36, 37, 2, 3, 38, 39, 40, 41, 42, 43, 44, 45, 46, 47, 48, 49, 50, 51, 52, 53, 54, 55, 56, 57, 58, 59, 60, 61, 62, 63, 64, 65, 66, 67, 68, 69, 70, 71, 72, 73, 74, 75, 76, 77, 78, 79, 80, 81, 82, 83, 84, 85, 86, 87, 88, 89, 90, 91, 92, 93, 94, 95, 96, 97, 98, 99, 100, 101, 102, 103, 104] (by decide +kernel) (by decide +kernel)
set_option maxRecDepth 20000 in
theorem gX8_ofCloud_X8_goNow : GoodIn wsX8_ofCloud (wsV RX8 206 RX8 yX8_goNow wsX8_goNow) := goodIn_app (goodIn_of _ (by decide +kernel)) ggX8_ofCloud_X8_goNow
set_option maxRecDepth 20000 in
theorem ggX8_ofCloud_X8_place : GoodIn wsX8_ofCloud wsX8_place := goodIn_r _ [43, 44, 24, 61, 62, 63, 64, 65, 66, 67, 68, 69, 70, 71, 72, 73, 74, 75, 76, 77, 78, 79, 80, 81, 82, 83, 84, 85, 86, 87, 88, 89, 90, 91, 92, 93, 94, 95, 96, 97, 98, 99, 100, 101, 102, 103, 104] (by decide +kernel) (by decide +kernel)
set_option maxRecDepth 20000 in
theorem gX8_ofCloud_X8_place : GoodIn wsX8_ofCloud (wsV RX8 190 RX8 yX8_place wsX8_place) := goodIn_app (goodIn_of _ (by decide +kernel)) ggX8_ofCloud_X8_place
theorem dX8_ofCloud_0 : decode cX8_ofCloud 0 = .ok (.iload_n 1, 1) := by decide +kernel
theorem dX8_ofCloud_1 : decode cX8_ofCloud 1 = .ok (.ifCond .lt 11, 3) := by decide +kernel
theorem dX8_ofCloud_4 : decode cX8_ofCloud 4 = .ok (.iload_n 1, 1) := by decide +kernel
theorem dX8_ofCloud_5 : decode cX8_ofCloud 5 = .ok (.aload_n 0, 1) := by decide +kernel
theorem dX8_ofCloud_6 : decode cX8_ofCloud 6 = .ok (.getfield 137, 3) := by decide +kernel
theorem dX8_ofCloud_9 : decode cX8_ofCloud 9 = .ok (.if_icmp .lt 5, 3) := by decide +kernel
theorem dX8_ofCloud_12 : decode cX8_ofCloud 12 = .ok (.iconst (-1), 1) := by decide +kernel
theorem dX8_ofCloud_13 : decode cX8_ofCloud 13 = .ok (.ireturn, 1) := by decide +kernel
theorem dX8_ofCloud_14 : decode cX8_ofCloud 14 = .ok (.iload_n 2, 1) := by decide +kernel
theorem dX8_ofCloud_15 : decode cX8_ofCloud 15 = .ok (.invokestatic 167, 3) := by decide +kernel
theorem dX8_ofCloud_18 : decode cX8_ofCloud 18 = .ok (.ifCond .ne 6, 3) := by decide +kernel
theorem dX8_ofCloud_21 : decode cX8_ofCloud 21 = .ok (.bipush (-2), 2) := by decide +kernel
theorem dX8_ofCloud_23 : decode cX8_ofCloud 23 = .ok (.ireturn, 1) := by decide +kernel
theorem dX8_ofCloud_24 : decode cX8_ofCloud 24 = .ok (.aload_n 0, 1) := by decide +kernel
theorem dX8_ofCloud_25 : decode cX8_ofCloud 25 = .ok (.invokevirtual 206, 3) := by decide +kernel
theorem dX8_ofCloud_28 : decode cX8_ofCloud 28 = .ok (.iload_n 3, 1) := by decide +kernel
theorem dX8_ofCloud_29 : decode cX8_ofCloud 29 = .ok (.ifCond .ne 15, 3) := by decide +kernel
theorem dX8_ofCloud_32 : decode cX8_ofCloud 32 = .ok (.aload_n 0, 1) := by decide +kernel
theorem dX8_ofCloud_33 : decode cX8_ofCloud 33 = .ok (.iload_n 1, 1) := by decide +kernel
theorem dX8_ofCloud_34 : decode cX8_ofCloud 34 = .ok (.iload_n 2, 1) := by decide +kernel
theorem dX8_ofCloud_35 : decode cX8_ofCloud 35 = .ok (.invokevirtual 190, 3) := by decide +kernel
theorem dX8_ofCloud_38 : decode cX8_ofCloud 38 = .ok (.bipush 100, 2) := by decide +kernel
theorem dX8_ofCloud_40 : decode cX8_ofCloud 40 = .ok (.iadd, 1) := by decide +kernel
theorem dX8_ofCloud_41 : decode cX8_ofCloud 41 = .ok (.goto 38, 3) := by decide +kernel
theorem dX8_ofCloud_44 : decode cX8_ofCloud 44 = .ok (.iload_n 3, 1) := by decide +kernel
theorem dX8_ofCloud_45 : decode cX8_ofCloud 45 = .ok (.iconst 1, 1) := by decide +kernel
theorem dX8_ofCloud_46 : decode cX8_ofCloud 46 = .ok (.if_icmp .ne 17, 3) := by decide +kernel
theorem dX8_ofCloud_49 : decode cX8_ofCloud 49 = .ok (.aload_n 0, 1) := by decide +kernel
theorem dX8_ofCloud_50 : decode cX8_ofCloud 50 = .ok (.getfield 73, 3) := by decide +kernel
theorem dX8_ofCloud_53 : decode cX8_ofCloud 53 = .ok (.bipush 6, 2) := by decide +kernel
theorem dX8_ofCloud_55 : decode cX8_ofCloud 55 = .ok (.iload_n 2, 1) := by decide +kernel
theorem dX8_ofCloud_56 : decode cX8_ofCloud 56 = .ok (.imul, 1) := by decide +kernel
theorem dX8_ofCloud_57 : decode cX8_ofCloud 57 = .ok (.iload_n 1, 1) := by decide +kernel
theorem dX8_ofCloud_58 : decode cX8_ofCloud 58 = .ok (.iadd, 1) := by decide +kernel
theorem dX8_ofCloud_59 : decode cX8_ofCloud 59 = .ok (.iaload, 1) := by decide +kernel
theorem dX8_ofCloud_60 : decode cX8_ofCloud 60 = .ok (.goto 19, 3) := by decide +kernel
theorem dX8_ofCloud_63 : decode cX8_ofCloud 63 = .ok (.iload_n 3, 1) := by decide +kernel
theorem dX8_ofCloud_64 : decode cX8_ofCloud 64 = .ok (.iconst 2, 1) := by decide +kernel
theorem dX8_ofCloud_65 : decode cX8_ofCloud 65 = .ok (.if_icmp .ne 12, 3) := by decide +kernel
theorem dX8_ofCloud_68 : decode cX8_ofCloud 68 = .ok (.aload_n 0, 1) := by decide +kernel
theorem dX8_ofCloud_69 : decode cX8_ofCloud 69 = .ok (.getfield 43, 3) := by decide +kernel
theorem dX8_ofCloud_72 : decode cX8_ofCloud 72 = .ok (.iload_n 1, 1) := by decide +kernel
theorem dX8_ofCloud_73 : decode cX8_ofCloud 73 = .ok (.iaload, 1) := by decide +kernel
theorem dX8_ofCloud_74 : decode cX8_ofCloud 74 = .ok (.goto 5, 3) := by decide +kernel
theorem dX8_ofCloud_77 : decode cX8_ofCloud 77 = .ok (.bipush (-2), 2) := by decide +kernel
theorem dX8_ofCloud_79 : decode cX8_ofCloud 79 = .ok (.ireturn, 1) := by decide +kernel
set_option maxRecDepth 20000 in
theorem ggX8_fell_X8_isField : GoodIn wsX8_fell wsX8_isField := goodIn_r _ [7, 8, 61, 62, 63, 64, 65, 66, 67, 68, 69, 70, 71, 72, 73, 74, 75, 76, 77, 78, 79, 80, 81, 82, 83, 84, 85, 86, 87, 88, 89, 90, 91, 92, 93, 94, 95, 96, 97, 98, 99, 100, 101, 102, 103, 104] (by decide +kernel) (by decide +kernel)
set_option maxRecDepth 20000 in
theorem gX8_fell_X8_isField : GoodIn wsX8_fell (wsV RX8 156 RX8 yX8_isField wsX8_isField) := goodIn_app (goodIn_of _ (by decide +kernel)) ggX8_fell_X8_isField
set_option maxRecDepth 20000 in
theorem ggX8_fell_X8_isHour : GoodIn wsX8_fell wsX8_isHour := goodIn_r _ [11, 12, 13, 6, 14] (by decide +kernel) (by decide +kernel)
set_option maxRecDepth 20000 in
theorem gX8_fell_X8_isHour : GoodIn wsX8_fell (va_wsS RX8 167 yX8_isHour wsX8_isHour) := goodIn_app (goodIn_of _ (by decide +kernel)) ggX8_fell_X8_isHour
set_option maxRecDepth 20000 in
theorem ggX8_fell_X8_within : GoodIn wsX8_fell wsX8_within := goodIn_r _ [14] (by decide +kernel) (by decide +kernel)
set_option maxRecDepth 20000 in
theorem gX8_fell_X8_within : GoodIn wsX8_fell (va_wsS RX8 106 yX8_within wsX8_within) := goodIn_app (goodIn_of _ (by decide +kernel)) ggX8_fell_X8_within
set_option maxRecDepth 20000 in
theorem ggX8_fell_X8_goNow : GoodIn wsX8_fell wsX8_goNow := goodIn_r _ [18, 19, 20, 21, 22, 6, 23, 24, 25, 26, 27, 28, 29, 30, 31, 32, 33, 34, 35, 36, 1, 2, 37, 38, 39, 40, 41, 42, 43, 44, 45, 46, 47, 48, 49, 3, 4, 5, 7, 8, 50, 51, 52, 53, 54, 55, 56, 57, 58, 59, 60, 61, 62, 63, 64, 65, 66, 67, 68, 69, 70, 71, 72, 73, 74, 75, 76, 77, 78, 79, 80, 81, 82, 83, 84, 85, 86, 87, 88, 89, 90, 91, 92, 93, 94, 95, 96, 97, 98, 99, 100, 101, 102, 103, 104] (by decide +kernel) (by decide +kernel)
set_option maxRecDepth 20000 in
theorem gX8_fell_X8_goNow : GoodIn wsX8_fell (wsV RX8 206 RX8 yX8_goNow wsX8_goNow) := goodIn_app (goodIn_of _ (by decide +kernel)) ggX8_fell_X8_goNow
theorem dX8_fell_0 : decode cX8_fell 0 = .ok (.aload_n 0, 1) := by decide +kernel
theorem dX8_fell_1 : decode cX8_fell 1 = .ok (.iload_n 1, 1) := by decide +kernel
theorem dX8_fell_2 : decode cX8_fell 2 = .ok (.invokevirtual 156, 3) := by decide +kernel
theorem dX8_fell_5 : decode cX8_fell 5 = .ok (.ifCond .ne 5, 3) := by decide +kernel
theorem dX8_fell_8 : decode cX8_fell 8 = .ok (.iconst (-1), 1) := by decide +kernel
theorem dX8_fell_9 : decode cX8_fell 9 = .ok (.ireturn, 1) := by decide +kernel
theorem dX8_fell_10 : decode cX8_fell 10 = .ok (.iload_n 2, 1) := by decide +kernel
theorem dX8_fell_11 : decode cX8_fell 11 = .ok (.invokestatic 167, 3) := by decide +kernel
theorem dX8_fell_14 : decode cX8_fell 14 = .ok (.ifCond .eq 12, 3) := by decide +kernel
theorem dX8_fell_17 : decode cX8_fell 17 = .ok (.iload_n 3, 1) := by decide +kernel
theorem dX8_fell_18 : decode cX8_fell 18 = .ok (.iconst 0, 1) := by decide +kernel
theorem dX8_fell_19 : decode cX8_fell 19 = .ok (.iconst 1, 1) := by decide +kernel
theorem dX8_fell_20 : decode cX8_fell 20 = .ok (.invokestatic 106, 3) := by decide +kernel
theorem dX8_fell_23 : decode cX8_fell 23 = .ok (.ifCond .ne 6, 3) := by decide +kernel
theorem dX8_fell_26 : decode cX8_fell 26 = .ok (.bipush (-2), 2) := by decide +kernel
theorem dX8_fell_28 : decode cX8_fell 28 = .ok (.ireturn, 1) := by decide +kernel
theorem dX8_fell_29 : decode cX8_fell 29 = .ok (.aload_n 0, 1) := by decide +kernel
theorem dX8_fell_30 : decode cX8_fell 30 = .ok (.invokevirtual 206, 3) := by decide +kernel
theorem dX8_fell_33 : decode cX8_fell 33 = .ok (.iload_n 3, 1) := by decide +kernel
theorem dX8_fell_34 : decode cX8_fell 34 = .ok (.ifCond .ne 17, 3) := by decide +kernel
theorem dX8_fell_37 : decode cX8_fell 37 = .ok (.aload_n 0, 1) := by decide +kernel
theorem dX8_fell_38 : decode cX8_fell 38 = .ok (.getfield 67, 3) := by decide +kernel
theorem dX8_fell_41 : decode cX8_fell 41 = .ok (.bipush 8, 2) := by decide +kernel
theorem dX8_fell_43 : decode cX8_fell 43 = .ok (.iload_n 2, 1) := by decide +kernel
theorem dX8_fell_44 : decode cX8_fell 44 = .ok (.imul, 1) := by decide +kernel
theorem dX8_fell_45 : decode cX8_fell 45 = .ok (.iload_n 1, 1) := by decide +kernel
theorem dX8_fell_46 : decode cX8_fell 46 = .ok (.iadd, 1) := by decide +kernel
theorem dX8_fell_47 : decode cX8_fell 47 = .ok (.iaload, 1) := by decide +kernel
theorem dX8_fell_48 : decode cX8_fell 48 = .ok (.goto 14, 3) := by decide +kernel
theorem dX8_fell_51 : decode cX8_fell 51 = .ok (.aload_n 0, 1) := by decide +kernel
theorem dX8_fell_52 : decode cX8_fell 52 = .ok (.getfield 70, 3) := by decide +kernel
theorem dX8_fell_55 : decode cX8_fell 55 = .ok (.bipush 8, 2) := by decide +kernel
theorem dX8_fell_57 : decode cX8_fell 57 = .ok (.iload_n 2, 1) := by decide +kernel
theorem dX8_fell_58 : decode cX8_fell 58 = .ok (.imul, 1) := by decide +kernel
theorem dX8_fell_59 : decode cX8_fell 59 = .ok (.iload_n 1, 1) := by decide +kernel
theorem dX8_fell_60 : decode cX8_fell 60 = .ok (.iadd, 1) := by decide +kernel
theorem dX8_fell_61 : decode cX8_fell 61 = .ok (.iaload, 1) := by decide +kernel
theorem dX8_fell_62 : decode cX8_fell 62 = .ok (.ireturn, 1) := by decide +kernel
set_option maxRecDepth 20000 in
theorem ggX8_by_X8_isShot : GoodIn wsX8_by wsX8_isShot := goodIn_r _ [7, 8, 59, 60, 61, 62, 63, 64, 65, 66, 67, 68, 69, 70, 71, 72, 73, 74, 75, 76, 77, 78, 79, 80, 81, 82, 83, 84, 85, 86, 87, 88, 89, 90, 91, 92, 93, 94, 95, 96, 97, 98, 99, 100, 101, 102] (by decide +kernel) (by decide +kernel)
set_option maxRecDepth 20000 in
theorem gX8_by_X8_isShot : GoodIn wsX8_by (wsV RX8 174 RX8 yX8_isShot wsX8_isShot) := goodIn_app (goodIn_of _ (by decide +kernel)) ggX8_by_X8_isShot
set_option maxRecDepth 20000 in
theorem ggX8_by_X8_goNow : GoodIn wsX8_by wsX8_goNow := goodIn_r _ [12, 13, 8, 14, 15, 6, 16, 17, 18, 19, 20, 21, 22, 23, 24, 25, 26, 27, 1, 2, 28, 29, 30, 31, 32, 33, 34, 35, 36, 37, 38, 39, 40, 41, 42, 43, 44, 45, 46, 47, 48, 49, 50, 51, 52, 53, 54, 55, 56, 57, 58, 59, 60, 61, 62, 63, 64, 65, 66, 67, 68, 69, 70, 71, 72, 73, 74, 75, 76, 77, 78, 79, 80, 81, 82, 83, 84, 85, 86, 87, 88, 89, 90, 91, 92, 93, 94, 95, 96, 97, 98, 99, 100, 101, 102] (by decide +kernel) (by decide +kernel)
set_option maxRecDepth 20000 in
theorem gX8_by_X8_goNow : GoodIn wsX8_by (wsV RX8 206 RX8 yX8_goNow wsX8_goNow) := goodIn_app (goodIn_of _ (by decide +kernel)) ggX8_by_X8_goNow
theorem dX8_by_0 : decode cX8_by 0 = .ok (.aload_n 0, 1) := by decide +kernel
theorem dX8_by_1 : decode cX8_by 1 = .ok (.iload_n 1, 1) := by decide +kernel
theorem dX8_by_2 : decode cX8_by 2 = .ok (.invokevirtual 174, 3) := by decide +kernel
theorem dX8_by_5 : decode cX8_by 5 = .ok (.ifCond .ne 5, 3) := by decide +kernel
theorem dX8_by_8 : decode cX8_by 8 = .ok (.iconst (-1), 1) := by decide +kernel
theorem dX8_by_9 : decode cX8_by 9 = .ok (.ireturn, 1) := by decide +kernel
theorem dX8_by_10 : decode cX8_by 10 = .ok (.aload_n 0, 1) := by decide +kernel
theorem dX8_by_11 : decode cX8_by 11 = .ok (.invokevirtual 206, 3) := by decide +kernel
theorem dX8_by_14 : decode cX8_by 14 = .ok (.iload_n 2, 1) := by decide +kernel
theorem dX8_by_15 : decode cX8_by 15 = .ok (.ifCond .ne 12, 3) := by decide +kernel
theorem dX8_by_18 : decode cX8_by 18 = .ok (.aload_n 0, 1) := by decide +kernel
theorem dX8_by_19 : decode cX8_by 19 = .ok (.getfield 76, 3) := by decide +kernel
theorem dX8_by_22 : decode cX8_by 22 = .ok (.iload_n 1, 1) := by decide +kernel
theorem dX8_by_23 : decode cX8_by 23 = .ok (.iaload, 1) := by decide +kernel
theorem dX8_by_24 : decode cX8_by 24 = .ok (.goto 19, 3) := by decide +kernel
theorem dX8_by_27 : decode cX8_by 27 = .ok (.iload_n 2, 1) := by decide +kernel
theorem dX8_by_28 : decode cX8_by 28 = .ok (.iconst 1, 1) := by decide +kernel
theorem dX8_by_29 : decode cX8_by 29 = .ok (.if_icmp .ne 12, 3) := by decide +kernel
theorem dX8_by_32 : decode cX8_by 32 = .ok (.aload_n 0, 1) := by decide +kernel
theorem dX8_by_33 : decode cX8_by 33 = .ok (.getfield 79, 3) := by decide +kernel
theorem dX8_by_36 : decode cX8_by 36 = .ok (.iload_n 1, 1) := by decide +kernel
theorem dX8_by_37 : decode cX8_by 37 = .ok (.iaload, 1) := by decide +kernel
theorem dX8_by_38 : decode cX8_by 38 = .ok (.goto 5, 3) := by decide +kernel
theorem dX8_by_41 : decode cX8_by 41 = .ok (.bipush (-2), 2) := by decide +kernel
theorem dX8_by_43 : decode cX8_by 43 = .ok (.ireturn, 1) := by decide +kernel
set_option maxRecDepth 20000 in
theorem ggX8_yields_X8_isField : GoodIn wsX8_yields wsX8_isField := goodIn_r _ [5, 6, 61, 62, 63, 64, 65, 66, 67, 68, 69, 70, 71, 72, 73, 74, 75, 76, 77, 78, 79, 80, 81, 82, 83, 84, 85, 86, 87, 88, 89, 90, 91, 92, 93, 94, 95, 96, 97, 98, 99, 100, 101, 102, 103, 104] (by decide +kernel) (by decide +kernel)
set_option maxRecDepth 20000 in
theorem gX8_yields_X8_isField : GoodIn wsX8_yields (wsV RX8 156 RX8 yX8_isField wsX8_isField) := goodIn_app (goodIn_of _ (by decide +kernel)) ggX8_yields_X8_isField
set_option maxRecDepth 20000 in
theorem ggX8_yields_X8_goNow : GoodIn wsX8_yields wsX8_goNow := goodIn_r _ [10, 11, 12, 13, 14, 4, 15, 16, 17, 18, 19, 20, 21, 22, 23, 24, 25, 26, 27, 28, 29, 30, 31, 32, 33, 34, 35, 36, 37, 38, 39, 40, 41, 42, 43, 1, 2, 3, 5, 6, 44, 45, 46, 47, 48, 49, 50, 51, 52, 53, 54, 61, 62, 63, 64, 65, 66, 67, 68, 69, 70, 71, 72, 73, 74, 75, 76, 77, 78, 79, 80, 81, 82, 83, 84, 85, 86, 87, 88, 89, 90, 91, 92, 93, 94, 95, 96, 97, 98, 99, 100, 101, 102, 103, 104] (by decide +kernel) (by decide +kernel)
set_option maxRecDepth 20000 in
theorem gX8_yields_X8_goNow : GoodIn wsX8_yields (wsV RX8 206 RX8 yX8_goNow wsX8_goNow) := goodIn_app (goodIn_of _ (by decide +kernel)) ggX8_yields_X8_goNow
set_option maxRecDepth 20000 in
theorem ggX8_yields_X8_yieldOf : GoodIn wsX8_yields wsX8_yieldOf := goodIn_r _ [58, 25, 59, 60, 26, 61, 62, 63, 64, 65, 66, 67, 68, 69, 70, 71, 72, 73, 74, 75, 76, 77, 78, 79, 80, 81, 82, 83, 84, 85, 86, 87, 88, 89, 90, 91, 92, 93, 94, 95, 96, 97, 98, 99, 100, 101, 102, 103, 104] (by decide +kernel) (by decide +kernel)
set_option maxRecDepth 20000 in
theorem gX8_yields_X8_yieldOf : GoodIn wsX8_yields (wsV RX8 203 RX8 yX8_yieldOf wsX8_yieldOf) := goodIn_app (goodIn_of _ (by decide +kernel)) ggX8_yields_X8_yieldOf
theorem dX8_yields_0 : decode cX8_yields 0 = .ok (.aload_n 0, 1) := by decide +kernel
theorem dX8_yields_1 : decode cX8_yields 1 = .ok (.iload_n 1, 1) := by decide +kernel
theorem dX8_yields_2 : decode cX8_yields 2 = .ok (.invokevirtual 156, 3) := by decide +kernel
theorem dX8_yields_5 : decode cX8_yields 5 = .ok (.ifCond .ne 5, 3) := by decide +kernel
theorem dX8_yields_8 : decode cX8_yields 8 = .ok (.iconst (-1), 1) := by decide +kernel
theorem dX8_yields_9 : decode cX8_yields 9 = .ok (.ireturn, 1) := by decide +kernel
theorem dX8_yields_10 : decode cX8_yields 10 = .ok (.aload_n 0, 1) := by decide +kernel
theorem dX8_yields_11 : decode cX8_yields 11 = .ok (.invokevirtual 206, 3) := by decide +kernel
theorem dX8_yields_14 : decode cX8_yields 14 = .ok (.aload_n 0, 1) := by decide +kernel
theorem dX8_yields_15 : decode cX8_yields 15 = .ok (.iload_n 1, 1) := by decide +kernel
theorem dX8_yields_16 : decode cX8_yields 16 = .ok (.invokevirtual 203, 3) := by decide +kernel
theorem dX8_yields_19 : decode cX8_yields 19 = .ok (.ireturn, 1) := by decide +kernel
set_option maxRecDepth 20000 in
theorem ggX8_isClub_X8_within : GoodIn wsX8_isClub wsX8_within := goodIn_r _ [4] (by decide +kernel) (by decide +kernel)
set_option maxRecDepth 20000 in
theorem gX8_isClub_X8_within : GoodIn wsX8_isClub (va_wsS RX8 106 yX8_within wsX8_within) := goodIn_app (goodIn_of _ (by decide +kernel)) ggX8_isClub_X8_within
theorem dX8_isClub_0 : decode cX8_isClub 0 = .ok (.iload_n 0, 1) := by decide +kernel
theorem dX8_isClub_1 : decode cX8_isClub 1 = .ok (.iconst 0, 1) := by decide +kernel
theorem dX8_isClub_2 : decode cX8_isClub 2 = .ok (.iconst 3, 1) := by decide +kernel
theorem dX8_isClub_3 : decode cX8_isClub 3 = .ok (.invokestatic 106, 3) := by decide +kernel
theorem dX8_isClub_6 : decode cX8_isClub 6 = .ok (.ireturn, 1) := by decide +kernel
set_option maxRecDepth 20000 in
theorem ggX8_harvest_X8_isClub : GoodIn wsX8_harvest wsX8_isClub := goodIn_r _ [4, 5, 6, 3, 7] (by decide +kernel) (by decide +kernel)
set_option maxRecDepth 20000 in
theorem gX8_harvest_X8_isClub : GoodIn wsX8_harvest (va_wsS RX8 209 yX8_isClub wsX8_isClub) := goodIn_app (goodIn_of _ (by decide +kernel)) ggX8_harvest_X8_isClub
set_option maxRecDepth 20000 in
theorem ggX8_harvest_X8_goNow : GoodIn wsX8_harvest wsX8_goNow := goodIn_r _ [11, 12, 13, 14, 15, 3, 16, 17, 18, 19, 20, 21, 22, 23, 24, 25, 26, 27, 28, 29, 30, 31, 32, 33, 34, 35, 36, 37, 38, 39, 40, 41, 42, 43, 44, 45, 46, 47, 48, 49, 50, 51, 52, 53, 54, 55, 56, 57, 58, 59, 60, 72, 73, 74, 75, 76, 77, 78, 79, 80, 81, 82, 83, 84, 85, 86, 87, 88, 89, 90, 91, 92, 93, 94, 95, 96, 97, 98, 99, 100, 101, 102, 103, 104, 105, 106, 107, 108, 109, 110, 111, 112, 113, 114, 115] (by decide +kernel) (by decide +kernel)
set_option maxRecDepth 20000 in
theorem gX8_harvest_X8_goNow : GoodIn wsX8_harvest (wsV RX8 206 RX8 yX8_goNow wsX8_goNow) := goodIn_app (goodIn_of _ (by decide +kernel)) ggX8_harvest_X8_goNow
set_option maxRecDepth 20000 in
theorem ggX8_harvest_X8_yieldTo : GoodIn wsX8_harvest wsX8_yieldTo := goodIn_r _ [64, 49, 65, 66, 67, 68, 3, 69, 26, 70, 71, 27, 72, 73, 74, 75, 76, 77, 78, 79, 80, 81, 82, 83, 84, 85, 86, 87, 88, 89, 90, 91, 92, 93, 94, 95, 96, 97, 98, 99, 100, 101, 102, 103, 104, 105, 106, 107, 108, 109, 110, 111, 112, 113, 114, 115] (by decide +kernel) (by decide +kernel)
set_option maxRecDepth 20000 in
theorem gX8_harvest_X8_yieldTo : GoodIn wsX8_harvest (wsV RX8 212 RX8 yX8_yieldTo wsX8_yieldTo) := goodIn_app (goodIn_of _ (by decide +kernel)) ggX8_harvest_X8_yieldTo
theorem dX8_harvest_0 : decode cX8_harvest 0 = .ok (.iload_n 1, 1) := by decide +kernel
theorem dX8_harvest_1 : decode cX8_harvest 1 = .ok (.iconst (-1), 1) := by decide +kernel
theorem dX8_harvest_2 : decode cX8_harvest 2 = .ok (.if_icmp .eq 12, 3) := by decide +kernel
theorem dX8_harvest_5 : decode cX8_harvest 5 = .ok (.iload_n 1, 1) := by decide +kernel
theorem dX8_harvest_6 : decode cX8_harvest 6 = .ok (.invokestatic 209, 3) := by decide +kernel
theorem dX8_harvest_9 : decode cX8_harvest 9 = .ok (.ifCond .ne 5, 3) := by decide +kernel
theorem dX8_harvest_12 : decode cX8_harvest 12 = .ok (.iconst (-1), 1) := by decide +kernel
theorem dX8_harvest_13 : decode cX8_harvest 13 = .ok (.ireturn, 1) := by decide +kernel
theorem dX8_harvest_14 : decode cX8_harvest 14 = .ok (.aload_n 0, 1) := by decide +kernel
theorem dX8_harvest_15 : decode cX8_harvest 15 = .ok (.invokevirtual 206, 3) := by decide +kernel
theorem dX8_harvest_18 : decode cX8_harvest 18 = .ok (.aload_n 0, 1) := by decide +kernel
theorem dX8_harvest_19 : decode cX8_harvest 19 = .ok (.iload_n 1, 1) := by decide +kernel
theorem dX8_harvest_20 : decode cX8_harvest 20 = .ok (.invokevirtual 212, 3) := by decide +kernel
theorem dX8_harvest_23 : decode cX8_harvest 23 = .ok (.ireturn, 1) := by decide +kernel
set_option maxRecDepth 20000 in
theorem ggX8_broughtBy_X8_goNow : GoodIn wsX8_broughtBy wsX8_goNow := goodIn_r _ [7, 1, 2, 8, 9, 6, 10, 11, 12, 13, 14, 15, 16, 17, 18, 19, 20, 21, 22, 23, 24, 25, 26, 27, 28, 29, 30, 31, 32, 33, 34, 35, 36, 37, 38, 39, 40, 41, 42, 43, 44, 45, 46, 47, 48, 49, 50, 51, 52, 53, 54, 66, 67, 68, 69, 70, 71, 72, 73, 74, 75, 76, 77, 78, 79, 80, 81, 82, 83, 84, 85, 86, 87, 88, 89, 90, 91, 92, 93, 94, 95, 96, 97, 98, 99, 100, 101, 102, 103, 104, 105, 106, 107, 108, 109] (by decide +kernel) (by decide +kernel)
set_option maxRecDepth 20000 in
theorem gX8_broughtBy_X8_goNow : GoodIn wsX8_broughtBy (wsV RX8 206 RX8 yX8_goNow wsX8_goNow) := goodIn_app (goodIn_of _ (by decide +kernel)) ggX8_broughtBy_X8_goNow
set_option maxRecDepth 20000 in
theorem ggX8_broughtBy_X8_yieldTo : GoodIn wsX8_broughtBy wsX8_yieldTo := goodIn_r _ [58, 43, 59, 60, 61, 62, 6, 63, 20, 64, 65, 21, 66, 67, 68, 69, 70, 71, 72, 73, 74, 75, 76, 77, 78, 79, 80, 81, 82, 83, 84, 85, 86, 87, 88, 89, 90, 91, 92, 93, 94, 95, 96, 97, 98, 99, 100, 101, 102, 103, 104, 105, 106, 107, 108, 109] (by decide +kernel) (by decide +kernel)
set_option maxRecDepth 20000 in
theorem gX8_broughtBy_X8_yieldTo : GoodIn wsX8_broughtBy (wsV RX8 212 RX8 yX8_yieldTo wsX8_yieldTo) := goodIn_app (goodIn_of _ (by decide +kernel)) ggX8_broughtBy_X8_yieldTo
set_option maxRecDepth 20000 in
theorem ggX8_broughtBy_X8_every : GoodIn wsX8_broughtBy wsX8_every := goodIn_r _ [10] (by decide +kernel) (by decide +kernel)
set_option maxRecDepth 20000 in
theorem gX8_broughtBy_X8_every : GoodIn wsX8_broughtBy (va_wsS RX8 197 yX8_every wsX8_every) := goodIn_app (goodIn_of _ (by decide +kernel)) ggX8_broughtBy_X8_every
set_option maxRecDepth 20000 in
theorem ggX8_broughtBy_X8_goDay : GoodIn wsX8_broughtBy wsX8_goDay := goodIn_r _ [14, 15, 16, 17, 18, 19, 20, 21, 22, 23, 24, 25, 26, 27, 28, 6, 29, 30, 31, 32, 33, 34, 35, 36, 37, 38, 39, 40, 41, 42, 43, 44, 45, 46, 47, 48, 49, 50, 51, 52, 53, 54, 66, 67, 68, 69, 70, 71, 72, 73, 74, 75, 76, 77, 78, 79, 80, 81, 82, 83, 84, 85, 86, 87, 88, 89, 90, 91, 92, 93, 94, 95, 96, 97, 98, 99, 100, 101, 102, 103, 104, 105, 106, 107, 108, 109] (by decide +kernel) (by decide +kernel)
