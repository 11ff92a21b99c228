theorem dL_cell_0 : decode cL_cell 0 = .ok (.iload_n 1, 1) := by decide +kernel
theorem dL_cell_1 : decode cL_cell 1 = .ok (.aload_n 0, 1) := by decide +kernel
theorem dL_cell_2 : decode cL_cell 2 = .ok (.arraylength, 1) := by decide +kernel
theorem dL_cell_3 : decode cL_cell 3 = .ok (.if_icmp .ge 9, 3) := by decide +kernel
theorem dL_cell_6 : decode cL_cell 6 = .ok (.aload_n 0, 1) := by decide +kernel
theorem dL_cell_7 : decode cL_cell 7 = .ok (.iload_n 1, 1) := by decide +kernel
theorem dL_cell_8 : decode cL_cell 8 = .ok (.iaload, 1) := by decide +kernel
theorem dL_cell_9 : decode cL_cell 9 = .ok (.goto 9, 3) := by decide +kernel
theorem dL_cell_12 : decode cL_cell 12 = .ok (.ldc 7, 2) := by decide +kernel
theorem dL_cell_14 : decode cL_cell 14 = .ok (.iload_n 1, 1) := by decide +kernel
theorem dL_cell_15 : decode cL_cell 15 = .ok (.iconst 1, 1) := by decide +kernel
theorem dL_cell_16 : decode cL_cell 16 = .ok (.iadd, 1) := by decide +kernel
theorem dL_cell_17 : decode cL_cell 17 = .ok (.imul, 1) := by decide +kernel
theorem dL_cell_18 : decode cL_cell 18 = .ok (.ireturn, 1) := by decide +kernel
theorem dL_some_0 : decode cL_some 0 = .ok (.iload_n 0, 1) := by decide +kernel
theorem dL_some_1 : decode cL_some 1 = .ok (.ldc 8, 2) := by decide +kernel
theorem dL_some_3 : decode cL_some 3 = .ok (.iand, 1) := by decide +kernel
theorem dL_some_4 : decode cL_some 4 = .ok (.iload_n 1, 1) := by decide +kernel
theorem dL_some_5 : decode cL_some 5 = .ok (.irem, 1) := by decide +kernel
theorem dL_some_6 : decode cL_some 6 = .ok (.ireturn, 1) := by decide +kernel
set_option maxRecDepth 20000 in
theorem ggL_put_L_cell : GoodIn wsL_put wsL_cell := goodIn_r _ [4, 5] (by decide +kernel) (by decide +kernel)
set_option maxRecDepth 20000 in
theorem gL_put_L_cell : GoodIn wsL_put (va_wsS RL 9 yL_cell wsL_cell) := goodIn_app (goodIn_of _ (by decide +kernel)) ggL_put_L_cell
set_option maxRecDepth 20000 in
theorem ggL_put_L_some : GoodIn wsL_put wsL_some := goodIn_r _ [8, 9] (by decide +kernel) (by decide +kernel)
set_option maxRecDepth 20000 in
theorem gL_put_L_some : GoodIn wsL_put (va_wsS RL 15 yL_some wsL_some) := goodIn_app (goodIn_of _ (by decide +kernel)) ggL_put_L_some
set_option maxRecDepth 20000 in
theorem ggL_put_X7_sheet : GoodIn wsL_put wsX7_sheet := goodIn_r _ [14, 15, 16, 17, 18, 13, 19, 20, 21, 22, 23, 24, 25, 26, 27, 28, 29, 30, 31, 32, 33, 34, 35, 36, 37, 54, 55, 56, 57, 58, 59, 60, 61, 62, 63, 64, 65] (by decide +kernel) (by decide +kernel)
set_option maxRecDepth 20000 in
theorem gL_put_X7_sheet : GoodIn wsL_put (wsV RL 19 RX7 yX7_sheet wsX7_sheet) := goodIn_app (goodIn_of _ (by decide +kernel)) ggL_put_X7_sheet
set_option maxRecDepth 20000 in
theorem ggL_put_X7_put : GoodIn wsL_put wsX7_put := goodIn_r _ [41, 15, 16, 17, 18, 13, 19, 20, 21, 22, 42, 43, 44, 33, 45, 36, 26, 27, 28, 29, 46, 47, 48, 49, 50, 51, 52, 53, 35, 37, 54, 55, 56, 57, 58, 59, 60, 61, 62, 63, 64, 65] (by decide +kernel) (by decide +kernel)
set_option maxRecDepth 20000 in
theorem gL_put_X7_put : GoodIn wsL_put (wsV RL 25 RX7 yX7_put wsX7_put) := goodIn_app (goodIn_of _ (by decide +kernel)) ggL_put_X7_put
theorem dL_put_0 : decode cL_put 0 = .ok (.aload_n 1, 1) := by decide +kernel
theorem dL_put_1 : decode cL_put 1 = .ok (.iload_n 2, 1) := by decide +kernel
theorem dL_put_2 : decode cL_put 2 = .ok (.invokestatic 9, 3) := by decide +kernel
theorem dL_put_5 : decode cL_put 5 = .ok (.istore 5, 2) := by decide +kernel
theorem dL_put_7 : decode cL_put 7 = .ok (.aload 4, 2) := by decide +kernel
theorem dL_put_9 : decode cL_put 9 = .ok (.iconst 0, 1) := by decide +kernel
theorem dL_put_10 : decode cL_put 10 = .ok (.iconst 2, 1) := by decide +kernel
theorem dL_put_11 : decode cL_put 11 = .ok (.iload 5, 2) := by decide +kernel
theorem dL_put_13 : decode cL_put 13 = .ok (.iload_n 3, 1) := by decide +kernel
theorem dL_put_14 : decode cL_put 14 = .ok (.iconst 1, 1) := by decide +kernel
theorem dL_put_15 : decode cL_put 15 = .ok (.isub, 1) := by decide +kernel
theorem dL_put_16 : decode cL_put 16 = .ok (.invokestatic 15, 3) := by decide +kernel
theorem dL_put_19 : decode cL_put 19 = .ok (.iadd, 1) := by decide +kernel
theorem dL_put_20 : decode cL_put 20 = .ok (.iastore, 1) := by decide +kernel
theorem dL_put_21 : decode cL_put 21 = .ok (.aload 4, 2) := by decide +kernel
theorem dL_put_23 : decode cL_put 23 = .ok (.bipush 25, 2) := by decide +kernel
theorem dL_put_25 : decode cL_put 25 = .ok (.iconst 0, 1) := by decide +kernel
theorem dL_put_26 : decode cL_put 26 = .ok (.iastore, 1) := by decide +kernel
theorem dL_put_27 : decode cL_put 27 = .ok (.aload 4, 2) := by decide +kernel
theorem dL_put_29 : decode cL_put 29 = .ok (.bipush 26, 2) := by decide +kernel
theorem dL_put_31 : decode cL_put 31 = .ok (.iconst 0, 1) := by decide +kernel
theorem dL_put_32 : decode cL_put 32 = .ok (.iastore, 1) := by decide +kernel
theorem dL_put_33 : decode cL_put 33 = .ok (.aload 4, 2) := by decide +kernel
theorem dL_put_35 : decode cL_put 35 = .ok (.bipush 27, 2) := by decide +kernel
theorem dL_put_37 : decode cL_put 37 = .ok (.iconst 0, 1) := by decide +kernel
theorem dL_put_38 : decode cL_put 38 = .ok (.iastore, 1) := by decide +kernel
theorem dL_put_39 : decode cL_put 39 = .ok (.aload 4, 2) := by decide +kernel
theorem dL_put_41 : decode cL_put 41 = .ok (.bipush 28, 2) := by decide +kernel
theorem dL_put_43 : decode cL_put 43 = .ok (.iconst 0, 1) := by decide +kernel
theorem dL_put_44 : decode cL_put 44 = .ok (.iastore, 1) := by decide +kernel
theorem dL_put_45 : decode cL_put 45 = .ok (.aload 4, 2) := by decide +kernel
theorem dL_put_47 : decode cL_put 47 = .ok (.bipush 47, 2) := by decide +kernel
theorem dL_put_49 : decode cL_put 49 = .ok (.iconst 0, 1) := by decide +kernel
theorem dL_put_50 : decode cL_put 50 = .ok (.iastore, 1) := by decide +kernel
theorem dL_put_51 : decode cL_put 51 = .ok (.aload_n 0, 1) := by decide +kernel
theorem dL_put_52 : decode cL_put 52 = .ok (.iconst 0, 1) := by decide +kernel
theorem dL_put_53 : decode cL_put 53 = .ok (.iconst 0, 1) := by decide +kernel
theorem dL_put_54 : decode cL_put 54 = .ok (.bipush 40, 2) := by decide +kernel
theorem dL_put_56 : decode cL_put 56 = .ok (.invokevirtual 19, 3) := by decide +kernel
theorem dL_put_59 : decode cL_put 59 = .ok (.iconst 1, 1) := by decide +kernel
theorem dL_put_60 : decode cL_put 60 = .ok (.if_icmp .eq 6, 3) := by decide +kernel
theorem dL_put_63 : decode cL_put 63 = .ok (.bipush (-99), 2) := by decide +kernel
theorem dL_put_65 : decode cL_put 65 = .ok (.ireturn, 1) := by decide +kernel
theorem dL_put_66 : decode cL_put 66 = .ok (.iconst 0, 1) := by decide +kernel
theorem dL_put_67 : decode cL_put 67 = .ok (.istore 6, 2) := by decide +kernel
theorem dL_put_69 : decode cL_put 69 = .ok (.iconst 0, 1) := by decide +kernel
theorem dL_put_70 : decode cL_put 70 = .ok (.istore 7, 2) := by decide +kernel
theorem dL_put_72 : decode cL_put 72 = .ok (.iload 7, 2) := by decide +kernel
theorem dL_put_74 : decode cL_put 74 = .ok (.aload 4, 2) := by decide +kernel
theorem dL_put_76 : decode cL_put 76 = .ok (.iconst 0, 1) := by decide +kernel
theorem dL_put_77 : decode cL_put 77 = .ok (.iaload, 1) := by decide +kernel
theorem dL_put_78 : decode cL_put 78 = .ok (.if_icmp .ge 159, 3) := by decide +kernel
theorem dL_put_81 : decode cL_put 81 = .ok (.aload_n 1, 1) := by decide +kernel
theorem dL_put_82 : decode cL_put 82 = .ok (.iload_n 2, 1) := by decide +kernel
theorem dL_put_83 : decode cL_put 83 = .ok (.iconst 1, 1) := by decide +kernel
theorem dL_put_84 : decode cL_put 84 = .ok (.iadd, 1) := by decide +kernel
theorem dL_put_85 : decode cL_put 85 = .ok (.iload 7, 2) := by decide +kernel
theorem dL_put_87 : decode cL_put 87 = .ok (.iconst 2, 1) := by decide +kernel
theorem dL_put_88 : decode cL_put 88 = .ok (.irem, 1) := by decide +kernel
theorem dL_put_89 : decode cL_put 89 = .ok (.iadd, 1) := by decide +kernel
theorem dL_put_90 : decode cL_put 90 = .ok (.invokestatic 9, 3) := by decide +kernel
theorem dL_put_93 : decode cL_put 93 = .ok (.iload 7, 2) := by decide +kernel
theorem dL_put_95 : decode cL_put 95 = .ok (.iconst 2, 1) := by decide +kernel
theorem dL_put_96 : decode cL_put 96 = .ok (.idiv, 1) := by decide +kernel
theorem dL_put_97 : decode cL_put 97 = .ok (.bipush 7, 2) := by decide +kernel
theorem dL_put_99 : decode cL_put 99 = .ok (.imul, 1) := by decide +kernel
theorem dL_put_100 : decode cL_put 100 = .ok (.ishr, 1) := by decide +kernel
theorem dL_put_101 : decode cL_put 101 = .ok (.istore 8, 2) := by decide +kernel
theorem dL_put_103 : decode cL_put 103 = .ok (.aload 4, 2) := by decide +kernel
theorem dL_put_105 : decode cL_put 105 = .ok (.iconst 1, 1) := by decide +kernel
theorem dL_put_106 : decode cL_put 106 = .ok (.iload 7, 2) := by decide +kernel
theorem dL_put_108 : decode cL_put 108 = .ok (.iadd, 1) := by decide +kernel
theorem dL_put_109 : decode cL_put 109 = .ok (.iload 8, 2) := by decide +kernel
theorem dL_put_111 : decode cL_put 111 = .ok (.iconst 5, 1) := by decide +kernel
theorem dL_put_112 : decode cL_put 112 = .ok (.invokestatic 15, 3) := by decide +kernel
theorem dL_put_115 : decode cL_put 115 = .ok (.ifCond .ne 7, 3) := by decide +kernel
theorem dL_put_118 : decode cL_put 118 = .ok (.iconst 3, 1) := by decide +kernel
theorem dL_put_119 : decode cL_put 119 = .ok (.goto 9, 3) := by decide +kernel
theorem dL_put_122 : decode cL_put 122 = .ok (.iload 8, 2) := by decide +kernel
theorem dL_put_124 : decode cL_put 124 = .ok (.iconst 2, 1) := by decide +kernel
theorem dL_put_125 : decode cL_put 125 = .ok (.invokestatic 15, 3) := by decide +kernel
theorem dL_put_128 : decode cL_put 128 = .ok (.iastore, 1) := by decide +kernel
theorem dL_put_129 : decode cL_put 129 = .ok (.aload 4, 2) := by decide +kernel
theorem dL_put_131 : decode cL_put 131 = .ok (.bipush 9, 2) := by decide +kernel
theorem dL_put_133 : decode cL_put 133 = .ok (.iload 7, 2) := by decide +kernel
theorem dL_put_135 : decode cL_put 135 = .ok (.iadd, 1) := by decide +kernel
theorem dL_put_136 : decode cL_put 136 = .ok (.iload 8, 2) := by decide +kernel
theorem dL_put_138 : decode cL_put 138 = .ok (.iconst 1, 1) := by decide +kernel
theorem dL_put_139 : decode cL_put 139 = .ok (.ishr, 1) := by decide +kernel
theorem dL_put_140 : decode cL_put 140 = .ok (.bipush 10, 2) := by decide +kernel
theorem dL_put_142 : decode cL_put 142 = .ok (.invokestatic 15, 3) := by decide +kernel
theorem dL_put_145 : decode cL_put 145 = .ok (.iastore, 1) := by decide +kernel
theorem dL_put_146 : decode cL_put 146 = .ok (.aload 4, 2) := by decide +kernel
theorem dL_put_148 : decode cL_put 148 = .ok (.bipush 17, 2) := by decide +kernel
theorem dL_put_150 : decode cL_put 150 = .ok (.iload 7, 2) := by decide +kernel
theorem dL_put_152 : decode cL_put 152 = .ok (.iadd, 1) := by decide +kernel
theorem dL_put_153 : decode cL_put 153 = .ok (.iload 8, 2) := by decide +kernel
theorem dL_put_155 : decode cL_put 155 = .ok (.iconst 4, 1) := by decide +kernel
theorem dL_put_156 : decode cL_put 156 = .ok (.ishr, 1) := by decide +kernel
theorem dL_put_157 : decode cL_put 157 = .ok (.bipush 10, 2) := by decide +kernel
theorem dL_put_159 : decode cL_put 159 = .ok (.invokestatic 15, 3) := by decide +kernel
theorem dL_put_162 : decode cL_put 162 = .ok (.iastore, 1) := by decide +kernel
theorem dL_put_163 : decode cL_put 163 = .ok (.iload 7, 2) := by decide +kernel
theorem dL_put_165 : decode cL_put 165 = .ok (.ifCond .le 22, 3) := by decide +kernel
theorem dL_put_168 : decode cL_put 168 = .ok (.aload_n 0, 1) := by decide +kernel
theorem dL_put_169 : decode cL_put 169 = .ok (.iconst 0, 1) := by decide +kernel
theorem dL_put_170 : decode cL_put 170 = .ok (.iload 6, 2) := by decide +kernel
theorem dL_put_172 : decode cL_put 172 = .ok (.iinc 6 1, 3) := by decide +kernel
theorem dL_put_175 : decode cL_put 175 = .ok (.bipush 59, 2) := by decide +kernel
theorem dL_put_177 : decode cL_put 177 = .ok (.invokevirtual 25, 3) := by decide +kernel
theorem dL_put_180 : decode cL_put 180 = .ok (.iconst 1, 1) := by decide +kernel
theorem dL_put_181 : decode cL_put 181 = .ok (.if_icmp .eq 6, 3) := by decide +kernel
theorem dL_put_184 : decode cL_put 184 = .ok (.bipush (-99), 2) := by decide +kernel
theorem dL_put_186 : decode cL_put 186 = .ok (.ireturn, 1) := by decide +kernel
theorem dL_put_187 : decode cL_put 187 = .ok (.iconst 1, 1) := by decide +kernel
theorem dL_put_188 : decode cL_put 188 = .ok (.istore 9, 2) := by decide +kernel
theorem dL_put_190 : decode cL_put 190 = .ok (.iload 9, 2) := by decide +kernel
theorem dL_put_192 : decode cL_put 192 = .ok (.bipush 25, 2) := by decide +kernel
theorem dL_put_194 : decode cL_put 194 = .ok (.if_icmp .ge 37, 3) := by decide +kernel
theorem dL_put_197 : decode cL_put 197 = .ok (.aload_n 0, 1) := by decide +kernel
theorem dL_put_198 : decode cL_put 198 = .ok (.iconst 0, 1) := by decide +kernel
theorem dL_put_199 : decode cL_put 199 = .ok (.iload 6, 2) := by decide +kernel
theorem dL_put_201 : decode cL_put 201 = .ok (.iinc 6 1, 3) := by decide +kernel
theorem dL_put_204 : decode cL_put 204 = .ok (.bipush 48, 2) := by decide +kernel
theorem dL_put_206 : decode cL_put 206 = .ok (.aload 4, 2) := by decide +kernel
theorem dL_put_208 : decode cL_put 208 = .ok (.iload 9, 2) := by decide +kernel
theorem dL_put_210 : decode cL_put 210 = .ok (.iload 7, 2) := by decide +kernel
theorem dL_put_212 : decode cL_put 212 = .ok (.iadd, 1) := by decide +kernel
theorem dL_put_213 : decode cL_put 213 = .ok (.iaload, 1) := by decide +kernel
theorem dL_put_214 : decode cL_put 214 = .ok (.iadd, 1) := by decide +kernel
theorem dL_put_215 : decode cL_put 215 = .ok (.invokevirtual 25, 3) := by decide +kernel
theorem dL_put_218 : decode cL_put 218 = .ok (.iconst 1, 1) := by decide +kernel
theorem dL_put_219 : decode cL_put 219 = .ok (.if_icmp .eq 6, 3) := by decide +kernel
theorem dL_put_222 : decode cL_put 222 = .ok (.bipush (-99), 2) := by decide +kernel
theorem dL_put_224 : decode cL_put 224 = .ok (.ireturn, 1) := by decide +kernel
theorem dL_put_225 : decode cL_put 225 = .ok (.iinc 9 8, 3) := by decide +kernel
theorem dL_put_228 : decode cL_put 228 = .ok (.goto (-38), 3) := by decide +kernel
theorem dL_put_231 : decode cL_put 231 = .ok (.iinc 7 1, 3) := by decide +kernel
theorem dL_put_234 : decode cL_put 234 = .ok (.goto (-162), 3) := by decide +kernel
theorem dL_put_237 : decode cL_put 237 = .ok (.iload 6, 2) := by decide +kernel
theorem dL_put_239 : decode cL_put 239 = .ok (.ireturn, 1) := by decide +kernel
set_option maxRecDepth 20000 in
theorem ggL_clouds_L_cell : GoodIn wsL_clouds wsL_cell := goodIn_r _ [4, 5] (by decide +kernel) (by decide +kernel)
set_option maxRecDepth 20000 in
theorem gL_clouds_L_cell : GoodIn wsL_clouds (va_wsS RL 9 yL_cell wsL_cell) := goodIn_app (goodIn_of _ (by decide +kernel)) ggL_clouds_L_cell
set_option maxRecDepth 20000 in
theorem ggL_clouds_L_some : GoodIn wsL_clouds wsL_some := goodIn_r _ [8, 9] (by decide +kernel) (by decide +kernel)
set_option maxRecDepth 20000 in
theorem gL_clouds_L_some : GoodIn wsL_clouds (va_wsS RL 15 yL_some wsL_some) := goodIn_app (goodIn_of _ (by decide +kernel)) ggL_clouds_L_some
set_option maxRecDepth 20000 in
theorem ggL_clouds_X7_cloud : GoodIn wsL_clouds wsX7_cloud := goodIn_r _ [14, 15, 16, 17, 18, 19, 20, 13, 21, 22, 23, 24, 25, 26, 27, 28, 29, 30, 31, 32, 33, 34, 35, 36, 37, 38, 39, 40, 41, 42, 43, 44, 45, 46, 47, 48, 49, 50] (by decide +kernel) (by decide +kernel)
set_option maxRecDepth 20000 in
theorem gL_clouds_X7_cloud : GoodIn wsL_clouds (wsV RL 28 RX7 yX7_cloud wsX7_cloud) := goodIn_app (goodIn_of _ (by decide +kernel)) ggL_clouds_X7_cloud
theorem dL_clouds_0 : decode cL_clouds 0 = .ok (.iconst 1, 1) := by decide +kernel
theorem dL_clouds_1 : decode cL_clouds 1 = .ok (.aload_n 1, 1) := by decide +kernel
theorem dL_clouds_2 : decode cL_clouds 2 = .ok (.iload_n 2, 1) := by decide +kernel
theorem dL_clouds_3 : decode cL_clouds 3 = .ok (.invokestatic 9, 3) := by decide +kernel
theorem dL_clouds_6 : decode cL_clouds 6 = .ok (.bipush 6, 2) := by decide +kernel
theorem dL_clouds_8 : decode cL_clouds 8 = .ok (.invokestatic 15, 3) := by decide +kernel
theorem dL_clouds_11 : decode cL_clouds 11 = .ok (.iadd, 1) := by decide +kernel
theorem dL_clouds_12 : decode cL_clouds 12 = .ok (.istore 4, 2) := by decide +kernel
theorem dL_clouds_14 : decode cL_clouds 14 = .ok (.iconst 0, 1) := by decide +kernel
theorem dL_clouds_15 : decode cL_clouds 15 = .ok (.istore 5, 2) := by decide +kernel
theorem dL_clouds_17 : decode cL_clouds 17 = .ok (.iload 5, 2) := by decide +kernel
theorem dL_clouds_19 : decode cL_clouds 19 = .ok (.iload 4, 2) := by decide +kernel
theorem dL_clouds_21 : decode cL_clouds 21 = .ok (.if_icmp .ge 175, 3) := by decide +kernel
theorem dL_clouds_24 : decode cL_clouds 24 = .ok (.aload_n 1, 1) := by decide +kernel
theorem dL_clouds_25 : decode cL_clouds 25 = .ok (.iload_n 2, 1) := by decide +kernel
theorem dL_clouds_26 : decode cL_clouds 26 = .ok (.iconst 1, 1) := by decide +kernel
theorem dL_clouds_27 : decode cL_clouds 27 = .ok (.iadd, 1) := by decide +kernel
theorem dL_clouds_28 : decode cL_clouds 28 = .ok (.iload 5, 2) := by decide +kernel
theorem dL_clouds_30 : decode cL_clouds 30 = .ok (.iconst 3, 1) := by decide +kernel
theorem dL_clouds_31 : decode cL_clouds 31 = .ok (.irem, 1) := by decide +kernel
theorem dL_clouds_32 : decode cL_clouds 32 = .ok (.iadd, 1) := by decide +kernel
theorem dL_clouds_33 : decode cL_clouds 33 = .ok (.invokestatic 9, 3) := by decide +kernel
theorem dL_clouds_36 : decode cL_clouds 36 = .ok (.iload 5, 2) := by decide +kernel
theorem dL_clouds_38 : decode cL_clouds 38 = .ok (.iconst 3, 1) := by decide +kernel
theorem dL_clouds_39 : decode cL_clouds 39 = .ok (.idiv, 1) := by decide +kernel
theorem dL_clouds_40 : decode cL_clouds 40 = .ok (.bipush 14, 2) := by decide +kernel
theorem dL_clouds_42 : decode cL_clouds 42 = .ok (.imul, 1) := by decide +kernel
theorem dL_clouds_43 : decode cL_clouds 43 = .ok (.ishr, 1) := by decide +kernel
theorem dL_clouds_44 : decode cL_clouds 44 = .ok (.istore 6, 2) := by decide +kernel
theorem dL_clouds_46 : decode cL_clouds 46 = .ok (.aload_n 3, 1) := by decide +kernel
theorem dL_clouds_47 : decode cL_clouds 47 = .ok (.bipush 29, 2) := by decide +kernel
theorem dL_clouds_49 : decode cL_clouds 49 = .ok (.iload 5, 2) := by decide +kernel
theorem dL_clouds_51 : decode cL_clouds 51 = .ok (.iadd, 1) := by decide +kernel
theorem dL_clouds_52 : decode cL_clouds 52 = .ok (.iload 6, 2) := by decide +kernel
theorem dL_clouds_54 : decode cL_clouds 54 = .ok (.iload 6, 2) := by decide +kernel
theorem dL_clouds_56 : decode cL_clouds 56 = .ok (.bipush 12, 2) := by decide +kernel
theorem dL_clouds_58 : decode cL_clouds 58 = .ok (.ishr, 1) := by decide +kernel
theorem dL_clouds_59 : decode cL_clouds 59 = .ok (.iconst 2, 1) := by decide +kernel
theorem dL_clouds_60 : decode cL_clouds 60 = .ok (.invokestatic 15, 3) := by decide +kernel
theorem dL_clouds_63 : decode cL_clouds 63 = .ok (.ifCond .ne 8, 3) := by decide +kernel
theorem dL_clouds_66 : decode cL_clouds 66 = .ok (.bipush 41, 2) := by decide +kernel
theorem dL_clouds_68 : decode cL_clouds 68 = .ok (.goto 5, 3) := by decide +kernel
theorem dL_clouds_71 : decode cL_clouds 71 = .ok (.bipush 8, 2) := by decide +kernel
theorem dL_clouds_73 : decode cL_clouds 73 = .ok (.invokestatic 15, 3) := by decide +kernel
theorem dL_clouds_76 : decode cL_clouds 76 = .ok (.iload 6, 2) := by decide +kernel
theorem dL_clouds_78 : decode cL_clouds 78 = .ok (.bipush 12, 2) := by decide +kernel
theorem dL_clouds_80 : decode cL_clouds 80 = .ok (.ishr, 1) := by decide +kernel
theorem dL_clouds_81 : decode cL_clouds 81 = .ok (.iconst 2, 1) := by decide +kernel
theorem dL_clouds_82 : decode cL_clouds 82 = .ok (.invokestatic 15, 3) := by decide +kernel
theorem dL_clouds_85 : decode cL_clouds 85 = .ok (.ifCond .ne 8, 3) := by decide +kernel
theorem dL_clouds_88 : decode cL_clouds 88 = .ok (.bipush 20, 2) := by decide +kernel
theorem dL_clouds_90 : decode cL_clouds 90 = .ok (.goto 4, 3) := by decide +kernel
theorem dL_clouds_93 : decode cL_clouds 93 = .ok (.iconst 2, 1) := by decide +kernel
theorem dL_clouds_94 : decode cL_clouds 94 = .ok (.isub, 1) := by decide +kernel
theorem dL_clouds_95 : decode cL_clouds 95 = .ok (.iastore, 1) := by decide +kernel
theorem dL_clouds_96 : decode cL_clouds 96 = .ok (.aload_n 3, 1) := by decide +kernel
theorem dL_clouds_97 : decode cL_clouds 97 = .ok (.bipush 35, 2) := by decide +kernel
theorem dL_clouds_99 : decode cL_clouds 99 = .ok (.iload 5, 2) := by decide +kernel
theorem dL_clouds_101 : decode cL_clouds 101 = .ok (.iadd, 1) := by decide +kernel
theorem dL_clouds_102 : decode cL_clouds 102 = .ok (.iconst 1, 1) := by decide +kernel
theorem dL_clouds_103 : decode cL_clouds 103 = .ok (.iload 6, 2) := by decide +kernel
theorem dL_clouds_105 : decode cL_clouds 105 = .ok (.iconst 5, 1) := by decide +kernel
theorem dL_clouds_106 : decode cL_clouds 106 = .ok (.ishr, 1) := by decide +kernel
theorem dL_clouds_107 : decode cL_clouds 107 = .ok (.iload 6, 2) := by decide +kernel
theorem dL_clouds_109 : decode cL_clouds 109 = .ok (.bipush 13, 2) := by decide +kernel
theorem dL_clouds_111 : decode cL_clouds 111 = .ok (.ishr, 1) := by decide +kernel
theorem dL_clouds_112 : decode cL_clouds 112 = .ok (.iconst 2, 1) := by decide +kernel
theorem dL_clouds_113 : decode cL_clouds 113 = .ok (.invokestatic 15, 3) := by decide +kernel
theorem dL_clouds_116 : decode cL_clouds 116 = .ok (.ifCond .ne 8, 3) := by decide +kernel
theorem dL_clouds_119 : decode cL_clouds 119 = .ok (.bipush 30, 2) := by decide +kernel
theorem dL_clouds_121 : decode cL_clouds 121 = .ok (.goto 5, 3) := by decide +kernel
theorem dL_clouds_124 : decode cL_clouds 124 = .ok (.bipush 6, 2) := by decide +kernel
theorem dL_clouds_126 : decode cL_clouds 126 = .ok (.invokestatic 15, 3) := by decide +kernel
theorem dL_clouds_129 : decode cL_clouds 129 = .ok (.iadd, 1) := by decide +kernel
theorem dL_clouds_130 : decode cL_clouds 130 = .ok (.iastore, 1) := by decide +kernel
theorem dL_clouds_131 : decode cL_clouds 131 = .ok (.aload_n 3, 1) := by decide +kernel
theorem dL_clouds_132 : decode cL_clouds 132 = .ok (.bipush 41, 2) := by decide +kernel
theorem dL_clouds_134 : decode cL_clouds 134 = .ok (.iload 5, 2) := by decide +kernel
theorem dL_clouds_136 : decode cL_clouds 136 = .ok (.iadd, 1) := by decide +kernel
theorem dL_clouds_137 : decode cL_clouds 137 = .ok (.iconst 1, 1) := by decide +kernel
theorem dL_clouds_138 : decode cL_clouds 138 = .ok (.iload 6, 2) := by decide +kernel
theorem dL_clouds_140 : decode cL_clouds 140 = .ok (.bipush 9, 2) := by decide +kernel
theorem dL_clouds_142 : decode cL_clouds 142 = .ok (.ishr, 1) := by decide +kernel
theorem dL_clouds_143 : decode cL_clouds 143 = .ok (.bipush 9, 2) := by decide +kernel
theorem dL_clouds_145 : decode cL_clouds 145 = .ok (.invokestatic 15, 3) := by decide +kernel
theorem dL_clouds_148 : decode cL_clouds 148 = .ok (.iadd, 1) := by decide +kernel
theorem dL_clouds_149 : decode cL_clouds 149 = .ok (.iastore, 1) := by decide +kernel
theorem dL_clouds_150 : decode cL_clouds 150 = .ok (.aload_n 0, 1) := by decide +kernel
theorem dL_clouds_151 : decode cL_clouds 151 = .ok (.aload_n 3, 1) := by decide +kernel
theorem dL_clouds_152 : decode cL_clouds 152 = .ok (.bipush 29, 2) := by decide +kernel
theorem dL_clouds_154 : decode cL_clouds 154 = .ok (.iload 5, 2) := by decide +kernel
theorem dL_clouds_156 : decode cL_clouds 156 = .ok (.iadd, 1) := by decide +kernel
theorem dL_clouds_157 : decode cL_clouds 157 = .ok (.iaload, 1) := by decide +kernel
theorem dL_clouds_158 : decode cL_clouds 158 = .ok (.aload_n 3, 1) := by decide +kernel
theorem dL_clouds_159 : decode cL_clouds 159 = .ok (.bipush 35, 2) := by decide +kernel
theorem dL_clouds_161 : decode cL_clouds 161 = .ok (.iload 5, 2) := by decide +kernel
theorem dL_clouds_163 : decode cL_clouds 163 = .ok (.iadd, 1) := by decide +kernel
theorem dL_clouds_164 : decode cL_clouds 164 = .ok (.iaload, 1) := by decide +kernel
theorem dL_clouds_165 : decode cL_clouds 165 = .ok (.aload_n 3, 1) := by decide +kernel
theorem dL_clouds_166 : decode cL_clouds 166 = .ok (.bipush 41, 2) := by decide +kernel
theorem dL_clouds_168 : decode cL_clouds 168 = .ok (.iload 5, 2) := by decide +kernel
theorem dL_clouds_170 : decode cL_clouds 170 = .ok (.iadd, 1) := by decide +kernel
theorem dL_clouds_171 : decode cL_clouds 171 = .ok (.iaload, 1) := by decide +kernel
theorem dL_clouds_172 : decode cL_clouds 172 = .ok (.invokevirtual 28, 3) := by decide +kernel
theorem dL_clouds_175 : decode cL_clouds 175 = .ok (.iload 5, 2) := by decide +kernel
theorem dL_clouds_177 : decode cL_clouds 177 = .ok (.if_icmp .eq 5, 3) := by decide +kernel
theorem dL_clouds_180 : decode cL_clouds 180 = .ok (.iconst 0, 1) := by decide +kernel
theorem dL_clouds_181 : decode cL_clouds 181 = .ok (.ireturn, 1) := by decide +kernel
theorem dL_clouds_182 : decode cL_clouds 182 = .ok (.aload_n 3, 1) := by decide +kernel
theorem dL_clouds_183 : decode cL_clouds 183 = .ok (.bipush 28, 2) := by decide +kernel
theorem dL_clouds_185 : decode cL_clouds 185 = .ok (.dup2, 1) := by decide +kernel
theorem dL_clouds_186 : decode cL_clouds 186 = .ok (.iaload, 1) := by decide +kernel
theorem dL_clouds_187 : decode cL_clouds 187 = .ok (.iconst 1, 1) := by decide +kernel
theorem dL_clouds_188 : decode cL_clouds 188 = .ok (.iadd, 1) := by decide +kernel
theorem dL_clouds_189 : decode cL_clouds 189 = .ok (.iastore, 1) := by decide +kernel
theorem dL_clouds_190 : decode cL_clouds 190 = .ok (.iinc 5 1, 3) := by decide +kernel
theorem dL_clouds_193 : decode cL_clouds 193 = .ok (.goto (-176), 3) := by decide +kernel
theorem dL_clouds_196 : decode cL_clouds 196 = .ok (.iconst 1, 1) := by decide +kernel
theorem dL_clouds_197 : decode cL_clouds 197 = .ok (.ireturn, 1) := by decide +kernel
set_option maxRecDepth 20000 in
theorem ggL_change_L_some : GoodIn wsL_change wsL_some := goodIn_r _ [4, 5] (by decide +kernel) (by decide +kernel)
set_option maxRecDepth 20000 in
theorem gL_change_L_some : GoodIn wsL_change (va_wsS RL 15 yL_some wsL_some) := goodIn_app (goodIn_of _ (by decide +kernel)) ggL_change_L_some
set_option maxRecDepth 20000 in
theorem ggL_change_X7_set : GoodIn wsL_change wsX7_set := goodIn_r _ [10, 11, 12, 13, 14, 15, 16, 17, 9, 18, 19, 20, 21, 22, 23, 24, 25, 26, 27, 28, 29, 30, 31, 32, 33, 34, 35, 36, 37] (by decide +kernel) (by decide +kernel)
set_option maxRecDepth 20000 in
theorem gL_change_X7_set : GoodIn wsL_change (wsV RL 31 RX7 yX7_set wsX7_set) := goodIn_app (goodIn_of _ (by decide +kernel)) ggL_change_X7_set
theorem dL_change_0 : decode cL_change 0 = .ok (.iload_n 1, 1) := by decide +kernel
theorem dL_change_1 : decode cL_change 1 = .ok (.bipush 7, 2) := by decide +kernel
theorem dL_change_3 : decode cL_change 3 = .ok (.invokestatic 15, 3) := by decide +kernel
theorem dL_change_6 : decode cL_change 6 = .ok (.iconst 3, 1) := by decide +kernel
theorem dL_change_7 : decode cL_change 7 = .ok (.isub, 1) := by decide +kernel
theorem dL_change_8 : decode cL_change 8 = .ok (.istore_n 3, 1) := by decide +kernel
theorem dL_change_9 : decode cL_change 9 = .ok (.iload_n 1, 1) := by decide +kernel
theorem dL_change_10 : decode cL_change 10 = .ok (.iconst 3, 1) := by decide +kernel
theorem dL_change_11 : decode cL_change 11 = .ok (.ishr, 1) := by decide +kernel
theorem dL_change_12 : decode cL_change 12 = .ok (.bipush 10, 2) := by decide +kernel
theorem dL_change_14 : decode cL_change 14 = .ok (.invokestatic 15, 3) := by decide +kernel
theorem dL_change_17 : decode cL_change 17 = .ok (.istore 4, 2) := by decide +kernel
theorem dL_change_19 : decode cL_change 19 = .ok (.iload_n 1, 1) := by decide +kernel
theorem dL_change_20 : decode cL_change 20 = .ok (.bipush 7, 2) := by decide +kernel
theorem dL_change_22 : decode cL_change 22 = .ok (.ishr, 1) := by decide +kernel
theorem dL_change_23 : decode cL_change 23 = .ok (.iconst 2, 1) := by decide +kernel
theorem dL_change_24 : decode cL_change 24 = .ok (.invokestatic 15, 3) := by decide +kernel
theorem dL_change_27 : decode cL_change 27 = .ok (.ifCond .ne 16, 3) := by decide +kernel
theorem dL_change_30 : decode cL_change 30 = .ok (.iload_n 1, 1) := by decide +kernel
theorem dL_change_31 : decode cL_change 31 = .ok (.bipush 8, 2) := by decide +kernel
theorem dL_change_33 : decode cL_change 33 = .ok (.ishr, 1) := by decide +kernel
theorem dL_change_34 : decode cL_change 34 = .ok (.sipush 4096, 3) := by decide +kernel
theorem dL_change_37 : decode cL_change 37 = .ok (.invokestatic 15, 3) := by decide +kernel
theorem dL_change_40 : decode cL_change 40 = .ok (.goto 4, 3) := by decide +kernel
theorem dL_change_43 : decode cL_change 43 = .ok (.iconst 0, 1) := by decide +kernel
theorem dL_change_44 : decode cL_change 44 = .ok (.istore 5, 2) := by decide +kernel
theorem dL_change_46 : decode cL_change 46 = .ok (.aload_n 0, 1) := by decide +kernel
theorem dL_change_47 : decode cL_change 47 = .ok (.iconst 0, 1) := by decide +kernel
theorem dL_change_48 : decode cL_change 48 = .ok (.iload_n 3, 1) := by decide +kernel
theorem dL_change_49 : decode cL_change 49 = .ok (.invokevirtual 31, 3) := by decide +kernel
theorem dL_change_52 : decode cL_change 52 = .ok (.aload_n 2, 1) := by decide +kernel
theorem dL_change_53 : decode cL_change 53 = .ok (.bipush 25, 2) := by decide +kernel
theorem dL_change_55 : decode cL_change 55 = .ok (.iaload, 1) := by decide +kernel
theorem dL_change_56 : decode cL_change 56 = .ok (.bipush 10, 2) := by decide +kernel
theorem dL_change_58 : decode cL_change 58 = .ok (.iadd, 1) := by decide +kernel
theorem dL_change_59 : decode cL_change 59 = .ok (.if_icmp .ne 31, 3) := by decide +kernel
theorem dL_change_62 : decode cL_change 62 = .ok (.aload_n 0, 1) := by decide +kernel
theorem dL_change_63 : decode cL_change 63 = .ok (.iconst 1, 1) := by decide +kernel
theorem dL_change_64 : decode cL_change 64 = .ok (.iload 4, 2) := by decide +kernel
theorem dL_change_66 : decode cL_change 66 = .ok (.invokevirtual 31, 3) := by decide +kernel
theorem dL_change_69 : decode cL_change 69 = .ok (.aload_n 2, 1) := by decide +kernel
theorem dL_change_70 : decode cL_change 70 = .ok (.bipush 26, 2) := by decide +kernel
theorem dL_change_72 : decode cL_change 72 = .ok (.iaload, 1) := by decide +kernel
theorem dL_change_73 : decode cL_change 73 = .ok (.if_icmp .ne 17, 3) := by decide +kernel
theorem dL_change_76 : decode cL_change 76 = .ok (.aload_n 0, 1) := by decide +kernel
theorem dL_change_77 : decode cL_change 77 = .ok (.iconst 2, 1) := by decide +kernel
theorem dL_change_78 : decode cL_change 78 = .ok (.iload 5, 2) := by decide +kernel
theorem dL_change_80 : decode cL_change 80 = .ok (.invokevirtual 31, 3) := by decide +kernel
theorem dL_change_83 : decode cL_change 83 = .ok (.aload_n 2, 1) := by decide +kernel
theorem dL_change_84 : decode cL_change 84 = .ok (.bipush 27, 2) := by decide +kernel
theorem dL_change_86 : decode cL_change 86 = .ok (.iaload, 1) := by decide +kernel
theorem dL_change_87 : decode cL_change 87 = .ok (.if_icmp .eq 5, 3) := by decide +kernel
theorem dL_change_90 : decode cL_change 90 = .ok (.iconst 0, 1) := by decide +kernel
theorem dL_change_91 : decode cL_change 91 = .ok (.ireturn, 1) := by decide +kernel
theorem dL_change_92 : decode cL_change 92 = .ok (.aload_n 2, 1) := by decide +kernel
theorem dL_change_93 : decode cL_change 93 = .ok (.bipush 25, 2) := by decide +kernel
theorem dL_change_95 : decode cL_change 95 = .ok (.iload_n 3, 1) := by decide +kernel
theorem dL_change_96 : decode cL_change 96 = .ok (.iastore, 1) := by decide +kernel
theorem dL_change_97 : decode cL_change 97 = .ok (.aload_n 2, 1) := by decide +kernel
theorem dL_change_98 : decode cL_change 98 = .ok (.bipush 26, 2) := by decide +kernel
theorem dL_change_100 : decode cL_change 100 = .ok (.iload 4, 2) := by decide +kernel
theorem dL_change_102 : decode cL_change 102 = .ok (.iastore, 1) := by decide +kernel
theorem dL_change_103 : decode cL_change 103 = .ok (.aload_n 2, 1) := by decide +kernel
theorem dL_change_104 : decode cL_change 104 = .ok (.bipush 27, 2) := by decide +kernel
theorem dL_change_106 : decode cL_change 106 = .ok (.iload 5, 2) := by decide +kernel
theorem dL_change_108 : decode cL_change 108 = .ok (.iastore, 1) := by decide +kernel
theorem dL_change_109 : decode cL_change 109 = .ok (.iconst 1, 1) := by decide +kernel
theorem dL_change_110 : decode cL_change 110 = .ok (.ireturn, 1) := by decide +kernel
set_option maxRecDepth 20000 in
theorem ggL_shoot_L_some : GoodIn wsL_shoot wsL_some := goodIn_r _ [4, 5] (by decide +kernel) (by decide +kernel)
set_option maxRecDepth 20000 in
theorem gL_shoot_L_some : GoodIn wsL_shoot (va_wsS RL 15 yL_some wsL_some) := goodIn_app (goodIn_of _ (by decide +kernel)) ggL_shoot_L_some
set_option maxRecDepth 20000 in
theorem ggL_shoot_X7_shot : GoodIn wsL_shoot wsX7_shot := goodIn_r _ [10, 11, 12, 13, 14, 15, 16, 17, 18, 19, 20, 21, 9, 22, 23, 24, 25, 26, 27, 28, 29, 30, 31, 32, 33, 34, 35, 36, 37, 38, 39, 40, 41, 42, 43, 44, 45, 46, 47, 48, 49, 50, 51, 52, 53, 54, 55, 56, 57, 58, 59, 60, 61] (by decide +kernel) (by decide +kernel)
set_option maxRecDepth 20000 in
theorem gL_shoot_X7_shot : GoodIn wsL_shoot (wsV RL 34 RX7 yX7_shot wsX7_shot) := goodIn_app (goodIn_of _ (by decide +kernel)) ggL_shoot_X7_shot
theorem dL_shoot_0 : decode cL_shoot 0 = .ok (.aload_n 2, 1) := by decide +kernel
theorem dL_shoot_1 : decode cL_shoot 1 = .ok (.bipush 47, 2) := by decide +kernel
theorem dL_shoot_3 : decode cL_shoot 3 = .ok (.iaload, 1) := by decide +kernel
theorem dL_shoot_4 : decode cL_shoot 4 = .ok (.istore 4, 2) := by decide +kernel
theorem dL_shoot_6 : decode cL_shoot 6 = .ok (.aload_n 3, 1) := by decide +kernel
theorem dL_shoot_7 : decode cL_shoot 7 = .ok (.iload 4, 2) := by decide +kernel
theorem dL_shoot_9 : decode cL_shoot 9 = .ok (.iload_n 1, 1) := by decide +kernel
theorem dL_shoot_10 : decode cL_shoot 10 = .ok (.iconst 3, 1) := by decide +kernel
theorem dL_shoot_11 : decode cL_shoot 11 = .ok (.invokestatic 15, 3) := by decide +kernel
theorem dL_shoot_14 : decode cL_shoot 14 = .ok (.iastore, 1) := by decide +kernel
theorem dL_shoot_15 : decode cL_shoot 15 = .ok (.aload_n 3, 1) := by decide +kernel
theorem dL_shoot_16 : decode cL_shoot 16 = .ok (.bipush 20, 2) := by decide +kernel
theorem dL_shoot_18 : decode cL_shoot 18 = .ok (.iload 4, 2) := by decide +kernel
theorem dL_shoot_20 : decode cL_shoot 20 = .ok (.iadd, 1) := by decide +kernel
theorem dL_shoot_21 : decode cL_shoot 21 = .ok (.iload_n 1, 1) := by decide +kernel
theorem dL_shoot_22 : decode cL_shoot 22 = .ok (.iconst 2, 1) := by decide +kernel
theorem dL_shoot_23 : decode cL_shoot 23 = .ok (.ishr, 1) := by decide +kernel
theorem dL_shoot_24 : decode cL_shoot 24 = .ok (.iload_n 1, 1) := by decide +kernel
theorem dL_shoot_25 : decode cL_shoot 25 = .ok (.bipush 14, 2) := by decide +kernel
theorem dL_shoot_27 : decode cL_shoot 27 = .ok (.ishr, 1) := by decide +kernel
theorem dL_shoot_28 : decode cL_shoot 28 = .ok (.iconst 2, 1) := by decide +kernel
theorem dL_shoot_29 : decode cL_shoot 29 = .ok (.invokestatic 15, 3) := by decide +kernel
theorem dL_shoot_32 : decode cL_shoot 32 = .ok (.ifCond .ne 8, 3) := by decide +kernel
theorem dL_shoot_35 : decode cL_shoot 35 = .ok (.bipush 12, 2) := by decide +kernel
theorem dL_shoot_37 : decode cL_shoot 37 = .ok (.goto 4, 3) := by decide +kernel
theorem dL_shoot_40 : decode cL_shoot 40 = .ok (.iconst 3, 1) := by decide +kernel
theorem dL_shoot_41 : decode cL_shoot 41 = .ok (.invokestatic 15, 3) := by decide +kernel
theorem dL_shoot_44 : decode cL_shoot 44 = .ok (.iastore, 1) := by decide +kernel
theorem dL_shoot_45 : decode cL_shoot 45 = .ok (.aload_n 3, 1) := by decide +kernel
theorem dL_shoot_46 : decode cL_shoot 46 = .ok (.bipush 30, 2) := by decide +kernel
theorem dL_shoot_48 : decode cL_shoot 48 = .ok (.iload 4, 2) := by decide +kernel
theorem dL_shoot_50 : decode cL_shoot 50 = .ok (.iadd, 1) := by decide +kernel
theorem dL_shoot_51 : decode cL_shoot 51 = .ok (.iconst 1, 1) := by decide +kernel
theorem dL_shoot_52 : decode cL_shoot 52 = .ok (.iload_n 1, 1) := by decide +kernel
theorem dL_shoot_53 : decode cL_shoot 53 = .ok (.bipush 6, 2) := by decide +kernel
theorem dL_shoot_55 : decode cL_shoot 55 = .ok (.ishr, 1) := by decide +kernel
theorem dL_shoot_56 : decode cL_shoot 56 = .ok (.bipush 9, 2) := by decide +kernel
theorem dL_shoot_58 : decode cL_shoot 58 = .ok (.invokestatic 15, 3) := by decide +kernel
theorem dL_shoot_61 : decode cL_shoot 61 = .ok (.iadd, 1) := by decide +kernel
theorem dL_shoot_62 : decode cL_shoot 62 = .ok (.iastore, 1) := by decide +kernel
theorem dL_shoot_63 : decode cL_shoot 63 = .ok (.aload_n 3, 1) := by decide +kernel
theorem dL_shoot_64 : decode cL_shoot 64 = .ok (.bipush 10, 2) := by decide +kernel
theorem dL_shoot_66 : decode cL_shoot 66 = .ok (.iload 4, 2) := by decide +kernel
theorem dL_shoot_68 : decode cL_shoot 68 = .ok (.iadd, 1) := by decide +kernel
theorem dL_shoot_69 : decode cL_shoot 69 = .ok (.iload_n 1, 1) := by decide +kernel
theorem dL_shoot_70 : decode cL_shoot 70 = .ok (.bipush 10, 2) := by decide +kernel
theorem dL_shoot_72 : decode cL_shoot 72 = .ok (.ishr, 1) := by decide +kernel
theorem dL_shoot_73 : decode cL_shoot 73 = .ok (.aload_n 2, 1) := by decide +kernel
theorem dL_shoot_74 : decode cL_shoot 74 = .ok (.iconst 0, 1) := by decide +kernel
theorem dL_shoot_75 : decode cL_shoot 75 = .ok (.iaload, 1) := by decide +kernel
theorem dL_shoot_76 : decode cL_shoot 76 = .ok (.invokestatic 15, 3) := by decide +kernel
theorem dL_shoot_79 : decode cL_shoot 79 = .ok (.iastore, 1) := by decide +kernel
theorem dL_shoot_80 : decode cL_shoot 80 = .ok (.aload_n 2, 1) := by decide +kernel
theorem dL_shoot_81 : decode cL_shoot 81 = .ok (.bipush 29, 2) := by decide +kernel
theorem dL_shoot_83 : decode cL_shoot 83 = .ok (.iload_n 1, 1) := by decide +kernel
theorem dL_shoot_84 : decode cL_shoot 84 = .ok (.bipush 15, 2) := by decide +kernel
theorem dL_shoot_86 : decode cL_shoot 86 = .ok (.ishr, 1) := by decide +kernel
theorem dL_shoot_87 : decode cL_shoot 87 = .ok (.aload_n 2, 1) := by decide +kernel
theorem dL_shoot_88 : decode cL_shoot 88 = .ok (.bipush 28, 2) := by decide +kernel
theorem dL_shoot_90 : decode cL_shoot 90 = .ok (.iaload, 1) := by decide +kernel
theorem dL_shoot_91 : decode cL_shoot 91 = .ok (.invokestatic 15, 3) := by decide +kernel
theorem dL_shoot_94 : decode cL_shoot 94 = .ok (.iadd, 1) := by decide +kernel
theorem dL_shoot_95 : decode cL_shoot 95 = .ok (.iaload, 1) := by decide +kernel
theorem dL_shoot_96 : decode cL_shoot 96 = .ok (.aload_n 2, 1) := by decide +kernel
theorem dL_shoot_97 : decode cL_shoot 97 = .ok (.bipush 25, 2) := by decide +kernel
theorem dL_shoot_99 : decode cL_shoot 99 = .ok (.iaload, 1) := by decide +kernel
theorem dL_shoot_100 : decode cL_shoot 100 = .ok (.aload_n 3, 1) := by decide +kernel
theorem dL_shoot_101 : decode cL_shoot 101 = .ok (.bipush 20, 2) := by decide +kernel
theorem dL_shoot_103 : decode cL_shoot 103 = .ok (.iload 4, 2) := by decide +kernel
theorem dL_shoot_105 : decode cL_shoot 105 = .ok (.iadd, 1) := by decide +kernel
theorem dL_shoot_106 : decode cL_shoot 106 = .ok (.iaload, 1) := by decide +kernel
theorem dL_shoot_107 : decode cL_shoot 107 = .ok (.imul, 1) := by decide +kernel
theorem dL_shoot_108 : decode cL_shoot 108 = .ok (.iadd, 1) := by decide +kernel
theorem dL_shoot_109 : decode cL_shoot 109 = .ok (.istore 5, 2) := by decide +kernel
theorem dL_shoot_111 : decode cL_shoot 111 = .ok (.iload_n 1, 1) := by decide +kernel
theorem dL_shoot_112 : decode cL_shoot 112 = .ok (.bipush 18, 2) := by decide +kernel
theorem dL_shoot_114 : decode cL_shoot 114 = .ok (.ishr, 1) := by decide +kernel
theorem dL_shoot_115 : decode cL_shoot 115 = .ok (.iconst 3, 1) := by decide +kernel
theorem dL_shoot_116 : decode cL_shoot 116 = .ok (.invokestatic 15, 3) := by decide +kernel
theorem dL_shoot_119 : decode cL_shoot 119 = .ok (.ifCond .le 25, 3) := by decide +kernel
theorem dL_shoot_122 : decode cL_shoot 122 = .ok (.iload 5, 2) := by decide +kernel
theorem dL_shoot_124 : decode cL_shoot 124 = .ok (.ifCond .lt 20, 3) := by decide +kernel
theorem dL_shoot_127 : decode cL_shoot 127 = .ok (.iload 5, 2) := by decide +kernel
theorem dL_shoot_129 : decode cL_shoot 129 = .ok (.aload_n 2, 1) := by decide +kernel
theorem dL_shoot_130 : decode cL_shoot 130 = .ok (.iconst 0, 1) := by decide +kernel
theorem dL_shoot_131 : decode cL_shoot 131 = .ok (.iaload, 1) := by decide +kernel
theorem dL_shoot_132 : decode cL_shoot 132 = .ok (.if_icmp .ge 12, 3) := by decide +kernel
theorem dL_shoot_135 : decode cL_shoot 135 = .ok (.aload_n 3, 1) := by decide +kernel
theorem dL_shoot_136 : decode cL_shoot 136 = .ok (.bipush 10, 2) := by decide +kernel
theorem dL_shoot_138 : decode cL_shoot 138 = .ok (.iload 4, 2) := by decide +kernel
theorem dL_shoot_140 : decode cL_shoot 140 = .ok (.iadd, 1) := by decide +kernel
theorem dL_shoot_141 : decode cL_shoot 141 = .ok (.iload 5, 2) := by decide +kernel
theorem dL_shoot_143 : decode cL_shoot 143 = .ok (.iastore, 1) := by decide +kernel
theorem dL_shoot_144 : decode cL_shoot 144 = .ok (.aload_n 0, 1) := by decide +kernel
theorem dL_shoot_145 : decode cL_shoot 145 = .ok (.aload_n 3, 1) := by decide +kernel
theorem dL_shoot_146 : decode cL_shoot 146 = .ok (.iload 4, 2) := by decide +kernel
theorem dL_shoot_148 : decode cL_shoot 148 = .ok (.iaload, 1) := by decide +kernel
theorem dL_shoot_149 : decode cL_shoot 149 = .ok (.aload_n 3, 1) := by decide +kernel
theorem dL_shoot_150 : decode cL_shoot 150 = .ok (.bipush 10, 2) := by decide +kernel
theorem dL_shoot_152 : decode cL_shoot 152 = .ok (.iload 4, 2) := by decide +kernel
theorem dL_shoot_154 : decode cL_shoot 154 = .ok (.iadd, 1) := by decide +kernel
theorem dL_shoot_155 : decode cL_shoot 155 = .ok (.iaload, 1) := by decide +kernel
theorem dL_shoot_156 : decode cL_shoot 156 = .ok (.aload_n 3, 1) := by decide +kernel
theorem dL_shoot_157 : decode cL_shoot 157 = .ok (.bipush 20, 2) := by decide +kernel
theorem dL_shoot_159 : decode cL_shoot 159 = .ok (.iload 4, 2) := by decide +kernel
theorem dL_shoot_161 : decode cL_shoot 161 = .ok (.iadd, 1) := by decide +kernel
theorem dL_shoot_162 : decode cL_shoot 162 = .ok (.iaload, 1) := by decide +kernel
theorem dL_shoot_163 : decode cL_shoot 163 = .ok (.aload_n 3, 1) := by decide +kernel
theorem dL_shoot_164 : decode cL_shoot 164 = .ok (.bipush 30, 2) := by decide +kernel
theorem dL_shoot_166 : decode cL_shoot 166 = .ok (.iload 4, 2) := by decide +kernel
theorem dL_shoot_168 : decode cL_shoot 168 = .ok (.iadd, 1) := by decide +kernel
theorem dL_shoot_169 : decode cL_shoot 169 = .ok (.iaload, 1) := by decide +kernel
theorem dL_shoot_170 : decode cL_shoot 170 = .ok (.invokevirtual 34, 3) := by decide +kernel
theorem dL_shoot_173 : decode cL_shoot 173 = .ok (.iload 4, 2) := by decide +kernel
theorem dL_shoot_175 : decode cL_shoot 175 = .ok (.if_icmp .eq 5, 3) := by decide +kernel
theorem dL_shoot_178 : decode cL_shoot 178 = .ok (.iconst 0, 1) := by decide +kernel
theorem dL_shoot_179 : decode cL_shoot 179 = .ok (.ireturn, 1) := by decide +kernel
theorem dL_shoot_180 : decode cL_shoot 180 = .ok (.aload_n 2, 1) := by decide +kernel
theorem dL_shoot_181 : decode cL_shoot 181 = .ok (.bipush 47, 2) := by decide +kernel
theorem dL_shoot_183 : decode cL_shoot 183 = .ok (.dup2, 1) := by decide +kernel
theorem dL_shoot_184 : decode cL_shoot 184 = .ok (.iaload, 1) := by decide +kernel
theorem dL_shoot_185 : decode cL_shoot 185 = .ok (.iconst 1, 1) := by decide +kernel
theorem dL_shoot_186 : decode cL_shoot 186 = .ok (.iadd, 1) := by decide +kernel
theorem dL_shoot_187 : decode cL_shoot 187 = .ok (.iastore, 1) := by decide +kernel
theorem dL_shoot_188 : decode cL_shoot 188 = .ok (.iconst 1, 1) := by decide +kernel
theorem dL_shoot_189 : decode cL_shoot 189 = .ok (.ireturn, 1) := by decide +kernel
theorem dL_day_0 : decode cL_day 0 = .ok (.iconst 0, 1) := by decide +kernel
theorem dL_day_1 : decode cL_day 1 = .ok (.istore 6, 2) := by decide +kernel
theorem dL_day_3 : decode cL_day 3 = .ok (.iload 6, 2) := by decide +kernel
theorem dL_day_5 : decode cL_day 5 = .ok (.bipush 32, 2) := by decide +kernel
theorem dL_day_7 : decode cL_day 7 = .ok (.if_icmp .ge 15, 3) := by decide +kernel
theorem dL_day_10 : decode cL_day 10 = .ok (.aload 5, 2) := by decide +kernel
theorem dL_day_12 : decode cL_day 12 = .ok (.iload 6, 2) := by decide +kernel
theorem dL_day_14 : decode cL_day 14 = .ok (.iconst 0, 1) := by decide +kernel
theorem dL_day_15 : decode cL_day 15 = .ok (.iastore, 1) := by decide +kernel
theorem dL_day_16 : decode cL_day 16 = .ok (.iinc 6 1, 3) := by decide +kernel
theorem dL_day_19 : decode cL_day 19 = .ok (.goto (-16), 3) := by decide +kernel
theorem dL_day_22 : decode cL_day 22 = .ok (.bipush 32, 2) := by decide +kernel
theorem dL_day_24 : decode cL_day 24 = .ok (.istore 6, 2) := by decide +kernel
theorem dL_day_26 : decode cL_day 26 = .ok (.iload 6, 2) := by decide +kernel
theorem dL_day_28 : decode cL_day 28 = .ok (.bipush 42, 2) := by decide +kernel
theorem dL_day_30 : decode cL_day 30 = .ok (.if_icmp .ge 16, 3) := by decide +kernel
theorem dL_day_33 : decode cL_day 33 = .ok (.aload 5, 2) := by decide +kernel
theorem dL_day_35 : decode cL_day 35 = .ok (.iload 6, 2) := by decide +kernel
theorem dL_day_37 : decode cL_day 37 = .ok (.bipush (-9), 2) := by decide +kernel
theorem dL_day_39 : decode cL_day 39 = .ok (.iastore, 1) := by decide +kernel
theorem dL_day_40 : decode cL_day 40 = .ok (.iinc 6 1, 3) := by decide +kernel
theorem dL_day_43 : decode cL_day 43 = .ok (.goto (-17), 3) := by decide +kernel
theorem dL_day_46 : decode cL_day 46 = .ok (.iconst 0, 1) := by decide +kernel
theorem dL_day_47 : decode cL_day 47 = .ok (.istore 6, 2) := by decide +kernel
theorem dL_day_49 : decode cL_day 49 = .ok (.iload 6, 2) := by decide +kernel
theorem dL_day_51 : decode cL_day 51 = .ok (.aload_n 0, 1) := by decide +kernel
theorem dL_day_52 : decode cL_day 52 = .ok (.bipush 28, 2) := by decide +kernel
theorem dL_day_54 : decode cL_day 54 = .ok (.iaload, 1) := by decide +kernel
theorem dL_day_55 : decode cL_day 55 = .ok (.if_icmp .ge 24, 3) := by decide +kernel
theorem dL_day_58 : decode cL_day 58 = .ok (.aload 5, 2) := by decide +kernel
theorem dL_day_60 : decode cL_day 60 = .ok (.bipush 16, 2) := by decide +kernel
theorem dL_day_62 : decode cL_day 62 = .ok (.iload 6, 2) := by decide +kernel
theorem dL_day_64 : decode cL_day 64 = .ok (.iadd, 1) := by decide +kernel
theorem dL_day_65 : decode cL_day 65 = .ok (.aload_n 0, 1) := by decide +kernel
theorem dL_day_66 : decode cL_day 66 = .ok (.bipush 35, 2) := by decide +kernel
theorem dL_day_68 : decode cL_day 68 = .ok (.iload 6, 2) := by decide +kernel
theorem dL_day_70 : decode cL_day 70 = .ok (.iadd, 1) := by decide +kernel
theorem dL_day_71 : decode cL_day 71 = .ok (.iaload, 1) := by decide +kernel
theorem dL_day_72 : decode cL_day 72 = .ok (.iastore, 1) := by decide +kernel
theorem dL_day_73 : decode cL_day 73 = .ok (.iinc 6 1, 3) := by decide +kernel
theorem dL_day_76 : decode cL_day 76 = .ok (.goto (-27), 3) := by decide +kernel
theorem dL_day_79 : decode cL_day 79 = .ok (.iconst 0, 1) := by decide +kernel
theorem dL_day_80 : decode cL_day 80 = .ok (.istore 6, 2) := by decide +kernel
theorem dL_day_82 : decode cL_day 82 = .ok (.iload 6, 2) := by decide +kernel
theorem dL_day_84 : decode cL_day 84 = .ok (.iload 4, 2) := by decide +kernel
theorem dL_day_86 : decode cL_day 86 = .ok (.if_icmp .gt 406, 3) := by decide +kernel
theorem dL_day_89 : decode cL_day 89 = .ok (.iconst 0, 1) := by decide +kernel
theorem dL_day_90 : decode cL_day 90 = .ok (.istore 7, 2) := by decide +kernel
theorem dL_day_92 : decode cL_day 92 = .ok (.iload 7, 2) := by decide +kernel
theorem dL_day_94 : decode cL_day 94 = .ok (.aload_n 0, 1) := by decide +kernel
theorem dL_day_95 : decode cL_day 95 = .ok (.bipush 28, 2) := by decide +kernel
theorem dL_day_97 : decode cL_day 97 = .ok (.iaload, 1) := by decide +kernel
theorem dL_day_98 : decode cL_day 98 = .ok (.if_icmp .ge 85, 3) := by decide +kernel
theorem dL_day_101 : decode cL_day 101 = .ok (.aload_n 0, 1) := by decide +kernel
theorem dL_day_102 : decode cL_day 102 = .ok (.bipush 29, 2) := by decide +kernel
theorem dL_day_104 : decode cL_day 104 = .ok (.iload 7, 2) := by decide +kernel
theorem dL_day_106 : decode cL_day 106 = .ok (.iadd, 1) := by decide +kernel
theorem dL_day_107 : decode cL_day 107 = .ok (.iaload, 1) := by decide +kernel
theorem dL_day_108 : decode cL_day 108 = .ok (.iload_n 3, 1) := by decide +kernel
theorem dL_day_109 : decode cL_day 109 = .ok (.iload 6, 2) := by decide +kernel
theorem dL_day_111 : decode cL_day 111 = .ok (.imul, 1) := by decide +kernel
theorem dL_day_112 : decode cL_day 112 = .ok (.iadd, 1) := by decide +kernel
theorem dL_day_113 : decode cL_day 113 = .ok (.istore 8, 2) := by decide +kernel
theorem dL_day_115 : decode cL_day 115 = .ok (.iload 8, 2) := by decide +kernel
theorem dL_day_117 : decode cL_day 117 = .ok (.ifCond .lt 60, 3) := by decide +kernel
theorem dL_day_120 : decode cL_day 120 = .ok (.iload 8, 2) := by decide +kernel
theorem dL_day_122 : decode cL_day 122 = .ok (.aload_n 0, 1) := by decide +kernel
theorem dL_day_123 : decode cL_day 123 = .ok (.iconst 0, 1) := by decide +kernel
theorem dL_day_124 : decode cL_day 124 = .ok (.iaload, 1) := by decide +kernel
theorem dL_day_125 : decode cL_day 125 = .ok (.if_icmp .ge 52, 3) := by decide +kernel
theorem dL_day_128 : decode cL_day 128 = .ok (.aload_n 0, 1) := by decide +kernel
theorem dL_day_129 : decode cL_day 129 = .ok (.bipush 41, 2) := by decide +kernel
theorem dL_day_131 : decode cL_day 131 = .ok (.iload 7, 2) := by decide +kernel
theorem dL_day_133 : decode cL_day 133 = .ok (.iadd, 1) := by decide +kernel
theorem dL_day_134 : decode cL_day 134 = .ok (.iaload, 1) := by decide +kernel
theorem dL_day_135 : decode cL_day 135 = .ok (.aload_n 0, 1) := by decide +kernel
theorem dL_day_136 : decode cL_day 136 = .ok (.bipush 26, 2) := by decide +kernel
theorem dL_day_138 : decode cL_day 138 = .ok (.iaload, 1) := by decide +kernel
theorem dL_day_139 : decode cL_day 139 = .ok (.if_icmp .gt 38, 3) := by decide +kernel
theorem dL_day_142 : decode cL_day 142 = .ok (.aload 5, 2) := by decide +kernel
theorem dL_day_144 : decode cL_day 144 = .ok (.bipush 16, 2) := by decide +kernel
theorem dL_day_146 : decode cL_day 146 = .ok (.iload 7, 2) := by decide +kernel
theorem dL_day_148 : decode cL_day 148 = .ok (.iadd, 1) := by decide +kernel
theorem dL_day_149 : decode cL_day 149 = .ok (.iaload, 1) := by decide +kernel
theorem dL_day_150 : decode cL_day 150 = .ok (.ifCond .ne 6, 3) := by decide +kernel
theorem dL_day_153 : decode cL_day 153 = .ok (.goto 24, 3) := by decide +kernel
theorem dL_day_156 : decode cL_day 156 = .ok (.aload 5, 2) := by decide +kernel
theorem dL_day_158 : decode cL_day 158 = .ok (.iload 8, 2) := by decide +kernel
theorem dL_day_160 : decode cL_day 160 = .ok (.dup2, 1) := by decide +kernel
theorem dL_day_161 : decode cL_day 161 = .ok (.iaload, 1) := by decide +kernel
theorem dL_day_162 : decode cL_day 162 = .ok (.iconst 1, 1) := by decide +kernel
theorem dL_day_163 : decode cL_day 163 = .ok (.iadd, 1) := by decide +kernel
theorem dL_day_164 : decode cL_day 164 = .ok (.iastore, 1) := by decide +kernel
theorem dL_day_165 : decode cL_day 165 = .ok (.aload 5, 2) := by decide +kernel
theorem dL_day_167 : decode cL_day 167 = .ok (.bipush 16, 2) := by decide +kernel
theorem dL_day_169 : decode cL_day 169 = .ok (.iload 7, 2) := by decide +kernel
theorem dL_day_171 : decode cL_day 171 = .ok (.iadd, 1) := by decide +kernel
theorem dL_day_172 : decode cL_day 172 = .ok (.dup2, 1) := by decide +kernel
theorem dL_day_173 : decode cL_day 173 = .ok (.iaload, 1) := by decide +kernel
theorem dL_day_174 : decode cL_day 174 = .ok (.iconst 1, 1) := by decide +kernel
theorem dL_day_175 : decode cL_day 175 = .ok (.isub, 1) := by decide +kernel
theorem dL_day_176 : decode cL_day 176 = .ok (.iastore, 1) := by decide +kernel
theorem dL_day_177 : decode cL_day 177 = .ok (.iinc 7 1, 3) := by decide +kernel
theorem dL_day_180 : decode cL_day 180 = .ok (.goto (-88), 3) := by decide +kernel
theorem dL_day_183 : decode cL_day 183 = .ok (.iconst 0, 1) := by decide +kernel
theorem dL_day_184 : decode cL_day 184 = .ok (.istore 7, 2) := by decide +kernel
theorem dL_day_186 : decode cL_day 186 = .ok (.iload 7, 2) := by decide +kernel
theorem dL_day_188 : decode cL_day 188 = .ok (.bipush 10, 2) := by decide +kernel
theorem dL_day_190 : decode cL_day 190 = .ok (.if_icmp .ge 296, 3) := by decide +kernel
theorem dL_day_193 : decode cL_day 193 = .ok (.iload_n 2, 1) := by decide +kernel
theorem dL_day_194 : decode cL_day 194 = .ok (.iload 7, 2) := by decide +kernel
theorem dL_day_196 : decode cL_day 196 = .ok (.ishr, 1) := by decide +kernel
theorem dL_day_197 : decode cL_day 197 = .ok (.iconst 1, 1) := by decide +kernel
theorem dL_day_198 : decode cL_day 198 = .ok (.iand, 1) := by decide +kernel
theorem dL_day_199 : decode cL_day 199 = .ok (.ifCond .eq 281, 3) := by decide +kernel
theorem dL_day_202 : decode cL_day 202 = .ok (.aload_n 1, 1) := by decide +kernel
theorem dL_day_203 : decode cL_day 203 = .ok (.bipush 20, 2) := by decide +kernel
theorem dL_day_205 : decode cL_day 205 = .ok (.iload 7, 2) := by decide +kernel
theorem dL_day_207 : decode cL_day 207 = .ok (.iadd, 1) := by decide +kernel
theorem dL_day_208 : decode cL_day 208 = .ok (.iaload, 1) := by decide +kernel
theorem dL_day_209 : decode cL_day 209 = .ok (.iload 6, 2) := by decide +kernel
theorem dL_day_211 : decode cL_day 211 = .ok (.if_icmp .eq 6, 3) := by decide +kernel
theorem dL_day_214 : decode cL_day 214 = .ok (.goto 266, 3) := by decide +kernel
theorem dL_day_217 : decode cL_day 217 = .ok (.iconst (-1), 1) := by decide +kernel
theorem dL_day_218 : decode cL_day 218 = .ok (.istore 8, 2) := by decide +kernel
theorem dL_day_220 : decode cL_day 220 = .ok (.aload_n 0, 1) := by decide +kernel
theorem dL_day_221 : decode cL_day 221 = .ok (.bipush 28, 2) := by decide +kernel
theorem dL_day_223 : decode cL_day 223 = .ok (.iaload, 1) := by decide +kernel
theorem dL_day_224 : decode cL_day 224 = .ok (.iconst 1, 1) := by decide +kernel
theorem dL_day_225 : decode cL_day 225 = .ok (.isub, 1) := by decide +kernel
theorem dL_day_226 : decode cL_day 226 = .ok (.istore 9, 2) := by decide +kernel
theorem dL_day_228 : decode cL_day 228 = .ok (.iload 9, 2) := by decide +kernel
theorem dL_day_230 : decode cL_day 230 = .ok (.ifCond .lt 117, 3) := by decide +kernel
theorem dL_day_233 : decode cL_day 233 = .ok (.aload_n 1, 1) := by decide +kernel
theorem dL_day_234 : decode cL_day 234 = .ok (.iload 7, 2) := by decide +kernel
theorem dL_day_236 : decode cL_day 236 = .ok (.iaload, 1) := by decide +kernel
theorem dL_day_237 : decode cL_day 237 = .ok (.ifCond .le 21, 3) := by decide +kernel
theorem dL_day_240 : decode cL_day 240 = .ok (.aload_n 1, 1) := by decide +kernel
theorem dL_day_241 : decode cL_day 241 = .ok (.bipush 30, 2) := by decide +kernel
theorem dL_day_243 : decode cL_day 243 = .ok (.iload 7, 2) := by decide +kernel
theorem dL_day_245 : decode cL_day 245 = .ok (.iadd, 1) := by decide +kernel
theorem dL_day_246 : decode cL_day 246 = .ok (.iaload, 1) := by decide +kernel
theorem dL_day_247 : decode cL_day 247 = .ok (.aload_n 1, 1) := by decide +kernel
theorem dL_day_248 : decode cL_day 248 = .ok (.bipush 30, 2) := by decide +kernel
theorem dL_day_250 : decode cL_day 250 = .ok (.iload 7, 2) := by decide +kernel
theorem dL_day_252 : decode cL_day 252 = .ok (.iadd, 1) := by decide +kernel
theorem dL_day_253 : decode cL_day 253 = .ok (.iaload, 1) := by decide +kernel
theorem dL_day_254 : decode cL_day 254 = .ok (.iadd, 1) := by decide +kernel
theorem dL_day_255 : decode cL_day 255 = .ok (.goto 10, 3) := by decide +kernel
theorem dL_day_258 : decode cL_day 258 = .ok (.aload_n 1, 1) := by decide +kernel
theorem dL_day_259 : decode cL_day 259 = .ok (.bipush 30, 2) := by decide +kernel
theorem dL_day_261 : decode cL_day 261 = .ok (.iload 7, 2) := by decide +kernel
theorem dL_day_263 : decode cL_day 263 = .ok (.iadd, 1) := by decide +kernel
theorem dL_day_264 : decode cL_day 264 = .ok (.iaload, 1) := by decide +kernel
theorem dL_day_265 : decode cL_day 265 = .ok (.istore 10, 2) := by decide +kernel
theorem dL_day_267 : decode cL_day 267 = .ok (.aload_n 0, 1) := by decide +kernel
theorem dL_day_268 : decode cL_day 268 = .ok (.bipush 29, 2) := by decide +kernel
theorem dL_day_270 : decode cL_day 270 = .ok (.iload 9, 2) := by decide +kernel
theorem dL_day_272 : decode cL_day 272 = .ok (.iadd, 1) := by decide +kernel
theorem dL_day_273 : decode cL_day 273 = .ok (.iaload, 1) := by decide +kernel
theorem dL_day_274 : decode cL_day 274 = .ok (.iload_n 3, 1) := by decide +kernel
theorem dL_day_275 : decode cL_day 275 = .ok (.iload 6, 2) := by decide +kernel
theorem dL_day_277 : decode cL_day 277 = .ok (.imul, 1) := by decide +kernel
theorem dL_day_278 : decode cL_day 278 = .ok (.iadd, 1) := by decide +kernel
theorem dL_day_279 : decode cL_day 279 = .ok (.aload_n 1, 1) := by decide +kernel
theorem dL_day_280 : decode cL_day 280 = .ok (.bipush 10, 2) := by decide +kernel
theorem dL_day_282 : decode cL_day 282 = .ok (.iload 7, 2) := by decide +kernel
theorem dL_day_284 : decode cL_day 284 = .ok (.iadd, 1) := by decide +kernel
theorem dL_day_285 : decode cL_day 285 = .ok (.iaload, 1) := by decide +kernel
theorem dL_day_286 : decode cL_day 286 = .ok (.if_icmp .ne 55, 3) := by decide +kernel
theorem dL_day_289 : decode cL_day 289 = .ok (.aload 5, 2) := by decide +kernel
theorem dL_day_291 : decode cL_day 291 = .ok (.bipush 16, 2) := by decide +kernel
theorem dL_day_293 : decode cL_day 293 = .ok (.iload 9, 2) := by decide +kernel
theorem dL_day_295 : decode cL_day 295 = .ok (.iadd, 1) := by decide +kernel
theorem dL_day_296 : decode cL_day 296 = .ok (.iaload, 1) := by decide +kernel
theorem dL_day_297 : decode cL_day 297 = .ok (.ifCond .eq 44, 3) := by decide +kernel
theorem dL_day_300 : decode cL_day 300 = .ok (.aload_n 0, 1) := by decide +kernel
theorem dL_day_301 : decode cL_day 301 = .ok (.bipush 41, 2) := by decide +kernel
theorem dL_day_303 : decode cL_day 303 = .ok (.iload 9, 2) := by decide +kernel
theorem dL_day_305 : decode cL_day 305 = .ok (.iadd, 1) := by decide +kernel
theorem dL_day_306 : decode cL_day 306 = .ok (.iaload, 1) := by decide +kernel
theorem dL_day_307 : decode cL_day 307 = .ok (.iload 10, 2) := by decide +kernel
theorem dL_day_309 : decode cL_day 309 = .ok (.if_icmp .le 6, 3) := by decide +kernel
theorem dL_day_312 : decode cL_day 312 = .ok (.goto 29, 3) := by decide +kernel
theorem dL_day_315 : decode cL_day 315 = .ok (.iload 8, 2) := by decide +kernel
theorem dL_day_317 : decode cL_day 317 = .ok (.ifCond .lt 20, 3) := by decide +kernel
theorem dL_day_320 : decode cL_day 320 = .ok (.aload_n 0, 1) := by decide +kernel
theorem dL_day_321 : decode cL_day 321 = .ok (.bipush 41, 2) := by decide +kernel
theorem dL_day_323 : decode cL_day 323 = .ok (.iload 9, 2) := by decide +kernel
theorem dL_day_325 : decode cL_day 325 = .ok (.iadd, 1) := by decide +kernel
theorem dL_day_326 : decode cL_day 326 = .ok (.iaload, 1) := by decide +kernel
theorem dL_day_327 : decode cL_day 327 = .ok (.aload_n 0, 1) := by decide +kernel
theorem dL_day_328 : decode cL_day 328 = .ok (.bipush 41, 2) := by decide +kernel
theorem dL_day_330 : decode cL_day 330 = .ok (.iload 8, 2) := by decide +kernel
theorem dL_day_332 : decode cL_day 332 = .ok (.iadd, 1) := by decide +kernel
theorem dL_day_333 : decode cL_day 333 = .ok (.iaload, 1) := by decide +kernel
theorem dL_day_334 : decode cL_day 334 = .ok (.if_icmp .gt 7, 3) := by decide +kernel
theorem dL_day_337 : decode cL_day 337 = .ok (.iload 9, 2) := by decide +kernel
theorem dL_day_339 : decode cL_day 339 = .ok (.istore 8, 2) := by decide +kernel
theorem dL_day_341 : decode cL_day 341 = .ok (.iinc 9 (-1), 3) := by decide +kernel
theorem dL_day_344 : decode cL_day 344 = .ok (.goto (-116), 3) := by decide +kernel
theorem dL_day_347 : decode cL_day 347 = .ok (.iload 8, 2) := by decide +kernel
theorem dL_day_349 : decode cL_day 349 = .ok (.ifCond .ge 6, 3) := by decide +kernel
theorem dL_day_352 : decode cL_day 352 = .ok (.goto 128, 3) := by decide +kernel
theorem dL_day_355 : decode cL_day 355 = .ok (.aload 5, 2) := by decide +kernel
theorem dL_day_357 : decode cL_day 357 = .ok (.bipush 16, 2) := by decide +kernel
theorem dL_day_359 : decode cL_day 359 = .ok (.iload 8, 2) := by decide +kernel
theorem dL_day_361 : decode cL_day 361 = .ok (.iadd, 1) := by decide +kernel
theorem dL_day_362 : decode cL_day 362 = .ok (.iaload, 1) := by decide +kernel
theorem dL_day_363 : decode cL_day 363 = .ok (.aload_n 1, 1) := by decide +kernel
theorem dL_day_364 : decode cL_day 364 = .ok (.bipush 30, 2) := by decide +kernel
theorem dL_day_366 : decode cL_day 366 = .ok (.iload 7, 2) := by decide +kernel
theorem dL_day_368 : decode cL_day 368 = .ok (.iadd, 1) := by decide +kernel
theorem dL_day_369 : decode cL_day 369 = .ok (.iaload, 1) := by decide +kernel
theorem dL_day_370 : decode cL_day 370 = .ok (.if_icmp .le 13, 3) := by decide +kernel
theorem dL_day_373 : decode cL_day 373 = .ok (.aload_n 1, 1) := by decide +kernel
theorem dL_day_374 : decode cL_day 374 = .ok (.bipush 30, 2) := by decide +kernel
theorem dL_day_376 : decode cL_day 376 = .ok (.iload 7, 2) := by decide +kernel
theorem dL_day_378 : decode cL_day 378 = .ok (.iadd, 1) := by decide +kernel
theorem dL_day_379 : decode cL_day 379 = .ok (.iaload, 1) := by decide +kernel
theorem dL_day_380 : decode cL_day 380 = .ok (.goto 11, 3) := by decide +kernel
theorem dL_day_383 : decode cL_day 383 = .ok (.aload 5, 2) := by decide +kernel
theorem dL_day_385 : decode cL_day 385 = .ok (.bipush 16, 2) := by decide +kernel
theorem dL_day_387 : decode cL_day 387 = .ok (.iload 8, 2) := by decide +kernel
theorem dL_day_389 : decode cL_day 389 = .ok (.iadd, 1) := by decide +kernel
theorem dL_day_390 : decode cL_day 390 = .ok (.iaload, 1) := by decide +kernel
theorem dL_day_391 : decode cL_day 391 = .ok (.istore 9, 2) := by decide +kernel
theorem dL_day_393 : decode cL_day 393 = .ok (.aload 5, 2) := by decide +kernel
theorem dL_day_395 : decode cL_day 395 = .ok (.bipush 16, 2) := by decide +kernel
theorem dL_day_397 : decode cL_day 397 = .ok (.iload 8, 2) := by decide +kernel
theorem dL_day_399 : decode cL_day 399 = .ok (.iadd, 1) := by decide +kernel
theorem dL_day_400 : decode cL_day 400 = .ok (.dup2, 1) := by decide +kernel
theorem dL_day_401 : decode cL_day 401 = .ok (.iaload, 1) := by decide +kernel
theorem dL_day_402 : decode cL_day 402 = .ok (.iload 9, 2) := by decide +kernel
theorem dL_day_404 : decode cL_day 404 = .ok (.isub, 1) := by decide +kernel
theorem dL_day_405 : decode cL_day 405 = .ok (.iastore, 1) := by decide +kernel
theorem dL_day_406 : decode cL_day 406 = .ok (.aload 5, 2) := by decide +kernel
theorem dL_day_408 : decode cL_day 408 = .ok (.bipush 22, 2) := by decide +kernel
theorem dL_day_410 : decode cL_day 410 = .ok (.iload 7, 2) := by decide +kernel
theorem dL_day_412 : decode cL_day 412 = .ok (.iadd, 1) := by decide +kernel
theorem dL_day_413 : decode cL_day 413 = .ok (.iload 9, 2) := by decide +kernel
theorem dL_day_415 : decode cL_day 415 = .ok (.iastore, 1) := by decide +kernel
theorem dL_day_416 : decode cL_day 416 = .ok (.aload 5, 2) := by decide +kernel
theorem dL_day_418 : decode cL_day 418 = .ok (.bipush 32, 2) := by decide +kernel
theorem dL_day_420 : decode cL_day 420 = .ok (.iload 7, 2) := by decide +kernel
theorem dL_day_422 : decode cL_day 422 = .ok (.iadd, 1) := by decide +kernel
theorem dL_day_423 : decode cL_day 423 = .ok (.iload 8, 2) := by decide +kernel
theorem dL_day_425 : decode cL_day 425 = .ok (.iastore, 1) := by decide +kernel
theorem dL_day_426 : decode cL_day 426 = .ok (.aload_n 1, 1) := by decide +kernel
theorem dL_day_427 : decode cL_day 427 = .ok (.iload 7, 2) := by decide +kernel
theorem dL_day_429 : decode cL_day 429 = .ok (.iaload, 1) := by decide +kernel
theorem dL_day_430 : decode cL_day 430 = .ok (.iconst 2, 1) := by decide +kernel
theorem dL_day_431 : decode cL_day 431 = .ok (.if_icmp .ne 10, 3) := by decide +kernel
theorem dL_day_434 : decode cL_day 434 = .ok (.iload 9, 2) := by decide +kernel
theorem dL_day_436 : decode cL_day 436 = .ok (.iconst 3, 1) := by decide +kernel
theorem dL_day_437 : decode cL_day 437 = .ok (.idiv, 1) := by decide +kernel
theorem dL_day_438 : decode cL_day 438 = .ok (.goto 4, 3) := by decide +kernel
theorem dL_day_441 : decode cL_day 441 = .ok (.iconst 0, 1) := by decide +kernel
theorem dL_day_442 : decode cL_day 442 = .ok (.istore 10, 2) := by decide +kernel
theorem dL_day_444 : decode cL_day 444 = .ok (.aload 5, 2) := by decide +kernel
theorem dL_day_446 : decode cL_day 446 = .ok (.bipush 8, 2) := by decide +kernel
theorem dL_day_448 : decode cL_day 448 = .ok (.aload_n 1, 1) := by decide +kernel
theorem dL_day_449 : decode cL_day 449 = .ok (.bipush 10, 2) := by decide +kernel
theorem dL_day_451 : decode cL_day 451 = .ok (.iload 7, 2) := by decide +kernel
theorem dL_day_453 : decode cL_day 453 = .ok (.iadd, 1) := by decide +kernel
theorem dL_day_454 : decode cL_day 454 = .ok (.iaload, 1) := by decide +kernel
theorem dL_day_455 : decode cL_day 455 = .ok (.iadd, 1) := by decide +kernel
theorem dL_day_456 : decode cL_day 456 = .ok (.dup2, 1) := by decide +kernel
theorem dL_day_457 : decode cL_day 457 = .ok (.iaload, 1) := by decide +kernel
theorem dL_day_458 : decode cL_day 458 = .ok (.iload 10, 2) := by decide +kernel
theorem dL_day_460 : decode cL_day 460 = .ok (.iadd, 1) := by decide +kernel
theorem dL_day_461 : decode cL_day 461 = .ok (.iastore, 1) := by decide +kernel
theorem dL_day_462 : decode cL_day 462 = .ok (.aload 5, 2) := by decide +kernel
theorem dL_day_464 : decode cL_day 464 = .ok (.aload_n 1, 1) := by decide +kernel
theorem dL_day_465 : decode cL_day 465 = .ok (.bipush 10, 2) := by decide +kernel
theorem dL_day_467 : decode cL_day 467 = .ok (.iload 7, 2) := by decide +kernel
theorem dL_day_469 : decode cL_day 469 = .ok (.iadd, 1) := by decide +kernel
theorem dL_day_470 : decode cL_day 470 = .ok (.iaload, 1) := by decide +kernel
theorem dL_day_471 : decode cL_day 471 = .ok (.dup2, 1) := by decide +kernel
theorem dL_day_472 : decode cL_day 472 = .ok (.iaload, 1) := by decide +kernel
theorem dL_day_473 : decode cL_day 473 = .ok (.iload 9, 2) := by decide +kernel
theorem dL_day_475 : decode cL_day 475 = .ok (.iload 10, 2) := by decide +kernel
theorem dL_day_477 : decode cL_day 477 = .ok (.isub, 1) := by decide +kernel
theorem dL_day_478 : decode cL_day 478 = .ok (.iadd, 1) := by decide +kernel
theorem dL_day_479 : decode cL_day 479 = .ok (.iastore, 1) := by decide +kernel
theorem dL_day_480 : decode cL_day 480 = .ok (.iinc 7 1, 3) := by decide +kernel
theorem dL_day_483 : decode cL_day 483 = .ok (.goto (-297), 3) := by decide +kernel
theorem dL_day_486 : decode cL_day 486 = .ok (.iinc 6 1, 3) := by decide +kernel
theorem dL_day_489 : decode cL_day 489 = .ok (.goto (-407), 3) := by decide +kernel
theorem dL_day_492 : decode cL_day 492 = .ok (.return_, 1) := by decide +kernel
theorem dL_brings_0 : decode cL_brings 0 = .ok (.aload_n 0, 1) := by decide +kernel
theorem dL_brings_1 : decode cL_brings 1 = .ok (.bipush 17, 2) := by decide +kernel
theorem dL_brings_3 : decode cL_brings 3 = .ok (.iload_n 1, 1) := by decide +kernel
theorem dL_brings_4 : decode cL_brings 4 = .ok (.iadd, 1) := by decide +kernel
theorem dL_brings_5 : decode cL_brings 5 = .ok (.iaload, 1) := by decide +kernel
theorem dL_brings_6 : decode cL_brings 6 = .ok (.aload_n 2, 1) := by decide +kernel
theorem dL_brings_7 : decode cL_brings 7 = .ok (.iload_n 1, 1) := by decide +kernel
theorem dL_brings_8 : decode cL_brings 8 = .ok (.iaload, 1) := by decide +kernel
theorem dL_brings_9 : decode cL_brings 9 = .ok (.aload_n 0, 1) := by decide +kernel
theorem dL_brings_10 : decode cL_brings 10 = .ok (.bipush 9, 2) := by decide +kernel
theorem dL_brings_12 : decode cL_brings 12 = .ok (.iload_n 1, 1) := by decide +kernel
theorem dL_brings_13 : decode cL_brings 13 = .ok (.iadd, 1) := by decide +kernel
theorem dL_brings_14 : decode cL_brings 14 = .ok (.iaload, 1) := by decide +kernel
theorem dL_brings_15 : decode cL_brings 15 = .ok (.if_icmp .le 12, 3) := by decide +kernel
theorem dL_brings_18 : decode cL_brings 18 = .ok (.aload_n 0, 1) := by decide +kernel
theorem dL_brings_19 : decode cL_brings 19 = .ok (.bipush 9, 2) := by decide +kernel
theorem dL_brings_21 : decode cL_brings 21 = .ok (.iload_n 1, 1) := by decide +kernel
theorem dL_brings_22 : decode cL_brings 22 = .ok (.iadd, 1) := by decide +kernel
theorem dL_brings_23 : decode cL_brings 23 = .ok (.iaload, 1) := by decide +kernel
theorem dL_brings_24 : decode cL_brings 24 = .ok (.goto 6, 3) := by decide +kernel
theorem dL_brings_27 : decode cL_brings 27 = .ok (.aload_n 2, 1) := by decide +kernel
theorem dL_brings_28 : decode cL_brings 28 = .ok (.iload_n 1, 1) := by decide +kernel
theorem dL_brings_29 : decode cL_brings 29 = .ok (.iaload, 1) := by decide +kernel
theorem dL_brings_30 : decode cL_brings 30 = .ok (.imul, 1) := by decide +kernel
theorem dL_brings_31 : decode cL_brings 31 = .ok (.aload_n 2, 1) := by decide +kernel
theorem dL_brings_32 : decode cL_brings 32 = .ok (.bipush 8, 2) := by decide +kernel
theorem dL_brings_34 : decode cL_brings 34 = .ok (.iload_n 1, 1) := by decide +kernel
theorem dL_brings_35 : decode cL_brings 35 = .ok (.iadd, 1) := by decide +kernel
theorem dL_brings_36 : decode cL_brings 36 = .ok (.iaload, 1) := by decide +kernel
theorem dL_brings_37 : decode cL_brings 37 = .ok (.isub, 1) := by decide +kernel
theorem dL_brings_38 : decode cL_brings 38 = .ok (.aload_n 2, 1) := by decide +kernel
theorem dL_brings_39 : decode cL_brings 39 = .ok (.bipush 8, 2) := by decide +kernel
theorem dL_brings_41 : decode cL_brings 41 = .ok (.iload_n 1, 1) := by decide +kernel
theorem dL_brings_42 : decode cL_brings 42 = .ok (.iadd, 1) := by decide +kernel
theorem dL_brings_43 : decode cL_brings 43 = .ok (.iaload, 1) := by decide +kernel
theorem dL_brings_44 : decode cL_brings 44 = .ok (.isub, 1) := by decide +kernel
theorem dL_brings_45 : decode cL_brings 45 = .ok (.istore_n 3, 1) := by decide +kernel
theorem dL_brings_46 : decode cL_brings 46 = .ok (.iload_n 3, 1) := by decide +kernel
theorem dL_brings_47 : decode cL_brings 47 = .ok (.ifCond .le 7, 3) := by decide +kernel
theorem dL_brings_50 : decode cL_brings 50 = .ok (.iload_n 3, 1) := by decide +kernel
theorem dL_brings_51 : decode cL_brings 51 = .ok (.goto 4, 3) := by decide +kernel
theorem dL_brings_54 : decode cL_brings 54 = .ok (.iconst 0, 1) := by decide +kernel
theorem dL_brings_55 : decode cL_brings 55 = .ok (.ireturn, 1) := by decide +kernel
set_option maxRecDepth 20000 in
theorem ggL_all_L_brings : GoodIn wsL_all wsL_brings := goodIn_r _ [4] (by decide +kernel) (by decide +kernel)
set_option maxRecDepth 20000 in
theorem gL_all_L_brings : GoodIn wsL_all (va_wsS RL 38 yL_brings wsL_brings) := goodIn_app (goodIn_of _ (by decide +kernel)) ggL_all_L_brings
theorem dL_all_0 : decode cL_all 0 = .ok (.iconst 0, 1) := by decide +kernel
theorem dL_all_1 : decode cL_all 1 = .ok (.istore_n 3, 1) := by decide +kernel
theorem dL_all_2 : decode cL_all 2 = .ok (.iconst 0, 1) := by decide +kernel
theorem dL_all_3 : decode cL_all 3 = .ok (.istore 4, 2) := by decide +kernel
theorem dL_all_5 : decode cL_all 5 = .ok (.iload 4, 2) := by decide +kernel
theorem dL_all_7 : decode cL_all 7 = .ok (.aload_n 0, 1) := by decide +kernel
theorem dL_all_8 : decode cL_all 8 = .ok (.iconst 0, 1) := by decide +kernel
theorem dL_all_9 : decode cL_all 9 = .ok (.iaload, 1) := by decide +kernel
theorem dL_all_10 : decode cL_all 10 = .ok (.if_icmp .ge 37, 3) := by decide +kernel
theorem dL_all_13 : decode cL_all 13 = .ok (.iload_n 3, 1) := by decide +kernel
theorem dL_all_14 : decode cL_all 14 = .ok (.iload_n 1, 1) := by decide +kernel
theorem dL_all_15 : decode cL_all 15 = .ok (.ifCond .lt 13, 3) := by decide +kernel
theorem dL_all_18 : decode cL_all 18 = .ok (.aload_n 0, 1) := by decide +kernel
theorem dL_all_19 : decode cL_all 19 = .ok (.iconst 1, 1) := by decide +kernel
theorem dL_all_20 : decode cL_all 20 = .ok (.iload 4, 2) := by decide +kernel
theorem dL_all_22 : decode cL_all 22 = .ok (.iadd, 1) := by decide +kernel
theorem dL_all_23 : decode cL_all 23 = .ok (.iaload, 1) := by decide +kernel
theorem dL_all_24 : decode cL_all 24 = .ok (.iload_n 1, 1) := by decide +kernel
theorem dL_all_25 : decode cL_all 25 = .ok (.if_icmp .ne 13, 3) := by decide +kernel
theorem dL_all_28 : decode cL_all 28 = .ok (.aload_n 0, 1) := by decide +kernel
theorem dL_all_29 : decode cL_all 29 = .ok (.iload 4, 2) := by decide +kernel
theorem dL_all_31 : decode cL_all 31 = .ok (.aload_n 2, 1) := by decide +kernel
theorem dL_all_32 : decode cL_all 32 = .ok (.invokestatic 38, 3) := by decide +kernel
theorem dL_all_35 : decode cL_all 35 = .ok (.goto 4, 3) := by decide +kernel
theorem dL_all_38 : decode cL_all 38 = .ok (.iconst 0, 1) := by decide +kernel
theorem dL_all_39 : decode cL_all 39 = .ok (.iadd, 1) := by decide +kernel
theorem dL_all_40 : decode cL_all 40 = .ok (.istore_n 3, 1) := by decide +kernel
theorem dL_all_41 : decode cL_all 41 = .ok (.iinc 4 1, 3) := by decide +kernel
theorem dL_all_44 : decode cL_all 44 = .ok (.goto (-39), 3) := by decide +kernel
theorem dL_all_47 : decode cL_all 47 = .ok (.iload_n 3, 1) := by decide +kernel
theorem dL_all_48 : decode cL_all 48 = .ok (.ireturn, 1) := by decide +kernel
