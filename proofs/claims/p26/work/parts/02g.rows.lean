theorem dL_below_0 : decode cL_below 0 = .ok (.iload_n 0, 1) := by decide +kernel
theorem dL_below_1 : decode cL_below 1 = .ok (.ldc 7, 2) := by decide +kernel
theorem dL_below_3 : decode cL_below 3 = .ok (.iand, 1) := by decide +kernel
theorem dL_below_4 : decode cL_below 4 = .ok (.iload_n 1, 1) := by decide +kernel
theorem dL_below_5 : decode cL_below 5 = .ok (.irem, 1) := by decide +kernel
theorem dL_below_6 : decode cL_below 6 = .ok (.ireturn, 1) := by decide +kernel
theorem dL_cell_0 : decode cL_cell 0 = .ok (.iload_n 1, 1) := by decide +kernel
theorem dL_cell_1 : decode cL_cell 1 = .ok (.aload_n 0, 1) := by decide +kernel
theorem dL_cell_2 : decode cL_cell 2 = .ok (.arraylength, 1) := by decide +kernel
theorem dL_cell_3 : decode cL_cell 3 = .ok (.if_icmp .ge 9, 3) := by decide +kernel
theorem dL_cell_6 : decode cL_cell 6 = .ok (.aload_n 0, 1) := by decide +kernel
theorem dL_cell_7 : decode cL_cell 7 = .ok (.iload_n 1, 1) := by decide +kernel
theorem dL_cell_8 : decode cL_cell 8 = .ok (.iaload, 1) := by decide +kernel
theorem dL_cell_9 : decode cL_cell 9 = .ok (.goto 9, 3) := by decide +kernel
theorem dL_cell_12 : decode cL_cell 12 = .ok (.ldc 8, 2) := by decide +kernel
theorem dL_cell_14 : decode cL_cell 14 = .ok (.iload_n 1, 1) := by decide +kernel
theorem dL_cell_15 : decode cL_cell 15 = .ok (.iconst 3, 1) := by decide +kernel
theorem dL_cell_16 : decode cL_cell 16 = .ok (.iadd, 1) := by decide +kernel
theorem dL_cell_17 : decode cL_cell 17 = .ok (.imul, 1) := by decide +kernel
theorem dL_cell_18 : decode cL_cell 18 = .ok (.ireturn, 1) := by decide +kernel
set_option maxRecDepth 20000 in
theorem ggL_build_L_cell : GoodIn wsL_build wsL_cell := goodIn_r _ [5, 6] (by decide +kernel) (by decide +kernel)
set_option maxRecDepth 20000 in
theorem gL_build_L_cell : GoodIn wsL_build (va_wsS RL 9 yL_cell wsL_cell) := goodIn_app (goodIn_of _ (by decide +kernel)) ggL_build_L_cell
set_option maxRecDepth 20000 in
theorem ggL_build_L_below : GoodIn wsL_build wsL_below := goodIn_r _ [9, 10] (by decide +kernel) (by decide +kernel)
set_option maxRecDepth 20000 in
theorem gL_build_L_below : GoodIn wsL_build (va_wsS RL 15 yL_below wsL_below) := goodIn_app (goodIn_of _ (by decide +kernel)) ggL_build_L_below
set_option maxRecDepth 20000 in
theorem ggL_build_X3_addPlace : GoodIn wsL_build wsX3_addPlace := goodIn_ca (goodIn_r _ [15, 16, 17, 18, 19, 20, 21, 22, 23, 24, 182, 183, 184, 185, 186, 187, 188, 189, 190, 191, 192] (by decide +kernel) (by decide +kernel)) (goodIn_sub (fun _ h => List.mem_cons_of_mem _ (List.mem_append_left _ (List.mem_append_left _ (List.mem_append_right _ h)))) (by decide +kernel))
set_option maxRecDepth 20000 in
theorem gL_build_X3_addPlace : GoodIn wsL_build (wsV RL 19 RX3 yX3_addPlace wsX3_addPlace) := goodIn_app (goodIn_of _ (by decide +kernel)) ggL_build_X3_addPlace
set_option maxRecDepth 20000 in
theorem ggL_build_X3_setMinutes : GoodIn wsL_build wsX3_setMinutes := goodIn_ca (goodIn_ca (goodIn_r _ [28, 29, 30, 18, 31, 32, 33, 14, 34, 35, 36, 37, 38, 39, 40, 41, 42, 43, 22, 44, 45, 46, 47, 48, 49, 182, 183, 184, 185, 186, 187, 188, 189, 190, 191, 192] (by decide +kernel) (by decide +kernel)) (goodIn_sub (fun _ h => List.mem_cons_of_mem _ (List.mem_append_left _ (List.mem_append_right _ h))) (by decide +kernel))) (goodIn_sub (fun _ h => List.mem_cons_of_mem _ (List.mem_append_right _ h)) (by decide +kernel))
set_option maxRecDepth 20000 in
theorem gL_build_X3_setMinutes : GoodIn wsL_build (wsV RL 25 RX3 yX3_setMinutes wsX3_setMinutes) := goodIn_app (goodIn_of _ (by decide +kernel)) ggL_build_X3_setMinutes
set_option maxRecDepth 20000 in
theorem ggL_build_X3_setTip : GoodIn wsL_build wsX3_setTip := goodIn_ca (goodIn_ca (goodIn_r _ [53, 29, 30, 18, 31, 32, 33, 14, 34, 35, 36, 54, 55, 56, 57, 58, 59, 60, 22, 61, 62, 63, 64, 65, 66, 24, 67, 68, 69, 70, 71, 182, 183, 184, 185, 186, 187, 188, 189, 190, 191, 192] (by decide +kernel) (by decide +kernel)) (goodIn_sub (fun _ h => List.mem_cons_of_mem _ (List.mem_append_left _ (List.mem_append_right _ h))) (by decide +kernel))) (goodIn_sub (fun _ h => List.mem_cons_of_mem _ (List.mem_append_right _ h)) (by decide +kernel))
set_option maxRecDepth 20000 in
theorem gL_build_X3_setTip : GoodIn wsL_build (wsV RL 29 RX3 yX3_setTip wsX3_setTip) := goodIn_app (goodIn_of _ (by decide +kernel)) ggL_build_X3_setTip
set_option maxRecDepth 20000 in
theorem ggL_build_X3_addBin : GoodIn wsL_build wsX3_addBin := goodIn_ca (goodIn_ca (goodIn_ca (goodIn_r _ [75, 35, 36, 16, 17, 76, 77, 78, 79, 80, 31, 32, 33, 14, 34, 18, 54, 55, 56, 57, 37, 38, 39, 40, 29, 30, 81, 82, 83, 84, 85, 86, 87, 88, 89, 90, 91, 92, 93, 94, 95, 96, 97, 98, 99, 100, 101, 102, 103, 104, 105, 106, 107, 108, 109, 110, 111, 112, 113, 114, 115, 116, 117, 118, 119, 120, 121, 122, 123, 124, 125, 126, 127, 128, 129, 130, 131, 132, 133, 134, 135, 136, 137, 138, 139, 140, 141, 142, 143, 144, 145, 146, 147, 148, 149, 150, 151, 152, 153, 154, 155, 156, 182, 183, 184, 185, 186, 187, 188, 189, 193, 194, 195, 196, 197, 198, 199, 200, 201, 202, 190, 191, 192, 203, 204, 205] (by decide +kernel) (by decide +kernel)) (goodIn_sub (fun _ h => List.mem_cons_of_mem _ (List.mem_append_right _ h)) (by decide +kernel))) (goodIn_sub (fun _ h => List.mem_cons_of_mem _ (List.mem_append_left _ (List.mem_append_left _ (List.mem_append_right _ h)))) (by decide +kernel))) (goodIn_sub (fun _ h => List.mem_cons_of_mem _ (List.mem_append_left _ (List.mem_append_right _ h))) (by decide +kernel))
set_option maxRecDepth 20000 in
theorem gL_build_X3_addBin : GoodIn wsL_build (wsV RL 33 RX3 yX3_addBin wsX3_addBin) := goodIn_app (goodIn_of _ (by decide +kernel)) ggL_build_X3_addBin
set_option maxRecDepth 20000 in
theorem ggL_build_X3_soil : GoodIn wsL_build wsX3_soil := goodIn_ca (goodIn_r _ [160, 76, 161, 162, 163, 164, 14, 165, 35, 36, 81, 82, 83, 84, 85, 86, 166, 167, 168, 169, 170, 171, 172, 173, 174, 175, 176, 177, 178, 179, 180, 181, 109, 182, 183, 184, 185, 186, 187, 188, 189, 193, 194, 195, 196, 197, 198, 199, 200, 201, 202, 203, 204, 205] (by decide +kernel) (by decide +kernel)) (goodIn_sub (fun _ h => List.mem_cons_of_mem _ (List.mem_append_right _ h)) (by decide +kernel))
set_option maxRecDepth 20000 in
theorem gL_build_X3_soil : GoodIn wsL_build (wsV RL 37 RX3 yX3_soil wsX3_soil) := goodIn_app (goodIn_of _ (by decide +kernel)) ggL_build_X3_soil
theorem dL_build_0 : decode cL_build 0 = .ok (.iconst 2, 1) := by decide +kernel
theorem dL_build_1 : decode cL_build 1 = .ok (.aload_n 1, 1) := by decide +kernel
theorem dL_build_2 : decode cL_build 2 = .ok (.iload_n 2, 1) := by decide +kernel
theorem dL_build_3 : decode cL_build 3 = .ok (.invokestatic 9, 3) := by decide +kernel
theorem dL_build_6 : decode cL_build 6 = .ok (.iconst 5, 1) := by decide +kernel
theorem dL_build_7 : decode cL_build 7 = .ok (.invokestatic 15, 3) := by decide +kernel
theorem dL_build_10 : decode cL_build 10 = .ok (.iadd, 1) := by decide +kernel
theorem dL_build_11 : decode cL_build 11 = .ok (.istore 6, 2) := by decide +kernel
theorem dL_build_13 : decode cL_build 13 = .ok (.iconst 0, 1) := by decide +kernel
theorem dL_build_14 : decode cL_build 14 = .ok (.istore 7, 2) := by decide +kernel
theorem dL_build_16 : decode cL_build 16 = .ok (.iload 7, 2) := by decide +kernel
theorem dL_build_18 : decode cL_build 18 = .ok (.bipush 100, 2) := by decide +kernel
theorem dL_build_20 : decode cL_build 20 = .ok (.if_icmp .ge 32, 3) := by decide +kernel
theorem dL_build_23 : decode cL_build 23 = .ok (.aload_n 3, 1) := by decide +kernel
theorem dL_build_24 : decode cL_build 24 = .ok (.iload 7, 2) := by decide +kernel
theorem dL_build_26 : decode cL_build 26 = .ok (.iload 7, 2) := by decide +kernel
theorem dL_build_28 : decode cL_build 28 = .ok (.bipush 10, 2) := by decide +kernel
theorem dL_build_30 : decode cL_build 30 = .ok (.idiv, 1) := by decide +kernel
theorem dL_build_31 : decode cL_build 31 = .ok (.iload 7, 2) := by decide +kernel
theorem dL_build_33 : decode cL_build 33 = .ok (.bipush 10, 2) := by decide +kernel
theorem dL_build_35 : decode cL_build 35 = .ok (.irem, 1) := by decide +kernel
theorem dL_build_36 : decode cL_build 36 = .ok (.if_icmp .ne 7, 3) := by decide +kernel
theorem dL_build_39 : decode cL_build 39 = .ok (.iconst 0, 1) := by decide +kernel
theorem dL_build_40 : decode cL_build 40 = .ok (.goto 5, 3) := by decide +kernel
theorem dL_build_43 : decode cL_build 43 = .ok (.bipush 30, 2) := by decide +kernel
theorem dL_build_45 : decode cL_build 45 = .ok (.iastore, 1) := by decide +kernel
theorem dL_build_46 : decode cL_build 46 = .ok (.iinc 7 1, 3) := by decide +kernel
theorem dL_build_49 : decode cL_build 49 = .ok (.goto (-33), 3) := by decide +kernel
theorem dL_build_52 : decode cL_build 52 = .ok (.aload 4, 2) := by decide +kernel
theorem dL_build_54 : decode cL_build 54 = .ok (.iconst 0, 1) := by decide +kernel
theorem dL_build_55 : decode cL_build 55 = .ok (.bipush 7, 2) := by decide +kernel
theorem dL_build_57 : decode cL_build 57 = .ok (.iastore, 1) := by decide +kernel
theorem dL_build_58 : decode cL_build 58 = .ok (.iconst 1, 1) := by decide +kernel
theorem dL_build_59 : decode cL_build 59 = .ok (.istore 7, 2) := by decide +kernel
theorem dL_build_61 : decode cL_build 61 = .ok (.iload 7, 2) := by decide +kernel
theorem dL_build_63 : decode cL_build 63 = .ok (.iload 6, 2) := by decide +kernel
theorem dL_build_65 : decode cL_build 65 = .ok (.if_icmp .ge 20, 3) := by decide +kernel
theorem dL_build_68 : decode cL_build 68 = .ok (.aload_n 0, 1) := by decide +kernel
theorem dL_build_69 : decode cL_build 69 = .ok (.invokevirtual 19, 3) := by decide +kernel
theorem dL_build_72 : decode cL_build 72 = .ok (.iload 7, 2) := by decide +kernel
theorem dL_build_74 : decode cL_build 74 = .ok (.if_icmp .eq 5, 3) := by decide +kernel
theorem dL_build_77 : decode cL_build 77 = .ok (.aconst_null, 1) := by decide +kernel
theorem dL_build_78 : decode cL_build 78 = .ok (.areturn, 1) := by decide +kernel
theorem dL_build_79 : decode cL_build 79 = .ok (.iinc 7 1, 3) := by decide +kernel
theorem dL_build_82 : decode cL_build 82 = .ok (.goto (-21), 3) := by decide +kernel
theorem dL_build_85 : decode cL_build 85 = .ok (.iconst 0, 1) := by decide +kernel
theorem dL_build_86 : decode cL_build 86 = .ok (.istore 7, 2) := by decide +kernel
theorem dL_build_88 : decode cL_build 88 = .ok (.iload 7, 2) := by decide +kernel
theorem dL_build_90 : decode cL_build 90 = .ok (.iload 6, 2) := by decide +kernel
theorem dL_build_92 : decode cL_build 92 = .ok (.if_icmp .ge 119, 3) := by decide +kernel
theorem dL_build_95 : decode cL_build 95 = .ok (.iload 7, 2) := by decide +kernel
theorem dL_build_97 : decode cL_build 97 = .ok (.iconst 1, 1) := by decide +kernel
theorem dL_build_98 : decode cL_build 98 = .ok (.iadd, 1) := by decide +kernel
theorem dL_build_99 : decode cL_build 99 = .ok (.istore 8, 2) := by decide +kernel
theorem dL_build_101 : decode cL_build 101 = .ok (.iload 8, 2) := by decide +kernel
theorem dL_build_103 : decode cL_build 103 = .ok (.iload 6, 2) := by decide +kernel
theorem dL_build_105 : decode cL_build 105 = .ok (.if_icmp .ge 100, 3) := by decide +kernel
theorem dL_build_108 : decode cL_build 108 = .ok (.aload_n 1, 1) := by decide +kernel
theorem dL_build_109 : decode cL_build 109 = .ok (.iload_n 2, 1) := by decide +kernel
theorem dL_build_110 : decode cL_build 110 = .ok (.iconst 1, 1) := by decide +kernel
theorem dL_build_111 : decode cL_build 111 = .ok (.iadd, 1) := by decide +kernel
theorem dL_build_112 : decode cL_build 112 = .ok (.iload 7, 2) := by decide +kernel
theorem dL_build_114 : decode cL_build 114 = .ok (.iload 8, 2) := by decide +kernel
theorem dL_build_116 : decode cL_build 116 = .ok (.iadd, 1) := by decide +kernel
theorem dL_build_117 : decode cL_build 117 = .ok (.iconst 4, 1) := by decide +kernel
theorem dL_build_118 : decode cL_build 118 = .ok (.irem, 1) := by decide +kernel
theorem dL_build_119 : decode cL_build 119 = .ok (.iadd, 1) := by decide +kernel
theorem dL_build_120 : decode cL_build 120 = .ok (.invokestatic 9, 3) := by decide +kernel
theorem dL_build_123 : decode cL_build 123 = .ok (.iload 7, 2) := by decide +kernel
theorem dL_build_125 : decode cL_build 125 = .ok (.iconst 2, 1) := by decide +kernel
theorem dL_build_126 : decode cL_build 126 = .ok (.iload 8, 2) := by decide +kernel
theorem dL_build_128 : decode cL_build 128 = .ok (.imul, 1) := by decide +kernel
theorem dL_build_129 : decode cL_build 129 = .ok (.iadd, 1) := by decide +kernel
theorem dL_build_130 : decode cL_build 130 = .ok (.ishr, 1) := by decide +kernel
theorem dL_build_131 : decode cL_build 131 = .ok (.istore 9, 2) := by decide +kernel
theorem dL_build_133 : decode cL_build 133 = .ok (.iload 9, 2) := by decide +kernel
theorem dL_build_135 : decode cL_build 135 = .ok (.iconst 4, 1) := by decide +kernel
theorem dL_build_136 : decode cL_build 136 = .ok (.invokestatic 15, 3) := by decide +kernel
theorem dL_build_139 : decode cL_build 139 = .ok (.ifCond .ne 6, 3) := by decide +kernel
theorem dL_build_142 : decode cL_build 142 = .ok (.goto 57, 3) := by decide +kernel
theorem dL_build_145 : decode cL_build 145 = .ok (.iconst 1, 1) := by decide +kernel
theorem dL_build_146 : decode cL_build 146 = .ok (.iload 9, 2) := by decide +kernel
theorem dL_build_148 : decode cL_build 148 = .ok (.iconst 2, 1) := by decide +kernel
theorem dL_build_149 : decode cL_build 149 = .ok (.ishr, 1) := by decide +kernel
theorem dL_build_150 : decode cL_build 150 = .ok (.bipush 25, 2) := by decide +kernel
theorem dL_build_152 : decode cL_build 152 = .ok (.invokestatic 15, 3) := by decide +kernel
theorem dL_build_155 : decode cL_build 155 = .ok (.iadd, 1) := by decide +kernel
theorem dL_build_156 : decode cL_build 156 = .ok (.istore 10, 2) := by decide +kernel
theorem dL_build_158 : decode cL_build 158 = .ok (.aload_n 0, 1) := by decide +kernel
theorem dL_build_159 : decode cL_build 159 = .ok (.iload 8, 2) := by decide +kernel
theorem dL_build_161 : decode cL_build 161 = .ok (.iload 7, 2) := by decide +kernel
theorem dL_build_163 : decode cL_build 163 = .ok (.iload 10, 2) := by decide +kernel
theorem dL_build_165 : decode cL_build 165 = .ok (.invokevirtual 25, 3) := by decide +kernel
theorem dL_build_168 : decode cL_build 168 = .ok (.bipush 30, 2) := by decide +kernel
theorem dL_build_170 : decode cL_build 170 = .ok (.if_icmp .eq 5, 3) := by decide +kernel
theorem dL_build_173 : decode cL_build 173 = .ok (.aconst_null, 1) := by decide +kernel
theorem dL_build_174 : decode cL_build 174 = .ok (.areturn, 1) := by decide +kernel
theorem dL_build_175 : decode cL_build 175 = .ok (.aload_n 3, 1) := by decide +kernel
theorem dL_build_176 : decode cL_build 176 = .ok (.bipush 10, 2) := by decide +kernel
theorem dL_build_178 : decode cL_build 178 = .ok (.iload 7, 2) := by decide +kernel
theorem dL_build_180 : decode cL_build 180 = .ok (.imul, 1) := by decide +kernel
theorem dL_build_181 : decode cL_build 181 = .ok (.iload 8, 2) := by decide +kernel
theorem dL_build_183 : decode cL_build 183 = .ok (.iadd, 1) := by decide +kernel
theorem dL_build_184 : decode cL_build 184 = .ok (.iload 10, 2) := by decide +kernel
theorem dL_build_186 : decode cL_build 186 = .ok (.iastore, 1) := by decide +kernel
theorem dL_build_187 : decode cL_build 187 = .ok (.aload_n 3, 1) := by decide +kernel
theorem dL_build_188 : decode cL_build 188 = .ok (.bipush 10, 2) := by decide +kernel
theorem dL_build_190 : decode cL_build 190 = .ok (.iload 8, 2) := by decide +kernel
theorem dL_build_192 : decode cL_build 192 = .ok (.imul, 1) := by decide +kernel
theorem dL_build_193 : decode cL_build 193 = .ok (.iload 7, 2) := by decide +kernel
theorem dL_build_195 : decode cL_build 195 = .ok (.iadd, 1) := by decide +kernel
theorem dL_build_196 : decode cL_build 196 = .ok (.iload 10, 2) := by decide +kernel
theorem dL_build_198 : decode cL_build 198 = .ok (.iastore, 1) := by decide +kernel
theorem dL_build_199 : decode cL_build 199 = .ok (.iinc 8 1, 3) := by decide +kernel
theorem dL_build_202 : decode cL_build 202 = .ok (.goto (-101), 3) := by decide +kernel
theorem dL_build_205 : decode cL_build 205 = .ok (.iinc 7 1, 3) := by decide +kernel
theorem dL_build_208 : decode cL_build 208 = .ok (.goto (-120), 3) := by decide +kernel
theorem dL_build_211 : decode cL_build 211 = .ok (.iconst 1, 1) := by decide +kernel
theorem dL_build_212 : decode cL_build 212 = .ok (.istore 7, 2) := by decide +kernel
theorem dL_build_214 : decode cL_build 214 = .ok (.iload 7, 2) := by decide +kernel
theorem dL_build_216 : decode cL_build 216 = .ok (.iload 6, 2) := by decide +kernel
theorem dL_build_218 : decode cL_build 218 = .ok (.if_icmp .ge 75, 3) := by decide +kernel
theorem dL_build_221 : decode cL_build 221 = .ok (.iconst 0, 1) := by decide +kernel
theorem dL_build_222 : decode cL_build 222 = .ok (.istore 8, 2) := by decide +kernel
theorem dL_build_224 : decode cL_build 224 = .ok (.iload 8, 2) := by decide +kernel
theorem dL_build_226 : decode cL_build 226 = .ok (.iconst 3, 1) := by decide +kernel
theorem dL_build_227 : decode cL_build 227 = .ok (.if_icmp .ge 60, 3) := by decide +kernel
theorem dL_build_230 : decode cL_build 230 = .ok (.aload_n 1, 1) := by decide +kernel
theorem dL_build_231 : decode cL_build 231 = .ok (.iload_n 2, 1) := by decide +kernel
theorem dL_build_232 : decode cL_build 232 = .ok (.iconst 5, 1) := by decide +kernel
theorem dL_build_233 : decode cL_build 233 = .ok (.iadd, 1) := by decide +kernel
theorem dL_build_234 : decode cL_build 234 = .ok (.invokestatic 9, 3) := by decide +kernel
theorem dL_build_237 : decode cL_build 237 = .ok (.iconst 3, 1) := by decide +kernel
theorem dL_build_238 : decode cL_build 238 = .ok (.iload 7, 2) := by decide +kernel
theorem dL_build_240 : decode cL_build 240 = .ok (.imul, 1) := by decide +kernel
theorem dL_build_241 : decode cL_build 241 = .ok (.iload 8, 2) := by decide +kernel
theorem dL_build_243 : decode cL_build 243 = .ok (.iadd, 1) := by decide +kernel
theorem dL_build_244 : decode cL_build 244 = .ok (.ishr, 1) := by decide +kernel
theorem dL_build_245 : decode cL_build 245 = .ok (.iconst 4, 1) := by decide +kernel
theorem dL_build_246 : decode cL_build 246 = .ok (.invokestatic 15, 3) := by decide +kernel
theorem dL_build_249 : decode cL_build 249 = .ok (.ifCond .le 6, 3) := by decide +kernel
theorem dL_build_252 : decode cL_build 252 = .ok (.goto 29, 3) := by decide +kernel
theorem dL_build_255 : decode cL_build 255 = .ok (.aload_n 0, 1) := by decide +kernel
theorem dL_build_256 : decode cL_build 256 = .ok (.iload 7, 2) := by decide +kernel
theorem dL_build_258 : decode cL_build 258 = .ok (.iload 8, 2) := by decide +kernel
theorem dL_build_260 : decode cL_build 260 = .ok (.iconst 1, 1) := by decide +kernel
theorem dL_build_261 : decode cL_build 261 = .ok (.invokevirtual 29, 3) := by decide +kernel
theorem dL_build_264 : decode cL_build 264 = .ok (.ifCond .eq 5, 3) := by decide +kernel
theorem dL_build_267 : decode cL_build 267 = .ok (.aconst_null, 1) := by decide +kernel
theorem dL_build_268 : decode cL_build 268 = .ok (.areturn, 1) := by decide +kernel
theorem dL_build_269 : decode cL_build 269 = .ok (.aload 4, 2) := by decide +kernel
theorem dL_build_271 : decode cL_build 271 = .ok (.iload 7, 2) := by decide +kernel
theorem dL_build_273 : decode cL_build 273 = .ok (.dup2, 1) := by decide +kernel
theorem dL_build_274 : decode cL_build 274 = .ok (.iaload, 1) := by decide +kernel
theorem dL_build_275 : decode cL_build 275 = .ok (.iconst 1, 1) := by decide +kernel
theorem dL_build_276 : decode cL_build 276 = .ok (.iload 8, 2) := by decide +kernel
theorem dL_build_278 : decode cL_build 278 = .ok (.ishl, 1) := by decide +kernel
theorem dL_build_279 : decode cL_build 279 = .ok (.ior, 1) := by decide +kernel
theorem dL_build_280 : decode cL_build 280 = .ok (.iastore, 1) := by decide +kernel
theorem dL_build_281 : decode cL_build 281 = .ok (.iinc 8 1, 3) := by decide +kernel
theorem dL_build_284 : decode cL_build 284 = .ok (.goto (-60), 3) := by decide +kernel
theorem dL_build_287 : decode cL_build 287 = .ok (.iinc 7 1, 3) := by decide +kernel
theorem dL_build_290 : decode cL_build 290 = .ok (.goto (-76), 3) := by decide +kernel
theorem dL_build_293 : decode cL_build 293 = .ok (.aload_n 1, 1) := by decide +kernel
theorem dL_build_294 : decode cL_build 294 = .ok (.iload_n 2, 1) := by decide +kernel
theorem dL_build_295 : decode cL_build 295 = .ok (.invokestatic 9, 3) := by decide +kernel
theorem dL_build_298 : decode cL_build 298 = .ok (.iconst 4, 1) := by decide +kernel
theorem dL_build_299 : decode cL_build 299 = .ok (.ishr, 1) := by decide +kernel
theorem dL_build_300 : decode cL_build 300 = .ok (.bipush 11, 2) := by decide +kernel
theorem dL_build_302 : decode cL_build 302 = .ok (.invokestatic 15, 3) := by decide +kernel
theorem dL_build_305 : decode cL_build 305 = .ok (.istore 7, 2) := by decide +kernel
theorem dL_build_307 : decode cL_build 307 = .ok (.iconst 0, 1) := by decide +kernel
theorem dL_build_308 : decode cL_build 308 = .ok (.istore 8, 2) := by decide +kernel
theorem dL_build_310 : decode cL_build 310 = .ok (.iload 8, 2) := by decide +kernel
theorem dL_build_312 : decode cL_build 312 = .ok (.iload 7, 2) := by decide +kernel
theorem dL_build_314 : decode cL_build 314 = .ok (.if_icmp .ge 213, 3) := by decide +kernel
theorem dL_build_317 : decode cL_build 317 = .ok (.aload_n 1, 1) := by decide +kernel
theorem dL_build_318 : decode cL_build 318 = .ok (.iload_n 2, 1) := by decide +kernel
theorem dL_build_319 : decode cL_build 319 = .ok (.bipush 6, 2) := by decide +kernel
theorem dL_build_321 : decode cL_build 321 = .ok (.iadd, 1) := by decide +kernel
theorem dL_build_322 : decode cL_build 322 = .ok (.iload 8, 2) := by decide +kernel
theorem dL_build_324 : decode cL_build 324 = .ok (.iconst 4, 1) := by decide +kernel
theorem dL_build_325 : decode cL_build 325 = .ok (.irem, 1) := by decide +kernel
theorem dL_build_326 : decode cL_build 326 = .ok (.iadd, 1) := by decide +kernel
theorem dL_build_327 : decode cL_build 327 = .ok (.invokestatic 9, 3) := by decide +kernel
theorem dL_build_330 : decode cL_build 330 = .ok (.iload 8, 2) := by decide +kernel
theorem dL_build_332 : decode cL_build 332 = .ok (.iconst 4, 1) := by decide +kernel
theorem dL_build_333 : decode cL_build 333 = .ok (.idiv, 1) := by decide +kernel
theorem dL_build_334 : decode cL_build 334 = .ok (.bipush 9, 2) := by decide +kernel
theorem dL_build_336 : decode cL_build 336 = .ok (.imul, 1) := by decide +kernel
theorem dL_build_337 : decode cL_build 337 = .ok (.ishr, 1) := by decide +kernel
theorem dL_build_338 : decode cL_build 338 = .ok (.istore 9, 2) := by decide +kernel
theorem dL_build_340 : decode cL_build 340 = .ok (.bipush 10, 2) := by decide +kernel
theorem dL_build_342 : decode cL_build 342 = .ok (.iload 8, 2) := by decide +kernel
theorem dL_build_344 : decode cL_build 344 = .ok (.imul, 1) := by decide +kernel
theorem dL_build_345 : decode cL_build 345 = .ok (.istore 10, 2) := by decide +kernel
theorem dL_build_347 : decode cL_build 347 = .ok (.aload 5, 2) := by decide +kernel
theorem dL_build_349 : decode cL_build 349 = .ok (.iload 10, 2) := by decide +kernel
theorem dL_build_351 : decode cL_build 351 = .ok (.iconst 1, 1) := by decide +kernel
theorem dL_build_352 : decode cL_build 352 = .ok (.iload 9, 2) := by decide +kernel
theorem dL_build_354 : decode cL_build 354 = .ok (.iload 6, 2) := by decide +kernel
theorem dL_build_356 : decode cL_build 356 = .ok (.iconst 1, 1) := by decide +kernel
theorem dL_build_357 : decode cL_build 357 = .ok (.isub, 1) := by decide +kernel
theorem dL_build_358 : decode cL_build 358 = .ok (.invokestatic 15, 3) := by decide +kernel
theorem dL_build_361 : decode cL_build 361 = .ok (.iadd, 1) := by decide +kernel
theorem dL_build_362 : decode cL_build 362 = .ok (.iastore, 1) := by decide +kernel
theorem dL_build_363 : decode cL_build 363 = .ok (.aload 5, 2) := by decide +kernel
theorem dL_build_365 : decode cL_build 365 = .ok (.iload 10, 2) := by decide +kernel
theorem dL_build_367 : decode cL_build 367 = .ok (.iconst 1, 1) := by decide +kernel
theorem dL_build_368 : decode cL_build 368 = .ok (.iadd, 1) := by decide +kernel
theorem dL_build_369 : decode cL_build 369 = .ok (.iload 9, 2) := by decide +kernel
theorem dL_build_371 : decode cL_build 371 = .ok (.iconst 2, 1) := by decide +kernel
theorem dL_build_372 : decode cL_build 372 = .ok (.ishr, 1) := by decide +kernel
theorem dL_build_373 : decode cL_build 373 = .ok (.iconst 2, 1) := by decide +kernel
theorem dL_build_374 : decode cL_build 374 = .ok (.invokestatic 15, 3) := by decide +kernel
theorem dL_build_377 : decode cL_build 377 = .ok (.ifCond .ne 7, 3) := by decide +kernel
theorem dL_build_380 : decode cL_build 380 = .ok (.iconst 0, 1) := by decide +kernel
theorem dL_build_381 : decode cL_build 381 = .ok (.goto 11, 3) := by decide +kernel
theorem dL_build_384 : decode cL_build 384 = .ok (.iload 9, 2) := by decide +kernel
theorem dL_build_386 : decode cL_build 386 = .ok (.iconst 3, 1) := by decide +kernel
theorem dL_build_387 : decode cL_build 387 = .ok (.ishr, 1) := by decide +kernel
theorem dL_build_388 : decode cL_build 388 = .ok (.iconst 3, 1) := by decide +kernel
theorem dL_build_389 : decode cL_build 389 = .ok (.invokestatic 15, 3) := by decide +kernel
theorem dL_build_392 : decode cL_build 392 = .ok (.iastore, 1) := by decide +kernel
theorem dL_build_393 : decode cL_build 393 = .ok (.aload 5, 2) := by decide +kernel
theorem dL_build_395 : decode cL_build 395 = .ok (.iload 10, 2) := by decide +kernel
theorem dL_build_397 : decode cL_build 397 = .ok (.iconst 2, 1) := by decide +kernel
theorem dL_build_398 : decode cL_build 398 = .ok (.iadd, 1) := by decide +kernel
theorem dL_build_399 : decode cL_build 399 = .ok (.bipush 10, 2) := by decide +kernel
theorem dL_build_401 : decode cL_build 401 = .ok (.bipush 10, 2) := by decide +kernel
theorem dL_build_403 : decode cL_build 403 = .ok (.iload 9, 2) := by decide +kernel
theorem dL_build_405 : decode cL_build 405 = .ok (.iconst 4, 1) := by decide +kernel
theorem dL_build_406 : decode cL_build 406 = .ok (.ishr, 1) := by decide +kernel
theorem dL_build_407 : decode cL_build 407 = .ok (.bipush 25, 2) := by decide +kernel
theorem dL_build_409 : decode cL_build 409 = .ok (.invokestatic 15, 3) := by decide +kernel
theorem dL_build_412 : decode cL_build 412 = .ok (.imul, 1) := by decide +kernel
theorem dL_build_413 : decode cL_build 413 = .ok (.iadd, 1) := by decide +kernel
theorem dL_build_414 : decode cL_build 414 = .ok (.iastore, 1) := by decide +kernel
theorem dL_build_415 : decode cL_build 415 = .ok (.aload 5, 2) := by decide +kernel
theorem dL_build_417 : decode cL_build 417 = .ok (.iload 10, 2) := by decide +kernel
theorem dL_build_419 : decode cL_build 419 = .ok (.iconst 3, 1) := by decide +kernel
theorem dL_build_420 : decode cL_build 420 = .ok (.iadd, 1) := by decide +kernel
theorem dL_build_421 : decode cL_build 421 = .ok (.iload 9, 2) := by decide +kernel
theorem dL_build_423 : decode cL_build 423 = .ok (.bipush 6, 2) := by decide +kernel
theorem dL_build_425 : decode cL_build 425 = .ok (.ishr, 1) := by decide +kernel
theorem dL_build_426 : decode cL_build 426 = .ok (.bipush 40, 2) := by decide +kernel
theorem dL_build_428 : decode cL_build 428 = .ok (.invokestatic 15, 3) := by decide +kernel
theorem dL_build_431 : decode cL_build 431 = .ok (.iastore, 1) := by decide +kernel
theorem dL_build_432 : decode cL_build 432 = .ok (.aload 5, 2) := by decide +kernel
theorem dL_build_434 : decode cL_build 434 = .ok (.iload 10, 2) := by decide +kernel
theorem dL_build_436 : decode cL_build 436 = .ok (.iconst 5, 1) := by decide +kernel
theorem dL_build_437 : decode cL_build 437 = .ok (.iadd, 1) := by decide +kernel
theorem dL_build_438 : decode cL_build 438 = .ok (.aload 5, 2) := by decide +kernel
theorem dL_build_440 : decode cL_build 440 = .ok (.iload 10, 2) := by decide +kernel
theorem dL_build_442 : decode cL_build 442 = .ok (.iconst 2, 1) := by decide +kernel
theorem dL_build_443 : decode cL_build 443 = .ok (.iadd, 1) := by decide +kernel
theorem dL_build_444 : decode cL_build 444 = .ok (.iaload, 1) := by decide +kernel
theorem dL_build_445 : decode cL_build 445 = .ok (.iconst 2, 1) := by decide +kernel
theorem dL_build_446 : decode cL_build 446 = .ok (.idiv, 1) := by decide +kernel
theorem dL_build_447 : decode cL_build 447 = .ok (.iastore, 1) := by decide +kernel
theorem dL_build_448 : decode cL_build 448 = .ok (.aload_n 0, 1) := by decide +kernel
theorem dL_build_449 : decode cL_build 449 = .ok (.aload 5, 2) := by decide +kernel
theorem dL_build_451 : decode cL_build 451 = .ok (.iload 10, 2) := by decide +kernel
theorem dL_build_453 : decode cL_build 453 = .ok (.iaload, 1) := by decide +kernel
theorem dL_build_454 : decode cL_build 454 = .ok (.aload 5, 2) := by decide +kernel
theorem dL_build_456 : decode cL_build 456 = .ok (.iload 10, 2) := by decide +kernel
theorem dL_build_458 : decode cL_build 458 = .ok (.iconst 1, 1) := by decide +kernel
theorem dL_build_459 : decode cL_build 459 = .ok (.iadd, 1) := by decide +kernel
theorem dL_build_460 : decode cL_build 460 = .ok (.iaload, 1) := by decide +kernel
theorem dL_build_461 : decode cL_build 461 = .ok (.aload 5, 2) := by decide +kernel
theorem dL_build_463 : decode cL_build 463 = .ok (.iload 10, 2) := by decide +kernel
theorem dL_build_465 : decode cL_build 465 = .ok (.iconst 2, 1) := by decide +kernel
theorem dL_build_466 : decode cL_build 466 = .ok (.iadd, 1) := by decide +kernel
theorem dL_build_467 : decode cL_build 467 = .ok (.iaload, 1) := by decide +kernel
theorem dL_build_468 : decode cL_build 468 = .ok (.aload 5, 2) := by decide +kernel
theorem dL_build_470 : decode cL_build 470 = .ok (.iload 10, 2) := by decide +kernel
theorem dL_build_472 : decode cL_build 472 = .ok (.iconst 3, 1) := by decide +kernel
theorem dL_build_473 : decode cL_build 473 = .ok (.iadd, 1) := by decide +kernel
theorem dL_build_474 : decode cL_build 474 = .ok (.iaload, 1) := by decide +kernel
theorem dL_build_475 : decode cL_build 475 = .ok (.invokevirtual 33, 3) := by decide +kernel
theorem dL_build_478 : decode cL_build 478 = .ok (.iload 8, 2) := by decide +kernel
theorem dL_build_480 : decode cL_build 480 = .ok (.if_icmp .eq 5, 3) := by decide +kernel
theorem dL_build_483 : decode cL_build 483 = .ok (.aconst_null, 1) := by decide +kernel
theorem dL_build_484 : decode cL_build 484 = .ok (.areturn, 1) := by decide +kernel
theorem dL_build_485 : decode cL_build 485 = .ok (.iload 9, 2) := by decide +kernel
theorem dL_build_487 : decode cL_build 487 = .ok (.bipush 8, 2) := by decide +kernel
theorem dL_build_489 : decode cL_build 489 = .ok (.ishr, 1) := by decide +kernel
theorem dL_build_490 : decode cL_build 490 = .ok (.bipush 6, 2) := by decide +kernel
theorem dL_build_492 : decode cL_build 492 = .ok (.invokestatic 15, 3) := by decide +kernel
theorem dL_build_495 : decode cL_build 495 = .ok (.ifCond .le 6, 3) := by decide +kernel
theorem dL_build_498 : decode cL_build 498 = .ok (.goto 23, 3) := by decide +kernel
theorem dL_build_501 : decode cL_build 501 = .ok (.aload_n 0, 1) := by decide +kernel
theorem dL_build_502 : decode cL_build 502 = .ok (.iload 8, 2) := by decide +kernel
theorem dL_build_504 : decode cL_build 504 = .ok (.invokevirtual 37, 3) := by decide +kernel
theorem dL_build_507 : decode cL_build 507 = .ok (.ifCond .ne 5, 3) := by decide +kernel
theorem dL_build_510 : decode cL_build 510 = .ok (.aconst_null, 1) := by decide +kernel
theorem dL_build_511 : decode cL_build 511 = .ok (.areturn, 1) := by decide +kernel
theorem dL_build_512 : decode cL_build 512 = .ok (.aload 5, 2) := by decide +kernel
theorem dL_build_514 : decode cL_build 514 = .ok (.iload 10, 2) := by decide +kernel
theorem dL_build_516 : decode cL_build 516 = .ok (.bipush 9, 2) := by decide +kernel
theorem dL_build_518 : decode cL_build 518 = .ok (.iadd, 1) := by decide +kernel
theorem dL_build_519 : decode cL_build 519 = .ok (.iconst 1, 1) := by decide +kernel
theorem dL_build_520 : decode cL_build 520 = .ok (.iastore, 1) := by decide +kernel
theorem dL_build_521 : decode cL_build 521 = .ok (.iinc 8 1, 3) := by decide +kernel
theorem dL_build_524 : decode cL_build 524 = .ok (.goto (-214), 3) := by decide +kernel
theorem dL_build_527 : decode cL_build 527 = .ok (.iconst 2, 1) := by decide +kernel
theorem dL_build_528 : decode cL_build 528 = .ok (.newarray .int, 2) := by decide +kernel
theorem dL_build_530 : decode cL_build 530 = .ok (.dup, 1) := by decide +kernel
theorem dL_build_531 : decode cL_build 531 = .ok (.iconst 0, 1) := by decide +kernel
theorem dL_build_532 : decode cL_build 532 = .ok (.iload 6, 2) := by decide +kernel
theorem dL_build_534 : decode cL_build 534 = .ok (.iastore, 1) := by decide +kernel
theorem dL_build_535 : decode cL_build 535 = .ok (.dup, 1) := by decide +kernel
theorem dL_build_536 : decode cL_build 536 = .ok (.iconst 1, 1) := by decide +kernel
theorem dL_build_537 : decode cL_build 537 = .ok (.iload 7, 2) := by decide +kernel
theorem dL_build_539 : decode cL_build 539 = .ok (.iastore, 1) := by decide +kernel
theorem dL_build_540 : decode cL_build 540 = .ok (.areturn, 1) := by decide +kernel
set_option maxRecDepth 20000 in
theorem ggL_law_X3_init : GoodIn wsL_law wsX3_init := goodIn_r _ [14, 15, 16, 17, 18, 19, 20, 21, 22, 23, 24, 25, 4, 26, 27, 28, 29, 3, 30, 31, 32, 33, 34, 35, 36, 37, 38, 39, 40, 41, 42, 43, 44, 45, 46, 47, 48, 49, 50, 51, 52, 53, 54, 350, 351, 352, 342, 343, 344, 345, 346, 347, 348, 349, 353, 354, 355] (by decide +kernel) (by decide +kernel)
set_option maxRecDepth 20000 in
theorem gL_law_X3_init : GoodIn wsL_law (wsX3_init) := ggL_law_X3_init
set_option maxRecDepth 20000 in
theorem ggL_law_L_build : GoodIn wsL_law wsL_build := goodIn_ca (goodIn_ca (goodIn_ca (goodIn_r _ [58, 3, 59, 60, 57, 61, 62, 63, 64, 65, 66, 67, 68, 69, 2, 70, 71, 72, 21, 73, 74, 75, 20, 76, 39, 77, 78, 79, 80, 81, 82, 83, 84, 85, 86, 87, 88, 89, 90, 91, 92, 93, 94, 95, 96, 37, 97, 98, 99, 100, 101, 102, 103, 104, 105, 106, 107, 108, 109, 110, 111, 112, 38, 113, 114, 115, 116, 117, 118, 119, 120, 121, 122, 123, 124, 125, 25, 126, 127, 128, 32, 129, 130, 131, 24, 132, 133, 134, 135, 136, 137, 16, 17, 138, 139, 140, 141, 142, 143, 144, 145, 146, 147, 148, 149, 150, 151, 152, 153, 44, 154, 155, 156, 157, 158, 159, 160, 161, 162, 163, 164, 165, 43, 166, 10, 7, 11, 167, 168, 169, 170, 171, 172, 173, 174, 175, 176, 177, 178, 179, 180, 181, 182, 183, 184, 185, 186, 187, 188, 189, 190, 6, 8, 191, 192, 193, 194, 195, 196, 197, 198, 199, 200, 201, 202, 203, 204, 205, 206, 207, 208, 209, 210, 211, 212, 213, 214, 215, 216, 217, 218, 219, 342, 343, 344, 345, 346, 347, 348, 349, 350, 351, 352, 356, 357, 358, 359, 360, 361, 362, 363, 364, 365, 353, 354, 355] (by decide +kernel) (by decide +kernel)) (goodIn_sub (fun _ h => List.mem_append_left _ (List.mem_append_left _ (List.mem_append_right _ h))) (by decide +kernel))) (goodIn_sub (fun _ h => List.mem_append_left _ (List.mem_append_right _ h)) (by decide +kernel))) (goodIn_sub (fun _ h => List.mem_append_right _ h) (by decide +kernel))
set_option maxRecDepth 20000 in
theorem gL_law_L_build : GoodIn wsL_law (va_wsS RL 56 yL_build wsL_build) := goodIn_app (goodIn_of _ (by decide +kernel)) ggL_law_L_build
set_option maxRecDepth 20000 in
theorem ggL_law_L_cell : GoodIn wsL_law wsL_cell := goodIn_r _ [61, 62] (by decide +kernel) (by decide +kernel)
set_option maxRecDepth 20000 in
theorem gL_law_L_cell : GoodIn wsL_law (va_wsS RL 9 yL_cell wsL_cell) := goodIn_app (goodIn_of _ (by decide +kernel)) ggL_law_L_cell
set_option maxRecDepth 20000 in
theorem ggL_law_L_below : GoodIn wsL_law wsL_below := goodIn_r _ [65, 66] (by decide +kernel) (by decide +kernel)
set_option maxRecDepth 20000 in
theorem gL_law_L_below : GoodIn wsL_law (va_wsS RL 15 yL_below wsL_below) := goodIn_app (goodIn_of _ (by decide +kernel)) ggL_law_L_below
set_option maxRecDepth 20000 in
theorem ggL_law_X3_pass : GoodIn wsL_law wsX3_pass := goodIn_ca (goodIn_ca (goodIn_r _ [223, 71, 72, 32, 89, 90, 91, 2, 92, 81, 82, 224, 225, 226, 227, 25, 199, 29, 129, 130, 131, 24, 132, 133, 204, 205, 206, 207, 208, 209, 210, 211, 212, 213, 214, 215, 216, 217, 218, 219, 44, 228, 229, 230, 128, 231, 142, 141, 140, 232, 10, 7, 11, 145, 342, 343, 344, 345, 346, 347, 348, 349, 356, 357, 358, 359, 360, 361, 362, 363, 364, 365, 353, 354, 355] (by decide +kernel) (by decide +kernel)) (goodIn_sub (fun _ h => List.mem_append_left _ (List.mem_append_left _ (List.mem_append_right _ h))) (by decide +kernel))) (goodIn_sub (fun _ h => List.mem_append_left _ (List.mem_append_right _ h)) (by decide +kernel))
set_option maxRecDepth 20000 in
theorem gL_law_X3_pass : GoodIn wsL_law (wsV RL 60 RX3 yX3_pass wsX3_pass) := goodIn_app (goodIn_of _ (by decide +kernel)) ggL_law_X3_pass
set_option maxRecDepth 20000 in
theorem ggL_law_X3_planSize : GoodIn wsL_law wsX3_planSize := goodIn_ca (goodIn_r _ [236, 31, 105, 106, 107, 2, 108, 87, 88, 237, 238, 239, 240, 25, 199, 32, 30, 241, 242, 243, 244, 26, 129, 130, 131, 24, 132, 133, 204, 205, 206, 207, 208, 209, 210, 211, 212, 213, 214, 215, 216, 217, 218, 219, 44, 245, 246, 247, 128, 248, 140, 249, 250, 251, 252, 143, 144, 253, 6, 7, 8, 254, 255, 256, 257, 258, 259, 260, 261, 21, 93, 94, 95, 20, 96, 37, 342, 343, 344, 345, 346, 347, 348, 349, 356, 357, 358, 359, 360, 361, 362, 363, 364, 365, 353, 354, 355, 350, 351, 352] (by decide +kernel) (by decide +kernel)) (goodIn_sub (fun _ h => List.mem_append_right _ h) (by decide +kernel))
set_option maxRecDepth 20000 in
theorem gL_law_X3_planSize : GoodIn wsL_law (wsV RL 64 RX3 yX3_planSize wsX3_planSize) := goodIn_app (goodIn_of _ (by decide +kernel)) ggL_law_X3_planSize
set_option maxRecDepth 20000 in
theorem ggL_law_X3_planned : GoodIn wsL_law wsX3_planned := goodIn_ca (goodIn_r _ [265, 87, 88, 31, 30, 105, 106, 107, 2, 108, 237, 238, 239, 240, 25, 199, 32, 241, 242, 243, 244, 26, 129, 130, 131, 24, 132, 133, 204, 205, 206, 207, 208, 209, 210, 211, 212, 213, 214, 215, 216, 217, 218, 219, 44, 245, 246, 247, 128, 248, 140, 249, 250, 251, 252, 143, 144, 253, 6, 7, 8, 254, 255, 256, 257, 258, 259, 260, 261, 21, 93, 94, 95, 20, 96, 37, 342, 343, 344, 345, 346, 347, 348, 349, 356, 357, 358, 359, 360, 361, 362, 363, 364, 365, 353, 354, 355, 350, 351, 352] (by decide +kernel) (by decide +kernel)) (goodIn_sub (fun _ h => List.mem_append_right _ h) (by decide +kernel))
set_option maxRecDepth 20000 in
theorem gL_law_X3_planned : GoodIn wsL_law (wsV RL 67 RX3 yX3_planned wsX3_planned) := goodIn_app (goodIn_of _ (by decide +kernel)) ggL_law_X3_planned
set_option maxRecDepth 20000 in
theorem ggL_law_X3_bin : GoodIn wsL_law wsX3_bin := goodIn_ca (goodIn_r _ [269, 87, 88, 25, 199, 200, 201, 202, 2, 203, 129, 130, 131, 24, 132, 133, 204, 205, 206, 207, 208, 209, 210, 211, 212, 213, 214, 215, 216, 217, 218, 219, 44, 270, 271, 272, 128, 273, 138, 139, 142, 143, 144, 145, 146, 147, 342, 343, 344, 345, 346, 347, 348, 349, 353, 354, 355, 356, 357, 358, 359, 360, 361, 362, 363, 364, 365] (by decide +kernel) (by decide +kernel)) (goodIn_sub (fun _ h => List.mem_append_right _ h) (by decide +kernel))
set_option maxRecDepth 20000 in
theorem gL_law_X3_bin : GoodIn wsL_law (wsV RL 70 RX3 yX3_bin wsX3_bin) := goodIn_app (goodIn_of _ (by decide +kernel)) ggL_law_X3_bin
set_option maxRecDepth 20000 in
theorem ggL_law_X3_total : GoodIn wsL_law wsX3_total := goodIn_ca (goodIn_r _ [277, 87, 88, 28, 105, 106, 107, 2, 108, 342, 343, 344, 345, 346, 347, 348, 349] (by decide +kernel) (by decide +kernel)) (goodIn_sub (fun _ h => List.mem_append_right _ h) (by decide +kernel))
set_option maxRecDepth 20000 in
theorem gL_law_X3_total : GoodIn wsL_law (wsV RL 73 RX3 yX3_total wsX3_total) := goodIn_app (goodIn_of _ (by decide +kernel)) ggL_law_X3_total
set_option maxRecDepth 20000 in
theorem ggL_law_X3_collect : GoodIn wsL_law wsX3_collect := goodIn_ca (goodIn_ca (goodIn_ca (goodIn_r _ [281, 31, 105, 106, 107, 2, 108, 87, 88, 89, 90, 91, 92, 81, 82, 282, 283, 284, 285, 71, 72, 26, 32, 237, 238, 239, 240, 25, 199, 30, 241, 242, 243, 244, 129, 130, 131, 24, 132, 133, 204, 205, 206, 207, 208, 209, 210, 211, 212, 213, 214, 215, 216, 217, 218, 219, 44, 245, 246, 247, 128, 248, 140, 249, 250, 251, 252, 143, 144, 253, 6, 7, 8, 254, 255, 256, 257, 258, 259, 260, 261, 21, 93, 94, 95, 20, 96, 37, 286, 287, 288, 289, 290, 291, 292, 28, 293, 294, 295, 296, 16, 17, 297, 298, 299, 300, 301, 302, 303, 304, 305, 306, 307, 308, 309, 310, 311, 312, 313, 314, 315, 316, 317, 318, 319, 320, 321, 322, 39, 323, 117, 110, 111, 112, 38, 324, 325, 326, 327, 328, 147, 146, 142, 329, 330, 331, 332, 342, 343, 344, 345, 346, 347, 348, 349, 356, 357, 358, 359, 360, 361, 362, 363, 364, 365, 353, 354, 355, 350, 351, 352, 366, 367, 368, 369, 370, 371, 372, 373] (by decide +kernel) (by decide +kernel)) (goodIn_sub (fun _ h => List.mem_append_right _ h) (by decide +kernel))) (goodIn_sub (fun _ h => List.mem_append_left _ (List.mem_append_right _ h)) (by decide +kernel))) (goodIn_sub (fun _ h => List.mem_append_left _ (List.mem_append_left _ (List.mem_append_right _ h))) (by decide +kernel))
set_option maxRecDepth 20000 in
theorem gL_law_X3_collect : GoodIn wsL_law (wsV RL 77 RX3 yX3_collect wsX3_collect) := goodIn_app (goodIn_of _ (by decide +kernel)) ggL_law_X3_collect
set_option maxRecDepth 20000 in
theorem ggL_law_X3_today : GoodIn wsL_law wsX3_today := goodIn_r _ [336, 32, 342, 343, 344, 345, 346, 347, 348, 349] (by decide +kernel) (by decide +kernel)
set_option maxRecDepth 20000 in
theorem gL_law_X3_today : GoodIn wsL_law (wsV RL 80 RX3 yX3_today wsX3_today) := goodIn_app (goodIn_of _ (by decide +kernel)) ggL_law_X3_today
set_option maxRecDepth 20000 in
theorem ggL_law_X3_expected : GoodIn wsL_law wsX3_expected := goodIn_ca (goodIn_ca (goodIn_r _ [340, 32, 25, 199, 200, 201, 202, 2, 203, 87, 88, 129, 130, 131, 24, 132, 133, 89, 90, 91, 92, 81, 82, 204, 205, 206, 207, 208, 209, 210, 211, 212, 213, 214, 215, 216, 217, 218, 219, 44, 341, 250, 251, 128, 252, 140, 143, 144, 253, 6, 7, 8, 342, 343, 344, 345, 346, 347, 348, 349, 353, 354, 355, 356, 357, 358, 359, 360, 361, 362, 363, 364, 365] (by decide +kernel) (by decide +kernel)) (goodIn_sub (fun _ h => List.mem_append_right _ h) (by decide +kernel))) (goodIn_sub (fun _ h => List.mem_append_left _ (List.mem_append_right _ h)) (by decide +kernel))
set_option maxRecDepth 20000 in
theorem gL_law_X3_expected : GoodIn wsL_law (wsV RL 91 RX3 yX3_expected wsX3_expected) := goodIn_app (goodIn_of _ (by decide +kernel)) ggL_law_X3_expected
theorem dL_law_0 : decode cL_law 0 = .ok (.new 20, 3) := by decide +kernel
theorem dL_law_3 : decode cL_law 3 = .ok (.dup, 1) := by decide +kernel
theorem dL_law_4 : decode cL_law 4 = .ok (.invokespecial 55, 3) := by decide +kernel
theorem dL_law_7 : decode cL_law 7 = .ok (.astore_n 1, 1) := by decide +kernel
theorem dL_law_8 : decode cL_law 8 = .ok (.sipush 160, 3) := by decide +kernel
theorem dL_law_11 : decode cL_law 11 = .ok (.newarray .int, 2) := by decide +kernel
theorem dL_law_13 : decode cL_law 13 = .ok (.astore_n 2, 1) := by decide +kernel
theorem dL_law_14 : decode cL_law 14 = .ok (.aload_n 1, 1) := by decide +kernel
theorem dL_law_15 : decode cL_law 15 = .ok (.aload_n 0, 1) := by decide +kernel
theorem dL_law_16 : decode cL_law 16 = .ok (.iconst 0, 1) := by decide +kernel
theorem dL_law_17 : decode cL_law 17 = .ok (.bipush 100, 2) := by decide +kernel
theorem dL_law_19 : decode cL_law 19 = .ok (.newarray .int, 2) := by decide +kernel
theorem dL_law_21 : decode cL_law 21 = .ok (.bipush 10, 2) := by decide +kernel
theorem dL_law_23 : decode cL_law 23 = .ok (.newarray .int, 2) := by decide +kernel
theorem dL_law_25 : decode cL_law 25 = .ok (.aload_n 2, 1) := by decide +kernel
theorem dL_law_26 : decode cL_law 26 = .ok (.invokestatic 56, 3) := by decide +kernel
theorem dL_law_29 : decode cL_law 29 = .ok (.astore_n 3, 1) := by decide +kernel
theorem dL_law_30 : decode cL_law 30 = .ok (.aload_n 3, 1) := by decide +kernel
theorem dL_law_31 : decode cL_law 31 = .ok (.ifnonnull 5, 3) := by decide +kernel
theorem dL_law_34 : decode cL_law 34 = .ok (.iconst 0, 1) := by decide +kernel
theorem dL_law_35 : decode cL_law 35 = .ok (.ireturn, 1) := by decide +kernel
theorem dL_law_36 : decode cL_law 36 = .ok (.aload_n 3, 1) := by decide +kernel
theorem dL_law_37 : decode cL_law 37 = .ok (.iconst 1, 1) := by decide +kernel
theorem dL_law_38 : decode cL_law 38 = .ok (.iaload, 1) := by decide +kernel
theorem dL_law_39 : decode cL_law 39 = .ok (.istore 4, 2) := by decide +kernel
theorem dL_law_41 : decode cL_law 41 = .ok (.iconst 0, 1) := by decide +kernel
theorem dL_law_42 : decode cL_law 42 = .ok (.istore 5, 2) := by decide +kernel
theorem dL_law_44 : decode cL_law 44 = .ok (.iload 5, 2) := by decide +kernel
theorem dL_law_46 : decode cL_law 46 = .ok (.bipush 8, 2) := by decide +kernel
theorem dL_law_48 : decode cL_law 48 = .ok (.if_icmp .ge 635, 3) := by decide +kernel
theorem dL_law_51 : decode cL_law 51 = .ok (.aload_n 0, 1) := by decide +kernel
theorem dL_law_52 : decode cL_law 52 = .ok (.bipush 10, 2) := by decide +kernel
theorem dL_law_54 : decode cL_law 54 = .ok (.iload 5, 2) := by decide +kernel
theorem dL_law_56 : decode cL_law 56 = .ok (.iadd, 1) := by decide +kernel
theorem dL_law_57 : decode cL_law 57 = .ok (.invokestatic 9, 3) := by decide +kernel
theorem dL_law_60 : decode cL_law 60 = .ok (.istore 6, 2) := by decide +kernel
theorem dL_law_62 : decode cL_law 62 = .ok (.aload_n 1, 1) := by decide +kernel
theorem dL_law_63 : decode cL_law 63 = .ok (.iconst 1, 1) := by decide +kernel
theorem dL_law_64 : decode cL_law 64 = .ok (.iload 6, 2) := by decide +kernel
theorem dL_law_66 : decode cL_law 66 = .ok (.bipush 30, 2) := by decide +kernel
theorem dL_law_68 : decode cL_law 68 = .ok (.invokestatic 15, 3) := by decide +kernel
theorem dL_law_71 : decode cL_law 71 = .ok (.iadd, 1) := by decide +kernel
theorem dL_law_72 : decode cL_law 72 = .ok (.invokevirtual 60, 3) := by decide +kernel
theorem dL_law_75 : decode cL_law 75 = .ok (.pop, 1) := by decide +kernel
theorem dL_law_76 : decode cL_law 76 = .ok (.iload 6, 2) := by decide +kernel
theorem dL_law_78 : decode cL_law 78 = .ok (.iconst 5, 1) := by decide +kernel
theorem dL_law_79 : decode cL_law 79 = .ok (.ishr, 1) := by decide +kernel
theorem dL_law_80 : decode cL_law 80 = .ok (.iconst 3, 1) := by decide +kernel
theorem dL_law_81 : decode cL_law 81 = .ok (.invokestatic 15, 3) := by decide +kernel
theorem dL_law_84 : decode cL_law 84 = .ok (.istore 7, 2) := by decide +kernel
theorem dL_law_86 : decode cL_law 86 = .ok (.aload_n 1, 1) := by decide +kernel
theorem dL_law_87 : decode cL_law 87 = .ok (.iload 7, 2) := by decide +kernel
theorem dL_law_89 : decode cL_law 89 = .ok (.invokevirtual 64, 3) := by decide +kernel
theorem dL_law_92 : decode cL_law 92 = .ok (.istore 8, 2) := by decide +kernel
theorem dL_law_94 : decode cL_law 94 = .ok (.iload 8, 2) := by decide +kernel
theorem dL_law_96 : decode cL_law 96 = .ok (.newarray .int, 2) := by decide +kernel
theorem dL_law_98 : decode cL_law 98 = .ok (.astore 9, 2) := by decide +kernel
theorem dL_law_100 : decode cL_law 100 = .ok (.iload 8, 2) := by decide +kernel
theorem dL_law_102 : decode cL_law 102 = .ok (.newarray .int, 2) := by decide +kernel
theorem dL_law_104 : decode cL_law 104 = .ok (.astore 10, 2) := by decide +kernel
theorem dL_law_106 : decode cL_law 106 = .ok (.iload 8, 2) := by decide +kernel
theorem dL_law_108 : decode cL_law 108 = .ok (.newarray .int, 2) := by decide +kernel
theorem dL_law_110 : decode cL_law 110 = .ok (.astore 11, 2) := by decide +kernel
theorem dL_law_112 : decode cL_law 112 = .ok (.iload 8, 2) := by decide +kernel
theorem dL_law_114 : decode cL_law 114 = .ok (.newarray .int, 2) := by decide +kernel
theorem dL_law_116 : decode cL_law 116 = .ok (.astore 12, 2) := by decide +kernel
theorem dL_law_118 : decode cL_law 118 = .ok (.iload 8, 2) := by decide +kernel
theorem dL_law_120 : decode cL_law 120 = .ok (.newarray .int, 2) := by decide +kernel
theorem dL_law_122 : decode cL_law 122 = .ok (.astore 13, 2) := by decide +kernel
theorem dL_law_124 : decode cL_law 124 = .ok (.iload 8, 2) := by decide +kernel
theorem dL_law_126 : decode cL_law 126 = .ok (.newarray .boolean, 2) := by decide +kernel
theorem dL_law_128 : decode cL_law 128 = .ok (.astore 14, 2) := by decide +kernel
theorem dL_law_130 : decode cL_law 130 = .ok (.iconst 0, 1) := by decide +kernel
theorem dL_law_131 : decode cL_law 131 = .ok (.istore 15, 2) := by decide +kernel
theorem dL_law_133 : decode cL_law 133 = .ok (.iload 15, 2) := by decide +kernel
theorem dL_law_135 : decode cL_law 135 = .ok (.iload 8, 2) := by decide +kernel
theorem dL_law_137 : decode cL_law 137 = .ok (.if_icmp .ge 108, 3) := by decide +kernel
theorem dL_law_140 : decode cL_law 140 = .ok (.aload 9, 2) := by decide +kernel
theorem dL_law_142 : decode cL_law 142 = .ok (.iload 15, 2) := by decide +kernel
theorem dL_law_144 : decode cL_law 144 = .ok (.aload_n 1, 1) := by decide +kernel
theorem dL_law_145 : decode cL_law 145 = .ok (.iload 7, 2) := by decide +kernel
theorem dL_law_147 : decode cL_law 147 = .ok (.iload 15, 2) := by decide +kernel
theorem dL_law_149 : decode cL_law 149 = .ok (.invokevirtual 67, 3) := by decide +kernel
theorem dL_law_152 : decode cL_law 152 = .ok (.iastore, 1) := by decide +kernel
theorem dL_law_153 : decode cL_law 153 = .ok (.aload 10, 2) := by decide +kernel
theorem dL_law_155 : decode cL_law 155 = .ok (.iload 15, 2) := by decide +kernel
theorem dL_law_157 : decode cL_law 157 = .ok (.aload_n 1, 1) := by decide +kernel
theorem dL_law_158 : decode cL_law 158 = .ok (.aload 9, 2) := by decide +kernel
theorem dL_law_160 : decode cL_law 160 = .ok (.iload 15, 2) := by decide +kernel
theorem dL_law_162 : decode cL_law 162 = .ok (.iaload, 1) := by decide +kernel
theorem dL_law_163 : decode cL_law 163 = .ok (.iconst 2, 1) := by decide +kernel
theorem dL_law_164 : decode cL_law 164 = .ok (.invokevirtual 70, 3) := by decide +kernel
theorem dL_law_167 : decode cL_law 167 = .ok (.iastore, 1) := by decide +kernel
theorem dL_law_168 : decode cL_law 168 = .ok (.aload 11, 2) := by decide +kernel
theorem dL_law_170 : decode cL_law 170 = .ok (.iload 15, 2) := by decide +kernel
theorem dL_law_172 : decode cL_law 172 = .ok (.aload_n 1, 1) := by decide +kernel
theorem dL_law_173 : decode cL_law 173 = .ok (.aload 9, 2) := by decide +kernel
theorem dL_law_175 : decode cL_law 175 = .ok (.iload 15, 2) := by decide +kernel
theorem dL_law_177 : decode cL_law 177 = .ok (.iaload, 1) := by decide +kernel
theorem dL_law_178 : decode cL_law 178 = .ok (.iconst 3, 1) := by decide +kernel
theorem dL_law_179 : decode cL_law 179 = .ok (.invokevirtual 70, 3) := by decide +kernel
theorem dL_law_182 : decode cL_law 182 = .ok (.iastore, 1) := by decide +kernel
theorem dL_law_183 : decode cL_law 183 = .ok (.aload 12, 2) := by decide +kernel
theorem dL_law_185 : decode cL_law 185 = .ok (.iload 15, 2) := by decide +kernel
theorem dL_law_187 : decode cL_law 187 = .ok (.aload_n 1, 1) := by decide +kernel
theorem dL_law_188 : decode cL_law 188 = .ok (.aload 9, 2) := by decide +kernel
theorem dL_law_190 : decode cL_law 190 = .ok (.iload 15, 2) := by decide +kernel
theorem dL_law_192 : decode cL_law 192 = .ok (.iaload, 1) := by decide +kernel
theorem dL_law_193 : decode cL_law 193 = .ok (.iconst 4, 1) := by decide +kernel
theorem dL_law_194 : decode cL_law 194 = .ok (.invokevirtual 70, 3) := by decide +kernel
theorem dL_law_197 : decode cL_law 197 = .ok (.iastore, 1) := by decide +kernel
theorem dL_law_198 : decode cL_law 198 = .ok (.aload 13, 2) := by decide +kernel
theorem dL_law_200 : decode cL_law 200 = .ok (.iload 15, 2) := by decide +kernel
theorem dL_law_202 : decode cL_law 202 = .ok (.aload_n 1, 1) := by decide +kernel
theorem dL_law_203 : decode cL_law 203 = .ok (.aload 9, 2) := by decide +kernel
theorem dL_law_205 : decode cL_law 205 = .ok (.iload 15, 2) := by decide +kernel
theorem dL_law_207 : decode cL_law 207 = .ok (.iaload, 1) := by decide +kernel
theorem dL_law_208 : decode cL_law 208 = .ok (.bipush 6, 2) := by decide +kernel
theorem dL_law_210 : decode cL_law 210 = .ok (.invokevirtual 70, 3) := by decide +kernel
theorem dL_law_213 : decode cL_law 213 = .ok (.iastore, 1) := by decide +kernel
theorem dL_law_214 : decode cL_law 214 = .ok (.aload 14, 2) := by decide +kernel
theorem dL_law_216 : decode cL_law 216 = .ok (.iload 15, 2) := by decide +kernel
theorem dL_law_218 : decode cL_law 218 = .ok (.aload_n 1, 1) := by decide +kernel
theorem dL_law_219 : decode cL_law 219 = .ok (.aload 9, 2) := by decide +kernel
theorem dL_law_221 : decode cL_law 221 = .ok (.iload 15, 2) := by decide +kernel
theorem dL_law_223 : decode cL_law 223 = .ok (.iaload, 1) := by decide +kernel
theorem dL_law_224 : decode cL_law 224 = .ok (.bipush 7, 2) := by decide +kernel
theorem dL_law_226 : decode cL_law 226 = .ok (.invokevirtual 70, 3) := by decide +kernel
theorem dL_law_229 : decode cL_law 229 = .ok (.iconst 1, 1) := by decide +kernel
theorem dL_law_230 : decode cL_law 230 = .ok (.if_icmp .ne 7, 3) := by decide +kernel
theorem dL_law_233 : decode cL_law 233 = .ok (.iconst 1, 1) := by decide +kernel
theorem dL_law_234 : decode cL_law 234 = .ok (.goto 4, 3) := by decide +kernel
theorem dL_law_237 : decode cL_law 237 = .ok (.iconst 0, 1) := by decide +kernel
theorem dL_law_238 : decode cL_law 238 = .ok (.bastore, 1) := by decide +kernel
theorem dL_law_239 : decode cL_law 239 = .ok (.iinc 15 1, 3) := by decide +kernel
theorem dL_law_242 : decode cL_law 242 = .ok (.goto (-109), 3) := by decide +kernel
theorem dL_law_245 : decode cL_law 245 = .ok (.aload_n 1, 1) := by decide +kernel
theorem dL_law_246 : decode cL_law 246 = .ok (.iload 7, 2) := by decide +kernel
theorem dL_law_248 : decode cL_law 248 = .ok (.iconst 0, 1) := by decide +kernel
theorem dL_law_249 : decode cL_law 249 = .ok (.invokevirtual 73, 3) := by decide +kernel
theorem dL_law_252 : decode cL_law 252 = .ok (.lstore 15, 2) := by decide +kernel
theorem dL_law_254 : decode cL_law 254 = .ok (.aload_n 1, 1) := by decide +kernel
theorem dL_law_255 : decode cL_law 255 = .ok (.iload 7, 2) := by decide +kernel
theorem dL_law_257 : decode cL_law 257 = .ok (.iconst 1, 1) := by decide +kernel
theorem dL_law_258 : decode cL_law 258 = .ok (.invokevirtual 73, 3) := by decide +kernel
theorem dL_law_261 : decode cL_law 261 = .ok (.lstore 17, 2) := by decide +kernel
theorem dL_law_263 : decode cL_law 263 = .ok (.bipush 50, 2) := by decide +kernel
theorem dL_law_265 : decode cL_law 265 = .ok (.iload 6, 2) := by decide +kernel
theorem dL_law_267 : decode cL_law 267 = .ok (.bipush 7, 2) := by decide +kernel
theorem dL_law_269 : decode cL_law 269 = .ok (.ishr, 1) := by decide +kernel
theorem dL_law_270 : decode cL_law 270 = .ok (.sipush 500, 3) := by decide +kernel
theorem dL_law_273 : decode cL_law 273 = .ok (.invokestatic 15, 3) := by decide +kernel
theorem dL_law_276 : decode cL_law 276 = .ok (.iadd, 1) := by decide +kernel
theorem dL_law_277 : decode cL_law 277 = .ok (.istore 19, 2) := by decide +kernel
theorem dL_law_279 : decode cL_law 279 = .ok (.aload_n 1, 1) := by decide +kernel
theorem dL_law_280 : decode cL_law 280 = .ok (.iload 7, 2) := by decide +kernel
theorem dL_law_282 : decode cL_law 282 = .ok (.iload 19, 2) := by decide +kernel
theorem dL_law_284 : decode cL_law 284 = .ok (.invokevirtual 77, 3) := by decide +kernel
theorem dL_law_287 : decode cL_law 287 = .ok (.istore 20, 2) := by decide +kernel
theorem dL_law_289 : decode cL_law 289 = .ok (.iload 20, 2) := by decide +kernel
theorem dL_law_291 : decode cL_law 291 = .ok (.ifCond .le 7, 3) := by decide +kernel
theorem dL_law_294 : decode cL_law 294 = .ok (.iconst 1, 1) := by decide +kernel
theorem dL_law_295 : decode cL_law 295 = .ok (.goto 4, 3) := by decide +kernel
theorem dL_law_298 : decode cL_law 298 = .ok (.iconst 0, 1) := by decide +kernel
theorem dL_law_299 : decode cL_law 299 = .ok (.iload 8, 2) := by decide +kernel
theorem dL_law_301 : decode cL_law 301 = .ok (.ifCond .le 7, 3) := by decide +kernel
theorem dL_law_304 : decode cL_law 304 = .ok (.iconst 1, 1) := by decide +kernel
theorem dL_law_305 : decode cL_law 305 = .ok (.goto 4, 3) := by decide +kernel
theorem dL_law_308 : decode cL_law 308 = .ok (.iconst 0, 1) := by decide +kernel
theorem dL_law_309 : decode cL_law 309 = .ok (.if_icmp .eq 5, 3) := by decide +kernel
theorem dL_law_312 : decode cL_law 312 = .ok (.iconst 0, 1) := by decide +kernel
theorem dL_law_313 : decode cL_law 313 = .ok (.ireturn, 1) := by decide +kernel
theorem dL_law_314 : decode cL_law 314 = .ok (.iconst 0, 1) := by decide +kernel
theorem dL_law_315 : decode cL_law 315 = .ok (.istore 21, 2) := by decide +kernel
theorem dL_law_317 : decode cL_law 317 = .ok (.iconst 0, 1) := by decide +kernel
theorem dL_law_318 : decode cL_law 318 = .ok (.istore 22, 2) := by decide +kernel
theorem dL_law_320 : decode cL_law 320 = .ok (.iload 22, 2) := by decide +kernel
theorem dL_law_322 : decode cL_law 322 = .ok (.iload 8, 2) := by decide +kernel
theorem dL_law_324 : decode cL_law 324 = .ok (.if_icmp .ge 241, 3) := by decide +kernel
theorem dL_law_327 : decode cL_law 327 = .ok (.aload 14, 2) := by decide +kernel
theorem dL_law_329 : decode cL_law 329 = .ok (.iload 22, 2) := by decide +kernel
theorem dL_law_331 : decode cL_law 331 = .ok (.baload, 1) := by decide +kernel
theorem dL_law_332 : decode cL_law 332 = .ok (.ifCond .eq 80, 3) := by decide +kernel
theorem dL_law_335 : decode cL_law 335 = .ok (.aload_n 1, 1) := by decide +kernel
theorem dL_law_336 : decode cL_law 336 = .ok (.aload 9, 2) := by decide +kernel
theorem dL_law_338 : decode cL_law 338 = .ok (.iload 22, 2) := by decide +kernel
theorem dL_law_340 : decode cL_law 340 = .ok (.iaload, 1) := by decide +kernel
theorem dL_law_341 : decode cL_law 341 = .ok (.bipush 6, 2) := by decide +kernel
theorem dL_law_343 : decode cL_law 343 = .ok (.invokevirtual 70, 3) := by decide +kernel
theorem dL_law_346 : decode cL_law 346 = .ok (.aload 13, 2) := by decide +kernel
theorem dL_law_348 : decode cL_law 348 = .ok (.iload 22, 2) := by decide +kernel
theorem dL_law_350 : decode cL_law 350 = .ok (.iaload, 1) := by decide +kernel
theorem dL_law_351 : decode cL_law 351 = .ok (.iconst 1, 1) := by decide +kernel
theorem dL_law_352 : decode cL_law 352 = .ok (.iadd, 1) := by decide +kernel
theorem dL_law_353 : decode cL_law 353 = .ok (.if_icmp .ne 57, 3) := by decide +kernel
theorem dL_law_356 : decode cL_law 356 = .ok (.aload_n 1, 1) := by decide +kernel
theorem dL_law_357 : decode cL_law 357 = .ok (.aload 9, 2) := by decide +kernel
theorem dL_law_359 : decode cL_law 359 = .ok (.iload 22, 2) := by decide +kernel
theorem dL_law_361 : decode cL_law 361 = .ok (.iaload, 1) := by decide +kernel
theorem dL_law_362 : decode cL_law 362 = .ok (.iconst 2, 1) := by decide +kernel
theorem dL_law_363 : decode cL_law 363 = .ok (.invokevirtual 70, 3) := by decide +kernel
theorem dL_law_366 : decode cL_law 366 = .ok (.aload 10, 2) := by decide +kernel
theorem dL_law_368 : decode cL_law 368 = .ok (.iload 22, 2) := by decide +kernel
theorem dL_law_370 : decode cL_law 370 = .ok (.iaload, 1) := by decide +kernel
theorem dL_law_371 : decode cL_law 371 = .ok (.if_icmp .ne 39, 3) := by decide +kernel
theorem dL_law_374 : decode cL_law 374 = .ok (.aload_n 1, 1) := by decide +kernel
theorem dL_law_375 : decode cL_law 375 = .ok (.aload 9, 2) := by decide +kernel
theorem dL_law_377 : decode cL_law 377 = .ok (.iload 22, 2) := by decide +kernel
theorem dL_law_379 : decode cL_law 379 = .ok (.iaload, 1) := by decide +kernel
theorem dL_law_380 : decode cL_law 380 = .ok (.iconst 3, 1) := by decide +kernel
theorem dL_law_381 : decode cL_law 381 = .ok (.invokevirtual 70, 3) := by decide +kernel
theorem dL_law_384 : decode cL_law 384 = .ok (.aload 11, 2) := by decide +kernel
theorem dL_law_386 : decode cL_law 386 = .ok (.iload 22, 2) := by decide +kernel
theorem dL_law_388 : decode cL_law 388 = .ok (.iaload, 1) := by decide +kernel
theorem dL_law_389 : decode cL_law 389 = .ok (.if_icmp .ne 21, 3) := by decide +kernel
theorem dL_law_392 : decode cL_law 392 = .ok (.aload_n 1, 1) := by decide +kernel
theorem dL_law_393 : decode cL_law 393 = .ok (.aload 9, 2) := by decide +kernel
theorem dL_law_395 : decode cL_law 395 = .ok (.iload 22, 2) := by decide +kernel
theorem dL_law_397 : decode cL_law 397 = .ok (.iaload, 1) := by decide +kernel
theorem dL_law_398 : decode cL_law 398 = .ok (.iconst 4, 1) := by decide +kernel
theorem dL_law_399 : decode cL_law 399 = .ok (.invokevirtual 70, 3) := by decide +kernel
theorem dL_law_402 : decode cL_law 402 = .ok (.aload 12, 2) := by decide +kernel
theorem dL_law_404 : decode cL_law 404 = .ok (.iload 22, 2) := by decide +kernel
theorem dL_law_406 : decode cL_law 406 = .ok (.iaload, 1) := by decide +kernel
theorem dL_law_407 : decode cL_law 407 = .ok (.if_icmp .eq 152, 3) := by decide +kernel
theorem dL_law_410 : decode cL_law 410 = .ok (.iconst 0, 1) := by decide +kernel
theorem dL_law_411 : decode cL_law 411 = .ok (.ireturn, 1) := by decide +kernel
theorem dL_law_412 : decode cL_law 412 = .ok (.aload_n 1, 1) := by decide +kernel
theorem dL_law_413 : decode cL_law 413 = .ok (.invokevirtual 80, 3) := by decide +kernel
theorem dL_law_416 : decode cL_law 416 = .ok (.aload 12, 2) := by decide +kernel
theorem dL_law_418 : decode cL_law 418 = .ok (.iload 22, 2) := by decide +kernel
theorem dL_law_420 : decode cL_law 420 = .ok (.iaload, 1) := by decide +kernel
theorem dL_law_421 : decode cL_law 421 = .ok (.isub, 1) := by decide +kernel
theorem dL_law_422 : decode cL_law 422 = .ok (.istore 23, 2) := by decide +kernel
theorem dL_law_424 : decode cL_law 424 = .ok (.iload 23, 2) := by decide +kernel
theorem dL_law_426 : decode cL_law 426 = .ok (.ifCond .ne 11, 3) := by decide +kernel
theorem dL_law_429 : decode cL_law 429 = .ok (.aload 11, 2) := by decide +kernel
theorem dL_law_431 : decode cL_law 431 = .ok (.iload 22, 2) := by decide +kernel
theorem dL_law_433 : decode cL_law 433 = .ok (.iaload, 1) := by decide +kernel
theorem dL_law_434 : decode cL_law 434 = .ok (.goto 14, 3) := by decide +kernel
theorem dL_law_437 : decode cL_law 437 = .ok (.bipush 10, 2) := by decide +kernel
theorem dL_law_439 : decode cL_law 439 = .ok (.aload 10, 2) := by decide +kernel
theorem dL_law_441 : decode cL_law 441 = .ok (.iload 22, 2) := by decide +kernel
theorem dL_law_443 : decode cL_law 443 = .ok (.iaload, 1) := by decide +kernel
theorem dL_law_444 : decode cL_law 444 = .ok (.imul, 1) := by decide +kernel
theorem dL_law_445 : decode cL_law 445 = .ok (.iload 23, 2) := by decide +kernel
theorem dL_law_447 : decode cL_law 447 = .ok (.idiv, 1) := by decide +kernel
theorem dL_law_448 : decode cL_law 448 = .ok (.istore 24, 2) := by decide +kernel
theorem dL_law_450 : decode cL_law 450 = .ok (.aload_n 1, 1) := by decide +kernel
theorem dL_law_451 : decode cL_law 451 = .ok (.aload 9, 2) := by decide +kernel
theorem dL_law_453 : decode cL_law 453 = .ok (.iload 22, 2) := by decide +kernel
theorem dL_law_455 : decode cL_law 455 = .ok (.iaload, 1) := by decide +kernel
theorem dL_law_456 : decode cL_law 456 = .ok (.iconst 3, 1) := by decide +kernel
theorem dL_law_457 : decode cL_law 457 = .ok (.invokevirtual 70, 3) := by decide +kernel
theorem dL_law_460 : decode cL_law 460 = .ok (.istore 25, 2) := by decide +kernel
theorem dL_law_462 : decode cL_law 462 = .ok (.iload 25, 2) := by decide +kernel
theorem dL_law_464 : decode cL_law 464 = .ok (.aload 11, 2) := by decide +kernel
theorem dL_law_466 : decode cL_law 466 = .ok (.iload 22, 2) := by decide +kernel
theorem dL_law_468 : decode cL_law 468 = .ok (.iaload, 1) := by decide +kernel
theorem dL_law_469 : decode cL_law 469 = .ok (.iload 24, 2) := by decide +kernel
theorem dL_law_471 : decode cL_law 471 = .ok (.invokestatic 83, 3) := by decide +kernel
theorem dL_law_474 : decode cL_law 474 = .ok (.iconst 1, 1) := by decide +kernel
theorem dL_law_475 : decode cL_law 475 = .ok (.isub, 1) := by decide +kernel
theorem dL_law_476 : decode cL_law 476 = .ok (.if_icmp .lt 60, 3) := by decide +kernel
theorem dL_law_479 : decode cL_law 479 = .ok (.iload 25, 2) := by decide +kernel
theorem dL_law_481 : decode cL_law 481 = .ok (.aload 11, 2) := by decide +kernel
theorem dL_law_483 : decode cL_law 483 = .ok (.iload 22, 2) := by decide +kernel
theorem dL_law_485 : decode cL_law 485 = .ok (.iaload, 1) := by decide +kernel
theorem dL_law_486 : decode cL_law 486 = .ok (.iload 24, 2) := by decide +kernel
theorem dL_law_488 : decode cL_law 488 = .ok (.invokestatic 88, 3) := by decide +kernel
theorem dL_law_491 : decode cL_law 491 = .ok (.if_icmp .gt 45, 3) := by decide +kernel
theorem dL_law_494 : decode cL_law 494 = .ok (.aload_n 1, 1) := by decide +kernel
theorem dL_law_495 : decode cL_law 495 = .ok (.aload 9, 2) := by decide +kernel
theorem dL_law_497 : decode cL_law 497 = .ok (.iload 22, 2) := by decide +kernel
theorem dL_law_499 : decode cL_law 499 = .ok (.iaload, 1) := by decide +kernel
theorem dL_law_500 : decode cL_law 500 = .ok (.iconst 4, 1) := by decide +kernel
theorem dL_law_501 : decode cL_law 501 = .ok (.invokevirtual 70, 3) := by decide +kernel
theorem dL_law_504 : decode cL_law 504 = .ok (.aload_n 1, 1) := by decide +kernel
theorem dL_law_505 : decode cL_law 505 = .ok (.invokevirtual 80, 3) := by decide +kernel
theorem dL_law_508 : decode cL_law 508 = .ok (.if_icmp .ne 28, 3) := by decide +kernel
theorem dL_law_511 : decode cL_law 511 = .ok (.aload_n 1, 1) := by decide +kernel
theorem dL_law_512 : decode cL_law 512 = .ok (.aload 9, 2) := by decide +kernel
theorem dL_law_514 : decode cL_law 514 = .ok (.iload 22, 2) := by decide +kernel
theorem dL_law_516 : decode cL_law 516 = .ok (.iaload, 1) := by decide +kernel
theorem dL_law_517 : decode cL_law 517 = .ok (.iconst 2, 1) := by decide +kernel
theorem dL_law_518 : decode cL_law 518 = .ok (.invokevirtual 70, 3) := by decide +kernel
theorem dL_law_521 : decode cL_law 521 = .ok (.iconst 0, 1) := by decide +kernel
theorem dL_law_522 : decode cL_law 522 = .ok (.aload 10, 2) := by decide +kernel
theorem dL_law_524 : decode cL_law 524 = .ok (.iload 22, 2) := by decide +kernel
theorem dL_law_526 : decode cL_law 526 = .ok (.iaload, 1) := by decide +kernel
theorem dL_law_527 : decode cL_law 527 = .ok (.iload 19, 2) := by decide +kernel
theorem dL_law_529 : decode cL_law 529 = .ok (.isub, 1) := by decide +kernel
theorem dL_law_530 : decode cL_law 530 = .ok (.invokestatic 88, 3) := by decide +kernel
theorem dL_law_533 : decode cL_law 533 = .ok (.if_icmp .eq 5, 3) := by decide +kernel
theorem dL_law_536 : decode cL_law 536 = .ok (.iconst 0, 1) := by decide +kernel
theorem dL_law_537 : decode cL_law 537 = .ok (.ireturn, 1) := by decide +kernel
theorem dL_law_538 : decode cL_law 538 = .ok (.iload 21, 2) := by decide +kernel
theorem dL_law_540 : decode cL_law 540 = .ok (.aload 10, 2) := by decide +kernel
theorem dL_law_542 : decode cL_law 542 = .ok (.iload 22, 2) := by decide +kernel
theorem dL_law_544 : decode cL_law 544 = .ok (.iaload, 1) := by decide +kernel
theorem dL_law_545 : decode cL_law 545 = .ok (.aload_n 1, 1) := by decide +kernel
theorem dL_law_546 : decode cL_law 546 = .ok (.aload 9, 2) := by decide +kernel
theorem dL_law_548 : decode cL_law 548 = .ok (.iload 22, 2) := by decide +kernel
theorem dL_law_550 : decode cL_law 550 = .ok (.iaload, 1) := by decide +kernel
theorem dL_law_551 : decode cL_law 551 = .ok (.iconst 2, 1) := by decide +kernel
theorem dL_law_552 : decode cL_law 552 = .ok (.invokevirtual 70, 3) := by decide +kernel
theorem dL_law_555 : decode cL_law 555 = .ok (.isub, 1) := by decide +kernel
theorem dL_law_556 : decode cL_law 556 = .ok (.iadd, 1) := by decide +kernel
theorem dL_law_557 : decode cL_law 557 = .ok (.istore 21, 2) := by decide +kernel
theorem dL_law_559 : decode cL_law 559 = .ok (.iinc 22 1, 3) := by decide +kernel
theorem dL_law_562 : decode cL_law 562 = .ok (.goto (-242), 3) := by decide +kernel
theorem dL_law_565 : decode cL_law 565 = .ok (.aload_n 1, 1) := by decide +kernel
theorem dL_law_566 : decode cL_law 566 = .ok (.iload 7, 2) := by decide +kernel
theorem dL_law_568 : decode cL_law 568 = .ok (.iconst 1, 1) := by decide +kernel
theorem dL_law_569 : decode cL_law 569 = .ok (.invokevirtual 73, 3) := by decide +kernel
theorem dL_law_572 : decode cL_law 572 = .ok (.lload 17, 2) := by decide +kernel
theorem dL_law_574 : decode cL_law 574 = .ok (.lsub, 1) := by decide +kernel
theorem dL_law_575 : decode cL_law 575 = .ok (.lstore 22, 2) := by decide +kernel
theorem dL_law_577 : decode cL_law 577 = .ok (.aload_n 1, 1) := by decide +kernel
theorem dL_law_578 : decode cL_law 578 = .ok (.iload 7, 2) := by decide +kernel
theorem dL_law_580 : decode cL_law 580 = .ok (.iconst 0, 1) := by decide +kernel
theorem dL_law_581 : decode cL_law 581 = .ok (.invokevirtual 73, 3) := by decide +kernel
theorem dL_law_584 : decode cL_law 584 = .ok (.lload 15, 2) := by decide +kernel
theorem dL_law_586 : decode cL_law 586 = .ok (.iload 21, 2) := by decide +kernel
theorem dL_law_588 : decode cL_law 588 = .ok (.i2l, 1) := by decide +kernel
theorem dL_law_589 : decode cL_law 589 = .ok (.ladd, 1) := by decide +kernel
theorem dL_law_590 : decode cL_law 590 = .ok (.lcmp, 1) := by decide +kernel
theorem dL_law_591 : decode cL_law 591 = .ok (.ifCond .ne 25, 3) := by decide +kernel
theorem dL_law_594 : decode cL_law 594 = .ok (.lload 22, 2) := by decide +kernel
theorem dL_law_596 : decode cL_law 596 = .ok (.iload 19, 2) := by decide +kernel
theorem dL_law_598 : decode cL_law 598 = .ok (.i2l, 1) := by decide +kernel
theorem dL_law_599 : decode cL_law 599 = .ok (.lmul, 1) := by decide +kernel
theorem dL_law_600 : decode cL_law 600 = .ok (.iload 21, 2) := by decide +kernel
theorem dL_law_602 : decode cL_law 602 = .ok (.i2l, 1) := by decide +kernel
theorem dL_law_603 : decode cL_law 603 = .ok (.lcmp, 1) := by decide +kernel
theorem dL_law_604 : decode cL_law 604 = .ok (.ifCond .lt 12, 3) := by decide +kernel
theorem dL_law_607 : decode cL_law 607 = .ok (.lload 22, 2) := by decide +kernel
theorem dL_law_609 : decode cL_law 609 = .ok (.iload 8, 2) := by decide +kernel
theorem dL_law_611 : decode cL_law 611 = .ok (.i2l, 1) := by decide +kernel
theorem dL_law_612 : decode cL_law 612 = .ok (.lcmp, 1) := by decide +kernel
theorem dL_law_613 : decode cL_law 613 = .ok (.ifCond .le 5, 3) := by decide +kernel
theorem dL_law_616 : decode cL_law 616 = .ok (.iconst 0, 1) := by decide +kernel
theorem dL_law_617 : decode cL_law 617 = .ok (.ireturn, 1) := by decide +kernel
theorem dL_law_618 : decode cL_law 618 = .ok (.iconst 0, 1) := by decide +kernel
theorem dL_law_619 : decode cL_law 619 = .ok (.istore 24, 2) := by decide +kernel
theorem dL_law_621 : decode cL_law 621 = .ok (.iload 24, 2) := by decide +kernel
theorem dL_law_623 : decode cL_law 623 = .ok (.iload 4, 2) := by decide +kernel
theorem dL_law_625 : decode cL_law 625 = .ok (.if_icmp .ge 52, 3) := by decide +kernel
theorem dL_law_628 : decode cL_law 628 = .ok (.aload_n 1, 1) := by decide +kernel
theorem dL_law_629 : decode cL_law 629 = .ok (.iload 24, 2) := by decide +kernel
theorem dL_law_631 : decode cL_law 631 = .ok (.iconst 2, 1) := by decide +kernel
theorem dL_law_632 : decode cL_law 632 = .ok (.invokevirtual 70, 3) := by decide +kernel
theorem dL_law_635 : decode cL_law 635 = .ok (.aload_n 2, 1) := by decide +kernel
theorem dL_law_636 : decode cL_law 636 = .ok (.bipush 10, 2) := by decide +kernel
theorem dL_law_638 : decode cL_law 638 = .ok (.iload 24, 2) := by decide +kernel
theorem dL_law_640 : decode cL_law 640 = .ok (.imul, 1) := by decide +kernel
theorem dL_law_641 : decode cL_law 641 = .ok (.iconst 2, 1) := by decide +kernel
theorem dL_law_642 : decode cL_law 642 = .ok (.iadd, 1) := by decide +kernel
theorem dL_law_643 : decode cL_law 643 = .ok (.iaload, 1) := by decide +kernel
theorem dL_law_644 : decode cL_law 644 = .ok (.if_icmp .gt 25, 3) := by decide +kernel
theorem dL_law_647 : decode cL_law 647 = .ok (.aload_n 1, 1) := by decide +kernel
theorem dL_law_648 : decode cL_law 648 = .ok (.iload 24, 2) := by decide +kernel
theorem dL_law_650 : decode cL_law 650 = .ok (.aload_n 1, 1) := by decide +kernel
theorem dL_law_651 : decode cL_law 651 = .ok (.invokevirtual 80, 3) := by decide +kernel
theorem dL_law_654 : decode cL_law 654 = .ok (.invokevirtual 91, 3) := by decide +kernel
theorem dL_law_657 : decode cL_law 657 = .ok (.aload_n 2, 1) := by decide +kernel
theorem dL_law_658 : decode cL_law 658 = .ok (.bipush 10, 2) := by decide +kernel
theorem dL_law_660 : decode cL_law 660 = .ok (.iload 24, 2) := by decide +kernel
theorem dL_law_662 : decode cL_law 662 = .ok (.imul, 1) := by decide +kernel
theorem dL_law_663 : decode cL_law 663 = .ok (.iconst 2, 1) := by decide +kernel
theorem dL_law_664 : decode cL_law 664 = .ok (.iadd, 1) := by decide +kernel
theorem dL_law_665 : decode cL_law 665 = .ok (.iaload, 1) := by decide +kernel
theorem dL_law_666 : decode cL_law 666 = .ok (.if_icmp .le 5, 3) := by decide +kernel
theorem dL_law_669 : decode cL_law 669 = .ok (.iconst 0, 1) := by decide +kernel
theorem dL_law_670 : decode cL_law 670 = .ok (.ireturn, 1) := by decide +kernel
theorem dL_law_671 : decode cL_law 671 = .ok (.iinc 24 1, 3) := by decide +kernel
theorem dL_law_674 : decode cL_law 674 = .ok (.goto (-53), 3) := by decide +kernel
theorem dL_law_677 : decode cL_law 677 = .ok (.iinc 5 1, 3) := by decide +kernel
theorem dL_law_680 : decode cL_law 680 = .ok (.goto (-636), 3) := by decide +kernel
theorem dL_law_683 : decode cL_law 683 = .ok (.aload_n 1, 1) := by decide +kernel
theorem dL_law_684 : decode cL_law 684 = .ok (.invokevirtual 80, 3) := by decide +kernel
theorem dL_law_687 : decode cL_law 687 = .ok (.sipush 240, 3) := by decide +kernel
theorem dL_law_690 : decode cL_law 690 = .ok (.if_icmp .gt 7, 3) := by decide +kernel
theorem dL_law_693 : decode cL_law 693 = .ok (.iconst 1, 1) := by decide +kernel
theorem dL_law_694 : decode cL_law 694 = .ok (.goto 4, 3) := by decide +kernel
theorem dL_law_697 : decode cL_law 697 = .ok (.iconst 0, 1) := by decide +kernel
theorem dL_law_698 : decode cL_law 698 = .ok (.ireturn, 1) := by decide +kernel
