theorem dX2_find_31 : decode cX2_find 31 = .ok (.getfield 17, 3) := by decide +kernel
theorem dX2_find_34 : decode cX2_find 34 = .ok (.iload 4, 2) := by decide +kernel
theorem dX2_find_36 : decode cX2_find 36 = .ok (.iaload, 1) := by decide +kernel
theorem dX2_find_37 : decode cX2_find 37 = .ok (.iload_n 2, 1) := by decide +kernel
theorem dX2_find_38 : decode cX2_find 38 = .ok (.if_icmp .ne 17, 3) := by decide +kernel
theorem dX2_find_41 : decode cX2_find 41 = .ok (.aload_n 0, 1) := by decide +kernel
theorem dX2_find_42 : decode cX2_find 42 = .ok (.getfield 20, 3) := by decide +kernel
theorem dX2_find_45 : decode cX2_find 45 = .ok (.iload 4, 2) := by decide +kernel
theorem dX2_find_47 : decode cX2_find 47 = .ok (.iaload, 1) := by decide +kernel
theorem dX2_find_48 : decode cX2_find 48 = .ok (.iload_n 3, 1) := by decide +kernel
theorem dX2_find_49 : decode cX2_find 49 = .ok (.if_icmp .ne 6, 3) := by decide +kernel
theorem dX2_find_52 : decode cX2_find 52 = .ok (.iload 4, 2) := by decide +kernel
theorem dX2_find_54 : decode cX2_find 54 = .ok (.ireturn, 1) := by decide +kernel
theorem dX2_find_55 : decode cX2_find 55 = .ok (.iinc 4 1, 3) := by decide +kernel
theorem dX2_find_58 : decode cX2_find 58 = .ok (.goto (-55), 3) := by decide +kernel
theorem dX2_find_61 : decode cX2_find 61 = .ok (.iconst (-1), 1) := by decide +kernel
theorem dX2_find_62 : decode cX2_find 62 = .ok (.ireturn, 1) := by decide +kernel
theorem dX2_begin_0 : decode cX2_begin 0 = .ok (.iconst 0, 1) := by decide +kernel
theorem dX2_begin_1 : decode cX2_begin 1 = .ok (.istore 4, 2) := by decide +kernel
theorem dX2_begin_3 : decode cX2_begin 3 = .ok (.iload 4, 2) := by decide +kernel
theorem dX2_begin_5 : decode cX2_begin 5 = .ok (.iconst 4, 1) := by decide +kernel
theorem dX2_begin_6 : decode cX2_begin 6 = .ok (.if_icmp .ge 105, 3) := by decide +kernel
theorem dX2_begin_9 : decode cX2_begin 9 = .ok (.aload_n 0, 1) := by decide +kernel
theorem dX2_begin_10 : decode cX2_begin 10 = .ok (.getfield 29, 3) := by decide +kernel
theorem dX2_begin_13 : decode cX2_begin 13 = .ok (.iload 4, 2) := by decide +kernel
theorem dX2_begin_15 : decode cX2_begin 15 = .ok (.baload, 1) := by decide +kernel
theorem dX2_begin_16 : decode cX2_begin 16 = .ok (.ifCond .ne 89, 3) := by decide +kernel
theorem dX2_begin_19 : decode cX2_begin 19 = .ok (.aload_n 0, 1) := by decide +kernel
theorem dX2_begin_20 : decode cX2_begin 20 = .ok (.getfield 29, 3) := by decide +kernel
theorem dX2_begin_23 : decode cX2_begin 23 = .ok (.iload 4, 2) := by decide +kernel
theorem dX2_begin_25 : decode cX2_begin 25 = .ok (.iconst 1, 1) := by decide +kernel
theorem dX2_begin_26 : decode cX2_begin 26 = .ok (.bastore, 1) := by decide +kernel
theorem dX2_begin_27 : decode cX2_begin 27 = .ok (.aload_n 0, 1) := by decide +kernel
theorem dX2_begin_28 : decode cX2_begin 28 = .ok (.getfield 13, 3) := by decide +kernel
theorem dX2_begin_31 : decode cX2_begin 31 = .ok (.iload 4, 2) := by decide +kernel
theorem dX2_begin_33 : decode cX2_begin 33 = .ok (.iload_n 1, 1) := by decide +kernel
theorem dX2_begin_34 : decode cX2_begin 34 = .ok (.iastore, 1) := by decide +kernel
theorem dX2_begin_35 : decode cX2_begin 35 = .ok (.aload_n 0, 1) := by decide +kernel
theorem dX2_begin_36 : decode cX2_begin 36 = .ok (.getfield 17, 3) := by decide +kernel
theorem dX2_begin_39 : decode cX2_begin 39 = .ok (.iload 4, 2) := by decide +kernel
theorem dX2_begin_41 : decode cX2_begin 41 = .ok (.iload_n 2, 1) := by decide +kernel
theorem dX2_begin_42 : decode cX2_begin 42 = .ok (.iastore, 1) := by decide +kernel
theorem dX2_begin_43 : decode cX2_begin 43 = .ok (.aload_n 0, 1) := by decide +kernel
theorem dX2_begin_44 : decode cX2_begin 44 = .ok (.getfield 20, 3) := by decide +kernel
theorem dX2_begin_47 : decode cX2_begin 47 = .ok (.iload 4, 2) := by decide +kernel
theorem dX2_begin_49 : decode cX2_begin 49 = .ok (.iload_n 3, 1) := by decide +kernel
theorem dX2_begin_50 : decode cX2_begin 50 = .ok (.iastore, 1) := by decide +kernel
theorem dX2_begin_51 : decode cX2_begin 51 = .ok (.aload_n 0, 1) := by decide +kernel
theorem dX2_begin_52 : decode cX2_begin 52 = .ok (.getfield 23, 3) := by decide +kernel
theorem dX2_begin_55 : decode cX2_begin 55 = .ok (.iload 4, 2) := by decide +kernel
theorem dX2_begin_57 : decode cX2_begin 57 = .ok (.iconst (-1), 1) := by decide +kernel
theorem dX2_begin_58 : decode cX2_begin 58 = .ok (.iastore, 1) := by decide +kernel
theorem dX2_begin_59 : decode cX2_begin 59 = .ok (.aload_n 0, 1) := by decide +kernel
theorem dX2_begin_60 : decode cX2_begin 60 = .ok (.getfield 26, 3) := by decide +kernel
theorem dX2_begin_63 : decode cX2_begin 63 = .ok (.iload 4, 2) := by decide +kernel
theorem dX2_begin_65 : decode cX2_begin 65 = .ok (.aload_n 0, 1) := by decide +kernel
theorem dX2_begin_66 : decode cX2_begin 66 = .ok (.getfield 50, 3) := by decide +kernel
theorem dX2_begin_69 : decode cX2_begin 69 = .ok (.iastore, 1) := by decide +kernel
theorem dX2_begin_70 : decode cX2_begin 70 = .ok (.iconst 0, 1) := by decide +kernel
theorem dX2_begin_71 : decode cX2_begin 71 = .ok (.istore 5, 2) := by decide +kernel
theorem dX2_begin_73 : decode cX2_begin 73 = .ok (.iload 5, 2) := by decide +kernel
theorem dX2_begin_75 : decode cX2_begin 75 = .ok (.sipush 4096, 3) := by decide +kernel
theorem dX2_begin_78 : decode cX2_begin 78 = .ok (.if_icmp .ge 24, 3) := by decide +kernel
theorem dX2_begin_81 : decode cX2_begin 81 = .ok (.aload_n 0, 1) := by decide +kernel
theorem dX2_begin_82 : decode cX2_begin 82 = .ok (.getfield 33, 3) := by decide +kernel
theorem dX2_begin_85 : decode cX2_begin 85 = .ok (.iload 4, 2) := by decide +kernel
theorem dX2_begin_87 : decode cX2_begin 87 = .ok (.sipush 4096, 3) := by decide +kernel
theorem dX2_begin_90 : decode cX2_begin 90 = .ok (.imul, 1) := by decide +kernel
theorem dX2_begin_91 : decode cX2_begin 91 = .ok (.iload 5, 2) := by decide +kernel
theorem dX2_begin_93 : decode cX2_begin 93 = .ok (.iadd, 1) := by decide +kernel
theorem dX2_begin_94 : decode cX2_begin 94 = .ok (.iconst 0, 1) := by decide +kernel
theorem dX2_begin_95 : decode cX2_begin 95 = .ok (.iastore, 1) := by decide +kernel
theorem dX2_begin_96 : decode cX2_begin 96 = .ok (.iinc 5 1, 3) := by decide +kernel
theorem dX2_begin_99 : decode cX2_begin 99 = .ok (.goto (-26), 3) := by decide +kernel
theorem dX2_begin_102 : decode cX2_begin 102 = .ok (.iload 4, 2) := by decide +kernel
theorem dX2_begin_104 : decode cX2_begin 104 = .ok (.ireturn, 1) := by decide +kernel
theorem dX2_begin_105 : decode cX2_begin 105 = .ok (.iinc 4 1, 3) := by decide +kernel
theorem dX2_begin_108 : decode cX2_begin 108 = .ok (.goto (-105), 3) := by decide +kernel
theorem dX2_begin_111 : decode cX2_begin 111 = .ok (.iconst (-1), 1) := by decide +kernel
theorem dX2_begin_112 : decode cX2_begin 112 = .ok (.ireturn, 1) := by decide +kernel
set_option maxRecDepth 20000 in
theorem ggX2_take_X2_find : GoodIn wsX2_take wsX2_find := goodIn_r _ [13, 4, 14, 15, 16, 23, 24, 25, 26, 27, 28, 29, 30, 31, 32, 33, 34, 35] (by decide +kernel) (by decide +kernel)
set_option maxRecDepth 20000 in
theorem gX2_take_X2_find : GoodIn wsX2_take (wsV RX2 53 RX2 yX2_find wsX2_find) := goodIn_app (goodIn_of _ (by decide +kernel)) ggX2_take_X2_find
set_option maxRecDepth 20000 in
theorem ggX2_take_X2_begin : GoodIn wsX2_take wsX2_begin := goodIn_r _ [20, 4, 14, 15, 16, 2, 21, 22, 3, 23, 24, 25, 26, 27, 28, 29, 30, 31, 32, 33, 34, 35] (by decide +kernel) (by decide +kernel)
set_option maxRecDepth 20000 in
theorem gX2_take_X2_begin : GoodIn wsX2_take (wsV RX2 57 RX2 yX2_begin wsX2_begin) := goodIn_app (goodIn_of _ (by decide +kernel)) ggX2_take_X2_begin
theorem dX2_take_0 : decode cX2_take 0 = .ok (.iload 4, 2) := by decide +kernel
theorem dX2_take_2 : decode cX2_take 2 = .ok (.ifCond .lt 11, 3) := by decide +kernel
theorem dX2_take_5 : decode cX2_take 5 = .ok (.iload 4, 2) := by decide +kernel
theorem dX2_take_7 : decode cX2_take 7 = .ok (.sipush 8191, 3) := by decide +kernel
theorem dX2_take_10 : decode cX2_take 10 = .ok (.if_icmp .le 6, 3) := by decide +kernel
theorem dX2_take_13 : decode cX2_take 13 = .ok (.bipush (-4), 2) := by decide +kernel
theorem dX2_take_15 : decode cX2_take 15 = .ok (.ireturn, 1) := by decide +kernel
theorem dX2_take_16 : decode cX2_take 16 = .ok (.aload_n 0, 1) := by decide +kernel
theorem dX2_take_17 : decode cX2_take 17 = .ok (.getfield 43, 3) := by decide +kernel
theorem dX2_take_20 : decode cX2_take 20 = .ok (.istore 6, 2) := by decide +kernel
theorem dX2_take_22 : decode cX2_take 22 = .ok (.aload_n 0, 1) := by decide +kernel
theorem dX2_take_23 : decode cX2_take 23 = .ok (.iconst 0, 1) := by decide +kernel
theorem dX2_take_24 : decode cX2_take 24 = .ok (.putfield 43, 3) := by decide +kernel
theorem dX2_take_27 : decode cX2_take 27 = .ok (.bipush 8, 2) := by decide +kernel
theorem dX2_take_29 : decode cX2_take 29 = .ok (.iload 4, 2) := by decide +kernel
theorem dX2_take_31 : decode cX2_take 31 = .ok (.imul, 1) := by decide +kernel
theorem dX2_take_32 : decode cX2_take 32 = .ok (.istore 7, 2) := by decide +kernel
theorem dX2_take_34 : decode cX2_take 34 = .ok (.iload 7, 2) := by decide +kernel
theorem dX2_take_36 : decode cX2_take 36 = .ok (.iload 6, 2) := by decide +kernel
theorem dX2_take_38 : decode cX2_take 38 = .ok (.iadd, 1) := by decide +kernel
theorem dX2_take_39 : decode cX2_take 39 = .ok (.istore 8, 2) := by decide +kernel
theorem dX2_take_41 : decode cX2_take 41 = .ok (.iload 8, 2) := by decide +kernel
theorem dX2_take_43 : decode cX2_take 43 = .ok (.sipush 4096, 3) := by decide +kernel
theorem dX2_take_46 : decode cX2_take 46 = .ok (.if_icmp .gt 21, 3) := by decide +kernel
theorem dX2_take_49 : decode cX2_take 49 = .ok (.iload 5, 2) := by decide +kernel
theorem dX2_take_51 : decode cX2_take 51 = .ok (.ifCond .ne 19, 3) := by decide +kernel
theorem dX2_take_54 : decode cX2_take 54 = .ok (.iload 6, 2) := by decide +kernel
theorem dX2_take_56 : decode cX2_take 56 = .ok (.ifCond .eq 11, 3) := by decide +kernel
theorem dX2_take_59 : decode cX2_take 59 = .ok (.iload 6, 2) := by decide +kernel
theorem dX2_take_61 : decode cX2_take 61 = .ok (.bipush 8, 2) := by decide +kernel
theorem dX2_take_63 : decode cX2_take 63 = .ok (.irem, 1) := by decide +kernel
theorem dX2_take_64 : decode cX2_take 64 = .ok (.ifCond .eq 6, 3) := by decide +kernel
theorem dX2_take_67 : decode cX2_take 67 = .ok (.bipush (-2), 2) := by decide +kernel
theorem dX2_take_69 : decode cX2_take 69 = .ok (.ireturn, 1) := by decide +kernel
theorem dX2_take_70 : decode cX2_take 70 = .ok (.aload_n 0, 1) := by decide +kernel
theorem dX2_take_71 : decode cX2_take 71 = .ok (.iload_n 1, 1) := by decide +kernel
theorem dX2_take_72 : decode cX2_take 72 = .ok (.iload_n 2, 1) := by decide +kernel
theorem dX2_take_73 : decode cX2_take 73 = .ok (.iload_n 3, 1) := by decide +kernel
theorem dX2_take_74 : decode cX2_take 74 = .ok (.invokevirtual 53, 3) := by decide +kernel
theorem dX2_take_77 : decode cX2_take 77 = .ok (.istore 9, 2) := by decide +kernel
theorem dX2_take_79 : decode cX2_take 79 = .ok (.iload 9, 2) := by decide +kernel
theorem dX2_take_81 : decode cX2_take 81 = .ok (.ifCond .ge 12, 3) := by decide +kernel
theorem dX2_take_84 : decode cX2_take 84 = .ok (.aload_n 0, 1) := by decide +kernel
theorem dX2_take_85 : decode cX2_take 85 = .ok (.iload_n 1, 1) := by decide +kernel
theorem dX2_take_86 : decode cX2_take 86 = .ok (.iload_n 2, 1) := by decide +kernel
theorem dX2_take_87 : decode cX2_take 87 = .ok (.iload_n 3, 1) := by decide +kernel
theorem dX2_take_88 : decode cX2_take 88 = .ok (.invokevirtual 57, 3) := by decide +kernel
theorem dX2_take_91 : decode cX2_take 91 = .ok (.istore 9, 2) := by decide +kernel
theorem dX2_take_93 : decode cX2_take 93 = .ok (.iload 9, 2) := by decide +kernel
theorem dX2_take_95 : decode cX2_take 95 = .ok (.ifCond .ge 6, 3) := by decide +kernel
theorem dX2_take_98 : decode cX2_take 98 = .ok (.bipush (-2), 2) := by decide +kernel
theorem dX2_take_100 : decode cX2_take 100 = .ok (.ireturn, 1) := by decide +kernel
theorem dX2_take_101 : decode cX2_take 101 = .ok (.aload_n 0, 1) := by decide +kernel
theorem dX2_take_102 : decode cX2_take 102 = .ok (.getfield 23, 3) := by decide +kernel
theorem dX2_take_105 : decode cX2_take 105 = .ok (.iload 9, 2) := by decide +kernel
theorem dX2_take_107 : decode cX2_take 107 = .ok (.iaload, 1) := by decide +kernel
theorem dX2_take_108 : decode cX2_take 108 = .ok (.ifCond .lt 36, 3) := by decide +kernel
theorem dX2_take_111 : decode cX2_take 111 = .ok (.iload 8, 2) := by decide +kernel
theorem dX2_take_113 : decode cX2_take 113 = .ok (.aload_n 0, 1) := by decide +kernel
theorem dX2_take_114 : decode cX2_take 114 = .ok (.getfield 23, 3) := by decide +kernel
theorem dX2_take_117 : decode cX2_take 117 = .ok (.iload 9, 2) := by decide +kernel
theorem dX2_take_119 : decode cX2_take 119 = .ok (.iaload, 1) := by decide +kernel
theorem dX2_take_120 : decode cX2_take 120 = .ok (.if_icmp .gt 20, 3) := by decide +kernel
theorem dX2_take_123 : decode cX2_take 123 = .ok (.iload 5, 2) := by decide +kernel
theorem dX2_take_125 : decode cX2_take 125 = .ok (.ifCond .eq 19, 3) := by decide +kernel
theorem dX2_take_128 : decode cX2_take 128 = .ok (.iload 8, 2) := by decide +kernel
theorem dX2_take_130 : decode cX2_take 130 = .ok (.aload_n 0, 1) := by decide +kernel
theorem dX2_take_131 : decode cX2_take 131 = .ok (.getfield 23, 3) := by decide +kernel
theorem dX2_take_134 : decode cX2_take 134 = .ok (.iload 9, 2) := by decide +kernel
theorem dX2_take_136 : decode cX2_take 136 = .ok (.iaload, 1) := by decide +kernel
theorem dX2_take_137 : decode cX2_take 137 = .ok (.if_icmp .eq 7, 3) := by decide +kernel
theorem dX2_take_140 : decode cX2_take 140 = .ok (.iconst 1, 1) := by decide +kernel
theorem dX2_take_141 : decode cX2_take 141 = .ok (.goto 4, 3) := by decide +kernel
theorem dX2_take_144 : decode cX2_take 144 = .ok (.iconst 0, 1) := by decide +kernel
theorem dX2_take_145 : decode cX2_take 145 = .ok (.istore 10, 2) := by decide +kernel
theorem dX2_take_147 : decode cX2_take 147 = .ok (.iload 8, 2) := by decide +kernel
theorem dX2_take_149 : decode cX2_take 149 = .ok (.istore 11, 2) := by decide +kernel
theorem dX2_take_151 : decode cX2_take 151 = .ok (.iload 11, 2) := by decide +kernel
theorem dX2_take_153 : decode cX2_take 153 = .ok (.sipush 4096, 3) := by decide +kernel
theorem dX2_take_156 : decode cX2_take 156 = .ok (.if_icmp .ge 43, 3) := by decide +kernel
theorem dX2_take_159 : decode cX2_take 159 = .ok (.iload 5, 2) := by decide +kernel
theorem dX2_take_161 : decode cX2_take 161 = .ok (.ifCond .eq 38, 3) := by decide +kernel
theorem dX2_take_164 : decode cX2_take 164 = .ok (.iload 10, 2) := by decide +kernel
theorem dX2_take_166 : decode cX2_take 166 = .ok (.ifCond .ne 20, 3) := by decide +kernel
theorem dX2_take_169 : decode cX2_take 169 = .ok (.aload_n 0, 1) := by decide +kernel
theorem dX2_take_170 : decode cX2_take 170 = .ok (.getfield 33, 3) := by decide +kernel
theorem dX2_take_173 : decode cX2_take 173 = .ok (.iload 9, 2) := by decide +kernel
theorem dX2_take_175 : decode cX2_take 175 = .ok (.sipush 4096, 3) := by decide +kernel
theorem dX2_take_178 : decode cX2_take 178 = .ok (.imul, 1) := by decide +kernel
theorem dX2_take_179 : decode cX2_take 179 = .ok (.iload 11, 2) := by decide +kernel
theorem dX2_take_181 : decode cX2_take 181 = .ok (.iadd, 1) := by decide +kernel
theorem dX2_take_182 : decode cX2_take 182 = .ok (.iaload, 1) := by decide +kernel
theorem dX2_take_183 : decode cX2_take 183 = .ok (.ifCond .le 7, 3) := by decide +kernel
theorem dX2_take_186 : decode cX2_take 186 = .ok (.iconst 1, 1) := by decide +kernel
theorem dX2_take_187 : decode cX2_take 187 = .ok (.goto 4, 3) := by decide +kernel
theorem dX2_take_190 : decode cX2_take 190 = .ok (.iconst 0, 1) := by decide +kernel
theorem dX2_take_191 : decode cX2_take 191 = .ok (.istore 10, 2) := by decide +kernel
theorem dX2_take_193 : decode cX2_take 193 = .ok (.iinc 11 1, 3) := by decide +kernel
theorem dX2_take_196 : decode cX2_take 196 = .ok (.goto (-45), 3) := by decide +kernel
theorem dX2_take_199 : decode cX2_take 199 = .ok (.iload 10, 2) := by decide +kernel
theorem dX2_take_201 : decode cX2_take 201 = .ok (.ifCond .eq 14, 3) := by decide +kernel
theorem dX2_take_204 : decode cX2_take 204 = .ok (.aload_n 0, 1) := by decide +kernel
theorem dX2_take_205 : decode cX2_take 205 = .ok (.getfield 29, 3) := by decide +kernel
theorem dX2_take_208 : decode cX2_take 208 = .ok (.iload 9, 2) := by decide +kernel
theorem dX2_take_210 : decode cX2_take 210 = .ok (.iconst 0, 1) := by decide +kernel
theorem dX2_take_211 : decode cX2_take 211 = .ok (.bastore, 1) := by decide +kernel
theorem dX2_take_212 : decode cX2_take 212 = .ok (.bipush (-3), 2) := by decide +kernel
theorem dX2_take_214 : decode cX2_take 214 = .ok (.ireturn, 1) := by decide +kernel
theorem dX2_take_215 : decode cX2_take 215 = .ok (.iload 5, 2) := by decide +kernel
theorem dX2_take_217 : decode cX2_take 217 = .ok (.ifCond .eq 12, 3) := by decide +kernel
theorem dX2_take_220 : decode cX2_take 220 = .ok (.aload_n 0, 1) := by decide +kernel
theorem dX2_take_221 : decode cX2_take 221 = .ok (.getfield 23, 3) := by decide +kernel
theorem dX2_take_224 : decode cX2_take 224 = .ok (.iload 9, 2) := by decide +kernel
theorem dX2_take_226 : decode cX2_take 226 = .ok (.iload 8, 2) := by decide +kernel
theorem dX2_take_228 : decode cX2_take 228 = .ok (.iastore, 1) := by decide +kernel
theorem dX2_take_229 : decode cX2_take 229 = .ok (.iconst 0, 1) := by decide +kernel
theorem dX2_take_230 : decode cX2_take 230 = .ok (.istore 11, 2) := by decide +kernel
theorem dX2_take_232 : decode cX2_take 232 = .ok (.iload 11, 2) := by decide +kernel
theorem dX2_take_234 : decode cX2_take 234 = .ok (.iload 6, 2) := by decide +kernel
theorem dX2_take_236 : decode cX2_take 236 = .ok (.if_icmp .ge 59, 3) := by decide +kernel
theorem dX2_take_239 : decode cX2_take 239 = .ok (.aload_n 0, 1) := by decide +kernel
theorem dX2_take_240 : decode cX2_take 240 = .ok (.getfield 33, 3) := by decide +kernel
theorem dX2_take_243 : decode cX2_take 243 = .ok (.iload 9, 2) := by decide +kernel
theorem dX2_take_245 : decode cX2_take 245 = .ok (.sipush 4096, 3) := by decide +kernel
theorem dX2_take_248 : decode cX2_take 248 = .ok (.imul, 1) := by decide +kernel
theorem dX2_take_249 : decode cX2_take 249 = .ok (.iload 7, 2) := by decide +kernel
theorem dX2_take_251 : decode cX2_take 251 = .ok (.iadd, 1) := by decide +kernel
theorem dX2_take_252 : decode cX2_take 252 = .ok (.iload 11, 2) := by decide +kernel
theorem dX2_take_254 : decode cX2_take 254 = .ok (.iadd, 1) := by decide +kernel
theorem dX2_take_255 : decode cX2_take 255 = .ok (.iaload, 1) := by decide +kernel
theorem dX2_take_256 : decode cX2_take 256 = .ok (.ifCond .ne 33, 3) := by decide +kernel
theorem dX2_take_259 : decode cX2_take 259 = .ok (.aload_n 0, 1) := by decide +kernel
theorem dX2_take_260 : decode cX2_take 260 = .ok (.getfield 33, 3) := by decide +kernel
theorem dX2_take_263 : decode cX2_take 263 = .ok (.iload 9, 2) := by decide +kernel
theorem dX2_take_265 : decode cX2_take 265 = .ok (.sipush 4096, 3) := by decide +kernel
theorem dX2_take_268 : decode cX2_take 268 = .ok (.imul, 1) := by decide +kernel
theorem dX2_take_269 : decode cX2_take 269 = .ok (.iload 7, 2) := by decide +kernel
theorem dX2_take_271 : decode cX2_take 271 = .ok (.iadd, 1) := by decide +kernel
theorem dX2_take_272 : decode cX2_take 272 = .ok (.iload 11, 2) := by decide +kernel
theorem dX2_take_274 : decode cX2_take 274 = .ok (.iadd, 1) := by decide +kernel
theorem dX2_take_275 : decode cX2_take 275 = .ok (.aload_n 0, 1) := by decide +kernel
theorem dX2_take_276 : decode cX2_take 276 = .ok (.getfield 9, 3) := by decide +kernel
theorem dX2_take_279 : decode cX2_take 279 = .ok (.iload 11, 2) := by decide +kernel
theorem dX2_take_281 : decode cX2_take 281 = .ok (.baload, 1) := by decide +kernel
theorem dX2_take_282 : decode cX2_take 282 = .ok (.sipush 255, 3) := by decide +kernel
theorem dX2_take_285 : decode cX2_take 285 = .ok (.iand, 1) := by decide +kernel
theorem dX2_take_286 : decode cX2_take 286 = .ok (.iconst 1, 1) := by decide +kernel
theorem dX2_take_287 : decode cX2_take 287 = .ok (.iadd, 1) := by decide +kernel
theorem dX2_take_288 : decode cX2_take 288 = .ok (.iastore, 1) := by decide +kernel
theorem dX2_take_289 : decode cX2_take 289 = .ok (.iinc 11 1, 3) := by decide +kernel
theorem dX2_take_292 : decode cX2_take 292 = .ok (.goto (-60), 3) := by decide +kernel
theorem dX2_take_295 : decode cX2_take 295 = .ok (.aload_n 0, 1) := by decide +kernel
theorem dX2_take_296 : decode cX2_take 296 = .ok (.getfield 23, 3) := by decide +kernel
theorem dX2_take_299 : decode cX2_take 299 = .ok (.iload 9, 2) := by decide +kernel
theorem dX2_take_301 : decode cX2_take 301 = .ok (.iaload, 1) := by decide +kernel
theorem dX2_take_302 : decode cX2_take 302 = .ok (.ifCond .ge 5, 3) := by decide +kernel
theorem dX2_take_305 : decode cX2_take 305 = .ok (.iconst (-1), 1) := by decide +kernel
theorem dX2_take_306 : decode cX2_take 306 = .ok (.ireturn, 1) := by decide +kernel
theorem dX2_take_307 : decode cX2_take 307 = .ok (.iconst 0, 1) := by decide +kernel
theorem dX2_take_308 : decode cX2_take 308 = .ok (.istore 11, 2) := by decide +kernel
theorem dX2_take_310 : decode cX2_take 310 = .ok (.iload 11, 2) := by decide +kernel
theorem dX2_take_312 : decode cX2_take 312 = .ok (.aload_n 0, 1) := by decide +kernel
theorem dX2_take_313 : decode cX2_take 313 = .ok (.getfield 23, 3) := by decide +kernel
theorem dX2_take_316 : decode cX2_take 316 = .ok (.iload 9, 2) := by decide +kernel
theorem dX2_take_318 : decode cX2_take 318 = .ok (.iaload, 1) := by decide +kernel
theorem dX2_take_319 : decode cX2_take 319 = .ok (.if_icmp .ge 28, 3) := by decide +kernel
theorem dX2_take_322 : decode cX2_take 322 = .ok (.aload_n 0, 1) := by decide +kernel
theorem dX2_take_323 : decode cX2_take 323 = .ok (.getfield 33, 3) := by decide +kernel
theorem dX2_take_326 : decode cX2_take 326 = .ok (.iload 9, 2) := by decide +kernel
theorem dX2_take_328 : decode cX2_take 328 = .ok (.sipush 4096, 3) := by decide +kernel
theorem dX2_take_331 : decode cX2_take 331 = .ok (.imul, 1) := by decide +kernel
theorem dX2_take_332 : decode cX2_take 332 = .ok (.iload 11, 2) := by decide +kernel
theorem dX2_take_334 : decode cX2_take 334 = .ok (.iadd, 1) := by decide +kernel
theorem dX2_take_335 : decode cX2_take 335 = .ok (.iaload, 1) := by decide +kernel
theorem dX2_take_336 : decode cX2_take 336 = .ok (.ifCond .ne 5, 3) := by decide +kernel
theorem dX2_take_339 : decode cX2_take 339 = .ok (.iconst (-1), 1) := by decide +kernel
theorem dX2_take_340 : decode cX2_take 340 = .ok (.ireturn, 1) := by decide +kernel
theorem dX2_take_341 : decode cX2_take 341 = .ok (.iinc 11 1, 3) := by decide +kernel
theorem dX2_take_344 : decode cX2_take 344 = .ok (.goto (-34), 3) := by decide +kernel
theorem dX2_take_347 : decode cX2_take 347 = .ok (.aload_n 0, 1) := by decide +kernel
theorem dX2_take_348 : decode cX2_take 348 = .ok (.aload_n 0, 1) := by decide +kernel
theorem dX2_take_349 : decode cX2_take 349 = .ok (.getfield 23, 3) := by decide +kernel
theorem dX2_take_352 : decode cX2_take 352 = .ok (.iload 9, 2) := by decide +kernel
theorem dX2_take_354 : decode cX2_take 354 = .ok (.iaload, 1) := by decide +kernel
theorem dX2_take_355 : decode cX2_take 355 = .ok (.putfield 39, 3) := by decide +kernel
theorem dX2_take_358 : decode cX2_take 358 = .ok (.iconst 0, 1) := by decide +kernel
theorem dX2_take_359 : decode cX2_take 359 = .ok (.istore 11, 2) := by decide +kernel
theorem dX2_take_361 : decode cX2_take 361 = .ok (.iload 11, 2) := by decide +kernel
theorem dX2_take_363 : decode cX2_take 363 = .ok (.aload_n 0, 1) := by decide +kernel
theorem dX2_take_364 : decode cX2_take 364 = .ok (.getfield 39, 3) := by decide +kernel
theorem dX2_take_367 : decode cX2_take 367 = .ok (.if_icmp .ge 32, 3) := by decide +kernel
theorem dX2_take_370 : decode cX2_take 370 = .ok (.aload_n 0, 1) := by decide +kernel
theorem dX2_take_371 : decode cX2_take 371 = .ok (.getfield 36, 3) := by decide +kernel
theorem dX2_take_374 : decode cX2_take 374 = .ok (.iload 11, 2) := by decide +kernel
theorem dX2_take_376 : decode cX2_take 376 = .ok (.aload_n 0, 1) := by decide +kernel
theorem dX2_take_377 : decode cX2_take 377 = .ok (.getfield 33, 3) := by decide +kernel
theorem dX2_take_380 : decode cX2_take 380 = .ok (.iload 9, 2) := by decide +kernel
theorem dX2_take_382 : decode cX2_take 382 = .ok (.sipush 4096, 3) := by decide +kernel
theorem dX2_take_385 : decode cX2_take 385 = .ok (.imul, 1) := by decide +kernel
theorem dX2_take_386 : decode cX2_take 386 = .ok (.iload 11, 2) := by decide +kernel
theorem dX2_take_388 : decode cX2_take 388 = .ok (.iadd, 1) := by decide +kernel
theorem dX2_take_389 : decode cX2_take 389 = .ok (.iaload, 1) := by decide +kernel
theorem dX2_take_390 : decode cX2_take 390 = .ok (.iconst 1, 1) := by decide +kernel
theorem dX2_take_391 : decode cX2_take 391 = .ok (.isub, 1) := by decide +kernel
theorem dX2_take_392 : decode cX2_take 392 = .ok (.iastore, 1) := by decide +kernel
theorem dX2_take_393 : decode cX2_take 393 = .ok (.iinc 11 1, 3) := by decide +kernel
theorem dX2_take_396 : decode cX2_take 396 = .ok (.goto (-35), 3) := by decide +kernel
theorem dX2_take_399 : decode cX2_take 399 = .ok (.aload_n 0, 1) := by decide +kernel
theorem dX2_take_400 : decode cX2_take 400 = .ok (.getfield 29, 3) := by decide +kernel
theorem dX2_take_403 : decode cX2_take 403 = .ok (.iload 9, 2) := by decide +kernel
theorem dX2_take_405 : decode cX2_take 405 = .ok (.iconst 0, 1) := by decide +kernel
theorem dX2_take_406 : decode cX2_take 406 = .ok (.bastore, 1) := by decide +kernel
theorem dX2_take_407 : decode cX2_take 407 = .ok (.aload_n 0, 1) := by decide +kernel
theorem dX2_take_408 : decode cX2_take 408 = .ok (.dup, 1) := by decide +kernel
theorem dX2_take_409 : decode cX2_take 409 = .ok (.getfield 60, 3) := by decide +kernel
theorem dX2_take_412 : decode cX2_take 412 = .ok (.iconst 1, 1) := by decide +kernel
theorem dX2_take_413 : decode cX2_take 413 = .ok (.iadd, 1) := by decide +kernel
theorem dX2_take_414 : decode cX2_take 414 = .ok (.putfield 60, 3) := by decide +kernel
theorem dX2_take_417 : decode cX2_take 417 = .ok (.aload_n 0, 1) := by decide +kernel
theorem dX2_take_418 : decode cX2_take 418 = .ok (.getfield 39, 3) := by decide +kernel
theorem dX2_take_421 : decode cX2_take 421 = .ok (.ireturn, 1) := by decide +kernel
theorem dX2_pass_0 : decode cX2_pass 0 = .ok (.iload_n 1, 1) := by decide +kernel
theorem dX2_pass_1 : decode cX2_pass 1 = .ok (.aload_n 0, 1) := by decide +kernel
theorem dX2_pass_2 : decode cX2_pass 2 = .ok (.getfield 50, 3) := by decide +kernel
theorem dX2_pass_5 : decode cX2_pass 5 = .ok (.if_icmp .lt 9, 3) := by decide +kernel
theorem dX2_pass_8 : decode cX2_pass 8 = .ok (.iload_n 1, 1) := by decide +kernel
theorem dX2_pass_9 : decode cX2_pass 9 = .ok (.ldc 63, 2) := by decide +kernel
theorem dX2_pass_11 : decode cX2_pass 11 = .ok (.if_icmp .le 5, 3) := by decide +kernel
theorem dX2_pass_14 : decode cX2_pass 14 = .ok (.iconst (-1), 1) := by decide +kernel
theorem dX2_pass_15 : decode cX2_pass 15 = .ok (.ireturn, 1) := by decide +kernel
theorem dX2_pass_16 : decode cX2_pass 16 = .ok (.aload_n 0, 1) := by decide +kernel
theorem dX2_pass_17 : decode cX2_pass 17 = .ok (.iload_n 1, 1) := by decide +kernel
theorem dX2_pass_18 : decode cX2_pass 18 = .ok (.putfield 50, 3) := by decide +kernel
theorem dX2_pass_21 : decode cX2_pass 21 = .ok (.iconst 0, 1) := by decide +kernel
theorem dX2_pass_22 : decode cX2_pass 22 = .ok (.istore_n 2, 1) := by decide +kernel
theorem dX2_pass_23 : decode cX2_pass 23 = .ok (.iconst 0, 1) := by decide +kernel
theorem dX2_pass_24 : decode cX2_pass 24 = .ok (.istore_n 3, 1) := by decide +kernel
theorem dX2_pass_25 : decode cX2_pass 25 = .ok (.iload_n 3, 1) := by decide +kernel
theorem dX2_pass_26 : decode cX2_pass 26 = .ok (.iconst 4, 1) := by decide +kernel
theorem dX2_pass_27 : decode cX2_pass 27 = .ok (.if_icmp .ge 42, 3) := by decide +kernel
theorem dX2_pass_30 : decode cX2_pass 30 = .ok (.aload_n 0, 1) := by decide +kernel
theorem dX2_pass_31 : decode cX2_pass 31 = .ok (.getfield 29, 3) := by decide +kernel
theorem dX2_pass_34 : decode cX2_pass 34 = .ok (.iload_n 3, 1) := by decide +kernel
theorem dX2_pass_35 : decode cX2_pass 35 = .ok (.baload, 1) := by decide +kernel
theorem dX2_pass_36 : decode cX2_pass 36 = .ok (.ifCond .eq 27, 3) := by decide +kernel
theorem dX2_pass_39 : decode cX2_pass 39 = .ok (.iload_n 1, 1) := by decide +kernel
theorem dX2_pass_40 : decode cX2_pass 40 = .ok (.aload_n 0, 1) := by decide +kernel
theorem dX2_pass_41 : decode cX2_pass 41 = .ok (.getfield 26, 3) := by decide +kernel
theorem dX2_pass_44 : decode cX2_pass 44 = .ok (.iload_n 3, 1) := by decide +kernel
theorem dX2_pass_45 : decode cX2_pass 45 = .ok (.iaload, 1) := by decide +kernel
theorem dX2_pass_46 : decode cX2_pass 46 = .ok (.isub, 1) := by decide +kernel
theorem dX2_pass_47 : decode cX2_pass 47 = .ok (.sipush 15000, 3) := by decide +kernel
theorem dX2_pass_50 : decode cX2_pass 50 = .ok (.if_icmp .lt 13, 3) := by decide +kernel
theorem dX2_pass_53 : decode cX2_pass 53 = .ok (.aload_n 0, 1) := by decide +kernel
theorem dX2_pass_54 : decode cX2_pass 54 = .ok (.getfield 29, 3) := by decide +kernel
theorem dX2_pass_57 : decode cX2_pass 57 = .ok (.iload_n 3, 1) := by decide +kernel
theorem dX2_pass_58 : decode cX2_pass 58 = .ok (.iconst 0, 1) := by decide +kernel
theorem dX2_pass_59 : decode cX2_pass 59 = .ok (.bastore, 1) := by decide +kernel
theorem dX2_pass_60 : decode cX2_pass 60 = .ok (.iinc 2 1, 3) := by decide +kernel
theorem dX2_pass_63 : decode cX2_pass 63 = .ok (.iinc 3 1, 3) := by decide +kernel
theorem dX2_pass_66 : decode cX2_pass 66 = .ok (.goto (-41), 3) := by decide +kernel
theorem dX2_pass_69 : decode cX2_pass 69 = .ok (.iload_n 2, 1) := by decide +kernel
