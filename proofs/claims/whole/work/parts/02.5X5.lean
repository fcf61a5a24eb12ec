theorem dX5_holds_51 : decode cX5_holds 51 = .ok (.iaload, 1) := by decide +kernel
theorem dX5_holds_52 : decode cX5_holds 52 = .ok (.bipush 30, 2) := by decide +kernel
theorem dX5_holds_54 : decode cX5_holds 54 = .ok (.if_icmp .le 24, 3) := by decide +kernel
theorem dX5_holds_57 : decode cX5_holds 57 = .ok (.aload_n 0, 1) := by decide +kernel
theorem dX5_holds_58 : decode cX5_holds 58 = .ok (.iload_n 1, 1) := by decide +kernel
theorem dX5_holds_59 : decode cX5_holds 59 = .ok (.iconst 0, 1) := by decide +kernel
theorem dX5_holds_60 : decode cX5_holds 60 = .ok (.aload_n 0, 1) := by decide +kernel
theorem dX5_holds_61 : decode cX5_holds 61 = .ok (.iload_n 1, 1) := by decide +kernel
theorem dX5_holds_62 : decode cX5_holds 62 = .ok (.iconst 0, 1) := by decide +kernel
theorem dX5_holds_63 : decode cX5_holds 63 = .ok (.invokevirtual 69, 3) := by decide +kernel
theorem dX5_holds_66 : decode cX5_holds 66 = .ok (.iconst 1, 1) := by decide +kernel
theorem dX5_holds_67 : decode cX5_holds 67 = .ok (.isub, 1) := by decide +kernel
theorem dX5_holds_68 : decode cX5_holds 68 = .ok (.iconst 0, 1) := by decide +kernel
theorem dX5_holds_69 : decode cX5_holds 69 = .ok (.sipush 200, 3) := by decide +kernel
theorem dX5_holds_72 : decode cX5_holds 72 = .ok (.invokestatic 119, 3) := by decide +kernel
theorem dX5_holds_75 : decode cX5_holds 75 = .ok (.invokevirtual 110, 3) := by decide +kernel
theorem dX5_holds_78 : decode cX5_holds 78 = .ok (.return_, 1) := by decide +kernel
set_option maxRecDepth 20000 in
theorem ggX5_goes_X5_push : GoodIn wsX5_goes wsX5_push := goodIn_r _ [7, 1, 8, 9, 10, 6, 11, 12, 13, 14, 15, 16, 17, 18, 19, 20, 21, 22, 23, 24, 25, 26, 27, 28, 29, 30, 31, 32, 33, 34, 35, 36, 37, 38, 74, 75, 76, 77, 78, 79, 80, 81, 82, 83, 84, 85, 86, 87, 88] (by decide +kernel) (by decide +kernel)
set_option maxRecDepth 20000 in
theorem gX5_goes_X5_push : GoodIn wsX5_goes (wsV RX5 84 RX5 yX5_push wsX5_push) := goodIn_app (goodIn_of _ (by decide +kernel)) ggX5_goes_X5_push
set_option maxRecDepth 20000 in
theorem ggX5_goes_X5_weight : GoodIn wsX5_goes wsX5_weight := goodIn_r _ [42, 1, 43, 44, 45, 6, 46, 47, 48, 49, 50, 24, 25, 26, 74, 75, 76, 77, 78, 79, 80, 81, 82, 83, 84, 85, 86, 87, 88] (by decide +kernel) (by decide +kernel)
set_option maxRecDepth 20000 in
theorem gX5_goes_X5_weight : GoodIn wsX5_goes (wsV RX5 81 RX5 yX5_weight wsX5_weight) := goodIn_app (goodIn_of _ (by decide +kernel)) ggX5_goes_X5_weight
set_option maxRecDepth 20000 in
theorem ggX5_goes_X5_held : GoodIn wsX5_goes wsX5_held := goodIn_r _ [53] (by decide +kernel) (by decide +kernel)
set_option maxRecDepth 20000 in
theorem gX5_goes_X5_held : GoodIn wsX5_goes (va_wsS RX5 119 yX5_held wsX5_held) := goodIn_app (goodIn_of _ (by decide +kernel)) ggX5_goes_X5_held
set_option maxRecDepth 20000 in
theorem ggX5_goes_X5_about : GoodIn wsX5_goes wsX5_about := goodIn_r _ [50, 1, 74, 75, 76, 77, 78, 79, 80, 81, 82, 83, 84, 85, 86, 87, 88] (by decide +kernel) (by decide +kernel)
set_option maxRecDepth 20000 in
theorem gX5_goes_X5_about : GoodIn wsX5_goes (wsV RX5 69 RX5 yX5_about wsX5_about) := goodIn_app (goodIn_of _ (by decide +kernel)) ggX5_goes_X5_about
set_option maxRecDepth 20000 in
theorem ggX5_goes_X5_holds : GoodIn wsX5_goes wsX5_holds := goodIn_r _ [57, 1, 47, 48, 49, 6, 50, 58, 59, 60, 61, 51, 52, 53, 74, 75, 76, 77, 78, 79, 80, 81, 82, 83, 84, 85, 86, 87, 88] (by decide +kernel) (by decide +kernel)
set_option maxRecDepth 20000 in
theorem gX5_goes_X5_holds : GoodIn wsX5_goes (wsV RX5 123 RX5 yX5_holds wsX5_holds) := goodIn_app (goodIn_of _ (by decide +kernel)) ggX5_goes_X5_holds
set_option maxRecDepth 20000 in
theorem ggX5_goes_X5_it : GoodIn wsX5_goes wsX5_it := goodIn_r _ [11, 1, 74, 75, 76, 77, 78, 79, 80, 81, 82, 83, 84, 85, 86, 87, 88] (by decide +kernel) (by decide +kernel)
set_option maxRecDepth 20000 in
theorem gX5_goes_X5_it : GoodIn wsX5_goes (wsV RX5 49 RX5 yX5_it wsX5_it) := goodIn_app (goodIn_of _ (by decide +kernel)) ggX5_goes_X5_it
set_option maxRecDepth 20000 in
theorem ggX5_goes_X5_doesSpeak : GoodIn wsX5_goes wsX5_doesSpeak := goodIn_r _ [65, 1, 8, 9, 10, 6, 11, 16, 17, 18, 19, 20, 21, 22, 23, 24, 25, 26, 27, 28, 29, 30, 31, 32, 33, 34, 74, 75, 76, 77, 78, 79, 80, 81, 82, 83, 84, 85, 86, 87, 88] (by decide +kernel) (by decide +kernel)
set_option maxRecDepth 20000 in
theorem gX5_goes_X5_doesSpeak : GoodIn wsX5_goes (wsV RX5 100 RX5 yX5_doesSpeak wsX5_doesSpeak) := goodIn_app (goodIn_of _ (by decide +kernel)) ggX5_goes_X5_doesSpeak
set_option maxRecDepth 20000 in
theorem ggX5_goes_X5_lessBy : GoodIn wsX5_goes wsX5_lessBy := goodIn_r _ [69, 8, 9, 10, 6, 11, 1, 74, 75, 76, 77, 78, 79, 80, 81, 82, 83, 84, 85, 86, 87, 88] (by decide +kernel) (by decide +kernel)
set_option maxRecDepth 20000 in
theorem gX5_goes_X5_lessBy : GoodIn wsX5_goes (wsV RX5 103 RX5 yX5_lessBy wsX5_lessBy) := goodIn_app (goodIn_of _ (by decide +kernel)) ggX5_goes_X5_lessBy
set_option maxRecDepth 20000 in
theorem ggX5_goes_X5_put : GoodIn wsX5_goes wsX5_put := goodIn_r _ [73, 1, 74, 75, 76, 77, 78, 79, 80, 81, 82, 83, 84, 85, 86, 87, 88] (by decide +kernel) (by decide +kernel)
set_option maxRecDepth 20000 in
theorem gX5_goes_X5_put : GoodIn wsX5_goes (wsV RX5 87 RX5 yX5_put wsX5_put) := goodIn_app (goodIn_of _ (by decide +kernel)) ggX5_goes_X5_put
theorem dX5_goes_0 : decode cX5_goes 0 = .ok (.aload_n 0, 1) := by decide +kernel
theorem dX5_goes_1 : decode cX5_goes 1 = .ok (.getfield 9, 3) := by decide +kernel
theorem dX5_goes_4 : decode cX5_goes 4 = .ok (.iconst 3, 1) := by decide +kernel
theorem dX5_goes_5 : decode cX5_goes 5 = .ok (.iaload, 1) := by decide +kernel
theorem dX5_goes_6 : decode cX5_goes 6 = .ok (.istore_n 1, 1) := by decide +kernel
theorem dX5_goes_7 : decode cX5_goes 7 = .ok (.aload_n 0, 1) := by decide +kernel
theorem dX5_goes_8 : decode cX5_goes 8 = .ok (.invokevirtual 84, 3) := by decide +kernel
theorem dX5_goes_11 : decode cX5_goes 11 = .ok (.aload_n 0, 1) := by decide +kernel
theorem dX5_goes_12 : decode cX5_goes 12 = .ok (.invokevirtual 81, 3) := by decide +kernel
theorem dX5_goes_15 : decode cX5_goes 15 = .ok (.idiv, 1) := by decide +kernel
theorem dX5_goes_16 : decode cX5_goes 16 = .ok (.istore_n 2, 1) := by decide +kernel
theorem dX5_goes_17 : decode cX5_goes 17 = .ok (.iload_n 1, 1) := by decide +kernel
theorem dX5_goes_18 : decode cX5_goes 18 = .ok (.bipush 20, 2) := by decide +kernel
theorem dX5_goes_20 : decode cX5_goes 20 = .ok (.if_icmp .ge 7, 3) := by decide +kernel
theorem dX5_goes_23 : decode cX5_goes 23 = .ok (.iconst 1, 1) := by decide +kernel
theorem dX5_goes_24 : decode cX5_goes 24 = .ok (.goto 7, 3) := by decide +kernel
theorem dX5_goes_27 : decode cX5_goes 27 = .ok (.iload_n 1, 1) := by decide +kernel
theorem dX5_goes_28 : decode cX5_goes 28 = .ok (.bipush 10, 2) := by decide +kernel
theorem dX5_goes_30 : decode cX5_goes 30 = .ok (.idiv, 1) := by decide +kernel
theorem dX5_goes_31 : decode cX5_goes 31 = .ok (.istore_n 3, 1) := by decide +kernel
theorem dX5_goes_32 : decode cX5_goes 32 = .ok (.aload_n 0, 1) := by decide +kernel
theorem dX5_goes_33 : decode cX5_goes 33 = .ok (.getfield 9, 3) := by decide +kernel
theorem dX5_goes_36 : decode cX5_goes 36 = .ok (.iconst 3, 1) := by decide +kernel
theorem dX5_goes_37 : decode cX5_goes 37 = .ok (.iload_n 1, 1) := by decide +kernel
theorem dX5_goes_38 : decode cX5_goes 38 = .ok (.iload_n 2, 1) := by decide +kernel
theorem dX5_goes_39 : decode cX5_goes 39 = .ok (.iadd, 1) := by decide +kernel
theorem dX5_goes_40 : decode cX5_goes 40 = .ok (.iload_n 3, 1) := by decide +kernel
theorem dX5_goes_41 : decode cX5_goes 41 = .ok (.isub, 1) := by decide +kernel
theorem dX5_goes_42 : decode cX5_goes 42 = .ok (.iconst 0, 1) := by decide +kernel
theorem dX5_goes_43 : decode cX5_goes 43 = .ok (.sipush 200, 3) := by decide +kernel
theorem dX5_goes_46 : decode cX5_goes 46 = .ok (.invokestatic 119, 3) := by decide +kernel
theorem dX5_goes_49 : decode cX5_goes 49 = .ok (.iastore, 1) := by decide +kernel
theorem dX5_goes_50 : decode cX5_goes 50 = .ok (.aload_n 0, 1) := by decide +kernel
theorem dX5_goes_51 : decode cX5_goes 51 = .ok (.getfield 9, 3) := by decide +kernel
theorem dX5_goes_54 : decode cX5_goes 54 = .ok (.iconst 4, 1) := by decide +kernel
theorem dX5_goes_55 : decode cX5_goes 55 = .ok (.aload_n 0, 1) := by decide +kernel
theorem dX5_goes_56 : decode cX5_goes 56 = .ok (.getfield 9, 3) := by decide +kernel
theorem dX5_goes_59 : decode cX5_goes 59 = .ok (.iconst 4, 1) := by decide +kernel
theorem dX5_goes_60 : decode cX5_goes 60 = .ok (.iaload, 1) := by decide +kernel
theorem dX5_goes_61 : decode cX5_goes 61 = .ok (.aload_n 0, 1) := by decide +kernel
theorem dX5_goes_62 : decode cX5_goes 62 = .ok (.getfield 9, 3) := by decide +kernel
theorem dX5_goes_65 : decode cX5_goes 65 = .ok (.iconst 3, 1) := by decide +kernel
theorem dX5_goes_66 : decode cX5_goes 66 = .ok (.iaload, 1) := by decide +kernel
theorem dX5_goes_67 : decode cX5_goes 67 = .ok (.iadd, 1) := by decide +kernel
theorem dX5_goes_68 : decode cX5_goes 68 = .ok (.iconst 0, 1) := by decide +kernel
theorem dX5_goes_69 : decode cX5_goes 69 = .ok (.ldc 122, 2) := by decide +kernel
theorem dX5_goes_71 : decode cX5_goes 71 = .ok (.invokestatic 119, 3) := by decide +kernel
theorem dX5_goes_74 : decode cX5_goes 74 = .ok (.iastore, 1) := by decide +kernel
theorem dX5_goes_75 : decode cX5_goes 75 = .ok (.iconst 0, 1) := by decide +kernel
theorem dX5_goes_76 : decode cX5_goes 76 = .ok (.istore 4, 2) := by decide +kernel
theorem dX5_goes_78 : decode cX5_goes 78 = .ok (.iload 4, 2) := by decide +kernel
theorem dX5_goes_80 : decode cX5_goes 80 = .ok (.aload_n 0, 1) := by decide +kernel
theorem dX5_goes_81 : decode cX5_goes 81 = .ok (.getfield 9, 3) := by decide +kernel
theorem dX5_goes_84 : decode cX5_goes 84 = .ok (.bipush 6, 2) := by decide +kernel
theorem dX5_goes_86 : decode cX5_goes 86 = .ok (.iaload, 1) := by decide +kernel
theorem dX5_goes_87 : decode cX5_goes 87 = .ok (.if_icmp .ge 26, 3) := by decide +kernel
theorem dX5_goes_90 : decode cX5_goes 90 = .ok (.aload_n 0, 1) := by decide +kernel
theorem dX5_goes_91 : decode cX5_goes 91 = .ok (.iload 4, 2) := by decide +kernel
theorem dX5_goes_93 : decode cX5_goes 93 = .ok (.iconst 1, 1) := by decide +kernel
theorem dX5_goes_94 : decode cX5_goes 94 = .ok (.invokevirtual 69, 3) := by decide +kernel
theorem dX5_goes_97 : decode cX5_goes 97 = .ok (.iconst 1, 1) := by decide +kernel
theorem dX5_goes_98 : decode cX5_goes 98 = .ok (.if_icmp .ne 9, 3) := by decide +kernel
theorem dX5_goes_101 : decode cX5_goes 101 = .ok (.aload_n 0, 1) := by decide +kernel
theorem dX5_goes_102 : decode cX5_goes 102 = .ok (.iload 4, 2) := by decide +kernel
theorem dX5_goes_104 : decode cX5_goes 104 = .ok (.invokevirtual 123, 3) := by decide +kernel
theorem dX5_goes_107 : decode cX5_goes 107 = .ok (.iinc 4 1, 3) := by decide +kernel
theorem dX5_goes_110 : decode cX5_goes 110 = .ok (.goto (-32), 3) := by decide +kernel
theorem dX5_goes_113 : decode cX5_goes 113 = .ok (.iconst 0, 1) := by decide +kernel
theorem dX5_goes_114 : decode cX5_goes 114 = .ok (.istore 4, 2) := by decide +kernel
theorem dX5_goes_116 : decode cX5_goes 116 = .ok (.iload 4, 2) := by decide +kernel
theorem dX5_goes_118 : decode cX5_goes 118 = .ok (.aload_n 0, 1) := by decide +kernel
theorem dX5_goes_119 : decode cX5_goes 119 = .ok (.getfield 9, 3) := by decide +kernel
theorem dX5_goes_122 : decode cX5_goes 122 = .ok (.iconst 5, 1) := by decide +kernel
theorem dX5_goes_123 : decode cX5_goes 123 = .ok (.iaload, 1) := by decide +kernel
theorem dX5_goes_124 : decode cX5_goes 124 = .ok (.if_icmp .ge 96, 3) := by decide +kernel
theorem dX5_goes_127 : decode cX5_goes 127 = .ok (.aload_n 0, 1) := by decide +kernel
theorem dX5_goes_128 : decode cX5_goes 128 = .ok (.iload 4, 2) := by decide +kernel
theorem dX5_goes_130 : decode cX5_goes 130 = .ok (.iconst 1, 1) := by decide +kernel
theorem dX5_goes_131 : decode cX5_goes 131 = .ok (.invokevirtual 49, 3) := by decide +kernel
theorem dX5_goes_134 : decode cX5_goes 134 = .ok (.iconst 1, 1) := by decide +kernel
theorem dX5_goes_135 : decode cX5_goes 135 = .ok (.if_icmp .ne 79, 3) := by decide +kernel
theorem dX5_goes_138 : decode cX5_goes 138 = .ok (.aload_n 0, 1) := by decide +kernel
theorem dX5_goes_139 : decode cX5_goes 139 = .ok (.iload 4, 2) := by decide +kernel
theorem dX5_goes_141 : decode cX5_goes 141 = .ok (.invokevirtual 100, 3) := by decide +kernel
theorem dX5_goes_144 : decode cX5_goes 144 = .ok (.istore 5, 2) := by decide +kernel
theorem dX5_goes_146 : decode cX5_goes 146 = .ok (.aload_n 0, 1) := by decide +kernel
theorem dX5_goes_147 : decode cX5_goes 147 = .ok (.iload 4, 2) := by decide +kernel
theorem dX5_goes_149 : decode cX5_goes 149 = .ok (.iconst 2, 1) := by decide +kernel
theorem dX5_goes_150 : decode cX5_goes 150 = .ok (.aload_n 0, 1) := by decide +kernel
theorem dX5_goes_151 : decode cX5_goes 151 = .ok (.iload 4, 2) := by decide +kernel
theorem dX5_goes_153 : decode cX5_goes 153 = .ok (.iconst 2, 1) := by decide +kernel
theorem dX5_goes_154 : decode cX5_goes 154 = .ok (.invokevirtual 49, 3) := by decide +kernel
theorem dX5_goes_157 : decode cX5_goes 157 = .ok (.iload 5, 2) := by decide +kernel
theorem dX5_goes_159 : decode cX5_goes 159 = .ok (.ifCond .eq 12, 3) := by decide +kernel
theorem dX5_goes_162 : decode cX5_goes 162 = .ok (.aload_n 0, 1) := by decide +kernel
theorem dX5_goes_163 : decode cX5_goes 163 = .ok (.iload 4, 2) := by decide +kernel
theorem dX5_goes_165 : decode cX5_goes 165 = .ok (.invokevirtual 103, 3) := by decide +kernel
theorem dX5_goes_168 : decode cX5_goes 168 = .ok (.goto 4, 3) := by decide +kernel
theorem dX5_goes_171 : decode cX5_goes 171 = .ok (.iconst 0, 1) := by decide +kernel
theorem dX5_goes_172 : decode cX5_goes 172 = .ok (.isub, 1) := by decide +kernel
theorem dX5_goes_173 : decode cX5_goes 173 = .ok (.iconst 0, 1) := by decide +kernel
theorem dX5_goes_174 : decode cX5_goes 174 = .ok (.bipush 99, 2) := by decide +kernel
theorem dX5_goes_176 : decode cX5_goes 176 = .ok (.invokestatic 119, 3) := by decide +kernel
theorem dX5_goes_179 : decode cX5_goes 179 = .ok (.invokevirtual 87, 3) := by decide +kernel
theorem dX5_goes_182 : decode cX5_goes 182 = .ok (.aload_n 0, 1) := by decide +kernel
theorem dX5_goes_183 : decode cX5_goes 183 = .ok (.iload 4, 2) := by decide +kernel
theorem dX5_goes_185 : decode cX5_goes 185 = .ok (.iconst 3, 1) := by decide +kernel
theorem dX5_goes_186 : decode cX5_goes 186 = .ok (.iload 5, 2) := by decide +kernel
theorem dX5_goes_188 : decode cX5_goes 188 = .ok (.ifCond .eq 7, 3) := by decide +kernel
theorem dX5_goes_191 : decode cX5_goes 191 = .ok (.iconst 0, 1) := by decide +kernel
theorem dX5_goes_192 : decode cX5_goes 192 = .ok (.goto 19, 3) := by decide +kernel
theorem dX5_goes_195 : decode cX5_goes 195 = .ok (.aload_n 0, 1) := by decide +kernel
theorem dX5_goes_196 : decode cX5_goes 196 = .ok (.iload 4, 2) := by decide +kernel
theorem dX5_goes_198 : decode cX5_goes 198 = .ok (.iconst 3, 1) := by decide +kernel
theorem dX5_goes_199 : decode cX5_goes 199 = .ok (.invokevirtual 49, 3) := by decide +kernel
theorem dX5_goes_202 : decode cX5_goes 202 = .ok (.iconst 1, 1) := by decide +kernel
theorem dX5_goes_203 : decode cX5_goes 203 = .ok (.iadd, 1) := by decide +kernel
theorem dX5_goes_204 : decode cX5_goes 204 = .ok (.iconst 0, 1) := by decide +kernel
theorem dX5_goes_205 : decode cX5_goes 205 = .ok (.sipush 999, 3) := by decide +kernel
theorem dX5_goes_208 : decode cX5_goes 208 = .ok (.invokestatic 119, 3) := by decide +kernel
theorem dX5_goes_211 : decode cX5_goes 211 = .ok (.invokevirtual 87, 3) := by decide +kernel
theorem dX5_goes_214 : decode cX5_goes 214 = .ok (.iinc 4 1, 3) := by decide +kernel
theorem dX5_goes_217 : decode cX5_goes 217 = .ok (.goto (-101), 3) := by decide +kernel
theorem dX5_goes_220 : decode cX5_goes 220 = .ok (.aload_n 0, 1) := by decide +kernel
theorem dX5_goes_221 : decode cX5_goes 221 = .ok (.getfield 9, 3) := by decide +kernel
theorem dX5_goes_224 : decode cX5_goes 224 = .ok (.iconst 0, 1) := by decide +kernel
theorem dX5_goes_225 : decode cX5_goes 225 = .ok (.dup2, 1) := by decide +kernel
theorem dX5_goes_226 : decode cX5_goes 226 = .ok (.iaload, 1) := by decide +kernel
theorem dX5_goes_227 : decode cX5_goes 227 = .ok (.iconst 1, 1) := by decide +kernel
theorem dX5_goes_228 : decode cX5_goes 228 = .ok (.iadd, 1) := by decide +kernel
theorem dX5_goes_229 : decode cX5_goes 229 = .ok (.iastore, 1) := by decide +kernel
theorem dX5_goes_230 : decode cX5_goes 230 = .ok (.return_, 1) := by decide +kernel
set_option maxRecDepth 20000 in
theorem ggX5_goesFor_X5_goes : GoodIn wsX5_goesFor wsX5_goes := goodIn_r _ [5, 6, 7, 8, 9, 10, 4, 11, 12, 13, 14, 15, 16, 17, 18, 19, 20, 21, 22, 23, 24, 25, 26, 27, 28, 29, 30, 31, 32, 33, 34, 35, 36, 37, 38, 39, 40, 41, 42, 43, 44, 45, 46, 47, 48, 49, 50, 51, 52, 53, 54, 55, 56, 57, 58, 59, 60, 61, 62, 63, 64, 65, 66, 67, 68, 69, 70, 71, 72, 73, 74, 75, 76, 77, 78, 79, 80, 81, 82, 83, 84, 85, 86, 87, 88, 89, 90, 91, 92] (by decide +kernel) (by decide +kernel)
set_option maxRecDepth 20000 in
theorem gX5_goesFor_X5_goes : GoodIn wsX5_goesFor (wsV RX5 127 RX5 yX5_goes wsX5_goes) := goodIn_app (goodIn_of _ (by decide +kernel)) ggX5_goesFor_X5_goes
theorem dX5_goesFor_0 : decode cX5_goesFor 0 = .ok (.iconst 0, 1) := by decide +kernel
theorem dX5_goesFor_1 : decode cX5_goesFor 1 = .ok (.istore_n 2, 1) := by decide +kernel
theorem dX5_goesFor_2 : decode cX5_goesFor 2 = .ok (.iload_n 2, 1) := by decide +kernel
theorem dX5_goesFor_3 : decode cX5_goesFor 3 = .ok (.iload_n 1, 1) := by decide +kernel
theorem dX5_goesFor_4 : decode cX5_goesFor 4 = .ok (.if_icmp .ge 13, 3) := by decide +kernel
theorem dX5_goesFor_7 : decode cX5_goesFor 7 = .ok (.aload_n 0, 1) := by decide +kernel
theorem dX5_goesFor_8 : decode cX5_goesFor 8 = .ok (.invokevirtual 127, 3) := by decide +kernel
theorem dX5_goesFor_11 : decode cX5_goesFor 11 = .ok (.iinc 2 1, 3) := by decide +kernel
theorem dX5_goesFor_14 : decode cX5_goesFor 14 = .ok (.goto (-12), 3) := by decide +kernel
theorem dX5_goesFor_17 : decode cX5_goesFor 17 = .ok (.return_, 1) := by decide +kernel
set_option maxRecDepth 20000 in
theorem ggX5_minutes_X5_in : GoodIn wsX5_minutes wsX5_in := goodIn_r _ [8] (by decide +kernel) (by decide +kernel)
set_option maxRecDepth 20000 in
theorem gX5_minutes_X5_in : GoodIn wsX5_minutes (va_wsS RX5 41 yX5_in wsX5_in) := goodIn_app (goodIn_of _ (by decide +kernel)) ggX5_minutes_X5_in
set_option maxRecDepth 20000 in
theorem ggX5_minutes_X5_finds : GoodIn wsX5_minutes wsX5_finds := goodIn_r _ [12, 13, 1, 93, 94, 95, 96, 97, 98, 99, 100, 101, 102, 103, 104, 105, 106, 107] (by decide +kernel) (by decide +kernel)
set_option maxRecDepth 20000 in
theorem gX5_minutes_X5_finds : GoodIn wsX5_minutes (wsV RX5 37 RX5 yX5_finds wsX5_finds) := goodIn_app (goodIn_of _ (by decide +kernel)) ggX5_minutes_X5_finds
set_option maxRecDepth 20000 in
theorem ggX5_minutes_X5_goesFor : GoodIn wsX5_minutes wsX5_goesFor := goodIn_r _ [17, 18, 19, 20, 7, 21, 2, 22, 23, 24, 25, 26, 27, 28, 29, 30, 31, 32, 33, 34, 35, 36, 37, 38, 39, 40, 41, 42, 43, 44, 45, 46, 47, 48, 49, 50, 51, 52, 53, 54, 55, 56, 57, 58, 59, 60, 61, 62, 63, 64, 65, 66, 67, 68, 69, 70, 71, 72, 73, 74, 75, 76, 77, 78, 79, 80, 81, 82, 83, 84, 85, 86, 87, 88, 89, 90, 91, 92, 93, 94, 95, 96, 97, 98, 99, 100, 101, 102, 103, 104, 105, 106, 107] (by decide +kernel) (by decide +kernel)
set_option maxRecDepth 20000 in
theorem gX5_minutes_X5_goesFor : GoodIn wsX5_minutes (wsV RX5 132 RX5 yX5_goesFor wsX5_goesFor) := goodIn_app (goodIn_of _ (by decide +kernel)) ggX5_minutes_X5_goesFor
theorem dX5_minutes_0 : decode cX5_minutes 0 = .ok (.iload_n 1, 1) := by decide +kernel
theorem dX5_minutes_1 : decode cX5_minutes 1 = .ok (.i2l, 1) := by decide +kernel
theorem dX5_minutes_2 : decode cX5_minutes 2 = .ok (.iconst 1, 1) := by decide +kernel
theorem dX5_minutes_3 : decode cX5_minutes 3 = .ok (.bipush 100, 2) := by decide +kernel
theorem dX5_minutes_5 : decode cX5_minutes 5 = .ok (.invokestatic 41, 3) := by decide +kernel
theorem dX5_minutes_8 : decode cX5_minutes 8 = .ok (.ifCond .ne 10, 3) := by decide +kernel
theorem dX5_minutes_11 : decode cX5_minutes 11 = .ok (.aload_n 0, 1) := by decide +kernel
theorem dX5_minutes_12 : decode cX5_minutes 12 = .ok (.ldc 35, 2) := by decide +kernel
theorem dX5_minutes_14 : decode cX5_minutes 14 = .ok (.invokevirtual 37, 3) := by decide +kernel
theorem dX5_minutes_17 : decode cX5_minutes 17 = .ok (.ireturn, 1) := by decide +kernel
theorem dX5_minutes_18 : decode cX5_minutes 18 = .ok (.aload_n 0, 1) := by decide +kernel
theorem dX5_minutes_19 : decode cX5_minutes 19 = .ok (.getfield 9, 3) := by decide +kernel
theorem dX5_minutes_22 : decode cX5_minutes 22 = .ok (.iconst 0, 1) := by decide +kernel
theorem dX5_minutes_23 : decode cX5_minutes 23 = .ok (.iaload, 1) := by decide +kernel
theorem dX5_minutes_24 : decode cX5_minutes 24 = .ok (.iload_n 1, 1) := by decide +kernel
theorem dX5_minutes_25 : decode cX5_minutes 25 = .ok (.iadd, 1) := by decide +kernel
theorem dX5_minutes_26 : decode cX5_minutes 26 = .ok (.ldc 130, 2) := by decide +kernel
theorem dX5_minutes_28 : decode cX5_minutes 28 = .ok (.if_icmp .le 10, 3) := by decide +kernel
theorem dX5_minutes_31 : decode cX5_minutes 31 = .ok (.aload_n 0, 1) := by decide +kernel
theorem dX5_minutes_32 : decode cX5_minutes 32 = .ok (.ldc 131, 2) := by decide +kernel
theorem dX5_minutes_34 : decode cX5_minutes 34 = .ok (.invokevirtual 37, 3) := by decide +kernel
theorem dX5_minutes_37 : decode cX5_minutes 37 = .ok (.ireturn, 1) := by decide +kernel
theorem dX5_minutes_38 : decode cX5_minutes 38 = .ok (.aload_n 0, 1) := by decide +kernel
theorem dX5_minutes_39 : decode cX5_minutes 39 = .ok (.iload_n 1, 1) := by decide +kernel
theorem dX5_minutes_40 : decode cX5_minutes 40 = .ok (.invokevirtual 132, 3) := by decide +kernel
theorem dX5_minutes_43 : decode cX5_minutes 43 = .ok (.aload_n 0, 1) := by decide +kernel
theorem dX5_minutes_44 : decode cX5_minutes 44 = .ok (.getfield 9, 3) := by decide +kernel
theorem dX5_minutes_47 : decode cX5_minutes 47 = .ok (.iconst 3, 1) := by decide +kernel
theorem dX5_minutes_48 : decode cX5_minutes 48 = .ok (.iaload, 1) := by decide +kernel
theorem dX5_minutes_49 : decode cX5_minutes 49 = .ok (.ireturn, 1) := by decide +kernel
set_option maxRecDepth 20000 in
theorem ggX5_thinks_X5_copyAll : GoodIn wsX5_thinks wsX5_copyAll := goodIn_r _ [6] (by decide +kernel) (by decide +kernel)
set_option maxRecDepth 20000 in
theorem gX5_thinks_X5_copyAll : GoodIn wsX5_thinks (va_wsS RX5 135 yX5_copyAll wsX5_copyAll) := goodIn_app (goodIn_of _ (by decide +kernel)) ggX5_thinks_X5_copyAll
theorem dX5_thinks_0 : decode cX5_thinks 0 = .ok (.aload_n 0, 1) := by decide +kernel
theorem dX5_thinks_1 : decode cX5_thinks 1 = .ok (.getfield 9, 3) := by decide +kernel
theorem dX5_thinks_4 : decode cX5_thinks 4 = .ok (.aload_n 0, 1) := by decide +kernel
theorem dX5_thinks_5 : decode cX5_thinks 5 = .ok (.getfield 16, 3) := by decide +kernel
theorem dX5_thinks_8 : decode cX5_thinks 8 = .ok (.invokestatic 135, 3) := by decide +kernel
theorem dX5_thinks_11 : decode cX5_thinks 11 = .ok (.return_, 1) := by decide +kernel
set_option maxRecDepth 20000 in
theorem ggX5_putsBack_X5_copyAll : GoodIn wsX5_putsBack wsX5_copyAll := goodIn_r _ [6] (by decide +kernel) (by decide +kernel)
set_option maxRecDepth 20000 in
theorem gX5_putsBack_X5_copyAll : GoodIn wsX5_putsBack (va_wsS RX5 135 yX5_copyAll wsX5_copyAll) := goodIn_app (goodIn_of _ (by decide +kernel)) ggX5_putsBack_X5_copyAll
theorem dX5_putsBack_0 : decode cX5_putsBack 0 = .ok (.aload_n 0, 1) := by decide +kernel
theorem dX5_putsBack_1 : decode cX5_putsBack 1 = .ok (.getfield 16, 3) := by decide +kernel
theorem dX5_putsBack_4 : decode cX5_putsBack 4 = .ok (.aload_n 0, 1) := by decide +kernel
theorem dX5_putsBack_5 : decode cX5_putsBack 5 = .ok (.getfield 9, 3) := by decide +kernel
theorem dX5_putsBack_8 : decode cX5_putsBack 8 = .ok (.invokestatic 135, 3) := by decide +kernel
theorem dX5_putsBack_11 : decode cX5_putsBack 11 = .ok (.return_, 1) := by decide +kernel
set_option maxRecDepth 20000 in
theorem ggX5_on_X5_in : GoodIn wsX5_on wsX5_in := goodIn_r _ [6] (by decide +kernel) (by decide +kernel)
set_option maxRecDepth 20000 in
theorem gX5_on_X5_in : GoodIn wsX5_on (va_wsS RX5 41 yX5_in wsX5_in) := goodIn_app (goodIn_of _ (by decide +kernel)) ggX5_on_X5_in
set_option maxRecDepth 20000 in
theorem ggX5_on_X5_finds : GoodIn wsX5_on wsX5_finds := goodIn_r _ [10, 11, 1, 103, 104, 105, 106, 107, 108, 109, 110, 111, 112, 113, 114, 115, 116, 117] (by decide +kernel) (by decide +kernel)
set_option maxRecDepth 20000 in
theorem gX5_on_X5_finds : GoodIn wsX5_on (wsV RX5 37 RX5 yX5_finds wsX5_finds) := goodIn_app (goodIn_of _ (by decide +kernel)) ggX5_on_X5_finds
set_option maxRecDepth 20000 in
theorem ggX5_on_X5_thinks : GoodIn wsX5_on wsX5_thinks := goodIn_r _ [15, 2, 16, 17, 18, 5, 19, 103, 104, 105, 106, 107, 108, 109, 110, 111, 112, 113, 114, 115, 116, 117] (by decide +kernel) (by decide +kernel)
set_option maxRecDepth 20000 in
theorem gX5_on_X5_thinks : GoodIn wsX5_on (wsV RX5 139 RX5 yX5_thinks wsX5_thinks) := goodIn_app (goodIn_of _ (by decide +kernel)) ggX5_on_X5_thinks
set_option maxRecDepth 20000 in
theorem ggX5_on_X5_goesFor : GoodIn wsX5_on wsX5_goesFor := goodIn_r _ [23, 24, 25, 26, 5, 27, 2, 28, 29, 30, 31, 32, 33, 34, 35, 36, 37, 38, 39, 40, 41, 42, 43, 44, 45, 46, 47, 48, 49, 50, 51, 52, 53, 54, 55, 56, 57, 58, 59, 60, 61, 62, 63, 64, 65, 66, 67, 68, 69, 70, 71, 72, 73, 74, 75, 76, 77, 78, 79, 80, 81, 82, 83, 84, 85, 86, 87, 88, 89, 90, 91, 92, 93, 94, 95, 96, 97, 98, 103, 104, 105, 106, 107, 108, 109, 110, 111, 112, 113, 114, 115, 116, 117] (by decide +kernel) (by decide +kernel)
set_option maxRecDepth 20000 in
theorem gX5_on_X5_goesFor : GoodIn wsX5_on (wsV RX5 132 RX5 yX5_goesFor wsX5_goesFor) := goodIn_app (goodIn_of _ (by decide +kernel)) ggX5_on_X5_goesFor
set_option maxRecDepth 20000 in
theorem ggX5_on_X5_riders : GoodIn wsX5_on wsX5_riders := goodIn_r _ [71, 2, 72, 73, 74, 5, 75, 103, 104, 105, 106, 107, 108, 109, 110, 111, 112, 113, 114, 115, 116, 117] (by decide +kernel) (by decide +kernel)
set_option maxRecDepth 20000 in
theorem gX5_on_X5_riders : GoodIn wsX5_on (wsV RX5 72 RX5 yX5_riders wsX5_riders) := goodIn_app (goodIn_of _ (by decide +kernel)) ggX5_on_X5_riders
set_option maxRecDepth 20000 in
theorem ggX5_on_X5_putsBack : GoodIn wsX5_on wsX5_putsBack := goodIn_r _ [102, 16, 2, 17, 18, 5, 19, 103, 104, 105, 106, 107, 108, 109, 110, 111, 112, 113, 114, 115, 116, 117] (by decide +kernel) (by decide +kernel)
set_option maxRecDepth 20000 in
theorem gX5_on_X5_putsBack : GoodIn wsX5_on (wsV RX5 142 RX5 yX5_putsBack wsX5_putsBack) := goodIn_app (goodIn_of _ (by decide +kernel)) ggX5_on_X5_putsBack
theorem dX5_on_0 : decode cX5_on 0 = .ok (.iload_n 1, 1) := by decide +kernel
theorem dX5_on_1 : decode cX5_on 1 = .ok (.i2l, 1) := by decide +kernel
theorem dX5_on_2 : decode cX5_on 2 = .ok (.iconst 0, 1) := by decide +kernel
theorem dX5_on_3 : decode cX5_on 3 = .ok (.sipush 200, 3) := by decide +kernel
theorem dX5_on_6 : decode cX5_on 6 = .ok (.invokestatic 41, 3) := by decide +kernel
theorem dX5_on_9 : decode cX5_on 9 = .ok (.ifCond .eq 13, 3) := by decide +kernel
theorem dX5_on_12 : decode cX5_on 12 = .ok (.iload_n 2, 1) := by decide +kernel
theorem dX5_on_13 : decode cX5_on 13 = .ok (.i2l, 1) := by decide +kernel
theorem dX5_on_14 : decode cX5_on 14 = .ok (.iconst 0, 1) := by decide +kernel
theorem dX5_on_15 : decode cX5_on 15 = .ok (.iconst 2, 1) := by decide +kernel
theorem dX5_on_16 : decode cX5_on 16 = .ok (.invokestatic 41, 3) := by decide +kernel
theorem dX5_on_19 : decode cX5_on 19 = .ok (.ifCond .ne 10, 3) := by decide +kernel
theorem dX5_on_22 : decode cX5_on 22 = .ok (.aload_n 0, 1) := by decide +kernel
theorem dX5_on_23 : decode cX5_on 23 = .ok (.ldc 35, 2) := by decide +kernel
theorem dX5_on_25 : decode cX5_on 25 = .ok (.invokevirtual 37, 3) := by decide +kernel
theorem dX5_on_28 : decode cX5_on 28 = .ok (.ireturn, 1) := by decide +kernel
theorem dX5_on_29 : decode cX5_on 29 = .ok (.aload_n 0, 1) := by decide +kernel
theorem dX5_on_30 : decode cX5_on 30 = .ok (.invokevirtual 139, 3) := by decide +kernel
theorem dX5_on_33 : decode cX5_on 33 = .ok (.aload_n 0, 1) := by decide +kernel
theorem dX5_on_34 : decode cX5_on 34 = .ok (.iload_n 1, 1) := by decide +kernel
theorem dX5_on_35 : decode cX5_on 35 = .ok (.invokevirtual 132, 3) := by decide +kernel
theorem dX5_on_38 : decode cX5_on 38 = .ok (.iload_n 2, 1) := by decide +kernel
theorem dX5_on_39 : decode cX5_on 39 = .ok (.iconst 2, 1) := by decide +kernel
theorem dX5_on_40 : decode cX5_on 40 = .ok (.if_icmp .ne 10, 3) := by decide +kernel
theorem dX5_on_43 : decode cX5_on 43 = .ok (.aload_n 0, 1) := by decide +kernel
theorem dX5_on_44 : decode cX5_on 44 = .ok (.invokevirtual 72, 3) := by decide +kernel
theorem dX5_on_47 : decode cX5_on 47 = .ok (.goto 11, 3) := by decide +kernel
theorem dX5_on_50 : decode cX5_on 50 = .ok (.aload_n 0, 1) := by decide +kernel
theorem dX5_on_51 : decode cX5_on 51 = .ok (.getfield 9, 3) := by decide +kernel
theorem dX5_on_54 : decode cX5_on 54 = .ok (.iconst 3, 1) := by decide +kernel
theorem dX5_on_55 : decode cX5_on 55 = .ok (.iload_n 2, 1) := by decide +kernel
theorem dX5_on_56 : decode cX5_on 56 = .ok (.iadd, 1) := by decide +kernel
theorem dX5_on_57 : decode cX5_on 57 = .ok (.iaload, 1) := by decide +kernel
theorem dX5_on_58 : decode cX5_on 58 = .ok (.istore_n 3, 1) := by decide +kernel
theorem dX5_on_59 : decode cX5_on 59 = .ok (.aload_n 0, 1) := by decide +kernel
theorem dX5_on_60 : decode cX5_on 60 = .ok (.invokevirtual 142, 3) := by decide +kernel
theorem dX5_on_63 : decode cX5_on 63 = .ok (.iload_n 3, 1) := by decide +kernel
theorem dX5_on_64 : decode cX5_on 64 = .ok (.ireturn, 1) := by decide +kernel
set_option maxRecDepth 20000 in
theorem ggX5_then_X5_isMother : GoodIn wsX5_then wsX5_isMother := goodIn_r _ [6, 7, 8, 9, 5, 10, 107, 108, 109, 110, 111, 112, 113, 114, 115, 116, 117, 118, 119, 120, 121] (by decide +kernel) (by decide +kernel)
set_option maxRecDepth 20000 in
theorem gX5_then_X5_isMother : GoodIn wsX5_then (wsV RX5 96 RX5 yX5_isMother wsX5_isMother) := goodIn_app (goodIn_of _ (by decide +kernel)) ggX5_then_X5_isMother
set_option maxRecDepth 20000 in
theorem ggX5_then_X5_in : GoodIn wsX5_then wsX5_in := goodIn_r _ [10] (by decide +kernel) (by decide +kernel)
set_option maxRecDepth 20000 in
theorem gX5_then_X5_in : GoodIn wsX5_then (va_wsS RX5 41 yX5_in wsX5_in) := goodIn_app (goodIn_of _ (by decide +kernel)) ggX5_then_X5_in
set_option maxRecDepth 20000 in
theorem ggX5_then_X5_finds : GoodIn wsX5_then wsX5_finds := goodIn_r _ [14, 15, 1, 107, 108, 109, 110, 111, 112, 113, 114, 115, 116, 117, 118, 119, 120, 121] (by decide +kernel) (by decide +kernel)
set_option maxRecDepth 20000 in
theorem gX5_then_X5_finds : GoodIn wsX5_then (wsV RX5 37 RX5 yX5_finds wsX5_finds) := goodIn_app (goodIn_of _ (by decide +kernel)) ggX5_then_X5_finds
set_option maxRecDepth 20000 in
theorem ggX5_then_X5_thinks : GoodIn wsX5_then wsX5_thinks := goodIn_r _ [19, 7, 20, 21, 22, 5, 23, 107, 108, 109, 110, 111, 112, 113, 114, 115, 116, 117, 118, 119, 120, 121] (by decide +kernel) (by decide +kernel)
set_option maxRecDepth 20000 in
theorem gX5_then_X5_thinks : GoodIn wsX5_then (wsV RX5 139 RX5 yX5_thinks wsX5_thinks) := goodIn_app (goodIn_of _ (by decide +kernel)) ggX5_then_X5_thinks
set_option maxRecDepth 20000 in
theorem ggX5_then_X5_goesFor : GoodIn wsX5_then wsX5_goesFor := goodIn_r _ [27, 28, 29, 30, 5, 31, 7, 32, 33, 34, 35, 36, 37, 38, 39, 40, 41, 42, 43, 44, 45, 46, 47, 48, 49, 50, 51, 52, 53, 54, 55, 56, 57, 58, 59, 60, 61, 62, 63, 64, 65, 66, 67, 68, 69, 70, 71, 72, 73, 74, 75, 76, 77, 78, 79, 80, 81, 82, 83, 84, 85, 86, 87, 88, 89, 90, 91, 92, 93, 94, 95, 96, 97, 98, 99, 100, 101, 102, 107, 108, 109, 110, 111, 112, 113, 114, 115, 116, 117, 118, 119, 120, 121] (by decide +kernel) (by decide +kernel)
set_option maxRecDepth 20000 in
theorem gX5_then_X5_goesFor : GoodIn wsX5_then (wsV RX5 132 RX5 yX5_goesFor wsX5_goesFor) := goodIn_app (goodIn_of _ (by decide +kernel)) ggX5_then_X5_goesFor
set_option maxRecDepth 20000 in
theorem ggX5_then_X5_it : GoodIn wsX5_then wsX5_it := goodIn_r _ [40, 7, 107, 108, 109, 110, 111, 112, 113, 114, 115, 116, 117, 118, 119, 120, 121] (by decide +kernel) (by decide +kernel)
set_option maxRecDepth 20000 in
theorem gX5_then_X5_it : GoodIn wsX5_then (wsV RX5 49 RX5 yX5_it wsX5_it) := goodIn_app (goodIn_of _ (by decide +kernel)) ggX5_then_X5_it
set_option maxRecDepth 20000 in
theorem ggX5_then_X5_putsBack : GoodIn wsX5_then wsX5_putsBack := goodIn_r _ [106, 20, 7, 21, 22, 5, 23, 107, 108, 109, 110, 111, 112, 113, 114, 115, 116, 117, 118, 119, 120, 121] (by decide +kernel) (by decide +kernel)
set_option maxRecDepth 20000 in
theorem gX5_then_X5_putsBack : GoodIn wsX5_then (wsV RX5 142 RX5 yX5_putsBack wsX5_putsBack) := goodIn_app (goodIn_of _ (by decide +kernel)) ggX5_then_X5_putsBack
theorem dX5_then_0 : decode cX5_then 0 = .ok (.aload_n 0, 1) := by decide +kernel
theorem dX5_then_1 : decode cX5_then 1 = .ok (.iload_n 1, 1) := by decide +kernel
theorem dX5_then_2 : decode cX5_then 2 = .ok (.invokevirtual 96, 3) := by decide +kernel
theorem dX5_then_5 : decode cX5_then 5 = .ok (.ifCond .eq 25, 3) := by decide +kernel
theorem dX5_then_8 : decode cX5_then 8 = .ok (.iload_n 2, 1) := by decide +kernel
theorem dX5_then_9 : decode cX5_then 9 = .ok (.i2l, 1) := by decide +kernel
theorem dX5_then_10 : decode cX5_then 10 = .ok (.iconst 0, 1) := by decide +kernel
theorem dX5_then_11 : decode cX5_then 11 = .ok (.sipush 200, 3) := by decide +kernel
theorem dX5_then_14 : decode cX5_then 14 = .ok (.invokestatic 41, 3) := by decide +kernel
theorem dX5_then_17 : decode cX5_then 17 = .ok (.ifCond .eq 13, 3) := by decide +kernel
theorem dX5_then_20 : decode cX5_then 20 = .ok (.iload_n 3, 1) := by decide +kernel
theorem dX5_then_21 : decode cX5_then 21 = .ok (.i2l, 1) := by decide +kernel
theorem dX5_then_22 : decode cX5_then 22 = .ok (.iconst 0, 1) := by decide +kernel
theorem dX5_then_23 : decode cX5_then 23 = .ok (.iconst 1, 1) := by decide +kernel
theorem dX5_then_24 : decode cX5_then 24 = .ok (.invokestatic 41, 3) := by decide +kernel
theorem dX5_then_27 : decode cX5_then 27 = .ok (.ifCond .ne 10, 3) := by decide +kernel
theorem dX5_then_30 : decode cX5_then 30 = .ok (.aload_n 0, 1) := by decide +kernel
theorem dX5_then_31 : decode cX5_then 31 = .ok (.ldc 35, 2) := by decide +kernel
theorem dX5_then_33 : decode cX5_then 33 = .ok (.invokevirtual 37, 3) := by decide +kernel
theorem dX5_then_36 : decode cX5_then 36 = .ok (.ireturn, 1) := by decide +kernel
theorem dX5_then_37 : decode cX5_then 37 = .ok (.aload_n 0, 1) := by decide +kernel
theorem dX5_then_38 : decode cX5_then 38 = .ok (.invokevirtual 139, 3) := by decide +kernel
theorem dX5_then_41 : decode cX5_then 41 = .ok (.aload_n 0, 1) := by decide +kernel
theorem dX5_then_42 : decode cX5_then 42 = .ok (.iload_n 2, 1) := by decide +kernel
theorem dX5_then_43 : decode cX5_then 43 = .ok (.invokevirtual 132, 3) := by decide +kernel
theorem dX5_then_46 : decode cX5_then 46 = .ok (.aload_n 0, 1) := by decide +kernel
theorem dX5_then_47 : decode cX5_then 47 = .ok (.iload_n 1, 1) := by decide +kernel
theorem dX5_then_48 : decode cX5_then 48 = .ok (.iconst 2, 1) := by decide +kernel
theorem dX5_then_49 : decode cX5_then 49 = .ok (.iload_n 3, 1) := by decide +kernel
theorem dX5_then_50 : decode cX5_then 50 = .ok (.iadd, 1) := by decide +kernel
theorem dX5_then_51 : decode cX5_then 51 = .ok (.invokevirtual 49, 3) := by decide +kernel
theorem dX5_then_54 : decode cX5_then 54 = .ok (.istore 4, 2) := by decide +kernel
theorem dX5_then_56 : decode cX5_then 56 = .ok (.aload_n 0, 1) := by decide +kernel
theorem dX5_then_57 : decode cX5_then 57 = .ok (.invokevirtual 142, 3) := by decide +kernel
theorem dX5_then_60 : decode cX5_then 60 = .ok (.iload 4, 2) := by decide +kernel
theorem dX5_then_62 : decode cX5_then 62 = .ok (.ireturn, 1) := by decide +kernel
set_option maxRecDepth 20000 in
theorem ggX5_quick_X5_in : GoodIn wsX5_quick wsX5_in := goodIn_r _ [7] (by decide +kernel) (by decide +kernel)
set_option maxRecDepth 20000 in
theorem gX5_quick_X5_in : GoodIn wsX5_quick (va_wsS RX5 41 yX5_in wsX5_in) := goodIn_app (goodIn_of _ (by decide +kernel)) ggX5_quick_X5_in
set_option maxRecDepth 20000 in
theorem ggX5_quick_X5_finds : GoodIn wsX5_quick wsX5_finds := goodIn_r _ [11, 12, 1, 100, 101, 102, 103, 104, 105, 106, 107, 108, 109, 110, 111, 112, 113, 114] (by decide +kernel) (by decide +kernel)
set_option maxRecDepth 20000 in
theorem gX5_quick_X5_finds : GoodIn wsX5_quick (wsV RX5 37 RX5 yX5_finds wsX5_finds) := goodIn_app (goodIn_of _ (by decide +kernel)) ggX5_quick_X5_finds
set_option maxRecDepth 20000 in
theorem ggX5_quick_X5_thinks : GoodIn wsX5_quick wsX5_thinks := goodIn_r _ [16, 2, 17, 18, 19, 6, 20, 100, 101, 102, 103, 104, 105, 106, 107, 108, 109, 110, 111, 112, 113, 114] (by decide +kernel) (by decide +kernel)
set_option maxRecDepth 20000 in
theorem gX5_quick_X5_thinks : GoodIn wsX5_quick (wsV RX5 139 RX5 yX5_thinks wsX5_thinks) := goodIn_app (goodIn_of _ (by decide +kernel)) ggX5_quick_X5_thinks
set_option maxRecDepth 20000 in
theorem ggX5_quick_X5_goes : GoodIn wsX5_quick wsX5_goes := goodIn_r _ [24, 2, 25, 26, 27, 28, 6, 29, 30, 31, 32, 33, 34, 35, 36, 37, 38, 39, 40, 41, 42, 43, 44, 45, 46, 47, 48, 49, 50, 51, 52, 53, 54, 55, 56, 57, 58, 59, 60, 61, 62, 63, 64, 65, 66, 67, 68, 69, 70, 71, 72, 73, 74, 75, 76, 77, 78, 79, 80, 81, 82, 83, 84, 85, 86, 87, 88, 89, 90, 91, 92, 93, 94, 95, 100, 101, 102, 103, 104, 105, 106, 107, 108, 109, 110, 111, 112, 113, 114] (by decide +kernel) (by decide +kernel)
set_option maxRecDepth 20000 in
theorem gX5_quick_X5_goes : GoodIn wsX5_quick (wsV RX5 127 RX5 yX5_goes wsX5_goes) := goodIn_app (goodIn_of _ (by decide +kernel)) ggX5_quick_X5_goes
set_option maxRecDepth 20000 in
theorem ggX5_quick_X5_putsBack : GoodIn wsX5_quick wsX5_putsBack := goodIn_r _ [99, 17, 2, 18, 19, 6, 20, 100, 101, 102, 103, 104, 105, 106, 107, 108, 109, 110, 111, 112, 113, 114] (by decide +kernel) (by decide +kernel)
set_option maxRecDepth 20000 in
theorem gX5_quick_X5_putsBack : GoodIn wsX5_quick (wsV RX5 142 RX5 yX5_putsBack wsX5_putsBack) := goodIn_app (goodIn_of _ (by decide +kernel)) ggX5_quick_X5_putsBack
theorem dX5_quick_0 : decode cX5_quick 0 = .ok (.iload_n 1, 1) := by decide +kernel
theorem dX5_quick_1 : decode cX5_quick 1 = .ok (.i2l, 1) := by decide +kernel
theorem dX5_quick_2 : decode cX5_quick 2 = .ok (.iconst 0, 1) := by decide +kernel
theorem dX5_quick_3 : decode cX5_quick 3 = .ok (.sipush 200, 3) := by decide +kernel
theorem dX5_quick_6 : decode cX5_quick 6 = .ok (.invokestatic 41, 3) := by decide +kernel
theorem dX5_quick_9 : decode cX5_quick 9 = .ok (.ifCond .ne 10, 3) := by decide +kernel
theorem dX5_quick_12 : decode cX5_quick 12 = .ok (.aload_n 0, 1) := by decide +kernel
theorem dX5_quick_13 : decode cX5_quick 13 = .ok (.ldc 35, 2) := by decide +kernel
theorem dX5_quick_15 : decode cX5_quick 15 = .ok (.invokevirtual 37, 3) := by decide +kernel
theorem dX5_quick_18 : decode cX5_quick 18 = .ok (.ireturn, 1) := by decide +kernel
theorem dX5_quick_19 : decode cX5_quick 19 = .ok (.aload_n 0, 1) := by decide +kernel
theorem dX5_quick_20 : decode cX5_quick 20 = .ok (.invokevirtual 139, 3) := by decide +kernel
theorem dX5_quick_23 : decode cX5_quick 23 = .ok (.iconst 0, 1) := by decide +kernel
theorem dX5_quick_24 : decode cX5_quick 24 = .ok (.istore_n 2, 1) := by decide +kernel
theorem dX5_quick_25 : decode cX5_quick 25 = .ok (.iload_n 2, 1) := by decide +kernel
theorem dX5_quick_26 : decode cX5_quick 26 = .ok (.sipush 200, 3) := by decide +kernel
theorem dX5_quick_29 : decode cX5_quick 29 = .ok (.if_icmp .gt 23, 3) := by decide +kernel
theorem dX5_quick_32 : decode cX5_quick 32 = .ok (.aload_n 0, 1) := by decide +kernel
theorem dX5_quick_33 : decode cX5_quick 33 = .ok (.getfield 9, 3) := by decide +kernel
theorem dX5_quick_36 : decode cX5_quick 36 = .ok (.iconst 3, 1) := by decide +kernel
theorem dX5_quick_37 : decode cX5_quick 37 = .ok (.iaload, 1) := by decide +kernel
theorem dX5_quick_38 : decode cX5_quick 38 = .ok (.iload_n 1, 1) := by decide +kernel
theorem dX5_quick_39 : decode cX5_quick 39 = .ok (.if_icmp .ge 13, 3) := by decide +kernel
theorem dX5_quick_42 : decode cX5_quick 42 = .ok (.aload_n 0, 1) := by decide +kernel
theorem dX5_quick_43 : decode cX5_quick 43 = .ok (.invokevirtual 127, 3) := by decide +kernel
theorem dX5_quick_46 : decode cX5_quick 46 = .ok (.iinc 2 1, 3) := by decide +kernel
theorem dX5_quick_49 : decode cX5_quick 49 = .ok (.goto (-24), 3) := by decide +kernel
theorem dX5_quick_52 : decode cX5_quick 52 = .ok (.aload_n 0, 1) := by decide +kernel
theorem dX5_quick_53 : decode cX5_quick 53 = .ok (.invokevirtual 142, 3) := by decide +kernel
theorem dX5_quick_56 : decode cX5_quick 56 = .ok (.iload_n 2, 1) := by decide +kernel
theorem dX5_quick_57 : decode cX5_quick 57 = .ok (.sipush 200, 3) := by decide +kernel
theorem dX5_quick_60 : decode cX5_quick 60 = .ok (.if_icmp .le 12, 3) := by decide +kernel
theorem dX5_quick_63 : decode cX5_quick 63 = .ok (.aload_n 0, 1) := by decide +kernel
theorem dX5_quick_64 : decode cX5_quick 64 = .ok (.ldc 36, 2) := by decide +kernel
theorem dX5_quick_66 : decode cX5_quick 66 = .ok (.invokevirtual 37, 3) := by decide +kernel
theorem dX5_quick_69 : decode cX5_quick 69 = .ok (.goto 4, 3) := by decide +kernel
theorem dX5_quick_72 : decode cX5_quick 72 = .ok (.iload_n 2, 1) := by decide +kernel
theorem dX5_quick_73 : decode cX5_quick 73 = .ok (.ireturn, 1) := by decide +kernel
set_option maxRecDepth 20000 in
theorem ggX5_stands_X5_thinks : GoodIn wsX5_stands wsX5_thinks := goodIn_r _ [7, 1, 8, 9, 10, 6, 11, 97, 98, 99, 100, 101, 102, 103, 104, 105, 106, 107, 108, 109, 110, 111] (by decide +kernel) (by decide +kernel)
set_option maxRecDepth 20000 in
theorem gX5_stands_X5_thinks : GoodIn wsX5_stands (wsV RX5 139 RX5 yX5_thinks wsX5_thinks) := goodIn_app (goodIn_of _ (by decide +kernel)) ggX5_stands_X5_thinks
set_option maxRecDepth 20000 in
theorem ggX5_stands_X5_goes : GoodIn wsX5_stands wsX5_goes := goodIn_r _ [15, 1, 16, 17, 18, 19, 6, 20, 21, 22, 23, 24, 25, 26, 27, 28, 29, 30, 31, 32, 33, 34, 35, 36, 37, 38, 39, 40, 41, 42, 43, 44, 45, 46, 47, 48, 49, 50, 51, 52, 53, 54, 55, 56, 57, 58, 59, 60, 61, 62, 63, 64, 65, 66, 67, 68, 69, 70, 71, 72, 73, 74, 75, 76, 77, 78, 79, 80, 81, 82, 83, 84, 85, 86, 97, 98, 99, 100, 101, 102, 103, 104, 105, 106, 107, 108, 109, 110, 111] (by decide +kernel) (by decide +kernel)
set_option maxRecDepth 20000 in
theorem gX5_stands_X5_goes : GoodIn wsX5_stands (wsV RX5 127 RX5 yX5_goes wsX5_goes) := goodIn_app (goodIn_of _ (by decide +kernel)) ggX5_stands_X5_goes
set_option maxRecDepth 20000 in
theorem ggX5_stands_X5_putsBack : GoodIn wsX5_stands wsX5_putsBack := goodIn_r _ [90, 8, 1, 9, 10, 6, 11, 97, 98, 99, 100, 101, 102, 103, 104, 105, 106, 107, 108, 109, 110, 111] (by decide +kernel) (by decide +kernel)
set_option maxRecDepth 20000 in
theorem gX5_stands_X5_putsBack : GoodIn wsX5_stands (wsV RX5 142 RX5 yX5_putsBack wsX5_putsBack) := goodIn_app (goodIn_of _ (by decide +kernel)) ggX5_stands_X5_putsBack
set_option maxRecDepth 20000 in
theorem ggX5_stands_X5_finds : GoodIn wsX5_stands wsX5_finds := goodIn_r _ [94, 95, 96, 97, 98, 99, 100, 101, 102, 103, 104, 105, 106, 107, 108, 109, 110, 111] (by decide +kernel) (by decide +kernel)
set_option maxRecDepth 20000 in
theorem gX5_stands_X5_finds : GoodIn wsX5_stands (wsV RX5 37 RX5 yX5_finds wsX5_finds) := goodIn_app (goodIn_of _ (by decide +kernel)) ggX5_stands_X5_finds
theorem dX5_stands_0 : decode cX5_stands 0 = .ok (.aload_n 0, 1) := by decide +kernel
theorem dX5_stands_1 : decode cX5_stands 1 = .ok (.invokevirtual 139, 3) := by decide +kernel
theorem dX5_stands_4 : decode cX5_stands 4 = .ok (.iconst 0, 1) := by decide +kernel
theorem dX5_stands_5 : decode cX5_stands 5 = .ok (.istore_n 1, 1) := by decide +kernel
theorem dX5_stands_6 : decode cX5_stands 6 = .ok (.iload_n 1, 1) := by decide +kernel
theorem dX5_stands_7 : decode cX5_stands 7 = .ok (.sipush 200, 3) := by decide +kernel
theorem dX5_stands_10 : decode cX5_stands 10 = .ok (.if_icmp .gt 22, 3) := by decide +kernel
theorem dX5_stands_13 : decode cX5_stands 13 = .ok (.aload_n 0, 1) := by decide +kernel
theorem dX5_stands_14 : decode cX5_stands 14 = .ok (.getfield 9, 3) := by decide +kernel
theorem dX5_stands_17 : decode cX5_stands 17 = .ok (.iconst 3, 1) := by decide +kernel
theorem dX5_stands_18 : decode cX5_stands 18 = .ok (.iaload, 1) := by decide +kernel
theorem dX5_stands_19 : decode cX5_stands 19 = .ok (.ifCond .le 13, 3) := by decide +kernel
theorem dX5_stands_22 : decode cX5_stands 22 = .ok (.aload_n 0, 1) := by decide +kernel
theorem dX5_stands_23 : decode cX5_stands 23 = .ok (.invokevirtual 127, 3) := by decide +kernel
theorem dX5_stands_26 : decode cX5_stands 26 = .ok (.iinc 1 1, 3) := by decide +kernel
theorem dX5_stands_29 : decode cX5_stands 29 = .ok (.goto (-23), 3) := by decide +kernel
theorem dX5_stands_32 : decode cX5_stands 32 = .ok (.aload_n 0, 1) := by decide +kernel
theorem dX5_stands_33 : decode cX5_stands 33 = .ok (.invokevirtual 142, 3) := by decide +kernel
theorem dX5_stands_36 : decode cX5_stands 36 = .ok (.iload_n 1, 1) := by decide +kernel
theorem dX5_stands_37 : decode cX5_stands 37 = .ok (.sipush 200, 3) := by decide +kernel
theorem dX5_stands_40 : decode cX5_stands 40 = .ok (.if_icmp .le 12, 3) := by decide +kernel
theorem dX5_stands_43 : decode cX5_stands 43 = .ok (.aload_n 0, 1) := by decide +kernel
theorem dX5_stands_44 : decode cX5_stands 44 = .ok (.ldc 36, 2) := by decide +kernel
theorem dX5_stands_46 : decode cX5_stands 46 = .ok (.invokevirtual 37, 3) := by decide +kernel
theorem dX5_stands_49 : decode cX5_stands 49 = .ok (.goto 4, 3) := by decide +kernel
theorem dX5_stands_52 : decode cX5_stands 52 = .ok (.iload_n 1, 1) := by decide +kernel
theorem dX5_stands_53 : decode cX5_stands 53 = .ok (.ireturn, 1) := by decide +kernel
set_option maxRecDepth 20000 in
theorem ggX5_flung_X5_isChild : GoodIn wsX5_flung wsX5_isChild := goodIn_r _ [7, 8, 9, 10, 6, 11, 104, 105, 106, 107, 108, 109, 110, 111, 112, 113, 114, 115, 116, 117, 118] (by decide +kernel) (by decide +kernel)
set_option maxRecDepth 20000 in
theorem gX5_flung_X5_isChild : GoodIn wsX5_flung (wsV RX5 116 RX5 yX5_isChild wsX5_isChild) := goodIn_app (goodIn_of _ (by decide +kernel)) ggX5_flung_X5_isChild
set_option maxRecDepth 20000 in
theorem ggX5_flung_X5_finds : GoodIn wsX5_flung wsX5_finds := goodIn_r _ [15, 16, 1, 104, 105, 106, 107, 108, 109, 110, 111, 112, 113, 114, 115, 116, 117, 118] (by decide +kernel) (by decide +kernel)
set_option maxRecDepth 20000 in
theorem gX5_flung_X5_finds : GoodIn wsX5_flung (wsV RX5 37 RX5 yX5_finds wsX5_finds) := goodIn_app (goodIn_of _ (by decide +kernel)) ggX5_flung_X5_finds
set_option maxRecDepth 20000 in
theorem ggX5_flung_X5_thinks : GoodIn wsX5_flung wsX5_thinks := goodIn_r _ [20, 8, 21, 22, 23, 6, 24, 104, 105, 106, 107, 108, 109, 110, 111, 112, 113, 114, 115, 116, 117, 118] (by decide +kernel) (by decide +kernel)
set_option maxRecDepth 20000 in
theorem gX5_flung_X5_thinks : GoodIn wsX5_flung (wsV RX5 139 RX5 yX5_thinks wsX5_thinks) := goodIn_app (goodIn_of _ (by decide +kernel)) ggX5_flung_X5_thinks
set_option maxRecDepth 20000 in
theorem ggX5_flung_X5_about : GoodIn wsX5_flung wsX5_about := goodIn_r _ [28, 8, 104, 105, 106, 107, 108, 109, 110, 111, 112, 113, 114, 115, 116, 117, 118] (by decide +kernel) (by decide +kernel)
set_option maxRecDepth 20000 in
theorem gX5_flung_X5_about : GoodIn wsX5_flung (wsV RX5 69 RX5 yX5_about wsX5_about) := goodIn_app (goodIn_of _ (by decide +kernel)) ggX5_flung_X5_about
set_option maxRecDepth 20000 in
theorem ggX5_flung_X5_goes : GoodIn wsX5_flung wsX5_goes := goodIn_r _ [32, 8, 33, 34, 35, 36, 6, 37, 38, 39, 40, 41, 42, 43, 44, 45, 46, 47, 48, 49, 50, 51, 52, 53, 54, 55, 56, 57, 58, 59, 60, 61, 62, 63, 64, 65, 66, 67, 68, 69, 70, 71, 72, 73, 74, 75, 76, 25, 26, 27, 28, 77, 78, 79, 80, 81, 82, 83, 84, 85, 86, 87, 88, 89, 90, 91, 92, 93, 94, 95, 96, 97, 98, 99, 104, 105, 106, 107, 108, 109, 110, 111, 112, 113, 114, 115, 116, 117, 118] (by decide +kernel) (by decide +kernel)
set_option maxRecDepth 20000 in
theorem gX5_flung_X5_goes : GoodIn wsX5_flung (wsV RX5 127 RX5 yX5_goes wsX5_goes) := goodIn_app (goodIn_of _ (by decide +kernel)) ggX5_flung_X5_goes
set_option maxRecDepth 20000 in
theorem ggX5_flung_X5_putsBack : GoodIn wsX5_flung wsX5_putsBack := goodIn_r _ [103, 21, 8, 22, 23, 6, 24, 104, 105, 106, 107, 108, 109, 110, 111, 112, 113, 114, 115, 116, 117, 118] (by decide +kernel) (by decide +kernel)
set_option maxRecDepth 20000 in
theorem gX5_flung_X5_putsBack : GoodIn wsX5_flung (wsV RX5 142 RX5 yX5_putsBack wsX5_putsBack) := goodIn_app (goodIn_of _ (by decide +kernel)) ggX5_flung_X5_putsBack
theorem dX5_flung_0 : decode cX5_flung 0 = .ok (.aload_n 0, 1) := by decide +kernel
theorem dX5_flung_1 : decode cX5_flung 1 = .ok (.iload_n 1, 1) := by decide +kernel
theorem dX5_flung_2 : decode cX5_flung 2 = .ok (.invokevirtual 116, 3) := by decide +kernel
theorem dX5_flung_5 : decode cX5_flung 5 = .ok (.ifCond .ne 10, 3) := by decide +kernel
theorem dX5_flung_8 : decode cX5_flung 8 = .ok (.aload_n 0, 1) := by decide +kernel
theorem dX5_flung_9 : decode cX5_flung 9 = .ok (.ldc 35, 2) := by decide +kernel
theorem dX5_flung_11 : decode cX5_flung 11 = .ok (.invokevirtual 37, 3) := by decide +kernel
theorem dX5_flung_14 : decode cX5_flung 14 = .ok (.ireturn, 1) := by decide +kernel
theorem dX5_flung_15 : decode cX5_flung 15 = .ok (.aload_n 0, 1) := by decide +kernel
theorem dX5_flung_16 : decode cX5_flung 16 = .ok (.invokevirtual 139, 3) := by decide +kernel
theorem dX5_flung_19 : decode cX5_flung 19 = .ok (.aload_n 0, 1) := by decide +kernel
theorem dX5_flung_20 : decode cX5_flung 20 = .ok (.iload_n 1, 1) := by decide +kernel
theorem dX5_flung_21 : decode cX5_flung 21 = .ok (.iconst 2, 1) := by decide +kernel
theorem dX5_flung_22 : decode cX5_flung 22 = .ok (.invokevirtual 69, 3) := by decide +kernel
theorem dX5_flung_25 : decode cX5_flung 25 = .ok (.istore_n 2, 1) := by decide +kernel
theorem dX5_flung_26 : decode cX5_flung 26 = .ok (.iconst 1, 1) := by decide +kernel
theorem dX5_flung_27 : decode cX5_flung 27 = .ok (.istore_n 3, 1) := by decide +kernel
theorem dX5_flung_28 : decode cX5_flung 28 = .ok (.aload_n 0, 1) := by decide +kernel
theorem dX5_flung_29 : decode cX5_flung 29 = .ok (.invokevirtual 127, 3) := by decide +kernel
theorem dX5_flung_32 : decode cX5_flung 32 = .ok (.iload_n 3, 1) := by decide +kernel
theorem dX5_flung_33 : decode cX5_flung 33 = .ok (.sipush 200, 3) := by decide +kernel
theorem dX5_flung_36 : decode cX5_flung 36 = .ok (.if_icmp .gt 23, 3) := by decide +kernel
theorem dX5_flung_39 : decode cX5_flung 39 = .ok (.aload_n 0, 1) := by decide +kernel
theorem dX5_flung_40 : decode cX5_flung 40 = .ok (.iload_n 1, 1) := by decide +kernel
theorem dX5_flung_41 : decode cX5_flung 41 = .ok (.iconst 2, 1) := by decide +kernel
theorem dX5_flung_42 : decode cX5_flung 42 = .ok (.invokevirtual 69, 3) := by decide +kernel
theorem dX5_flung_45 : decode cX5_flung 45 = .ok (.iload_n 2, 1) := by decide +kernel
theorem dX5_flung_46 : decode cX5_flung 46 = .ok (.if_icmp .ne 13, 3) := by decide +kernel
theorem dX5_flung_49 : decode cX5_flung 49 = .ok (.aload_n 0, 1) := by decide +kernel
theorem dX5_flung_50 : decode cX5_flung 50 = .ok (.invokevirtual 127, 3) := by decide +kernel
theorem dX5_flung_53 : decode cX5_flung 53 = .ok (.iinc 3 1, 3) := by decide +kernel
theorem dX5_flung_56 : decode cX5_flung 56 = .ok (.goto (-24), 3) := by decide +kernel
theorem dX5_flung_59 : decode cX5_flung 59 = .ok (.aload_n 0, 1) := by decide +kernel
theorem dX5_flung_60 : decode cX5_flung 60 = .ok (.invokevirtual 142, 3) := by decide +kernel
theorem dX5_flung_63 : decode cX5_flung 63 = .ok (.iload_n 3, 1) := by decide +kernel
theorem dX5_flung_64 : decode cX5_flung 64 = .ok (.sipush 200, 3) := by decide +kernel
theorem dX5_flung_67 : decode cX5_flung 67 = .ok (.if_icmp .le 12, 3) := by decide +kernel
theorem dX5_flung_70 : decode cX5_flung 70 = .ok (.aload_n 0, 1) := by decide +kernel
theorem dX5_flung_71 : decode cX5_flung 71 = .ok (.ldc 36, 2) := by decide +kernel
theorem dX5_flung_73 : decode cX5_flung 73 = .ok (.invokevirtual 37, 3) := by decide +kernel
theorem dX5_flung_76 : decode cX5_flung 76 = .ok (.goto 4, 3) := by decide +kernel
theorem dX5_flung_79 : decode cX5_flung 79 = .ok (.iload_n 3, 1) := by decide +kernel
theorem dX5_flung_80 : decode cX5_flung 80 = .ok (.ireturn, 1) := by decide +kernel
set_option maxRecDepth 20000 in
theorem ggX5_turnedOn_X5_goesFor : GoodIn wsX5_turnedOn wsX5_goesFor := goodIn_r _ [6, 7, 8, 9, 5, 10, 1, 11, 12, 13, 14, 15, 16, 17, 18, 19, 20, 21, 22, 23, 24, 25, 26, 27, 28, 29, 30, 31, 32, 33, 34, 35, 36, 37, 38, 39, 40, 41, 42, 43, 44, 45, 46, 47, 48, 49, 50, 51, 52, 53, 54, 55, 56, 57, 58, 59, 60, 61, 62, 63, 64, 65, 66, 67, 68, 69, 70, 71, 72, 73, 74, 75, 76, 77, 78, 79, 80, 81, 90, 91, 92, 93, 94, 95, 96, 97, 98, 99, 100, 101, 102, 103, 104] (by decide +kernel) (by decide +kernel)
set_option maxRecDepth 20000 in
theorem gX5_turnedOn_X5_goesFor : GoodIn wsX5_turnedOn (wsV RX5 132 RX5 yX5_goesFor wsX5_goesFor) := goodIn_app (goodIn_of _ (by decide +kernel)) ggX5_turnedOn_X5_goesFor
set_option maxRecDepth 20000 in
theorem ggX5_turnedOn_X5_putsBack : GoodIn wsX5_turnedOn wsX5_putsBack := goodIn_r _ [85, 86, 1, 87, 88, 5, 89, 90, 91, 92, 93, 94, 95, 96, 97, 98, 99, 100, 101, 102, 103, 104] (by decide +kernel) (by decide +kernel)
set_option maxRecDepth 20000 in
theorem gX5_turnedOn_X5_putsBack : GoodIn wsX5_turnedOn (wsV RX5 142 RX5 yX5_putsBack wsX5_putsBack) := goodIn_app (goodIn_of _ (by decide +kernel)) ggX5_turnedOn_X5_putsBack
theorem dX5_turnedOn_0 : decode cX5_turnedOn 0 = .ok (.aload_n 0, 1) := by decide +kernel
theorem dX5_turnedOn_1 : decode cX5_turnedOn 1 = .ok (.iload_n 1, 1) := by decide +kernel
theorem dX5_turnedOn_2 : decode cX5_turnedOn 2 = .ok (.invokevirtual 132, 3) := by decide +kernel
theorem dX5_turnedOn_5 : decode cX5_turnedOn 5 = .ok (.aload_n 0, 1) := by decide +kernel
theorem dX5_turnedOn_6 : decode cX5_turnedOn 6 = .ok (.getfield 9, 3) := by decide +kernel
theorem dX5_turnedOn_9 : decode cX5_turnedOn 9 = .ok (.iconst 4, 1) := by decide +kernel
theorem dX5_turnedOn_10 : decode cX5_turnedOn 10 = .ok (.iaload, 1) := by decide +kernel
theorem dX5_turnedOn_11 : decode cX5_turnedOn 11 = .ok (.istore_n 2, 1) := by decide +kernel
theorem dX5_turnedOn_12 : decode cX5_turnedOn 12 = .ok (.aload_n 0, 1) := by decide +kernel
theorem dX5_turnedOn_13 : decode cX5_turnedOn 13 = .ok (.invokevirtual 142, 3) := by decide +kernel
theorem dX5_turnedOn_16 : decode cX5_turnedOn 16 = .ok (.iload_n 2, 1) := by decide +kernel
theorem dX5_turnedOn_17 : decode cX5_turnedOn 17 = .ok (.ireturn, 1) := by decide +kernel
set_option maxRecDepth 20000 in
theorem ggX5_send_X5_in : GoodIn wsX5_send wsX5_in := goodIn_r _ [6] (by decide +kernel) (by decide +kernel)
set_option maxRecDepth 20000 in
theorem gX5_send_X5_in : GoodIn wsX5_send (va_wsS RX5 41 yX5_in wsX5_in) := goodIn_app (goodIn_of _ (by decide +kernel)) ggX5_send_X5_in
set_option maxRecDepth 20000 in
theorem ggX5_send_X5_finds : GoodIn wsX5_send wsX5_finds := goodIn_r _ [10, 11, 1, 120, 121, 122, 123, 124, 125, 126, 127, 128, 129, 130, 131, 132, 133, 134] (by decide +kernel) (by decide +kernel)
set_option maxRecDepth 20000 in
theorem gX5_send_X5_finds : GoodIn wsX5_send (wsV RX5 37 RX5 yX5_finds wsX5_finds) := goodIn_app (goodIn_of _ (by decide +kernel)) ggX5_send_X5_finds
set_option maxRecDepth 20000 in
theorem ggX5_send_X5_thinks : GoodIn wsX5_send wsX5_thinks := goodIn_r _ [15, 2, 16, 17, 18, 5, 19, 120, 121, 122, 123, 124, 125, 126, 127, 128, 129, 130, 131, 132, 133, 134] (by decide +kernel) (by decide +kernel)
set_option maxRecDepth 20000 in
theorem gX5_send_X5_thinks : GoodIn wsX5_send (wsV RX5 139 RX5 yX5_thinks wsX5_thinks) := goodIn_app (goodIn_of _ (by decide +kernel)) ggX5_send_X5_thinks
set_option maxRecDepth 20000 in
theorem ggX5_send_X5_it : GoodIn wsX5_send wsX5_it := goodIn_r _ [23, 2, 120, 121, 122, 123, 124, 125, 126, 127, 128, 129, 130, 131, 132, 133, 134] (by decide +kernel) (by decide +kernel)
set_option maxRecDepth 20000 in
theorem gX5_send_X5_it : GoodIn wsX5_send (wsV RX5 49 RX5 yX5_it wsX5_it) := goodIn_app (goodIn_of _ (by decide +kernel)) ggX5_send_X5_it
set_option maxRecDepth 20000 in
theorem ggX5_send_X5_moves : GoodIn wsX5_send wsX5_moves := goodIn_r _ [27, 28, 29, 30, 5, 31, 2, 32, 33, 34, 35, 120, 121, 122, 123, 124, 125, 126, 127, 128, 129, 130, 131, 132, 133, 134] (by decide +kernel) (by decide +kernel)
set_option maxRecDepth 20000 in
theorem gX5_send_X5_moves : GoodIn wsX5_send (wsV RX5 106 RX5 yX5_moves wsX5_moves) := goodIn_app (goodIn_of _ (by decide +kernel)) ggX5_send_X5_moves
set_option maxRecDepth 20000 in
theorem ggX5_send_X5_turnedOn : GoodIn wsX5_send wsX5_turnedOn := goodIn_r _ [39, 2, 40, 41, 42, 5, 43, 44, 45, 46, 47, 48, 49, 50, 51, 52, 20, 21, 22, 23, 53, 54, 55, 56, 57, 58, 59, 60, 61, 62, 63, 64, 65, 66, 67, 68, 69, 70, 71, 72, 73, 74, 75, 76, 77, 78, 79, 80, 81, 82, 83, 84, 85, 86, 87, 88, 89, 90, 91, 92, 93, 94, 95, 96, 97, 98, 99, 100, 101, 102, 103, 104, 105, 106, 107, 108, 109, 110, 28, 29, 30, 31, 111, 112, 113, 114, 16, 17, 18, 19, 120, 121, 122, 123, 124, 125, 126, 127, 128, 129, 130, 131, 132, 133, 134] (by decide +kernel) (by decide +kernel)
set_option maxRecDepth 20000 in
theorem gX5_send_X5_turnedOn : GoodIn wsX5_send (wsV RX5 145 RX5 yX5_turnedOn wsX5_turnedOn) := goodIn_app (goodIn_of _ (by decide +kernel)) ggX5_send_X5_turnedOn
set_option maxRecDepth 20000 in
theorem ggX5_send_X5_orNone : GoodIn wsX5_send wsX5_orNone := goodIn_r _ [118, 119, 7, 8, 9, 5, 10, 11, 1, 120, 121, 122, 123, 124, 125, 126, 127, 128, 129, 130, 131, 132, 133, 134] (by decide +kernel) (by decide +kernel)
set_option maxRecDepth 20000 in
theorem gX5_send_X5_orNone : GoodIn wsX5_send (wsV RX5 148 RX5 yX5_orNone wsX5_orNone) := goodIn_app (goodIn_of _ (by decide +kernel)) ggX5_send_X5_orNone
theorem dX5_send_0 : decode cX5_send 0 = .ok (.iload_n 1, 1) := by decide +kernel
theorem dX5_send_1 : decode cX5_send 1 = .ok (.i2l, 1) := by decide +kernel
theorem dX5_send_2 : decode cX5_send 2 = .ok (.iconst 1, 1) := by decide +kernel
theorem dX5_send_3 : decode cX5_send 3 = .ok (.bipush 60, 2) := by decide +kernel
theorem dX5_send_5 : decode cX5_send 5 = .ok (.invokestatic 41, 3) := by decide +kernel
theorem dX5_send_8 : decode cX5_send 8 = .ok (.ifCond .ne 10, 3) := by decide +kernel
theorem dX5_send_11 : decode cX5_send 11 = .ok (.aload_n 0, 1) := by decide +kernel
theorem dX5_send_12 : decode cX5_send 12 = .ok (.ldc 35, 2) := by decide +kernel
theorem dX5_send_14 : decode cX5_send 14 = .ok (.invokevirtual 37, 3) := by decide +kernel
theorem dX5_send_17 : decode cX5_send 17 = .ok (.ireturn, 1) := by decide +kernel
theorem dX5_send_18 : decode cX5_send 18 = .ok (.aload_n 0, 1) := by decide +kernel
theorem dX5_send_19 : decode cX5_send 19 = .ok (.invokevirtual 139, 3) := by decide +kernel
theorem dX5_send_22 : decode cX5_send 22 = .ok (.iconst (-1), 1) := by decide +kernel
theorem dX5_send_23 : decode cX5_send 23 = .ok (.istore_n 2, 1) := by decide +kernel
theorem dX5_send_24 : decode cX5_send 24 = .ok (.iconst 0, 1) := by decide +kernel
theorem dX5_send_25 : decode cX5_send 25 = .ok (.istore_n 3, 1) := by decide +kernel
theorem dX5_send_26 : decode cX5_send 26 = .ok (.iconst 0, 1) := by decide +kernel
theorem dX5_send_27 : decode cX5_send 27 = .ok (.istore 4, 2) := by decide +kernel
theorem dX5_send_29 : decode cX5_send 29 = .ok (.iload 4, 2) := by decide +kernel
theorem dX5_send_31 : decode cX5_send 31 = .ok (.aload_n 0, 1) := by decide +kernel
theorem dX5_send_32 : decode cX5_send 32 = .ok (.getfield 9, 3) := by decide +kernel
theorem dX5_send_35 : decode cX5_send 35 = .ok (.iconst 5, 1) := by decide +kernel
theorem dX5_send_36 : decode cX5_send 36 = .ok (.iaload, 1) := by decide +kernel
theorem dX5_send_37 : decode cX5_send 37 = .ok (.if_icmp .ge 77, 3) := by decide +kernel
theorem dX5_send_40 : decode cX5_send 40 = .ok (.aload_n 0, 1) := by decide +kernel
theorem dX5_send_41 : decode cX5_send 41 = .ok (.iload 4, 2) := by decide +kernel
theorem dX5_send_43 : decode cX5_send 43 = .ok (.iconst 1, 1) := by decide +kernel
theorem dX5_send_44 : decode cX5_send 44 = .ok (.invokevirtual 49, 3) := by decide +kernel
theorem dX5_send_47 : decode cX5_send 47 = .ok (.iconst 1, 1) := by decide +kernel
theorem dX5_send_48 : decode cX5_send 48 = .ok (.if_icmp .ne 60, 3) := by decide +kernel
theorem dX5_send_51 : decode cX5_send 51 = .ok (.aload_n 0, 1) := by decide +kernel
theorem dX5_send_52 : decode cX5_send 52 = .ok (.iload 4, 2) := by decide +kernel
theorem dX5_send_54 : decode cX5_send 54 = .ok (.iconst 0, 1) := by decide +kernel
theorem dX5_send_55 : decode cX5_send 55 = .ok (.invokevirtual 106, 3) := by decide +kernel
theorem dX5_send_58 : decode cX5_send 58 = .ok (.istore 5, 2) := by decide +kernel
theorem dX5_send_60 : decode cX5_send 60 = .ok (.aload_n 0, 1) := by decide +kernel
theorem dX5_send_61 : decode cX5_send 61 = .ok (.iload_n 1, 1) := by decide +kernel
theorem dX5_send_62 : decode cX5_send 62 = .ok (.invokevirtual 145, 3) := by decide +kernel
theorem dX5_send_65 : decode cX5_send 65 = .ok (.istore 6, 2) := by decide +kernel
theorem dX5_send_67 : decode cX5_send 67 = .ok (.iload_n 2, 1) := by decide +kernel
theorem dX5_send_68 : decode cX5_send 68 = .ok (.ifCond .lt 9, 3) := by decide +kernel
theorem dX5_send_71 : decode cX5_send 71 = .ok (.iload 6, 2) := by decide +kernel
theorem dX5_send_73 : decode cX5_send 73 = .ok (.iload_n 3, 1) := by decide +kernel
theorem dX5_send_74 : decode cX5_send 74 = .ok (.if_icmp .ge 7, 3) := by decide +kernel
theorem dX5_send_77 : decode cX5_send 77 = .ok (.iconst 1, 1) := by decide +kernel
theorem dX5_send_78 : decode cX5_send 78 = .ok (.goto 4, 3) := by decide +kernel
theorem dX5_send_81 : decode cX5_send 81 = .ok (.iconst 0, 1) := by decide +kernel
theorem dX5_send_82 : decode cX5_send 82 = .ok (.istore 7, 2) := by decide +kernel
theorem dX5_send_84 : decode cX5_send 84 = .ok (.iload 7, 2) := by decide +kernel
theorem dX5_send_86 : decode cX5_send 86 = .ok (.ifCond .eq 8, 3) := by decide +kernel
theorem dX5_send_89 : decode cX5_send 89 = .ok (.iload 4, 2) := by decide +kernel
theorem dX5_send_91 : decode cX5_send 91 = .ok (.goto 4, 3) := by decide +kernel
theorem dX5_send_94 : decode cX5_send 94 = .ok (.iload_n 2, 1) := by decide +kernel
theorem dX5_send_95 : decode cX5_send 95 = .ok (.istore_n 2, 1) := by decide +kernel
theorem dX5_send_96 : decode cX5_send 96 = .ok (.iload 7, 2) := by decide +kernel
theorem dX5_send_98 : decode cX5_send 98 = .ok (.ifCond .eq 8, 3) := by decide +kernel
theorem dX5_send_101 : decode cX5_send 101 = .ok (.iload 6, 2) := by decide +kernel
theorem dX5_send_103 : decode cX5_send 103 = .ok (.goto 4, 3) := by decide +kernel
theorem dX5_send_106 : decode cX5_send 106 = .ok (.iload_n 3, 1) := by decide +kernel
theorem dX5_send_107 : decode cX5_send 107 = .ok (.istore_n 3, 1) := by decide +kernel
theorem dX5_send_108 : decode cX5_send 108 = .ok (.iinc 4 1, 3) := by decide +kernel
theorem dX5_send_111 : decode cX5_send 111 = .ok (.goto (-82), 3) := by decide +kernel
theorem dX5_send_114 : decode cX5_send 114 = .ok (.aload_n 0, 1) := by decide +kernel
theorem dX5_send_115 : decode cX5_send 115 = .ok (.iload_n 2, 1) := by decide +kernel
theorem dX5_send_116 : decode cX5_send 116 = .ok (.invokevirtual 148, 3) := by decide +kernel
theorem dX5_send_119 : decode cX5_send 119 = .ok (.ireturn, 1) := by decide +kernel
set_option maxRecDepth 20000 in
theorem ggX5_kind_X5_isMother : GoodIn wsX5_kind wsX5_isMother := goodIn_r _ [6, 7, 8, 9, 5, 10, 111, 112, 113, 114, 115, 116, 117, 118, 119, 120, 121, 122, 123, 124, 125] (by decide +kernel) (by decide +kernel)
set_option maxRecDepth 20000 in
theorem gX5_kind_X5_isMother : GoodIn wsX5_kind (wsV RX5 96 RX5 yX5_isMother wsX5_isMother) := goodIn_app (goodIn_of _ (by decide +kernel)) ggX5_kind_X5_isMother
set_option maxRecDepth 20000 in
theorem ggX5_kind_X5_in : GoodIn wsX5_kind wsX5_in := goodIn_r _ [10] (by decide +kernel) (by decide +kernel)
set_option maxRecDepth 20000 in
theorem gX5_kind_X5_in : GoodIn wsX5_kind (va_wsS RX5 41 yX5_in wsX5_in) := goodIn_app (goodIn_of _ (by decide +kernel)) ggX5_kind_X5_in
set_option maxRecDepth 20000 in
theorem ggX5_kind_X5_finds : GoodIn wsX5_kind wsX5_finds := goodIn_r _ [14, 15, 1, 111, 112, 113, 114, 115, 116, 117, 118, 119, 120, 121, 122, 123, 124, 125] (by decide +kernel) (by decide +kernel)
set_option maxRecDepth 20000 in
theorem gX5_kind_X5_finds : GoodIn wsX5_kind (wsV RX5 37 RX5 yX5_finds wsX5_finds) := goodIn_app (goodIn_of _ (by decide +kernel)) ggX5_kind_X5_finds
set_option maxRecDepth 20000 in
theorem ggX5_kind_X5_thinks : GoodIn wsX5_kind wsX5_thinks := goodIn_r _ [19, 7, 20, 21, 22, 5, 23, 111, 112, 113, 114, 115, 116, 117, 118, 119, 120, 121, 122, 123, 124, 125] (by decide +kernel) (by decide +kernel)
set_option maxRecDepth 20000 in
theorem gX5_kind_X5_thinks : GoodIn wsX5_kind (wsV RX5 139 RX5 yX5_thinks wsX5_thinks) := goodIn_app (goodIn_of _ (by decide +kernel)) ggX5_kind_X5_thinks
set_option maxRecDepth 20000 in
theorem ggX5_kind_X5_put : GoodIn wsX5_kind wsX5_put := goodIn_r _ [27, 7, 111, 112, 113, 114, 115, 116, 117, 118, 119, 120, 121, 122, 123, 124, 125] (by decide +kernel) (by decide +kernel)
set_option maxRecDepth 20000 in
theorem gX5_kind_X5_put : GoodIn wsX5_kind (wsV RX5 87 RX5 yX5_put wsX5_put) := goodIn_app (goodIn_of _ (by decide +kernel)) ggX5_kind_X5_put
set_option maxRecDepth 20000 in
theorem ggX5_kind_X5_turnedOn : GoodIn wsX5_kind wsX5_turnedOn := goodIn_r _ [31, 7, 32, 33, 34, 5, 35, 36, 37, 38, 39, 40, 41, 42, 43, 44, 45, 46, 47, 48, 49, 50, 51, 52, 53, 54, 55, 56, 57, 58, 59, 60, 61, 62, 63, 64, 65, 66, 67, 68, 69, 70, 71, 72, 73, 74, 75, 76, 77, 78, 79, 80, 81, 82, 83, 84, 85, 86, 87, 88, 89, 90, 91, 92, 93, 94, 95, 96, 97, 98, 99, 100, 101, 102, 103, 104, 105, 106, 24, 25, 26, 27, 107, 108, 109, 110, 20, 21, 22, 23, 111, 112, 113, 114, 115, 116, 117, 118, 119, 120, 121, 122, 123, 124, 125] (by decide +kernel) (by decide +kernel)
set_option maxRecDepth 20000 in
theorem gX5_kind_X5_turnedOn : GoodIn wsX5_kind (wsV RX5 145 RX5 yX5_turnedOn wsX5_turnedOn) := goodIn_app (goodIn_of _ (by decide +kernel)) ggX5_kind_X5_turnedOn
theorem dX5_kind_0 : decode cX5_kind 0 = .ok (.aload_n 0, 1) := by decide +kernel
theorem dX5_kind_1 : decode cX5_kind 1 = .ok (.iload_n 1, 1) := by decide +kernel
theorem dX5_kind_2 : decode cX5_kind 2 = .ok (.invokevirtual 96, 3) := by decide +kernel
theorem dX5_kind_5 : decode cX5_kind 5 = .ok (.ifCond .eq 14, 3) := by decide +kernel
theorem dX5_kind_8 : decode cX5_kind 8 = .ok (.iload_n 2, 1) := by decide +kernel
theorem dX5_kind_9 : decode cX5_kind 9 = .ok (.i2l, 1) := by decide +kernel
theorem dX5_kind_10 : decode cX5_kind 10 = .ok (.iconst 1, 1) := by decide +kernel
theorem dX5_kind_11 : decode cX5_kind 11 = .ok (.bipush 60, 2) := by decide +kernel
theorem dX5_kind_13 : decode cX5_kind 13 = .ok (.invokestatic 41, 3) := by decide +kernel
theorem dX5_kind_16 : decode cX5_kind 16 = .ok (.ifCond .ne 10, 3) := by decide +kernel
theorem dX5_kind_19 : decode cX5_kind 19 = .ok (.aload_n 0, 1) := by decide +kernel
theorem dX5_kind_20 : decode cX5_kind 20 = .ok (.ldc 35, 2) := by decide +kernel
theorem dX5_kind_22 : decode cX5_kind 22 = .ok (.invokevirtual 37, 3) := by decide +kernel
theorem dX5_kind_25 : decode cX5_kind 25 = .ok (.ireturn, 1) := by decide +kernel
theorem dX5_kind_26 : decode cX5_kind 26 = .ok (.aload_n 0, 1) := by decide +kernel
theorem dX5_kind_27 : decode cX5_kind 27 = .ok (.invokevirtual 139, 3) := by decide +kernel
theorem dX5_kind_30 : decode cX5_kind 30 = .ok (.iconst 0, 1) := by decide +kernel
theorem dX5_kind_31 : decode cX5_kind 31 = .ok (.istore_n 3, 1) := by decide +kernel
theorem dX5_kind_32 : decode cX5_kind 32 = .ok (.iconst (-1), 1) := by decide +kernel
theorem dX5_kind_33 : decode cX5_kind 33 = .ok (.istore 4, 2) := by decide +kernel
theorem dX5_kind_35 : decode cX5_kind 35 = .ok (.iconst 0, 1) := by decide +kernel
theorem dX5_kind_36 : decode cX5_kind 36 = .ok (.istore 5, 2) := by decide +kernel
theorem dX5_kind_38 : decode cX5_kind 38 = .ok (.iload 5, 2) := by decide +kernel
theorem dX5_kind_40 : decode cX5_kind 40 = .ok (.iconst 5, 1) := by decide +kernel
theorem dX5_kind_41 : decode cX5_kind 41 = .ok (.if_icmp .gt 54, 3) := by decide +kernel
theorem dX5_kind_44 : decode cX5_kind 44 = .ok (.aload_n 0, 1) := by decide +kernel
theorem dX5_kind_45 : decode cX5_kind 45 = .ok (.iload_n 1, 1) := by decide +kernel
theorem dX5_kind_46 : decode cX5_kind 46 = .ok (.iconst 0, 1) := by decide +kernel
theorem dX5_kind_47 : decode cX5_kind 47 = .ok (.iload 5, 2) := by decide +kernel
theorem dX5_kind_49 : decode cX5_kind 49 = .ok (.invokevirtual 87, 3) := by decide +kernel
theorem dX5_kind_52 : decode cX5_kind 52 = .ok (.aload_n 0, 1) := by decide +kernel
theorem dX5_kind_53 : decode cX5_kind 53 = .ok (.iload_n 2, 1) := by decide +kernel
theorem dX5_kind_54 : decode cX5_kind 54 = .ok (.invokevirtual 145, 3) := by decide +kernel
theorem dX5_kind_57 : decode cX5_kind 57 = .ok (.istore 6, 2) := by decide +kernel
theorem dX5_kind_59 : decode cX5_kind 59 = .ok (.iload 6, 2) := by decide +kernel
theorem dX5_kind_61 : decode cX5_kind 61 = .ok (.iload 4, 2) := by decide +kernel
theorem dX5_kind_63 : decode cX5_kind 63 = .ok (.if_icmp .le 8, 3) := by decide +kernel
theorem dX5_kind_66 : decode cX5_kind 66 = .ok (.iload 5, 2) := by decide +kernel
theorem dX5_kind_68 : decode cX5_kind 68 = .ok (.goto 4, 3) := by decide +kernel
theorem dX5_kind_71 : decode cX5_kind 71 = .ok (.iload_n 3, 1) := by decide +kernel
theorem dX5_kind_72 : decode cX5_kind 72 = .ok (.istore_n 3, 1) := by decide +kernel
theorem dX5_kind_73 : decode cX5_kind 73 = .ok (.iload 6, 2) := by decide +kernel
theorem dX5_kind_75 : decode cX5_kind 75 = .ok (.iload 4, 2) := by decide +kernel
theorem dX5_kind_77 : decode cX5_kind 77 = .ok (.if_icmp .le 8, 3) := by decide +kernel
theorem dX5_kind_80 : decode cX5_kind 80 = .ok (.iload 6, 2) := by decide +kernel
theorem dX5_kind_82 : decode cX5_kind 82 = .ok (.goto 5, 3) := by decide +kernel
theorem dX5_kind_85 : decode cX5_kind 85 = .ok (.iload 4, 2) := by decide +kernel
theorem dX5_kind_87 : decode cX5_kind 87 = .ok (.istore 4, 2) := by decide +kernel
theorem dX5_kind_89 : decode cX5_kind 89 = .ok (.iinc 5 1, 3) := by decide +kernel
theorem dX5_kind_92 : decode cX5_kind 92 = .ok (.goto (-54), 3) := by decide +kernel
theorem dX5_kind_95 : decode cX5_kind 95 = .ok (.iload_n 3, 1) := by decide +kernel
theorem dX5_kind_96 : decode cX5_kind 96 = .ok (.ireturn, 1) := by decide +kernel
set_option maxRecDepth 20000 in
theorem ggX5_firm_X5_isChild : GoodIn wsX5_firm wsX5_isChild := goodIn_r _ [6, 7, 8, 9, 5, 10, 112, 113, 114, 115, 116, 117, 118, 119, 120, 121, 122, 123, 124, 125, 126] (by decide +kernel) (by decide +kernel)
set_option maxRecDepth 20000 in
theorem gX5_firm_X5_isChild : GoodIn wsX5_firm (wsV RX5 116 RX5 yX5_isChild wsX5_isChild) := goodIn_app (goodIn_of _ (by decide +kernel)) ggX5_firm_X5_isChild
set_option maxRecDepth 20000 in
theorem ggX5_firm_X5_in : GoodIn wsX5_firm wsX5_in := goodIn_r _ [10] (by decide +kernel) (by decide +kernel)
set_option maxRecDepth 20000 in
theorem gX5_firm_X5_in : GoodIn wsX5_firm (va_wsS RX5 41 yX5_in wsX5_in) := goodIn_app (goodIn_of _ (by decide +kernel)) ggX5_firm_X5_in
set_option maxRecDepth 20000 in
theorem ggX5_firm_X5_finds : GoodIn wsX5_firm wsX5_finds := goodIn_r _ [14, 15, 1, 112, 113, 114, 115, 116, 117, 118, 119, 120, 121, 122, 123, 124, 125, 126] (by decide +kernel) (by decide +kernel)
set_option maxRecDepth 20000 in
theorem gX5_firm_X5_finds : GoodIn wsX5_firm (wsV RX5 37 RX5 yX5_finds wsX5_finds) := goodIn_app (goodIn_of _ (by decide +kernel)) ggX5_firm_X5_finds
set_option maxRecDepth 20000 in
theorem ggX5_firm_X5_thinks : GoodIn wsX5_firm wsX5_thinks := goodIn_r _ [19, 7, 20, 21, 22, 5, 23, 112, 113, 114, 115, 116, 117, 118, 119, 120, 121, 122, 123, 124, 125, 126] (by decide +kernel) (by decide +kernel)
set_option maxRecDepth 20000 in
theorem gX5_firm_X5_thinks : GoodIn wsX5_firm (wsV RX5 139 RX5 yX5_thinks wsX5_thinks) := goodIn_app (goodIn_of _ (by decide +kernel)) ggX5_firm_X5_thinks
set_option maxRecDepth 20000 in
theorem ggX5_firm_X5_about : GoodIn wsX5_firm wsX5_about := goodIn_r _ [27, 7, 112, 113, 114, 115, 116, 117, 118, 119, 120, 121, 122, 123, 124, 125, 126] (by decide +kernel) (by decide +kernel)
set_option maxRecDepth 20000 in
theorem gX5_firm_X5_about : GoodIn wsX5_firm (wsV RX5 69 RX5 yX5_about wsX5_about) := goodIn_app (goodIn_of _ (by decide +kernel)) ggX5_firm_X5_about
set_option maxRecDepth 20000 in
theorem ggX5_firm_X5_lets : GoodIn wsX5_firm wsX5_lets := goodIn_r _ [31, 7, 112, 113, 114, 115, 116, 117, 118, 119, 120, 121, 122, 123, 124, 125, 126] (by decide +kernel) (by decide +kernel)
set_option maxRecDepth 20000 in
theorem gX5_firm_X5_lets : GoodIn wsX5_firm (wsV RX5 110 RX5 yX5_lets wsX5_lets) := goodIn_app (goodIn_of _ (by decide +kernel)) ggX5_firm_X5_lets
set_option maxRecDepth 20000 in
theorem ggX5_firm_X5_goesFor : GoodIn wsX5_firm wsX5_goesFor := goodIn_r _ [35, 36, 37, 38, 5, 39, 7, 40, 41, 42, 43, 44, 45, 46, 47, 48, 49, 50, 51, 52, 53, 54, 55, 56, 57, 58, 59, 60, 61, 62, 63, 64, 65, 66, 67, 68, 69, 70, 71, 72, 73, 74, 75, 76, 77, 78, 79, 80, 81, 82, 83, 24, 25, 26, 27, 84, 85, 86, 87, 88, 89, 90, 28, 29, 30, 31, 91, 92, 93, 94, 95, 96, 97, 98, 99, 100, 101, 102, 112, 113, 114, 115, 116, 117, 118, 119, 120, 121, 122, 123, 124, 125, 126] (by decide +kernel) (by decide +kernel)
set_option maxRecDepth 20000 in
theorem gX5_firm_X5_goesFor : GoodIn wsX5_firm (wsV RX5 132 RX5 yX5_goesFor wsX5_goesFor) := goodIn_app (goodIn_of _ (by decide +kernel)) ggX5_firm_X5_goesFor
set_option maxRecDepth 20000 in
theorem ggX5_firm_X5_putsBack : GoodIn wsX5_firm wsX5_putsBack := goodIn_r _ [106, 20, 7, 21, 22, 5, 23, 112, 113, 114, 115, 116, 117, 118, 119, 120, 121, 122, 123, 124, 125, 126] (by decide +kernel) (by decide +kernel)
set_option maxRecDepth 20000 in
theorem gX5_firm_X5_putsBack : GoodIn wsX5_firm (wsV RX5 142 RX5 yX5_putsBack wsX5_putsBack) := goodIn_app (goodIn_of _ (by decide +kernel)) ggX5_firm_X5_putsBack
set_option maxRecDepth 20000 in
theorem ggX5_firm_X5_orNone : GoodIn wsX5_firm wsX5_orNone := goodIn_r _ [110, 111, 11, 12, 13, 5, 14, 15, 1, 112, 113, 114, 115, 116, 117, 118, 119, 120, 121, 122, 123, 124, 125, 126] (by decide +kernel) (by decide +kernel)
set_option maxRecDepth 20000 in
theorem gX5_firm_X5_orNone : GoodIn wsX5_firm (wsV RX5 148 RX5 yX5_orNone wsX5_orNone) := goodIn_app (goodIn_of _ (by decide +kernel)) ggX5_firm_X5_orNone
theorem dX5_firm_0 : decode cX5_firm 0 = .ok (.aload_n 0, 1) := by decide +kernel
theorem dX5_firm_1 : decode cX5_firm 1 = .ok (.iload_n 1, 1) := by decide +kernel
theorem dX5_firm_2 : decode cX5_firm 2 = .ok (.invokevirtual 116, 3) := by decide +kernel
theorem dX5_firm_5 : decode cX5_firm 5 = .ok (.ifCond .eq 14, 3) := by decide +kernel
theorem dX5_firm_8 : decode cX5_firm 8 = .ok (.iload_n 2, 1) := by decide +kernel
theorem dX5_firm_9 : decode cX5_firm 9 = .ok (.i2l, 1) := by decide +kernel
theorem dX5_firm_10 : decode cX5_firm 10 = .ok (.iconst 1, 1) := by decide +kernel
theorem dX5_firm_11 : decode cX5_firm 11 = .ok (.bipush 60, 2) := by decide +kernel
theorem dX5_firm_13 : decode cX5_firm 13 = .ok (.invokestatic 41, 3) := by decide +kernel
theorem dX5_firm_16 : decode cX5_firm 16 = .ok (.ifCond .ne 10, 3) := by decide +kernel
theorem dX5_firm_19 : decode cX5_firm 19 = .ok (.aload_n 0, 1) := by decide +kernel
theorem dX5_firm_20 : decode cX5_firm 20 = .ok (.ldc 35, 2) := by decide +kernel
theorem dX5_firm_22 : decode cX5_firm 22 = .ok (.invokevirtual 37, 3) := by decide +kernel
theorem dX5_firm_25 : decode cX5_firm 25 = .ok (.ireturn, 1) := by decide +kernel
theorem dX5_firm_26 : decode cX5_firm 26 = .ok (.aload_n 0, 1) := by decide +kernel
theorem dX5_firm_27 : decode cX5_firm 27 = .ok (.invokevirtual 139, 3) := by decide +kernel
theorem dX5_firm_30 : decode cX5_firm 30 = .ok (.aload_n 0, 1) := by decide +kernel
theorem dX5_firm_31 : decode cX5_firm 31 = .ok (.iload_n 1, 1) := by decide +kernel
theorem dX5_firm_32 : decode cX5_firm 32 = .ok (.iconst 2, 1) := by decide +kernel
theorem dX5_firm_33 : decode cX5_firm 33 = .ok (.invokevirtual 69, 3) := by decide +kernel
theorem dX5_firm_36 : decode cX5_firm 36 = .ok (.istore_n 3, 1) := by decide +kernel
theorem dX5_firm_37 : decode cX5_firm 37 = .ok (.iconst (-1), 1) := by decide +kernel
theorem dX5_firm_38 : decode cX5_firm 38 = .ok (.istore 4, 2) := by decide +kernel
theorem dX5_firm_40 : decode cX5_firm 40 = .ok (.iconst 0, 1) := by decide +kernel
theorem dX5_firm_41 : decode cX5_firm 41 = .ok (.istore 5, 2) := by decide +kernel
theorem dX5_firm_43 : decode cX5_firm 43 = .ok (.iload 5, 2) := by decide +kernel
theorem dX5_firm_45 : decode cX5_firm 45 = .ok (.sipush 200, 3) := by decide +kernel
theorem dX5_firm_48 : decode cX5_firm 48 = .ok (.if_icmp .gt 49, 3) := by decide +kernel
theorem dX5_firm_51 : decode cX5_firm 51 = .ok (.iload 4, 2) := by decide +kernel
theorem dX5_firm_53 : decode cX5_firm 53 = .ok (.ifCond .ge 44, 3) := by decide +kernel
theorem dX5_firm_56 : decode cX5_firm 56 = .ok (.aload_n 0, 1) := by decide +kernel
theorem dX5_firm_57 : decode cX5_firm 57 = .ok (.iload_n 1, 1) := by decide +kernel
theorem dX5_firm_58 : decode cX5_firm 58 = .ok (.iconst 0, 1) := by decide +kernel
theorem dX5_firm_59 : decode cX5_firm 59 = .ok (.iload 5, 2) := by decide +kernel
theorem dX5_firm_61 : decode cX5_firm 61 = .ok (.invokevirtual 110, 3) := by decide +kernel
theorem dX5_firm_64 : decode cX5_firm 64 = .ok (.aload_n 0, 1) := by decide +kernel
theorem dX5_firm_65 : decode cX5_firm 65 = .ok (.iload_n 2, 1) := by decide +kernel
theorem dX5_firm_66 : decode cX5_firm 66 = .ok (.invokevirtual 132, 3) := by decide +kernel
theorem dX5_firm_69 : decode cX5_firm 69 = .ok (.aload_n 0, 1) := by decide +kernel
theorem dX5_firm_70 : decode cX5_firm 70 = .ok (.iload_n 1, 1) := by decide +kernel
theorem dX5_firm_71 : decode cX5_firm 71 = .ok (.iconst 2, 1) := by decide +kernel
theorem dX5_firm_72 : decode cX5_firm 72 = .ok (.invokevirtual 69, 3) := by decide +kernel
theorem dX5_firm_75 : decode cX5_firm 75 = .ok (.iload_n 3, 1) := by decide +kernel
theorem dX5_firm_76 : decode cX5_firm 76 = .ok (.if_icmp .ne 8, 3) := by decide +kernel
theorem dX5_firm_79 : decode cX5_firm 79 = .ok (.iload 5, 2) := by decide +kernel
theorem dX5_firm_81 : decode cX5_firm 81 = .ok (.goto 4, 3) := by decide +kernel
theorem dX5_firm_84 : decode cX5_firm 84 = .ok (.iconst (-1), 1) := by decide +kernel
theorem dX5_firm_85 : decode cX5_firm 85 = .ok (.istore 4, 2) := by decide +kernel
theorem dX5_firm_87 : decode cX5_firm 87 = .ok (.aload_n 0, 1) := by decide +kernel
theorem dX5_firm_88 : decode cX5_firm 88 = .ok (.invokevirtual 142, 3) := by decide +kernel
theorem dX5_firm_91 : decode cX5_firm 91 = .ok (.iinc 5 1, 3) := by decide +kernel
theorem dX5_firm_94 : decode cX5_firm 94 = .ok (.goto (-51), 3) := by decide +kernel
theorem dX5_firm_97 : decode cX5_firm 97 = .ok (.aload_n 0, 1) := by decide +kernel
theorem dX5_firm_98 : decode cX5_firm 98 = .ok (.iload 4, 2) := by decide +kernel
theorem dX5_firm_100 : decode cX5_firm 100 = .ok (.invokevirtual 148, 3) := by decide +kernel
theorem dX5_firm_103 : decode cX5_firm 103 = .ok (.ireturn, 1) := by decide +kernel
set_option maxRecDepth 20000 in
theorem ggX5_allFlung_X5_about : GoodIn wsX5_allFlung wsX5_about := goodIn_r _ [6, 1, 7, 8, 9, 10, 11, 12, 13, 14, 15, 16, 17, 18, 19, 20, 21] (by decide +kernel) (by decide +kernel)
set_option maxRecDepth 20000 in
theorem gX5_allFlung_X5_about : GoodIn wsX5_allFlung (wsV RX5 69 RX5 yX5_about wsX5_about) := goodIn_app (goodIn_of _ (by decide +kernel)) ggX5_allFlung_X5_about
theorem dX5_allFlung_0 : decode cX5_allFlung 0 = .ok (.iconst 0, 1) := by decide +kernel
theorem dX5_allFlung_1 : decode cX5_allFlung 1 = .ok (.istore_n 1, 1) := by decide +kernel
theorem dX5_allFlung_2 : decode cX5_allFlung 2 = .ok (.iconst 0, 1) := by decide +kernel
theorem dX5_allFlung_3 : decode cX5_allFlung 3 = .ok (.istore_n 2, 1) := by decide +kernel
theorem dX5_allFlung_4 : decode cX5_allFlung 4 = .ok (.iload_n 2, 1) := by decide +kernel
theorem dX5_allFlung_5 : decode cX5_allFlung 5 = .ok (.aload_n 0, 1) := by decide +kernel
theorem dX5_allFlung_6 : decode cX5_allFlung 6 = .ok (.getfield 9, 3) := by decide +kernel
theorem dX5_allFlung_9 : decode cX5_allFlung 9 = .ok (.bipush 6, 2) := by decide +kernel
theorem dX5_allFlung_11 : decode cX5_allFlung 11 = .ok (.iaload, 1) := by decide +kernel
theorem dX5_allFlung_12 : decode cX5_allFlung 12 = .ok (.if_icmp .ge 18, 3) := by decide +kernel
theorem dX5_allFlung_15 : decode cX5_allFlung 15 = .ok (.iload_n 1, 1) := by decide +kernel
theorem dX5_allFlung_16 : decode cX5_allFlung 16 = .ok (.aload_n 0, 1) := by decide +kernel
theorem dX5_allFlung_17 : decode cX5_allFlung 17 = .ok (.iload_n 2, 1) := by decide +kernel
theorem dX5_allFlung_18 : decode cX5_allFlung 18 = .ok (.iconst 2, 1) := by decide +kernel
theorem dX5_allFlung_19 : decode cX5_allFlung 19 = .ok (.invokevirtual 69, 3) := by decide +kernel
theorem dX5_allFlung_22 : decode cX5_allFlung 22 = .ok (.iadd, 1) := by decide +kernel
theorem dX5_allFlung_23 : decode cX5_allFlung 23 = .ok (.istore_n 1, 1) := by decide +kernel
theorem dX5_allFlung_24 : decode cX5_allFlung 24 = .ok (.iinc 2 1, 3) := by decide +kernel
theorem dX5_allFlung_27 : decode cX5_allFlung 27 = .ok (.goto (-23), 3) := by decide +kernel
theorem dX5_allFlung_30 : decode cX5_allFlung 30 = .ok (.iload_n 1, 1) := by decide +kernel
theorem dX5_allFlung_31 : decode cX5_allFlung 31 = .ok (.ireturn, 1) := by decide +kernel
set_option maxRecDepth 20000 in
theorem ggX5_heavy_X5_in : GoodIn wsX5_heavy wsX5_in := goodIn_r _ [6] (by decide +kernel) (by decide +kernel)
set_option maxRecDepth 20000 in
theorem gX5_heavy_X5_in : GoodIn wsX5_heavy (va_wsS RX5 41 yX5_in wsX5_in) := goodIn_app (goodIn_of _ (by decide +kernel)) ggX5_heavy_X5_in
set_option maxRecDepth 20000 in
theorem ggX5_heavy_X5_finds : GoodIn wsX5_heavy wsX5_finds := goodIn_r _ [10, 11, 1, 112, 113, 114, 115, 116, 117, 118, 119, 120, 121, 122, 123, 124, 125, 126] (by decide +kernel) (by decide +kernel)
set_option maxRecDepth 20000 in
theorem gX5_heavy_X5_finds : GoodIn wsX5_heavy (wsV RX5 37 RX5 yX5_finds wsX5_finds) := goodIn_app (goodIn_of _ (by decide +kernel)) ggX5_heavy_X5_finds
set_option maxRecDepth 20000 in
theorem ggX5_heavy_X5_thinks : GoodIn wsX5_heavy wsX5_thinks := goodIn_r _ [15, 2, 16, 17, 18, 5, 19, 112, 113, 114, 115, 116, 117, 118, 119, 120, 121, 122, 123, 124, 125, 126] (by decide +kernel) (by decide +kernel)
set_option maxRecDepth 20000 in
theorem gX5_heavy_X5_thinks : GoodIn wsX5_heavy (wsV RX5 139 RX5 yX5_thinks wsX5_thinks) := goodIn_app (goodIn_of _ (by decide +kernel)) ggX5_heavy_X5_thinks
set_option maxRecDepth 20000 in
theorem ggX5_heavy_X5_allFlung : GoodIn wsX5_heavy wsX5_allFlung := goodIn_r _ [23, 2, 24, 25, 26, 5, 27, 112, 113, 114, 115, 116, 117, 118, 119, 120, 121, 122, 123, 124, 125, 126] (by decide +kernel) (by decide +kernel)
set_option maxRecDepth 20000 in
theorem gX5_heavy_X5_allFlung : GoodIn wsX5_heavy (wsV RX5 151 RX5 yX5_allFlung wsX5_allFlung) := goodIn_app (goodIn_of _ (by decide +kernel)) ggX5_heavy_X5_allFlung
set_option maxRecDepth 20000 in
theorem ggX5_heavy_X5_goesFor : GoodIn wsX5_heavy wsX5_goesFor := goodIn_r _ [31, 32, 33, 34, 5, 35, 2, 36, 37, 38, 39, 40, 41, 42, 43, 44, 45, 46, 47, 48, 49, 50, 51, 52, 53, 54, 55, 56, 57, 58, 59, 60, 61, 62, 63, 64, 65, 66, 67, 68, 69, 70, 71, 72, 73, 74, 75, 76, 77, 78, 79, 24, 25, 26, 27, 80, 81, 82, 83, 84, 85, 86, 87, 88, 89, 90, 91, 92, 93, 94, 95, 96, 97, 98, 99, 100, 101, 102, 112, 113, 114, 115, 116, 117, 118, 119, 120, 121, 122, 123, 124, 125, 126] (by decide +kernel) (by decide +kernel)
set_option maxRecDepth 20000 in
theorem gX5_heavy_X5_goesFor : GoodIn wsX5_heavy (wsV RX5 132 RX5 yX5_goesFor wsX5_goesFor) := goodIn_app (goodIn_of _ (by decide +kernel)) ggX5_heavy_X5_goesFor
set_option maxRecDepth 20000 in
theorem ggX5_heavy_X5_putsBack : GoodIn wsX5_heavy wsX5_putsBack := goodIn_r _ [106, 16, 2, 17, 18, 5, 19, 112, 113, 114, 115, 116, 117, 118, 119, 120, 121, 122, 123, 124, 125, 126] (by decide +kernel) (by decide +kernel)
set_option maxRecDepth 20000 in
theorem gX5_heavy_X5_putsBack : GoodIn wsX5_heavy (wsV RX5 142 RX5 yX5_putsBack wsX5_putsBack) := goodIn_app (goodIn_of _ (by decide +kernel)) ggX5_heavy_X5_putsBack
set_option maxRecDepth 20000 in
theorem ggX5_heavy_X5_orNone : GoodIn wsX5_heavy wsX5_orNone := goodIn_r _ [110, 111, 7, 8, 9, 5, 10, 11, 1, 112, 113, 114, 115, 116, 117, 118, 119, 120, 121, 122, 123, 124, 125, 126] (by decide +kernel) (by decide +kernel)
set_option maxRecDepth 20000 in
theorem gX5_heavy_X5_orNone : GoodIn wsX5_heavy (wsV RX5 148 RX5 yX5_orNone wsX5_orNone) := goodIn_app (goodIn_of _ (by decide +kernel)) ggX5_heavy_X5_orNone
theorem dX5_heavy_0 : decode cX5_heavy 0 = .ok (.iload_n 1, 1) := by decide +kernel
theorem dX5_heavy_1 : decode cX5_heavy 1 = .ok (.i2l, 1) := by decide +kernel
theorem dX5_heavy_2 : decode cX5_heavy 2 = .ok (.iconst 1, 1) := by decide +kernel
theorem dX5_heavy_3 : decode cX5_heavy 3 = .ok (.bipush 60, 2) := by decide +kernel
theorem dX5_heavy_5 : decode cX5_heavy 5 = .ok (.invokestatic 41, 3) := by decide +kernel
theorem dX5_heavy_8 : decode cX5_heavy 8 = .ok (.ifCond .ne 10, 3) := by decide +kernel
theorem dX5_heavy_11 : decode cX5_heavy 11 = .ok (.aload_n 0, 1) := by decide +kernel
theorem dX5_heavy_12 : decode cX5_heavy 12 = .ok (.ldc 35, 2) := by decide +kernel
theorem dX5_heavy_14 : decode cX5_heavy 14 = .ok (.invokevirtual 37, 3) := by decide +kernel
theorem dX5_heavy_17 : decode cX5_heavy 17 = .ok (.ireturn, 1) := by decide +kernel
theorem dX5_heavy_18 : decode cX5_heavy 18 = .ok (.aload_n 0, 1) := by decide +kernel
theorem dX5_heavy_19 : decode cX5_heavy 19 = .ok (.invokevirtual 139, 3) := by decide +kernel
theorem dX5_heavy_22 : decode cX5_heavy 22 = .ok (.aload_n 0, 1) := by decide +kernel
theorem dX5_heavy_23 : decode cX5_heavy 23 = .ok (.invokevirtual 151, 3) := by decide +kernel
theorem dX5_heavy_26 : decode cX5_heavy 26 = .ok (.istore_n 2, 1) := by decide +kernel
theorem dX5_heavy_27 : decode cX5_heavy 27 = .ok (.iconst (-1), 1) := by decide +kernel
theorem dX5_heavy_28 : decode cX5_heavy 28 = .ok (.istore_n 3, 1) := by decide +kernel
theorem dX5_heavy_29 : decode cX5_heavy 29 = .ok (.iconst 1, 1) := by decide +kernel
theorem dX5_heavy_30 : decode cX5_heavy 30 = .ok (.istore 4, 2) := by decide +kernel
theorem dX5_heavy_32 : decode cX5_heavy 32 = .ok (.iload 4, 2) := by decide +kernel
theorem dX5_heavy_34 : decode cX5_heavy 34 = .ok (.bipush 50, 2) := by decide +kernel
theorem dX5_heavy_36 : decode cX5_heavy 36 = .ok (.if_icmp .gt 45, 3) := by decide +kernel
theorem dX5_heavy_39 : decode cX5_heavy 39 = .ok (.iload_n 3, 1) := by decide +kernel
theorem dX5_heavy_40 : decode cX5_heavy 40 = .ok (.ifCond .ge 41, 3) := by decide +kernel
theorem dX5_heavy_43 : decode cX5_heavy 43 = .ok (.aload_n 0, 1) := by decide +kernel
theorem dX5_heavy_44 : decode cX5_heavy 44 = .ok (.getfield 9, 3) := by decide +kernel
theorem dX5_heavy_47 : decode cX5_heavy 47 = .ok (.iconst 2, 1) := by decide +kernel
theorem dX5_heavy_48 : decode cX5_heavy 48 = .ok (.iload 4, 2) := by decide +kernel
theorem dX5_heavy_50 : decode cX5_heavy 50 = .ok (.iastore, 1) := by decide +kernel
theorem dX5_heavy_51 : decode cX5_heavy 51 = .ok (.aload_n 0, 1) := by decide +kernel
theorem dX5_heavy_52 : decode cX5_heavy 52 = .ok (.iload_n 1, 1) := by decide +kernel
theorem dX5_heavy_53 : decode cX5_heavy 53 = .ok (.invokevirtual 132, 3) := by decide +kernel
theorem dX5_heavy_56 : decode cX5_heavy 56 = .ok (.aload_n 0, 1) := by decide +kernel
theorem dX5_heavy_57 : decode cX5_heavy 57 = .ok (.invokevirtual 151, 3) := by decide +kernel
theorem dX5_heavy_60 : decode cX5_heavy 60 = .ok (.iload_n 2, 1) := by decide +kernel
theorem dX5_heavy_61 : decode cX5_heavy 61 = .ok (.if_icmp .ne 8, 3) := by decide +kernel
theorem dX5_heavy_64 : decode cX5_heavy 64 = .ok (.iload 4, 2) := by decide +kernel
theorem dX5_heavy_66 : decode cX5_heavy 66 = .ok (.goto 4, 3) := by decide +kernel
theorem dX5_heavy_69 : decode cX5_heavy 69 = .ok (.iconst (-1), 1) := by decide +kernel
theorem dX5_heavy_70 : decode cX5_heavy 70 = .ok (.istore_n 3, 1) := by decide +kernel
theorem dX5_heavy_71 : decode cX5_heavy 71 = .ok (.aload_n 0, 1) := by decide +kernel
theorem dX5_heavy_72 : decode cX5_heavy 72 = .ok (.invokevirtual 142, 3) := by decide +kernel
theorem dX5_heavy_75 : decode cX5_heavy 75 = .ok (.iinc 4 1, 3) := by decide +kernel
theorem dX5_heavy_78 : decode cX5_heavy 78 = .ok (.goto (-46), 3) := by decide +kernel
theorem dX5_heavy_81 : decode cX5_heavy 81 = .ok (.aload_n 0, 1) := by decide +kernel
theorem dX5_heavy_82 : decode cX5_heavy 82 = .ok (.iload_n 3, 1) := by decide +kernel
theorem dX5_heavy_83 : decode cX5_heavy 83 = .ok (.invokevirtual 148, 3) := by decide +kernel
theorem dX5_heavy_86 : decode cX5_heavy 86 = .ok (.ireturn, 1) := by decide +kernel
set_option maxRecDepth 20000 in
theorem ggX5_pushWith_X5_moves : GoodIn wsX5_pushWith wsX5_moves := goodIn_r _ [6, 7, 8, 9, 5, 10, 1, 11, 12, 13, 14, 58, 59, 60, 61, 62, 63, 64, 65, 66, 67, 68, 69, 70, 71, 72] (by decide +kernel) (by decide +kernel)
set_option maxRecDepth 20000 in
theorem gX5_pushWith_X5_moves : GoodIn wsX5_pushWith (wsV RX5 106 RX5 yX5_moves wsX5_moves) := goodIn_app (goodIn_of _ (by decide +kernel)) ggX5_pushWith_X5_moves
set_option maxRecDepth 20000 in
theorem ggX5_pushWith_X5_push : GoodIn wsX5_pushWith wsX5_push := goodIn_r _ [18, 1, 19, 20, 21, 5, 22, 23, 24, 25, 26, 27, 28, 29, 30, 31, 32, 33, 34, 35, 36, 37, 38, 39, 40, 41, 42, 43, 44, 45, 46, 47, 48, 49, 58, 59, 60, 61, 62, 63, 64, 65, 66, 67, 68, 69, 70, 71, 72] (by decide +kernel) (by decide +kernel)
set_option maxRecDepth 20000 in
theorem gX5_pushWith_X5_push : GoodIn wsX5_pushWith (wsV RX5 84 RX5 yX5_push wsX5_push) := goodIn_app (goodIn_of _ (by decide +kernel)) ggX5_pushWith_X5_push
set_option maxRecDepth 20000 in
theorem ggX5_pushWith_X5_putsBack : GoodIn wsX5_pushWith wsX5_putsBack := goodIn_r _ [53, 54, 1, 55, 56, 5, 57, 58, 59, 60, 61, 62, 63, 64, 65, 66, 67, 68, 69, 70, 71, 72] (by decide +kernel) (by decide +kernel)
set_option maxRecDepth 20000 in
theorem gX5_pushWith_X5_putsBack : GoodIn wsX5_pushWith (wsV RX5 142 RX5 yX5_putsBack wsX5_putsBack) := goodIn_app (goodIn_of _ (by decide +kernel)) ggX5_pushWith_X5_putsBack
theorem dX5_pushWith_0 : decode cX5_pushWith 0 = .ok (.iconst 0, 1) := by decide +kernel
theorem dX5_pushWith_1 : decode cX5_pushWith 1 = .ok (.istore_n 2, 1) := by decide +kernel
theorem dX5_pushWith_2 : decode cX5_pushWith 2 = .ok (.iload_n 2, 1) := by decide +kernel
theorem dX5_pushWith_3 : decode cX5_pushWith 3 = .ok (.aload_n 0, 1) := by decide +kernel
theorem dX5_pushWith_4 : decode cX5_pushWith 4 = .ok (.getfield 9, 3) := by decide +kernel
theorem dX5_pushWith_7 : decode cX5_pushWith 7 = .ok (.iconst 5, 1) := by decide +kernel
theorem dX5_pushWith_8 : decode cX5_pushWith 8 = .ok (.iaload, 1) := by decide +kernel
theorem dX5_pushWith_9 : decode cX5_pushWith 9 = .ok (.if_icmp .ge 25, 3) := by decide +kernel
theorem dX5_pushWith_12 : decode cX5_pushWith 12 = .ok (.iload_n 1, 1) := by decide +kernel
theorem dX5_pushWith_13 : decode cX5_pushWith 13 = .ok (.iload_n 2, 1) := by decide +kernel
theorem dX5_pushWith_14 : decode cX5_pushWith 14 = .ok (.ishr, 1) := by decide +kernel
theorem dX5_pushWith_15 : decode cX5_pushWith 15 = .ok (.iconst 1, 1) := by decide +kernel
theorem dX5_pushWith_16 : decode cX5_pushWith 16 = .ok (.iand, 1) := by decide +kernel
theorem dX5_pushWith_17 : decode cX5_pushWith 17 = .ok (.iconst 1, 1) := by decide +kernel
theorem dX5_pushWith_18 : decode cX5_pushWith 18 = .ok (.if_icmp .ne 10, 3) := by decide +kernel
theorem dX5_pushWith_21 : decode cX5_pushWith 21 = .ok (.aload_n 0, 1) := by decide +kernel
theorem dX5_pushWith_22 : decode cX5_pushWith 22 = .ok (.iload_n 2, 1) := by decide +kernel
theorem dX5_pushWith_23 : decode cX5_pushWith 23 = .ok (.iconst 1, 1) := by decide +kernel
theorem dX5_pushWith_24 : decode cX5_pushWith 24 = .ok (.invokevirtual 106, 3) := by decide +kernel
theorem dX5_pushWith_27 : decode cX5_pushWith 27 = .ok (.istore_n 3, 1) := by decide +kernel
theorem dX5_pushWith_28 : decode cX5_pushWith 28 = .ok (.iinc 2 1, 3) := by decide +kernel
theorem dX5_pushWith_31 : decode cX5_pushWith 31 = .ok (.goto (-29), 3) := by decide +kernel
theorem dX5_pushWith_34 : decode cX5_pushWith 34 = .ok (.aload_n 0, 1) := by decide +kernel
theorem dX5_pushWith_35 : decode cX5_pushWith 35 = .ok (.invokevirtual 84, 3) := by decide +kernel
theorem dX5_pushWith_38 : decode cX5_pushWith 38 = .ok (.istore_n 2, 1) := by decide +kernel
theorem dX5_pushWith_39 : decode cX5_pushWith 39 = .ok (.aload_n 0, 1) := by decide +kernel
theorem dX5_pushWith_40 : decode cX5_pushWith 40 = .ok (.invokevirtual 142, 3) := by decide +kernel
theorem dX5_pushWith_43 : decode cX5_pushWith 43 = .ok (.iload_n 2, 1) := by decide +kernel
theorem dX5_pushWith_44 : decode cX5_pushWith 44 = .ok (.ireturn, 1) := by decide +kernel
set_option maxRecDepth 20000 in
theorem ggX5_fewest_X5_in : GoodIn wsX5_fewest wsX5_in := goodIn_r _ [6] (by decide +kernel) (by decide +kernel)
set_option maxRecDepth 20000 in
theorem gX5_fewest_X5_in : GoodIn wsX5_fewest (va_wsS RX5 41 yX5_in wsX5_in) := goodIn_app (goodIn_of _ (by decide +kernel)) ggX5_fewest_X5_in
set_option maxRecDepth 20000 in
theorem ggX5_fewest_X5_finds : GoodIn wsX5_fewest wsX5_finds := goodIn_r _ [10, 11, 1, 80, 81, 82, 83, 84, 85, 86, 87, 88, 89, 90, 91, 92, 93, 94] (by decide +kernel) (by decide +kernel)
set_option maxRecDepth 20000 in
theorem gX5_fewest_X5_finds : GoodIn wsX5_fewest (wsV RX5 37 RX5 yX5_finds wsX5_finds) := goodIn_app (goodIn_of _ (by decide +kernel)) ggX5_fewest_X5_finds
set_option maxRecDepth 20000 in
theorem ggX5_fewest_X5_thinks : GoodIn wsX5_fewest wsX5_thinks := goodIn_r _ [15, 2, 16, 17, 18, 5, 19, 80, 81, 82, 83, 84, 85, 86, 87, 88, 89, 90, 91, 92, 93, 94] (by decide +kernel) (by decide +kernel)
set_option maxRecDepth 20000 in
theorem gX5_fewest_X5_thinks : GoodIn wsX5_fewest (wsV RX5 139 RX5 yX5_thinks wsX5_thinks) := goodIn_app (goodIn_of _ (by decide +kernel)) ggX5_fewest_X5_thinks
set_option maxRecDepth 20000 in
theorem ggX5_fewest_X5_outOnes : GoodIn wsX5_fewest wsX5_outOnes := goodIn_r _ [23, 2, 24, 25, 26, 5, 27, 80, 81, 82, 83, 84, 85, 86, 87, 88, 89, 90, 91, 92, 93, 94] (by decide +kernel) (by decide +kernel)
set_option maxRecDepth 20000 in
theorem gX5_fewest_X5_outOnes : GoodIn wsX5_fewest (wsV RX5 53 RX5 yX5_outOnes wsX5_outOnes) := goodIn_app (goodIn_of _ (by decide +kernel)) ggX5_fewest_X5_outOnes
set_option maxRecDepth 20000 in
theorem ggX5_fewest_X5_bits : GoodIn wsX5_fewest wsX5_bits := goodIn_r _ [30] (by decide +kernel) (by decide +kernel)
set_option maxRecDepth 20000 in
theorem gX5_fewest_X5_bits : GoodIn wsX5_fewest (va_wsS RX5 56 yX5_bits wsX5_bits) := goodIn_app (goodIn_of _ (by decide +kernel)) ggX5_fewest_X5_bits
set_option maxRecDepth 20000 in
theorem ggX5_fewest_X5_pushWith : GoodIn wsX5_fewest wsX5_pushWith := goodIn_r _ [34, 2, 35, 36, 37, 5, 38, 39, 40, 41, 42, 43, 44, 45, 46, 47, 48, 49, 50, 24, 25, 26, 27, 51, 52, 53, 54, 55, 56, 57, 58, 20, 21, 22, 23, 28, 29, 30, 59, 60, 61, 62, 63, 64, 65, 66, 67, 68, 69, 70, 71, 72, 73, 74, 16, 17, 18, 19, 80, 81, 82, 83, 84, 85, 86, 87, 88, 89, 90, 91, 92, 93, 94] (by decide +kernel) (by decide +kernel)
set_option maxRecDepth 20000 in
theorem gX5_fewest_X5_pushWith : GoodIn wsX5_fewest (wsV RX5 154 RX5 yX5_pushWith wsX5_pushWith) := goodIn_app (goodIn_of _ (by decide +kernel)) ggX5_fewest_X5_pushWith
set_option maxRecDepth 20000 in
theorem ggX5_fewest_X5_orNone : GoodIn wsX5_fewest wsX5_orNone := goodIn_r _ [78, 79, 7, 8, 9, 5, 10, 11, 1, 80, 81, 82, 83, 84, 85, 86, 87, 88, 89, 90, 91, 92, 93, 94] (by decide +kernel) (by decide +kernel)
set_option maxRecDepth 20000 in
theorem gX5_fewest_X5_orNone : GoodIn wsX5_fewest (wsV RX5 148 RX5 yX5_orNone wsX5_orNone) := goodIn_app (goodIn_of _ (by decide +kernel)) ggX5_fewest_X5_orNone
theorem dX5_fewest_0 : decode cX5_fewest 0 = .ok (.iload_n 1, 1) := by decide +kernel
theorem dX5_fewest_1 : decode cX5_fewest 1 = .ok (.i2l, 1) := by decide +kernel
theorem dX5_fewest_2 : decode cX5_fewest 2 = .ok (.iconst 0, 1) := by decide +kernel
theorem dX5_fewest_3 : decode cX5_fewest 3 = .ok (.sipush 9999, 3) := by decide +kernel
theorem dX5_fewest_6 : decode cX5_fewest 6 = .ok (.invokestatic 41, 3) := by decide +kernel
theorem dX5_fewest_9 : decode cX5_fewest 9 = .ok (.ifCond .ne 10, 3) := by decide +kernel
theorem dX5_fewest_12 : decode cX5_fewest 12 = .ok (.aload_n 0, 1) := by decide +kernel
theorem dX5_fewest_13 : decode cX5_fewest 13 = .ok (.ldc 35, 2) := by decide +kernel
theorem dX5_fewest_15 : decode cX5_fewest 15 = .ok (.invokevirtual 37, 3) := by decide +kernel
theorem dX5_fewest_18 : decode cX5_fewest 18 = .ok (.ireturn, 1) := by decide +kernel
theorem dX5_fewest_19 : decode cX5_fewest 19 = .ok (.aload_n 0, 1) := by decide +kernel
theorem dX5_fewest_20 : decode cX5_fewest 20 = .ok (.invokevirtual 139, 3) := by decide +kernel
theorem dX5_fewest_23 : decode cX5_fewest 23 = .ok (.iconst (-1), 1) := by decide +kernel
theorem dX5_fewest_24 : decode cX5_fewest 24 = .ok (.istore_n 2, 1) := by decide +kernel
theorem dX5_fewest_25 : decode cX5_fewest 25 = .ok (.iconst 0, 1) := by decide +kernel
theorem dX5_fewest_26 : decode cX5_fewest 26 = .ok (.istore_n 3, 1) := by decide +kernel
theorem dX5_fewest_27 : decode cX5_fewest 27 = .ok (.iload_n 3, 1) := by decide +kernel
theorem dX5_fewest_28 : decode cX5_fewest 28 = .ok (.iconst 1, 1) := by decide +kernel
theorem dX5_fewest_29 : decode cX5_fewest 29 = .ok (.aload_n 0, 1) := by decide +kernel
theorem dX5_fewest_30 : decode cX5_fewest 30 = .ok (.getfield 9, 3) := by decide +kernel
theorem dX5_fewest_33 : decode cX5_fewest 33 = .ok (.iconst 5, 1) := by decide +kernel
theorem dX5_fewest_34 : decode cX5_fewest 34 = .ok (.iaload, 1) := by decide +kernel
theorem dX5_fewest_35 : decode cX5_fewest 35 = .ok (.ishl, 1) := by decide +kernel
theorem dX5_fewest_36 : decode cX5_fewest 36 = .ok (.if_icmp .ge 60, 3) := by decide +kernel
theorem dX5_fewest_39 : decode cX5_fewest 39 = .ok (.iload_n 3, 1) := by decide +kernel
theorem dX5_fewest_40 : decode cX5_fewest 40 = .ok (.aload_n 0, 1) := by decide +kernel
theorem dX5_fewest_41 : decode cX5_fewest 41 = .ok (.invokevirtual 53, 3) := by decide +kernel
theorem dX5_fewest_44 : decode cX5_fewest 44 = .ok (.iand, 1) := by decide +kernel
theorem dX5_fewest_45 : decode cX5_fewest 45 = .ok (.ifCond .ne 22, 3) := by decide +kernel
theorem dX5_fewest_48 : decode cX5_fewest 48 = .ok (.iload_n 2, 1) := by decide +kernel
theorem dX5_fewest_49 : decode cX5_fewest 49 = .ok (.ifCond .lt 14, 3) := by decide +kernel
theorem dX5_fewest_52 : decode cX5_fewest 52 = .ok (.iload_n 3, 1) := by decide +kernel
theorem dX5_fewest_53 : decode cX5_fewest 53 = .ok (.invokestatic 56, 3) := by decide +kernel
theorem dX5_fewest_56 : decode cX5_fewest 56 = .ok (.iload_n 2, 1) := by decide +kernel
theorem dX5_fewest_57 : decode cX5_fewest 57 = .ok (.invokestatic 56, 3) := by decide +kernel
theorem dX5_fewest_60 : decode cX5_fewest 60 = .ok (.if_icmp .ge 7, 3) := by decide +kernel
theorem dX5_fewest_63 : decode cX5_fewest 63 = .ok (.iconst 1, 1) := by decide +kernel
theorem dX5_fewest_64 : decode cX5_fewest 64 = .ok (.goto 4, 3) := by decide +kernel
theorem dX5_fewest_67 : decode cX5_fewest 67 = .ok (.iconst 0, 1) := by decide +kernel
theorem dX5_fewest_68 : decode cX5_fewest 68 = .ok (.istore 4, 2) := by decide +kernel
theorem dX5_fewest_70 : decode cX5_fewest 70 = .ok (.iload 4, 2) := by decide +kernel
theorem dX5_fewest_72 : decode cX5_fewest 72 = .ok (.ifCond .eq 16, 3) := by decide +kernel
theorem dX5_fewest_75 : decode cX5_fewest 75 = .ok (.aload_n 0, 1) := by decide +kernel
theorem dX5_fewest_76 : decode cX5_fewest 76 = .ok (.iload_n 3, 1) := by decide +kernel
theorem dX5_fewest_77 : decode cX5_fewest 77 = .ok (.invokevirtual 154, 3) := by decide +kernel
theorem dX5_fewest_80 : decode cX5_fewest 80 = .ok (.iload_n 1, 1) := by decide +kernel
theorem dX5_fewest_81 : decode cX5_fewest 81 = .ok (.if_icmp .lt 7, 3) := by decide +kernel
theorem dX5_fewest_84 : decode cX5_fewest 84 = .ok (.iload_n 3, 1) := by decide +kernel
theorem dX5_fewest_85 : decode cX5_fewest 85 = .ok (.goto 4, 3) := by decide +kernel
theorem dX5_fewest_88 : decode cX5_fewest 88 = .ok (.iload_n 2, 1) := by decide +kernel
theorem dX5_fewest_89 : decode cX5_fewest 89 = .ok (.istore_n 2, 1) := by decide +kernel
theorem dX5_fewest_90 : decode cX5_fewest 90 = .ok (.iinc 3 1, 3) := by decide +kernel
theorem dX5_fewest_93 : decode cX5_fewest 93 = .ok (.goto (-66), 3) := by decide +kernel
theorem dX5_fewest_96 : decode cX5_fewest 96 = .ok (.aload_n 0, 1) := by decide +kernel
theorem dX5_fewest_97 : decode cX5_fewest 97 = .ok (.iload_n 2, 1) := by decide +kernel
theorem dX5_fewest_98 : decode cX5_fewest 98 = .ok (.invokevirtual 148, 3) := by decide +kernel
theorem dX5_fewest_101 : decode cX5_fewest 101 = .ok (.ireturn, 1) := by decide +kernel
set_option maxRecDepth 20000 in
theorem ggX5_weather_X5_in : GoodIn wsX5_weather wsX5_in := goodIn_r _ [6] (by decide +kernel) (by decide +kernel)
set_option maxRecDepth 20000 in
theorem gX5_weather_X5_in : GoodIn wsX5_weather (va_wsS RX5 41 yX5_in wsX5_in) := goodIn_app (goodIn_of _ (by decide +kernel)) ggX5_weather_X5_in
set_option maxRecDepth 20000 in
theorem ggX5_weather_X5_finds : GoodIn wsX5_weather wsX5_finds := goodIn_r _ [10, 11, 1, 107, 108, 109, 110, 111, 112, 113, 114, 115, 116, 117, 118, 119, 120, 121] (by decide +kernel) (by decide +kernel)
set_option maxRecDepth 20000 in
theorem gX5_weather_X5_finds : GoodIn wsX5_weather (wsV RX5 37 RX5 yX5_finds wsX5_finds) := goodIn_app (goodIn_of _ (by decide +kernel)) ggX5_weather_X5_finds
set_option maxRecDepth 20000 in
theorem ggX5_weather_X5_thinks : GoodIn wsX5_weather wsX5_thinks := goodIn_r _ [15, 2, 16, 17, 18, 5, 19, 107, 108, 109, 110, 111, 112, 113, 114, 115, 116, 117, 118, 119, 120, 121] (by decide +kernel) (by decide +kernel)
set_option maxRecDepth 20000 in
theorem gX5_weather_X5_thinks : GoodIn wsX5_weather (wsV RX5 139 RX5 yX5_thinks wsX5_thinks) := goodIn_app (goodIn_of _ (by decide +kernel)) ggX5_weather_X5_thinks
set_option maxRecDepth 20000 in
theorem ggX5_weather_X5_turnedOn : GoodIn wsX5_weather wsX5_turnedOn := goodIn_r _ [23, 2, 24, 25, 26, 5, 27, 28, 29, 30, 31, 32, 33, 34, 35, 36, 37, 38, 39, 40, 41, 42, 43, 44, 45, 46, 47, 48, 49, 50, 51, 52, 53, 54, 55, 56, 57, 58, 59, 60, 61, 62, 63, 64, 65, 66, 67, 68, 69, 70, 71, 72, 73, 74, 75, 76, 77, 78, 79, 80, 81, 82, 83, 84, 85, 86, 87, 88, 89, 90, 91, 92, 93, 94, 95, 96, 97, 98, 99, 100, 101, 102, 103, 104, 105, 106, 16, 17, 18, 19, 107, 108, 109, 110, 111, 112, 113, 114, 115, 116, 117, 118, 119, 120, 121] (by decide +kernel) (by decide +kernel)
set_option maxRecDepth 20000 in
theorem gX5_weather_X5_turnedOn : GoodIn wsX5_weather (wsV RX5 145 RX5 yX5_turnedOn wsX5_turnedOn) := goodIn_app (goodIn_of _ (by decide +kernel)) ggX5_weather_X5_turnedOn
theorem dX5_weather_0 : decode cX5_weather 0 = .ok (.iload_n 1, 1) := by decide +kernel
theorem dX5_weather_1 : decode cX5_weather 1 = .ok (.i2l, 1) := by decide +kernel
theorem dX5_weather_2 : decode cX5_weather 2 = .ok (.iconst 1, 1) := by decide +kernel
theorem dX5_weather_3 : decode cX5_weather 3 = .ok (.bipush 60, 2) := by decide +kernel
theorem dX5_weather_5 : decode cX5_weather 5 = .ok (.invokestatic 41, 3) := by decide +kernel
theorem dX5_weather_8 : decode cX5_weather 8 = .ok (.ifCond .ne 10, 3) := by decide +kernel
theorem dX5_weather_11 : decode cX5_weather 11 = .ok (.aload_n 0, 1) := by decide +kernel
theorem dX5_weather_12 : decode cX5_weather 12 = .ok (.ldc 35, 2) := by decide +kernel
theorem dX5_weather_14 : decode cX5_weather 14 = .ok (.invokevirtual 37, 3) := by decide +kernel
theorem dX5_weather_17 : decode cX5_weather 17 = .ok (.ireturn, 1) := by decide +kernel
theorem dX5_weather_18 : decode cX5_weather 18 = .ok (.aload_n 0, 1) := by decide +kernel
theorem dX5_weather_19 : decode cX5_weather 19 = .ok (.invokevirtual 139, 3) := by decide +kernel
theorem dX5_weather_22 : decode cX5_weather 22 = .ok (.aload_n 0, 1) := by decide +kernel
theorem dX5_weather_23 : decode cX5_weather 23 = .ok (.iload_n 1, 1) := by decide +kernel
theorem dX5_weather_24 : decode cX5_weather 24 = .ok (.invokevirtual 145, 3) := by decide +kernel
theorem dX5_weather_27 : decode cX5_weather 27 = .ok (.istore_n 2, 1) := by decide +kernel
theorem dX5_weather_28 : decode cX5_weather 28 = .ok (.iconst 0, 1) := by decide +kernel
theorem dX5_weather_29 : decode cX5_weather 29 = .ok (.istore_n 3, 1) := by decide +kernel
theorem dX5_weather_30 : decode cX5_weather 30 = .ok (.iconst (-1), 1) := by decide +kernel
theorem dX5_weather_31 : decode cX5_weather 31 = .ok (.istore 4, 2) := by decide +kernel
theorem dX5_weather_33 : decode cX5_weather 33 = .ok (.iconst 0, 1) := by decide +kernel
theorem dX5_weather_34 : decode cX5_weather 34 = .ok (.istore 5, 2) := by decide +kernel
theorem dX5_weather_36 : decode cX5_weather 36 = .ok (.iload 5, 2) := by decide +kernel
theorem dX5_weather_38 : decode cX5_weather 38 = .ok (.iconst 5, 1) := by decide +kernel
theorem dX5_weather_39 : decode cX5_weather 39 = .ok (.if_icmp .ge 76, 3) := by decide +kernel
theorem dX5_weather_42 : decode cX5_weather 42 = .ok (.aload_n 0, 1) := by decide +kernel
theorem dX5_weather_43 : decode cX5_weather 43 = .ok (.getfield 9, 3) := by decide +kernel
theorem dX5_weather_46 : decode cX5_weather 46 = .ok (.iconst 1, 1) := by decide +kernel
theorem dX5_weather_47 : decode cX5_weather 47 = .ok (.dup2, 1) := by decide +kernel
theorem dX5_weather_48 : decode cX5_weather 48 = .ok (.iaload, 1) := by decide +kernel
theorem dX5_weather_49 : decode cX5_weather 49 = .ok (.iconst 1, 1) := by decide +kernel
theorem dX5_weather_50 : decode cX5_weather 50 = .ok (.iload 5, 2) := by decide +kernel
theorem dX5_weather_52 : decode cX5_weather 52 = .ok (.ishl, 1) := by decide +kernel
theorem dX5_weather_53 : decode cX5_weather 53 = .ok (.ixor, 1) := by decide +kernel
theorem dX5_weather_54 : decode cX5_weather 54 = .ok (.iastore, 1) := by decide +kernel
theorem dX5_weather_55 : decode cX5_weather 55 = .ok (.aload_n 0, 1) := by decide +kernel
theorem dX5_weather_56 : decode cX5_weather 56 = .ok (.iload_n 1, 1) := by decide +kernel
theorem dX5_weather_57 : decode cX5_weather 57 = .ok (.invokevirtual 145, 3) := by decide +kernel
theorem dX5_weather_60 : decode cX5_weather 60 = .ok (.iload_n 2, 1) := by decide +kernel
theorem dX5_weather_61 : decode cX5_weather 61 = .ok (.isub, 1) := by decide +kernel
theorem dX5_weather_62 : decode cX5_weather 62 = .ok (.istore 6, 2) := by decide +kernel
theorem dX5_weather_64 : decode cX5_weather 64 = .ok (.iload 6, 2) := by decide +kernel
theorem dX5_weather_66 : decode cX5_weather 66 = .ok (.ifCond .ge 9, 3) := by decide +kernel
theorem dX5_weather_69 : decode cX5_weather 69 = .ok (.iload 6, 2) := by decide +kernel
theorem dX5_weather_71 : decode cX5_weather 71 = .ok (.ineg, 1) := by decide +kernel
theorem dX5_weather_72 : decode cX5_weather 72 = .ok (.goto 5, 3) := by decide +kernel
theorem dX5_weather_75 : decode cX5_weather 75 = .ok (.iload 6, 2) := by decide +kernel
theorem dX5_weather_77 : decode cX5_weather 77 = .ok (.istore 6, 2) := by decide +kernel
theorem dX5_weather_79 : decode cX5_weather 79 = .ok (.iload 6, 2) := by decide +kernel
theorem dX5_weather_81 : decode cX5_weather 81 = .ok (.iload 4, 2) := by decide +kernel
theorem dX5_weather_83 : decode cX5_weather 83 = .ok (.if_icmp .le 8, 3) := by decide +kernel
theorem dX5_weather_86 : decode cX5_weather 86 = .ok (.iload 5, 2) := by decide +kernel
theorem dX5_weather_88 : decode cX5_weather 88 = .ok (.goto 4, 3) := by decide +kernel
theorem dX5_weather_91 : decode cX5_weather 91 = .ok (.iload_n 3, 1) := by decide +kernel
theorem dX5_weather_92 : decode cX5_weather 92 = .ok (.istore_n 3, 1) := by decide +kernel
theorem dX5_weather_93 : decode cX5_weather 93 = .ok (.iload 6, 2) := by decide +kernel
theorem dX5_weather_95 : decode cX5_weather 95 = .ok (.iload 4, 2) := by decide +kernel
theorem dX5_weather_97 : decode cX5_weather 97 = .ok (.if_icmp .le 8, 3) := by decide +kernel
theorem dX5_weather_100 : decode cX5_weather 100 = .ok (.iload 6, 2) := by decide +kernel
theorem dX5_weather_102 : decode cX5_weather 102 = .ok (.goto 5, 3) := by decide +kernel
theorem dX5_weather_105 : decode cX5_weather 105 = .ok (.iload 4, 2) := by decide +kernel
theorem dX5_weather_107 : decode cX5_weather 107 = .ok (.istore 4, 2) := by decide +kernel
theorem dX5_weather_109 : decode cX5_weather 109 = .ok (.iinc 5 1, 3) := by decide +kernel
theorem dX5_weather_112 : decode cX5_weather 112 = .ok (.goto (-76), 3) := by decide +kernel
theorem dX5_weather_115 : decode cX5_weather 115 = .ok (.iload_n 3, 1) := by decide +kernel
theorem dX5_weather_116 : decode cX5_weather 116 = .ok (.ireturn, 1) := by decide +kernel
set_option maxRecDepth 20000 in
theorem ggX5_deepest_X5_in : GoodIn wsX5_deepest wsX5_in := goodIn_r _ [6] (by decide +kernel) (by decide +kernel)
set_option maxRecDepth 20000 in
theorem gX5_deepest_X5_in : GoodIn wsX5_deepest (va_wsS RX5 41 yX5_in wsX5_in) := goodIn_app (goodIn_of _ (by decide +kernel)) ggX5_deepest_X5_in
set_option maxRecDepth 20000 in
theorem ggX5_deepest_X5_finds : GoodIn wsX5_deepest wsX5_finds := goodIn_r _ [10, 11, 1, 108, 109, 110, 111, 112, 113, 114, 115, 116, 117, 118, 119, 120, 121, 122] (by decide +kernel) (by decide +kernel)
set_option maxRecDepth 20000 in
theorem gX5_deepest_X5_finds : GoodIn wsX5_deepest (wsV RX5 37 RX5 yX5_finds wsX5_finds) := goodIn_app (goodIn_of _ (by decide +kernel)) ggX5_deepest_X5_finds
set_option maxRecDepth 20000 in
theorem ggX5_deepest_X5_thinks : GoodIn wsX5_deepest wsX5_thinks := goodIn_r _ [15, 2, 16, 17, 18, 5, 19, 108, 109, 110, 111, 112, 113, 114, 115, 116, 117, 118, 119, 120, 121, 122] (by decide +kernel) (by decide +kernel)
set_option maxRecDepth 20000 in
theorem gX5_deepest_X5_thinks : GoodIn wsX5_deepest (wsV RX5 139 RX5 yX5_thinks wsX5_thinks) := goodIn_app (goodIn_of _ (by decide +kernel)) ggX5_deepest_X5_thinks
set_option maxRecDepth 20000 in
theorem ggX5_deepest_X5_goesFor : GoodIn wsX5_deepest wsX5_goesFor := goodIn_r _ [23, 24, 25, 26, 5, 27, 2, 28, 29, 30, 31, 32, 33, 34, 35, 36, 37, 38, 39, 40, 41, 42, 43, 44, 45, 46, 47, 48, 49, 50, 51, 52, 53, 54, 55, 56, 57, 58, 59, 60, 61, 62, 63, 64, 65, 66, 67, 68, 69, 70, 71, 72, 73, 74, 75, 76, 77, 78, 79, 80, 81, 82, 83, 84, 85, 86, 87, 88, 89, 90, 91, 92, 93, 94, 95, 96, 97, 98, 108, 109, 110, 111, 112, 113, 114, 115, 116, 117, 118, 119, 120, 121, 122] (by decide +kernel) (by decide +kernel)
set_option maxRecDepth 20000 in
theorem gX5_deepest_X5_goesFor : GoodIn wsX5_deepest (wsV RX5 132 RX5 yX5_goesFor wsX5_goesFor) := goodIn_app (goodIn_of _ (by decide +kernel)) ggX5_deepest_X5_goesFor
set_option maxRecDepth 20000 in
theorem ggX5_deepest_X5_it : GoodIn wsX5_deepest wsX5_it := goodIn_r _ [36, 2, 108, 109, 110, 111, 112, 113, 114, 115, 116, 117, 118, 119, 120, 121, 122] (by decide +kernel) (by decide +kernel)
set_option maxRecDepth 20000 in
theorem gX5_deepest_X5_it : GoodIn wsX5_deepest (wsV RX5 49 RX5 yX5_it wsX5_it) := goodIn_app (goodIn_of _ (by decide +kernel)) ggX5_deepest_X5_it
set_option maxRecDepth 20000 in
theorem ggX5_deepest_X5_keepsBack : GoodIn wsX5_deepest wsX5_keepsBack := goodIn_r _ [40, 33, 34, 35, 5, 36, 2, 41, 42, 43, 44, 45, 46, 47, 48, 49, 50, 51, 52, 53, 54, 55, 56, 57, 58, 59, 108, 109, 110, 111, 112, 113, 114, 115, 116, 117, 118, 119, 120, 121, 122] (by decide +kernel) (by decide +kernel)
set_option maxRecDepth 20000 in
theorem gX5_deepest_X5_keepsBack : GoodIn wsX5_deepest (wsV RX5 75 RX5 yX5_keepsBack wsX5_keepsBack) := goodIn_app (goodIn_of _ (by decide +kernel)) ggX5_deepest_X5_keepsBack
set_option maxRecDepth 20000 in
theorem ggX5_deepest_X5_putsBack : GoodIn wsX5_deepest wsX5_putsBack := goodIn_r _ [102, 16, 2, 17, 18, 5, 19, 108, 109, 110, 111, 112, 113, 114, 115, 116, 117, 118, 119, 120, 121, 122] (by decide +kernel) (by decide +kernel)
set_option maxRecDepth 20000 in
theorem gX5_deepest_X5_putsBack : GoodIn wsX5_deepest (wsV RX5 142 RX5 yX5_putsBack wsX5_putsBack) := goodIn_app (goodIn_of _ (by decide +kernel)) ggX5_deepest_X5_putsBack
set_option maxRecDepth 20000 in
theorem ggX5_deepest_X5_orNone : GoodIn wsX5_deepest wsX5_orNone := goodIn_r _ [106, 107, 7, 8, 9, 5, 10, 11, 1, 108, 109, 110, 111, 112, 113, 114, 115, 116, 117, 118, 119, 120, 121, 122] (by decide +kernel) (by decide +kernel)
set_option maxRecDepth 20000 in
theorem gX5_deepest_X5_orNone : GoodIn wsX5_deepest (wsV RX5 148 RX5 yX5_orNone wsX5_orNone) := goodIn_app (goodIn_of _ (by decide +kernel)) ggX5_deepest_X5_orNone
theorem dX5_deepest_0 : decode cX5_deepest 0 = .ok (.iload_n 1, 1) := by decide +kernel
theorem dX5_deepest_1 : decode cX5_deepest 1 = .ok (.i2l, 1) := by decide +kernel
theorem dX5_deepest_2 : decode cX5_deepest 2 = .ok (.iconst 0, 1) := by decide +kernel
theorem dX5_deepest_3 : decode cX5_deepest 3 = .ok (.sipush 200, 3) := by decide +kernel
theorem dX5_deepest_6 : decode cX5_deepest 6 = .ok (.invokestatic 41, 3) := by decide +kernel
theorem dX5_deepest_9 : decode cX5_deepest 9 = .ok (.ifCond .ne 10, 3) := by decide +kernel
theorem dX5_deepest_12 : decode cX5_deepest 12 = .ok (.aload_n 0, 1) := by decide +kernel
theorem dX5_deepest_13 : decode cX5_deepest 13 = .ok (.ldc 35, 2) := by decide +kernel
theorem dX5_deepest_15 : decode cX5_deepest 15 = .ok (.invokevirtual 37, 3) := by decide +kernel
theorem dX5_deepest_18 : decode cX5_deepest 18 = .ok (.ireturn, 1) := by decide +kernel
theorem dX5_deepest_19 : decode cX5_deepest 19 = .ok (.aload_n 0, 1) := by decide +kernel
theorem dX5_deepest_20 : decode cX5_deepest 20 = .ok (.invokevirtual 139, 3) := by decide +kernel
theorem dX5_deepest_23 : decode cX5_deepest 23 = .ok (.aload_n 0, 1) := by decide +kernel
theorem dX5_deepest_24 : decode cX5_deepest 24 = .ok (.iload_n 1, 1) := by decide +kernel
theorem dX5_deepest_25 : decode cX5_deepest 25 = .ok (.invokevirtual 132, 3) := by decide +kernel
theorem dX5_deepest_28 : decode cX5_deepest 28 = .ok (.iconst (-1), 1) := by decide +kernel
theorem dX5_deepest_29 : decode cX5_deepest 29 = .ok (.istore_n 2, 1) := by decide +kernel
theorem dX5_deepest_30 : decode cX5_deepest 30 = .ok (.iconst 0, 1) := by decide +kernel
theorem dX5_deepest_31 : decode cX5_deepest 31 = .ok (.istore_n 3, 1) := by decide +kernel
theorem dX5_deepest_32 : decode cX5_deepest 32 = .ok (.iload_n 3, 1) := by decide +kernel
theorem dX5_deepest_33 : decode cX5_deepest 33 = .ok (.aload_n 0, 1) := by decide +kernel
theorem dX5_deepest_34 : decode cX5_deepest 34 = .ok (.getfield 9, 3) := by decide +kernel
theorem dX5_deepest_37 : decode cX5_deepest 37 = .ok (.iconst 5, 1) := by decide +kernel
theorem dX5_deepest_38 : decode cX5_deepest 38 = .ok (.iaload, 1) := by decide +kernel
theorem dX5_deepest_39 : decode cX5_deepest 39 = .ok (.if_icmp .ge 42, 3) := by decide +kernel
theorem dX5_deepest_42 : decode cX5_deepest 42 = .ok (.aload_n 0, 1) := by decide +kernel
theorem dX5_deepest_43 : decode cX5_deepest 43 = .ok (.iload_n 3, 1) := by decide +kernel
theorem dX5_deepest_44 : decode cX5_deepest 44 = .ok (.iconst 1, 1) := by decide +kernel
theorem dX5_deepest_45 : decode cX5_deepest 45 = .ok (.invokevirtual 49, 3) := by decide +kernel
theorem dX5_deepest_48 : decode cX5_deepest 48 = .ok (.iconst 1, 1) := by decide +kernel
theorem dX5_deepest_49 : decode cX5_deepest 49 = .ok (.if_icmp .ne 24, 3) := by decide +kernel
theorem dX5_deepest_52 : decode cX5_deepest 52 = .ok (.iload_n 2, 1) := by decide +kernel
theorem dX5_deepest_53 : decode cX5_deepest 53 = .ok (.ifCond .lt 16, 3) := by decide +kernel
theorem dX5_deepest_56 : decode cX5_deepest 56 = .ok (.aload_n 0, 1) := by decide +kernel
theorem dX5_deepest_57 : decode cX5_deepest 57 = .ok (.iload_n 3, 1) := by decide +kernel
theorem dX5_deepest_58 : decode cX5_deepest 58 = .ok (.invokevirtual 75, 3) := by decide +kernel
theorem dX5_deepest_61 : decode cX5_deepest 61 = .ok (.aload_n 0, 1) := by decide +kernel
theorem dX5_deepest_62 : decode cX5_deepest 62 = .ok (.iload_n 2, 1) := by decide +kernel
theorem dX5_deepest_63 : decode cX5_deepest 63 = .ok (.invokevirtual 75, 3) := by decide +kernel
theorem dX5_deepest_66 : decode cX5_deepest 66 = .ok (.if_icmp .le 7, 3) := by decide +kernel
theorem dX5_deepest_69 : decode cX5_deepest 69 = .ok (.iload_n 3, 1) := by decide +kernel
theorem dX5_deepest_70 : decode cX5_deepest 70 = .ok (.goto 4, 3) := by decide +kernel
theorem dX5_deepest_73 : decode cX5_deepest 73 = .ok (.iload_n 2, 1) := by decide +kernel
theorem dX5_deepest_74 : decode cX5_deepest 74 = .ok (.istore_n 2, 1) := by decide +kernel
theorem dX5_deepest_75 : decode cX5_deepest 75 = .ok (.iinc 3 1, 3) := by decide +kernel
theorem dX5_deepest_78 : decode cX5_deepest 78 = .ok (.goto (-46), 3) := by decide +kernel
theorem dX5_deepest_81 : decode cX5_deepest 81 = .ok (.aload_n 0, 1) := by decide +kernel
theorem dX5_deepest_82 : decode cX5_deepest 82 = .ok (.invokevirtual 142, 3) := by decide +kernel
theorem dX5_deepest_85 : decode cX5_deepest 85 = .ok (.aload_n 0, 1) := by decide +kernel
theorem dX5_deepest_86 : decode cX5_deepest 86 = .ok (.iload_n 2, 1) := by decide +kernel
theorem dX5_deepest_87 : decode cX5_deepest 87 = .ok (.invokevirtual 148, 3) := by decide +kernel
theorem dX5_deepest_90 : decode cX5_deepest 90 = .ok (.ireturn, 1) := by decide +kernel
set_option maxRecDepth 20000 in
theorem ggX5_feed_X5_in : GoodIn wsX5_feed wsX5_in := goodIn_r _ [8] (by decide +kernel) (by decide +kernel)
set_option maxRecDepth 20000 in
theorem gX5_feed_X5_in : GoodIn wsX5_feed (va_wsS RX5 41 yX5_in wsX5_in) := goodIn_app (goodIn_of _ (by decide +kernel)) ggX5_feed_X5_in
set_option maxRecDepth 20000 in
theorem ggX5_feed_X5_finds : GoodIn wsX5_feed wsX5_finds := goodIn_r _ [12, 13, 1, 14, 15, 16, 17, 18, 19, 20, 21, 22, 23, 24, 25, 26, 27, 28] (by decide +kernel) (by decide +kernel)
set_option maxRecDepth 20000 in
theorem gX5_feed_X5_finds : GoodIn wsX5_feed (wsV RX5 37 RX5 yX5_finds wsX5_finds) := goodIn_app (goodIn_of _ (by decide +kernel)) ggX5_feed_X5_finds
theorem dX5_feed_0 : decode cX5_feed 0 = .ok (.iload_n 2, 1) := by decide +kernel
theorem dX5_feed_1 : decode cX5_feed 1 = .ok (.i2l, 1) := by decide +kernel
theorem dX5_feed_2 : decode cX5_feed 2 = .ok (.iconst 1, 1) := by decide +kernel
theorem dX5_feed_3 : decode cX5_feed 3 = .ok (.iconst 4, 1) := by decide +kernel
theorem dX5_feed_4 : decode cX5_feed 4 = .ok (.invokestatic 41, 3) := by decide +kernel
theorem dX5_feed_7 : decode cX5_feed 7 = .ok (.ifCond .ne 10, 3) := by decide +kernel
theorem dX5_feed_10 : decode cX5_feed 10 = .ok (.aload_n 0, 1) := by decide +kernel
theorem dX5_feed_11 : decode cX5_feed 11 = .ok (.ldc 35, 2) := by decide +kernel
theorem dX5_feed_13 : decode cX5_feed 13 = .ok (.invokevirtual 37, 3) := by decide +kernel
theorem dX5_feed_16 : decode cX5_feed 16 = .ok (.ireturn, 1) := by decide +kernel
theorem dX5_feed_17 : decode cX5_feed 17 = .ok (.aload_n 0, 1) := by decide +kernel
theorem dX5_feed_18 : decode cX5_feed 18 = .ok (.getfield 157, 3) := by decide +kernel
theorem dX5_feed_21 : decode cX5_feed 21 = .ok (.iload_n 2, 1) := by decide +kernel
theorem dX5_feed_22 : decode cX5_feed 22 = .ok (.iadd, 1) := by decide +kernel
theorem dX5_feed_23 : decode cX5_feed 23 = .ok (.bipush 120, 2) := by decide +kernel
theorem dX5_feed_25 : decode cX5_feed 25 = .ok (.if_icmp .le 10, 3) := by decide +kernel
theorem dX5_feed_28 : decode cX5_feed 28 = .ok (.aload_n 0, 1) := by decide +kernel
theorem dX5_feed_29 : decode cX5_feed 29 = .ok (.ldc 91, 2) := by decide +kernel
theorem dX5_feed_31 : decode cX5_feed 31 = .ok (.invokevirtual 37, 3) := by decide +kernel
theorem dX5_feed_34 : decode cX5_feed 34 = .ok (.ireturn, 1) := by decide +kernel
theorem dX5_feed_35 : decode cX5_feed 35 = .ok (.iload_n 2, 1) := by decide +kernel
theorem dX5_feed_36 : decode cX5_feed 36 = .ok (.iconst 1, 1) := by decide +kernel
theorem dX5_feed_37 : decode cX5_feed 37 = .ok (.isub, 1) := by decide +kernel
theorem dX5_feed_38 : decode cX5_feed 38 = .ok (.istore_n 3, 1) := by decide +kernel
theorem dX5_feed_39 : decode cX5_feed 39 = .ok (.iload_n 3, 1) := by decide +kernel
theorem dX5_feed_40 : decode cX5_feed 40 = .ok (.ifCond .lt 38, 3) := by decide +kernel
theorem dX5_feed_43 : decode cX5_feed 43 = .ok (.aload_n 0, 1) := by decide +kernel
theorem dX5_feed_44 : decode cX5_feed 44 = .ok (.getfield 22, 3) := by decide +kernel
theorem dX5_feed_47 : decode cX5_feed 47 = .ok (.aload_n 0, 1) := by decide +kernel
theorem dX5_feed_48 : decode cX5_feed 48 = .ok (.getfield 157, 3) := by decide +kernel
theorem dX5_feed_51 : decode cX5_feed 51 = .ok (.iload_n 1, 1) := by decide +kernel
theorem dX5_feed_52 : decode cX5_feed 52 = .ok (.bipush 8, 2) := by decide +kernel
theorem dX5_feed_54 : decode cX5_feed 54 = .ok (.iload_n 3, 1) := by decide +kernel
theorem dX5_feed_55 : decode cX5_feed 55 = .ok (.imul, 1) := by decide +kernel
theorem dX5_feed_56 : decode cX5_feed 56 = .ok (.ishr, 1) := by decide +kernel
theorem dX5_feed_57 : decode cX5_feed 57 = .ok (.sipush 255, 3) := by decide +kernel
theorem dX5_feed_60 : decode cX5_feed 60 = .ok (.iand, 1) := by decide +kernel
theorem dX5_feed_61 : decode cX5_feed 61 = .ok (.iastore, 1) := by decide +kernel
theorem dX5_feed_62 : decode cX5_feed 62 = .ok (.aload_n 0, 1) := by decide +kernel
theorem dX5_feed_63 : decode cX5_feed 63 = .ok (.dup, 1) := by decide +kernel
theorem dX5_feed_64 : decode cX5_feed 64 = .ok (.getfield 157, 3) := by decide +kernel
theorem dX5_feed_67 : decode cX5_feed 67 = .ok (.iconst 1, 1) := by decide +kernel
theorem dX5_feed_68 : decode cX5_feed 68 = .ok (.iadd, 1) := by decide +kernel
theorem dX5_feed_69 : decode cX5_feed 69 = .ok (.putfield 157, 3) := by decide +kernel
theorem dX5_feed_72 : decode cX5_feed 72 = .ok (.iinc 3 (-1), 3) := by decide +kernel
theorem dX5_feed_75 : decode cX5_feed 75 = .ok (.goto (-36), 3) := by decide +kernel
theorem dX5_feed_78 : decode cX5_feed 78 = .ok (.aload_n 0, 1) := by decide +kernel
theorem dX5_feed_79 : decode cX5_feed 79 = .ok (.getfield 157, 3) := by decide +kernel
theorem dX5_feed_82 : decode cX5_feed 82 = .ok (.ireturn, 1) := by decide +kernel
theorem dX5_wipe_0 : decode cX5_wipe 0 = .ok (.aload_n 0, 1) := by decide +kernel
theorem dX5_wipe_1 : decode cX5_wipe 1 = .ok (.getfield 157, 3) := by decide +kernel
theorem dX5_wipe_4 : decode cX5_wipe 4 = .ok (.istore_n 1, 1) := by decide +kernel
theorem dX5_wipe_5 : decode cX5_wipe 5 = .ok (.aload_n 0, 1) := by decide +kernel
theorem dX5_wipe_6 : decode cX5_wipe 6 = .ok (.iconst 0, 1) := by decide +kernel
theorem dX5_wipe_7 : decode cX5_wipe 7 = .ok (.putfield 157, 3) := by decide +kernel
theorem dX5_wipe_10 : decode cX5_wipe 10 = .ok (.iload_n 1, 1) := by decide +kernel
theorem dX5_wipe_11 : decode cX5_wipe 11 = .ok (.ireturn, 1) := by decide +kernel
set_option maxRecDepth 20000 in
theorem ggX5_isByte_X5_in : GoodIn wsX5_isByte wsX5_in := goodIn_r _ [6] (by decide +kernel) (by decide +kernel)
set_option maxRecDepth 20000 in
theorem gX5_isByte_X5_in : GoodIn wsX5_isByte (va_wsS RX5 41 yX5_in wsX5_in) := goodIn_app (goodIn_of _ (by decide +kernel)) ggX5_isByte_X5_in
theorem dX5_isByte_0 : decode cX5_isByte 0 = .ok (.iload_n 1, 1) := by decide +kernel
theorem dX5_isByte_1 : decode cX5_isByte 1 = .ok (.aload_n 0, 1) := by decide +kernel
theorem dX5_isByte_2 : decode cX5_isByte 2 = .ok (.getfield 157, 3) := by decide +kernel
theorem dX5_isByte_5 : decode cX5_isByte 5 = .ok (.if_icmp .ge 22, 3) := by decide +kernel
theorem dX5_isByte_8 : decode cX5_isByte 8 = .ok (.aload_n 0, 1) := by decide +kernel
theorem dX5_isByte_9 : decode cX5_isByte 9 = .ok (.getfield 22, 3) := by decide +kernel
theorem dX5_isByte_12 : decode cX5_isByte 12 = .ok (.iload_n 1, 1) := by decide +kernel
theorem dX5_isByte_13 : decode cX5_isByte 13 = .ok (.iaload, 1) := by decide +kernel
theorem dX5_isByte_14 : decode cX5_isByte 14 = .ok (.i2l, 1) := by decide +kernel
theorem dX5_isByte_15 : decode cX5_isByte 15 = .ok (.iload_n 2, 1) := by decide +kernel
theorem dX5_isByte_16 : decode cX5_isByte 16 = .ok (.iload_n 3, 1) := by decide +kernel
theorem dX5_isByte_17 : decode cX5_isByte 17 = .ok (.invokestatic 41, 3) := by decide +kernel
theorem dX5_isByte_20 : decode cX5_isByte 20 = .ok (.ifCond .eq 7, 3) := by decide +kernel
theorem dX5_isByte_23 : decode cX5_isByte 23 = .ok (.iconst 1, 1) := by decide +kernel
theorem dX5_isByte_24 : decode cX5_isByte 24 = .ok (.goto 4, 3) := by decide +kernel
theorem dX5_isByte_27 : decode cX5_isByte 27 = .ok (.iconst 0, 1) := by decide +kernel
theorem dX5_isByte_28 : decode cX5_isByte 28 = .ok (.ireturn, 1) := by decide +kernel
theorem dX5_isName_0 : decode cX5_isName 0 = .ok (.iload_n 2, 1) := by decide +kernel
theorem dX5_isName_1 : decode cX5_isName 1 = .ok (.bipush 7, 2) := by decide +kernel
theorem dX5_isName_3 : decode cX5_isName 3 = .ok (.if_icmp .gt 26, 3) := by decide +kernel
theorem dX5_isName_6 : decode cX5_isName 6 = .ok (.iload_n 2, 1) := by decide +kernel
theorem dX5_isName_7 : decode cX5_isName 7 = .ok (.bipush 7, 2) := by decide +kernel
theorem dX5_isName_9 : decode cX5_isName 9 = .ok (.if_icmp .eq 16, 3) := by decide +kernel
theorem dX5_isName_12 : decode cX5_isName 12 = .ok (.getstatic 161, 3) := by decide +kernel
theorem dX5_isName_15 : decode cX5_isName 15 = .ok (.bipush 7, 2) := by decide +kernel
theorem dX5_isName_17 : decode cX5_isName 17 = .ok (.iload_n 1, 1) := by decide +kernel
theorem dX5_isName_18 : decode cX5_isName 18 = .ok (.imul, 1) := by decide +kernel
theorem dX5_isName_19 : decode cX5_isName 19 = .ok (.iload_n 2, 1) := by decide +kernel
theorem dX5_isName_20 : decode cX5_isName 20 = .ok (.iadd, 1) := by decide +kernel
theorem dX5_isName_21 : decode cX5_isName 21 = .ok (.iaload, 1) := by decide +kernel
theorem dX5_isName_22 : decode cX5_isName 22 = .ok (.ifCond .ne 7, 3) := by decide +kernel
theorem dX5_isName_25 : decode cX5_isName 25 = .ok (.iconst 1, 1) := by decide +kernel
theorem dX5_isName_26 : decode cX5_isName 26 = .ok (.goto 4, 3) := by decide +kernel
theorem dX5_isName_29 : decode cX5_isName 29 = .ok (.iconst 0, 1) := by decide +kernel
theorem dX5_isName_30 : decode cX5_isName 30 = .ok (.istore_n 3, 1) := by decide +kernel
theorem dX5_isName_31 : decode cX5_isName 31 = .ok (.iconst 0, 1) := by decide +kernel
theorem dX5_isName_32 : decode cX5_isName 32 = .ok (.istore 4, 2) := by decide +kernel
theorem dX5_isName_34 : decode cX5_isName 34 = .ok (.iload 4, 2) := by decide +kernel
theorem dX5_isName_36 : decode cX5_isName 36 = .ok (.iload_n 2, 1) := by decide +kernel
