set_option maxRecDepth 20000 in
theorem ggX6_readCommand_X6_done : GoodIn wsX6_readCommand wsX6_done := goodIn_r _ [23, 24, 87, 88, 89, 90, 91, 92, 93, 94, 95, 96, 97] (by decide +kernel) (by decide +kernel)
set_option maxRecDepth 20000 in
theorem gX6_readCommand_X6_done : GoodIn wsX6_readCommand (wsV RX6 125 RX6 yX6_done wsX6_done) := goodIn_app (goodIn_of _ (by decide +kernel)) ggX6_readCommand_X6_done
set_option maxRecDepth 20000 in
theorem ggX6_readCommand_X6_ticksOn : GoodIn wsX6_readCommand wsX6_ticksOn := goodIn_r _ [35, 36, 37, 6, 38, 39, 40, 41, 42, 43, 44, 45, 46, 47, 48, 49, 50, 51, 52, 53, 54, 55, 56, 57, 58, 59, 60, 61, 62, 63, 64, 65, 66, 67, 68, 69, 70, 71, 72, 73, 74, 75, 76, 77, 78, 79, 80] (by decide +kernel) (by decide +kernel)
set_option maxRecDepth 20000 in
theorem gX6_readCommand_X6_ticksOn : GoodIn wsX6_readCommand (va_wsS RX6 140 yX6_ticksOn wsX6_ticksOn) := goodIn_app (goodIn_of _ (by decide +kernel)) ggX6_readCommand_X6_ticksOn
set_option maxRecDepth 20000 in
theorem ggX6_readCommand_X6_isOrder : GoodIn wsX6_readCommand wsX6_isOrder := goodIn_r _ [83, 14, 15, 6, 16] (by decide +kernel) (by decide +kernel)
set_option maxRecDepth 20000 in
theorem gX6_readCommand_X6_isOrder : GoodIn wsX6_readCommand (va_wsS RX6 144 yX6_isOrder wsX6_isOrder) := goodIn_app (goodIn_of _ (by decide +kernel)) ggX6_readCommand_X6_isOrder
set_option maxRecDepth 20000 in
theorem ggX6_readCommand_X6_cancelOn : GoodIn wsX6_readCommand wsX6_cancelOn := goodIn_r _ [86, 75, 76, 6, 77] (by decide +kernel) (by decide +kernel)
set_option maxRecDepth 20000 in
theorem gX6_readCommand_X6_cancelOn : GoodIn wsX6_readCommand (va_wsS RX6 147 yX6_cancelOn wsX6_cancelOn) := goodIn_app (goodIn_of _ (by decide +kernel)) ggX6_readCommand_X6_cancelOn
theorem dX6_readCommand_0 : decode cX6_readCommand 0 = .ok (.aload_n 0, 1) := by decide +kernel
theorem dX6_readCommand_1 : decode cX6_readCommand 1 = .ok (.getfield 7, 3) := by decide +kernel
theorem dX6_readCommand_4 : decode cX6_readCommand 4 = .ok (.aload_n 0, 1) := by decide +kernel
theorem dX6_readCommand_5 : decode cX6_readCommand 5 = .ok (.getfield 111, 3) := by decide +kernel
theorem dX6_readCommand_8 : decode cX6_readCommand 8 = .ok (.iaload, 1) := by decide +kernel
theorem dX6_readCommand_9 : decode cX6_readCommand 9 = .ok (.istore_n 2, 1) := by decide +kernel
theorem dX6_readCommand_10 : decode cX6_readCommand 10 = .ok (.aload_n 0, 1) := by decide +kernel
theorem dX6_readCommand_11 : decode cX6_readCommand 11 = .ok (.dup, 1) := by decide +kernel
theorem dX6_readCommand_12 : decode cX6_readCommand 12 = .ok (.getfield 111, 3) := by decide +kernel
theorem dX6_readCommand_15 : decode cX6_readCommand 15 = .ok (.iconst 1, 1) := by decide +kernel
theorem dX6_readCommand_16 : decode cX6_readCommand 16 = .ok (.iadd, 1) := by decide +kernel
theorem dX6_readCommand_17 : decode cX6_readCommand 17 = .ok (.putfield 111, 3) := by decide +kernel
theorem dX6_readCommand_20 : decode cX6_readCommand 20 = .ok (.iload_n 2, 1) := by decide +kernel
theorem dX6_readCommand_21 : decode cX6_readCommand 21 = .ok (.lookupswitch 221 #[(99, 172), (108, 51), (112, 51), (116, 131), (118, 68)], 51) := by decide +kernel
theorem dX6_readCommand_72 : decode cX6_readCommand 72 = .ok (.aload_n 0, 1) := by decide +kernel
theorem dX6_readCommand_73 : decode cX6_readCommand 73 = .ok (.aload_n 1, 1) := by decide +kernel
theorem dX6_readCommand_74 : decode cX6_readCommand 74 = .ok (.iload_n 2, 1) := by decide +kernel
theorem dX6_readCommand_75 : decode cX6_readCommand 75 = .ok (.bipush 112, 2) := by decide +kernel
theorem dX6_readCommand_77 : decode cX6_readCommand 77 = .ok (.if_icmp .ne 7, 3) := by decide +kernel
theorem dX6_readCommand_80 : decode cX6_readCommand 80 = .ok (.iconst 1, 1) := by decide +kernel
theorem dX6_readCommand_81 : decode cX6_readCommand 81 = .ok (.goto 4, 3) := by decide +kernel
theorem dX6_readCommand_84 : decode cX6_readCommand 84 = .ok (.iconst 0, 1) := by decide +kernel
theorem dX6_readCommand_85 : decode cX6_readCommand 85 = .ok (.invokevirtual 129, 3) := by decide +kernel
theorem dX6_readCommand_88 : decode cX6_readCommand 88 = .ok (.ireturn, 1) := by decide +kernel
theorem dX6_readCommand_89 : decode cX6_readCommand 89 = .ok (.aload_n 0, 1) := by decide +kernel
theorem dX6_readCommand_90 : decode cX6_readCommand 90 = .ok (.iconst 0, 1) := by decide +kernel
theorem dX6_readCommand_91 : decode cX6_readCommand 91 = .ok (.iconst 1, 1) := by decide +kernel
theorem dX6_readCommand_92 : decode cX6_readCommand 92 = .ok (.iconst 0, 1) := by decide +kernel
theorem dX6_readCommand_93 : decode cX6_readCommand 93 = .ok (.iconst 2, 1) := by decide +kernel
theorem dX6_readCommand_94 : decode cX6_readCommand 94 = .ok (.invokevirtual 117, 3) := by decide +kernel
theorem dX6_readCommand_97 : decode cX6_readCommand 97 = .ok (.istore_n 3, 1) := by decide +kernel
theorem dX6_readCommand_98 : decode cX6_readCommand 98 = .ok (.aload_n 0, 1) := by decide +kernel
theorem dX6_readCommand_99 : decode cX6_readCommand 99 = .ok (.iload_n 3, 1) := by decide +kernel
theorem dX6_readCommand_100 : decode cX6_readCommand 100 = .ok (.iconst 2, 1) := by decide +kernel
theorem dX6_readCommand_101 : decode cX6_readCommand 101 = .ok (.iconst 0, 1) := by decide +kernel
theorem dX6_readCommand_102 : decode cX6_readCommand 102 = .ok (.bipush 60, 2) := by decide +kernel
theorem dX6_readCommand_104 : decode cX6_readCommand 104 = .ok (.invokevirtual 117, 3) := by decide +kernel
theorem dX6_readCommand_107 : decode cX6_readCommand 107 = .ok (.istore 4, 2) := by decide +kernel
theorem dX6_readCommand_109 : decode cX6_readCommand 109 = .ok (.iload 4, 2) := by decide +kernel
theorem dX6_readCommand_111 : decode cX6_readCommand 111 = .ok (.iconst (-1), 1) := by decide +kernel
theorem dX6_readCommand_112 : decode cX6_readCommand 112 = .ok (.if_icmp .eq 38, 3) := by decide +kernel
theorem dX6_readCommand_115 : decode cX6_readCommand 115 = .ok (.aload_n 0, 1) := by decide +kernel
theorem dX6_readCommand_116 : decode cX6_readCommand 116 = .ok (.iload_n 3, 1) := by decide +kernel
theorem dX6_readCommand_117 : decode cX6_readCommand 117 = .ok (.iload 4, 2) := by decide +kernel
theorem dX6_readCommand_119 : decode cX6_readCommand 119 = .ok (.invokestatic 133, 3) := by decide +kernel
theorem dX6_readCommand_122 : decode cX6_readCommand 122 = .ok (.ifCond .eq 17, 3) := by decide +kernel
theorem dX6_readCommand_125 : decode cX6_readCommand 125 = .ok (.aload_n 1, 1) := by decide +kernel
theorem dX6_readCommand_126 : decode cX6_readCommand 126 = .ok (.iload_n 3, 1) := by decide +kernel
theorem dX6_readCommand_127 : decode cX6_readCommand 127 = .ok (.iload 4, 2) := by decide +kernel
theorem dX6_readCommand_129 : decode cX6_readCommand 129 = .ok (.invokestatic 137, 3) := by decide +kernel
theorem dX6_readCommand_132 : decode cX6_readCommand 132 = .ok (.ifCond .lt 7, 3) := by decide +kernel
theorem dX6_readCommand_135 : decode cX6_readCommand 135 = .ok (.iconst 1, 1) := by decide +kernel
theorem dX6_readCommand_136 : decode cX6_readCommand 136 = .ok (.goto 4, 3) := by decide +kernel
theorem dX6_readCommand_139 : decode cX6_readCommand 139 = .ok (.iconst 0, 1) := by decide +kernel
theorem dX6_readCommand_140 : decode cX6_readCommand 140 = .ok (.invokevirtual 125, 3) := by decide +kernel
theorem dX6_readCommand_143 : decode cX6_readCommand 143 = .ok (.ifCond .eq 7, 3) := by decide +kernel
theorem dX6_readCommand_146 : decode cX6_readCommand 146 = .ok (.iconst 1, 1) := by decide +kernel
theorem dX6_readCommand_147 : decode cX6_readCommand 147 = .ok (.goto 4, 3) := by decide +kernel
theorem dX6_readCommand_150 : decode cX6_readCommand 150 = .ok (.iconst 0, 1) := by decide +kernel
theorem dX6_readCommand_151 : decode cX6_readCommand 151 = .ok (.ireturn, 1) := by decide +kernel
theorem dX6_readCommand_152 : decode cX6_readCommand 152 = .ok (.aload_n 0, 1) := by decide +kernel
theorem dX6_readCommand_153 : decode cX6_readCommand 153 = .ok (.iconst 0, 1) := by decide +kernel
theorem dX6_readCommand_154 : decode cX6_readCommand 154 = .ok (.iconst 2, 1) := by decide +kernel
theorem dX6_readCommand_155 : decode cX6_readCommand 155 = .ok (.iconst 1, 1) := by decide +kernel
theorem dX6_readCommand_156 : decode cX6_readCommand 156 = .ok (.bipush 99, 2) := by decide +kernel
theorem dX6_readCommand_158 : decode cX6_readCommand 158 = .ok (.invokevirtual 117, 3) := by decide +kernel
theorem dX6_readCommand_161 : decode cX6_readCommand 161 = .ok (.istore_n 3, 1) := by decide +kernel
theorem dX6_readCommand_162 : decode cX6_readCommand 162 = .ok (.iload_n 3, 1) := by decide +kernel
theorem dX6_readCommand_163 : decode cX6_readCommand 163 = .ok (.iconst (-1), 1) := by decide +kernel
theorem dX6_readCommand_164 : decode cX6_readCommand 164 = .ok (.if_icmp .eq 27, 3) := by decide +kernel
theorem dX6_readCommand_167 : decode cX6_readCommand 167 = .ok (.aload_n 0, 1) := by decide +kernel
theorem dX6_readCommand_168 : decode cX6_readCommand 168 = .ok (.aload_n 1, 1) := by decide +kernel
theorem dX6_readCommand_169 : decode cX6_readCommand 169 = .ok (.iload_n 3, 1) := by decide +kernel
theorem dX6_readCommand_170 : decode cX6_readCommand 170 = .ok (.invokestatic 140, 3) := by decide +kernel
theorem dX6_readCommand_173 : decode cX6_readCommand 173 = .ok (.ifCond .lt 7, 3) := by decide +kernel
theorem dX6_readCommand_176 : decode cX6_readCommand 176 = .ok (.iconst 1, 1) := by decide +kernel
theorem dX6_readCommand_177 : decode cX6_readCommand 177 = .ok (.goto 4, 3) := by decide +kernel
theorem dX6_readCommand_180 : decode cX6_readCommand 180 = .ok (.iconst 0, 1) := by decide +kernel
theorem dX6_readCommand_181 : decode cX6_readCommand 181 = .ok (.invokevirtual 125, 3) := by decide +kernel
theorem dX6_readCommand_184 : decode cX6_readCommand 184 = .ok (.ifCond .eq 7, 3) := by decide +kernel
theorem dX6_readCommand_187 : decode cX6_readCommand 187 = .ok (.iconst 1, 1) := by decide +kernel
theorem dX6_readCommand_188 : decode cX6_readCommand 188 = .ok (.goto 4, 3) := by decide +kernel
theorem dX6_readCommand_191 : decode cX6_readCommand 191 = .ok (.iconst 0, 1) := by decide +kernel
theorem dX6_readCommand_192 : decode cX6_readCommand 192 = .ok (.ireturn, 1) := by decide +kernel
theorem dX6_readCommand_193 : decode cX6_readCommand 193 = .ok (.aload_n 0, 1) := by decide +kernel
theorem dX6_readCommand_194 : decode cX6_readCommand 194 = .ok (.iconst 0, 1) := by decide +kernel
theorem dX6_readCommand_195 : decode cX6_readCommand 195 = .ok (.iconst 2, 1) := by decide +kernel
theorem dX6_readCommand_196 : decode cX6_readCommand 196 = .ok (.iconst 0, 1) := by decide +kernel
theorem dX6_readCommand_197 : decode cX6_readCommand 197 = .ok (.bipush 11, 2) := by decide +kernel
theorem dX6_readCommand_199 : decode cX6_readCommand 199 = .ok (.invokevirtual 117, 3) := by decide +kernel
theorem dX6_readCommand_202 : decode cX6_readCommand 202 = .ok (.istore_n 3, 1) := by decide +kernel
theorem dX6_readCommand_203 : decode cX6_readCommand 203 = .ok (.iload_n 3, 1) := by decide +kernel
theorem dX6_readCommand_204 : decode cX6_readCommand 204 = .ok (.iconst (-1), 1) := by decide +kernel
theorem dX6_readCommand_205 : decode cX6_readCommand 205 = .ok (.if_icmp .eq 35, 3) := by decide +kernel
theorem dX6_readCommand_208 : decode cX6_readCommand 208 = .ok (.aload_n 0, 1) := by decide +kernel
theorem dX6_readCommand_209 : decode cX6_readCommand 209 = .ok (.aload_n 1, 1) := by decide +kernel
theorem dX6_readCommand_210 : decode cX6_readCommand 210 = .ok (.iload_n 3, 1) := by decide +kernel
theorem dX6_readCommand_211 : decode cX6_readCommand 211 = .ok (.invokestatic 144, 3) := by decide +kernel
theorem dX6_readCommand_214 : decode cX6_readCommand 214 = .ok (.ifCond .eq 15, 3) := by decide +kernel
theorem dX6_readCommand_217 : decode cX6_readCommand 217 = .ok (.aload_n 1, 1) := by decide +kernel
theorem dX6_readCommand_218 : decode cX6_readCommand 218 = .ok (.iload_n 3, 1) := by decide +kernel
theorem dX6_readCommand_219 : decode cX6_readCommand 219 = .ok (.invokestatic 147, 3) := by decide +kernel
theorem dX6_readCommand_222 : decode cX6_readCommand 222 = .ok (.ifCond .lt 7, 3) := by decide +kernel
theorem dX6_readCommand_225 : decode cX6_readCommand 225 = .ok (.iconst 1, 1) := by decide +kernel
theorem dX6_readCommand_226 : decode cX6_readCommand 226 = .ok (.goto 4, 3) := by decide +kernel
theorem dX6_readCommand_229 : decode cX6_readCommand 229 = .ok (.iconst 0, 1) := by decide +kernel
theorem dX6_readCommand_230 : decode cX6_readCommand 230 = .ok (.invokevirtual 125, 3) := by decide +kernel
theorem dX6_readCommand_233 : decode cX6_readCommand 233 = .ok (.ifCond .eq 7, 3) := by decide +kernel
theorem dX6_readCommand_236 : decode cX6_readCommand 236 = .ok (.iconst 1, 1) := by decide +kernel
theorem dX6_readCommand_237 : decode cX6_readCommand 237 = .ok (.goto 4, 3) := by decide +kernel
theorem dX6_readCommand_240 : decode cX6_readCommand 240 = .ok (.iconst 0, 1) := by decide +kernel
theorem dX6_readCommand_241 : decode cX6_readCommand 241 = .ok (.ireturn, 1) := by decide +kernel
theorem dX6_readCommand_242 : decode cX6_readCommand 242 = .ok (.aload_n 0, 1) := by decide +kernel
theorem dX6_readCommand_243 : decode cX6_readCommand 243 = .ok (.dup, 1) := by decide +kernel
theorem dX6_readCommand_244 : decode cX6_readCommand 244 = .ok (.getfield 111, 3) := by decide +kernel
theorem dX6_readCommand_247 : decode cX6_readCommand 247 = .ok (.iconst 1, 1) := by decide +kernel
theorem dX6_readCommand_248 : decode cX6_readCommand 248 = .ok (.isub, 1) := by decide +kernel
theorem dX6_readCommand_249 : decode cX6_readCommand 249 = .ok (.putfield 111, 3) := by decide +kernel
theorem dX6_readCommand_252 : decode cX6_readCommand 252 = .ok (.iconst 0, 1) := by decide +kernel
theorem dX6_readCommand_253 : decode cX6_readCommand 253 = .ok (.ireturn, 1) := by decide +kernel
set_option maxRecDepth 20000 in
theorem ggX6_readText_X6_clear : GoodIn wsX6_readText wsX6_clear := goodIn_r _ [8] (by decide +kernel) (by decide +kernel)
set_option maxRecDepth 20000 in
theorem gX6_readText_X6_clear : GoodIn wsX6_readText (va_wsS RX6 29 yX6_clear wsX6_clear) := goodIn_app (goodIn_of _ (by decide +kernel)) ggX6_readText_X6_clear
set_option maxRecDepth 20000 in
theorem ggX6_readText_X6_readCommand : GoodIn wsX6_readText wsX6_readCommand := goodIn_r _ [12, 4, 2, 13, 14, 15, 7, 16, 17, 18, 19, 20, 3, 21, 22, 23, 24, 25, 26, 27, 28, 29, 30, 31, 1, 32, 33, 34, 35, 36, 37, 38, 39, 40, 41, 42, 43, 44, 45, 46, 47, 48, 49, 50, 51, 52, 53, 54, 55, 56, 57, 58, 59, 60, 61, 62, 63, 64, 65, 66, 67, 68, 69, 70, 71, 72, 73, 74, 75, 76, 77, 78, 79, 80, 81, 82, 83, 84, 85, 86, 87, 88, 89, 90, 91, 92, 93, 94, 95, 96, 97, 98, 99, 100, 101, 102, 103, 104] (by decide +kernel) (by decide +kernel)
set_option maxRecDepth 20000 in
theorem gX6_readText_X6_readCommand : GoodIn wsX6_readText (wsV RX6 150 RX6 yX6_readCommand wsX6_readCommand) := goodIn_app (goodIn_of _ (by decide +kernel)) ggX6_readText_X6_readCommand
theorem dX6_readText_0 : decode cX6_readText 0 = .ok (.aload_n 1, 1) := by decide +kernel
theorem dX6_readText_1 : decode cX6_readText 1 = .ok (.invokestatic 29, 3) := by decide +kernel
theorem dX6_readText_4 : decode cX6_readText 4 = .ok (.aload_n 0, 1) := by decide +kernel
theorem dX6_readText_5 : decode cX6_readText 5 = .ok (.iconst 0, 1) := by decide +kernel
theorem dX6_readText_6 : decode cX6_readText 6 = .ok (.putfield 114, 3) := by decide +kernel
theorem dX6_readText_9 : decode cX6_readText 9 = .ok (.aload_n 0, 1) := by decide +kernel
theorem dX6_readText_10 : decode cX6_readText 10 = .ok (.iconst 0, 1) := by decide +kernel
theorem dX6_readText_11 : decode cX6_readText 11 = .ok (.putfield 111, 3) := by decide +kernel
theorem dX6_readText_14 : decode cX6_readText 14 = .ok (.aload_n 0, 1) := by decide +kernel
theorem dX6_readText_15 : decode cX6_readText 15 = .ok (.getfield 104, 3) := by decide +kernel
theorem dX6_readText_18 : decode cX6_readText 18 = .ok (.ifCond .eq 14, 3) := by decide +kernel
theorem dX6_readText_21 : decode cX6_readText 21 = .ok (.aload_n 0, 1) := by decide +kernel
theorem dX6_readText_22 : decode cX6_readText 22 = .ok (.getfield 7, 3) := by decide +kernel
theorem dX6_readText_25 : decode cX6_readText 25 = .ok (.iconst 0, 1) := by decide +kernel
theorem dX6_readText_26 : decode cX6_readText 26 = .ok (.iaload, 1) := by decide +kernel
theorem dX6_readText_27 : decode cX6_readText 27 = .ok (.bipush 79, 2) := by decide +kernel
theorem dX6_readText_29 : decode cX6_readText 29 = .ok (.if_icmp .eq 5, 3) := by decide +kernel
theorem dX6_readText_32 : decode cX6_readText 32 = .ok (.iconst 0, 1) := by decide +kernel
theorem dX6_readText_33 : decode cX6_readText 33 = .ok (.ireturn, 1) := by decide +kernel
theorem dX6_readText_34 : decode cX6_readText 34 = .ok (.aload_n 0, 1) := by decide +kernel
theorem dX6_readText_35 : decode cX6_readText 35 = .ok (.iconst 1, 1) := by decide +kernel
theorem dX6_readText_36 : decode cX6_readText 36 = .ok (.putfield 111, 3) := by decide +kernel
theorem dX6_readText_39 : decode cX6_readText 39 = .ok (.aload_n 0, 1) := by decide +kernel
theorem dX6_readText_40 : decode cX6_readText 40 = .ok (.getfield 111, 3) := by decide +kernel
theorem dX6_readText_43 : decode cX6_readText 43 = .ok (.aload_n 0, 1) := by decide +kernel
theorem dX6_readText_44 : decode cX6_readText 44 = .ok (.getfield 104, 3) := by decide +kernel
theorem dX6_readText_47 : decode cX6_readText 47 = .ok (.if_icmp .ge 16, 3) := by decide +kernel
theorem dX6_readText_50 : decode cX6_readText 50 = .ok (.aload_n 0, 1) := by decide +kernel
theorem dX6_readText_51 : decode cX6_readText 51 = .ok (.aload_n 1, 1) := by decide +kernel
theorem dX6_readText_52 : decode cX6_readText 52 = .ok (.invokevirtual 150, 3) := by decide +kernel
theorem dX6_readText_55 : decode cX6_readText 55 = .ok (.ifCond .ne (-16), 3) := by decide +kernel
theorem dX6_readText_58 : decode cX6_readText 58 = .ok (.aload_n 0, 1) := by decide +kernel
theorem dX6_readText_59 : decode cX6_readText 59 = .ok (.getfield 111, 3) := by decide +kernel
theorem dX6_readText_62 : decode cX6_readText 62 = .ok (.ireturn, 1) := by decide +kernel
theorem dX6_readText_63 : decode cX6_readText 63 = .ok (.iconst (-1), 1) := by decide +kernel
theorem dX6_readText_64 : decode cX6_readText 64 = .ok (.ireturn, 1) := by decide +kernel
set_option maxRecDepth 20000 in
theorem ggX6_errorPosition_X6_readText : GoodIn wsX6_errorPosition wsX6_readText := goodIn_r _ [7, 8, 9, 10, 11, 12, 13, 6, 14, 15, 16, 17, 18, 19, 20, 21, 22, 23, 24, 25, 26, 27, 28, 29, 30, 31, 32, 33, 34, 35, 36, 37, 38, 39, 40, 41, 42, 43, 44, 45, 46, 47, 48, 49, 50, 51, 52, 53, 54, 55, 56, 57, 58, 59, 60, 61, 62, 63, 64, 65, 66, 67, 68, 69, 70, 71, 72, 73, 74, 75, 76, 77, 78, 79, 80, 81, 82, 83, 84, 85, 86, 87, 88, 89, 90, 91, 92, 93, 94, 95, 96, 97, 98, 99, 100, 101, 102, 103, 104, 105, 106, 107, 108, 109, 110] (by decide +kernel) (by decide +kernel)
set_option maxRecDepth 20000 in
theorem gX6_errorPosition_X6_readText : GoodIn wsX6_errorPosition (wsV RX6 154 RX6 yX6_readText wsX6_readText) := goodIn_app (goodIn_of _ (by decide +kernel)) ggX6_errorPosition_X6_readText
theorem dX6_errorPosition_0 : decode cX6_errorPosition 0 = .ok (.aload_n 0, 1) := by decide +kernel
theorem dX6_errorPosition_1 : decode cX6_errorPosition 1 = .ok (.iconst 0, 1) := by decide +kernel
theorem dX6_errorPosition_2 : decode cX6_errorPosition 2 = .ok (.putfield 33, 3) := by decide +kernel
theorem dX6_errorPosition_5 : decode cX6_errorPosition 5 = .ok (.aload_n 0, 1) := by decide +kernel
theorem dX6_errorPosition_6 : decode cX6_errorPosition 6 = .ok (.aload_n 0, 1) := by decide +kernel
theorem dX6_errorPosition_7 : decode cX6_errorPosition 7 = .ok (.getfield 16, 3) := by decide +kernel
theorem dX6_errorPosition_10 : decode cX6_errorPosition 10 = .ok (.invokevirtual 154, 3) := by decide +kernel
theorem dX6_errorPosition_13 : decode cX6_errorPosition 13 = .ok (.ireturn, 1) := by decide +kernel
set_option maxRecDepth 20000 in
theorem ggX6_load_X6_readText : GoodIn wsX6_load wsX6_readText := goodIn_r _ [10, 5, 11, 12, 13, 14, 15, 9, 16, 17, 18, 19, 20, 21, 22, 23, 24, 25, 26, 27, 28, 29, 30, 31, 32, 33, 34, 35, 36, 37, 38, 39, 40, 41, 42, 43, 44, 45, 46, 47, 48, 49, 50, 51, 52, 53, 54, 55, 56, 57, 58, 59, 60, 61, 62, 63, 64, 65, 66, 67, 68, 69, 70, 71, 72, 73, 74, 75, 76, 77, 78, 79, 80, 81, 82, 83, 84, 85, 86, 87, 88, 89, 90, 91, 92, 93, 94, 95, 96, 97, 98, 99, 100, 101, 110, 111, 112, 113, 114, 115, 116, 117, 118, 119, 120] (by decide +kernel) (by decide +kernel)
set_option maxRecDepth 20000 in
theorem gX6_load_X6_readText : GoodIn wsX6_load (wsV RX6 154 RX6 yX6_readText wsX6_readText) := goodIn_app (goodIn_of _ (by decide +kernel)) ggX6_load_X6_readText
set_option maxRecDepth 20000 in
theorem ggX6_load_X6_refused : GoodIn wsX6_load wsX6_refused := goodIn_r _ [105, 106, 110, 111, 112, 113, 114, 115, 116, 117, 118, 119, 120] (by decide +kernel) (by decide +kernel)
set_option maxRecDepth 20000 in
theorem gX6_load_X6_refused : GoodIn wsX6_load (wsV RX6 107 RX6 yX6_refused wsX6_refused) := goodIn_app (goodIn_of _ (by decide +kernel)) ggX6_load_X6_refused
set_option maxRecDepth 20000 in
theorem ggX6_load_X6_copyState : GoodIn wsX6_load wsX6_copyState := goodIn_r _ [109] (by decide +kernel) (by decide +kernel)
set_option maxRecDepth 20000 in
theorem gX6_load_X6_copyState : GoodIn wsX6_load (va_wsS RX6 158 yX6_copyState wsX6_copyState) := goodIn_app (goodIn_of _ (by decide +kernel)) ggX6_load_X6_copyState
theorem dX6_load_0 : decode cX6_load 0 = .ok (.aload_n 0, 1) := by decide +kernel
theorem dX6_load_1 : decode cX6_load 1 = .ok (.aload_n 0, 1) := by decide +kernel
theorem dX6_load_2 : decode cX6_load 2 = .ok (.aload_n 0, 1) := by decide +kernel
theorem dX6_load_3 : decode cX6_load 3 = .ok (.getfield 16, 3) := by decide +kernel
theorem dX6_load_6 : decode cX6_load 6 = .ok (.invokevirtual 154, 3) := by decide +kernel
theorem dX6_load_9 : decode cX6_load 9 = .ok (.iconst (-1), 1) := by decide +kernel
theorem dX6_load_10 : decode cX6_load 10 = .ok (.if_icmp .ne 7, 3) := by decide +kernel
theorem dX6_load_13 : decode cX6_load 13 = .ok (.iconst 0, 1) := by decide +kernel
theorem dX6_load_14 : decode cX6_load 14 = .ok (.goto 4, 3) := by decide +kernel
theorem dX6_load_17 : decode cX6_load 17 = .ok (.iconst 1, 1) := by decide +kernel
theorem dX6_load_18 : decode cX6_load 18 = .ok (.invokevirtual 107, 3) := by decide +kernel
theorem dX6_load_21 : decode cX6_load 21 = .ok (.ifCond .eq 5, 3) := by decide +kernel
theorem dX6_load_24 : decode cX6_load 24 = .ok (.iconst 0, 1) := by decide +kernel
theorem dX6_load_25 : decode cX6_load 25 = .ok (.ireturn, 1) := by decide +kernel
theorem dX6_load_26 : decode cX6_load 26 = .ok (.aload_n 0, 1) := by decide +kernel
theorem dX6_load_27 : decode cX6_load 27 = .ok (.getfield 16, 3) := by decide +kernel
theorem dX6_load_30 : decode cX6_load 30 = .ok (.iconst 0, 1) := by decide +kernel
theorem dX6_load_31 : decode cX6_load 31 = .ok (.aload_n 0, 1) := by decide +kernel
theorem dX6_load_32 : decode cX6_load 32 = .ok (.getfield 13, 3) := by decide +kernel
theorem dX6_load_35 : decode cX6_load 35 = .ok (.iconst 0, 1) := by decide +kernel
theorem dX6_load_36 : decode cX6_load 36 = .ok (.invokestatic 158, 3) := by decide +kernel
theorem dX6_load_39 : decode cX6_load 39 = .ok (.aload_n 0, 1) := by decide +kernel
theorem dX6_load_40 : decode cX6_load 40 = .ok (.iconst 0, 1) := by decide +kernel
theorem dX6_load_41 : decode cX6_load 41 = .ok (.putfield 162, 3) := by decide +kernel
theorem dX6_load_44 : decode cX6_load 44 = .ok (.aload_n 0, 1) := by decide +kernel
theorem dX6_load_45 : decode cX6_load 45 = .ok (.getfield 25, 3) := by decide +kernel
theorem dX6_load_48 : decode cX6_load 48 = .ok (.iconst 0, 1) := by decide +kernel
theorem dX6_load_49 : decode cX6_load 49 = .ok (.iconst 0, 1) := by decide +kernel
theorem dX6_load_50 : decode cX6_load 50 = .ok (.bastore, 1) := by decide +kernel
theorem dX6_load_51 : decode cX6_load 51 = .ok (.aload_n 0, 1) := by decide +kernel
theorem dX6_load_52 : decode cX6_load 52 = .ok (.getfield 25, 3) := by decide +kernel
theorem dX6_load_55 : decode cX6_load 55 = .ok (.iconst 1, 1) := by decide +kernel
theorem dX6_load_56 : decode cX6_load 56 = .ok (.iconst 0, 1) := by decide +kernel
theorem dX6_load_57 : decode cX6_load 57 = .ok (.bastore, 1) := by decide +kernel
theorem dX6_load_58 : decode cX6_load 58 = .ok (.aload_n 0, 1) := by decide +kernel
theorem dX6_load_59 : decode cX6_load 59 = .ok (.getfield 114, 3) := by decide +kernel
theorem dX6_load_62 : decode cX6_load 62 = .ok (.ireturn, 1) := by decide +kernel
set_option maxRecDepth 20000 in
theorem ggX6_about_X6_in : GoodIn wsX6_about wsX6_in := goodIn_r _ [6] (by decide +kernel) (by decide +kernel)
set_option maxRecDepth 20000 in
theorem gX6_about_X6_in : GoodIn wsX6_about (va_wsS RX6 39 yX6_in wsX6_in) := goodIn_app (goodIn_of _ (by decide +kernel)) ggX6_about_X6_in
set_option maxRecDepth 20000 in
theorem ggX6_about_X6_refused : GoodIn wsX6_about wsX6_refused := goodIn_r _ [10, 11, 12, 13, 14, 15, 16, 17, 18, 19, 20, 21, 22] (by decide +kernel) (by decide +kernel)
set_option maxRecDepth 20000 in
theorem gX6_about_X6_refused : GoodIn wsX6_about (wsV RX6 107 RX6 yX6_refused wsX6_refused) := goodIn_app (goodIn_of _ (by decide +kernel)) ggX6_about_X6_refused
theorem dX6_about_0 : decode cX6_about 0 = .ok (.aload_n 0, 1) := by decide +kernel
theorem dX6_about_1 : decode cX6_about 1 = .ok (.iload_n 1, 1) := by decide +kernel
theorem dX6_about_2 : decode cX6_about 2 = .ok (.i2l, 1) := by decide +kernel
theorem dX6_about_3 : decode cX6_about 3 = .ok (.lconst 0, 1) := by decide +kernel
theorem dX6_about_4 : decode cX6_about 4 = .ok (.ldc2_w 165, 3) := by decide +kernel
theorem dX6_about_7 : decode cX6_about 7 = .ok (.invokestatic 39, 3) := by decide +kernel
theorem dX6_about_10 : decode cX6_about 10 = .ok (.ifCond .eq 7, 3) := by decide +kernel
theorem dX6_about_13 : decode cX6_about 13 = .ok (.iconst 0, 1) := by decide +kernel
theorem dX6_about_14 : decode cX6_about 14 = .ok (.goto 4, 3) := by decide +kernel
theorem dX6_about_17 : decode cX6_about 17 = .ok (.iconst 1, 1) := by decide +kernel
theorem dX6_about_18 : decode cX6_about 18 = .ok (.invokevirtual 107, 3) := by decide +kernel
theorem dX6_about_21 : decode cX6_about 21 = .ok (.ifCond .eq 5, 3) := by decide +kernel
theorem dX6_about_24 : decode cX6_about 24 = .ok (.iconst 0, 1) := by decide +kernel
theorem dX6_about_25 : decode cX6_about 25 = .ok (.ireturn, 1) := by decide +kernel
theorem dX6_about_26 : decode cX6_about 26 = .ok (.aload_n 0, 1) := by decide +kernel
theorem dX6_about_27 : decode cX6_about 27 = .ok (.getfield 13, 3) := by decide +kernel
theorem dX6_about_30 : decode cX6_about 30 = .ok (.iload_n 1, 1) := by decide +kernel
theorem dX6_about_31 : decode cX6_about 31 = .ok (.iaload, 1) := by decide +kernel
theorem dX6_about_32 : decode cX6_about 32 = .ok (.ireturn, 1) := by decide +kernel
set_option maxRecDepth 20000 in
theorem ggX6_pegOf_X6_isPeg : GoodIn wsX6_pegOf wsX6_isPeg := goodIn_r _ [6, 7, 8, 5, 9] (by decide +kernel) (by decide +kernel)
set_option maxRecDepth 20000 in
theorem gX6_pegOf_X6_isPeg : GoodIn wsX6_pegOf (va_wsS RX6 167 yX6_isPeg wsX6_isPeg) := goodIn_app (goodIn_of _ (by decide +kernel)) ggX6_pegOf_X6_isPeg
set_option maxRecDepth 20000 in
theorem ggX6_pegOf_X6_in : GoodIn wsX6_pegOf wsX6_in := goodIn_r _ [9] (by decide +kernel) (by decide +kernel)
set_option maxRecDepth 20000 in
theorem gX6_pegOf_X6_in : GoodIn wsX6_pegOf (va_wsS RX6 39 yX6_in wsX6_in) := goodIn_app (goodIn_of _ (by decide +kernel)) ggX6_pegOf_X6_in
set_option maxRecDepth 20000 in
theorem ggX6_pegOf_X6_refused : GoodIn wsX6_pegOf wsX6_refused := goodIn_r _ [13, 14, 18, 19, 20, 21, 22, 23, 24, 25, 26, 27, 28] (by decide +kernel) (by decide +kernel)
set_option maxRecDepth 20000 in
theorem gX6_pegOf_X6_refused : GoodIn wsX6_pegOf (wsV RX6 107 RX6 yX6_refused wsX6_refused) := goodIn_app (goodIn_of _ (by decide +kernel)) ggX6_pegOf_X6_refused
set_option maxRecDepth 20000 in
theorem ggX6_pegOf_X6_peg : GoodIn wsX6_pegOf wsX6_peg := goodIn_r _ [17] (by decide +kernel) (by decide +kernel)
set_option maxRecDepth 20000 in
theorem gX6_pegOf_X6_peg : GoodIn wsX6_pegOf (va_wsS RX6 51 yX6_peg wsX6_peg) := goodIn_app (goodIn_of _ (by decide +kernel)) ggX6_pegOf_X6_peg
theorem dX6_pegOf_0 : decode cX6_pegOf 0 = .ok (.aload_n 0, 1) := by decide +kernel
theorem dX6_pegOf_1 : decode cX6_pegOf 1 = .ok (.aload_n 0, 1) := by decide +kernel
theorem dX6_pegOf_2 : decode cX6_pegOf 2 = .ok (.getfield 13, 3) := by decide +kernel
theorem dX6_pegOf_5 : decode cX6_pegOf 5 = .ok (.iload_n 1, 1) := by decide +kernel
theorem dX6_pegOf_6 : decode cX6_pegOf 6 = .ok (.invokestatic 167, 3) := by decide +kernel
theorem dX6_pegOf_9 : decode cX6_pegOf 9 = .ok (.ifCond .ne 7, 3) := by decide +kernel
theorem dX6_pegOf_12 : decode cX6_pegOf 12 = .ok (.iconst 1, 1) := by decide +kernel
theorem dX6_pegOf_13 : decode cX6_pegOf 13 = .ok (.goto 20, 3) := by decide +kernel
theorem dX6_pegOf_16 : decode cX6_pegOf 16 = .ok (.iload_n 2, 1) := by decide +kernel
theorem dX6_pegOf_17 : decode cX6_pegOf 17 = .ok (.i2l, 1) := by decide +kernel
theorem dX6_pegOf_18 : decode cX6_pegOf 18 = .ok (.lconst 0, 1) := by decide +kernel
theorem dX6_pegOf_19 : decode cX6_pegOf 19 = .ok (.ldc2_w 45, 3) := by decide +kernel
theorem dX6_pegOf_22 : decode cX6_pegOf 22 = .ok (.invokestatic 39, 3) := by decide +kernel
theorem dX6_pegOf_25 : decode cX6_pegOf 25 = .ok (.ifCond .eq 7, 3) := by decide +kernel
theorem dX6_pegOf_28 : decode cX6_pegOf 28 = .ok (.iconst 0, 1) := by decide +kernel
theorem dX6_pegOf_29 : decode cX6_pegOf 29 = .ok (.goto 4, 3) := by decide +kernel
theorem dX6_pegOf_32 : decode cX6_pegOf 32 = .ok (.iconst 2, 1) := by decide +kernel
theorem dX6_pegOf_33 : decode cX6_pegOf 33 = .ok (.invokevirtual 107, 3) := by decide +kernel
theorem dX6_pegOf_36 : decode cX6_pegOf 36 = .ok (.ifCond .eq 5, 3) := by decide +kernel
theorem dX6_pegOf_39 : decode cX6_pegOf 39 = .ok (.iconst 0, 1) := by decide +kernel
theorem dX6_pegOf_40 : decode cX6_pegOf 40 = .ok (.ireturn, 1) := by decide +kernel
theorem dX6_pegOf_41 : decode cX6_pegOf 41 = .ok (.aload_n 0, 1) := by decide +kernel
theorem dX6_pegOf_42 : decode cX6_pegOf 42 = .ok (.getfield 13, 3) := by decide +kernel
theorem dX6_pegOf_45 : decode cX6_pegOf 45 = .ok (.iload_n 1, 1) := by decide +kernel
theorem dX6_pegOf_46 : decode cX6_pegOf 46 = .ok (.iload_n 2, 1) := by decide +kernel
theorem dX6_pegOf_47 : decode cX6_pegOf 47 = .ok (.invokestatic 51, 3) := by decide +kernel
theorem dX6_pegOf_50 : decode cX6_pegOf 50 = .ok (.ireturn, 1) := by decide +kernel
set_option maxRecDepth 20000 in
theorem ggX6_orderOf_X6_isOrder : GoodIn wsX6_orderOf wsX6_isOrder := goodIn_r _ [6, 7, 8, 5, 9] (by decide +kernel) (by decide +kernel)
set_option maxRecDepth 20000 in
theorem gX6_orderOf_X6_isOrder : GoodIn wsX6_orderOf (va_wsS RX6 144 yX6_isOrder wsX6_isOrder) := goodIn_app (goodIn_of _ (by decide +kernel)) ggX6_orderOf_X6_isOrder
set_option maxRecDepth 20000 in
theorem ggX6_orderOf_X6_in : GoodIn wsX6_orderOf wsX6_in := goodIn_r _ [9] (by decide +kernel) (by decide +kernel)
set_option maxRecDepth 20000 in
theorem gX6_orderOf_X6_in : GoodIn wsX6_orderOf (va_wsS RX6 39 yX6_in wsX6_in) := goodIn_app (goodIn_of _ (by decide +kernel)) ggX6_orderOf_X6_in
set_option maxRecDepth 20000 in
theorem ggX6_orderOf_X6_refused : GoodIn wsX6_orderOf wsX6_refused := goodIn_r _ [13, 14, 18, 19, 20, 21, 22, 23, 24, 25, 26, 27, 28] (by decide +kernel) (by decide +kernel)
set_option maxRecDepth 20000 in
theorem gX6_orderOf_X6_refused : GoodIn wsX6_orderOf (wsV RX6 107 RX6 yX6_refused wsX6_refused) := goodIn_app (goodIn_of _ (by decide +kernel)) ggX6_orderOf_X6_refused
set_option maxRecDepth 20000 in
theorem ggX6_orderOf_X6_order : GoodIn wsX6_orderOf wsX6_order := goodIn_r _ [17] (by decide +kernel) (by decide +kernel)
set_option maxRecDepth 20000 in
theorem gX6_orderOf_X6_order : GoodIn wsX6_orderOf (va_wsS RX6 63 yX6_order wsX6_order) := goodIn_app (goodIn_of _ (by decide +kernel)) ggX6_orderOf_X6_order
theorem dX6_orderOf_0 : decode cX6_orderOf 0 = .ok (.aload_n 0, 1) := by decide +kernel
theorem dX6_orderOf_1 : decode cX6_orderOf 1 = .ok (.aload_n 0, 1) := by decide +kernel
theorem dX6_orderOf_2 : decode cX6_orderOf 2 = .ok (.getfield 13, 3) := by decide +kernel
theorem dX6_orderOf_5 : decode cX6_orderOf 5 = .ok (.iload_n 1, 1) := by decide +kernel
theorem dX6_orderOf_6 : decode cX6_orderOf 6 = .ok (.invokestatic 144, 3) := by decide +kernel
theorem dX6_orderOf_9 : decode cX6_orderOf 9 = .ok (.ifCond .ne 7, 3) := by decide +kernel
theorem dX6_orderOf_12 : decode cX6_orderOf 12 = .ok (.iconst 1, 1) := by decide +kernel
theorem dX6_orderOf_13 : decode cX6_orderOf 13 = .ok (.goto 20, 3) := by decide +kernel
theorem dX6_orderOf_16 : decode cX6_orderOf 16 = .ok (.iload_n 2, 1) := by decide +kernel
theorem dX6_orderOf_17 : decode cX6_orderOf 17 = .ok (.i2l, 1) := by decide +kernel
theorem dX6_orderOf_18 : decode cX6_orderOf 18 = .ok (.lconst 0, 1) := by decide +kernel
theorem dX6_orderOf_19 : decode cX6_orderOf 19 = .ok (.ldc2_w 170, 3) := by decide +kernel
theorem dX6_orderOf_22 : decode cX6_orderOf 22 = .ok (.invokestatic 39, 3) := by decide +kernel
theorem dX6_orderOf_25 : decode cX6_orderOf 25 = .ok (.ifCond .eq 7, 3) := by decide +kernel
theorem dX6_orderOf_28 : decode cX6_orderOf 28 = .ok (.iconst 0, 1) := by decide +kernel
theorem dX6_orderOf_29 : decode cX6_orderOf 29 = .ok (.goto 4, 3) := by decide +kernel
theorem dX6_orderOf_32 : decode cX6_orderOf 32 = .ok (.iconst 2, 1) := by decide +kernel
theorem dX6_orderOf_33 : decode cX6_orderOf 33 = .ok (.invokevirtual 107, 3) := by decide +kernel
theorem dX6_orderOf_36 : decode cX6_orderOf 36 = .ok (.ifCond .eq 5, 3) := by decide +kernel
theorem dX6_orderOf_39 : decode cX6_orderOf 39 = .ok (.iconst 0, 1) := by decide +kernel
theorem dX6_orderOf_40 : decode cX6_orderOf 40 = .ok (.ireturn, 1) := by decide +kernel
theorem dX6_orderOf_41 : decode cX6_orderOf 41 = .ok (.aload_n 0, 1) := by decide +kernel
theorem dX6_orderOf_42 : decode cX6_orderOf 42 = .ok (.getfield 13, 3) := by decide +kernel
theorem dX6_orderOf_45 : decode cX6_orderOf 45 = .ok (.iload_n 1, 1) := by decide +kernel
theorem dX6_orderOf_46 : decode cX6_orderOf 46 = .ok (.iload_n 2, 1) := by decide +kernel
theorem dX6_orderOf_47 : decode cX6_orderOf 47 = .ok (.invokestatic 63, 3) := by decide +kernel
theorem dX6_orderOf_50 : decode cX6_orderOf 50 = .ok (.ireturn, 1) := by decide +kernel
set_option maxRecDepth 20000 in
theorem ggX6_barsOf_X6_isCovered : GoodIn wsX6_barsOf wsX6_isCovered := goodIn_r _ [4, 5, 6, 3, 7, 8, 9, 10] (by decide +kernel) (by decide +kernel)
set_option maxRecDepth 20000 in
theorem gX6_barsOf_X6_isCovered : GoodIn wsX6_barsOf (va_wsS RX6 59 yX6_isCovered wsX6_isCovered) := goodIn_app (goodIn_of _ (by decide +kernel)) ggX6_barsOf_X6_isCovered
theorem dX6_barsOf_0 : decode cX6_barsOf 0 = .ok (.iconst 0, 1) := by decide +kernel
theorem dX6_barsOf_1 : decode cX6_barsOf 1 = .ok (.istore_n 2, 1) := by decide +kernel
theorem dX6_barsOf_2 : decode cX6_barsOf 2 = .ok (.iconst 0, 1) := by decide +kernel
theorem dX6_barsOf_3 : decode cX6_barsOf 3 = .ok (.istore_n 3, 1) := by decide +kernel
theorem dX6_barsOf_4 : decode cX6_barsOf 4 = .ok (.iload_n 3, 1) := by decide +kernel
theorem dX6_barsOf_5 : decode cX6_barsOf 5 = .ok (.bipush 24, 2) := by decide +kernel
theorem dX6_barsOf_7 : decode cX6_barsOf 7 = .ok (.if_icmp .ge 26, 3) := by decide +kernel
theorem dX6_barsOf_10 : decode cX6_barsOf 10 = .ok (.iload_n 2, 1) := by decide +kernel
theorem dX6_barsOf_11 : decode cX6_barsOf 11 = .ok (.aload_n 0, 1) := by decide +kernel
theorem dX6_barsOf_12 : decode cX6_barsOf 12 = .ok (.iload_n 1, 1) := by decide +kernel
theorem dX6_barsOf_13 : decode cX6_barsOf 13 = .ok (.iload_n 3, 1) := by decide +kernel
theorem dX6_barsOf_14 : decode cX6_barsOf 14 = .ok (.invokestatic 59, 3) := by decide +kernel
theorem dX6_barsOf_17 : decode cX6_barsOf 17 = .ok (.ifCond .eq 7, 3) := by decide +kernel
theorem dX6_barsOf_20 : decode cX6_barsOf 20 = .ok (.iconst 1, 1) := by decide +kernel
theorem dX6_barsOf_21 : decode cX6_barsOf 21 = .ok (.goto 4, 3) := by decide +kernel
theorem dX6_barsOf_24 : decode cX6_barsOf 24 = .ok (.iconst 0, 1) := by decide +kernel
theorem dX6_barsOf_25 : decode cX6_barsOf 25 = .ok (.iadd, 1) := by decide +kernel
theorem dX6_barsOf_26 : decode cX6_barsOf 26 = .ok (.istore_n 2, 1) := by decide +kernel
theorem dX6_barsOf_27 : decode cX6_barsOf 27 = .ok (.iinc 3 1, 3) := by decide +kernel
theorem dX6_barsOf_30 : decode cX6_barsOf 30 = .ok (.goto (-26), 3) := by decide +kernel
theorem dX6_barsOf_33 : decode cX6_barsOf 33 = .ok (.iload_n 2, 1) := by decide +kernel
theorem dX6_barsOf_34 : decode cX6_barsOf 34 = .ok (.ireturn, 1) := by decide +kernel
set_option maxRecDepth 20000 in
theorem ggX6_pipeOf_X6_isPipe : GoodIn wsX6_pipeOf wsX6_isPipe := goodIn_r _ [6, 7, 8, 9, 5, 10] (by decide +kernel) (by decide +kernel)
set_option maxRecDepth 20000 in
theorem gX6_pipeOf_X6_isPipe : GoodIn wsX6_pipeOf (va_wsS RX6 172 yX6_isPipe wsX6_isPipe) := goodIn_app (goodIn_of _ (by decide +kernel)) ggX6_pipeOf_X6_isPipe
set_option maxRecDepth 20000 in
theorem ggX6_pipeOf_X6_in : GoodIn wsX6_pipeOf wsX6_in := goodIn_r _ [10] (by decide +kernel) (by decide +kernel)
set_option maxRecDepth 20000 in
theorem gX6_pipeOf_X6_in : GoodIn wsX6_pipeOf (va_wsS RX6 39 yX6_in wsX6_in) := goodIn_app (goodIn_of _ (by decide +kernel)) ggX6_pipeOf_X6_in
set_option maxRecDepth 20000 in
theorem ggX6_pipeOf_X6_refused : GoodIn wsX6_pipeOf wsX6_refused := goodIn_r _ [14, 15, 31, 32, 33, 34, 35, 36, 37, 38, 39, 40, 41] (by decide +kernel) (by decide +kernel)
set_option maxRecDepth 20000 in
theorem gX6_pipeOf_X6_refused : GoodIn wsX6_pipeOf (wsV RX6 107 RX6 yX6_refused wsX6_refused) := goodIn_app (goodIn_of _ (by decide +kernel)) ggX6_pipeOf_X6_refused
set_option maxRecDepth 20000 in
theorem ggX6_pipeOf_X6_peg : GoodIn wsX6_pipeOf wsX6_peg := goodIn_r _ [18] (by decide +kernel) (by decide +kernel)
set_option maxRecDepth 20000 in
theorem gX6_pipeOf_X6_peg : GoodIn wsX6_pipeOf (va_wsS RX6 51 yX6_peg wsX6_peg) := goodIn_app (goodIn_of _ (by decide +kernel)) ggX6_pipeOf_X6_peg
set_option maxRecDepth 20000 in
theorem ggX6_pipeOf_X6_barsOf : GoodIn wsX6_pipeOf wsX6_barsOf := goodIn_r _ [21, 22, 23, 5, 24, 16, 17, 18, 25, 26, 27] (by decide +kernel) (by decide +kernel)
set_option maxRecDepth 20000 in
theorem gX6_pipeOf_X6_barsOf : GoodIn wsX6_pipeOf (va_wsS RX6 175 yX6_barsOf wsX6_barsOf) := goodIn_app (goodIn_of _ (by decide +kernel)) ggX6_pipeOf_X6_barsOf
set_option maxRecDepth 20000 in
theorem ggX6_pipeOf_X6_isOpen : GoodIn wsX6_pipeOf wsX6_isOpen := goodIn_r _ [30, 22, 23, 5, 24, 16, 17, 18, 25, 26, 27] (by decide +kernel) (by decide +kernel)
set_option maxRecDepth 20000 in
theorem gX6_pipeOf_X6_isOpen : GoodIn wsX6_pipeOf (va_wsS RX6 66 yX6_isOpen wsX6_isOpen) := goodIn_app (goodIn_of _ (by decide +kernel)) ggX6_pipeOf_X6_isOpen
theorem dX6_pipeOf_0 : decode cX6_pipeOf 0 = .ok (.aload_n 0, 1) := by decide +kernel
theorem dX6_pipeOf_1 : decode cX6_pipeOf 1 = .ok (.iload_n 1, 1) := by decide +kernel
theorem dX6_pipeOf_2 : decode cX6_pipeOf 2 = .ok (.invokestatic 172, 3) := by decide +kernel
theorem dX6_pipeOf_5 : decode cX6_pipeOf 5 = .ok (.ifCond .ne 7, 3) := by decide +kernel
theorem dX6_pipeOf_8 : decode cX6_pipeOf 8 = .ok (.iconst 1, 1) := by decide +kernel
theorem dX6_pipeOf_9 : decode cX6_pipeOf 9 = .ok (.goto 20, 3) := by decide +kernel
theorem dX6_pipeOf_12 : decode cX6_pipeOf 12 = .ok (.iload_n 2, 1) := by decide +kernel
theorem dX6_pipeOf_13 : decode cX6_pipeOf 13 = .ok (.i2l, 1) := by decide +kernel
theorem dX6_pipeOf_14 : decode cX6_pipeOf 14 = .ok (.lconst 0, 1) := by decide +kernel
theorem dX6_pipeOf_15 : decode cX6_pipeOf 15 = .ok (.ldc2_w 170, 3) := by decide +kernel
theorem dX6_pipeOf_18 : decode cX6_pipeOf 18 = .ok (.invokestatic 39, 3) := by decide +kernel
theorem dX6_pipeOf_21 : decode cX6_pipeOf 21 = .ok (.ifCond .eq 7, 3) := by decide +kernel
theorem dX6_pipeOf_24 : decode cX6_pipeOf 24 = .ok (.iconst 0, 1) := by decide +kernel
theorem dX6_pipeOf_25 : decode cX6_pipeOf 25 = .ok (.goto 4, 3) := by decide +kernel
theorem dX6_pipeOf_28 : decode cX6_pipeOf 28 = .ok (.iconst 2, 1) := by decide +kernel
theorem dX6_pipeOf_29 : decode cX6_pipeOf 29 = .ok (.invokevirtual 107, 3) := by decide +kernel
theorem dX6_pipeOf_32 : decode cX6_pipeOf 32 = .ok (.ifCond .eq 5, 3) := by decide +kernel
theorem dX6_pipeOf_35 : decode cX6_pipeOf 35 = .ok (.iconst 0, 1) := by decide +kernel
theorem dX6_pipeOf_36 : decode cX6_pipeOf 36 = .ok (.ireturn, 1) := by decide +kernel
theorem dX6_pipeOf_37 : decode cX6_pipeOf 37 = .ok (.iconst 0, 1) := by decide +kernel
theorem dX6_pipeOf_38 : decode cX6_pipeOf 38 = .ok (.istore_n 3, 1) := by decide +kernel
theorem dX6_pipeOf_39 : decode cX6_pipeOf 39 = .ok (.iconst 0, 1) := by decide +kernel
theorem dX6_pipeOf_40 : decode cX6_pipeOf 40 = .ok (.istore 4, 2) := by decide +kernel
theorem dX6_pipeOf_42 : decode cX6_pipeOf 42 = .ok (.iload 4, 2) := by decide +kernel
theorem dX6_pipeOf_44 : decode cX6_pipeOf 44 = .ok (.aload_n 0, 1) := by decide +kernel
theorem dX6_pipeOf_45 : decode cX6_pipeOf 45 = .ok (.getfield 13, 3) := by decide +kernel
theorem dX6_pipeOf_48 : decode cX6_pipeOf 48 = .ok (.iconst 0, 1) := by decide +kernel
theorem dX6_pipeOf_49 : decode cX6_pipeOf 49 = .ok (.iaload, 1) := by decide +kernel
theorem dX6_pipeOf_50 : decode cX6_pipeOf 50 = .ok (.if_icmp .ge 31, 3) := by decide +kernel
theorem dX6_pipeOf_53 : decode cX6_pipeOf 53 = .ok (.iload_n 3, 1) := by decide +kernel
theorem dX6_pipeOf_54 : decode cX6_pipeOf 54 = .ok (.aload_n 0, 1) := by decide +kernel
theorem dX6_pipeOf_55 : decode cX6_pipeOf 55 = .ok (.getfield 13, 3) := by decide +kernel
theorem dX6_pipeOf_58 : decode cX6_pipeOf 58 = .ok (.iload 4, 2) := by decide +kernel
theorem dX6_pipeOf_60 : decode cX6_pipeOf 60 = .ok (.iconst 0, 1) := by decide +kernel
theorem dX6_pipeOf_61 : decode cX6_pipeOf 61 = .ok (.invokestatic 51, 3) := by decide +kernel
theorem dX6_pipeOf_64 : decode cX6_pipeOf 64 = .ok (.iload_n 1, 1) := by decide +kernel
theorem dX6_pipeOf_65 : decode cX6_pipeOf 65 = .ok (.if_icmp .ne 7, 3) := by decide +kernel
theorem dX6_pipeOf_68 : decode cX6_pipeOf 68 = .ok (.iconst 1, 1) := by decide +kernel
theorem dX6_pipeOf_69 : decode cX6_pipeOf 69 = .ok (.goto 4, 3) := by decide +kernel
theorem dX6_pipeOf_72 : decode cX6_pipeOf 72 = .ok (.iconst 0, 1) := by decide +kernel
theorem dX6_pipeOf_73 : decode cX6_pipeOf 73 = .ok (.iadd, 1) := by decide +kernel
theorem dX6_pipeOf_74 : decode cX6_pipeOf 74 = .ok (.istore_n 3, 1) := by decide +kernel
theorem dX6_pipeOf_75 : decode cX6_pipeOf 75 = .ok (.iinc 4 1, 3) := by decide +kernel
theorem dX6_pipeOf_78 : decode cX6_pipeOf 78 = .ok (.goto (-36), 3) := by decide +kernel
theorem dX6_pipeOf_81 : decode cX6_pipeOf 81 = .ok (.iload_n 2, 1) := by decide +kernel
theorem dX6_pipeOf_82 : decode cX6_pipeOf 82 = .ok (.ifCond .ne 7, 3) := by decide +kernel
theorem dX6_pipeOf_85 : decode cX6_pipeOf 85 = .ok (.iload_n 3, 1) := by decide +kernel
theorem dX6_pipeOf_86 : decode cX6_pipeOf 86 = .ok (.goto 69, 3) := by decide +kernel
theorem dX6_pipeOf_89 : decode cX6_pipeOf 89 = .ok (.iload_n 2, 1) := by decide +kernel
theorem dX6_pipeOf_90 : decode cX6_pipeOf 90 = .ok (.iconst 1, 1) := by decide +kernel
theorem dX6_pipeOf_91 : decode cX6_pipeOf 91 = .ok (.if_icmp .ne 14, 3) := by decide +kernel
theorem dX6_pipeOf_94 : decode cX6_pipeOf 94 = .ok (.aload_n 0, 1) := by decide +kernel
theorem dX6_pipeOf_95 : decode cX6_pipeOf 95 = .ok (.getfield 13, 3) := by decide +kernel
theorem dX6_pipeOf_98 : decode cX6_pipeOf 98 = .ok (.iload_n 1, 1) := by decide +kernel
theorem dX6_pipeOf_99 : decode cX6_pipeOf 99 = .ok (.invokestatic 175, 3) := by decide +kernel
theorem dX6_pipeOf_102 : decode cX6_pipeOf 102 = .ok (.goto 53, 3) := by decide +kernel
theorem dX6_pipeOf_105 : decode cX6_pipeOf 105 = .ok (.iload_n 2, 1) := by decide +kernel
theorem dX6_pipeOf_106 : decode cX6_pipeOf 106 = .ok (.iconst 2, 1) := by decide +kernel
theorem dX6_pipeOf_107 : decode cX6_pipeOf 107 = .ok (.if_icmp .ne 22, 3) := by decide +kernel
theorem dX6_pipeOf_110 : decode cX6_pipeOf 110 = .ok (.aload_n 0, 1) := by decide +kernel
theorem dX6_pipeOf_111 : decode cX6_pipeOf 111 = .ok (.getfield 13, 3) := by decide +kernel
theorem dX6_pipeOf_114 : decode cX6_pipeOf 114 = .ok (.iload_n 1, 1) := by decide +kernel
theorem dX6_pipeOf_115 : decode cX6_pipeOf 115 = .ok (.invokestatic 66, 3) := by decide +kernel
theorem dX6_pipeOf_118 : decode cX6_pipeOf 118 = .ok (.ifCond .eq 7, 3) := by decide +kernel
theorem dX6_pipeOf_121 : decode cX6_pipeOf 121 = .ok (.iconst 1, 1) := by decide +kernel
theorem dX6_pipeOf_122 : decode cX6_pipeOf 122 = .ok (.goto 33, 3) := by decide +kernel
theorem dX6_pipeOf_125 : decode cX6_pipeOf 125 = .ok (.iconst 0, 1) := by decide +kernel
theorem dX6_pipeOf_126 : decode cX6_pipeOf 126 = .ok (.goto 29, 3) := by decide +kernel
theorem dX6_pipeOf_129 : decode cX6_pipeOf 129 = .ok (.iload_n 2, 1) := by decide +kernel
theorem dX6_pipeOf_130 : decode cX6_pipeOf 130 = .ok (.iconst 3, 1) := by decide +kernel
theorem dX6_pipeOf_131 : decode cX6_pipeOf 131 = .ok (.if_icmp .ne 15, 3) := by decide +kernel
theorem dX6_pipeOf_134 : decode cX6_pipeOf 134 = .ok (.aload_n 0, 1) := by decide +kernel
theorem dX6_pipeOf_135 : decode cX6_pipeOf 135 = .ok (.getfield 13, 3) := by decide +kernel
theorem dX6_pipeOf_138 : decode cX6_pipeOf 138 = .ok (.bipush 25, 2) := by decide +kernel
theorem dX6_pipeOf_140 : decode cX6_pipeOf 140 = .ok (.iload_n 1, 1) := by decide +kernel
theorem dX6_pipeOf_141 : decode cX6_pipeOf 141 = .ok (.iadd, 1) := by decide +kernel
theorem dX6_pipeOf_142 : decode cX6_pipeOf 142 = .ok (.iaload, 1) := by decide +kernel
theorem dX6_pipeOf_143 : decode cX6_pipeOf 143 = .ok (.goto 12, 3) := by decide +kernel
theorem dX6_pipeOf_146 : decode cX6_pipeOf 146 = .ok (.aload_n 0, 1) := by decide +kernel
theorem dX6_pipeOf_147 : decode cX6_pipeOf 147 = .ok (.getfield 13, 3) := by decide +kernel
theorem dX6_pipeOf_150 : decode cX6_pipeOf 150 = .ok (.bipush 31, 2) := by decide +kernel
theorem dX6_pipeOf_152 : decode cX6_pipeOf 152 = .ok (.iload_n 1, 1) := by decide +kernel
theorem dX6_pipeOf_153 : decode cX6_pipeOf 153 = .ok (.iadd, 1) := by decide +kernel
theorem dX6_pipeOf_154 : decode cX6_pipeOf 154 = .ok (.iaload, 1) := by decide +kernel
theorem dX6_pipeOf_155 : decode cX6_pipeOf 155 = .ok (.ireturn, 1) := by decide +kernel
set_option maxRecDepth 20000 in
theorem ggX6_chord_X6_isBar : GoodIn wsX6_chord wsX6_isBar := goodIn_r _ [5, 6, 7, 8, 4, 9] (by decide +kernel) (by decide +kernel)
set_option maxRecDepth 20000 in
theorem gX6_chord_X6_isBar : GoodIn wsX6_chord (va_wsS RX6 178 yX6_isBar wsX6_isBar) := goodIn_app (goodIn_of _ (by decide +kernel)) ggX6_chord_X6_isBar
set_option maxRecDepth 20000 in
theorem ggX6_chord_X6_refused : GoodIn wsX6_chord wsX6_refused := goodIn_r _ [13, 14, 27, 28, 29, 30, 31, 32, 33, 34, 35, 36, 37] (by decide +kernel) (by decide +kernel)
set_option maxRecDepth 20000 in
theorem gX6_chord_X6_refused : GoodIn wsX6_chord (wsV RX6 107 RX6 yX6_refused wsX6_refused) := goodIn_app (goodIn_of _ (by decide +kernel)) ggX6_chord_X6_refused
set_option maxRecDepth 20000 in
theorem ggX6_chord_X6_chordAt : GoodIn wsX6_chord wsX6_chordAt := goodIn_r _ [17, 18, 19, 4, 20, 21, 22, 23, 24, 25, 26] (by decide +kernel) (by decide +kernel)
set_option maxRecDepth 20000 in
theorem gX6_chord_X6_chordAt : GoodIn wsX6_chord (va_wsS RX6 181 yX6_chordAt wsX6_chordAt) := goodIn_app (goodIn_of _ (by decide +kernel)) ggX6_chord_X6_chordAt
theorem dX6_chord_0 : decode cX6_chord 0 = .ok (.aload_n 0, 1) := by decide +kernel
theorem dX6_chord_1 : decode cX6_chord 1 = .ok (.iload_n 1, 1) := by decide +kernel
theorem dX6_chord_2 : decode cX6_chord 2 = .ok (.invokestatic 178, 3) := by decide +kernel
theorem dX6_chord_5 : decode cX6_chord 5 = .ok (.ifCond .eq 7, 3) := by decide +kernel
theorem dX6_chord_8 : decode cX6_chord 8 = .ok (.iconst 0, 1) := by decide +kernel
theorem dX6_chord_9 : decode cX6_chord 9 = .ok (.goto 4, 3) := by decide +kernel
theorem dX6_chord_12 : decode cX6_chord 12 = .ok (.iconst 1, 1) := by decide +kernel
theorem dX6_chord_13 : decode cX6_chord 13 = .ok (.invokevirtual 107, 3) := by decide +kernel
theorem dX6_chord_16 : decode cX6_chord 16 = .ok (.ifCond .eq 5, 3) := by decide +kernel
theorem dX6_chord_19 : decode cX6_chord 19 = .ok (.iconst 0, 1) := by decide +kernel
theorem dX6_chord_20 : decode cX6_chord 20 = .ok (.ireturn, 1) := by decide +kernel
theorem dX6_chord_21 : decode cX6_chord 21 = .ok (.aload_n 0, 1) := by decide +kernel
theorem dX6_chord_22 : decode cX6_chord 22 = .ok (.getfield 13, 3) := by decide +kernel
theorem dX6_chord_25 : decode cX6_chord 25 = .ok (.iload_n 1, 1) := by decide +kernel
theorem dX6_chord_26 : decode cX6_chord 26 = .ok (.invokestatic 181, 3) := by decide +kernel
theorem dX6_chord_29 : decode cX6_chord 29 = .ok (.ireturn, 1) := by decide +kernel
set_option maxRecDepth 20000 in
theorem ggX6_covered_X6_in : GoodIn wsX6_covered wsX6_in := goodIn_r _ [5] (by decide +kernel) (by decide +kernel)
set_option maxRecDepth 20000 in
theorem gX6_covered_X6_in : GoodIn wsX6_covered (va_wsS RX6 39 yX6_in wsX6_in) := goodIn_app (goodIn_of _ (by decide +kernel)) ggX6_covered_X6_in
set_option maxRecDepth 20000 in
theorem ggX6_covered_X6_refused : GoodIn wsX6_covered wsX6_refused := goodIn_r _ [9, 10, 23, 24, 25, 26, 27, 28, 29, 30, 31, 32, 33] (by decide +kernel) (by decide +kernel)
set_option maxRecDepth 20000 in
theorem gX6_covered_X6_refused : GoodIn wsX6_covered (wsV RX6 107 RX6 yX6_refused wsX6_refused) := goodIn_app (goodIn_of _ (by decide +kernel)) ggX6_covered_X6_refused
set_option maxRecDepth 20000 in
theorem ggX6_covered_X6_barsOf : GoodIn wsX6_covered wsX6_barsOf := goodIn_r _ [13, 14, 15, 4, 16, 17, 18, 19, 20, 21, 22] (by decide +kernel) (by decide +kernel)
set_option maxRecDepth 20000 in
theorem gX6_covered_X6_barsOf : GoodIn wsX6_covered (va_wsS RX6 175 yX6_barsOf wsX6_barsOf) := goodIn_app (goodIn_of _ (by decide +kernel)) ggX6_covered_X6_barsOf
theorem dX6_covered_0 : decode cX6_covered 0 = .ok (.aload_n 0, 1) := by decide +kernel
theorem dX6_covered_1 : decode cX6_covered 1 = .ok (.iload_n 1, 1) := by decide +kernel
theorem dX6_covered_2 : decode cX6_covered 2 = .ok (.i2l, 1) := by decide +kernel
theorem dX6_covered_3 : decode cX6_covered 3 = .ok (.lconst 0, 1) := by decide +kernel
theorem dX6_covered_4 : decode cX6_covered 4 = .ok (.lconst 1, 1) := by decide +kernel
theorem dX6_covered_5 : decode cX6_covered 5 = .ok (.invokestatic 39, 3) := by decide +kernel
theorem dX6_covered_8 : decode cX6_covered 8 = .ok (.ifCond .eq 7, 3) := by decide +kernel
theorem dX6_covered_11 : decode cX6_covered 11 = .ok (.iconst 0, 1) := by decide +kernel
theorem dX6_covered_12 : decode cX6_covered 12 = .ok (.goto 4, 3) := by decide +kernel
theorem dX6_covered_15 : decode cX6_covered 15 = .ok (.iconst 1, 1) := by decide +kernel
theorem dX6_covered_16 : decode cX6_covered 16 = .ok (.invokevirtual 107, 3) := by decide +kernel
theorem dX6_covered_19 : decode cX6_covered 19 = .ok (.ifCond .eq 5, 3) := by decide +kernel
theorem dX6_covered_22 : decode cX6_covered 22 = .ok (.iconst 0, 1) := by decide +kernel
theorem dX6_covered_23 : decode cX6_covered 23 = .ok (.ireturn, 1) := by decide +kernel
theorem dX6_covered_24 : decode cX6_covered 24 = .ok (.iconst 0, 1) := by decide +kernel
theorem dX6_covered_25 : decode cX6_covered 25 = .ok (.istore_n 2, 1) := by decide +kernel
theorem dX6_covered_26 : decode cX6_covered 26 = .ok (.iconst 0, 1) := by decide +kernel
theorem dX6_covered_27 : decode cX6_covered 27 = .ok (.istore_n 3, 1) := by decide +kernel
theorem dX6_covered_28 : decode cX6_covered 28 = .ok (.iload_n 3, 1) := by decide +kernel
theorem dX6_covered_29 : decode cX6_covered 29 = .ok (.bipush 6, 2) := by decide +kernel
theorem dX6_covered_31 : decode cX6_covered 31 = .ok (.if_icmp .ge 20, 3) := by decide +kernel
theorem dX6_covered_34 : decode cX6_covered 34 = .ok (.iload_n 2, 1) := by decide +kernel
theorem dX6_covered_35 : decode cX6_covered 35 = .ok (.aload_n 0, 1) := by decide +kernel
theorem dX6_covered_36 : decode cX6_covered 36 = .ok (.getfield 13, 3) := by decide +kernel
theorem dX6_covered_39 : decode cX6_covered 39 = .ok (.iload_n 3, 1) := by decide +kernel
theorem dX6_covered_40 : decode cX6_covered 40 = .ok (.invokestatic 175, 3) := by decide +kernel
theorem dX6_covered_43 : decode cX6_covered 43 = .ok (.iadd, 1) := by decide +kernel
theorem dX6_covered_44 : decode cX6_covered 44 = .ok (.istore_n 2, 1) := by decide +kernel
theorem dX6_covered_45 : decode cX6_covered 45 = .ok (.iinc 3 1, 3) := by decide +kernel
theorem dX6_covered_48 : decode cX6_covered 48 = .ok (.goto (-20), 3) := by decide +kernel
theorem dX6_covered_51 : decode cX6_covered 51 = .ok (.iload_n 2, 1) := by decide +kernel
theorem dX6_covered_52 : decode cX6_covered 52 = .ok (.ireturn, 1) := by decide +kernel
set_option maxRecDepth 20000 in
theorem ggX6_setting_X6_in : GoodIn wsX6_setting wsX6_in := goodIn_r _ [6] (by decide +kernel) (by decide +kernel)
set_option maxRecDepth 20000 in
theorem gX6_setting_X6_in : GoodIn wsX6_setting (va_wsS RX6 39 yX6_in wsX6_in) := goodIn_app (goodIn_of _ (by decide +kernel)) ggX6_setting_X6_in
set_option maxRecDepth 20000 in
theorem ggX6_setting_X6_refused : GoodIn wsX6_setting wsX6_refused := goodIn_r _ [10, 11, 12, 13, 14, 15, 16, 17, 18, 19, 20, 21, 22] (by decide +kernel) (by decide +kernel)
set_option maxRecDepth 20000 in
theorem gX6_setting_X6_refused : GoodIn wsX6_setting (wsV RX6 107 RX6 yX6_refused wsX6_refused) := goodIn_app (goodIn_of _ (by decide +kernel)) ggX6_setting_X6_refused
theorem dX6_setting_0 : decode cX6_setting 0 = .ok (.aload_n 0, 1) := by decide +kernel
theorem dX6_setting_1 : decode cX6_setting 1 = .ok (.iload_n 1, 1) := by decide +kernel
theorem dX6_setting_2 : decode cX6_setting 2 = .ok (.i2l, 1) := by decide +kernel
theorem dX6_setting_3 : decode cX6_setting 3 = .ok (.lconst 0, 1) := by decide +kernel
theorem dX6_setting_4 : decode cX6_setting 4 = .ok (.ldc2_w 184, 3) := by decide +kernel
theorem dX6_setting_7 : decode cX6_setting 7 = .ok (.invokestatic 39, 3) := by decide +kernel
theorem dX6_setting_10 : decode cX6_setting 10 = .ok (.ifCond .eq 7, 3) := by decide +kernel
theorem dX6_setting_13 : decode cX6_setting 13 = .ok (.iconst 0, 1) := by decide +kernel
theorem dX6_setting_14 : decode cX6_setting 14 = .ok (.goto 4, 3) := by decide +kernel
theorem dX6_setting_17 : decode cX6_setting 17 = .ok (.iconst 1, 1) := by decide +kernel
theorem dX6_setting_18 : decode cX6_setting 18 = .ok (.invokevirtual 107, 3) := by decide +kernel
theorem dX6_setting_21 : decode cX6_setting 21 = .ok (.ifCond .eq 5, 3) := by decide +kernel
theorem dX6_setting_24 : decode cX6_setting 24 = .ok (.iconst 0, 1) := by decide +kernel
theorem dX6_setting_25 : decode cX6_setting 25 = .ok (.ireturn, 1) := by decide +kernel
theorem dX6_setting_26 : decode cX6_setting 26 = .ok (.aload_n 0, 1) := by decide +kernel
theorem dX6_setting_27 : decode cX6_setting 27 = .ok (.getfield 13, 3) := by decide +kernel
theorem dX6_setting_30 : decode cX6_setting 30 = .ok (.bipush 12, 2) := by decide +kernel
theorem dX6_setting_32 : decode cX6_setting 32 = .ok (.iload_n 1, 1) := by decide +kernel
theorem dX6_setting_33 : decode cX6_setting 33 = .ok (.iadd, 1) := by decide +kernel
theorem dX6_setting_34 : decode cX6_setting 34 = .ok (.iaload, 1) := by decide +kernel
theorem dX6_setting_35 : decode cX6_setting 35 = .ok (.ireturn, 1) := by decide +kernel
set_option maxRecDepth 20000 in
theorem ggX6_remember_X6_copyState : GoodIn wsX6_remember wsX6_copyState := goodIn_r _ [7] (by decide +kernel) (by decide +kernel)
set_option maxRecDepth 20000 in
theorem gX6_remember_X6_copyState : GoodIn wsX6_remember (va_wsS RX6 158 yX6_copyState wsX6_copyState) := goodIn_app (goodIn_of _ (by decide +kernel)) ggX6_remember_X6_copyState
theorem dX6_remember_0 : decode cX6_remember 0 = .ok (.aload_n 0, 1) := by decide +kernel
theorem dX6_remember_1 : decode cX6_remember 1 = .ok (.getfield 162, 3) := by decide +kernel
theorem dX6_remember_4 : decode cX6_remember 4 = .ok (.bipush 14, 2) := by decide +kernel
theorem dX6_remember_6 : decode cX6_remember 6 = .ok (.if_icmp .ne 44, 3) := by decide +kernel
theorem dX6_remember_9 : decode cX6_remember 9 = .ok (.iconst 0, 1) := by decide +kernel
theorem dX6_remember_10 : decode cX6_remember 10 = .ok (.istore_n 1, 1) := by decide +kernel
theorem dX6_remember_11 : decode cX6_remember 11 = .ok (.iload_n 1, 1) := by decide +kernel
theorem dX6_remember_12 : decode cX6_remember 12 = .ok (.sipush 2821, 3) := by decide +kernel
theorem dX6_remember_15 : decode cX6_remember 15 = .ok (.if_icmp .ge 25, 3) := by decide +kernel
theorem dX6_remember_18 : decode cX6_remember 18 = .ok (.aload_n 0, 1) := by decide +kernel
theorem dX6_remember_19 : decode cX6_remember 19 = .ok (.getfield 19, 3) := by decide +kernel
theorem dX6_remember_22 : decode cX6_remember 22 = .ok (.iload_n 1, 1) := by decide +kernel
theorem dX6_remember_23 : decode cX6_remember 23 = .ok (.aload_n 0, 1) := by decide +kernel
theorem dX6_remember_24 : decode cX6_remember 24 = .ok (.getfield 19, 3) := by decide +kernel
theorem dX6_remember_27 : decode cX6_remember 27 = .ok (.iload_n 1, 1) := by decide +kernel
theorem dX6_remember_28 : decode cX6_remember 28 = .ok (.sipush 217, 3) := by decide +kernel
theorem dX6_remember_31 : decode cX6_remember 31 = .ok (.iadd, 1) := by decide +kernel
theorem dX6_remember_32 : decode cX6_remember 32 = .ok (.iaload, 1) := by decide +kernel
theorem dX6_remember_33 : decode cX6_remember 33 = .ok (.iastore, 1) := by decide +kernel
theorem dX6_remember_34 : decode cX6_remember 34 = .ok (.iinc 1 1, 3) := by decide +kernel
theorem dX6_remember_37 : decode cX6_remember 37 = .ok (.goto (-26), 3) := by decide +kernel
theorem dX6_remember_40 : decode cX6_remember 40 = .ok (.aload_n 0, 1) := by decide +kernel
theorem dX6_remember_41 : decode cX6_remember 41 = .ok (.dup, 1) := by decide +kernel
theorem dX6_remember_42 : decode cX6_remember 42 = .ok (.getfield 162, 3) := by decide +kernel
theorem dX6_remember_45 : decode cX6_remember 45 = .ok (.iconst 1, 1) := by decide +kernel
theorem dX6_remember_46 : decode cX6_remember 46 = .ok (.isub, 1) := by decide +kernel
theorem dX6_remember_47 : decode cX6_remember 47 = .ok (.putfield 162, 3) := by decide +kernel
theorem dX6_remember_50 : decode cX6_remember 50 = .ok (.aload_n 0, 1) := by decide +kernel
theorem dX6_remember_51 : decode cX6_remember 51 = .ok (.getfield 13, 3) := by decide +kernel
theorem dX6_remember_54 : decode cX6_remember 54 = .ok (.iconst 0, 1) := by decide +kernel
theorem dX6_remember_55 : decode cX6_remember 55 = .ok (.aload_n 0, 1) := by decide +kernel
theorem dX6_remember_56 : decode cX6_remember 56 = .ok (.getfield 19, 3) := by decide +kernel
theorem dX6_remember_59 : decode cX6_remember 59 = .ok (.sipush 217, 3) := by decide +kernel
theorem dX6_remember_62 : decode cX6_remember 62 = .ok (.aload_n 0, 1) := by decide +kernel
theorem dX6_remember_63 : decode cX6_remember 63 = .ok (.getfield 162, 3) := by decide +kernel
theorem dX6_remember_66 : decode cX6_remember 66 = .ok (.imul, 1) := by decide +kernel
theorem dX6_remember_67 : decode cX6_remember 67 = .ok (.invokestatic 158, 3) := by decide +kernel
theorem dX6_remember_70 : decode cX6_remember 70 = .ok (.aload_n 0, 1) := by decide +kernel
theorem dX6_remember_71 : decode cX6_remember 71 = .ok (.dup, 1) := by decide +kernel
theorem dX6_remember_72 : decode cX6_remember 72 = .ok (.getfield 162, 3) := by decide +kernel
theorem dX6_remember_75 : decode cX6_remember 75 = .ok (.iconst 1, 1) := by decide +kernel
theorem dX6_remember_76 : decode cX6_remember 76 = .ok (.iadd, 1) := by decide +kernel
theorem dX6_remember_77 : decode cX6_remember 77 = .ok (.putfield 162, 3) := by decide +kernel
theorem dX6_remember_80 : decode cX6_remember 80 = .ok (.return_, 1) := by decide +kernel
set_option maxRecDepth 20000 in
theorem ggX6_put_X6_isPipe : GoodIn wsX6_put wsX6_isPipe := goodIn_r _ [6, 7, 8, 9, 5, 10] (by decide +kernel) (by decide +kernel)
set_option maxRecDepth 20000 in
theorem gX6_put_X6_isPipe : GoodIn wsX6_put (va_wsS RX6 172 yX6_isPipe wsX6_isPipe) := goodIn_app (goodIn_of _ (by decide +kernel)) ggX6_put_X6_isPipe
set_option maxRecDepth 20000 in
theorem ggX6_put_X6_isBar : GoodIn wsX6_put wsX6_isBar := goodIn_r _ [13, 14, 8, 9, 5, 10] (by decide +kernel) (by decide +kernel)
set_option maxRecDepth 20000 in
theorem gX6_put_X6_isBar : GoodIn wsX6_put (va_wsS RX6 178 yX6_isBar wsX6_isBar) := goodIn_app (goodIn_of _ (by decide +kernel)) ggX6_put_X6_isBar
set_option maxRecDepth 20000 in
theorem ggX6_put_X6_in : GoodIn wsX6_put wsX6_in := goodIn_r _ [10] (by decide +kernel) (by decide +kernel)
set_option maxRecDepth 20000 in
theorem gX6_put_X6_in : GoodIn wsX6_put (va_wsS RX6 39 yX6_in wsX6_in) := goodIn_app (goodIn_of _ (by decide +kernel)) ggX6_put_X6_in
set_option maxRecDepth 20000 in
theorem ggX6_put_X6_refused : GoodIn wsX6_put wsX6_refused := goodIn_r _ [18, 19, 32, 33, 34, 35, 36, 37, 38, 39, 40, 41, 42] (by decide +kernel) (by decide +kernel)
set_option maxRecDepth 20000 in
theorem gX6_put_X6_refused : GoodIn wsX6_put (wsV RX6 107 RX6 yX6_refused wsX6_refused) := goodIn_app (goodIn_of _ (by decide +kernel)) ggX6_put_X6_refused
set_option maxRecDepth 20000 in
theorem ggX6_put_X6_remember : GoodIn wsX6_put wsX6_remember := goodIn_r _ [23, 24, 25, 2, 26, 27, 5, 28, 32, 33, 34, 35, 36, 37, 38, 39, 40, 41, 42] (by decide +kernel) (by decide +kernel)
set_option maxRecDepth 20000 in
theorem gX6_put_X6_remember : GoodIn wsX6_put (wsV RX6 188 RX6 yX6_remember wsX6_remember) := goodIn_app (goodIn_of _ (by decide +kernel)) ggX6_put_X6_remember
set_option maxRecDepth 20000 in
theorem ggX6_put_X6_orderOn : GoodIn wsX6_put wsX6_orderOn := goodIn_r _ [31] (by decide +kernel) (by decide +kernel)
set_option maxRecDepth 20000 in
theorem gX6_put_X6_orderOn : GoodIn wsX6_put (va_wsS RX6 121 yX6_orderOn wsX6_orderOn) := goodIn_app (goodIn_of _ (by decide +kernel)) ggX6_put_X6_orderOn
theorem dX6_put_0 : decode cX6_put 0 = .ok (.aload_n 0, 1) := by decide +kernel
theorem dX6_put_1 : decode cX6_put 1 = .ok (.iload_n 1, 1) := by decide +kernel
theorem dX6_put_2 : decode cX6_put 2 = .ok (.invokestatic 172, 3) := by decide +kernel
theorem dX6_put_5 : decode cX6_put 5 = .ok (.ifCond .eq 10, 3) := by decide +kernel
theorem dX6_put_8 : decode cX6_put 8 = .ok (.iload_n 2, 1) := by decide +kernel
theorem dX6_put_9 : decode cX6_put 9 = .ok (.invokestatic 178, 3) := by decide +kernel
theorem dX6_put_12 : decode cX6_put 12 = .ok (.ifCond .ne 7, 3) := by decide +kernel
theorem dX6_put_15 : decode cX6_put 15 = .ok (.iconst 1, 1) := by decide +kernel
theorem dX6_put_16 : decode cX6_put 16 = .ok (.goto 35, 3) := by decide +kernel
theorem dX6_put_19 : decode cX6_put 19 = .ok (.iload_n 3, 1) := by decide +kernel
theorem dX6_put_20 : decode cX6_put 20 = .ok (.i2l, 1) := by decide +kernel
theorem dX6_put_21 : decode cX6_put 21 = .ok (.lconst 1, 1) := by decide +kernel
theorem dX6_put_22 : decode cX6_put 22 = .ok (.ldc2_w 186, 3) := by decide +kernel
theorem dX6_put_25 : decode cX6_put 25 = .ok (.invokestatic 39, 3) := by decide +kernel
theorem dX6_put_28 : decode cX6_put 28 = .ok (.ifCond .ne 7, 3) := by decide +kernel
theorem dX6_put_31 : decode cX6_put 31 = .ok (.iconst 2, 1) := by decide +kernel
theorem dX6_put_32 : decode cX6_put 32 = .ok (.goto 19, 3) := by decide +kernel
theorem dX6_put_35 : decode cX6_put 35 = .ok (.aload_n 0, 1) := by decide +kernel
theorem dX6_put_36 : decode cX6_put 36 = .ok (.getfield 13, 3) := by decide +kernel
theorem dX6_put_39 : decode cX6_put 39 = .ok (.iconst 1, 1) := by decide +kernel
theorem dX6_put_40 : decode cX6_put 40 = .ok (.iaload, 1) := by decide +kernel
theorem dX6_put_41 : decode cX6_put 41 = .ok (.bipush 12, 2) := by decide +kernel
theorem dX6_put_43 : decode cX6_put 43 = .ok (.if_icmp .ge 7, 3) := by decide +kernel
theorem dX6_put_46 : decode cX6_put 46 = .ok (.iconst 0, 1) := by decide +kernel
theorem dX6_put_47 : decode cX6_put 47 = .ok (.goto 4, 3) := by decide +kernel
theorem dX6_put_50 : decode cX6_put 50 = .ok (.iconst 3, 1) := by decide +kernel
theorem dX6_put_51 : decode cX6_put 51 = .ok (.invokevirtual 107, 3) := by decide +kernel
theorem dX6_put_54 : decode cX6_put 54 = .ok (.ifCond .eq 5, 3) := by decide +kernel
theorem dX6_put_57 : decode cX6_put 57 = .ok (.iconst 0, 1) := by decide +kernel
theorem dX6_put_58 : decode cX6_put 58 = .ok (.ireturn, 1) := by decide +kernel
theorem dX6_put_59 : decode cX6_put 59 = .ok (.aload_n 0, 1) := by decide +kernel
theorem dX6_put_60 : decode cX6_put 60 = .ok (.invokevirtual 188, 3) := by decide +kernel
theorem dX6_put_63 : decode cX6_put 63 = .ok (.aload_n 0, 1) := by decide +kernel
theorem dX6_put_64 : decode cX6_put 64 = .ok (.getfield 13, 3) := by decide +kernel
theorem dX6_put_67 : decode cX6_put 67 = .ok (.iconst 1, 1) := by decide +kernel
theorem dX6_put_68 : decode cX6_put 68 = .ok (.iload_n 1, 1) := by decide +kernel
theorem dX6_put_69 : decode cX6_put 69 = .ok (.iload_n 2, 1) := by decide +kernel
theorem dX6_put_70 : decode cX6_put 70 = .ok (.iload_n 3, 1) := by decide +kernel
theorem dX6_put_71 : decode cX6_put 71 = .ok (.invokestatic 121, 3) := by decide +kernel
theorem dX6_put_74 : decode cX6_put 74 = .ok (.ireturn, 1) := by decide +kernel
set_option maxRecDepth 20000 in
theorem ggX6_pull_X6_isPipe : GoodIn wsX6_pull wsX6_isPipe := goodIn_r _ [5, 6, 7, 8, 4, 9] (by decide +kernel) (by decide +kernel)
set_option maxRecDepth 20000 in
theorem gX6_pull_X6_isPipe : GoodIn wsX6_pull (va_wsS RX6 172 yX6_isPipe wsX6_isPipe) := goodIn_app (goodIn_of _ (by decide +kernel)) ggX6_pull_X6_isPipe
set_option maxRecDepth 20000 in
theorem ggX6_pull_X6_isBar : GoodIn wsX6_pull wsX6_isBar := goodIn_r _ [12, 13, 7, 8, 4, 9] (by decide +kernel) (by decide +kernel)
set_option maxRecDepth 20000 in
theorem gX6_pull_X6_isBar : GoodIn wsX6_pull (va_wsS RX6 178 yX6_isBar wsX6_isBar) := goodIn_app (goodIn_of _ (by decide +kernel)) ggX6_pull_X6_isBar
set_option maxRecDepth 20000 in
theorem ggX6_pull_X6_refused : GoodIn wsX6_pull wsX6_refused := goodIn_r _ [17, 18, 31, 32, 33, 34, 35, 36, 37, 38, 39, 40, 41] (by decide +kernel) (by decide +kernel)
set_option maxRecDepth 20000 in
theorem gX6_pull_X6_refused : GoodIn wsX6_pull (wsV RX6 107 RX6 yX6_refused wsX6_refused) := goodIn_app (goodIn_of _ (by decide +kernel)) ggX6_pull_X6_refused
set_option maxRecDepth 20000 in
theorem ggX6_pull_X6_remember : GoodIn wsX6_pull wsX6_remember := goodIn_r _ [22, 23, 24, 1, 25, 26, 4, 27, 31, 32, 33, 34, 35, 36, 37, 38, 39, 40, 41] (by decide +kernel) (by decide +kernel)
set_option maxRecDepth 20000 in
theorem gX6_pull_X6_remember : GoodIn wsX6_pull (wsV RX6 188 RX6 yX6_remember wsX6_remember) := goodIn_app (goodIn_of _ (by decide +kernel)) ggX6_pull_X6_remember
set_option maxRecDepth 20000 in
theorem ggX6_pull_X6_orderOn : GoodIn wsX6_pull wsX6_orderOn := goodIn_r _ [30] (by decide +kernel) (by decide +kernel)
set_option maxRecDepth 20000 in
theorem gX6_pull_X6_orderOn : GoodIn wsX6_pull (va_wsS RX6 121 yX6_orderOn wsX6_orderOn) := goodIn_app (goodIn_of _ (by decide +kernel)) ggX6_pull_X6_orderOn
theorem dX6_pull_0 : decode cX6_pull 0 = .ok (.aload_n 0, 1) := by decide +kernel
theorem dX6_pull_1 : decode cX6_pull 1 = .ok (.iload_n 1, 1) := by decide +kernel
theorem dX6_pull_2 : decode cX6_pull 2 = .ok (.invokestatic 172, 3) := by decide +kernel
theorem dX6_pull_5 : decode cX6_pull 5 = .ok (.ifCond .eq 10, 3) := by decide +kernel
theorem dX6_pull_8 : decode cX6_pull 8 = .ok (.iload_n 2, 1) := by decide +kernel
theorem dX6_pull_9 : decode cX6_pull 9 = .ok (.invokestatic 178, 3) := by decide +kernel
theorem dX6_pull_12 : decode cX6_pull 12 = .ok (.ifCond .ne 7, 3) := by decide +kernel
theorem dX6_pull_15 : decode cX6_pull 15 = .ok (.iconst 1, 1) := by decide +kernel
theorem dX6_pull_16 : decode cX6_pull 16 = .ok (.goto 19, 3) := by decide +kernel
theorem dX6_pull_19 : decode cX6_pull 19 = .ok (.aload_n 0, 1) := by decide +kernel
theorem dX6_pull_20 : decode cX6_pull 20 = .ok (.getfield 13, 3) := by decide +kernel
theorem dX6_pull_23 : decode cX6_pull 23 = .ok (.iconst 1, 1) := by decide +kernel
theorem dX6_pull_24 : decode cX6_pull 24 = .ok (.iaload, 1) := by decide +kernel
theorem dX6_pull_25 : decode cX6_pull 25 = .ok (.bipush 12, 2) := by decide +kernel
theorem dX6_pull_27 : decode cX6_pull 27 = .ok (.if_icmp .ge 7, 3) := by decide +kernel
theorem dX6_pull_30 : decode cX6_pull 30 = .ok (.iconst 0, 1) := by decide +kernel
theorem dX6_pull_31 : decode cX6_pull 31 = .ok (.goto 4, 3) := by decide +kernel
theorem dX6_pull_34 : decode cX6_pull 34 = .ok (.iconst 2, 1) := by decide +kernel
theorem dX6_pull_35 : decode cX6_pull 35 = .ok (.invokevirtual 107, 3) := by decide +kernel
theorem dX6_pull_38 : decode cX6_pull 38 = .ok (.ifCond .eq 5, 3) := by decide +kernel
theorem dX6_pull_41 : decode cX6_pull 41 = .ok (.iconst 0, 1) := by decide +kernel
theorem dX6_pull_42 : decode cX6_pull 42 = .ok (.ireturn, 1) := by decide +kernel
theorem dX6_pull_43 : decode cX6_pull 43 = .ok (.aload_n 0, 1) := by decide +kernel
theorem dX6_pull_44 : decode cX6_pull 44 = .ok (.invokevirtual 188, 3) := by decide +kernel
theorem dX6_pull_47 : decode cX6_pull 47 = .ok (.aload_n 0, 1) := by decide +kernel
theorem dX6_pull_48 : decode cX6_pull 48 = .ok (.getfield 13, 3) := by decide +kernel
theorem dX6_pull_51 : decode cX6_pull 51 = .ok (.iconst 0, 1) := by decide +kernel
theorem dX6_pull_52 : decode cX6_pull 52 = .ok (.iload_n 1, 1) := by decide +kernel
theorem dX6_pull_53 : decode cX6_pull 53 = .ok (.iload_n 2, 1) := by decide +kernel
theorem dX6_pull_54 : decode cX6_pull 54 = .ok (.iconst 0, 1) := by decide +kernel
theorem dX6_pull_55 : decode cX6_pull 55 = .ok (.invokestatic 121, 3) := by decide +kernel
theorem dX6_pull_58 : decode cX6_pull 58 = .ok (.ireturn, 1) := by decide +kernel
set_option maxRecDepth 20000 in
theorem ggX6_cancel_X6_isOrder : GoodIn wsX6_cancel wsX6_isOrder := goodIn_r _ [5, 6, 7, 4, 8] (by decide +kernel) (by decide +kernel)
set_option maxRecDepth 20000 in
theorem gX6_cancel_X6_isOrder : GoodIn wsX6_cancel (va_wsS RX6 144 yX6_isOrder wsX6_isOrder) := goodIn_app (goodIn_of _ (by decide +kernel)) ggX6_cancel_X6_isOrder
set_option maxRecDepth 20000 in
theorem ggX6_cancel_X6_refused : GoodIn wsX6_cancel wsX6_refused := goodIn_r _ [12, 13, 29, 30, 31, 32, 33, 34, 35, 36, 37, 38, 39] (by decide +kernel) (by decide +kernel)
set_option maxRecDepth 20000 in
theorem gX6_cancel_X6_refused : GoodIn wsX6_cancel (wsV RX6 107 RX6 yX6_refused wsX6_refused) := goodIn_app (goodIn_of _ (by decide +kernel)) ggX6_cancel_X6_refused
set_option maxRecDepth 20000 in
theorem ggX6_cancel_X6_remember : GoodIn wsX6_cancel wsX6_remember := goodIn_r _ [17, 18, 19, 1, 20, 21, 4, 22, 29, 30, 31, 32, 33, 34, 35, 36, 37, 38, 39] (by decide +kernel) (by decide +kernel)
set_option maxRecDepth 20000 in
theorem gX6_cancel_X6_remember : GoodIn wsX6_cancel (wsV RX6 188 RX6 yX6_remember wsX6_remember) := goodIn_app (goodIn_of _ (by decide +kernel)) ggX6_cancel_X6_remember
set_option maxRecDepth 20000 in
theorem ggX6_cancel_X6_cancelOn : GoodIn wsX6_cancel wsX6_cancelOn := goodIn_r _ [25, 26, 27, 4, 28] (by decide +kernel) (by decide +kernel)
set_option maxRecDepth 20000 in
theorem gX6_cancel_X6_cancelOn : GoodIn wsX6_cancel (va_wsS RX6 147 yX6_cancelOn wsX6_cancelOn) := goodIn_app (goodIn_of _ (by decide +kernel)) ggX6_cancel_X6_cancelOn
theorem dX6_cancel_0 : decode cX6_cancel 0 = .ok (.aload_n 0, 1) := by decide +kernel
theorem dX6_cancel_1 : decode cX6_cancel 1 = .ok (.aload_n 0, 1) := by decide +kernel
theorem dX6_cancel_2 : decode cX6_cancel 2 = .ok (.getfield 13, 3) := by decide +kernel
theorem dX6_cancel_5 : decode cX6_cancel 5 = .ok (.iload_n 1, 1) := by decide +kernel
theorem dX6_cancel_6 : decode cX6_cancel 6 = .ok (.invokestatic 144, 3) := by decide +kernel
theorem dX6_cancel_9 : decode cX6_cancel 9 = .ok (.ifCond .eq 7, 3) := by decide +kernel
theorem dX6_cancel_12 : decode cX6_cancel 12 = .ok (.iconst 0, 1) := by decide +kernel
theorem dX6_cancel_13 : decode cX6_cancel 13 = .ok (.goto 4, 3) := by decide +kernel
theorem dX6_cancel_16 : decode cX6_cancel 16 = .ok (.iconst 1, 1) := by decide +kernel
theorem dX6_cancel_17 : decode cX6_cancel 17 = .ok (.invokevirtual 107, 3) := by decide +kernel
theorem dX6_cancel_20 : decode cX6_cancel 20 = .ok (.ifCond .eq 5, 3) := by decide +kernel
theorem dX6_cancel_23 : decode cX6_cancel 23 = .ok (.iconst 0, 1) := by decide +kernel
theorem dX6_cancel_24 : decode cX6_cancel 24 = .ok (.ireturn, 1) := by decide +kernel
theorem dX6_cancel_25 : decode cX6_cancel 25 = .ok (.aload_n 0, 1) := by decide +kernel
theorem dX6_cancel_26 : decode cX6_cancel 26 = .ok (.invokevirtual 188, 3) := by decide +kernel
theorem dX6_cancel_29 : decode cX6_cancel 29 = .ok (.aload_n 0, 1) := by decide +kernel
theorem dX6_cancel_30 : decode cX6_cancel 30 = .ok (.getfield 13, 3) := by decide +kernel
theorem dX6_cancel_33 : decode cX6_cancel 33 = .ok (.iload_n 1, 1) := by decide +kernel
theorem dX6_cancel_34 : decode cX6_cancel 34 = .ok (.invokestatic 147, 3) := by decide +kernel
theorem dX6_cancel_37 : decode cX6_cancel 37 = .ok (.ireturn, 1) := by decide +kernel
set_option maxRecDepth 20000 in
theorem ggX6_ticks_X6_in : GoodIn wsX6_ticks wsX6_in := goodIn_r _ [6] (by decide +kernel) (by decide +kernel)
set_option maxRecDepth 20000 in
theorem gX6_ticks_X6_in : GoodIn wsX6_ticks (va_wsS RX6 39 yX6_in wsX6_in) := goodIn_app (goodIn_of _ (by decide +kernel)) ggX6_ticks_X6_in
set_option maxRecDepth 20000 in
theorem ggX6_ticks_X6_refused : GoodIn wsX6_ticks wsX6_refused := goodIn_r _ [10, 11, 69, 70, 71, 72, 73, 74, 75, 76, 77, 78, 79] (by decide +kernel) (by decide +kernel)
set_option maxRecDepth 20000 in
theorem gX6_ticks_X6_refused : GoodIn wsX6_ticks (wsV RX6 107 RX6 yX6_refused wsX6_refused) := goodIn_app (goodIn_of _ (by decide +kernel)) ggX6_ticks_X6_refused
set_option maxRecDepth 20000 in
theorem ggX6_ticks_X6_remember : GoodIn wsX6_ticks wsX6_remember := goodIn_r _ [15, 16, 17, 2, 18, 19, 5, 20, 69, 70, 71, 72, 73, 74, 75, 76, 77, 78, 79] (by decide +kernel) (by decide +kernel)
set_option maxRecDepth 20000 in
theorem gX6_ticks_X6_remember : GoodIn wsX6_ticks (wsV RX6 188 RX6 yX6_remember wsX6_remember) := goodIn_app (goodIn_of _ (by decide +kernel)) ggX6_ticks_X6_remember
set_option maxRecDepth 20000 in
theorem ggX6_ticks_X6_ticksOn : GoodIn wsX6_ticks wsX6_ticksOn := goodIn_r _ [23, 24, 25, 5, 26, 27, 28, 29, 30, 31, 32, 33, 34, 35, 36, 37, 38, 39, 40, 41, 42, 43, 44, 45, 46, 47, 48, 49, 50, 51, 52, 53, 54, 55, 56, 57, 58, 59, 60, 61, 62, 63, 64, 65, 66, 67, 68] (by decide +kernel) (by decide +kernel)
set_option maxRecDepth 20000 in
theorem gX6_ticks_X6_ticksOn : GoodIn wsX6_ticks (va_wsS RX6 140 yX6_ticksOn wsX6_ticksOn) := goodIn_app (goodIn_of _ (by decide +kernel)) ggX6_ticks_X6_ticksOn
theorem dX6_ticks_0 : decode cX6_ticks 0 = .ok (.aload_n 0, 1) := by decide +kernel
theorem dX6_ticks_1 : decode cX6_ticks 1 = .ok (.iload_n 1, 1) := by decide +kernel
theorem dX6_ticks_2 : decode cX6_ticks 2 = .ok (.i2l, 1) := by decide +kernel
theorem dX6_ticks_3 : decode cX6_ticks 3 = .ok (.lconst 1, 1) := by decide +kernel
theorem dX6_ticks_4 : decode cX6_ticks 4 = .ok (.ldc2_w 191, 3) := by decide +kernel
theorem dX6_ticks_7 : decode cX6_ticks 7 = .ok (.invokestatic 39, 3) := by decide +kernel
theorem dX6_ticks_10 : decode cX6_ticks 10 = .ok (.ifCond .eq 7, 3) := by decide +kernel
theorem dX6_ticks_13 : decode cX6_ticks 13 = .ok (.iconst 0, 1) := by decide +kernel
theorem dX6_ticks_14 : decode cX6_ticks 14 = .ok (.goto 4, 3) := by decide +kernel
theorem dX6_ticks_17 : decode cX6_ticks 17 = .ok (.iconst 1, 1) := by decide +kernel
theorem dX6_ticks_18 : decode cX6_ticks 18 = .ok (.invokevirtual 107, 3) := by decide +kernel
theorem dX6_ticks_21 : decode cX6_ticks 21 = .ok (.ifCond .eq 5, 3) := by decide +kernel
theorem dX6_ticks_24 : decode cX6_ticks 24 = .ok (.iconst 0, 1) := by decide +kernel
theorem dX6_ticks_25 : decode cX6_ticks 25 = .ok (.ireturn, 1) := by decide +kernel
theorem dX6_ticks_26 : decode cX6_ticks 26 = .ok (.aload_n 0, 1) := by decide +kernel
theorem dX6_ticks_27 : decode cX6_ticks 27 = .ok (.invokevirtual 188, 3) := by decide +kernel
theorem dX6_ticks_30 : decode cX6_ticks 30 = .ok (.aload_n 0, 1) := by decide +kernel
theorem dX6_ticks_31 : decode cX6_ticks 31 = .ok (.getfield 13, 3) := by decide +kernel
theorem dX6_ticks_34 : decode cX6_ticks 34 = .ok (.iload_n 1, 1) := by decide +kernel
theorem dX6_ticks_35 : decode cX6_ticks 35 = .ok (.invokestatic 140, 3) := by decide +kernel
theorem dX6_ticks_38 : decode cX6_ticks 38 = .ok (.ireturn, 1) := by decide +kernel
set_option maxRecDepth 20000 in
theorem ggX6_set_X6_isSetting : GoodIn wsX6_set wsX6_isSetting := goodIn_r _ [5, 6, 7, 8, 9, 10, 4, 11] (by decide +kernel) (by decide +kernel)
set_option maxRecDepth 20000 in
theorem gX6_set_X6_isSetting : GoodIn wsX6_set (va_wsS RX6 133 yX6_isSetting wsX6_isSetting) := goodIn_app (goodIn_of _ (by decide +kernel)) ggX6_set_X6_isSetting
set_option maxRecDepth 20000 in
theorem ggX6_set_X6_refused : GoodIn wsX6_set wsX6_refused := goodIn_r _ [15, 16, 29, 30, 31, 32, 33, 34, 35, 36, 37, 38, 39] (by decide +kernel) (by decide +kernel)
set_option maxRecDepth 20000 in
theorem gX6_set_X6_refused : GoodIn wsX6_set (wsV RX6 107 RX6 yX6_refused wsX6_refused) := goodIn_app (goodIn_of _ (by decide +kernel)) ggX6_set_X6_refused
set_option maxRecDepth 20000 in
theorem ggX6_set_X6_remember : GoodIn wsX6_set wsX6_remember := goodIn_r _ [20, 21, 22, 1, 23, 24, 4, 25, 29, 30, 31, 32, 33, 34, 35, 36, 37, 38, 39] (by decide +kernel) (by decide +kernel)
set_option maxRecDepth 20000 in
theorem gX6_set_X6_remember : GoodIn wsX6_set (wsV RX6 188 RX6 yX6_remember wsX6_remember) := goodIn_app (goodIn_of _ (by decide +kernel)) ggX6_set_X6_remember
set_option maxRecDepth 20000 in
theorem ggX6_set_X6_change : GoodIn wsX6_set wsX6_change := goodIn_r _ [28] (by decide +kernel) (by decide +kernel)
set_option maxRecDepth 20000 in
theorem gX6_set_X6_change : GoodIn wsX6_set (va_wsS RX6 137 yX6_change wsX6_change) := goodIn_app (goodIn_of _ (by decide +kernel)) ggX6_set_X6_change
theorem dX6_set_0 : decode cX6_set 0 = .ok (.aload_n 0, 1) := by decide +kernel
theorem dX6_set_1 : decode cX6_set 1 = .ok (.iload_n 1, 1) := by decide +kernel
theorem dX6_set_2 : decode cX6_set 2 = .ok (.iload_n 2, 1) := by decide +kernel
theorem dX6_set_3 : decode cX6_set 3 = .ok (.invokestatic 133, 3) := by decide +kernel
theorem dX6_set_6 : decode cX6_set 6 = .ok (.ifCond .eq 7, 3) := by decide +kernel
theorem dX6_set_9 : decode cX6_set 9 = .ok (.iconst 0, 1) := by decide +kernel
theorem dX6_set_10 : decode cX6_set 10 = .ok (.goto 4, 3) := by decide +kernel
theorem dX6_set_13 : decode cX6_set 13 = .ok (.iconst 1, 1) := by decide +kernel
theorem dX6_set_14 : decode cX6_set 14 = .ok (.invokevirtual 107, 3) := by decide +kernel
theorem dX6_set_17 : decode cX6_set 17 = .ok (.ifCond .eq 5, 3) := by decide +kernel
theorem dX6_set_20 : decode cX6_set 20 = .ok (.iconst 0, 1) := by decide +kernel
theorem dX6_set_21 : decode cX6_set 21 = .ok (.ireturn, 1) := by decide +kernel
theorem dX6_set_22 : decode cX6_set 22 = .ok (.aload_n 0, 1) := by decide +kernel
theorem dX6_set_23 : decode cX6_set 23 = .ok (.invokevirtual 188, 3) := by decide +kernel
theorem dX6_set_26 : decode cX6_set 26 = .ok (.aload_n 0, 1) := by decide +kernel
theorem dX6_set_27 : decode cX6_set 27 = .ok (.getfield 13, 3) := by decide +kernel
theorem dX6_set_30 : decode cX6_set 30 = .ok (.iload_n 1, 1) := by decide +kernel
theorem dX6_set_31 : decode cX6_set 31 = .ok (.iload_n 2, 1) := by decide +kernel
theorem dX6_set_32 : decode cX6_set 32 = .ok (.invokestatic 137, 3) := by decide +kernel
theorem dX6_set_35 : decode cX6_set 35 = .ok (.ireturn, 1) := by decide +kernel
set_option maxRecDepth 20000 in
theorem ggX6_undo_X6_refused : GoodIn wsX6_undo wsX6_refused := goodIn_r _ [8, 9, 13, 14, 15, 16, 17, 18, 19, 20, 21, 22, 23] (by decide +kernel) (by decide +kernel)
set_option maxRecDepth 20000 in
theorem gX6_undo_X6_refused : GoodIn wsX6_undo (wsV RX6 107 RX6 yX6_refused wsX6_refused) := goodIn_app (goodIn_of _ (by decide +kernel)) ggX6_undo_X6_refused
set_option maxRecDepth 20000 in
theorem ggX6_undo_X6_copyState : GoodIn wsX6_undo wsX6_copyState := goodIn_r _ [12] (by decide +kernel) (by decide +kernel)
set_option maxRecDepth 20000 in
theorem gX6_undo_X6_copyState : GoodIn wsX6_undo (va_wsS RX6 158 yX6_copyState wsX6_copyState) := goodIn_app (goodIn_of _ (by decide +kernel)) ggX6_undo_X6_copyState
theorem dX6_undo_0 : decode cX6_undo 0 = .ok (.aload_n 0, 1) := by decide +kernel
theorem dX6_undo_1 : decode cX6_undo 1 = .ok (.aload_n 0, 1) := by decide +kernel
theorem dX6_undo_2 : decode cX6_undo 2 = .ok (.getfield 162, 3) := by decide +kernel
theorem dX6_undo_5 : decode cX6_undo 5 = .ok (.ifCond .ne 7, 3) := by decide +kernel
theorem dX6_undo_8 : decode cX6_undo 8 = .ok (.iconst 1, 1) := by decide +kernel
theorem dX6_undo_9 : decode cX6_undo 9 = .ok (.goto 4, 3) := by decide +kernel
theorem dX6_undo_12 : decode cX6_undo 12 = .ok (.iconst 0, 1) := by decide +kernel
theorem dX6_undo_13 : decode cX6_undo 13 = .ok (.invokevirtual 107, 3) := by decide +kernel
theorem dX6_undo_16 : decode cX6_undo 16 = .ok (.ifCond .eq 5, 3) := by decide +kernel
theorem dX6_undo_19 : decode cX6_undo 19 = .ok (.iconst 0, 1) := by decide +kernel
theorem dX6_undo_20 : decode cX6_undo 20 = .ok (.ireturn, 1) := by decide +kernel
theorem dX6_undo_21 : decode cX6_undo 21 = .ok (.aload_n 0, 1) := by decide +kernel
theorem dX6_undo_22 : decode cX6_undo 22 = .ok (.dup, 1) := by decide +kernel
theorem dX6_undo_23 : decode cX6_undo 23 = .ok (.getfield 162, 3) := by decide +kernel
theorem dX6_undo_26 : decode cX6_undo 26 = .ok (.iconst 1, 1) := by decide +kernel
theorem dX6_undo_27 : decode cX6_undo 27 = .ok (.isub, 1) := by decide +kernel
theorem dX6_undo_28 : decode cX6_undo 28 = .ok (.putfield 162, 3) := by decide +kernel
theorem dX6_undo_31 : decode cX6_undo 31 = .ok (.aload_n 0, 1) := by decide +kernel
theorem dX6_undo_32 : decode cX6_undo 32 = .ok (.getfield 19, 3) := by decide +kernel
theorem dX6_undo_35 : decode cX6_undo 35 = .ok (.sipush 217, 3) := by decide +kernel
theorem dX6_undo_38 : decode cX6_undo 38 = .ok (.aload_n 0, 1) := by decide +kernel
theorem dX6_undo_39 : decode cX6_undo 39 = .ok (.getfield 162, 3) := by decide +kernel
theorem dX6_undo_42 : decode cX6_undo 42 = .ok (.imul, 1) := by decide +kernel
theorem dX6_undo_43 : decode cX6_undo 43 = .ok (.aload_n 0, 1) := by decide +kernel
theorem dX6_undo_44 : decode cX6_undo 44 = .ok (.getfield 13, 3) := by decide +kernel
theorem dX6_undo_47 : decode cX6_undo 47 = .ok (.iconst 0, 1) := by decide +kernel
theorem dX6_undo_48 : decode cX6_undo 48 = .ok (.invokestatic 158, 3) := by decide +kernel
theorem dX6_undo_51 : decode cX6_undo 51 = .ok (.aload_n 0, 1) := by decide +kernel
theorem dX6_undo_52 : decode cX6_undo 52 = .ok (.getfield 162, 3) := by decide +kernel
theorem dX6_undo_55 : decode cX6_undo 55 = .ok (.ireturn, 1) := by decide +kernel
set_option maxRecDepth 20000 in
theorem ggX6_doneIn_X6_isOrder : GoodIn wsX6_doneIn wsX6_isOrder := goodIn_r _ [6, 7, 8, 5, 9] (by decide +kernel) (by decide +kernel)
set_option maxRecDepth 20000 in
theorem gX6_doneIn_X6_isOrder : GoodIn wsX6_doneIn (va_wsS RX6 144 yX6_isOrder wsX6_isOrder) := goodIn_app (goodIn_of _ (by decide +kernel)) ggX6_doneIn_X6_isOrder
set_option maxRecDepth 20000 in
theorem ggX6_doneIn_X6_refused : GoodIn wsX6_doneIn wsX6_refused := goodIn_r _ [13, 14, 63, 64, 65, 66, 67, 68, 69, 70, 71, 72, 73] (by decide +kernel) (by decide +kernel)
set_option maxRecDepth 20000 in
theorem gX6_doneIn_X6_refused : GoodIn wsX6_doneIn (wsV RX6 107 RX6 yX6_refused wsX6_refused) := goodIn_app (goodIn_of _ (by decide +kernel)) ggX6_doneIn_X6_refused
set_option maxRecDepth 20000 in
theorem ggX6_doneIn_X6_copyState : GoodIn wsX6_doneIn wsX6_copyState := goodIn_r _ [17] (by decide +kernel) (by decide +kernel)
set_option maxRecDepth 20000 in
theorem gX6_doneIn_X6_copyState : GoodIn wsX6_doneIn (va_wsS RX6 158 yX6_copyState wsX6_copyState) := goodIn_app (goodIn_of _ (by decide +kernel)) ggX6_doneIn_X6_copyState
set_option maxRecDepth 20000 in
theorem ggX6_doneIn_X6_tick : GoodIn wsX6_doneIn wsX6_tick := goodIn_r _ [20, 21, 22, 5, 23, 24, 25, 26, 27, 28, 29, 30, 31, 32, 33, 34, 35, 36, 37, 38, 39, 40, 41, 42, 43, 44, 45, 46, 47, 48, 49, 50, 51, 52, 53, 54, 55, 56, 57, 58, 59, 60, 61, 62] (by decide +kernel) (by decide +kernel)
set_option maxRecDepth 20000 in
theorem gX6_doneIn_X6_tick : GoodIn wsX6_doneIn (va_wsS RX6 99 yX6_tick wsX6_tick) := goodIn_app (goodIn_of _ (by decide +kernel)) ggX6_doneIn_X6_tick
set_option maxRecDepth 20000 in
theorem ggX6_doneIn_X6_order : GoodIn wsX6_doneIn wsX6_order := goodIn_r _ [29] (by decide +kernel) (by decide +kernel)
set_option maxRecDepth 20000 in
theorem gX6_doneIn_X6_order : GoodIn wsX6_doneIn (va_wsS RX6 63 yX6_order wsX6_order) := goodIn_app (goodIn_of _ (by decide +kernel)) ggX6_doneIn_X6_order
theorem dX6_doneIn_0 : decode cX6_doneIn 0 = .ok (.aload_n 0, 1) := by decide +kernel
theorem dX6_doneIn_1 : decode cX6_doneIn 1 = .ok (.aload_n 0, 1) := by decide +kernel
theorem dX6_doneIn_2 : decode cX6_doneIn 2 = .ok (.getfield 13, 3) := by decide +kernel
theorem dX6_doneIn_5 : decode cX6_doneIn 5 = .ok (.iload_n 1, 1) := by decide +kernel
theorem dX6_doneIn_6 : decode cX6_doneIn 6 = .ok (.invokestatic 144, 3) := by decide +kernel
theorem dX6_doneIn_9 : decode cX6_doneIn 9 = .ok (.ifCond .eq 7, 3) := by decide +kernel
theorem dX6_doneIn_12 : decode cX6_doneIn 12 = .ok (.iconst 0, 1) := by decide +kernel
theorem dX6_doneIn_13 : decode cX6_doneIn 13 = .ok (.goto 4, 3) := by decide +kernel
theorem dX6_doneIn_16 : decode cX6_doneIn 16 = .ok (.iconst 1, 1) := by decide +kernel
theorem dX6_doneIn_17 : decode cX6_doneIn 17 = .ok (.invokevirtual 107, 3) := by decide +kernel
theorem dX6_doneIn_20 : decode cX6_doneIn 20 = .ok (.ifCond .eq 5, 3) := by decide +kernel
theorem dX6_doneIn_23 : decode cX6_doneIn 23 = .ok (.iconst 0, 1) := by decide +kernel
theorem dX6_doneIn_24 : decode cX6_doneIn 24 = .ok (.ireturn, 1) := by decide +kernel
theorem dX6_doneIn_25 : decode cX6_doneIn 25 = .ok (.aload_n 0, 1) := by decide +kernel
theorem dX6_doneIn_26 : decode cX6_doneIn 26 = .ok (.getfield 13, 3) := by decide +kernel
theorem dX6_doneIn_29 : decode cX6_doneIn 29 = .ok (.iconst 0, 1) := by decide +kernel
theorem dX6_doneIn_30 : decode cX6_doneIn 30 = .ok (.aload_n 0, 1) := by decide +kernel
theorem dX6_doneIn_31 : decode cX6_doneIn 31 = .ok (.getfield 16, 3) := by decide +kernel
theorem dX6_doneIn_34 : decode cX6_doneIn 34 = .ok (.iconst 0, 1) := by decide +kernel
theorem dX6_doneIn_35 : decode cX6_doneIn 35 = .ok (.invokestatic 158, 3) := by decide +kernel
theorem dX6_doneIn_38 : decode cX6_doneIn 38 = .ok (.iconst 0, 1) := by decide +kernel
theorem dX6_doneIn_39 : decode cX6_doneIn 39 = .ok (.istore_n 2, 1) := by decide +kernel
theorem dX6_doneIn_40 : decode cX6_doneIn 40 = .ok (.iload_n 2, 1) := by decide +kernel
theorem dX6_doneIn_41 : decode cX6_doneIn 41 = .ok (.aload_n 0, 1) := by decide +kernel
theorem dX6_doneIn_42 : decode cX6_doneIn 42 = .ok (.getfield 16, 3) := by decide +kernel
theorem dX6_doneIn_45 : decode cX6_doneIn 45 = .ok (.iconst 1, 1) := by decide +kernel
theorem dX6_doneIn_46 : decode cX6_doneIn 46 = .ok (.iaload, 1) := by decide +kernel
theorem dX6_doneIn_47 : decode cX6_doneIn 47 = .ok (.if_icmp .ge 35, 3) := by decide +kernel
theorem dX6_doneIn_50 : decode cX6_doneIn 50 = .ok (.aload_n 0, 1) := by decide +kernel
theorem dX6_doneIn_51 : decode cX6_doneIn 51 = .ok (.getfield 16, 3) := by decide +kernel
theorem dX6_doneIn_54 : decode cX6_doneIn 54 = .ok (.sipush 157, 3) := by decide +kernel
theorem dX6_doneIn_57 : decode cX6_doneIn 57 = .ok (.iconst 5, 1) := by decide +kernel
theorem dX6_doneIn_58 : decode cX6_doneIn 58 = .ok (.iload_n 2, 1) := by decide +kernel
theorem dX6_doneIn_59 : decode cX6_doneIn 59 = .ok (.imul, 1) := by decide +kernel
theorem dX6_doneIn_60 : decode cX6_doneIn 60 = .ok (.iadd, 1) := by decide +kernel
theorem dX6_doneIn_61 : decode cX6_doneIn 61 = .ok (.iconst 4, 1) := by decide +kernel
theorem dX6_doneIn_62 : decode cX6_doneIn 62 = .ok (.iadd, 1) := by decide +kernel
theorem dX6_doneIn_63 : decode cX6_doneIn 63 = .ok (.iload_n 2, 1) := by decide +kernel
theorem dX6_doneIn_64 : decode cX6_doneIn 64 = .ok (.iload_n 1, 1) := by decide +kernel
theorem dX6_doneIn_65 : decode cX6_doneIn 65 = .ok (.if_icmp .ne 9, 3) := by decide +kernel
theorem dX6_doneIn_68 : decode cX6_doneIn 68 = .ok (.sipush 1000, 3) := by decide +kernel
theorem dX6_doneIn_71 : decode cX6_doneIn 71 = .ok (.goto 4, 3) := by decide +kernel
theorem dX6_doneIn_74 : decode cX6_doneIn 74 = .ok (.iconst 0, 1) := by decide +kernel
theorem dX6_doneIn_75 : decode cX6_doneIn 75 = .ok (.iastore, 1) := by decide +kernel
theorem dX6_doneIn_76 : decode cX6_doneIn 76 = .ok (.iinc 2 1, 3) := by decide +kernel
theorem dX6_doneIn_79 : decode cX6_doneIn 79 = .ok (.goto (-39), 3) := by decide +kernel
theorem dX6_doneIn_82 : decode cX6_doneIn 82 = .ok (.iconst 1, 1) := by decide +kernel
theorem dX6_doneIn_83 : decode cX6_doneIn 83 = .ok (.istore_n 2, 1) := by decide +kernel
theorem dX6_doneIn_84 : decode cX6_doneIn 84 = .ok (.iload_n 2, 1) := by decide +kernel
theorem dX6_doneIn_85 : decode cX6_doneIn 85 = .ok (.bipush 100, 2) := by decide +kernel
theorem dX6_doneIn_87 : decode cX6_doneIn 87 = .ok (.if_icmp .gt 70, 3) := by decide +kernel
theorem dX6_doneIn_90 : decode cX6_doneIn 90 = .ok (.aload_n 0, 1) := by decide +kernel
theorem dX6_doneIn_91 : decode cX6_doneIn 91 = .ok (.getfield 16, 3) := by decide +kernel
theorem dX6_doneIn_94 : decode cX6_doneIn 94 = .ok (.invokestatic 99, 3) := by decide +kernel
theorem dX6_doneIn_97 : decode cX6_doneIn 97 = .ok (.iconst 0, 1) := by decide +kernel
theorem dX6_doneIn_98 : decode cX6_doneIn 98 = .ok (.istore_n 3, 1) := by decide +kernel
theorem dX6_doneIn_99 : decode cX6_doneIn 99 = .ok (.iconst 0, 1) := by decide +kernel
theorem dX6_doneIn_100 : decode cX6_doneIn 100 = .ok (.istore 4, 2) := by decide +kernel
theorem dX6_doneIn_102 : decode cX6_doneIn 102 = .ok (.iload 4, 2) := by decide +kernel
theorem dX6_doneIn_104 : decode cX6_doneIn 104 = .ok (.aload_n 0, 1) := by decide +kernel
theorem dX6_doneIn_105 : decode cX6_doneIn 105 = .ok (.getfield 16, 3) := by decide +kernel
theorem dX6_doneIn_108 : decode cX6_doneIn 108 = .ok (.iconst 1, 1) := by decide +kernel
theorem dX6_doneIn_109 : decode cX6_doneIn 109 = .ok (.iaload, 1) := by decide +kernel
theorem dX6_doneIn_110 : decode cX6_doneIn 110 = .ok (.if_icmp .ge 35, 3) := by decide +kernel
theorem dX6_doneIn_113 : decode cX6_doneIn 113 = .ok (.iload_n 3, 1) := by decide +kernel
theorem dX6_doneIn_114 : decode cX6_doneIn 114 = .ok (.ifCond .ne 19, 3) := by decide +kernel
theorem dX6_doneIn_117 : decode cX6_doneIn 117 = .ok (.aload_n 0, 1) := by decide +kernel
theorem dX6_doneIn_118 : decode cX6_doneIn 118 = .ok (.getfield 16, 3) := by decide +kernel
theorem dX6_doneIn_121 : decode cX6_doneIn 121 = .ok (.iload 4, 2) := by decide +kernel
theorem dX6_doneIn_123 : decode cX6_doneIn 123 = .ok (.iconst 4, 1) := by decide +kernel
theorem dX6_doneIn_124 : decode cX6_doneIn 124 = .ok (.invokestatic 63, 3) := by decide +kernel
theorem dX6_doneIn_127 : decode cX6_doneIn 127 = .ok (.sipush 1000, 3) := by decide +kernel
theorem dX6_doneIn_130 : decode cX6_doneIn 130 = .ok (.if_icmp .lt 7, 3) := by decide +kernel
theorem dX6_doneIn_133 : decode cX6_doneIn 133 = .ok (.iconst 1, 1) := by decide +kernel
theorem dX6_doneIn_134 : decode cX6_doneIn 134 = .ok (.goto 4, 3) := by decide +kernel
theorem dX6_doneIn_137 : decode cX6_doneIn 137 = .ok (.iconst 0, 1) := by decide +kernel
theorem dX6_doneIn_138 : decode cX6_doneIn 138 = .ok (.istore_n 3, 1) := by decide +kernel
theorem dX6_doneIn_139 : decode cX6_doneIn 139 = .ok (.iinc 4 1, 3) := by decide +kernel
theorem dX6_doneIn_142 : decode cX6_doneIn 142 = .ok (.goto (-40), 3) := by decide +kernel
theorem dX6_doneIn_145 : decode cX6_doneIn 145 = .ok (.iload_n 3, 1) := by decide +kernel
theorem dX6_doneIn_146 : decode cX6_doneIn 146 = .ok (.ifCond .ne 5, 3) := by decide +kernel
theorem dX6_doneIn_149 : decode cX6_doneIn 149 = .ok (.iload_n 2, 1) := by decide +kernel
theorem dX6_doneIn_150 : decode cX6_doneIn 150 = .ok (.ireturn, 1) := by decide +kernel
theorem dX6_doneIn_151 : decode cX6_doneIn 151 = .ok (.iinc 2 1, 3) := by decide +kernel
theorem dX6_doneIn_154 : decode cX6_doneIn 154 = .ok (.goto (-70), 3) := by decide +kernel
theorem dX6_doneIn_157 : decode cX6_doneIn 157 = .ok (.iconst (-1), 1) := by decide +kernel
theorem dX6_doneIn_158 : decode cX6_doneIn 158 = .ok (.ireturn, 1) := by decide +kernel
set_option maxRecDepth 20000 in
theorem ggX6_soundsIn_X6_isPipe : GoodIn wsX6_soundsIn wsX6_isPipe := goodIn_r _ [6, 7, 8, 9, 5, 10] (by decide +kernel) (by decide +kernel)
set_option maxRecDepth 20000 in
theorem gX6_soundsIn_X6_isPipe : GoodIn wsX6_soundsIn (va_wsS RX6 172 yX6_isPipe wsX6_isPipe) := goodIn_app (goodIn_of _ (by decide +kernel)) ggX6_soundsIn_X6_isPipe
set_option maxRecDepth 20000 in
theorem ggX6_soundsIn_X6_refused : GoodIn wsX6_soundsIn wsX6_refused := goodIn_r _ [14, 15, 64, 65, 66, 67, 68, 69, 70, 71, 72, 73, 74] (by decide +kernel) (by decide +kernel)
set_option maxRecDepth 20000 in
theorem gX6_soundsIn_X6_refused : GoodIn wsX6_soundsIn (wsV RX6 107 RX6 yX6_refused wsX6_refused) := goodIn_app (goodIn_of _ (by decide +kernel)) ggX6_soundsIn_X6_refused
set_option maxRecDepth 20000 in
theorem ggX6_soundsIn_X6_copyState : GoodIn wsX6_soundsIn wsX6_copyState := goodIn_r _ [18] (by decide +kernel) (by decide +kernel)
set_option maxRecDepth 20000 in
theorem gX6_soundsIn_X6_copyState : GoodIn wsX6_soundsIn (va_wsS RX6 158 yX6_copyState wsX6_copyState) := goodIn_app (goodIn_of _ (by decide +kernel)) ggX6_soundsIn_X6_copyState
set_option maxRecDepth 20000 in
theorem ggX6_soundsIn_X6_tick : GoodIn wsX6_soundsIn wsX6_tick := goodIn_r _ [21, 22, 23, 5, 24, 25, 26, 27, 28, 29, 30, 31, 32, 33, 34, 35, 36, 37, 38, 39, 40, 41, 42, 43, 44, 45, 46, 47, 48, 49, 50, 51, 52, 53, 54, 55, 56, 57, 58, 59, 60, 61, 62, 63] (by decide +kernel) (by decide +kernel)
set_option maxRecDepth 20000 in
theorem gX6_soundsIn_X6_tick : GoodIn wsX6_soundsIn (va_wsS RX6 99 yX6_tick wsX6_tick) := goodIn_app (goodIn_of _ (by decide +kernel)) ggX6_soundsIn_X6_tick
theorem dX6_soundsIn_0 : decode cX6_soundsIn 0 = .ok (.aload_n 0, 1) := by decide +kernel
theorem dX6_soundsIn_1 : decode cX6_soundsIn 1 = .ok (.iload_n 1, 1) := by decide +kernel
theorem dX6_soundsIn_2 : decode cX6_soundsIn 2 = .ok (.invokestatic 172, 3) := by decide +kernel
theorem dX6_soundsIn_5 : decode cX6_soundsIn 5 = .ok (.ifCond .eq 7, 3) := by decide +kernel
theorem dX6_soundsIn_8 : decode cX6_soundsIn 8 = .ok (.iconst 0, 1) := by decide +kernel
theorem dX6_soundsIn_9 : decode cX6_soundsIn 9 = .ok (.goto 4, 3) := by decide +kernel
theorem dX6_soundsIn_12 : decode cX6_soundsIn 12 = .ok (.iconst 1, 1) := by decide +kernel
theorem dX6_soundsIn_13 : decode cX6_soundsIn 13 = .ok (.invokevirtual 107, 3) := by decide +kernel
theorem dX6_soundsIn_16 : decode cX6_soundsIn 16 = .ok (.ifCond .eq 5, 3) := by decide +kernel
theorem dX6_soundsIn_19 : decode cX6_soundsIn 19 = .ok (.iconst 0, 1) := by decide +kernel
theorem dX6_soundsIn_20 : decode cX6_soundsIn 20 = .ok (.ireturn, 1) := by decide +kernel
theorem dX6_soundsIn_21 : decode cX6_soundsIn 21 = .ok (.aload_n 0, 1) := by decide +kernel
theorem dX6_soundsIn_22 : decode cX6_soundsIn 22 = .ok (.getfield 13, 3) := by decide +kernel
theorem dX6_soundsIn_25 : decode cX6_soundsIn 25 = .ok (.iconst 0, 1) := by decide +kernel
theorem dX6_soundsIn_26 : decode cX6_soundsIn 26 = .ok (.aload_n 0, 1) := by decide +kernel
theorem dX6_soundsIn_27 : decode cX6_soundsIn 27 = .ok (.getfield 16, 3) := by decide +kernel
theorem dX6_soundsIn_30 : decode cX6_soundsIn 30 = .ok (.iconst 0, 1) := by decide +kernel
theorem dX6_soundsIn_31 : decode cX6_soundsIn 31 = .ok (.invokestatic 158, 3) := by decide +kernel
theorem dX6_soundsIn_34 : decode cX6_soundsIn 34 = .ok (.iconst 1, 1) := by decide +kernel
theorem dX6_soundsIn_35 : decode cX6_soundsIn 35 = .ok (.istore_n 2, 1) := by decide +kernel
theorem dX6_soundsIn_36 : decode cX6_soundsIn 36 = .ok (.iload_n 2, 1) := by decide +kernel
theorem dX6_soundsIn_37 : decode cX6_soundsIn 37 = .ok (.bipush 100, 2) := by decide +kernel
theorem dX6_soundsIn_39 : decode cX6_soundsIn 39 = .ok (.if_icmp .gt 33, 3) := by decide +kernel
theorem dX6_soundsIn_42 : decode cX6_soundsIn 42 = .ok (.aload_n 0, 1) := by decide +kernel
theorem dX6_soundsIn_43 : decode cX6_soundsIn 43 = .ok (.getfield 16, 3) := by decide +kernel
theorem dX6_soundsIn_46 : decode cX6_soundsIn 46 = .ok (.invokestatic 99, 3) := by decide +kernel
theorem dX6_soundsIn_49 : decode cX6_soundsIn 49 = .ok (.aload_n 0, 1) := by decide +kernel
theorem dX6_soundsIn_50 : decode cX6_soundsIn 50 = .ok (.getfield 16, 3) := by decide +kernel
theorem dX6_soundsIn_53 : decode cX6_soundsIn 53 = .ok (.bipush 7, 2) := by decide +kernel
theorem dX6_soundsIn_55 : decode cX6_soundsIn 55 = .ok (.iaload, 1) := by decide +kernel
theorem dX6_soundsIn_56 : decode cX6_soundsIn 56 = .ok (.iload_n 1, 1) := by decide +kernel
theorem dX6_soundsIn_57 : decode cX6_soundsIn 57 = .ok (.ishr, 1) := by decide +kernel
theorem dX6_soundsIn_58 : decode cX6_soundsIn 58 = .ok (.iconst 1, 1) := by decide +kernel
theorem dX6_soundsIn_59 : decode cX6_soundsIn 59 = .ok (.iand, 1) := by decide +kernel
theorem dX6_soundsIn_60 : decode cX6_soundsIn 60 = .ok (.iconst 1, 1) := by decide +kernel
theorem dX6_soundsIn_61 : decode cX6_soundsIn 61 = .ok (.if_icmp .ne 5, 3) := by decide +kernel
theorem dX6_soundsIn_64 : decode cX6_soundsIn 64 = .ok (.iload_n 2, 1) := by decide +kernel
theorem dX6_soundsIn_65 : decode cX6_soundsIn 65 = .ok (.ireturn, 1) := by decide +kernel
theorem dX6_soundsIn_66 : decode cX6_soundsIn 66 = .ok (.iinc 2 1, 3) := by decide +kernel
theorem dX6_soundsIn_69 : decode cX6_soundsIn 69 = .ok (.goto (-33), 3) := by decide +kernel
theorem dX6_soundsIn_72 : decode cX6_soundsIn 72 = .ok (.iconst (-1), 1) := by decide +kernel
theorem dX6_soundsIn_73 : decode cX6_soundsIn 73 = .ok (.ireturn, 1) := by decide +kernel
set_option maxRecDepth 20000 in
theorem ggX6_leastSpeed_X6_in : GoodIn wsX6_leastSpeed wsX6_in := goodIn_r _ [7] (by decide +kernel) (by decide +kernel)
set_option maxRecDepth 20000 in
theorem gX6_leastSpeed_X6_in : GoodIn wsX6_leastSpeed (va_wsS RX6 39 yX6_in wsX6_in) := goodIn_app (goodIn_of _ (by decide +kernel)) ggX6_leastSpeed_X6_in
set_option maxRecDepth 20000 in
theorem ggX6_leastSpeed_X6_refused : GoodIn wsX6_leastSpeed wsX6_refused := goodIn_r _ [11, 12, 67, 68, 69, 70, 71, 72, 73, 74, 75, 76, 77] (by decide +kernel) (by decide +kernel)
set_option maxRecDepth 20000 in
theorem gX6_leastSpeed_X6_refused : GoodIn wsX6_leastSpeed (wsV RX6 107 RX6 yX6_refused wsX6_refused) := goodIn_app (goodIn_of _ (by decide +kernel)) ggX6_leastSpeed_X6_refused
set_option maxRecDepth 20000 in
theorem ggX6_leastSpeed_X6_copyState : GoodIn wsX6_leastSpeed wsX6_copyState := goodIn_r _ [15] (by decide +kernel) (by decide +kernel)
set_option maxRecDepth 20000 in
theorem gX6_leastSpeed_X6_copyState : GoodIn wsX6_leastSpeed (va_wsS RX6 158 yX6_copyState wsX6_copyState) := goodIn_app (goodIn_of _ (by decide +kernel)) ggX6_leastSpeed_X6_copyState
set_option maxRecDepth 20000 in
theorem ggX6_leastSpeed_X6_change : GoodIn wsX6_leastSpeed wsX6_change := goodIn_r _ [18] (by decide +kernel) (by decide +kernel)
set_option maxRecDepth 20000 in
theorem gX6_leastSpeed_X6_change : GoodIn wsX6_leastSpeed (va_wsS RX6 137 yX6_change wsX6_change) := goodIn_app (goodIn_of _ (by decide +kernel)) ggX6_leastSpeed_X6_change
set_option maxRecDepth 20000 in
theorem ggX6_leastSpeed_X6_ticksOn : GoodIn wsX6_leastSpeed wsX6_ticksOn := goodIn_r _ [21, 22, 23, 6, 24, 25, 26, 27, 28, 29, 30, 31, 32, 33, 34, 35, 36, 37, 38, 39, 40, 41, 42, 43, 44, 45, 46, 47, 48, 49, 50, 51, 52, 53, 54, 55, 56, 57, 58, 59, 60, 61, 62, 63, 64, 65, 66] (by decide +kernel) (by decide +kernel)
set_option maxRecDepth 20000 in
theorem gX6_leastSpeed_X6_ticksOn : GoodIn wsX6_leastSpeed (va_wsS RX6 140 yX6_ticksOn wsX6_ticksOn) := goodIn_app (goodIn_of _ (by decide +kernel)) ggX6_leastSpeed_X6_ticksOn
theorem dX6_leastSpeed_0 : decode cX6_leastSpeed 0 = .ok (.aload_n 0, 1) := by decide +kernel
theorem dX6_leastSpeed_1 : decode cX6_leastSpeed 1 = .ok (.iload_n 1, 1) := by decide +kernel
theorem dX6_leastSpeed_2 : decode cX6_leastSpeed 2 = .ok (.i2l, 1) := by decide +kernel
theorem dX6_leastSpeed_3 : decode cX6_leastSpeed 3 = .ok (.lconst 1, 1) := by decide +kernel
theorem dX6_leastSpeed_4 : decode cX6_leastSpeed 4 = .ok (.ldc2_w 191, 3) := by decide +kernel
theorem dX6_leastSpeed_7 : decode cX6_leastSpeed 7 = .ok (.invokestatic 39, 3) := by decide +kernel
theorem dX6_leastSpeed_10 : decode cX6_leastSpeed 10 = .ok (.ifCond .eq 7, 3) := by decide +kernel
theorem dX6_leastSpeed_13 : decode cX6_leastSpeed 13 = .ok (.iconst 0, 1) := by decide +kernel
theorem dX6_leastSpeed_14 : decode cX6_leastSpeed 14 = .ok (.goto 4, 3) := by decide +kernel
theorem dX6_leastSpeed_17 : decode cX6_leastSpeed 17 = .ok (.iconst 1, 1) := by decide +kernel
theorem dX6_leastSpeed_18 : decode cX6_leastSpeed 18 = .ok (.invokevirtual 107, 3) := by decide +kernel
theorem dX6_leastSpeed_21 : decode cX6_leastSpeed 21 = .ok (.ifCond .eq 5, 3) := by decide +kernel
theorem dX6_leastSpeed_24 : decode cX6_leastSpeed 24 = .ok (.iconst 0, 1) := by decide +kernel
theorem dX6_leastSpeed_25 : decode cX6_leastSpeed 25 = .ok (.ireturn, 1) := by decide +kernel
theorem dX6_leastSpeed_26 : decode cX6_leastSpeed 26 = .ok (.iconst 0, 1) := by decide +kernel
theorem dX6_leastSpeed_27 : decode cX6_leastSpeed 27 = .ok (.istore_n 2, 1) := by decide +kernel
theorem dX6_leastSpeed_28 : decode cX6_leastSpeed 28 = .ok (.iload_n 2, 1) := by decide +kernel
theorem dX6_leastSpeed_29 : decode cX6_leastSpeed 29 = .ok (.iconst 3, 1) := by decide +kernel
theorem dX6_leastSpeed_30 : decode cX6_leastSpeed 30 = .ok (.if_icmp .gt 60, 3) := by decide +kernel
theorem dX6_leastSpeed_33 : decode cX6_leastSpeed 33 = .ok (.aload_n 0, 1) := by decide +kernel
theorem dX6_leastSpeed_34 : decode cX6_leastSpeed 34 = .ok (.getfield 13, 3) := by decide +kernel
theorem dX6_leastSpeed_37 : decode cX6_leastSpeed 37 = .ok (.iconst 0, 1) := by decide +kernel
theorem dX6_leastSpeed_38 : decode cX6_leastSpeed 38 = .ok (.aload_n 0, 1) := by decide +kernel
theorem dX6_leastSpeed_39 : decode cX6_leastSpeed 39 = .ok (.getfield 16, 3) := by decide +kernel
theorem dX6_leastSpeed_42 : decode cX6_leastSpeed 42 = .ok (.iconst 0, 1) := by decide +kernel
theorem dX6_leastSpeed_43 : decode cX6_leastSpeed 43 = .ok (.invokestatic 158, 3) := by decide +kernel
theorem dX6_leastSpeed_46 : decode cX6_leastSpeed 46 = .ok (.aload_n 0, 1) := by decide +kernel
theorem dX6_leastSpeed_47 : decode cX6_leastSpeed 47 = .ok (.getfield 16, 3) := by decide +kernel
theorem dX6_leastSpeed_50 : decode cX6_leastSpeed 50 = .ok (.iconst 0, 1) := by decide +kernel
theorem dX6_leastSpeed_51 : decode cX6_leastSpeed 51 = .ok (.iload_n 2, 1) := by decide +kernel
theorem dX6_leastSpeed_52 : decode cX6_leastSpeed 52 = .ok (.invokestatic 137, 3) := by decide +kernel
theorem dX6_leastSpeed_55 : decode cX6_leastSpeed 55 = .ok (.pop, 1) := by decide +kernel
theorem dX6_leastSpeed_56 : decode cX6_leastSpeed 56 = .ok (.aload_n 0, 1) := by decide +kernel
theorem dX6_leastSpeed_57 : decode cX6_leastSpeed 57 = .ok (.getfield 16, 3) := by decide +kernel
theorem dX6_leastSpeed_60 : decode cX6_leastSpeed 60 = .ok (.iload_n 1, 1) := by decide +kernel
theorem dX6_leastSpeed_61 : decode cX6_leastSpeed 61 = .ok (.invokestatic 140, 3) := by decide +kernel
theorem dX6_leastSpeed_64 : decode cX6_leastSpeed 64 = .ok (.pop, 1) := by decide +kernel
theorem dX6_leastSpeed_65 : decode cX6_leastSpeed 65 = .ok (.aload_n 0, 1) := by decide +kernel
theorem dX6_leastSpeed_66 : decode cX6_leastSpeed 66 = .ok (.getfield 16, 3) := by decide +kernel
theorem dX6_leastSpeed_69 : decode cX6_leastSpeed 69 = .ok (.bipush 10, 2) := by decide +kernel
theorem dX6_leastSpeed_71 : decode cX6_leastSpeed 71 = .ok (.iaload, 1) := by decide +kernel
theorem dX6_leastSpeed_72 : decode cX6_leastSpeed 72 = .ok (.aload_n 0, 1) := by decide +kernel
theorem dX6_leastSpeed_73 : decode cX6_leastSpeed 73 = .ok (.getfield 13, 3) := by decide +kernel
theorem dX6_leastSpeed_76 : decode cX6_leastSpeed 76 = .ok (.bipush 10, 2) := by decide +kernel
theorem dX6_leastSpeed_78 : decode cX6_leastSpeed 78 = .ok (.iaload, 1) := by decide +kernel
theorem dX6_leastSpeed_79 : decode cX6_leastSpeed 79 = .ok (.if_icmp .ne 5, 3) := by decide +kernel
theorem dX6_leastSpeed_82 : decode cX6_leastSpeed 82 = .ok (.iload_n 2, 1) := by decide +kernel
theorem dX6_leastSpeed_83 : decode cX6_leastSpeed 83 = .ok (.ireturn, 1) := by decide +kernel
theorem dX6_leastSpeed_84 : decode cX6_leastSpeed 84 = .ok (.iinc 2 1, 3) := by decide +kernel
theorem dX6_leastSpeed_87 : decode cX6_leastSpeed 87 = .ok (.goto (-59), 3) := by decide +kernel
theorem dX6_leastSpeed_90 : decode cX6_leastSpeed 90 = .ok (.iconst (-1), 1) := by decide +kernel
theorem dX6_leastSpeed_91 : decode cX6_leastSpeed 91 = .ok (.ireturn, 1) := by decide +kernel
set_option maxRecDepth 20000 in
theorem ggX6_fullest_X6_chordAt : GoodIn wsX6_fullest wsX6_chordAt := goodIn_r _ [6, 7, 8, 5, 9, 10, 11, 12, 13, 14, 15] (by decide +kernel) (by decide +kernel)
set_option maxRecDepth 20000 in
theorem gX6_fullest_X6_chordAt : GoodIn wsX6_fullest (va_wsS RX6 181 yX6_chordAt wsX6_chordAt) := goodIn_app (goodIn_of _ (by decide +kernel)) ggX6_fullest_X6_chordAt
set_option maxRecDepth 20000 in
theorem ggX6_fullest_X6_bits : GoodIn wsX6_fullest wsX6_bits := goodIn_r _ [18] (by decide +kernel) (by decide +kernel)
set_option maxRecDepth 20000 in
theorem gX6_fullest_X6_bits : GoodIn wsX6_fullest (va_wsS RX6 193 yX6_bits wsX6_bits) := goodIn_app (goodIn_of _ (by decide +kernel)) ggX6_fullest_X6_bits
theorem dX6_fullest_0 : decode cX6_fullest 0 = .ok (.aload_n 0, 1) := by decide +kernel
theorem dX6_fullest_1 : decode cX6_fullest 1 = .ok (.iconst 0, 1) := by decide +kernel
theorem dX6_fullest_2 : decode cX6_fullest 2 = .ok (.putfield 33, 3) := by decide +kernel
theorem dX6_fullest_5 : decode cX6_fullest 5 = .ok (.iconst 0, 1) := by decide +kernel
theorem dX6_fullest_6 : decode cX6_fullest 6 = .ok (.istore_n 1, 1) := by decide +kernel
theorem dX6_fullest_7 : decode cX6_fullest 7 = .ok (.iconst 1, 1) := by decide +kernel
theorem dX6_fullest_8 : decode cX6_fullest 8 = .ok (.istore_n 2, 1) := by decide +kernel
theorem dX6_fullest_9 : decode cX6_fullest 9 = .ok (.iload_n 2, 1) := by decide +kernel
theorem dX6_fullest_10 : decode cX6_fullest 10 = .ok (.bipush 24, 2) := by decide +kernel
theorem dX6_fullest_12 : decode cX6_fullest 12 = .ok (.if_icmp .ge 40, 3) := by decide +kernel
theorem dX6_fullest_15 : decode cX6_fullest 15 = .ok (.aload_n 0, 1) := by decide +kernel
theorem dX6_fullest_16 : decode cX6_fullest 16 = .ok (.getfield 13, 3) := by decide +kernel
theorem dX6_fullest_19 : decode cX6_fullest 19 = .ok (.iload_n 2, 1) := by decide +kernel
theorem dX6_fullest_20 : decode cX6_fullest 20 = .ok (.invokestatic 181, 3) := by decide +kernel
theorem dX6_fullest_23 : decode cX6_fullest 23 = .ok (.invokestatic 193, 3) := by decide +kernel
theorem dX6_fullest_26 : decode cX6_fullest 26 = .ok (.aload_n 0, 1) := by decide +kernel
theorem dX6_fullest_27 : decode cX6_fullest 27 = .ok (.getfield 13, 3) := by decide +kernel
theorem dX6_fullest_30 : decode cX6_fullest 30 = .ok (.iload_n 1, 1) := by decide +kernel
theorem dX6_fullest_31 : decode cX6_fullest 31 = .ok (.invokestatic 181, 3) := by decide +kernel
theorem dX6_fullest_34 : decode cX6_fullest 34 = .ok (.invokestatic 193, 3) := by decide +kernel
theorem dX6_fullest_37 : decode cX6_fullest 37 = .ok (.if_icmp .le 7, 3) := by decide +kernel
theorem dX6_fullest_40 : decode cX6_fullest 40 = .ok (.iload_n 2, 1) := by decide +kernel
theorem dX6_fullest_41 : decode cX6_fullest 41 = .ok (.goto 4, 3) := by decide +kernel
theorem dX6_fullest_44 : decode cX6_fullest 44 = .ok (.iload_n 1, 1) := by decide +kernel
theorem dX6_fullest_45 : decode cX6_fullest 45 = .ok (.istore_n 1, 1) := by decide +kernel
theorem dX6_fullest_46 : decode cX6_fullest 46 = .ok (.iinc 2 1, 3) := by decide +kernel
theorem dX6_fullest_49 : decode cX6_fullest 49 = .ok (.goto (-40), 3) := by decide +kernel
theorem dX6_fullest_52 : decode cX6_fullest 52 = .ok (.iload_n 1, 1) := by decide +kernel
theorem dX6_fullest_53 : decode cX6_fullest 53 = .ok (.ireturn, 1) := by decide +kernel
set_option maxRecDepth 20000 in
theorem ggX6_room_X6_isPipe : GoodIn wsX6_room wsX6_isPipe := goodIn_r _ [6, 7, 8, 9, 5, 10] (by decide +kernel) (by decide +kernel)
set_option maxRecDepth 20000 in
theorem gX6_room_X6_isPipe : GoodIn wsX6_room (va_wsS RX6 172 yX6_isPipe wsX6_isPipe) := goodIn_app (goodIn_of _ (by decide +kernel)) ggX6_room_X6_isPipe
set_option maxRecDepth 20000 in
theorem ggX6_room_X6_in : GoodIn wsX6_room wsX6_in := goodIn_r _ [10] (by decide +kernel) (by decide +kernel)
set_option maxRecDepth 20000 in
theorem gX6_room_X6_in : GoodIn wsX6_room (va_wsS RX6 39 yX6_in wsX6_in) := goodIn_app (goodIn_of _ (by decide +kernel)) ggX6_room_X6_in
set_option maxRecDepth 20000 in
theorem ggX6_room_X6_refused : GoodIn wsX6_room wsX6_refused := goodIn_r _ [14, 15, 28, 29, 30, 31, 32, 33, 34, 35, 36, 37, 38] (by decide +kernel) (by decide +kernel)
set_option maxRecDepth 20000 in
theorem gX6_room_X6_refused : GoodIn wsX6_room (wsV RX6 107 RX6 yX6_refused wsX6_refused) := goodIn_app (goodIn_of _ (by decide +kernel)) ggX6_room_X6_refused
set_option maxRecDepth 20000 in
theorem ggX6_room_X6_isTaken : GoodIn wsX6_room wsX6_isTaken := goodIn_r _ [18, 19, 20, 5, 21, 22, 23, 24, 25, 26, 27] (by decide +kernel) (by decide +kernel)
set_option maxRecDepth 20000 in
theorem gX6_room_X6_isTaken : GoodIn wsX6_room (va_wsS RX6 70 yX6_isTaken wsX6_isTaken) := goodIn_app (goodIn_of _ (by decide +kernel)) ggX6_room_X6_isTaken
theorem dX6_room_0 : decode cX6_room 0 = .ok (.aload_n 0, 1) := by decide +kernel
theorem dX6_room_1 : decode cX6_room 1 = .ok (.iload_n 1, 1) := by decide +kernel
theorem dX6_room_2 : decode cX6_room 2 = .ok (.invokestatic 172, 3) := by decide +kernel
theorem dX6_room_5 : decode cX6_room 5 = .ok (.ifCond .ne 7, 3) := by decide +kernel
theorem dX6_room_8 : decode cX6_room 8 = .ok (.iconst 1, 1) := by decide +kernel
theorem dX6_room_9 : decode cX6_room 9 = .ok (.goto 20, 3) := by decide +kernel
theorem dX6_room_12 : decode cX6_room 12 = .ok (.iload_n 2, 1) := by decide +kernel
theorem dX6_room_13 : decode cX6_room 13 = .ok (.i2l, 1) := by decide +kernel
theorem dX6_room_14 : decode cX6_room 14 = .ok (.lconst 1, 1) := by decide +kernel
theorem dX6_room_15 : decode cX6_room 15 = .ok (.ldc2_w 186, 3) := by decide +kernel
theorem dX6_room_18 : decode cX6_room 18 = .ok (.invokestatic 39, 3) := by decide +kernel
theorem dX6_room_21 : decode cX6_room 21 = .ok (.ifCond .eq 7, 3) := by decide +kernel
theorem dX6_room_24 : decode cX6_room 24 = .ok (.iconst 0, 1) := by decide +kernel
theorem dX6_room_25 : decode cX6_room 25 = .ok (.goto 4, 3) := by decide +kernel
theorem dX6_room_28 : decode cX6_room 28 = .ok (.iconst 2, 1) := by decide +kernel
theorem dX6_room_29 : decode cX6_room 29 = .ok (.invokevirtual 107, 3) := by decide +kernel
theorem dX6_room_32 : decode cX6_room 32 = .ok (.ifCond .eq 5, 3) := by decide +kernel
theorem dX6_room_35 : decode cX6_room 35 = .ok (.iconst 0, 1) := by decide +kernel
theorem dX6_room_36 : decode cX6_room 36 = .ok (.ireturn, 1) := by decide +kernel
theorem dX6_room_37 : decode cX6_room 37 = .ok (.iconst 0, 1) := by decide +kernel
theorem dX6_room_38 : decode cX6_room 38 = .ok (.istore_n 3, 1) := by decide +kernel
theorem dX6_room_39 : decode cX6_room 39 = .ok (.iload_n 3, 1) := by decide +kernel
theorem dX6_room_40 : decode cX6_room 40 = .ok (.bipush 24, 2) := by decide +kernel
theorem dX6_room_42 : decode cX6_room 42 = .ok (.if_icmp .ge 24, 3) := by decide +kernel
theorem dX6_room_45 : decode cX6_room 45 = .ok (.aload_n 0, 1) := by decide +kernel
theorem dX6_room_46 : decode cX6_room 46 = .ok (.getfield 13, 3) := by decide +kernel
theorem dX6_room_49 : decode cX6_room 49 = .ok (.iload_n 1, 1) := by decide +kernel
theorem dX6_room_50 : decode cX6_room 50 = .ok (.iload_n 3, 1) := by decide +kernel
theorem dX6_room_51 : decode cX6_room 51 = .ok (.iload_n 2, 1) := by decide +kernel
theorem dX6_room_52 : decode cX6_room 52 = .ok (.invokestatic 70, 3) := by decide +kernel
theorem dX6_room_55 : decode cX6_room 55 = .ok (.ifCond .ne 5, 3) := by decide +kernel
theorem dX6_room_58 : decode cX6_room 58 = .ok (.iload_n 3, 1) := by decide +kernel
theorem dX6_room_59 : decode cX6_room 59 = .ok (.ireturn, 1) := by decide +kernel
theorem dX6_room_60 : decode cX6_room 60 = .ok (.iinc 3 1, 3) := by decide +kernel
theorem dX6_room_63 : decode cX6_room 63 = .ok (.goto (-24), 3) := by decide +kernel
theorem dX6_room_66 : decode cX6_room 66 = .ok (.iconst (-1), 1) := by decide +kernel
theorem dX6_room_67 : decode cX6_room 67 = .ok (.ireturn, 1) := by decide +kernel
set_option maxRecDepth 20000 in
theorem ggX6_command_X6_isPipe : GoodIn wsX6_command wsX6_isPipe := goodIn_r _ [7, 8, 9, 10, 6, 11] (by decide +kernel) (by decide +kernel)
set_option maxRecDepth 20000 in
theorem gX6_command_X6_isPipe : GoodIn wsX6_command (va_wsS RX6 172 yX6_isPipe wsX6_isPipe) := goodIn_app (goodIn_of _ (by decide +kernel)) ggX6_command_X6_isPipe
set_option maxRecDepth 20000 in
theorem ggX6_command_X6_isBar : GoodIn wsX6_command wsX6_isBar := goodIn_r _ [14, 15, 9, 10, 6, 11] (by decide +kernel) (by decide +kernel)
set_option maxRecDepth 20000 in
theorem gX6_command_X6_isBar : GoodIn wsX6_command (va_wsS RX6 178 yX6_isBar wsX6_isBar) := goodIn_app (goodIn_of _ (by decide +kernel)) ggX6_command_X6_isBar
set_option maxRecDepth 20000 in
theorem ggX6_command_X6_in : GoodIn wsX6_command wsX6_in := goodIn_r _ [11] (by decide +kernel) (by decide +kernel)
set_option maxRecDepth 20000 in
theorem gX6_command_X6_in : GoodIn wsX6_command (va_wsS RX6 39 yX6_in wsX6_in) := goodIn_app (goodIn_of _ (by decide +kernel)) ggX6_command_X6_in
set_option maxRecDepth 20000 in
theorem ggX6_command_X6_orderOn : GoodIn wsX6_command wsX6_orderOn := goodIn_r _ [18] (by decide +kernel) (by decide +kernel)
set_option maxRecDepth 20000 in
theorem gX6_command_X6_orderOn : GoodIn wsX6_command (va_wsS RX6 121 yX6_orderOn wsX6_orderOn) := goodIn_app (goodIn_of _ (by decide +kernel)) ggX6_command_X6_orderOn
set_option maxRecDepth 20000 in
theorem ggX6_command_X6_ticksOn : GoodIn wsX6_command wsX6_ticksOn := goodIn_r _ [21, 22, 23, 6, 24, 25, 26, 27, 28, 29, 30, 31, 32, 33, 34, 35, 36, 37, 38, 39, 40, 41, 42, 43, 44, 45, 46, 47, 48, 49, 50, 51, 52, 53, 54, 55, 56, 57, 58, 59, 60, 61, 62, 63, 64, 65, 66] (by decide +kernel) (by decide +kernel)
set_option maxRecDepth 20000 in
theorem gX6_command_X6_ticksOn : GoodIn wsX6_command (va_wsS RX6 140 yX6_ticksOn wsX6_ticksOn) := goodIn_app (goodIn_of _ (by decide +kernel)) ggX6_command_X6_ticksOn
set_option maxRecDepth 20000 in
theorem ggX6_command_X6_isSetting : GoodIn wsX6_command wsX6_isSetting := goodIn_r _ [69, 70, 71, 72, 9, 10, 6, 11] (by decide +kernel) (by decide +kernel)
set_option maxRecDepth 20000 in
theorem gX6_command_X6_isSetting : GoodIn wsX6_command (va_wsS RX6 133 yX6_isSetting wsX6_isSetting) := goodIn_app (goodIn_of _ (by decide +kernel)) ggX6_command_X6_isSetting
set_option maxRecDepth 20000 in
theorem ggX6_command_X6_change : GoodIn wsX6_command wsX6_change := goodIn_r _ [75] (by decide +kernel) (by decide +kernel)
set_option maxRecDepth 20000 in
theorem gX6_command_X6_change : GoodIn wsX6_command (va_wsS RX6 137 yX6_change wsX6_change) := goodIn_app (goodIn_of _ (by decide +kernel)) ggX6_command_X6_change
set_option maxRecDepth 20000 in
theorem ggX6_command_X6_isOrder : GoodIn wsX6_command wsX6_isOrder := goodIn_r _ [78, 9, 10, 6, 11] (by decide +kernel) (by decide +kernel)
set_option maxRecDepth 20000 in
theorem gX6_command_X6_isOrder : GoodIn wsX6_command (va_wsS RX6 144 yX6_isOrder wsX6_isOrder) := goodIn_app (goodIn_of _ (by decide +kernel)) ggX6_command_X6_isOrder
set_option maxRecDepth 20000 in
theorem ggX6_command_X6_cancelOn : GoodIn wsX6_command wsX6_cancelOn := goodIn_r _ [81, 61, 62, 6, 63] (by decide +kernel) (by decide +kernel)
set_option maxRecDepth 20000 in
theorem gX6_command_X6_cancelOn : GoodIn wsX6_command (va_wsS RX6 147 yX6_cancelOn wsX6_cancelOn) := goodIn_app (goodIn_of _ (by decide +kernel)) ggX6_command_X6_cancelOn
set_option maxRecDepth 20000 in
theorem ggX6_command_X6_isCovered : GoodIn wsX6_command wsX6_isCovered := goodIn_r _ [39, 40, 41, 6, 42, 43, 44, 45] (by decide +kernel) (by decide +kernel)
set_option maxRecDepth 20000 in
theorem gX6_command_X6_isCovered : GoodIn wsX6_command (va_wsS RX6 59 yX6_isCovered wsX6_isCovered) := goodIn_app (goodIn_of _ (by decide +kernel)) ggX6_command_X6_isCovered
theorem dX6_command_0 : decode cX6_command 0 = .ok (.iload_n 2, 1) := by decide +kernel
theorem dX6_command_1 : decode cX6_command 1 = .ok (.sipush 1000, 3) := by decide +kernel
theorem dX6_command_4 : decode cX6_command 4 = .ok (.idiv, 1) := by decide +kernel
theorem dX6_command_5 : decode cX6_command 5 = .ok (.istore_n 3, 1) := by decide +kernel
theorem dX6_command_6 : decode cX6_command 6 = .ok (.iload_n 2, 1) := by decide +kernel
theorem dX6_command_7 : decode cX6_command 7 = .ok (.bipush 100, 2) := by decide +kernel
theorem dX6_command_9 : decode cX6_command 9 = .ok (.idiv, 1) := by decide +kernel
theorem dX6_command_10 : decode cX6_command 10 = .ok (.bipush 10, 2) := by decide +kernel
theorem dX6_command_12 : decode cX6_command 12 = .ok (.irem, 1) := by decide +kernel
theorem dX6_command_13 : decode cX6_command 13 = .ok (.istore 4, 2) := by decide +kernel
theorem dX6_command_15 : decode cX6_command 15 = .ok (.iload_n 2, 1) := by decide +kernel
theorem dX6_command_16 : decode cX6_command 16 = .ok (.bipush 10, 2) := by decide +kernel
theorem dX6_command_18 : decode cX6_command 18 = .ok (.idiv, 1) := by decide +kernel
theorem dX6_command_19 : decode cX6_command 19 = .ok (.bipush 100, 2) := by decide +kernel
theorem dX6_command_21 : decode cX6_command 21 = .ok (.irem, 1) := by decide +kernel
theorem dX6_command_22 : decode cX6_command 22 = .ok (.istore 5, 2) := by decide +kernel
theorem dX6_command_24 : decode cX6_command 24 = .ok (.iload_n 2, 1) := by decide +kernel
theorem dX6_command_25 : decode cX6_command 25 = .ok (.bipush 10, 2) := by decide +kernel
theorem dX6_command_27 : decode cX6_command 27 = .ok (.irem, 1) := by decide +kernel
theorem dX6_command_28 : decode cX6_command 28 = .ok (.istore 6, 2) := by decide +kernel
theorem dX6_command_30 : decode cX6_command 30 = .ok (.iload_n 2, 1) := by decide +kernel
theorem dX6_command_31 : decode cX6_command 31 = .ok (.bipush 100, 2) := by decide +kernel
theorem dX6_command_33 : decode cX6_command 33 = .ok (.irem, 1) := by decide +kernel
theorem dX6_command_34 : decode cX6_command 34 = .ok (.istore 7, 2) := by decide +kernel
theorem dX6_command_36 : decode cX6_command 36 = .ok (.iload_n 1, 1) := by decide +kernel
theorem dX6_command_37 : decode cX6_command 37 = .ok (.tableswitch 371 1 9 #[51, 112, 164, 193, 226, 265, 304, 326, 348], 51) := by decide +kernel
theorem dX6_command_88 : decode cX6_command 88 = .ok (.iload_n 3, 1) := by decide +kernel
theorem dX6_command_89 : decode cX6_command 89 = .ok (.invokestatic 172, 3) := by decide +kernel
theorem dX6_command_92 : decode cX6_command 92 = .ok (.ifCond .eq 55, 3) := by decide +kernel
theorem dX6_command_95 : decode cX6_command 95 = .ok (.iload 5, 2) := by decide +kernel
theorem dX6_command_97 : decode cX6_command 97 = .ok (.invokestatic 178, 3) := by decide +kernel
theorem dX6_command_100 : decode cX6_command 100 = .ok (.ifCond .eq 47, 3) := by decide +kernel
theorem dX6_command_103 : decode cX6_command 103 = .ok (.iload 6, 2) := by decide +kernel
theorem dX6_command_105 : decode cX6_command 105 = .ok (.i2l, 1) := by decide +kernel
theorem dX6_command_106 : decode cX6_command 106 = .ok (.lconst 1, 1) := by decide +kernel
theorem dX6_command_107 : decode cX6_command 107 = .ok (.ldc2_w 186, 3) := by decide +kernel
theorem dX6_command_110 : decode cX6_command 110 = .ok (.invokestatic 39, 3) := by decide +kernel
theorem dX6_command_113 : decode cX6_command 113 = .ok (.ifCond .eq 34, 3) := by decide +kernel
theorem dX6_command_116 : decode cX6_command 116 = .ok (.aload_n 0, 1) := by decide +kernel
theorem dX6_command_117 : decode cX6_command 117 = .ok (.getfield 16, 3) := by decide +kernel
theorem dX6_command_120 : decode cX6_command 120 = .ok (.iconst 1, 1) := by decide +kernel
theorem dX6_command_121 : decode cX6_command 121 = .ok (.iaload, 1) := by decide +kernel
theorem dX6_command_122 : decode cX6_command 122 = .ok (.bipush 12, 2) := by decide +kernel
theorem dX6_command_124 : decode cX6_command 124 = .ok (.if_icmp .ge 23, 3) := by decide +kernel
theorem dX6_command_127 : decode cX6_command 127 = .ok (.aload_n 0, 1) := by decide +kernel
theorem dX6_command_128 : decode cX6_command 128 = .ok (.getfield 16, 3) := by decide +kernel
theorem dX6_command_131 : decode cX6_command 131 = .ok (.iconst 1, 1) := by decide +kernel
theorem dX6_command_132 : decode cX6_command 132 = .ok (.iload_n 3, 1) := by decide +kernel
theorem dX6_command_133 : decode cX6_command 133 = .ok (.iload 5, 2) := by decide +kernel
theorem dX6_command_135 : decode cX6_command 135 = .ok (.iload 6, 2) := by decide +kernel
theorem dX6_command_137 : decode cX6_command 137 = .ok (.invokestatic 121, 3) := by decide +kernel
theorem dX6_command_140 : decode cX6_command 140 = .ok (.ifCond .lt 7, 3) := by decide +kernel
theorem dX6_command_143 : decode cX6_command 143 = .ok (.iconst 1, 1) := by decide +kernel
theorem dX6_command_144 : decode cX6_command 144 = .ok (.goto 4, 3) := by decide +kernel
theorem dX6_command_147 : decode cX6_command 147 = .ok (.iconst 0, 1) := by decide +kernel
theorem dX6_command_148 : decode cX6_command 148 = .ok (.ireturn, 1) := by decide +kernel
theorem dX6_command_149 : decode cX6_command 149 = .ok (.iload 6, 2) := by decide +kernel
theorem dX6_command_151 : decode cX6_command 151 = .ok (.ifCond .ne 48, 3) := by decide +kernel
theorem dX6_command_154 : decode cX6_command 154 = .ok (.iload_n 3, 1) := by decide +kernel
theorem dX6_command_155 : decode cX6_command 155 = .ok (.invokestatic 172, 3) := by decide +kernel
theorem dX6_command_158 : decode cX6_command 158 = .ok (.ifCond .eq 41, 3) := by decide +kernel
theorem dX6_command_161 : decode cX6_command 161 = .ok (.iload 5, 2) := by decide +kernel
theorem dX6_command_163 : decode cX6_command 163 = .ok (.invokestatic 178, 3) := by decide +kernel
theorem dX6_command_166 : decode cX6_command 166 = .ok (.ifCond .eq 33, 3) := by decide +kernel
theorem dX6_command_169 : decode cX6_command 169 = .ok (.aload_n 0, 1) := by decide +kernel
theorem dX6_command_170 : decode cX6_command 170 = .ok (.getfield 16, 3) := by decide +kernel
theorem dX6_command_173 : decode cX6_command 173 = .ok (.iconst 1, 1) := by decide +kernel
theorem dX6_command_174 : decode cX6_command 174 = .ok (.iaload, 1) := by decide +kernel
theorem dX6_command_175 : decode cX6_command 175 = .ok (.bipush 12, 2) := by decide +kernel
theorem dX6_command_177 : decode cX6_command 177 = .ok (.if_icmp .ge 22, 3) := by decide +kernel
theorem dX6_command_180 : decode cX6_command 180 = .ok (.aload_n 0, 1) := by decide +kernel
theorem dX6_command_181 : decode cX6_command 181 = .ok (.getfield 16, 3) := by decide +kernel
theorem dX6_command_184 : decode cX6_command 184 = .ok (.iconst 0, 1) := by decide +kernel
theorem dX6_command_185 : decode cX6_command 185 = .ok (.iload_n 3, 1) := by decide +kernel
theorem dX6_command_186 : decode cX6_command 186 = .ok (.iload 5, 2) := by decide +kernel
theorem dX6_command_188 : decode cX6_command 188 = .ok (.iconst 0, 1) := by decide +kernel
theorem dX6_command_189 : decode cX6_command 189 = .ok (.invokestatic 121, 3) := by decide +kernel
theorem dX6_command_192 : decode cX6_command 192 = .ok (.ifCond .lt 7, 3) := by decide +kernel
theorem dX6_command_195 : decode cX6_command 195 = .ok (.iconst 1, 1) := by decide +kernel
theorem dX6_command_196 : decode cX6_command 196 = .ok (.goto 4, 3) := by decide +kernel
theorem dX6_command_199 : decode cX6_command 199 = .ok (.iconst 0, 1) := by decide +kernel
theorem dX6_command_200 : decode cX6_command 200 = .ok (.ireturn, 1) := by decide +kernel
theorem dX6_command_201 : decode cX6_command 201 = .ok (.iload_n 2, 1) := by decide +kernel
theorem dX6_command_202 : decode cX6_command 202 = .ok (.i2l, 1) := by decide +kernel
theorem dX6_command_203 : decode cX6_command 203 = .ok (.lconst 1, 1) := by decide +kernel
theorem dX6_command_204 : decode cX6_command 204 = .ok (.ldc2_w 191, 3) := by decide +kernel
theorem dX6_command_207 : decode cX6_command 207 = .ok (.invokestatic 39, 3) := by decide +kernel
theorem dX6_command_210 : decode cX6_command 210 = .ok (.ifCond .eq 18, 3) := by decide +kernel
theorem dX6_command_213 : decode cX6_command 213 = .ok (.aload_n 0, 1) := by decide +kernel
theorem dX6_command_214 : decode cX6_command 214 = .ok (.getfield 16, 3) := by decide +kernel
theorem dX6_command_217 : decode cX6_command 217 = .ok (.iload_n 2, 1) := by decide +kernel
theorem dX6_command_218 : decode cX6_command 218 = .ok (.invokestatic 140, 3) := by decide +kernel
theorem dX6_command_221 : decode cX6_command 221 = .ok (.ifCond .lt 7, 3) := by decide +kernel
theorem dX6_command_224 : decode cX6_command 224 = .ok (.iconst 1, 1) := by decide +kernel
theorem dX6_command_225 : decode cX6_command 225 = .ok (.goto 4, 3) := by decide +kernel
theorem dX6_command_228 : decode cX6_command 228 = .ok (.iconst 0, 1) := by decide +kernel
theorem dX6_command_229 : decode cX6_command 229 = .ok (.ireturn, 1) := by decide +kernel
theorem dX6_command_230 : decode cX6_command 230 = .ok (.iload 4, 2) := by decide +kernel
theorem dX6_command_232 : decode cX6_command 232 = .ok (.ifCond .ne 29, 3) := by decide +kernel
theorem dX6_command_235 : decode cX6_command 235 = .ok (.iload_n 3, 1) := by decide +kernel
theorem dX6_command_236 : decode cX6_command 236 = .ok (.iload 7, 2) := by decide +kernel
theorem dX6_command_238 : decode cX6_command 238 = .ok (.invokestatic 133, 3) := by decide +kernel
theorem dX6_command_241 : decode cX6_command 241 = .ok (.ifCond .eq 20, 3) := by decide +kernel
theorem dX6_command_244 : decode cX6_command 244 = .ok (.aload_n 0, 1) := by decide +kernel
theorem dX6_command_245 : decode cX6_command 245 = .ok (.getfield 16, 3) := by decide +kernel
theorem dX6_command_248 : decode cX6_command 248 = .ok (.iload_n 3, 1) := by decide +kernel
theorem dX6_command_249 : decode cX6_command 249 = .ok (.iload 7, 2) := by decide +kernel
theorem dX6_command_251 : decode cX6_command 251 = .ok (.invokestatic 137, 3) := by decide +kernel
theorem dX6_command_254 : decode cX6_command 254 = .ok (.ifCond .lt 7, 3) := by decide +kernel
theorem dX6_command_257 : decode cX6_command 257 = .ok (.iconst 1, 1) := by decide +kernel
theorem dX6_command_258 : decode cX6_command 258 = .ok (.goto 4, 3) := by decide +kernel
theorem dX6_command_261 : decode cX6_command 261 = .ok (.iconst 0, 1) := by decide +kernel
theorem dX6_command_262 : decode cX6_command 262 = .ok (.ireturn, 1) := by decide +kernel
theorem dX6_command_263 : decode cX6_command 263 = .ok (.iload_n 3, 1) := by decide +kernel
theorem dX6_command_264 : decode cX6_command 264 = .ok (.ifCond .ne 36, 3) := by decide +kernel
theorem dX6_command_267 : decode cX6_command 267 = .ok (.iload 6, 2) := by decide +kernel
theorem dX6_command_269 : decode cX6_command 269 = .ok (.ifCond .ne 31, 3) := by decide +kernel
theorem dX6_command_272 : decode cX6_command 272 = .ok (.aload_n 0, 1) := by decide +kernel
theorem dX6_command_273 : decode cX6_command 273 = .ok (.getfield 16, 3) := by decide +kernel
theorem dX6_command_276 : decode cX6_command 276 = .ok (.iload 5, 2) := by decide +kernel
theorem dX6_command_278 : decode cX6_command 278 = .ok (.invokestatic 144, 3) := by decide +kernel
theorem dX6_command_281 : decode cX6_command 281 = .ok (.ifCond .eq 19, 3) := by decide +kernel
theorem dX6_command_284 : decode cX6_command 284 = .ok (.aload_n 0, 1) := by decide +kernel
theorem dX6_command_285 : decode cX6_command 285 = .ok (.getfield 16, 3) := by decide +kernel
theorem dX6_command_288 : decode cX6_command 288 = .ok (.iload 5, 2) := by decide +kernel
theorem dX6_command_290 : decode cX6_command 290 = .ok (.invokestatic 147, 3) := by decide +kernel
theorem dX6_command_293 : decode cX6_command 293 = .ok (.ifCond .lt 7, 3) := by decide +kernel
theorem dX6_command_296 : decode cX6_command 296 = .ok (.iconst 1, 1) := by decide +kernel
theorem dX6_command_297 : decode cX6_command 297 = .ok (.goto 4, 3) := by decide +kernel
theorem dX6_command_300 : decode cX6_command 300 = .ok (.iconst 0, 1) := by decide +kernel
theorem dX6_command_301 : decode cX6_command 301 = .ok (.ireturn, 1) := by decide +kernel
theorem dX6_command_302 : decode cX6_command 302 = .ok (.iload 6, 2) := by decide +kernel
theorem dX6_command_304 : decode cX6_command 304 = .ok (.ifCond .ne 35, 3) := by decide +kernel
theorem dX6_command_307 : decode cX6_command 307 = .ok (.iload_n 3, 1) := by decide +kernel
theorem dX6_command_308 : decode cX6_command 308 = .ok (.invokestatic 172, 3) := by decide +kernel
theorem dX6_command_311 : decode cX6_command 311 = .ok (.ifCond .eq 28, 3) := by decide +kernel
theorem dX6_command_314 : decode cX6_command 314 = .ok (.iload 5, 2) := by decide +kernel
theorem dX6_command_316 : decode cX6_command 316 = .ok (.invokestatic 178, 3) := by decide +kernel
theorem dX6_command_319 : decode cX6_command 319 = .ok (.ifCond .eq 20, 3) := by decide +kernel
theorem dX6_command_322 : decode cX6_command 322 = .ok (.aload_n 0, 1) := by decide +kernel
theorem dX6_command_323 : decode cX6_command 323 = .ok (.getfield 16, 3) := by decide +kernel
theorem dX6_command_326 : decode cX6_command 326 = .ok (.iload_n 3, 1) := by decide +kernel
theorem dX6_command_327 : decode cX6_command 327 = .ok (.iload 5, 2) := by decide +kernel
theorem dX6_command_329 : decode cX6_command 329 = .ok (.invokestatic 59, 3) := by decide +kernel
theorem dX6_command_332 : decode cX6_command 332 = .ok (.ifCond .eq 7, 3) := by decide +kernel
theorem dX6_command_335 : decode cX6_command 335 = .ok (.iconst 1, 1) := by decide +kernel
theorem dX6_command_336 : decode cX6_command 336 = .ok (.goto 4, 3) := by decide +kernel
theorem dX6_command_339 : decode cX6_command 339 = .ok (.iconst 0, 1) := by decide +kernel
theorem dX6_command_340 : decode cX6_command 340 = .ok (.ireturn, 1) := by decide +kernel
theorem dX6_command_341 : decode cX6_command 341 = .ok (.iload_n 2, 1) := by decide +kernel
theorem dX6_command_342 : decode cX6_command 342 = .ok (.bipush 100, 2) := by decide +kernel
theorem dX6_command_344 : decode cX6_command 344 = .ok (.if_icmp .ge 17, 3) := by decide +kernel
theorem dX6_command_347 : decode cX6_command 347 = .ok (.aload_n 0, 1) := by decide +kernel
theorem dX6_command_348 : decode cX6_command 348 = .ok (.getfield 16, 3) := by decide +kernel
theorem dX6_command_351 : decode cX6_command 351 = .ok (.iconst 5, 1) := by decide +kernel
theorem dX6_command_352 : decode cX6_command 352 = .ok (.iaload, 1) := by decide +kernel
theorem dX6_command_353 : decode cX6_command 353 = .ok (.iload_n 2, 1) := by decide +kernel
theorem dX6_command_354 : decode cX6_command 354 = .ok (.if_icmp .lt 7, 3) := by decide +kernel
theorem dX6_command_357 : decode cX6_command 357 = .ok (.iconst 1, 1) := by decide +kernel
theorem dX6_command_358 : decode cX6_command 358 = .ok (.goto 4, 3) := by decide +kernel
theorem dX6_command_361 : decode cX6_command 361 = .ok (.iconst 0, 1) := by decide +kernel
theorem dX6_command_362 : decode cX6_command 362 = .ok (.ireturn, 1) := by decide +kernel
theorem dX6_command_363 : decode cX6_command 363 = .ok (.iload_n 2, 1) := by decide +kernel
theorem dX6_command_364 : decode cX6_command 364 = .ok (.bipush 10, 2) := by decide +kernel
theorem dX6_command_366 : decode cX6_command 366 = .ok (.if_icmp .ge 17, 3) := by decide +kernel
theorem dX6_command_369 : decode cX6_command 369 = .ok (.aload_n 0, 1) := by decide +kernel
theorem dX6_command_370 : decode cX6_command 370 = .ok (.getfield 16, 3) := by decide +kernel
theorem dX6_command_373 : decode cX6_command 373 = .ok (.iconst 1, 1) := by decide +kernel
theorem dX6_command_374 : decode cX6_command 374 = .ok (.iaload, 1) := by decide +kernel
theorem dX6_command_375 : decode cX6_command 375 = .ok (.iload_n 2, 1) := by decide +kernel
theorem dX6_command_376 : decode cX6_command 376 = .ok (.if_icmp .gt 7, 3) := by decide +kernel
theorem dX6_command_379 : decode cX6_command 379 = .ok (.iconst 1, 1) := by decide +kernel
theorem dX6_command_380 : decode cX6_command 380 = .ok (.goto 4, 3) := by decide +kernel
theorem dX6_command_383 : decode cX6_command 383 = .ok (.iconst 0, 1) := by decide +kernel
theorem dX6_command_384 : decode cX6_command 384 = .ok (.ireturn, 1) := by decide +kernel
theorem dX6_command_385 : decode cX6_command 385 = .ok (.iload_n 2, 1) := by decide +kernel
theorem dX6_command_386 : decode cX6_command 386 = .ok (.bipush 100, 2) := by decide +kernel
theorem dX6_command_388 : decode cX6_command 388 = .ok (.if_icmp .ge 18, 3) := by decide +kernel
theorem dX6_command_391 : decode cX6_command 391 = .ok (.aload_n 0, 1) := by decide +kernel
theorem dX6_command_392 : decode cX6_command 392 = .ok (.getfield 16, 3) := by decide +kernel
theorem dX6_command_395 : decode cX6_command 395 = .ok (.bipush 7, 2) := by decide +kernel
theorem dX6_command_397 : decode cX6_command 397 = .ok (.iaload, 1) := by decide +kernel
theorem dX6_command_398 : decode cX6_command 398 = .ok (.iload_n 2, 1) := by decide +kernel
theorem dX6_command_399 : decode cX6_command 399 = .ok (.if_icmp .ne 7, 3) := by decide +kernel
theorem dX6_command_402 : decode cX6_command 402 = .ok (.iconst 1, 1) := by decide +kernel
theorem dX6_command_403 : decode cX6_command 403 = .ok (.goto 4, 3) := by decide +kernel
theorem dX6_command_406 : decode cX6_command 406 = .ok (.iconst 0, 1) := by decide +kernel
theorem dX6_command_407 : decode cX6_command 407 = .ok (.ireturn, 1) := by decide +kernel
theorem dX6_command_408 : decode cX6_command 408 = .ok (.iconst 0, 1) := by decide +kernel
theorem dX6_command_409 : decode cX6_command 409 = .ok (.ireturn, 1) := by decide +kernel
set_option maxRecDepth 20000 in
theorem ggX6_runScript_X6_in : GoodIn wsX6_runScript wsX6_in := goodIn_r _ [8] (by decide +kernel) (by decide +kernel)
set_option maxRecDepth 20000 in
theorem gX6_runScript_X6_in : GoodIn wsX6_runScript (va_wsS RX6 39 yX6_in wsX6_in) := goodIn_app (goodIn_of _ (by decide +kernel)) ggX6_runScript_X6_in
set_option maxRecDepth 20000 in
theorem ggX6_runScript_X6_refused : GoodIn wsX6_runScript wsX6_refused := goodIn_r _ [12, 13, 96, 97, 98, 99, 100, 101, 102, 103, 104, 105, 106] (by decide +kernel) (by decide +kernel)
set_option maxRecDepth 20000 in
theorem gX6_runScript_X6_refused : GoodIn wsX6_runScript (wsV RX6 107 RX6 yX6_refused wsX6_refused) := goodIn_app (goodIn_of _ (by decide +kernel)) ggX6_runScript_X6_refused
set_option maxRecDepth 20000 in
theorem ggX6_runScript_X6_copyState : GoodIn wsX6_runScript wsX6_copyState := goodIn_r _ [16] (by decide +kernel) (by decide +kernel)
set_option maxRecDepth 20000 in
theorem gX6_runScript_X6_copyState : GoodIn wsX6_runScript (va_wsS RX6 158 yX6_copyState wsX6_copyState) := goodIn_app (goodIn_of _ (by decide +kernel)) ggX6_runScript_X6_copyState
set_option maxRecDepth 20000 in
theorem ggX6_runScript_X6_command : GoodIn wsX6_runScript wsX6_command := goodIn_r _ [20, 21, 4, 22, 23, 24, 7, 25, 26, 5, 6, 8, 27, 28, 29, 30, 31, 32, 33, 34, 35, 36, 37, 38, 39, 40, 41, 42, 43, 44, 45, 46, 47, 48, 49, 50, 51, 52, 53, 54, 55, 56, 57, 58, 59, 60, 61, 62, 63, 64, 65, 66, 67, 68, 69, 70, 71, 72, 73, 74, 75, 76, 77, 78, 79, 80, 81, 82, 83, 84, 2, 85, 86, 87, 88, 89, 90, 91, 92, 93, 94, 95, 96, 97, 98, 99, 100, 101, 102, 103, 104, 105, 106] (by decide +kernel) (by decide +kernel)
set_option maxRecDepth 20000 in
theorem gX6_runScript_X6_command : GoodIn wsX6_runScript (wsV RX6 199 RX6 yX6_command wsX6_command) := goodIn_app (goodIn_of _ (by decide +kernel)) ggX6_runScript_X6_command
theorem dX6_runScript_0 : decode cX6_runScript 0 = .ok (.lconst 1, 1) := by decide +kernel
theorem dX6_runScript_1 : decode cX6_runScript 1 = .ok (.lstore 4, 2) := by decide +kernel
theorem dX6_runScript_3 : decode cX6_runScript 3 = .ok (.iconst 0, 1) := by decide +kernel
theorem dX6_runScript_4 : decode cX6_runScript 4 = .ok (.istore 6, 2) := by decide +kernel
theorem dX6_runScript_6 : decode cX6_runScript 6 = .ok (.iload 6, 2) := by decide +kernel
theorem dX6_runScript_8 : decode cX6_runScript 8 = .ok (.iload_n 1, 1) := by decide +kernel
theorem dX6_runScript_9 : decode cX6_runScript 9 = .ok (.if_icmp .ge 23, 3) := by decide +kernel
theorem dX6_runScript_12 : decode cX6_runScript 12 = .ok (.iload 6, 2) := by decide +kernel
theorem dX6_runScript_14 : decode cX6_runScript 14 = .ok (.iconst 3, 1) := by decide +kernel
theorem dX6_runScript_15 : decode cX6_runScript 15 = .ok (.if_icmp .ge 17, 3) := by decide +kernel
theorem dX6_runScript_18 : decode cX6_runScript 18 = .ok (.lload 4, 2) := by decide +kernel
theorem dX6_runScript_20 : decode cX6_runScript 20 = .ok (.ldc2_w 197, 3) := by decide +kernel
theorem dX6_runScript_23 : decode cX6_runScript 23 = .ok (.lmul, 1) := by decide +kernel
theorem dX6_runScript_24 : decode cX6_runScript 24 = .ok (.lstore 4, 2) := by decide +kernel
theorem dX6_runScript_26 : decode cX6_runScript 26 = .ok (.iinc 6 1, 3) := by decide +kernel
theorem dX6_runScript_29 : decode cX6_runScript 29 = .ok (.goto (-23), 3) := by decide +kernel
theorem dX6_runScript_32 : decode cX6_runScript 32 = .ok (.aload_n 0, 1) := by decide +kernel
theorem dX6_runScript_33 : decode cX6_runScript 33 = .ok (.iload_n 1, 1) := by decide +kernel
theorem dX6_runScript_34 : decode cX6_runScript 34 = .ok (.i2l, 1) := by decide +kernel
theorem dX6_runScript_35 : decode cX6_runScript 35 = .ok (.lconst 1, 1) := by decide +kernel
theorem dX6_runScript_36 : decode cX6_runScript 36 = .ok (.ldc2_w 45, 3) := by decide +kernel
theorem dX6_runScript_39 : decode cX6_runScript 39 = .ok (.invokestatic 39, 3) := by decide +kernel
theorem dX6_runScript_42 : decode cX6_runScript 42 = .ok (.ifCond .eq 19, 3) := by decide +kernel
theorem dX6_runScript_45 : decode cX6_runScript 45 = .ok (.lload_n 2, 1) := by decide +kernel
theorem dX6_runScript_46 : decode cX6_runScript 46 = .ok (.lconst 0, 1) := by decide +kernel
theorem dX6_runScript_47 : decode cX6_runScript 47 = .ok (.lload 4, 2) := by decide +kernel
theorem dX6_runScript_49 : decode cX6_runScript 49 = .ok (.lconst 1, 1) := by decide +kernel
theorem dX6_runScript_50 : decode cX6_runScript 50 = .ok (.lsub, 1) := by decide +kernel
theorem dX6_runScript_51 : decode cX6_runScript 51 = .ok (.invokestatic 39, 3) := by decide +kernel
theorem dX6_runScript_54 : decode cX6_runScript 54 = .ok (.ifCond .eq 7, 3) := by decide +kernel
theorem dX6_runScript_57 : decode cX6_runScript 57 = .ok (.iconst 0, 1) := by decide +kernel
theorem dX6_runScript_58 : decode cX6_runScript 58 = .ok (.goto 4, 3) := by decide +kernel
theorem dX6_runScript_61 : decode cX6_runScript 61 = .ok (.iconst 1, 1) := by decide +kernel
theorem dX6_runScript_62 : decode cX6_runScript 62 = .ok (.invokevirtual 107, 3) := by decide +kernel
theorem dX6_runScript_65 : decode cX6_runScript 65 = .ok (.ifCond .eq 5, 3) := by decide +kernel
theorem dX6_runScript_68 : decode cX6_runScript 68 = .ok (.iconst 0, 1) := by decide +kernel
theorem dX6_runScript_69 : decode cX6_runScript 69 = .ok (.ireturn, 1) := by decide +kernel
theorem dX6_runScript_70 : decode cX6_runScript 70 = .ok (.aload_n 0, 1) := by decide +kernel
theorem dX6_runScript_71 : decode cX6_runScript 71 = .ok (.getfield 13, 3) := by decide +kernel
theorem dX6_runScript_74 : decode cX6_runScript 74 = .ok (.iconst 0, 1) := by decide +kernel
theorem dX6_runScript_75 : decode cX6_runScript 75 = .ok (.aload_n 0, 1) := by decide +kernel
theorem dX6_runScript_76 : decode cX6_runScript 76 = .ok (.getfield 16, 3) := by decide +kernel
theorem dX6_runScript_79 : decode cX6_runScript 79 = .ok (.iconst 0, 1) := by decide +kernel
theorem dX6_runScript_80 : decode cX6_runScript 80 = .ok (.invokestatic 158, 3) := by decide +kernel
theorem dX6_runScript_83 : decode cX6_runScript 83 = .ok (.iconst 0, 1) := by decide +kernel
theorem dX6_runScript_84 : decode cX6_runScript 84 = .ok (.istore 6, 2) := by decide +kernel
theorem dX6_runScript_86 : decode cX6_runScript 86 = .ok (.iload 6, 2) := by decide +kernel
theorem dX6_runScript_88 : decode cX6_runScript 88 = .ok (.iload_n 1, 1) := by decide +kernel
theorem dX6_runScript_89 : decode cX6_runScript 89 = .ok (.if_icmp .ge 50, 3) := by decide +kernel
theorem dX6_runScript_92 : decode cX6_runScript 92 = .ok (.lload 4, 2) := by decide +kernel
theorem dX6_runScript_94 : decode cX6_runScript 94 = .ok (.ldc2_w 197, 3) := by decide +kernel
theorem dX6_runScript_97 : decode cX6_runScript 97 = .ok (.ldiv, 1) := by decide +kernel
theorem dX6_runScript_98 : decode cX6_runScript 98 = .ok (.lstore 4, 2) := by decide +kernel
theorem dX6_runScript_100 : decode cX6_runScript 100 = .ok (.lload_n 2, 1) := by decide +kernel
theorem dX6_runScript_101 : decode cX6_runScript 101 = .ok (.lload 4, 2) := by decide +kernel
theorem dX6_runScript_103 : decode cX6_runScript 103 = .ok (.ldiv, 1) := by decide +kernel
theorem dX6_runScript_104 : decode cX6_runScript 104 = .ok (.ldc2_w 197, 3) := by decide +kernel
theorem dX6_runScript_107 : decode cX6_runScript 107 = .ok (.lrem, 1) := by decide +kernel
theorem dX6_runScript_108 : decode cX6_runScript 108 = .ok (.l2i, 1) := by decide +kernel
theorem dX6_runScript_109 : decode cX6_runScript 109 = .ok (.istore 7, 2) := by decide +kernel
theorem dX6_runScript_111 : decode cX6_runScript 111 = .ok (.aload_n 0, 1) := by decide +kernel
theorem dX6_runScript_112 : decode cX6_runScript 112 = .ok (.iload 7, 2) := by decide +kernel
theorem dX6_runScript_114 : decode cX6_runScript 114 = .ok (.sipush 10000, 3) := by decide +kernel
theorem dX6_runScript_117 : decode cX6_runScript 117 = .ok (.idiv, 1) := by decide +kernel
theorem dX6_runScript_118 : decode cX6_runScript 118 = .ok (.iload 7, 2) := by decide +kernel
theorem dX6_runScript_120 : decode cX6_runScript 120 = .ok (.sipush 10000, 3) := by decide +kernel
theorem dX6_runScript_123 : decode cX6_runScript 123 = .ok (.irem, 1) := by decide +kernel
theorem dX6_runScript_124 : decode cX6_runScript 124 = .ok (.invokevirtual 199, 3) := by decide +kernel
theorem dX6_runScript_127 : decode cX6_runScript 127 = .ok (.ifCond .ne 6, 3) := by decide +kernel
theorem dX6_runScript_130 : decode cX6_runScript 130 = .ok (.iload 6, 2) := by decide +kernel
theorem dX6_runScript_132 : decode cX6_runScript 132 = .ok (.ireturn, 1) := by decide +kernel
theorem dX6_runScript_133 : decode cX6_runScript 133 = .ok (.iinc 6 1, 3) := by decide +kernel
theorem dX6_runScript_136 : decode cX6_runScript 136 = .ok (.goto (-50), 3) := by decide +kernel
theorem dX6_runScript_139 : decode cX6_runScript 139 = .ok (.iconst (-1), 1) := by decide +kernel
theorem dX6_runScript_140 : decode cX6_runScript 140 = .ok (.ireturn, 1) := by decide +kernel
set_option maxRecDepth 20000 in
theorem ggX6_turnOf_X6_orderOn : GoodIn wsX6_turnOf wsX6_orderOn := goodIn_r _ [4] (by decide +kernel) (by decide +kernel)
set_option maxRecDepth 20000 in
theorem gX6_turnOf_X6_orderOn : GoodIn wsX6_turnOf (va_wsS RX6 121 yX6_orderOn wsX6_orderOn) := goodIn_app (goodIn_of _ (by decide +kernel)) ggX6_turnOf_X6_orderOn
set_option maxRecDepth 20000 in
theorem ggX6_turnOf_X6_change : GoodIn wsX6_turnOf wsX6_change := goodIn_r _ [7] (by decide +kernel) (by decide +kernel)
set_option maxRecDepth 20000 in
theorem gX6_turnOf_X6_change : GoodIn wsX6_turnOf (va_wsS RX6 137 yX6_change wsX6_change) := goodIn_app (goodIn_of _ (by decide +kernel)) ggX6_turnOf_X6_change
set_option maxRecDepth 20000 in
theorem ggX6_turnOf_X6_ticksOn : GoodIn wsX6_turnOf wsX6_ticksOn := goodIn_r _ [10, 11, 12, 3, 13, 14, 15, 16, 17, 18, 19, 20, 21, 22, 23, 24, 25, 26, 27, 28, 29, 30, 31, 32, 33, 34, 35, 36, 37, 38, 39, 40, 41, 42, 43, 44, 45, 46, 47, 48, 49, 50, 51, 52, 53, 54, 55] (by decide +kernel) (by decide +kernel)
set_option maxRecDepth 20000 in
theorem gX6_turnOf_X6_ticksOn : GoodIn wsX6_turnOf (va_wsS RX6 140 yX6_ticksOn wsX6_ticksOn) := goodIn_app (goodIn_of _ (by decide +kernel)) ggX6_turnOf_X6_ticksOn
set_option maxRecDepth 20000 in
theorem ggX6_turnOf_X6_isOrder : GoodIn wsX6_turnOf wsX6_isOrder := goodIn_r _ [58, 59, 60, 3, 61] (by decide +kernel) (by decide +kernel)
set_option maxRecDepth 20000 in
theorem gX6_turnOf_X6_isOrder : GoodIn wsX6_turnOf (va_wsS RX6 144 yX6_isOrder wsX6_isOrder) := goodIn_app (goodIn_of _ (by decide +kernel)) ggX6_turnOf_X6_isOrder
set_option maxRecDepth 20000 in
theorem ggX6_turnOf_X6_cancelOn : GoodIn wsX6_turnOf wsX6_cancelOn := goodIn_r _ [64, 50, 51, 3, 52] (by decide +kernel) (by decide +kernel)
set_option maxRecDepth 20000 in
theorem gX6_turnOf_X6_cancelOn : GoodIn wsX6_turnOf (va_wsS RX6 147 yX6_cancelOn wsX6_cancelOn) := goodIn_app (goodIn_of _ (by decide +kernel)) ggX6_turnOf_X6_cancelOn
theorem dX6_turnOf_0 : decode cX6_turnOf 0 = .ok (.iload_n 1, 1) := by decide +kernel
theorem dX6_turnOf_1 : decode cX6_turnOf 1 = .ok (.iconst 4, 1) := by decide +kernel
theorem dX6_turnOf_2 : decode cX6_turnOf 2 = .ok (.if_icmp .ge 59, 3) := by decide +kernel
theorem dX6_turnOf_5 : decode cX6_turnOf 5 = .ok (.aload_n 0, 1) := by decide +kernel
theorem dX6_turnOf_6 : decode cX6_turnOf 6 = .ok (.iconst 1, 1) := by decide +kernel
theorem dX6_turnOf_7 : decode cX6_turnOf 7 = .ok (.iaload, 1) := by decide +kernel
theorem dX6_turnOf_8 : decode cX6_turnOf 8 = .ok (.bipush 12, 2) := by decide +kernel
theorem dX6_turnOf_10 : decode cX6_turnOf 10 = .ok (.if_icmp .ge 156, 3) := by decide +kernel
theorem dX6_turnOf_13 : decode cX6_turnOf 13 = .ok (.aload_n 0, 1) := by decide +kernel
theorem dX6_turnOf_14 : decode cX6_turnOf 14 = .ok (.iload_n 1, 1) := by decide +kernel
theorem dX6_turnOf_15 : decode cX6_turnOf 15 = .ok (.iconst 3, 1) := by decide +kernel
theorem dX6_turnOf_16 : decode cX6_turnOf 16 = .ok (.if_icmp .ge 7, 3) := by decide +kernel
theorem dX6_turnOf_19 : decode cX6_turnOf 19 = .ok (.iconst 1, 1) := by decide +kernel
theorem dX6_turnOf_20 : decode cX6_turnOf 20 = .ok (.goto 4, 3) := by decide +kernel
theorem dX6_turnOf_23 : decode cX6_turnOf 23 = .ok (.iconst 0, 1) := by decide +kernel
theorem dX6_turnOf_24 : decode cX6_turnOf 24 = .ok (.iload_n 2, 1) := by decide +kernel
theorem dX6_turnOf_25 : decode cX6_turnOf 25 = .ok (.bipush 6, 2) := by decide +kernel
theorem dX6_turnOf_27 : decode cX6_turnOf 27 = .ok (.irem, 1) := by decide +kernel
theorem dX6_turnOf_28 : decode cX6_turnOf 28 = .ok (.iload_n 2, 1) := by decide +kernel
theorem dX6_turnOf_29 : decode cX6_turnOf 29 = .ok (.bipush 8, 2) := by decide +kernel
theorem dX6_turnOf_31 : decode cX6_turnOf 31 = .ok (.idiv, 1) := by decide +kernel
theorem dX6_turnOf_32 : decode cX6_turnOf 32 = .ok (.bipush 24, 2) := by decide +kernel
theorem dX6_turnOf_34 : decode cX6_turnOf 34 = .ok (.irem, 1) := by decide +kernel
theorem dX6_turnOf_35 : decode cX6_turnOf 35 = .ok (.iload_n 1, 1) := by decide +kernel
theorem dX6_turnOf_36 : decode cX6_turnOf 36 = .ok (.iconst 3, 1) := by decide +kernel
theorem dX6_turnOf_37 : decode cX6_turnOf 37 = .ok (.if_icmp .ge 16, 3) := by decide +kernel
theorem dX6_turnOf_40 : decode cX6_turnOf 40 = .ok (.iconst 1, 1) := by decide +kernel
theorem dX6_turnOf_41 : decode cX6_turnOf 41 = .ok (.iload_n 2, 1) := by decide +kernel
theorem dX6_turnOf_42 : decode cX6_turnOf 42 = .ok (.sipush 256, 3) := by decide +kernel
theorem dX6_turnOf_45 : decode cX6_turnOf 45 = .ok (.idiv, 1) := by decide +kernel
theorem dX6_turnOf_46 : decode cX6_turnOf 46 = .ok (.bipush 6, 2) := by decide +kernel
theorem dX6_turnOf_48 : decode cX6_turnOf 48 = .ok (.irem, 1) := by decide +kernel
theorem dX6_turnOf_49 : decode cX6_turnOf 49 = .ok (.iadd, 1) := by decide +kernel
theorem dX6_turnOf_50 : decode cX6_turnOf 50 = .ok (.goto 4, 3) := by decide +kernel
theorem dX6_turnOf_53 : decode cX6_turnOf 53 = .ok (.iconst 0, 1) := by decide +kernel
theorem dX6_turnOf_54 : decode cX6_turnOf 54 = .ok (.invokestatic 121, 3) := by decide +kernel
theorem dX6_turnOf_57 : decode cX6_turnOf 57 = .ok (.pop, 1) := by decide +kernel
theorem dX6_turnOf_58 : decode cX6_turnOf 58 = .ok (.goto 108, 3) := by decide +kernel
theorem dX6_turnOf_61 : decode cX6_turnOf 61 = .ok (.iload_n 1, 1) := by decide +kernel
theorem dX6_turnOf_62 : decode cX6_turnOf 62 = .ok (.iconst 4, 1) := by decide +kernel
theorem dX6_turnOf_63 : decode cX6_turnOf 63 = .ok (.if_icmp .ne 39, 3) := by decide +kernel
theorem dX6_turnOf_66 : decode cX6_turnOf 66 = .ok (.iload_n 2, 1) := by decide +kernel
theorem dX6_turnOf_67 : decode cX6_turnOf 67 = .ok (.iconst 4, 1) := by decide +kernel
theorem dX6_turnOf_68 : decode cX6_turnOf 68 = .ok (.idiv, 1) := by decide +kernel
theorem dX6_turnOf_69 : decode cX6_turnOf 69 = .ok (.iconst 2, 1) := by decide +kernel
theorem dX6_turnOf_70 : decode cX6_turnOf 70 = .ok (.irem, 1) := by decide +kernel
theorem dX6_turnOf_71 : decode cX6_turnOf 71 = .ok (.ifCond .ne 15, 3) := by decide +kernel
theorem dX6_turnOf_74 : decode cX6_turnOf 74 = .ok (.aload_n 0, 1) := by decide +kernel
theorem dX6_turnOf_75 : decode cX6_turnOf 75 = .ok (.iconst 0, 1) := by decide +kernel
theorem dX6_turnOf_76 : decode cX6_turnOf 76 = .ok (.iload_n 2, 1) := by decide +kernel
theorem dX6_turnOf_77 : decode cX6_turnOf 77 = .ok (.iconst 4, 1) := by decide +kernel
theorem dX6_turnOf_78 : decode cX6_turnOf 78 = .ok (.irem, 1) := by decide +kernel
theorem dX6_turnOf_79 : decode cX6_turnOf 79 = .ok (.invokestatic 137, 3) := by decide +kernel
theorem dX6_turnOf_82 : decode cX6_turnOf 82 = .ok (.pop, 1) := by decide +kernel
theorem dX6_turnOf_83 : decode cX6_turnOf 83 = .ok (.goto 83, 3) := by decide +kernel
theorem dX6_turnOf_86 : decode cX6_turnOf 86 = .ok (.aload_n 0, 1) := by decide +kernel
theorem dX6_turnOf_87 : decode cX6_turnOf 87 = .ok (.iconst 1, 1) := by decide +kernel
theorem dX6_turnOf_88 : decode cX6_turnOf 88 = .ok (.iload_n 2, 1) := by decide +kernel
theorem dX6_turnOf_89 : decode cX6_turnOf 89 = .ok (.bipush 8, 2) := by decide +kernel
theorem dX6_turnOf_91 : decode cX6_turnOf 91 = .ok (.idiv, 1) := by decide +kernel
theorem dX6_turnOf_92 : decode cX6_turnOf 92 = .ok (.bipush 10, 2) := by decide +kernel
theorem dX6_turnOf_94 : decode cX6_turnOf 94 = .ok (.irem, 1) := by decide +kernel
theorem dX6_turnOf_95 : decode cX6_turnOf 95 = .ok (.invokestatic 137, 3) := by decide +kernel
theorem dX6_turnOf_98 : decode cX6_turnOf 98 = .ok (.pop, 1) := by decide +kernel
theorem dX6_turnOf_99 : decode cX6_turnOf 99 = .ok (.goto 67, 3) := by decide +kernel
theorem dX6_turnOf_102 : decode cX6_turnOf 102 = .ok (.iload_n 1, 1) := by decide +kernel
theorem dX6_turnOf_103 : decode cX6_turnOf 103 = .ok (.iconst 5, 1) := by decide +kernel
theorem dX6_turnOf_104 : decode cX6_turnOf 104 = .ok (.if_icmp .le 17, 3) := by decide +kernel
theorem dX6_turnOf_107 : decode cX6_turnOf 107 = .ok (.aload_n 0, 1) := by decide +kernel
theorem dX6_turnOf_108 : decode cX6_turnOf 108 = .ok (.iconst 1, 1) := by decide +kernel
theorem dX6_turnOf_109 : decode cX6_turnOf 109 = .ok (.iload_n 2, 1) := by decide +kernel
theorem dX6_turnOf_110 : decode cX6_turnOf 110 = .ok (.bipush 12, 2) := by decide +kernel
theorem dX6_turnOf_112 : decode cX6_turnOf 112 = .ok (.irem, 1) := by decide +kernel
theorem dX6_turnOf_113 : decode cX6_turnOf 113 = .ok (.iadd, 1) := by decide +kernel
theorem dX6_turnOf_114 : decode cX6_turnOf 114 = .ok (.invokestatic 140, 3) := by decide +kernel
theorem dX6_turnOf_117 : decode cX6_turnOf 117 = .ok (.pop, 1) := by decide +kernel
theorem dX6_turnOf_118 : decode cX6_turnOf 118 = .ok (.goto 48, 3) := by decide +kernel
theorem dX6_turnOf_121 : decode cX6_turnOf 121 = .ok (.iload_n 2, 1) := by decide +kernel
theorem dX6_turnOf_122 : decode cX6_turnOf 122 = .ok (.bipush 16, 2) := by decide +kernel
theorem dX6_turnOf_124 : decode cX6_turnOf 124 = .ok (.idiv, 1) := by decide +kernel
theorem dX6_turnOf_125 : decode cX6_turnOf 125 = .ok (.iconst 4, 1) := by decide +kernel
theorem dX6_turnOf_126 : decode cX6_turnOf 126 = .ok (.irem, 1) := by decide +kernel
theorem dX6_turnOf_127 : decode cX6_turnOf 127 = .ok (.ifCond .le 19, 3) := by decide +kernel
theorem dX6_turnOf_130 : decode cX6_turnOf 130 = .ok (.aload_n 0, 1) := by decide +kernel
theorem dX6_turnOf_131 : decode cX6_turnOf 131 = .ok (.iconst 2, 1) := by decide +kernel
theorem dX6_turnOf_132 : decode cX6_turnOf 132 = .ok (.iload_n 2, 1) := by decide +kernel
theorem dX6_turnOf_133 : decode cX6_turnOf 133 = .ok (.bipush 64, 2) := by decide +kernel
theorem dX6_turnOf_135 : decode cX6_turnOf 135 = .ok (.idiv, 1) := by decide +kernel
theorem dX6_turnOf_136 : decode cX6_turnOf 136 = .ok (.bipush 61, 2) := by decide +kernel
theorem dX6_turnOf_138 : decode cX6_turnOf 138 = .ok (.irem, 1) := by decide +kernel
theorem dX6_turnOf_139 : decode cX6_turnOf 139 = .ok (.invokestatic 137, 3) := by decide +kernel
theorem dX6_turnOf_142 : decode cX6_turnOf 142 = .ok (.pop, 1) := by decide +kernel
theorem dX6_turnOf_143 : decode cX6_turnOf 143 = .ok (.goto 23, 3) := by decide +kernel
theorem dX6_turnOf_146 : decode cX6_turnOf 146 = .ok (.aload_n 0, 1) := by decide +kernel
theorem dX6_turnOf_147 : decode cX6_turnOf 147 = .ok (.iload_n 2, 1) := by decide +kernel
theorem dX6_turnOf_148 : decode cX6_turnOf 148 = .ok (.bipush 12, 2) := by decide +kernel
theorem dX6_turnOf_150 : decode cX6_turnOf 150 = .ok (.irem, 1) := by decide +kernel
theorem dX6_turnOf_151 : decode cX6_turnOf 151 = .ok (.invokestatic 144, 3) := by decide +kernel
theorem dX6_turnOf_154 : decode cX6_turnOf 154 = .ok (.ifCond .eq 12, 3) := by decide +kernel
theorem dX6_turnOf_157 : decode cX6_turnOf 157 = .ok (.aload_n 0, 1) := by decide +kernel
theorem dX6_turnOf_158 : decode cX6_turnOf 158 = .ok (.iload_n 2, 1) := by decide +kernel
theorem dX6_turnOf_159 : decode cX6_turnOf 159 = .ok (.bipush 12, 2) := by decide +kernel
theorem dX6_turnOf_161 : decode cX6_turnOf 161 = .ok (.irem, 1) := by decide +kernel
theorem dX6_turnOf_162 : decode cX6_turnOf 162 = .ok (.invokestatic 147, 3) := by decide +kernel
theorem dX6_turnOf_165 : decode cX6_turnOf 165 = .ok (.pop, 1) := by decide +kernel
theorem dX6_turnOf_166 : decode cX6_turnOf 166 = .ok (.return_, 1) := by decide +kernel
set_option maxRecDepth 20000 in
theorem ggX6_simulate_X6_in : GoodIn wsX6_simulate wsX6_in := goodIn_r _ [9] (by decide +kernel) (by decide +kernel)
set_option maxRecDepth 20000 in
theorem gX6_simulate_X6_in : GoodIn wsX6_simulate (va_wsS RX6 39 yX6_in wsX6_in) := goodIn_app (goodIn_of _ (by decide +kernel)) ggX6_simulate_X6_in
set_option maxRecDepth 20000 in
theorem ggX6_simulate_X6_refused : GoodIn wsX6_simulate wsX6_refused := goodIn_r _ [13, 14, 81, 82, 83, 84, 85, 86, 87, 88, 89, 90, 91] (by decide +kernel) (by decide +kernel)
set_option maxRecDepth 20000 in
theorem gX6_simulate_X6_refused : GoodIn wsX6_simulate (wsV RX6 107 RX6 yX6_refused wsX6_refused) := goodIn_app (goodIn_of _ (by decide +kernel)) ggX6_simulate_X6_refused
set_option maxRecDepth 20000 in
theorem ggX6_simulate_X6_copyState : GoodIn wsX6_simulate wsX6_copyState := goodIn_r _ [17] (by decide +kernel) (by decide +kernel)
set_option maxRecDepth 20000 in
theorem gX6_simulate_X6_copyState : GoodIn wsX6_simulate (va_wsS RX6 158 yX6_copyState wsX6_copyState) := goodIn_app (goodIn_of _ (by decide +kernel)) ggX6_simulate_X6_copyState
set_option maxRecDepth 20000 in
theorem ggX6_simulate_X6_turnOf : GoodIn wsX6_simulate wsX6_turnOf := goodIn_r _ [20, 21, 22, 8, 23, 24, 25, 26, 27, 28, 29, 30, 31, 32, 33, 34, 35, 36, 37, 38, 39, 40, 41, 42, 43, 44, 45, 46, 47, 48, 49, 50, 51, 52, 53, 54, 55, 56, 57, 58, 59, 60, 61, 62, 63, 64, 65, 66, 67, 68, 69, 70, 71, 72, 73, 74, 75, 76, 77, 6, 7, 9, 78, 79, 80] (by decide +kernel) (by decide +kernel)
set_option maxRecDepth 20000 in
theorem gX6_simulate_X6_turnOf : GoodIn wsX6_simulate (va_wsS RX6 206 yX6_turnOf wsX6_turnOf) := goodIn_app (goodIn_of _ (by decide +kernel)) ggX6_simulate_X6_turnOf
theorem dX6_simulate_0 : decode cX6_simulate 0 = .ok (.aload_n 0, 1) := by decide +kernel
theorem dX6_simulate_1 : decode cX6_simulate 1 = .ok (.iload_n 3, 1) := by decide +kernel
theorem dX6_simulate_2 : decode cX6_simulate 2 = .ok (.i2l, 1) := by decide +kernel
theorem dX6_simulate_3 : decode cX6_simulate 3 = .ok (.lconst 1, 1) := by decide +kernel
theorem dX6_simulate_4 : decode cX6_simulate 4 = .ok (.ldc2_w 49, 3) := by decide +kernel
theorem dX6_simulate_7 : decode cX6_simulate 7 = .ok (.invokestatic 39, 3) := by decide +kernel
theorem dX6_simulate_10 : decode cX6_simulate 10 = .ok (.ifCond .eq 7, 3) := by decide +kernel
theorem dX6_simulate_13 : decode cX6_simulate 13 = .ok (.iconst 0, 1) := by decide +kernel
theorem dX6_simulate_14 : decode cX6_simulate 14 = .ok (.goto 4, 3) := by decide +kernel
theorem dX6_simulate_17 : decode cX6_simulate 17 = .ok (.iconst 1, 1) := by decide +kernel
theorem dX6_simulate_18 : decode cX6_simulate 18 = .ok (.invokevirtual 107, 3) := by decide +kernel
theorem dX6_simulate_21 : decode cX6_simulate 21 = .ok (.ifCond .eq 5, 3) := by decide +kernel
theorem dX6_simulate_24 : decode cX6_simulate 24 = .ok (.iconst 0, 1) := by decide +kernel
theorem dX6_simulate_25 : decode cX6_simulate 25 = .ok (.ireturn, 1) := by decide +kernel
theorem dX6_simulate_26 : decode cX6_simulate 26 = .ok (.aload_n 0, 1) := by decide +kernel
theorem dX6_simulate_27 : decode cX6_simulate 27 = .ok (.getfield 13, 3) := by decide +kernel
theorem dX6_simulate_30 : decode cX6_simulate 30 = .ok (.iconst 0, 1) := by decide +kernel
theorem dX6_simulate_31 : decode cX6_simulate 31 = .ok (.aload_n 0, 1) := by decide +kernel
theorem dX6_simulate_32 : decode cX6_simulate 32 = .ok (.getfield 16, 3) := by decide +kernel
theorem dX6_simulate_35 : decode cX6_simulate 35 = .ok (.iconst 0, 1) := by decide +kernel
theorem dX6_simulate_36 : decode cX6_simulate 36 = .ok (.invokestatic 158, 3) := by decide +kernel
theorem dX6_simulate_39 : decode cX6_simulate 39 = .ok (.lload_n 1, 1) := by decide +kernel
theorem dX6_simulate_40 : decode cX6_simulate 40 = .ok (.lstore 4, 2) := by decide +kernel
theorem dX6_simulate_42 : decode cX6_simulate 42 = .ok (.iconst 0, 1) := by decide +kernel
theorem dX6_simulate_43 : decode cX6_simulate 43 = .ok (.istore 6, 2) := by decide +kernel
theorem dX6_simulate_45 : decode cX6_simulate 45 = .ok (.iload 6, 2) := by decide +kernel
theorem dX6_simulate_47 : decode cX6_simulate 47 = .ok (.iload_n 3, 1) := by decide +kernel
theorem dX6_simulate_48 : decode cX6_simulate 48 = .ok (.if_icmp .ge 46, 3) := by decide +kernel
theorem dX6_simulate_51 : decode cX6_simulate 51 = .ok (.lload 4, 2) := by decide +kernel
theorem dX6_simulate_53 : decode cX6_simulate 53 = .ok (.ldc2_w 202, 3) := by decide +kernel
theorem dX6_simulate_56 : decode cX6_simulate 56 = .ok (.lmul, 1) := by decide +kernel
theorem dX6_simulate_57 : decode cX6_simulate 57 = .ok (.ldc2_w 204, 3) := by decide +kernel
theorem dX6_simulate_60 : decode cX6_simulate 60 = .ok (.ladd, 1) := by decide +kernel
theorem dX6_simulate_61 : decode cX6_simulate 61 = .ok (.lstore 4, 2) := by decide +kernel
theorem dX6_simulate_63 : decode cX6_simulate 63 = .ok (.lload 4, 2) := by decide +kernel
theorem dX6_simulate_65 : decode cX6_simulate 65 = .ok (.bipush 33, 2) := by decide +kernel
theorem dX6_simulate_67 : decode cX6_simulate 67 = .ok (.lushr, 1) := by decide +kernel
theorem dX6_simulate_68 : decode cX6_simulate 68 = .ok (.l2i, 1) := by decide +kernel
theorem dX6_simulate_69 : decode cX6_simulate 69 = .ok (.istore 7, 2) := by decide +kernel
theorem dX6_simulate_71 : decode cX6_simulate 71 = .ok (.aload_n 0, 1) := by decide +kernel
theorem dX6_simulate_72 : decode cX6_simulate 72 = .ok (.getfield 16, 3) := by decide +kernel
theorem dX6_simulate_75 : decode cX6_simulate 75 = .ok (.iload 7, 2) := by decide +kernel
theorem dX6_simulate_77 : decode cX6_simulate 77 = .ok (.bipush 8, 2) := by decide +kernel
theorem dX6_simulate_79 : decode cX6_simulate 79 = .ok (.irem, 1) := by decide +kernel
theorem dX6_simulate_80 : decode cX6_simulate 80 = .ok (.iload 7, 2) := by decide +kernel
theorem dX6_simulate_82 : decode cX6_simulate 82 = .ok (.bipush 8, 2) := by decide +kernel
theorem dX6_simulate_84 : decode cX6_simulate 84 = .ok (.idiv, 1) := by decide +kernel
theorem dX6_simulate_85 : decode cX6_simulate 85 = .ok (.invokestatic 206, 3) := by decide +kernel
theorem dX6_simulate_88 : decode cX6_simulate 88 = .ok (.iinc 6 1, 3) := by decide +kernel
theorem dX6_simulate_91 : decode cX6_simulate 91 = .ok (.goto (-46), 3) := by decide +kernel
theorem dX6_simulate_94 : decode cX6_simulate 94 = .ok (.sipush 10000, 3) := by decide +kernel
theorem dX6_simulate_97 : decode cX6_simulate 97 = .ok (.aload_n 0, 1) := by decide +kernel
theorem dX6_simulate_98 : decode cX6_simulate 98 = .ok (.getfield 16, 3) := by decide +kernel
theorem dX6_simulate_101 : decode cX6_simulate 101 = .ok (.bipush 9, 2) := by decide +kernel
theorem dX6_simulate_103 : decode cX6_simulate 103 = .ok (.iaload, 1) := by decide +kernel
theorem dX6_simulate_104 : decode cX6_simulate 104 = .ok (.aload_n 0, 1) := by decide +kernel
theorem dX6_simulate_105 : decode cX6_simulate 105 = .ok (.getfield 13, 3) := by decide +kernel
theorem dX6_simulate_108 : decode cX6_simulate 108 = .ok (.bipush 9, 2) := by decide +kernel
theorem dX6_simulate_110 : decode cX6_simulate 110 = .ok (.iaload, 1) := by decide +kernel
theorem dX6_simulate_111 : decode cX6_simulate 111 = .ok (.isub, 1) := by decide +kernel
theorem dX6_simulate_112 : decode cX6_simulate 112 = .ok (.sipush 10000, 3) := by decide +kernel
theorem dX6_simulate_115 : decode cX6_simulate 115 = .ok (.irem, 1) := by decide +kernel
theorem dX6_simulate_116 : decode cX6_simulate 116 = .ok (.imul, 1) := by decide +kernel
theorem dX6_simulate_117 : decode cX6_simulate 117 = .ok (.bipush 100, 2) := by decide +kernel
theorem dX6_simulate_119 : decode cX6_simulate 119 = .ok (.aload_n 0, 1) := by decide +kernel
theorem dX6_simulate_120 : decode cX6_simulate 120 = .ok (.getfield 16, 3) := by decide +kernel
theorem dX6_simulate_123 : decode cX6_simulate 123 = .ok (.bipush 10, 2) := by decide +kernel
theorem dX6_simulate_125 : decode cX6_simulate 125 = .ok (.iaload, 1) := by decide +kernel
theorem dX6_simulate_126 : decode cX6_simulate 126 = .ok (.aload_n 0, 1) := by decide +kernel
theorem dX6_simulate_127 : decode cX6_simulate 127 = .ok (.getfield 13, 3) := by decide +kernel
theorem dX6_simulate_130 : decode cX6_simulate 130 = .ok (.bipush 10, 2) := by decide +kernel
theorem dX6_simulate_132 : decode cX6_simulate 132 = .ok (.iaload, 1) := by decide +kernel
theorem dX6_simulate_133 : decode cX6_simulate 133 = .ok (.isub, 1) := by decide +kernel
theorem dX6_simulate_134 : decode cX6_simulate 134 = .ok (.bipush 100, 2) := by decide +kernel
theorem dX6_simulate_136 : decode cX6_simulate 136 = .ok (.irem, 1) := by decide +kernel
theorem dX6_simulate_137 : decode cX6_simulate 137 = .ok (.imul, 1) := by decide +kernel
theorem dX6_simulate_138 : decode cX6_simulate 138 = .ok (.iadd, 1) := by decide +kernel
theorem dX6_simulate_139 : decode cX6_simulate 139 = .ok (.aload_n 0, 1) := by decide +kernel
theorem dX6_simulate_140 : decode cX6_simulate 140 = .ok (.getfield 16, 3) := by decide +kernel
theorem dX6_simulate_143 : decode cX6_simulate 143 = .ok (.iconst 0, 1) := by decide +kernel
theorem dX6_simulate_144 : decode cX6_simulate 144 = .ok (.iaload, 1) := by decide +kernel
theorem dX6_simulate_145 : decode cX6_simulate 145 = .ok (.iadd, 1) := by decide +kernel
theorem dX6_simulate_146 : decode cX6_simulate 146 = .ok (.ireturn, 1) := by decide +kernel
set_option maxRecDepth 20000 in
theorem ggX6_save_X6_in : GoodIn wsX6_save wsX6_in := goodIn_r _ [7] (by decide +kernel) (by decide +kernel)
set_option maxRecDepth 20000 in
theorem gX6_save_X6_in : GoodIn wsX6_save (va_wsS RX6 39 yX6_in wsX6_in) := goodIn_app (goodIn_of _ (by decide +kernel)) ggX6_save_X6_in
set_option maxRecDepth 20000 in
theorem ggX6_save_X6_refused : GoodIn wsX6_save wsX6_refused := goodIn_r _ [11, 12, 16, 17, 18, 19, 20, 21, 22, 23, 24, 25, 26] (by decide +kernel) (by decide +kernel)
set_option maxRecDepth 20000 in
theorem gX6_save_X6_refused : GoodIn wsX6_save (wsV RX6 107 RX6 yX6_refused wsX6_refused) := goodIn_app (goodIn_of _ (by decide +kernel)) ggX6_save_X6_refused
set_option maxRecDepth 20000 in
theorem ggX6_save_X6_copyState : GoodIn wsX6_save wsX6_copyState := goodIn_r _ [15] (by decide +kernel) (by decide +kernel)
set_option maxRecDepth 20000 in
theorem gX6_save_X6_copyState : GoodIn wsX6_save (va_wsS RX6 158 yX6_copyState wsX6_copyState) := goodIn_app (goodIn_of _ (by decide +kernel)) ggX6_save_X6_copyState
theorem dX6_save_0 : decode cX6_save 0 = .ok (.aload_n 0, 1) := by decide +kernel
theorem dX6_save_1 : decode cX6_save 1 = .ok (.iload_n 1, 1) := by decide +kernel
theorem dX6_save_2 : decode cX6_save 2 = .ok (.i2l, 1) := by decide +kernel
theorem dX6_save_3 : decode cX6_save 3 = .ok (.lconst 0, 1) := by decide +kernel
theorem dX6_save_4 : decode cX6_save 4 = .ok (.lconst 1, 1) := by decide +kernel
theorem dX6_save_5 : decode cX6_save 5 = .ok (.invokestatic 39, 3) := by decide +kernel
theorem dX6_save_8 : decode cX6_save 8 = .ok (.ifCond .eq 7, 3) := by decide +kernel
theorem dX6_save_11 : decode cX6_save 11 = .ok (.iconst 0, 1) := by decide +kernel
theorem dX6_save_12 : decode cX6_save 12 = .ok (.goto 4, 3) := by decide +kernel
theorem dX6_save_15 : decode cX6_save 15 = .ok (.iconst 1, 1) := by decide +kernel
theorem dX6_save_16 : decode cX6_save 16 = .ok (.invokevirtual 107, 3) := by decide +kernel
theorem dX6_save_19 : decode cX6_save 19 = .ok (.ifCond .eq 5, 3) := by decide +kernel
theorem dX6_save_22 : decode cX6_save 22 = .ok (.iconst 0, 1) := by decide +kernel
theorem dX6_save_23 : decode cX6_save 23 = .ok (.ireturn, 1) := by decide +kernel
theorem dX6_save_24 : decode cX6_save 24 = .ok (.aload_n 0, 1) := by decide +kernel
theorem dX6_save_25 : decode cX6_save 25 = .ok (.getfield 13, 3) := by decide +kernel
theorem dX6_save_28 : decode cX6_save 28 = .ok (.iconst 0, 1) := by decide +kernel
theorem dX6_save_29 : decode cX6_save 29 = .ok (.aload_n 0, 1) := by decide +kernel
theorem dX6_save_30 : decode cX6_save 30 = .ok (.getfield 22, 3) := by decide +kernel
theorem dX6_save_33 : decode cX6_save 33 = .ok (.sipush 217, 3) := by decide +kernel
theorem dX6_save_36 : decode cX6_save 36 = .ok (.iload_n 1, 1) := by decide +kernel
theorem dX6_save_37 : decode cX6_save 37 = .ok (.imul, 1) := by decide +kernel
theorem dX6_save_38 : decode cX6_save 38 = .ok (.invokestatic 158, 3) := by decide +kernel
theorem dX6_save_41 : decode cX6_save 41 = .ok (.aload_n 0, 1) := by decide +kernel
theorem dX6_save_42 : decode cX6_save 42 = .ok (.getfield 25, 3) := by decide +kernel
theorem dX6_save_45 : decode cX6_save 45 = .ok (.iload_n 1, 1) := by decide +kernel
theorem dX6_save_46 : decode cX6_save 46 = .ok (.iconst 1, 1) := by decide +kernel
theorem dX6_save_47 : decode cX6_save 47 = .ok (.bastore, 1) := by decide +kernel
theorem dX6_save_48 : decode cX6_save 48 = .ok (.aload_n 0, 1) := by decide +kernel
theorem dX6_save_49 : decode cX6_save 49 = .ok (.getfield 13, 3) := by decide +kernel
theorem dX6_save_52 : decode cX6_save 52 = .ok (.iconst 5, 1) := by decide +kernel
theorem dX6_save_53 : decode cX6_save 53 = .ok (.iaload, 1) := by decide +kernel
theorem dX6_save_54 : decode cX6_save 54 = .ok (.ireturn, 1) := by decide +kernel
set_option maxRecDepth 20000 in
theorem ggX6_restore_X6_in : GoodIn wsX6_restore wsX6_in := goodIn_r _ [8] (by decide +kernel) (by decide +kernel)
set_option maxRecDepth 20000 in
theorem gX6_restore_X6_in : GoodIn wsX6_restore (va_wsS RX6 39 yX6_in wsX6_in) := goodIn_app (goodIn_of _ (by decide +kernel)) ggX6_restore_X6_in
set_option maxRecDepth 20000 in
theorem ggX6_restore_X6_refused : GoodIn wsX6_restore wsX6_refused := goodIn_r _ [12, 13, 17, 18, 19, 20, 21, 22, 23, 24, 25, 26, 27] (by decide +kernel) (by decide +kernel)
set_option maxRecDepth 20000 in
theorem gX6_restore_X6_refused : GoodIn wsX6_restore (wsV RX6 107 RX6 yX6_refused wsX6_refused) := goodIn_app (goodIn_of _ (by decide +kernel)) ggX6_restore_X6_refused
set_option maxRecDepth 20000 in
theorem ggX6_restore_X6_copyState : GoodIn wsX6_restore wsX6_copyState := goodIn_r _ [16] (by decide +kernel) (by decide +kernel)
set_option maxRecDepth 20000 in
theorem gX6_restore_X6_copyState : GoodIn wsX6_restore (va_wsS RX6 158 yX6_copyState wsX6_copyState) := goodIn_app (goodIn_of _ (by decide +kernel)) ggX6_restore_X6_copyState
theorem dX6_restore_0 : decode cX6_restore 0 = .ok (.aload_n 0, 1) := by decide +kernel
theorem dX6_restore_1 : decode cX6_restore 1 = .ok (.iload_n 1, 1) := by decide +kernel
theorem dX6_restore_2 : decode cX6_restore 2 = .ok (.i2l, 1) := by decide +kernel
theorem dX6_restore_3 : decode cX6_restore 3 = .ok (.lconst 0, 1) := by decide +kernel
theorem dX6_restore_4 : decode cX6_restore 4 = .ok (.lconst 1, 1) := by decide +kernel
theorem dX6_restore_5 : decode cX6_restore 5 = .ok (.invokestatic 39, 3) := by decide +kernel
theorem dX6_restore_8 : decode cX6_restore 8 = .ok (.ifCond .ne 7, 3) := by decide +kernel
theorem dX6_restore_11 : decode cX6_restore 11 = .ok (.iconst 1, 1) := by decide +kernel
theorem dX6_restore_12 : decode cX6_restore 12 = .ok (.goto 17, 3) := by decide +kernel
theorem dX6_restore_15 : decode cX6_restore 15 = .ok (.aload_n 0, 1) := by decide +kernel
theorem dX6_restore_16 : decode cX6_restore 16 = .ok (.getfield 25, 3) := by decide +kernel
theorem dX6_restore_19 : decode cX6_restore 19 = .ok (.iload_n 1, 1) := by decide +kernel
theorem dX6_restore_20 : decode cX6_restore 20 = .ok (.baload, 1) := by decide +kernel
theorem dX6_restore_21 : decode cX6_restore 21 = .ok (.ifCond .ne 7, 3) := by decide +kernel
theorem dX6_restore_24 : decode cX6_restore 24 = .ok (.iconst 2, 1) := by decide +kernel
theorem dX6_restore_25 : decode cX6_restore 25 = .ok (.goto 4, 3) := by decide +kernel
theorem dX6_restore_28 : decode cX6_restore 28 = .ok (.iconst 0, 1) := by decide +kernel
theorem dX6_restore_29 : decode cX6_restore 29 = .ok (.invokevirtual 107, 3) := by decide +kernel
theorem dX6_restore_32 : decode cX6_restore 32 = .ok (.ifCond .eq 5, 3) := by decide +kernel
theorem dX6_restore_35 : decode cX6_restore 35 = .ok (.iconst 0, 1) := by decide +kernel
theorem dX6_restore_36 : decode cX6_restore 36 = .ok (.ireturn, 1) := by decide +kernel
theorem dX6_restore_37 : decode cX6_restore 37 = .ok (.aload_n 0, 1) := by decide +kernel
theorem dX6_restore_38 : decode cX6_restore 38 = .ok (.getfield 22, 3) := by decide +kernel
theorem dX6_restore_41 : decode cX6_restore 41 = .ok (.sipush 217, 3) := by decide +kernel
theorem dX6_restore_44 : decode cX6_restore 44 = .ok (.iload_n 1, 1) := by decide +kernel
theorem dX6_restore_45 : decode cX6_restore 45 = .ok (.imul, 1) := by decide +kernel
theorem dX6_restore_46 : decode cX6_restore 46 = .ok (.aload_n 0, 1) := by decide +kernel
theorem dX6_restore_47 : decode cX6_restore 47 = .ok (.getfield 13, 3) := by decide +kernel
theorem dX6_restore_50 : decode cX6_restore 50 = .ok (.iconst 0, 1) := by decide +kernel
theorem dX6_restore_51 : decode cX6_restore 51 = .ok (.invokestatic 158, 3) := by decide +kernel
theorem dX6_restore_54 : decode cX6_restore 54 = .ok (.aload_n 0, 1) := by decide +kernel
theorem dX6_restore_55 : decode cX6_restore 55 = .ok (.iconst 0, 1) := by decide +kernel
theorem dX6_restore_56 : decode cX6_restore 56 = .ok (.putfield 162, 3) := by decide +kernel
theorem dX6_restore_59 : decode cX6_restore 59 = .ok (.aload_n 0, 1) := by decide +kernel
theorem dX6_restore_60 : decode cX6_restore 60 = .ok (.getfield 13, 3) := by decide +kernel
theorem dX6_restore_63 : decode cX6_restore 63 = .ok (.iconst 5, 1) := by decide +kernel
theorem dX6_restore_64 : decode cX6_restore 64 = .ok (.iaload, 1) := by decide +kernel
theorem dX6_restore_65 : decode cX6_restore 65 = .ok (.ireturn, 1) := by decide +kernel
theorem dJ6_bitCount_0f7a4_0 : decode cJ6_bitCount_0f7a4 0 = .ok (.iload_n 0, 1) := by decide +kernel
theorem dJ6_bitCount_0f7a4_1 : decode cJ6_bitCount_0f7a4 1 = .ok (.iload_n 0, 1) := by decide +kernel
theorem dJ6_bitCount_0f7a4_2 : decode cJ6_bitCount_0f7a4 2 = .ok (.iconst 1, 1) := by decide +kernel
theorem dJ6_bitCount_0f7a4_3 : decode cJ6_bitCount_0f7a4 3 = .ok (.iushr, 1) := by decide +kernel
theorem dJ6_bitCount_0f7a4_4 : decode cJ6_bitCount_0f7a4 4 = .ok (.ldc_w 265, 3) := by decide +kernel
theorem dJ6_bitCount_0f7a4_7 : decode cJ6_bitCount_0f7a4 7 = .ok (.iand, 1) := by decide +kernel
theorem dJ6_bitCount_0f7a4_8 : decode cJ6_bitCount_0f7a4 8 = .ok (.isub, 1) := by decide +kernel
theorem dJ6_bitCount_0f7a4_9 : decode cJ6_bitCount_0f7a4 9 = .ok (.istore_n 0, 1) := by decide +kernel
theorem dJ6_bitCount_0f7a4_10 : decode cJ6_bitCount_0f7a4 10 = .ok (.iload_n 0, 1) := by decide +kernel
theorem dJ6_bitCount_0f7a4_11 : decode cJ6_bitCount_0f7a4 11 = .ok (.ldc_w 266, 3) := by decide +kernel
theorem dJ6_bitCount_0f7a4_14 : decode cJ6_bitCount_0f7a4 14 = .ok (.iand, 1) := by decide +kernel
theorem dJ6_bitCount_0f7a4_15 : decode cJ6_bitCount_0f7a4 15 = .ok (.iload_n 0, 1) := by decide +kernel
theorem dJ6_bitCount_0f7a4_16 : decode cJ6_bitCount_0f7a4 16 = .ok (.iconst 2, 1) := by decide +kernel
theorem dJ6_bitCount_0f7a4_17 : decode cJ6_bitCount_0f7a4 17 = .ok (.iushr, 1) := by decide +kernel
theorem dJ6_bitCount_0f7a4_18 : decode cJ6_bitCount_0f7a4 18 = .ok (.ldc_w 266, 3) := by decide +kernel
theorem dJ6_bitCount_0f7a4_21 : decode cJ6_bitCount_0f7a4 21 = .ok (.iand, 1) := by decide +kernel
theorem dJ6_bitCount_0f7a4_22 : decode cJ6_bitCount_0f7a4 22 = .ok (.iadd, 1) := by decide +kernel
theorem dJ6_bitCount_0f7a4_23 : decode cJ6_bitCount_0f7a4 23 = .ok (.istore_n 0, 1) := by decide +kernel
theorem dJ6_bitCount_0f7a4_24 : decode cJ6_bitCount_0f7a4 24 = .ok (.iload_n 0, 1) := by decide +kernel
theorem dJ6_bitCount_0f7a4_25 : decode cJ6_bitCount_0f7a4 25 = .ok (.iload_n 0, 1) := by decide +kernel
theorem dJ6_bitCount_0f7a4_26 : decode cJ6_bitCount_0f7a4 26 = .ok (.iconst 4, 1) := by decide +kernel
theorem dJ6_bitCount_0f7a4_27 : decode cJ6_bitCount_0f7a4 27 = .ok (.iushr, 1) := by decide +kernel
theorem dJ6_bitCount_0f7a4_28 : decode cJ6_bitCount_0f7a4 28 = .ok (.iadd, 1) := by decide +kernel
theorem dJ6_bitCount_0f7a4_29 : decode cJ6_bitCount_0f7a4 29 = .ok (.ldc_w 267, 3) := by decide +kernel
theorem dJ6_bitCount_0f7a4_32 : decode cJ6_bitCount_0f7a4 32 = .ok (.iand, 1) := by decide +kernel
theorem dJ6_bitCount_0f7a4_33 : decode cJ6_bitCount_0f7a4 33 = .ok (.istore_n 0, 1) := by decide +kernel
theorem dJ6_bitCount_0f7a4_34 : decode cJ6_bitCount_0f7a4 34 = .ok (.iload_n 0, 1) := by decide +kernel
theorem dJ6_bitCount_0f7a4_35 : decode cJ6_bitCount_0f7a4 35 = .ok (.iload_n 0, 1) := by decide +kernel
theorem dJ6_bitCount_0f7a4_36 : decode cJ6_bitCount_0f7a4 36 = .ok (.bipush 8, 2) := by decide +kernel
theorem dJ6_bitCount_0f7a4_38 : decode cJ6_bitCount_0f7a4 38 = .ok (.iushr, 1) := by decide +kernel
theorem dJ6_bitCount_0f7a4_39 : decode cJ6_bitCount_0f7a4 39 = .ok (.iadd, 1) := by decide +kernel
theorem dJ6_bitCount_0f7a4_40 : decode cJ6_bitCount_0f7a4 40 = .ok (.istore_n 0, 1) := by decide +kernel
theorem dJ6_bitCount_0f7a4_41 : decode cJ6_bitCount_0f7a4 41 = .ok (.iload_n 0, 1) := by decide +kernel
theorem dJ6_bitCount_0f7a4_42 : decode cJ6_bitCount_0f7a4 42 = .ok (.iload_n 0, 1) := by decide +kernel
theorem dJ6_bitCount_0f7a4_43 : decode cJ6_bitCount_0f7a4 43 = .ok (.bipush 16, 2) := by decide +kernel
theorem dJ6_bitCount_0f7a4_45 : decode cJ6_bitCount_0f7a4 45 = .ok (.iushr, 1) := by decide +kernel
theorem dJ6_bitCount_0f7a4_46 : decode cJ6_bitCount_0f7a4 46 = .ok (.iadd, 1) := by decide +kernel
theorem dJ6_bitCount_0f7a4_47 : decode cJ6_bitCount_0f7a4 47 = .ok (.istore_n 0, 1) := by decide +kernel
theorem dJ6_bitCount_0f7a4_48 : decode cJ6_bitCount_0f7a4 48 = .ok (.iload_n 0, 1) := by decide +kernel
theorem dJ6_bitCount_0f7a4_49 : decode cJ6_bitCount_0f7a4 49 = .ok (.bipush 63, 2) := by decide +kernel
theorem dJ6_bitCount_0f7a4_51 : decode cJ6_bitCount_0f7a4 51 = .ok (.iand, 1) := by decide +kernel
theorem dJ6_bitCount_0f7a4_52 : decode cJ6_bitCount_0f7a4 52 = .ok (.ireturn, 1) := by decide +kernel
theorem dJ9_max_7cf53_0 : decode cJ9_max_7cf53 0 = .ok (.iload_n 0, 1) := by decide +kernel
theorem dJ9_max_7cf53_1 : decode cJ9_max_7cf53 1 = .ok (.iload_n 1, 1) := by decide +kernel
theorem dJ9_max_7cf53_2 : decode cJ9_max_7cf53 2 = .ok (.if_icmp .lt 7, 3) := by decide +kernel
theorem dJ9_max_7cf53_5 : decode cJ9_max_7cf53 5 = .ok (.iload_n 0, 1) := by decide +kernel
theorem dJ9_max_7cf53_6 : decode cJ9_max_7cf53 6 = .ok (.goto 4, 3) := by decide +kernel
theorem dJ9_max_7cf53_9 : decode cJ9_max_7cf53 9 = .ok (.iload_n 1, 1) := by decide +kernel
theorem dJ9_max_7cf53_10 : decode cJ9_max_7cf53 10 = .ok (.ireturn, 1) := by decide +kernel
theorem dJ9_min_7cf53_0 : decode cJ9_min_7cf53 0 = .ok (.iload_n 0, 1) := by decide +kernel
theorem dJ9_min_7cf53_1 : decode cJ9_min_7cf53 1 = .ok (.iload_n 1, 1) := by decide +kernel
theorem dJ9_min_7cf53_2 : decode cJ9_min_7cf53 2 = .ok (.if_icmp .gt 7, 3) := by decide +kernel
theorem dJ9_min_7cf53_5 : decode cJ9_min_7cf53 5 = .ok (.iload_n 0, 1) := by decide +kernel
theorem dJ9_min_7cf53_6 : decode cJ9_min_7cf53 6 = .ok (.goto 4, 3) := by decide +kernel
theorem dJ9_min_7cf53_9 : decode cJ9_min_7cf53 9 = .ok (.iload_n 1, 1) := by decide +kernel
theorem dJ9_min_7cf53_10 : decode cJ9_min_7cf53 10 = .ok (.ireturn, 1) := by decide +kernel
set_option maxRecDepth 20000 in
theorem ggL_append_X5_append : GoodIn wsL_append wsX5_append := goodIn_ca (goodIn_ca (goodIn_r _ [7, 8, 9, 10, 11, 12, 13, 14, 15, 16, 17, 18, 19, 20, 21, 22, 23, 24, 25, 26, 27, 28, 29, 30, 31, 32, 33, 34, 35, 36, 37] (by decide +kernel) (by decide +kernel)) (goodIn_sub (fun _ h => List.mem_cons_of_mem _ (List.mem_append_left _ (List.mem_append_right _ h))) (by decide +kernel))) (goodIn_sub (fun _ h => List.mem_cons_of_mem _ (List.mem_append_right _ h)) (by decide +kernel))
set_option maxRecDepth 20000 in
theorem gL_append_X5_append : GoodIn wsL_append (wsV RL 7 RX5 yX5_append wsX5_append) := goodIn_app (goodIn_of _ (by decide +kernel)) ggL_append_X5_append
theorem dL_append_0 : decode cL_append 0 = .ok (.aload_n 2, 1) := by decide +kernel
theorem dL_append_1 : decode cL_append 1 = .ok (.iconst 0, 1) := by decide +kernel
theorem dL_append_2 : decode cL_append 2 = .ok (.aload_n 0, 1) := by decide +kernel
theorem dL_append_3 : decode cL_append 3 = .ok (.iload_n 1, 1) := by decide +kernel
theorem dL_append_4 : decode cL_append 4 = .ok (.invokevirtual 7, 3) := by decide +kernel
theorem dL_append_7 : decode cL_append 7 = .ok (.i2l, 1) := by decide +kernel
theorem dL_append_8 : decode cL_append 8 = .ok (.lastore, 1) := by decide +kernel
theorem dL_append_9 : decode cL_append 9 = .ok (.goto 9, 3) := by decide +kernel
theorem dL_append_12 : decode cL_append 12 = .ok (.astore_n 3, 1) := by decide +kernel
theorem dL_append_13 : decode cL_append 13 = .ok (.iconst 1, 1) := by decide +kernel
theorem dL_append_14 : decode cL_append 14 = .ok (.ireturn, 1) := by decide +kernel
theorem dL_append_15 : decode cL_append 15 = .ok (.astore_n 3, 1) := by decide +kernel
theorem dL_append_16 : decode cL_append 16 = .ok (.iconst 2, 1) := by decide +kernel
theorem dL_append_17 : decode cL_append 17 = .ok (.ireturn, 1) := by decide +kernel
theorem dL_append_18 : decode cL_append 18 = .ok (.iconst 0, 1) := by decide +kernel
theorem dL_append_19 : decode cL_append 19 = .ok (.ireturn, 1) := by decide +kernel
set_option maxRecDepth 20000 in
theorem ggL_load_X5_load : GoodIn wsL_load wsX5_load := goodIn_ca (goodIn_r _ [6, 7, 8, 9, 10, 11, 12, 13, 14, 15, 16, 17, 18, 19, 20, 21, 22, 23, 24, 25, 26, 27, 28, 29, 30, 31, 32, 33, 34, 35, 36, 37, 38, 39, 40, 41, 42, 43, 44, 45, 46, 47, 48, 49, 50, 51, 52, 53, 54, 55, 56, 57, 58, 59, 60, 61, 62, 63, 64, 65, 66, 67, 68, 69, 70, 71, 72, 73, 74, 75, 76, 77, 78, 79, 80, 5, 81, 82, 83, 84, 85, 86, 87, 88, 89, 90, 91, 92, 93, 94, 95, 96, 97, 98, 99, 100, 101, 102, 103, 104, 105, 106, 107, 108, 109, 110, 111, 112, 113, 114, 115, 116, 117, 118, 119, 120, 121, 122, 123, 124, 125, 126, 127, 128, 129, 130, 131, 132, 133, 134, 135, 136, 137, 138, 139, 140, 141, 142, 143, 144, 145, 146, 147, 148, 149, 150, 151, 152, 153, 154, 155, 156, 157, 158, 159, 160, 161, 162, 163, 164, 165, 166, 167, 168, 169, 170, 171, 172, 173, 174, 175, 176, 177, 178, 179, 180, 181, 182, 183, 184, 185, 186, 187, 188, 189, 190, 191, 192, 193, 194, 195, 196, 197, 198, 199, 200, 201, 202, 203, 204, 205, 206, 207, 208, 209, 210, 211, 212, 213, 214, 215, 216, 217, 218, 219, 220, 221, 222, 223, 224, 225, 226, 227, 228, 229, 230, 231, 232, 233, 234, 235, 236, 237, 238, 239, 240, 241, 242, 243, 244, 245, 246, 247, 248, 249, 250, 251, 252, 253, 254, 255, 256, 257, 258, 259, 260, 261, 262, 263] (by decide +kernel) (by decide +kernel)) (goodIn_sub (fun _ h => List.mem_cons_of_mem _ (List.mem_append_right _ h)) (by decide +kernel))
set_option maxRecDepth 20000 in
theorem gL_load_X5_load : GoodIn wsL_load (wsV RL 17 RX5 yX5_load wsX5_load) := goodIn_app (goodIn_of _ (by decide +kernel)) ggL_load_X5_load
theorem dL_load_0 : decode cL_load 0 = .ok (.aload_n 1, 1) := by decide +kernel
theorem dL_load_1 : decode cL_load 1 = .ok (.iconst 0, 1) := by decide +kernel
theorem dL_load_2 : decode cL_load 2 = .ok (.aload_n 0, 1) := by decide +kernel
theorem dL_load_3 : decode cL_load 3 = .ok (.invokevirtual 17, 3) := by decide +kernel
theorem dL_load_6 : decode cL_load 6 = .ok (.i2l, 1) := by decide +kernel
theorem dL_load_7 : decode cL_load 7 = .ok (.lastore, 1) := by decide +kernel
theorem dL_load_8 : decode cL_load 8 = .ok (.goto 6, 3) := by decide +kernel
theorem dL_load_11 : decode cL_load 11 = .ok (.astore_n 2, 1) := by decide +kernel
theorem dL_load_12 : decode cL_load 12 = .ok (.iconst 1, 1) := by decide +kernel
theorem dL_load_13 : decode cL_load 13 = .ok (.ireturn, 1) := by decide +kernel
theorem dL_load_14 : decode cL_load 14 = .ok (.iconst 0, 1) := by decide +kernel
theorem dL_load_15 : decode cL_load 15 = .ok (.ireturn, 1) := by decide +kernel
set_option maxRecDepth 20000 in
theorem ggL_about_X5_about : GoodIn wsL_about wsX5_about := goodIn_ca (goodIn_r _ [6, 7, 8, 9, 10, 11, 12, 13, 14, 15, 16, 17, 18, 19, 20, 21, 22, 23, 24, 25, 26, 27, 28, 29, 30, 31, 32, 33, 34, 35, 36, 37, 38, 39, 40, 41, 42, 43, 44, 45, 46, 47, 48, 49, 50, 51, 52, 53, 54, 55, 56, 57] (by decide +kernel) (by decide +kernel)) (goodIn_sub (fun _ h => List.mem_cons_of_mem _ (List.mem_append_right _ h)) (by decide +kernel))
set_option maxRecDepth 20000 in
theorem gL_about_X5_about : GoodIn wsL_about (wsV RL 21 RX5 yX5_about wsX5_about) := goodIn_app (goodIn_of _ (by decide +kernel)) ggL_about_X5_about
theorem dL_about_0 : decode cL_about 0 = .ok (.aload_n 2, 1) := by decide +kernel
theorem dL_about_1 : decode cL_about 1 = .ok (.iconst 0, 1) := by decide +kernel
theorem dL_about_2 : decode cL_about 2 = .ok (.aload_n 0, 1) := by decide +kernel
theorem dL_about_3 : decode cL_about 3 = .ok (.iload_n 1, 1) := by decide +kernel
theorem dL_about_4 : decode cL_about 4 = .ok (.invokevirtual 21, 3) := by decide +kernel
theorem dL_about_7 : decode cL_about 7 = .ok (.i2l, 1) := by decide +kernel
theorem dL_about_8 : decode cL_about 8 = .ok (.lastore, 1) := by decide +kernel
theorem dL_about_9 : decode cL_about 9 = .ok (.goto 6, 3) := by decide +kernel
theorem dL_about_12 : decode cL_about 12 = .ok (.astore_n 3, 1) := by decide +kernel
theorem dL_about_13 : decode cL_about 13 = .ok (.iconst 1, 1) := by decide +kernel
theorem dL_about_14 : decode cL_about 14 = .ok (.ireturn, 1) := by decide +kernel
theorem dL_about_15 : decode cL_about 15 = .ok (.iconst 0, 1) := by decide +kernel
theorem dL_about_16 : decode cL_about 16 = .ok (.ireturn, 1) := by decide +kernel
set_option maxRecDepth 20000 in
theorem ggL_pegOf_X5_pegOf : GoodIn wsL_pegOf wsX5_pegOf := goodIn_ca (goodIn_ca (goodIn_r _ [7, 8, 9, 10, 11, 12, 13, 14, 15, 16, 17, 18, 19, 20, 21, 22, 23, 24, 25, 26, 27, 28, 29, 30, 31, 32, 33, 34, 35, 36, 37, 38, 39, 40, 41, 42, 43, 44, 45, 46, 47, 48, 49, 50, 51, 52, 53, 54, 55, 56] (by decide +kernel) (by decide +kernel)) (goodIn_sub (fun _ h => List.mem_cons_of_mem _ (List.mem_append_left _ (List.mem_append_right _ h))) (by decide +kernel))) (goodIn_sub (fun _ h => List.mem_cons_of_mem _ (List.mem_append_right _ h)) (by decide +kernel))
set_option maxRecDepth 20000 in
theorem gL_pegOf_X5_pegOf : GoodIn wsL_pegOf (wsV RL 24 RX5 yX5_pegOf wsX5_pegOf) := goodIn_app (goodIn_of _ (by decide +kernel)) ggL_pegOf_X5_pegOf
theorem dL_pegOf_0 : decode cL_pegOf 0 = .ok (.aload_n 3, 1) := by decide +kernel
theorem dL_pegOf_1 : decode cL_pegOf 1 = .ok (.iconst 0, 1) := by decide +kernel
theorem dL_pegOf_2 : decode cL_pegOf 2 = .ok (.aload_n 0, 1) := by decide +kernel
theorem dL_pegOf_3 : decode cL_pegOf 3 = .ok (.iload_n 1, 1) := by decide +kernel
theorem dL_pegOf_4 : decode cL_pegOf 4 = .ok (.iload_n 2, 1) := by decide +kernel
theorem dL_pegOf_5 : decode cL_pegOf 5 = .ok (.invokevirtual 24, 3) := by decide +kernel
theorem dL_pegOf_8 : decode cL_pegOf 8 = .ok (.i2l, 1) := by decide +kernel
theorem dL_pegOf_9 : decode cL_pegOf 9 = .ok (.lastore, 1) := by decide +kernel
theorem dL_pegOf_10 : decode cL_pegOf 10 = .ok (.goto 11, 3) := by decide +kernel
theorem dL_pegOf_13 : decode cL_pegOf 13 = .ok (.astore 4, 2) := by decide +kernel
theorem dL_pegOf_15 : decode cL_pegOf 15 = .ok (.iconst 1, 1) := by decide +kernel
theorem dL_pegOf_16 : decode cL_pegOf 16 = .ok (.ireturn, 1) := by decide +kernel
theorem dL_pegOf_17 : decode cL_pegOf 17 = .ok (.astore 4, 2) := by decide +kernel
theorem dL_pegOf_19 : decode cL_pegOf 19 = .ok (.iconst 2, 1) := by decide +kernel
theorem dL_pegOf_20 : decode cL_pegOf 20 = .ok (.ireturn, 1) := by decide +kernel
theorem dL_pegOf_21 : decode cL_pegOf 21 = .ok (.iconst 0, 1) := by decide +kernel
theorem dL_pegOf_22 : decode cL_pegOf 22 = .ok (.ireturn, 1) := by decide +kernel
set_option maxRecDepth 20000 in
theorem ggL_orderOf_X5_orderOf : GoodIn wsL_orderOf wsX5_orderOf := goodIn_ca (goodIn_ca (goodIn_r _ [7, 8, 9, 10, 11, 12, 13, 14, 15, 16, 17, 18, 19, 20, 21, 22, 23, 24, 25, 26, 27, 28, 29, 30, 31, 32, 33, 34, 35, 36, 37, 38, 39, 40, 41, 42, 43, 44, 45, 46, 47, 48, 49, 50, 51, 52, 53, 54, 55, 56] (by decide +kernel) (by decide +kernel)) (goodIn_sub (fun _ h => List.mem_cons_of_mem _ (List.mem_append_left _ (List.mem_append_right _ h))) (by decide +kernel))) (goodIn_sub (fun _ h => List.mem_cons_of_mem _ (List.mem_append_right _ h)) (by decide +kernel))
set_option maxRecDepth 20000 in
theorem gL_orderOf_X5_orderOf : GoodIn wsL_orderOf (wsV RL 30 RX5 yX5_orderOf wsX5_orderOf) := goodIn_app (goodIn_of _ (by decide +kernel)) ggL_orderOf_X5_orderOf
theorem dL_orderOf_0 : decode cL_orderOf 0 = .ok (.aload_n 3, 1) := by decide +kernel
theorem dL_orderOf_1 : decode cL_orderOf 1 = .ok (.iconst 0, 1) := by decide +kernel
theorem dL_orderOf_2 : decode cL_orderOf 2 = .ok (.aload_n 0, 1) := by decide +kernel
theorem dL_orderOf_3 : decode cL_orderOf 3 = .ok (.iload_n 1, 1) := by decide +kernel
theorem dL_orderOf_4 : decode cL_orderOf 4 = .ok (.iload_n 2, 1) := by decide +kernel
theorem dL_orderOf_5 : decode cL_orderOf 5 = .ok (.invokevirtual 30, 3) := by decide +kernel
theorem dL_orderOf_8 : decode cL_orderOf 8 = .ok (.i2l, 1) := by decide +kernel
theorem dL_orderOf_9 : decode cL_orderOf 9 = .ok (.lastore, 1) := by decide +kernel
theorem dL_orderOf_10 : decode cL_orderOf 10 = .ok (.goto 11, 3) := by decide +kernel
theorem dL_orderOf_13 : decode cL_orderOf 13 = .ok (.astore 4, 2) := by decide +kernel
theorem dL_orderOf_15 : decode cL_orderOf 15 = .ok (.iconst 1, 1) := by decide +kernel
theorem dL_orderOf_16 : decode cL_orderOf 16 = .ok (.ireturn, 1) := by decide +kernel
theorem dL_orderOf_17 : decode cL_orderOf 17 = .ok (.astore 4, 2) := by decide +kernel
theorem dL_orderOf_19 : decode cL_orderOf 19 = .ok (.iconst 2, 1) := by decide +kernel
theorem dL_orderOf_20 : decode cL_orderOf 20 = .ok (.ireturn, 1) := by decide +kernel
theorem dL_orderOf_21 : decode cL_orderOf 21 = .ok (.iconst 0, 1) := by decide +kernel
theorem dL_orderOf_22 : decode cL_orderOf 22 = .ok (.ireturn, 1) := by decide +kernel
set_option maxRecDepth 20000 in
theorem ggL_pipeOf_X5_pipeOf : GoodIn wsL_pipeOf wsX5_pipeOf := goodIn_ca (goodIn_ca (goodIn_r _ [7, 8, 9, 10, 11, 12, 13, 14, 6, 15, 16, 17, 18, 19, 20, 21, 22, 23, 24, 25, 26, 27, 28, 29, 30, 31, 32, 33, 34, 35, 36, 37, 38, 39, 40, 41, 42, 43, 44, 45, 46, 47, 48, 49, 50, 51, 52, 53, 54, 55, 56, 57, 58, 59, 60, 61, 62, 63, 64, 65, 66, 67, 68, 69, 70, 71, 72, 73, 74, 75, 76, 77, 78, 79, 80, 81, 82] (by decide +kernel) (by decide +kernel)) (goodIn_sub (fun _ h => List.mem_cons_of_mem _ (List.mem_append_left _ (List.mem_append_right _ h))) (by decide +kernel))) (goodIn_sub (fun _ h => List.mem_cons_of_mem _ (List.mem_append_right _ h)) (by decide +kernel))
set_option maxRecDepth 20000 in
theorem gL_pipeOf_X5_pipeOf : GoodIn wsL_pipeOf (wsV RL 33 RX5 yX5_pipeOf wsX5_pipeOf) := goodIn_app (goodIn_of _ (by decide +kernel)) ggL_pipeOf_X5_pipeOf
theorem dL_pipeOf_0 : decode cL_pipeOf 0 = .ok (.aload_n 3, 1) := by decide +kernel
theorem dL_pipeOf_1 : decode cL_pipeOf 1 = .ok (.iconst 0, 1) := by decide +kernel
theorem dL_pipeOf_2 : decode cL_pipeOf 2 = .ok (.aload_n 0, 1) := by decide +kernel
theorem dL_pipeOf_3 : decode cL_pipeOf 3 = .ok (.iload_n 1, 1) := by decide +kernel
theorem dL_pipeOf_4 : decode cL_pipeOf 4 = .ok (.iload_n 2, 1) := by decide +kernel
theorem dL_pipeOf_5 : decode cL_pipeOf 5 = .ok (.invokevirtual 33, 3) := by decide +kernel
theorem dL_pipeOf_8 : decode cL_pipeOf 8 = .ok (.i2l, 1) := by decide +kernel
theorem dL_pipeOf_9 : decode cL_pipeOf 9 = .ok (.lastore, 1) := by decide +kernel
theorem dL_pipeOf_10 : decode cL_pipeOf 10 = .ok (.goto 11, 3) := by decide +kernel
theorem dL_pipeOf_13 : decode cL_pipeOf 13 = .ok (.astore 4, 2) := by decide +kernel
theorem dL_pipeOf_15 : decode cL_pipeOf 15 = .ok (.iconst 1, 1) := by decide +kernel
theorem dL_pipeOf_16 : decode cL_pipeOf 16 = .ok (.ireturn, 1) := by decide +kernel
theorem dL_pipeOf_17 : decode cL_pipeOf 17 = .ok (.astore 4, 2) := by decide +kernel
theorem dL_pipeOf_19 : decode cL_pipeOf 19 = .ok (.iconst 2, 1) := by decide +kernel
theorem dL_pipeOf_20 : decode cL_pipeOf 20 = .ok (.ireturn, 1) := by decide +kernel
theorem dL_pipeOf_21 : decode cL_pipeOf 21 = .ok (.iconst 0, 1) := by decide +kernel
theorem dL_pipeOf_22 : decode cL_pipeOf 22 = .ok (.ireturn, 1) := by decide +kernel
set_option maxRecDepth 20000 in
theorem ggL_chord_X5_chord : GoodIn wsL_chord wsX5_chord := goodIn_ca (goodIn_r _ [6, 7, 8, 9, 10, 11, 5, 12, 13, 14, 15, 16, 17, 18, 19, 20, 21, 22, 23, 24, 25, 26, 27, 28, 29, 30, 31, 32, 33, 34, 35, 36, 37, 38, 39, 40, 41, 42, 43, 44, 45, 46, 47, 48, 49, 50] (by decide +kernel) (by decide +kernel)) (goodIn_sub (fun _ h => List.mem_cons_of_mem _ (List.mem_append_right _ h)) (by decide +kernel))
set_option maxRecDepth 20000 in
theorem gL_chord_X5_chord : GoodIn wsL_chord (wsV RL 36 RX5 yX5_chord wsX5_chord) := goodIn_app (goodIn_of _ (by decide +kernel)) ggL_chord_X5_chord
theorem dL_chord_0 : decode cL_chord 0 = .ok (.aload_n 2, 1) := by decide +kernel
theorem dL_chord_1 : decode cL_chord 1 = .ok (.iconst 0, 1) := by decide +kernel
theorem dL_chord_2 : decode cL_chord 2 = .ok (.aload_n 0, 1) := by decide +kernel
theorem dL_chord_3 : decode cL_chord 3 = .ok (.iload_n 1, 1) := by decide +kernel
theorem dL_chord_4 : decode cL_chord 4 = .ok (.invokevirtual 36, 3) := by decide +kernel
theorem dL_chord_7 : decode cL_chord 7 = .ok (.i2l, 1) := by decide +kernel
theorem dL_chord_8 : decode cL_chord 8 = .ok (.lastore, 1) := by decide +kernel
theorem dL_chord_9 : decode cL_chord 9 = .ok (.goto 6, 3) := by decide +kernel
theorem dL_chord_12 : decode cL_chord 12 = .ok (.astore_n 3, 1) := by decide +kernel
theorem dL_chord_13 : decode cL_chord 13 = .ok (.iconst 1, 1) := by decide +kernel
theorem dL_chord_14 : decode cL_chord 14 = .ok (.ireturn, 1) := by decide +kernel
theorem dL_chord_15 : decode cL_chord 15 = .ok (.iconst 0, 1) := by decide +kernel
theorem dL_chord_16 : decode cL_chord 16 = .ok (.ireturn, 1) := by decide +kernel
set_option maxRecDepth 20000 in
theorem ggL_covered_X5_covered : GoodIn wsL_covered wsX5_covered := goodIn_ca (goodIn_r _ [6, 7, 8, 9, 10, 11, 12, 13, 14, 15, 16, 17, 18, 19, 20, 21, 22, 23, 24, 5, 25, 26, 27, 28, 29, 30, 31, 32, 33, 34, 35, 36, 37, 38, 39, 40, 41, 42, 43, 44, 45, 46, 47, 48, 49, 50, 51, 52, 53, 54, 55, 56, 57, 58, 59, 60, 61, 62, 63, 64, 65, 66, 67, 68, 69, 70, 71, 72, 73, 74, 75, 76, 77, 78, 79] (by decide +kernel) (by decide +kernel)) (goodIn_sub (fun _ h => List.mem_cons_of_mem _ (List.mem_append_right _ h)) (by decide +kernel))
set_option maxRecDepth 20000 in
theorem gL_covered_X5_covered : GoodIn wsL_covered (wsV RL 39 RX5 yX5_covered wsX5_covered) := goodIn_app (goodIn_of _ (by decide +kernel)) ggL_covered_X5_covered
theorem dL_covered_0 : decode cL_covered 0 = .ok (.aload_n 2, 1) := by decide +kernel
theorem dL_covered_1 : decode cL_covered 1 = .ok (.iconst 0, 1) := by decide +kernel
theorem dL_covered_2 : decode cL_covered 2 = .ok (.aload_n 0, 1) := by decide +kernel
theorem dL_covered_3 : decode cL_covered 3 = .ok (.iload_n 1, 1) := by decide +kernel
theorem dL_covered_4 : decode cL_covered 4 = .ok (.invokevirtual 39, 3) := by decide +kernel
theorem dL_covered_7 : decode cL_covered 7 = .ok (.i2l, 1) := by decide +kernel
theorem dL_covered_8 : decode cL_covered 8 = .ok (.lastore, 1) := by decide +kernel
theorem dL_covered_9 : decode cL_covered 9 = .ok (.goto 6, 3) := by decide +kernel
theorem dL_covered_12 : decode cL_covered 12 = .ok (.astore_n 3, 1) := by decide +kernel
theorem dL_covered_13 : decode cL_covered 13 = .ok (.iconst 1, 1) := by decide +kernel
theorem dL_covered_14 : decode cL_covered 14 = .ok (.ireturn, 1) := by decide +kernel
theorem dL_covered_15 : decode cL_covered 15 = .ok (.iconst 0, 1) := by decide +kernel
theorem dL_covered_16 : decode cL_covered 16 = .ok (.ireturn, 1) := by decide +kernel
set_option maxRecDepth 20000 in
theorem ggL_setting_X5_setting : GoodIn wsL_setting wsX5_setting := goodIn_ca (goodIn_r _ [6, 7, 8, 9, 10, 11, 5, 12, 13, 14, 15, 16, 17, 18, 19, 20, 21, 22, 23, 24, 25, 26, 27, 28, 29, 30, 31, 32, 33, 34, 35, 36, 37, 38, 39, 40, 41, 42] (by decide +kernel) (by decide +kernel)) (goodIn_sub (fun _ h => List.mem_cons_of_mem _ (List.mem_append_right _ h)) (by decide +kernel))
set_option maxRecDepth 20000 in
theorem gL_setting_X5_setting : GoodIn wsL_setting (wsV RL 42 RX5 yX5_setting wsX5_setting) := goodIn_app (goodIn_of _ (by decide +kernel)) ggL_setting_X5_setting
theorem dL_setting_0 : decode cL_setting 0 = .ok (.aload_n 2, 1) := by decide +kernel
theorem dL_setting_1 : decode cL_setting 1 = .ok (.iconst 0, 1) := by decide +kernel
theorem dL_setting_2 : decode cL_setting 2 = .ok (.aload_n 0, 1) := by decide +kernel
theorem dL_setting_3 : decode cL_setting 3 = .ok (.iload_n 1, 1) := by decide +kernel
theorem dL_setting_4 : decode cL_setting 4 = .ok (.invokevirtual 42, 3) := by decide +kernel
theorem dL_setting_7 : decode cL_setting 7 = .ok (.i2l, 1) := by decide +kernel
theorem dL_setting_8 : decode cL_setting 8 = .ok (.lastore, 1) := by decide +kernel
theorem dL_setting_9 : decode cL_setting 9 = .ok (.goto 6, 3) := by decide +kernel
theorem dL_setting_12 : decode cL_setting 12 = .ok (.astore_n 3, 1) := by decide +kernel
theorem dL_setting_13 : decode cL_setting 13 = .ok (.iconst 1, 1) := by decide +kernel
theorem dL_setting_14 : decode cL_setting 14 = .ok (.ireturn, 1) := by decide +kernel
theorem dL_setting_15 : decode cL_setting 15 = .ok (.iconst 0, 1) := by decide +kernel
theorem dL_setting_16 : decode cL_setting 16 = .ok (.ireturn, 1) := by decide +kernel
set_option maxRecDepth 20000 in
theorem ggL_put_X5_put : GoodIn wsL_put wsX5_put := goodIn_ca (goodIn_ca (goodIn_ca (goodIn_r _ [8, 9, 10, 11, 12, 13, 14, 15, 16, 17, 18, 7, 19, 20, 21, 22, 23, 24, 25, 26, 27, 28, 29, 30, 31, 32, 33, 34, 35, 36, 37, 38, 39, 40, 41, 42, 43, 44, 45, 46, 47, 48, 49, 50, 51, 52, 53, 54, 55, 56, 57, 58, 59, 60, 61, 62, 63, 64, 65, 66, 67, 68, 69, 70, 71, 72, 73, 74, 75, 76, 77, 78, 79, 80, 81, 82, 83, 84, 85, 86, 87, 88, 89, 90, 91, 92, 93, 94, 95, 96, 97, 98, 99, 100, 101, 102, 103, 104, 105, 106, 107, 108, 109, 110, 111, 112, 113, 114, 115, 116, 117, 118, 119, 120, 121, 122, 123, 124, 125, 126, 127, 128, 129, 130, 131, 132, 133, 134, 135] (by decide +kernel) (by decide +kernel)) (goodIn_sub (fun _ h => List.mem_cons_of_mem _ (List.mem_append_left _ (List.mem_append_left _ (List.mem_append_right _ h)))) (by decide +kernel))) (goodIn_sub (fun _ h => List.mem_cons_of_mem _ (List.mem_append_left _ (List.mem_append_right _ h))) (by decide +kernel))) (goodIn_sub (fun _ h => List.mem_cons_of_mem _ (List.mem_append_right _ h)) (by decide +kernel))
set_option maxRecDepth 20000 in
theorem gL_put_X5_put : GoodIn wsL_put (wsV RL 45 RX5 yX5_put wsX5_put) := goodIn_app (goodIn_of _ (by decide +kernel)) ggL_put_X5_put
theorem dL_put_0 : decode cL_put 0 = .ok (.aload 4, 2) := by decide +kernel
theorem dL_put_2 : decode cL_put 2 = .ok (.iconst 0, 1) := by decide +kernel
theorem dL_put_3 : decode cL_put 3 = .ok (.aload_n 0, 1) := by decide +kernel
theorem dL_put_4 : decode cL_put 4 = .ok (.iload_n 1, 1) := by decide +kernel
theorem dL_put_5 : decode cL_put 5 = .ok (.iload_n 2, 1) := by decide +kernel
theorem dL_put_6 : decode cL_put 6 = .ok (.iload_n 3, 1) := by decide +kernel
theorem dL_put_7 : decode cL_put 7 = .ok (.invokevirtual 45, 3) := by decide +kernel
theorem dL_put_10 : decode cL_put 10 = .ok (.i2l, 1) := by decide +kernel
theorem dL_put_11 : decode cL_put 11 = .ok (.lastore, 1) := by decide +kernel
theorem dL_put_12 : decode cL_put 12 = .ok (.goto 15, 3) := by decide +kernel
theorem dL_put_15 : decode cL_put 15 = .ok (.astore 5, 2) := by decide +kernel
theorem dL_put_17 : decode cL_put 17 = .ok (.iconst 1, 1) := by decide +kernel
theorem dL_put_18 : decode cL_put 18 = .ok (.ireturn, 1) := by decide +kernel
theorem dL_put_19 : decode cL_put 19 = .ok (.astore 5, 2) := by decide +kernel
theorem dL_put_21 : decode cL_put 21 = .ok (.iconst 2, 1) := by decide +kernel
theorem dL_put_22 : decode cL_put 22 = .ok (.ireturn, 1) := by decide +kernel
theorem dL_put_23 : decode cL_put 23 = .ok (.astore 5, 2) := by decide +kernel
theorem dL_put_25 : decode cL_put 25 = .ok (.iconst 3, 1) := by decide +kernel
theorem dL_put_26 : decode cL_put 26 = .ok (.ireturn, 1) := by decide +kernel
theorem dL_put_27 : decode cL_put 27 = .ok (.iconst 0, 1) := by decide +kernel
theorem dL_put_28 : decode cL_put 28 = .ok (.ireturn, 1) := by decide +kernel
set_option maxRecDepth 20000 in
theorem ggL_pull_X5_pull : GoodIn wsL_pull wsX5_pull := goodIn_ca (goodIn_ca (goodIn_r _ [7, 8, 9, 10, 11, 12, 13, 14, 15, 6, 16, 17, 18, 19, 20, 21, 22, 23, 24, 25, 26, 27, 28, 29, 30, 31, 32, 33, 34, 35, 36, 37, 38, 39, 40, 41, 42, 43, 44, 45, 46, 47, 48, 49, 50, 51, 52, 53, 54, 55, 56, 57, 58, 59, 60, 61, 62, 63, 64, 65, 66, 67, 68, 69, 70, 71, 72, 73, 74, 75, 76, 77, 78, 79, 80, 81, 82, 83, 84, 85, 86, 87, 88, 89, 90, 91, 92, 93, 94, 95, 96, 97, 98, 99, 100, 101, 102, 103, 104, 105, 106, 107, 108, 109, 110, 111, 112, 113, 114, 115, 116, 117, 118, 119, 120, 121, 122, 123, 124, 125, 126, 127, 128, 129] (by decide +kernel) (by decide +kernel)) (goodIn_sub (fun _ h => List.mem_cons_of_mem _ (List.mem_append_left _ (List.mem_append_right _ h))) (by decide +kernel))) (goodIn_sub (fun _ h => List.mem_cons_of_mem _ (List.mem_append_right _ h)) (by decide +kernel))
set_option maxRecDepth 20000 in
theorem gL_pull_X5_pull : GoodIn wsL_pull (wsV RL 49 RX5 yX5_pull wsX5_pull) := goodIn_app (goodIn_of _ (by decide +kernel)) ggL_pull_X5_pull
theorem dL_pull_0 : decode cL_pull 0 = .ok (.aload_n 3, 1) := by decide +kernel
theorem dL_pull_1 : decode cL_pull 1 = .ok (.iconst 0, 1) := by decide +kernel
theorem dL_pull_2 : decode cL_pull 2 = .ok (.aload_n 0, 1) := by decide +kernel
theorem dL_pull_3 : decode cL_pull 3 = .ok (.iload_n 1, 1) := by decide +kernel
theorem dL_pull_4 : decode cL_pull 4 = .ok (.iload_n 2, 1) := by decide +kernel
theorem dL_pull_5 : decode cL_pull 5 = .ok (.invokevirtual 49, 3) := by decide +kernel
theorem dL_pull_8 : decode cL_pull 8 = .ok (.i2l, 1) := by decide +kernel
theorem dL_pull_9 : decode cL_pull 9 = .ok (.lastore, 1) := by decide +kernel
theorem dL_pull_10 : decode cL_pull 10 = .ok (.goto 11, 3) := by decide +kernel
theorem dL_pull_13 : decode cL_pull 13 = .ok (.astore 4, 2) := by decide +kernel
theorem dL_pull_15 : decode cL_pull 15 = .ok (.iconst 1, 1) := by decide +kernel
theorem dL_pull_16 : decode cL_pull 16 = .ok (.ireturn, 1) := by decide +kernel
theorem dL_pull_17 : decode cL_pull 17 = .ok (.astore 4, 2) := by decide +kernel
theorem dL_pull_19 : decode cL_pull 19 = .ok (.iconst 2, 1) := by decide +kernel
theorem dL_pull_20 : decode cL_pull 20 = .ok (.ireturn, 1) := by decide +kernel
theorem dL_pull_21 : decode cL_pull 21 = .ok (.iconst 0, 1) := by decide +kernel
theorem dL_pull_22 : decode cL_pull 22 = .ok (.ireturn, 1) := by decide +kernel
set_option maxRecDepth 20000 in
theorem ggL_cancel_X5_cancel : GoodIn wsL_cancel wsX5_cancel := goodIn_ca (goodIn_r _ [6, 7, 8, 9, 10, 11, 12, 13, 14, 15, 16, 17, 18, 19, 20, 21, 22, 23, 24, 25, 26, 27, 28, 29, 30, 31, 32, 33, 34, 35, 36, 37, 38, 39, 40, 41, 42, 43, 44, 45, 46, 47, 48, 49, 50, 51, 52, 53, 54, 55, 56, 57, 58, 59, 60, 5, 61, 62, 63, 64, 65, 66, 67, 68, 69, 70, 71, 72, 73, 74, 75, 76, 77, 78, 79, 80, 81, 82, 83, 84, 85, 86, 87, 88, 89, 90, 91, 92, 93, 94, 95, 96, 97, 98, 99, 100, 101, 102, 103, 104, 105, 106, 107, 108] (by decide +kernel) (by decide +kernel)) (goodIn_sub (fun _ h => List.mem_cons_of_mem _ (List.mem_append_right _ h)) (by decide +kernel))
set_option maxRecDepth 20000 in
theorem gL_cancel_X5_cancel : GoodIn wsL_cancel (wsV RL 52 RX5 yX5_cancel wsX5_cancel) := goodIn_app (goodIn_of _ (by decide +kernel)) ggL_cancel_X5_cancel
theorem dL_cancel_0 : decode cL_cancel 0 = .ok (.aload_n 2, 1) := by decide +kernel
theorem dL_cancel_1 : decode cL_cancel 1 = .ok (.iconst 0, 1) := by decide +kernel
theorem dL_cancel_2 : decode cL_cancel 2 = .ok (.aload_n 0, 1) := by decide +kernel
theorem dL_cancel_3 : decode cL_cancel 3 = .ok (.iload_n 1, 1) := by decide +kernel
theorem dL_cancel_4 : decode cL_cancel 4 = .ok (.invokevirtual 52, 3) := by decide +kernel
theorem dL_cancel_7 : decode cL_cancel 7 = .ok (.i2l, 1) := by decide +kernel
theorem dL_cancel_8 : decode cL_cancel 8 = .ok (.lastore, 1) := by decide +kernel
theorem dL_cancel_9 : decode cL_cancel 9 = .ok (.goto 6, 3) := by decide +kernel
theorem dL_cancel_12 : decode cL_cancel 12 = .ok (.astore_n 3, 1) := by decide +kernel
theorem dL_cancel_13 : decode cL_cancel 13 = .ok (.iconst 1, 1) := by decide +kernel
theorem dL_cancel_14 : decode cL_cancel 14 = .ok (.ireturn, 1) := by decide +kernel
theorem dL_cancel_15 : decode cL_cancel 15 = .ok (.iconst 0, 1) := by decide +kernel
theorem dL_cancel_16 : decode cL_cancel 16 = .ok (.ireturn, 1) := by decide +kernel
set_option maxRecDepth 20000 in
theorem ggL_ticks_X5_ticks : GoodIn wsL_ticks wsX5_ticks := goodIn_ca (goodIn_r _ [6, 7, 8, 9, 10, 11, 12, 5, 13, 14, 15, 16, 17, 18, 19, 20, 21, 22, 23, 24, 25, 26, 27, 28, 29, 30, 31, 32, 33, 34, 35, 36, 37, 38, 39, 40, 41, 42, 43, 44, 45, 46, 47, 48, 49, 50, 51, 52, 53, 54, 55, 56, 57, 58, 59, 60, 61, 62, 63, 64, 65, 66, 67, 68, 69, 70, 71, 72, 73, 74, 75, 76, 77, 78, 79, 80, 81, 82, 83, 84, 85, 86, 87, 88, 89, 90, 91, 92, 93, 94, 95, 96, 97, 98, 99, 100, 101, 102, 103, 104, 105, 106, 107, 108, 109, 110, 111, 112, 113, 114, 115, 116, 117, 118, 119, 120, 121, 122, 123, 124, 125, 126, 127, 128, 129, 130, 131, 132, 133, 134, 135, 136, 137, 138, 139, 140, 141, 142, 143, 144, 145, 146, 147, 148, 149, 150, 151, 152, 153, 154, 155, 156, 157, 158, 159, 160, 161, 162, 163, 164, 165, 166, 167, 168, 169, 170, 171, 172, 173, 174, 175, 176, 177, 178, 179, 180, 181, 182] (by decide +kernel) (by decide +kernel)) (goodIn_sub (fun _ h => List.mem_cons_of_mem _ (List.mem_append_right _ h)) (by decide +kernel))
set_option maxRecDepth 20000 in
theorem gL_ticks_X5_ticks : GoodIn wsL_ticks (wsV RL 55 RX5 yX5_ticks wsX5_ticks) := goodIn_app (goodIn_of _ (by decide +kernel)) ggL_ticks_X5_ticks
theorem dL_ticks_0 : decode cL_ticks 0 = .ok (.aload_n 2, 1) := by decide +kernel
theorem dL_ticks_1 : decode cL_ticks 1 = .ok (.iconst 0, 1) := by decide +kernel
theorem dL_ticks_2 : decode cL_ticks 2 = .ok (.aload_n 0, 1) := by decide +kernel
theorem dL_ticks_3 : decode cL_ticks 3 = .ok (.iload_n 1, 1) := by decide +kernel
theorem dL_ticks_4 : decode cL_ticks 4 = .ok (.invokevirtual 55, 3) := by decide +kernel
theorem dL_ticks_7 : decode cL_ticks 7 = .ok (.i2l, 1) := by decide +kernel
theorem dL_ticks_8 : decode cL_ticks 8 = .ok (.lastore, 1) := by decide +kernel
theorem dL_ticks_9 : decode cL_ticks 9 = .ok (.goto 6, 3) := by decide +kernel
theorem dL_ticks_12 : decode cL_ticks 12 = .ok (.astore_n 3, 1) := by decide +kernel
theorem dL_ticks_13 : decode cL_ticks 13 = .ok (.iconst 1, 1) := by decide +kernel
theorem dL_ticks_14 : decode cL_ticks 14 = .ok (.ireturn, 1) := by decide +kernel
theorem dL_ticks_15 : decode cL_ticks 15 = .ok (.iconst 0, 1) := by decide +kernel
theorem dL_ticks_16 : decode cL_ticks 16 = .ok (.ireturn, 1) := by decide +kernel
set_option maxRecDepth 20000 in
theorem ggL_set_X5_set : GoodIn wsL_set wsX5_set := goodIn_ca (goodIn_r _ [6, 7, 8, 9, 10, 11, 12, 5, 13, 14, 15, 16, 17, 18, 19, 20, 21, 22, 23, 24, 25, 26, 27, 28, 29, 30, 31, 32, 33, 34, 35, 36, 37, 38, 39, 40, 41, 42, 43, 44, 45, 46, 47, 48, 49, 50, 51, 52, 53, 54, 55, 56, 57, 58, 59, 60, 61, 62, 63, 64, 65, 66, 67, 68, 69, 70, 71, 72, 73, 74, 75, 76, 77, 78, 79, 80, 81, 82, 83, 84, 85, 86, 87, 88, 89, 90, 91, 92, 93, 94, 95, 96, 97, 98, 99, 100, 101, 102, 103] (by decide +kernel) (by decide +kernel)) (goodIn_sub (fun _ h => List.mem_cons_of_mem _ (List.mem_append_right _ h)) (by decide +kernel))
set_option maxRecDepth 20000 in
theorem gL_set_X5_set : GoodIn wsL_set (wsV RL 58 RX5 yX5_set wsX5_set) := goodIn_app (goodIn_of _ (by decide +kernel)) ggL_set_X5_set
theorem dL_set_0 : decode cL_set 0 = .ok (.aload_n 3, 1) := by decide +kernel
theorem dL_set_1 : decode cL_set 1 = .ok (.iconst 0, 1) := by decide +kernel
theorem dL_set_2 : decode cL_set 2 = .ok (.aload_n 0, 1) := by decide +kernel
theorem dL_set_3 : decode cL_set 3 = .ok (.iload_n 1, 1) := by decide +kernel
theorem dL_set_4 : decode cL_set 4 = .ok (.iload_n 2, 1) := by decide +kernel
theorem dL_set_5 : decode cL_set 5 = .ok (.invokevirtual 58, 3) := by decide +kernel
theorem dL_set_8 : decode cL_set 8 = .ok (.i2l, 1) := by decide +kernel
theorem dL_set_9 : decode cL_set 9 = .ok (.lastore, 1) := by decide +kernel
theorem dL_set_10 : decode cL_set 10 = .ok (.goto 7, 3) := by decide +kernel
theorem dL_set_13 : decode cL_set 13 = .ok (.astore 4, 2) := by decide +kernel
theorem dL_set_15 : decode cL_set 15 = .ok (.iconst 1, 1) := by decide +kernel
theorem dL_set_16 : decode cL_set 16 = .ok (.ireturn, 1) := by decide +kernel
theorem dL_set_17 : decode cL_set 17 = .ok (.iconst 0, 1) := by decide +kernel
theorem dL_set_18 : decode cL_set 18 = .ok (.ireturn, 1) := by decide +kernel
set_option maxRecDepth 20000 in
theorem ggL_undo_X5_undo : GoodIn wsL_undo wsX5_undo := goodIn_ca (goodIn_r _ [6, 7, 8, 9, 10, 11, 12, 13, 14, 15, 16, 17, 18, 19, 20, 21, 22, 23, 24, 25, 26, 27, 28, 29, 30, 31, 32, 33, 34, 35, 36, 37, 38, 39, 40, 41, 42, 43, 44, 45, 46, 47, 48, 49, 50, 51, 52, 53, 54, 55, 56, 5, 57, 58, 59, 60, 61, 62, 63, 64, 65, 66, 67, 68, 69, 70, 71, 72, 73, 74, 75, 76, 77, 78, 79, 80, 81, 82, 83, 84, 85, 86, 87, 88, 89, 90, 91, 92, 93, 94, 95] (by decide +kernel) (by decide +kernel)) (goodIn_sub (fun _ h => List.mem_cons_of_mem _ (List.mem_append_right _ h)) (by decide +kernel))
set_option maxRecDepth 20000 in
theorem gL_undo_X5_undo : GoodIn wsL_undo (wsV RL 61 RX5 yX5_undo wsX5_undo) := goodIn_app (goodIn_of _ (by decide +kernel)) ggL_undo_X5_undo
theorem dL_undo_0 : decode cL_undo 0 = .ok (.aload_n 1, 1) := by decide +kernel
theorem dL_undo_1 : decode cL_undo 1 = .ok (.iconst 0, 1) := by decide +kernel
theorem dL_undo_2 : decode cL_undo 2 = .ok (.aload_n 0, 1) := by decide +kernel
theorem dL_undo_3 : decode cL_undo 3 = .ok (.invokevirtual 61, 3) := by decide +kernel
theorem dL_undo_6 : decode cL_undo 6 = .ok (.i2l, 1) := by decide +kernel
theorem dL_undo_7 : decode cL_undo 7 = .ok (.lastore, 1) := by decide +kernel
theorem dL_undo_8 : decode cL_undo 8 = .ok (.goto 6, 3) := by decide +kernel
theorem dL_undo_11 : decode cL_undo 11 = .ok (.astore_n 2, 1) := by decide +kernel
theorem dL_undo_12 : decode cL_undo 12 = .ok (.iconst 1, 1) := by decide +kernel
theorem dL_undo_13 : decode cL_undo 13 = .ok (.ireturn, 1) := by decide +kernel
theorem dL_undo_14 : decode cL_undo 14 = .ok (.iconst 0, 1) := by decide +kernel
theorem dL_undo_15 : decode cL_undo 15 = .ok (.ireturn, 1) := by decide +kernel
set_option maxRecDepth 20000 in
theorem ggL_doneIn_X5_doneIn : GoodIn wsL_doneIn wsX5_doneIn := goodIn_ca (goodIn_r _ [6, 7, 8, 9, 10, 11, 12, 13, 14, 15, 16, 17, 18, 19, 20, 21, 22, 23, 24, 25, 26, 27, 28, 29, 30, 31, 32, 33, 34, 35, 36, 37, 38, 39, 40, 41, 42, 43, 44, 5, 45, 46, 47, 48, 49, 50, 51, 52, 53, 54, 55, 56, 57, 58, 59, 60, 61, 62, 63, 64, 65, 66, 67, 68, 69, 70, 71, 72, 73, 74, 75, 76, 77, 78, 79, 80, 81, 82, 83, 84, 85, 86, 87, 88, 89, 90, 91, 92, 93, 94, 95, 96, 97, 98, 99, 100, 101, 102, 103, 104, 105, 106, 107, 108, 109, 110, 111, 112, 113, 114, 115, 116, 117, 118, 119, 120, 121, 122, 123, 124, 125, 126, 127, 128, 129, 130, 131, 132, 133, 134, 135, 136, 137, 138, 139, 140, 141, 142, 143, 144, 145, 146, 147, 148, 149, 150, 151, 152, 153, 154, 155, 156, 157, 158, 159, 160, 161, 162, 163, 164, 165, 166] (by decide +kernel) (by decide +kernel)) (goodIn_sub (fun _ h => List.mem_cons_of_mem _ (List.mem_append_right _ h)) (by decide +kernel))
set_option maxRecDepth 20000 in
theorem gL_doneIn_X5_doneIn : GoodIn wsL_doneIn (wsV RL 64 RX5 yX5_doneIn wsX5_doneIn) := goodIn_app (goodIn_of _ (by decide +kernel)) ggL_doneIn_X5_doneIn
theorem dL_doneIn_0 : decode cL_doneIn 0 = .ok (.aload_n 2, 1) := by decide +kernel
theorem dL_doneIn_1 : decode cL_doneIn 1 = .ok (.iconst 0, 1) := by decide +kernel
theorem dL_doneIn_2 : decode cL_doneIn 2 = .ok (.aload_n 0, 1) := by decide +kernel
theorem dL_doneIn_3 : decode cL_doneIn 3 = .ok (.iload_n 1, 1) := by decide +kernel
theorem dL_doneIn_4 : decode cL_doneIn 4 = .ok (.invokevirtual 64, 3) := by decide +kernel
theorem dL_doneIn_7 : decode cL_doneIn 7 = .ok (.i2l, 1) := by decide +kernel
theorem dL_doneIn_8 : decode cL_doneIn 8 = .ok (.lastore, 1) := by decide +kernel
theorem dL_doneIn_9 : decode cL_doneIn 9 = .ok (.goto 6, 3) := by decide +kernel
theorem dL_doneIn_12 : decode cL_doneIn 12 = .ok (.astore_n 3, 1) := by decide +kernel
theorem dL_doneIn_13 : decode cL_doneIn 13 = .ok (.iconst 1, 1) := by decide +kernel
theorem dL_doneIn_14 : decode cL_doneIn 14 = .ok (.ireturn, 1) := by decide +kernel
theorem dL_doneIn_15 : decode cL_doneIn 15 = .ok (.iconst 0, 1) := by decide +kernel
theorem dL_doneIn_16 : decode cL_doneIn 16 = .ok (.ireturn, 1) := by decide +kernel
set_option maxRecDepth 20000 in
theorem ggL_soundsIn_X5_soundsIn : GoodIn wsL_soundsIn wsX5_soundsIn := goodIn_ca (goodIn_r _ [6, 7, 8, 9, 10, 11, 12, 5, 13, 14, 15, 16, 17, 18, 19, 20, 21, 22, 23, 24, 25, 26, 27, 28, 29, 30, 31, 32, 33, 34, 35, 36, 37, 38, 39, 40, 41, 42, 43, 44, 45, 46, 47, 48, 49, 50, 51, 52, 53, 54, 55, 56, 57, 58, 59, 60, 61, 62, 63, 64, 65, 66, 67, 68, 69, 70, 71, 72, 73, 74, 75, 76, 77, 78, 79, 80, 81, 82, 83, 84, 85, 86, 87, 88, 89, 90, 91, 92, 93, 94, 95, 96, 97, 98, 99, 100, 101, 102, 103, 104, 105, 106, 107, 108, 109, 110, 111, 112, 113, 114, 115, 116, 117, 118, 119, 120, 121, 122, 123, 124, 125, 126, 127, 128, 129, 130, 131, 132, 133, 134, 135, 136, 137, 138, 139, 140, 141, 142, 143, 144, 145, 146, 147, 148, 149, 150, 151, 152, 153, 154, 155, 156, 157, 158, 159, 160, 161, 162, 163, 164, 165, 166, 167] (by decide +kernel) (by decide +kernel)) (goodIn_sub (fun _ h => List.mem_cons_of_mem _ (List.mem_append_right _ h)) (by decide +kernel))
