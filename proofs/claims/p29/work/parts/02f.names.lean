theorem dX5_simulateTurn_52 : decode cX5_simulateTurn 52 = .ok (.iload_n 2, 1) := by decide +kernel
theorem dX5_simulateTurn_53 : decode cX5_simulateTurn 53 = .ok (.bipush 6, 2) := by decide +kernel
theorem dX5_simulateTurn_55 : decode cX5_simulateTurn 55 = .ok (.irem, 1) := by decide +kernel
theorem dX5_simulateTurn_56 : decode cX5_simulateTurn 56 = .ok (.iload_n 2, 1) := by decide +kernel
theorem dX5_simulateTurn_57 : decode cX5_simulateTurn 57 = .ok (.bipush 8, 2) := by decide +kernel
theorem dX5_simulateTurn_59 : decode cX5_simulateTurn 59 = .ok (.idiv, 1) := by decide +kernel
theorem dX5_simulateTurn_60 : decode cX5_simulateTurn 60 = .ok (.bipush 24, 2) := by decide +kernel
theorem dX5_simulateTurn_62 : decode cX5_simulateTurn 62 = .ok (.irem, 1) := by decide +kernel
theorem dX5_simulateTurn_63 : decode cX5_simulateTurn 63 = .ok (.iconst 1, 1) := by decide +kernel
theorem dX5_simulateTurn_64 : decode cX5_simulateTurn 64 = .ok (.iload_n 2, 1) := by decide +kernel
theorem dX5_simulateTurn_65 : decode cX5_simulateTurn 65 = .ok (.sipush 256, 3) := by decide +kernel
theorem dX5_simulateTurn_68 : decode cX5_simulateTurn 68 = .ok (.idiv, 1) := by decide +kernel
theorem dX5_simulateTurn_69 : decode cX5_simulateTurn 69 = .ok (.bipush 6, 2) := by decide +kernel
theorem dX5_simulateTurn_71 : decode cX5_simulateTurn 71 = .ok (.irem, 1) := by decide +kernel
theorem dX5_simulateTurn_72 : decode cX5_simulateTurn 72 = .ok (.iadd, 1) := by decide +kernel
theorem dX5_simulateTurn_73 : decode cX5_simulateTurn 73 = .ok (.invokevirtual 104, 3) := by decide +kernel
theorem dX5_simulateTurn_76 : decode cX5_simulateTurn 76 = .ok (.pop, 1) := by decide +kernel
theorem dX5_simulateTurn_77 : decode cX5_simulateTurn 77 = .ok (.goto 124, 3) := by decide +kernel
theorem dX5_simulateTurn_80 : decode cX5_simulateTurn 80 = .ok (.aload_n 0, 1) := by decide +kernel
theorem dX5_simulateTurn_81 : decode cX5_simulateTurn 81 = .ok (.getfield 26, 3) := by decide +kernel
theorem dX5_simulateTurn_84 : decode cX5_simulateTurn 84 = .ok (.iload_n 2, 1) := by decide +kernel
theorem dX5_simulateTurn_85 : decode cX5_simulateTurn 85 = .ok (.bipush 6, 2) := by decide +kernel
theorem dX5_simulateTurn_87 : decode cX5_simulateTurn 87 = .ok (.irem, 1) := by decide +kernel
theorem dX5_simulateTurn_88 : decode cX5_simulateTurn 88 = .ok (.iload_n 2, 1) := by decide +kernel
theorem dX5_simulateTurn_89 : decode cX5_simulateTurn 89 = .ok (.bipush 8, 2) := by decide +kernel
theorem dX5_simulateTurn_91 : decode cX5_simulateTurn 91 = .ok (.idiv, 1) := by decide +kernel
theorem dX5_simulateTurn_92 : decode cX5_simulateTurn 92 = .ok (.bipush 24, 2) := by decide +kernel
theorem dX5_simulateTurn_94 : decode cX5_simulateTurn 94 = .ok (.irem, 1) := by decide +kernel
theorem dX5_simulateTurn_95 : decode cX5_simulateTurn 95 = .ok (.invokevirtual 108, 3) := by decide +kernel
theorem dX5_simulateTurn_98 : decode cX5_simulateTurn 98 = .ok (.pop, 1) := by decide +kernel
theorem dX5_simulateTurn_99 : decode cX5_simulateTurn 99 = .ok (.goto 102, 3) := by decide +kernel
theorem dX5_simulateTurn_102 : decode cX5_simulateTurn 102 = .ok (.iload_n 2, 1) := by decide +kernel
theorem dX5_simulateTurn_103 : decode cX5_simulateTurn 103 = .ok (.iconst 4, 1) := by decide +kernel
theorem dX5_simulateTurn_104 : decode cX5_simulateTurn 104 = .ok (.idiv, 1) := by decide +kernel
theorem dX5_simulateTurn_105 : decode cX5_simulateTurn 105 = .ok (.iconst 2, 1) := by decide +kernel
theorem dX5_simulateTurn_106 : decode cX5_simulateTurn 106 = .ok (.irem, 1) := by decide +kernel
theorem dX5_simulateTurn_107 : decode cX5_simulateTurn 107 = .ok (.ifCond .ne 18, 3) := by decide +kernel
theorem dX5_simulateTurn_110 : decode cX5_simulateTurn 110 = .ok (.aload_n 0, 1) := by decide +kernel
theorem dX5_simulateTurn_111 : decode cX5_simulateTurn 111 = .ok (.getfield 26, 3) := by decide +kernel
theorem dX5_simulateTurn_114 : decode cX5_simulateTurn 114 = .ok (.iconst 0, 1) := by decide +kernel
theorem dX5_simulateTurn_115 : decode cX5_simulateTurn 115 = .ok (.iload_n 2, 1) := by decide +kernel
theorem dX5_simulateTurn_116 : decode cX5_simulateTurn 116 = .ok (.iconst 4, 1) := by decide +kernel
theorem dX5_simulateTurn_117 : decode cX5_simulateTurn 117 = .ok (.irem, 1) := by decide +kernel
theorem dX5_simulateTurn_118 : decode cX5_simulateTurn 118 = .ok (.invokevirtual 112, 3) := by decide +kernel
theorem dX5_simulateTurn_121 : decode cX5_simulateTurn 121 = .ok (.pop, 1) := by decide +kernel
theorem dX5_simulateTurn_122 : decode cX5_simulateTurn 122 = .ok (.goto 79, 3) := by decide +kernel
theorem dX5_simulateTurn_125 : decode cX5_simulateTurn 125 = .ok (.aload_n 0, 1) := by decide +kernel
theorem dX5_simulateTurn_126 : decode cX5_simulateTurn 126 = .ok (.getfield 26, 3) := by decide +kernel
theorem dX5_simulateTurn_129 : decode cX5_simulateTurn 129 = .ok (.iconst 1, 1) := by decide +kernel
theorem dX5_simulateTurn_130 : decode cX5_simulateTurn 130 = .ok (.iload_n 2, 1) := by decide +kernel
theorem dX5_simulateTurn_131 : decode cX5_simulateTurn 131 = .ok (.bipush 8, 2) := by decide +kernel
theorem dX5_simulateTurn_133 : decode cX5_simulateTurn 133 = .ok (.idiv, 1) := by decide +kernel
theorem dX5_simulateTurn_134 : decode cX5_simulateTurn 134 = .ok (.bipush 10, 2) := by decide +kernel
theorem dX5_simulateTurn_136 : decode cX5_simulateTurn 136 = .ok (.irem, 1) := by decide +kernel
theorem dX5_simulateTurn_137 : decode cX5_simulateTurn 137 = .ok (.invokevirtual 112, 3) := by decide +kernel
theorem dX5_simulateTurn_140 : decode cX5_simulateTurn 140 = .ok (.pop, 1) := by decide +kernel
theorem dX5_simulateTurn_141 : decode cX5_simulateTurn 141 = .ok (.goto 60, 3) := by decide +kernel
theorem dX5_simulateTurn_144 : decode cX5_simulateTurn 144 = .ok (.iload_n 2, 1) := by decide +kernel
theorem dX5_simulateTurn_145 : decode cX5_simulateTurn 145 = .ok (.bipush 16, 2) := by decide +kernel
theorem dX5_simulateTurn_147 : decode cX5_simulateTurn 147 = .ok (.idiv, 1) := by decide +kernel
theorem dX5_simulateTurn_148 : decode cX5_simulateTurn 148 = .ok (.iconst 4, 1) := by decide +kernel
theorem dX5_simulateTurn_149 : decode cX5_simulateTurn 149 = .ok (.irem, 1) := by decide +kernel
theorem dX5_simulateTurn_150 : decode cX5_simulateTurn 150 = .ok (.ifCond .ne 18, 3) := by decide +kernel
theorem dX5_simulateTurn_153 : decode cX5_simulateTurn 153 = .ok (.aload_n 0, 1) := by decide +kernel
theorem dX5_simulateTurn_154 : decode cX5_simulateTurn 154 = .ok (.getfield 26, 3) := by decide +kernel
theorem dX5_simulateTurn_157 : decode cX5_simulateTurn 157 = .ok (.iload_n 2, 1) := by decide +kernel
theorem dX5_simulateTurn_158 : decode cX5_simulateTurn 158 = .ok (.bipush 12, 2) := by decide +kernel
theorem dX5_simulateTurn_160 : decode cX5_simulateTurn 160 = .ok (.irem, 1) := by decide +kernel
theorem dX5_simulateTurn_161 : decode cX5_simulateTurn 161 = .ok (.invokevirtual 119, 3) := by decide +kernel
theorem dX5_simulateTurn_164 : decode cX5_simulateTurn 164 = .ok (.pop, 1) := by decide +kernel
theorem dX5_simulateTurn_165 : decode cX5_simulateTurn 165 = .ok (.goto 36, 3) := by decide +kernel
theorem dX5_simulateTurn_168 : decode cX5_simulateTurn 168 = .ok (.aload_n 0, 1) := by decide +kernel
theorem dX5_simulateTurn_169 : decode cX5_simulateTurn 169 = .ok (.getfield 26, 3) := by decide +kernel
theorem dX5_simulateTurn_172 : decode cX5_simulateTurn 172 = .ok (.iconst 2, 1) := by decide +kernel
theorem dX5_simulateTurn_173 : decode cX5_simulateTurn 173 = .ok (.iload_n 2, 1) := by decide +kernel
theorem dX5_simulateTurn_174 : decode cX5_simulateTurn 174 = .ok (.bipush 64, 2) := by decide +kernel
theorem dX5_simulateTurn_176 : decode cX5_simulateTurn 176 = .ok (.idiv, 1) := by decide +kernel
theorem dX5_simulateTurn_177 : decode cX5_simulateTurn 177 = .ok (.bipush 61, 2) := by decide +kernel
theorem dX5_simulateTurn_179 : decode cX5_simulateTurn 179 = .ok (.irem, 1) := by decide +kernel
theorem dX5_simulateTurn_180 : decode cX5_simulateTurn 180 = .ok (.invokevirtual 112, 3) := by decide +kernel
theorem dX5_simulateTurn_183 : decode cX5_simulateTurn 183 = .ok (.pop, 1) := by decide +kernel
theorem dX5_simulateTurn_184 : decode cX5_simulateTurn 184 = .ok (.goto 17, 3) := by decide +kernel
theorem dX5_simulateTurn_187 : decode cX5_simulateTurn 187 = .ok (.aload_n 0, 1) := by decide +kernel
theorem dX5_simulateTurn_188 : decode cX5_simulateTurn 188 = .ok (.getfield 26, 3) := by decide +kernel
theorem dX5_simulateTurn_191 : decode cX5_simulateTurn 191 = .ok (.iconst 1, 1) := by decide +kernel
theorem dX5_simulateTurn_192 : decode cX5_simulateTurn 192 = .ok (.iload_n 2, 1) := by decide +kernel
theorem dX5_simulateTurn_193 : decode cX5_simulateTurn 193 = .ok (.bipush 12, 2) := by decide +kernel
theorem dX5_simulateTurn_195 : decode cX5_simulateTurn 195 = .ok (.irem, 1) := by decide +kernel
theorem dX5_simulateTurn_196 : decode cX5_simulateTurn 196 = .ok (.iadd, 1) := by decide +kernel
theorem dX5_simulateTurn_197 : decode cX5_simulateTurn 197 = .ok (.invokevirtual 115, 3) := by decide +kernel
theorem dX5_simulateTurn_200 : decode cX5_simulateTurn 200 = .ok (.pop, 1) := by decide +kernel
theorem dX5_simulateTurn_201 : decode cX5_simulateTurn 201 = .ok (.return_, 1) := by decide +kernel
set_option maxRecDepth 20000 in
theorem ggX5_save_X3_has : GoodIn wsX5_save wsX3_has := goodIn_r _ [9] (by decide +kernel) (by decide +kernel)
set_option maxRecDepth 20000 in
theorem gX5_save_X3_has : GoodIn wsX5_save (wsV RX5 278 RX3 yX3_has wsX3_has) := goodIn_app (goodIn_of _ (by decide +kernel)) ggX5_save_X3_has
set_option maxRecDepth 20000 in
theorem ggX5_save_X3_store : GoodIn wsX5_save wsX3_store := goodIn_r _ [13, 14, 15, 16, 6, 7, 8, 9, 17, 18, 19, 20, 21, 22, 23, 24, 25, 26, 27, 28, 29, 30, 31, 32, 33, 34, 35, 36, 37, 38, 39, 40, 41, 42, 43, 44, 45, 46, 47, 48, 49, 50, 51, 52, 53, 54, 55, 56, 80, 81, 63, 64, 65, 66, 67, 68, 69, 70, 71, 72, 73, 74, 75, 76, 77, 78, 79, 82, 83, 84, 85] (by decide +kernel) (by decide +kernel)
set_option maxRecDepth 20000 in
theorem gX5_save_X3_store : GoodIn wsX5_save (wsV RX5 281 RX3 yX3_store wsX3_store) := goodIn_app (goodIn_of _ (by decide +kernel)) ggX5_save_X3_store
theorem dX5_save_0 : decode cX5_save 0 = .ok (.aload_n 0, 1) := by decide +kernel
theorem dX5_save_1 : decode cX5_save 1 = .ok (.getfield 39, 3) := by decide +kernel
theorem dX5_save_4 : decode cX5_save 4 = .ok (.iload_n 1, 1) := by decide +kernel
theorem dX5_save_5 : decode cX5_save 5 = .ok (.invokevirtual 278, 3) := by decide +kernel
theorem dX5_save_8 : decode cX5_save 8 = .ok (.ifCond .ne 14, 3) := by decide +kernel
theorem dX5_save_11 : decode cX5_save 11 = .ok (.new 137, 3) := by decide +kernel
theorem dX5_save_14 : decode cX5_save 14 = .ok (.dup, 1) := by decide +kernel
theorem dX5_save_15 : decode cX5_save 15 = .ok (.ldc_w 279, 3) := by decide +kernel
theorem dX5_save_18 : decode cX5_save 18 = .ok (.invokespecial 141, 3) := by decide +kernel
theorem dX5_save_21 : decode cX5_save 21 = .ok (.athrow, 1) := by decide +kernel
theorem dX5_save_22 : decode cX5_save 22 = .ok (.aload_n 0, 1) := by decide +kernel
theorem dX5_save_23 : decode cX5_save 23 = .ok (.getfield 39, 3) := by decide +kernel
theorem dX5_save_26 : decode cX5_save 26 = .ok (.iload_n 1, 1) := by decide +kernel
theorem dX5_save_27 : decode cX5_save 27 = .ok (.aload_n 0, 1) := by decide +kernel
theorem dX5_save_28 : decode cX5_save 28 = .ok (.getfield 19, 3) := by decide +kernel
theorem dX5_save_31 : decode cX5_save 31 = .ok (.invokevirtual 281, 3) := by decide +kernel
theorem dX5_save_34 : decode cX5_save 34 = .ok (.aload_n 0, 1) := by decide +kernel
theorem dX5_save_35 : decode cX5_save 35 = .ok (.getfield 19, 3) := by decide +kernel
theorem dX5_save_38 : decode cX5_save 38 = .ok (.getfield 259, 3) := by decide +kernel
theorem dX5_save_41 : decode cX5_save 41 = .ok (.ireturn, 1) := by decide +kernel
set_option maxRecDepth 20000 in
theorem ggX5_restore_X3_has : GoodIn wsX5_restore wsX3_has := goodIn_r _ [12] (by decide +kernel) (by decide +kernel)
set_option maxRecDepth 20000 in
theorem gX5_restore_X3_has : GoodIn wsX5_restore (wsV RX5 278 RX3 yX3_has wsX3_has) := goodIn_app (goodIn_of _ (by decide +kernel)) ggX5_restore_X3_has
set_option maxRecDepth 20000 in
theorem ggX5_restore_X3_isStored : GoodIn wsX5_restore wsX3_isStored := goodIn_r _ [16, 17, 18, 9, 10, 11, 12, 93, 94] (by decide +kernel) (by decide +kernel)
set_option maxRecDepth 20000 in
theorem gX5_restore_X3_isStored : GoodIn wsX5_restore (wsV RX5 285 RX3 yX3_isStored wsX3_isStored) := goodIn_app (goodIn_of _ (by decide +kernel)) ggX5_restore_X3_isStored
set_option maxRecDepth 20000 in
theorem ggX5_restore_X3_fetch : GoodIn wsX5_restore wsX3_fetch := goodIn_r _ [22, 23, 18, 9, 10, 11, 12, 24, 25, 26, 27, 28, 29, 30, 31, 32, 33, 34, 35, 36, 37, 38, 39, 40, 41, 42, 43, 44, 45, 46, 47, 48, 49, 50, 51, 52, 53, 54, 55, 56, 57, 58, 59, 60, 61, 62, 63, 93, 94, 76, 77, 78, 79, 80, 81, 82, 83, 84, 85, 86, 87, 88, 89, 90, 91, 92, 95, 96, 97, 98] (by decide +kernel) (by decide +kernel)
set_option maxRecDepth 20000 in
theorem gX5_restore_X3_fetch : GoodIn wsX5_restore (wsV RX5 290 RX3 yX3_fetch wsX3_fetch) := goodIn_app (goodIn_of _ (by decide +kernel)) ggX5_restore_X3_fetch
set_option maxRecDepth 20000 in
theorem ggX5_restore_X0_forget : GoodIn wsX5_restore wsX0_forget := goodIn_r _ [68, 69, 99, 100, 101] (by decide +kernel) (by decide +kernel)
set_option maxRecDepth 20000 in
theorem gX5_restore_X0_forget : GoodIn wsX5_restore (wsV RX5 76 RX0 yX0_forget wsX0_forget) := goodIn_app (goodIn_of _ (by decide +kernel)) ggX5_restore_X0_forget
theorem dX5_restore_0 : decode cX5_restore 0 = .ok (.aload_n 0, 1) := by decide +kernel
theorem dX5_restore_1 : decode cX5_restore 1 = .ok (.getfield 39, 3) := by decide +kernel
theorem dX5_restore_4 : decode cX5_restore 4 = .ok (.iload_n 1, 1) := by decide +kernel
theorem dX5_restore_5 : decode cX5_restore 5 = .ok (.invokevirtual 278, 3) := by decide +kernel
theorem dX5_restore_8 : decode cX5_restore 8 = .ok (.ifCond .ne 14, 3) := by decide +kernel
theorem dX5_restore_11 : decode cX5_restore 11 = .ok (.new 137, 3) := by decide +kernel
theorem dX5_restore_14 : decode cX5_restore 14 = .ok (.dup, 1) := by decide +kernel
theorem dX5_restore_15 : decode cX5_restore 15 = .ok (.ldc_w 279, 3) := by decide +kernel
theorem dX5_restore_18 : decode cX5_restore 18 = .ok (.invokespecial 141, 3) := by decide +kernel
theorem dX5_restore_21 : decode cX5_restore 21 = .ok (.athrow, 1) := by decide +kernel
theorem dX5_restore_22 : decode cX5_restore 22 = .ok (.aload_n 0, 1) := by decide +kernel
theorem dX5_restore_23 : decode cX5_restore 23 = .ok (.getfield 39, 3) := by decide +kernel
theorem dX5_restore_26 : decode cX5_restore 26 = .ok (.iload_n 1, 1) := by decide +kernel
theorem dX5_restore_27 : decode cX5_restore 27 = .ok (.invokevirtual 285, 3) := by decide +kernel
theorem dX5_restore_30 : decode cX5_restore 30 = .ok (.ifCond .ne 14, 3) := by decide +kernel
theorem dX5_restore_33 : decode cX5_restore 33 = .ok (.new 54, 3) := by decide +kernel
theorem dX5_restore_36 : decode cX5_restore 36 = .ok (.dup, 1) := by decide +kernel
theorem dX5_restore_37 : decode cX5_restore 37 = .ok (.ldc_w 288, 3) := by decide +kernel
theorem dX5_restore_40 : decode cX5_restore 40 = .ok (.invokespecial 58, 3) := by decide +kernel
theorem dX5_restore_43 : decode cX5_restore 43 = .ok (.athrow, 1) := by decide +kernel
theorem dX5_restore_44 : decode cX5_restore 44 = .ok (.aload_n 0, 1) := by decide +kernel
theorem dX5_restore_45 : decode cX5_restore 45 = .ok (.getfield 39, 3) := by decide +kernel
theorem dX5_restore_48 : decode cX5_restore 48 = .ok (.iload_n 1, 1) := by decide +kernel
theorem dX5_restore_49 : decode cX5_restore 49 = .ok (.aload_n 0, 1) := by decide +kernel
theorem dX5_restore_50 : decode cX5_restore 50 = .ok (.getfield 19, 3) := by decide +kernel
theorem dX5_restore_53 : decode cX5_restore 53 = .ok (.invokevirtual 290, 3) := by decide +kernel
theorem dX5_restore_56 : decode cX5_restore 56 = .ok (.aload_n 0, 1) := by decide +kernel
theorem dX5_restore_57 : decode cX5_restore 57 = .ok (.getfield 32, 3) := by decide +kernel
theorem dX5_restore_60 : decode cX5_restore 60 = .ok (.invokevirtual 76, 3) := by decide +kernel
theorem dX5_restore_63 : decode cX5_restore 63 = .ok (.aload_n 0, 1) := by decide +kernel
theorem dX5_restore_64 : decode cX5_restore 64 = .ok (.getfield 19, 3) := by decide +kernel
theorem dX5_restore_67 : decode cX5_restore 67 = .ok (.getfield 259, 3) := by decide +kernel
theorem dX5_restore_70 : decode cX5_restore 70 = .ok (.ireturn, 1) := by decide +kernel
theorem dX5_isPipe_0 : decode cX5_isPipe 0 = .ok (.iload_n 0, 1) := by decide +kernel
theorem dX5_isPipe_1 : decode cX5_isPipe 1 = .ok (.ifCond .lt 13, 3) := by decide +kernel
theorem dX5_isPipe_4 : decode cX5_isPipe 4 = .ok (.iload_n 0, 1) := by decide +kernel
theorem dX5_isPipe_5 : decode cX5_isPipe 5 = .ok (.bipush 6, 2) := by decide +kernel
theorem dX5_isPipe_7 : decode cX5_isPipe 7 = .ok (.if_icmp .ge 7, 3) := by decide +kernel
theorem dX5_isPipe_10 : decode cX5_isPipe 10 = .ok (.iconst 1, 1) := by decide +kernel
theorem dX5_isPipe_11 : decode cX5_isPipe 11 = .ok (.goto 4, 3) := by decide +kernel
theorem dX5_isPipe_14 : decode cX5_isPipe 14 = .ok (.iconst 0, 1) := by decide +kernel
theorem dX5_isPipe_15 : decode cX5_isPipe 15 = .ok (.ireturn, 1) := by decide +kernel
theorem dX5_isBar_0 : decode cX5_isBar 0 = .ok (.iload_n 0, 1) := by decide +kernel
theorem dX5_isBar_1 : decode cX5_isBar 1 = .ok (.ifCond .lt 13, 3) := by decide +kernel
theorem dX5_isBar_4 : decode cX5_isBar 4 = .ok (.iload_n 0, 1) := by decide +kernel
theorem dX5_isBar_5 : decode cX5_isBar 5 = .ok (.bipush 24, 2) := by decide +kernel
theorem dX5_isBar_7 : decode cX5_isBar 7 = .ok (.if_icmp .ge 7, 3) := by decide +kernel
theorem dX5_isBar_10 : decode cX5_isBar 10 = .ok (.iconst 1, 1) := by decide +kernel
theorem dX5_isBar_11 : decode cX5_isBar 11 = .ok (.goto 4, 3) := by decide +kernel
theorem dX5_isBar_14 : decode cX5_isBar 14 = .ok (.iconst 0, 1) := by decide +kernel
theorem dX5_isBar_15 : decode cX5_isBar 15 = .ok (.ireturn, 1) := by decide +kernel
theorem dX5_isLength_0 : decode cX5_isLength 0 = .ok (.iload_n 0, 1) := by decide +kernel
theorem dX5_isLength_1 : decode cX5_isLength 1 = .ok (.iconst 1, 1) := by decide +kernel
theorem dX5_isLength_2 : decode cX5_isLength 2 = .ok (.if_icmp .lt 13, 3) := by decide +kernel
theorem dX5_isLength_5 : decode cX5_isLength 5 = .ok (.iload_n 0, 1) := by decide +kernel
theorem dX5_isLength_6 : decode cX5_isLength 6 = .ok (.bipush 6, 2) := by decide +kernel
theorem dX5_isLength_8 : decode cX5_isLength 8 = .ok (.if_icmp .gt 7, 3) := by decide +kernel
theorem dX5_isLength_11 : decode cX5_isLength 11 = .ok (.iconst 1, 1) := by decide +kernel
theorem dX5_isLength_12 : decode cX5_isLength 12 = .ok (.goto 4, 3) := by decide +kernel
theorem dX5_isLength_15 : decode cX5_isLength 15 = .ok (.iconst 0, 1) := by decide +kernel
theorem dX5_isLength_16 : decode cX5_isLength 16 = .ok (.ireturn, 1) := by decide +kernel
theorem dX5_isTicks_0 : decode cX5_isTicks 0 = .ok (.iload_n 0, 1) := by decide +kernel
theorem dX5_isTicks_1 : decode cX5_isTicks 1 = .ok (.iconst 1, 1) := by decide +kernel
theorem dX5_isTicks_2 : decode cX5_isTicks 2 = .ok (.if_icmp .lt 13, 3) := by decide +kernel
theorem dX5_isTicks_5 : decode cX5_isTicks 5 = .ok (.iload_n 0, 1) := by decide +kernel
theorem dX5_isTicks_6 : decode cX5_isTicks 6 = .ok (.bipush 99, 2) := by decide +kernel
theorem dX5_isTicks_8 : decode cX5_isTicks 8 = .ok (.if_icmp .gt 7, 3) := by decide +kernel
theorem dX5_isTicks_11 : decode cX5_isTicks 11 = .ok (.iconst 1, 1) := by decide +kernel
theorem dX5_isTicks_12 : decode cX5_isTicks 12 = .ok (.goto 4, 3) := by decide +kernel
theorem dX5_isTicks_15 : decode cX5_isTicks 15 = .ok (.iconst 0, 1) := by decide +kernel
theorem dX5_isTicks_16 : decode cX5_isTicks 16 = .ok (.ireturn, 1) := by decide +kernel
theorem dX5_isSetting_0 : decode cX5_isSetting 0 = .ok (.iload_n 0, 1) := by decide +kernel
theorem dX5_isSetting_1 : decode cX5_isSetting 1 = .ok (.ifCond .lt 15, 3) := by decide +kernel
theorem dX5_isSetting_4 : decode cX5_isSetting 4 = .ok (.iload_n 0, 1) := by decide +kernel
theorem dX5_isSetting_5 : decode cX5_isSetting 5 = .ok (.getstatic 225, 3) := by decide +kernel
theorem dX5_isSetting_8 : decode cX5_isSetting 8 = .ok (.arraylength, 1) := by decide +kernel
theorem dX5_isSetting_9 : decode cX5_isSetting 9 = .ok (.if_icmp .ge 7, 3) := by decide +kernel
theorem dX5_isSetting_12 : decode cX5_isSetting 12 = .ok (.iconst 1, 1) := by decide +kernel
theorem dX5_isSetting_13 : decode cX5_isSetting 13 = .ok (.goto 4, 3) := by decide +kernel
theorem dX5_isSetting_16 : decode cX5_isSetting 16 = .ok (.iconst 0, 1) := by decide +kernel
theorem dX5_isSetting_17 : decode cX5_isSetting 17 = .ok (.ireturn, 1) := by decide +kernel
set_option maxRecDepth 20000 in
theorem ggX5_isSettingValue_X5_isSetting : GoodIn wsX5_isSettingValue wsX5_isSetting := goodIn_r _ [5, 1] (by decide +kernel) (by decide +kernel)
set_option maxRecDepth 20000 in
theorem gX5_isSettingValue_X5_isSetting : GoodIn wsX5_isSettingValue (va_wsS RX5 178 yX5_isSetting wsX5_isSetting) := goodIn_app (goodIn_of _ (by decide +kernel)) ggX5_isSettingValue_X5_isSetting
theorem dX5_isSettingValue_0 : decode cX5_isSettingValue 0 = .ok (.iload_n 0, 1) := by decide +kernel
theorem dX5_isSettingValue_1 : decode cX5_isSettingValue 1 = .ok (.invokestatic 178, 3) := by decide +kernel
theorem dX5_isSettingValue_4 : decode cX5_isSettingValue 4 = .ok (.ifCond .eq 20, 3) := by decide +kernel
theorem dX5_isSettingValue_7 : decode cX5_isSettingValue 7 = .ok (.iload_n 1, 1) := by decide +kernel
theorem dX5_isSettingValue_8 : decode cX5_isSettingValue 8 = .ok (.ifCond .lt 16, 3) := by decide +kernel
theorem dX5_isSettingValue_11 : decode cX5_isSettingValue 11 = .ok (.iload_n 1, 1) := by decide +kernel
theorem dX5_isSettingValue_12 : decode cX5_isSettingValue 12 = .ok (.getstatic 225, 3) := by decide +kernel
theorem dX5_isSettingValue_15 : decode cX5_isSettingValue 15 = .ok (.iload_n 0, 1) := by decide +kernel
theorem dX5_isSettingValue_16 : decode cX5_isSettingValue 16 = .ok (.iaload, 1) := by decide +kernel
theorem dX5_isSettingValue_17 : decode cX5_isSettingValue 17 = .ok (.if_icmp .gt 7, 3) := by decide +kernel
theorem dX5_isSettingValue_20 : decode cX5_isSettingValue 20 = .ok (.iconst 1, 1) := by decide +kernel
theorem dX5_isSettingValue_21 : decode cX5_isSettingValue 21 = .ok (.goto 4, 3) := by decide +kernel
theorem dX5_isSettingValue_24 : decode cX5_isSettingValue 24 = .ok (.iconst 0, 1) := by decide +kernel
theorem dX5_isSettingValue_25 : decode cX5_isSettingValue 25 = .ok (.ireturn, 1) := by decide +kernel
theorem dX5_span_0 : decode cX5_span 0 = .ok (.iconst 1, 1) := by decide +kernel
theorem dX5_span_1 : decode cX5_span 1 = .ok (.iload_n 1, 1) := by decide +kernel
theorem dX5_span_2 : decode cX5_span 2 = .ok (.ishl, 1) := by decide +kernel
theorem dX5_span_3 : decode cX5_span 3 = .ok (.iconst 1, 1) := by decide +kernel
theorem dX5_span_4 : decode cX5_span 4 = .ok (.isub, 1) := by decide +kernel
theorem dX5_span_5 : decode cX5_span 5 = .ok (.iload_n 0, 1) := by decide +kernel
theorem dX5_span_6 : decode cX5_span 6 = .ok (.ishl, 1) := by decide +kernel
theorem dX5_span_7 : decode cX5_span 7 = .ok (.istore_n 2, 1) := by decide +kernel
theorem dX5_span_8 : decode cX5_span 8 = .ok (.iload_n 2, 1) := by decide +kernel
theorem dX5_span_9 : decode cX5_span 9 = .ok (.iload_n 2, 1) := by decide +kernel
theorem dX5_span_10 : decode cX5_span 10 = .ok (.bipush 24, 2) := by decide +kernel
theorem dX5_span_12 : decode cX5_span 12 = .ok (.iushr, 1) := by decide +kernel
theorem dX5_span_13 : decode cX5_span 13 = .ok (.ior, 1) := by decide +kernel
theorem dX5_span_14 : decode cX5_span 14 = .ok (.istore_n 3, 1) := by decide +kernel
theorem dX5_span_15 : decode cX5_span 15 = .ok (.iload_n 3, 1) := by decide +kernel
theorem dX5_span_16 : decode cX5_span 16 = .ok (.ldc_w 293, 3) := by decide +kernel
theorem dX5_span_19 : decode cX5_span 19 = .ok (.iand, 1) := by decide +kernel
theorem dX5_span_20 : decode cX5_span 20 = .ok (.ireturn, 1) := by decide +kernel
theorem dX5_copyRow_0 : decode cX5_copyRow 0 = .ok (.aload_n 0, 1) := by decide +kernel
theorem dX5_copyRow_1 : decode cX5_copyRow 1 = .ok (.iconst 0, 1) := by decide +kernel
theorem dX5_copyRow_2 : decode cX5_copyRow 2 = .ok (.aload_n 1, 1) := by decide +kernel
theorem dX5_copyRow_3 : decode cX5_copyRow 3 = .ok (.iconst 0, 1) := by decide +kernel
theorem dX5_copyRow_4 : decode cX5_copyRow 4 = .ok (.aload_n 0, 1) := by decide +kernel
theorem dX5_copyRow_5 : decode cX5_copyRow 5 = .ok (.arraylength, 1) := by decide +kernel
theorem dX5_copyRow_6 : decode cX5_copyRow 6 = .ok (.aload_n 1, 1) := by decide +kernel
theorem dX5_copyRow_7 : decode cX5_copyRow 7 = .ok (.arraylength, 1) := by decide +kernel
theorem dX5_copyRow_8 : decode cX5_copyRow 8 = .ok (.invokestatic 294, 3) := by decide +kernel
theorem dX5_copyRow_11 : decode cX5_copyRow 11 = .ok (.invokestatic 299, 3) := by decide +kernel
theorem dX5_copyRow_14 : decode cX5_copyRow 14 = .ok (.return_, 1) := by decide +kernel
theorem dJ6_bitCount_0f7a4_0 : decode cJ6_bitCount_0f7a4 0 = .ok (.iload_n 0, 1) := by decide +kernel
theorem dJ6_bitCount_0f7a4_1 : decode cJ6_bitCount_0f7a4 1 = .ok (.iload_n 0, 1) := by decide +kernel
theorem dJ6_bitCount_0f7a4_2 : decode cJ6_bitCount_0f7a4 2 = .ok (.iconst 1, 1) := by decide +kernel
theorem dJ6_bitCount_0f7a4_3 : decode cJ6_bitCount_0f7a4 3 = .ok (.iushr, 1) := by decide +kernel
theorem dJ6_bitCount_0f7a4_4 : decode cJ6_bitCount_0f7a4 4 = .ok (.ldc_w 265, 3) := by decide +kernel
theorem dJ6_bitCount_0f7a4_7 : decode cJ6_bitCount_0f7a4 7 = .ok (.iand, 1) := by decide +kernel
theorem dJ6_bitCount_0f7a4_8 : decode cJ6_bitCount_0f7a4 8 = .ok (.isub, 1) := by decide +kernel
theorem dJ6_bitCount_0f7a4_9 : decode cJ6_bitCount_0f7a4 9 = .ok (.istore_n 0, 1) := by decide +kernel
theorem dJ6_bitCount_0f7a4_10 : decode cJ6_bitCount_0f7a4 10 = .ok (.iload_n 0, 1) := by decide +kernel
theorem dJ6_bitCount_0f7a4_11 : decode cJ6_bitCount_0f7a4 11 = .ok (.ldc_w 266, 3) := by decide +kernel
theorem dJ6_bitCount_0f7a4_14 : decode cJ6_bitCount_0f7a4 14 = .ok (.iand, 1) := by decide +kernel
theorem dJ6_bitCount_0f7a4_15 : decode cJ6_bitCount_0f7a4 15 = .ok (.iload_n 0, 1) := by decide +kernel
theorem dJ6_bitCount_0f7a4_16 : decode cJ6_bitCount_0f7a4 16 = .ok (.iconst 2, 1) := by decide +kernel
theorem dJ6_bitCount_0f7a4_17 : decode cJ6_bitCount_0f7a4 17 = .ok (.iushr, 1) := by decide +kernel
theorem dJ6_bitCount_0f7a4_18 : decode cJ6_bitCount_0f7a4 18 = .ok (.ldc_w 266, 3) := by decide +kernel
theorem dJ6_bitCount_0f7a4_21 : decode cJ6_bitCount_0f7a4 21 = .ok (.iand, 1) := by decide +kernel
theorem dJ6_bitCount_0f7a4_22 : decode cJ6_bitCount_0f7a4 22 = .ok (.iadd, 1) := by decide +kernel
theorem dJ6_bitCount_0f7a4_23 : decode cJ6_bitCount_0f7a4 23 = .ok (.istore_n 0, 1) := by decide +kernel
theorem dJ6_bitCount_0f7a4_24 : decode cJ6_bitCount_0f7a4 24 = .ok (.iload_n 0, 1) := by decide +kernel
theorem dJ6_bitCount_0f7a4_25 : decode cJ6_bitCount_0f7a4 25 = .ok (.iload_n 0, 1) := by decide +kernel
theorem dJ6_bitCount_0f7a4_26 : decode cJ6_bitCount_0f7a4 26 = .ok (.iconst 4, 1) := by decide +kernel
theorem dJ6_bitCount_0f7a4_27 : decode cJ6_bitCount_0f7a4 27 = .ok (.iushr, 1) := by decide +kernel
theorem dJ6_bitCount_0f7a4_28 : decode cJ6_bitCount_0f7a4 28 = .ok (.iadd, 1) := by decide +kernel
theorem dJ6_bitCount_0f7a4_29 : decode cJ6_bitCount_0f7a4 29 = .ok (.ldc_w 267, 3) := by decide +kernel
theorem dJ6_bitCount_0f7a4_32 : decode cJ6_bitCount_0f7a4 32 = .ok (.iand, 1) := by decide +kernel
theorem dJ6_bitCount_0f7a4_33 : decode cJ6_bitCount_0f7a4 33 = .ok (.istore_n 0, 1) := by decide +kernel
theorem dJ6_bitCount_0f7a4_34 : decode cJ6_bitCount_0f7a4 34 = .ok (.iload_n 0, 1) := by decide +kernel
theorem dJ6_bitCount_0f7a4_35 : decode cJ6_bitCount_0f7a4 35 = .ok (.iload_n 0, 1) := by decide +kernel
theorem dJ6_bitCount_0f7a4_36 : decode cJ6_bitCount_0f7a4 36 = .ok (.bipush 8, 2) := by decide +kernel
theorem dJ6_bitCount_0f7a4_38 : decode cJ6_bitCount_0f7a4 38 = .ok (.iushr, 1) := by decide +kernel
theorem dJ6_bitCount_0f7a4_39 : decode cJ6_bitCount_0f7a4 39 = .ok (.iadd, 1) := by decide +kernel
theorem dJ6_bitCount_0f7a4_40 : decode cJ6_bitCount_0f7a4 40 = .ok (.istore_n 0, 1) := by decide +kernel
theorem dJ6_bitCount_0f7a4_41 : decode cJ6_bitCount_0f7a4 41 = .ok (.iload_n 0, 1) := by decide +kernel
theorem dJ6_bitCount_0f7a4_42 : decode cJ6_bitCount_0f7a4 42 = .ok (.iload_n 0, 1) := by decide +kernel
theorem dJ6_bitCount_0f7a4_43 : decode cJ6_bitCount_0f7a4 43 = .ok (.bipush 16, 2) := by decide +kernel
theorem dJ6_bitCount_0f7a4_45 : decode cJ6_bitCount_0f7a4 45 = .ok (.iushr, 1) := by decide +kernel
theorem dJ6_bitCount_0f7a4_46 : decode cJ6_bitCount_0f7a4 46 = .ok (.iadd, 1) := by decide +kernel
theorem dJ6_bitCount_0f7a4_47 : decode cJ6_bitCount_0f7a4 47 = .ok (.istore_n 0, 1) := by decide +kernel
theorem dJ6_bitCount_0f7a4_48 : decode cJ6_bitCount_0f7a4 48 = .ok (.iload_n 0, 1) := by decide +kernel
theorem dJ6_bitCount_0f7a4_49 : decode cJ6_bitCount_0f7a4 49 = .ok (.bipush 63, 2) := by decide +kernel
theorem dJ6_bitCount_0f7a4_51 : decode cJ6_bitCount_0f7a4 51 = .ok (.iand, 1) := by decide +kernel
theorem dJ6_bitCount_0f7a4_52 : decode cJ6_bitCount_0f7a4 52 = .ok (.ireturn, 1) := by decide +kernel
theorem dJ9_max_7cf53_0 : decode cJ9_max_7cf53 0 = .ok (.iload_n 0, 1) := by decide +kernel
theorem dJ9_max_7cf53_1 : decode cJ9_max_7cf53 1 = .ok (.iload_n 1, 1) := by decide +kernel
theorem dJ9_max_7cf53_2 : decode cJ9_max_7cf53 2 = .ok (.if_icmp .lt 7, 3) := by decide +kernel
theorem dJ9_max_7cf53_5 : decode cJ9_max_7cf53 5 = .ok (.iload_n 0, 1) := by decide +kernel
theorem dJ9_max_7cf53_6 : decode cJ9_max_7cf53 6 = .ok (.goto 4, 3) := by decide +kernel
theorem dJ9_max_7cf53_9 : decode cJ9_max_7cf53 9 = .ok (.iload_n 1, 1) := by decide +kernel
theorem dJ9_max_7cf53_10 : decode cJ9_max_7cf53 10 = .ok (.ireturn, 1) := by decide +kernel
theorem dJ9_min_7cf53_0 : decode cJ9_min_7cf53 0 = .ok (.iload_n 0, 1) := by decide +kernel
theorem dJ9_min_7cf53_1 : decode cJ9_min_7cf53 1 = .ok (.iload_n 1, 1) := by decide +kernel
theorem dJ9_min_7cf53_2 : decode cJ9_min_7cf53 2 = .ok (.if_icmp .gt 7, 3) := by decide +kernel
theorem dJ9_min_7cf53_5 : decode cJ9_min_7cf53 5 = .ok (.iload_n 0, 1) := by decide +kernel
theorem dJ9_min_7cf53_6 : decode cJ9_min_7cf53 6 = .ok (.goto 4, 3) := by decide +kernel
theorem dJ9_min_7cf53_9 : decode cJ9_min_7cf53 9 = .ok (.iload_n 1, 1) := by decide +kernel
theorem dJ9_min_7cf53_10 : decode cJ9_min_7cf53 10 = .ok (.ireturn, 1) := by decide +kernel
abbrev vwCl : List vw_C := [(RX0, TX0, 3), (RX1, TX1, 17), (RX2, TX2, 8), (RX3, TX3, 2), (RX4, TX4, 4), (RX5, TX5, 6)]
