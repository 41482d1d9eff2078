theorem dX1_placePeg_68 : decode cX1_placePeg 68 = .ok (.aload_n 0, 1) := by decide +kernel
theorem dX1_placePeg_69 : decode cX1_placePeg 69 = .ok (.getfield 23, 3) := by decide +kernel
theorem dX1_placePeg_72 : decode cX1_placePeg 72 = .ok (.iload_n 2, 1) := by decide +kernel
theorem dX1_placePeg_73 : decode cX1_placePeg 73 = .ok (.dup2, 1) := by decide +kernel
theorem dX1_placePeg_74 : decode cX1_placePeg 74 = .ok (.iaload, 1) := by decide +kernel
theorem dX1_placePeg_75 : decode cX1_placePeg 75 = .ok (.iload 5, 2) := by decide +kernel
theorem dX1_placePeg_77 : decode cX1_placePeg 77 = .ok (.ior, 1) := by decide +kernel
theorem dX1_placePeg_78 : decode cX1_placePeg 78 = .ok (.iastore, 1) := by decide +kernel
theorem dX1_placePeg_79 : decode cX1_placePeg 79 = .ok (.aload_n 0, 1) := by decide +kernel
theorem dX1_placePeg_80 : decode cX1_placePeg 80 = .ok (.getfield 16, 3) := by decide +kernel
theorem dX1_placePeg_83 : decode cX1_placePeg 83 = .ok (.invokevirtual 129, 3) := by decide +kernel
theorem dX1_placePeg_86 : decode cX1_placePeg 86 = .ok (.istore 6, 2) := by decide +kernel
theorem dX1_placePeg_88 : decode cX1_placePeg 88 = .ok (.aload_n 0, 1) := by decide +kernel
theorem dX1_placePeg_89 : decode cX1_placePeg 89 = .ok (.getfield 16, 3) := by decide +kernel
theorem dX1_placePeg_92 : decode cX1_placePeg 92 = .ok (.iload 6, 2) := by decide +kernel
theorem dX1_placePeg_94 : decode cX1_placePeg 94 = .ok (.iconst 0, 1) := by decide +kernel
theorem dX1_placePeg_95 : decode cX1_placePeg 95 = .ok (.iload_n 2, 1) := by decide +kernel
theorem dX1_placePeg_96 : decode cX1_placePeg 96 = .ok (.invokevirtual 133, 3) := by decide +kernel
theorem dX1_placePeg_99 : decode cX1_placePeg 99 = .ok (.aload_n 0, 1) := by decide +kernel
theorem dX1_placePeg_100 : decode cX1_placePeg 100 = .ok (.getfield 16, 3) := by decide +kernel
theorem dX1_placePeg_103 : decode cX1_placePeg 103 = .ok (.iload 6, 2) := by decide +kernel
theorem dX1_placePeg_105 : decode cX1_placePeg 105 = .ok (.iconst 1, 1) := by decide +kernel
theorem dX1_placePeg_106 : decode cX1_placePeg 106 = .ok (.iload_n 3, 1) := by decide +kernel
theorem dX1_placePeg_107 : decode cX1_placePeg 107 = .ok (.invokevirtual 133, 3) := by decide +kernel
theorem dX1_placePeg_110 : decode cX1_placePeg 110 = .ok (.aload_n 0, 1) := by decide +kernel
theorem dX1_placePeg_111 : decode cX1_placePeg 111 = .ok (.getfield 16, 3) := by decide +kernel
theorem dX1_placePeg_114 : decode cX1_placePeg 114 = .ok (.iload 6, 2) := by decide +kernel
theorem dX1_placePeg_116 : decode cX1_placePeg 116 = .ok (.iconst 2, 1) := by decide +kernel
theorem dX1_placePeg_117 : decode cX1_placePeg 117 = .ok (.iload 4, 2) := by decide +kernel
theorem dX1_placePeg_119 : decode cX1_placePeg 119 = .ok (.invokevirtual 133, 3) := by decide +kernel
theorem dX1_placePeg_122 : decode cX1_placePeg 122 = .ok (.aload_n 0, 1) := by decide +kernel
theorem dX1_placePeg_123 : decode cX1_placePeg 123 = .ok (.getfield 16, 3) := by decide +kernel
theorem dX1_placePeg_126 : decode cX1_placePeg 126 = .ok (.iload 6, 2) := by decide +kernel
theorem dX1_placePeg_128 : decode cX1_placePeg 128 = .ok (.iconst 3, 1) := by decide +kernel
theorem dX1_placePeg_129 : decode cX1_placePeg 129 = .ok (.aload_n 0, 1) := by decide +kernel
theorem dX1_placePeg_130 : decode cX1_placePeg 130 = .ok (.getfield 57, 3) := by decide +kernel
theorem dX1_placePeg_133 : decode cX1_placePeg 133 = .ok (.iconst 1, 1) := by decide +kernel
theorem dX1_placePeg_134 : decode cX1_placePeg 134 = .ok (.iadd, 1) := by decide +kernel
theorem dX1_placePeg_135 : decode cX1_placePeg 135 = .ok (.invokevirtual 133, 3) := by decide +kernel
theorem dX1_placePeg_138 : decode cX1_placePeg 138 = .ok (.iconst 1, 1) := by decide +kernel
theorem dX1_placePeg_139 : decode cX1_placePeg 139 = .ok (.ireturn, 1) := by decide +kernel
set_option maxRecDepth 20000 in
theorem ggX1_takePeg_X4_at : GoodIn wsX1_takePeg wsX4_at := goodIn_r _ [8, 9, 10, 11, 12, 13, 7, 14, 15, 52, 53, 54, 55] (by decide +kernel) (by decide +kernel)
set_option maxRecDepth 20000 in
theorem gX1_takePeg_X4_at : GoodIn wsX1_takePeg (wsV RX1 102 RX4 yX4_at wsX4_at) := goodIn_app (goodIn_of _ (by decide +kernel)) ggX1_takePeg_X4_at
set_option maxRecDepth 20000 in
theorem ggX1_takePeg_X5_isPipe : GoodIn wsX1_takePeg wsX5_isPipe := goodIn_r _ [18] (by decide +kernel) (by decide +kernel)
set_option maxRecDepth 20000 in
theorem gX1_takePeg_X5_isPipe_n86 : GoodIn wsX1_takePeg (wsX5_isPipe) := ggX1_takePeg_X5_isPipe
set_option maxRecDepth 20000 in
theorem ggX1_takePeg_X5_span : GoodIn wsX1_takePeg wsX5_span := goodIn_r _ [20, 21] (by decide +kernel) (by decide +kernel)
set_option maxRecDepth 20000 in
theorem gX1_takePeg_X5_span_n109 : GoodIn wsX1_takePeg (wsX5_span) := ggX1_takePeg_X5_span
set_option maxRecDepth 20000 in
theorem ggX1_takePeg_X4_removeLine : GoodIn wsX1_takePeg wsX4_removeLine := goodIn_r _ [25, 26, 10, 9, 27, 28, 29, 30, 31, 32, 33, 7, 34, 52, 53, 54, 55] (by decide +kernel) (by decide +kernel)
set_option maxRecDepth 20000 in
theorem gX1_takePeg_X4_removeLine : GoodIn wsX1_takePeg (wsV RX1 140 RX4 yX4_removeLine wsX4_removeLine) := goodIn_app (goodIn_of _ (by decide +kernel)) ggX1_takePeg_X4_removeLine
theorem dX1_takePeg_0 : decode cX1_takePeg 0 = .ok (.aload_n 0, 1) := by decide +kernel
theorem dX1_takePeg_1 : decode cX1_takePeg 1 = .ok (.getfield 20, 3) := by decide +kernel
theorem dX1_takePeg_4 : decode cX1_takePeg 4 = .ok (.iload_n 1, 1) := by decide +kernel
theorem dX1_takePeg_5 : decode cX1_takePeg 5 = .ok (.iconst 1, 1) := by decide +kernel
theorem dX1_takePeg_6 : decode cX1_takePeg 6 = .ok (.invokevirtual 102, 3) := by decide +kernel
theorem dX1_takePeg_9 : decode cX1_takePeg 9 = .ok (.istore_n 2, 1) := by decide +kernel
theorem dX1_takePeg_10 : decode cX1_takePeg 10 = .ok (.aload_n 0, 1) := by decide +kernel
theorem dX1_takePeg_11 : decode cX1_takePeg 11 = .ok (.getfield 20, 3) := by decide +kernel
theorem dX1_takePeg_14 : decode cX1_takePeg 14 = .ok (.iload_n 1, 1) := by decide +kernel
theorem dX1_takePeg_15 : decode cX1_takePeg 15 = .ok (.iconst 2, 1) := by decide +kernel
theorem dX1_takePeg_16 : decode cX1_takePeg 16 = .ok (.invokevirtual 102, 3) := by decide +kernel
theorem dX1_takePeg_19 : decode cX1_takePeg 19 = .ok (.istore_n 3, 1) := by decide +kernel
theorem dX1_takePeg_20 : decode cX1_takePeg 20 = .ok (.iconst 0, 1) := by decide +kernel
theorem dX1_takePeg_21 : decode cX1_takePeg 21 = .ok (.istore 4, 2) := by decide +kernel
theorem dX1_takePeg_23 : decode cX1_takePeg 23 = .ok (.iload 4, 2) := by decide +kernel
theorem dX1_takePeg_25 : decode cX1_takePeg 25 = .ok (.aload_n 0, 1) := by decide +kernel
theorem dX1_takePeg_26 : decode cX1_takePeg 26 = .ok (.getfield 16, 3) := by decide +kernel
theorem dX1_takePeg_29 : decode cX1_takePeg 29 = .ok (.getfield 79, 3) := by decide +kernel
theorem dX1_takePeg_32 : decode cX1_takePeg 32 = .ok (.if_icmp .ge 80, 3) := by decide +kernel
theorem dX1_takePeg_35 : decode cX1_takePeg 35 = .ok (.iload_n 2, 1) := by decide +kernel
theorem dX1_takePeg_36 : decode cX1_takePeg 36 = .ok (.invokestatic 86, 3) := by decide +kernel
theorem dX1_takePeg_39 : decode cX1_takePeg 39 = .ok (.ifCond .eq 73, 3) := by decide +kernel
theorem dX1_takePeg_42 : decode cX1_takePeg 42 = .ok (.aload_n 0, 1) := by decide +kernel
theorem dX1_takePeg_43 : decode cX1_takePeg 43 = .ok (.getfield 16, 3) := by decide +kernel
theorem dX1_takePeg_46 : decode cX1_takePeg 46 = .ok (.iload 4, 2) := by decide +kernel
theorem dX1_takePeg_48 : decode cX1_takePeg 48 = .ok (.iconst 0, 1) := by decide +kernel
theorem dX1_takePeg_49 : decode cX1_takePeg 49 = .ok (.invokevirtual 102, 3) := by decide +kernel
theorem dX1_takePeg_52 : decode cX1_takePeg 52 = .ok (.iload_n 2, 1) := by decide +kernel
theorem dX1_takePeg_53 : decode cX1_takePeg 53 = .ok (.if_icmp .ne 53, 3) := by decide +kernel
theorem dX1_takePeg_56 : decode cX1_takePeg 56 = .ok (.aload_n 0, 1) := by decide +kernel
theorem dX1_takePeg_57 : decode cX1_takePeg 57 = .ok (.getfield 16, 3) := by decide +kernel
theorem dX1_takePeg_60 : decode cX1_takePeg 60 = .ok (.iload 4, 2) := by decide +kernel
theorem dX1_takePeg_62 : decode cX1_takePeg 62 = .ok (.iconst 1, 1) := by decide +kernel
theorem dX1_takePeg_63 : decode cX1_takePeg 63 = .ok (.invokevirtual 102, 3) := by decide +kernel
theorem dX1_takePeg_66 : decode cX1_takePeg 66 = .ok (.iload_n 3, 1) := by decide +kernel
theorem dX1_takePeg_67 : decode cX1_takePeg 67 = .ok (.if_icmp .ne 39, 3) := by decide +kernel
theorem dX1_takePeg_70 : decode cX1_takePeg 70 = .ok (.aload_n 0, 1) := by decide +kernel
theorem dX1_takePeg_71 : decode cX1_takePeg 71 = .ok (.getfield 23, 3) := by decide +kernel
theorem dX1_takePeg_74 : decode cX1_takePeg 74 = .ok (.iload_n 2, 1) := by decide +kernel
theorem dX1_takePeg_75 : decode cX1_takePeg 75 = .ok (.dup2, 1) := by decide +kernel
theorem dX1_takePeg_76 : decode cX1_takePeg 76 = .ok (.iaload, 1) := by decide +kernel
theorem dX1_takePeg_77 : decode cX1_takePeg 77 = .ok (.iload_n 3, 1) := by decide +kernel
theorem dX1_takePeg_78 : decode cX1_takePeg 78 = .ok (.aload_n 0, 1) := by decide +kernel
theorem dX1_takePeg_79 : decode cX1_takePeg 79 = .ok (.getfield 16, 3) := by decide +kernel
theorem dX1_takePeg_82 : decode cX1_takePeg 82 = .ok (.iload 4, 2) := by decide +kernel
theorem dX1_takePeg_84 : decode cX1_takePeg 84 = .ok (.iconst 2, 1) := by decide +kernel
theorem dX1_takePeg_85 : decode cX1_takePeg 85 = .ok (.invokevirtual 102, 3) := by decide +kernel
theorem dX1_takePeg_88 : decode cX1_takePeg 88 = .ok (.invokestatic 109, 3) := by decide +kernel
theorem dX1_takePeg_91 : decode cX1_takePeg 91 = .ok (.iconst (-1), 1) := by decide +kernel
theorem dX1_takePeg_92 : decode cX1_takePeg 92 = .ok (.ixor, 1) := by decide +kernel
theorem dX1_takePeg_93 : decode cX1_takePeg 93 = .ok (.iand, 1) := by decide +kernel
theorem dX1_takePeg_94 : decode cX1_takePeg 94 = .ok (.iastore, 1) := by decide +kernel
theorem dX1_takePeg_95 : decode cX1_takePeg 95 = .ok (.aload_n 0, 1) := by decide +kernel
theorem dX1_takePeg_96 : decode cX1_takePeg 96 = .ok (.getfield 16, 3) := by decide +kernel
theorem dX1_takePeg_99 : decode cX1_takePeg 99 = .ok (.iload 4, 2) := by decide +kernel
theorem dX1_takePeg_101 : decode cX1_takePeg 101 = .ok (.invokevirtual 140, 3) := by decide +kernel
theorem dX1_takePeg_104 : decode cX1_takePeg 104 = .ok (.iconst 1, 1) := by decide +kernel
theorem dX1_takePeg_105 : decode cX1_takePeg 105 = .ok (.ireturn, 1) := by decide +kernel
theorem dX1_takePeg_106 : decode cX1_takePeg 106 = .ok (.iinc 4 1, 3) := by decide +kernel
theorem dX1_takePeg_109 : decode cX1_takePeg 109 = .ok (.goto (-86), 3) := by decide +kernel
theorem dX1_takePeg_112 : decode cX1_takePeg 112 = .ok (.iconst 0, 1) := by decide +kernel
theorem dX1_takePeg_113 : decode cX1_takePeg 113 = .ok (.ireturn, 1) := by decide +kernel
set_option maxRecDepth 20000 in
theorem ggX1_blowPipes_X1_isOpen : GoodIn wsX1_blowPipes wsX1_isOpen := goodIn_r _ [14, 15, 16, 17, 18, 19, 20, 21, 26, 27, 28, 29, 30, 31, 32, 33, 34, 35, 36, 37, 38, 39, 40, 41, 42] (by decide +kernel) (by decide +kernel)
set_option maxRecDepth 20000 in
theorem gX1_blowPipes_X1_isOpen : GoodIn wsX1_blowPipes (wsV RX1 98 RX1 yX1_isOpen wsX1_isOpen) := goodIn_app (goodIn_of _ (by decide +kernel)) ggX1_blowPipes_X1_isOpen
set_option maxRecDepth 20000 in
theorem ggX1_blowPipes_X1_soundedAgo : GoodIn wsX1_blowPipes wsX1_soundedAgo := goodIn_r _ [25, 7, 26, 27, 28, 29, 30, 31, 32, 33, 34, 35, 36, 37, 38, 39, 40, 41, 42] (by decide +kernel) (by decide +kernel)
set_option maxRecDepth 20000 in
theorem gX1_blowPipes_X1_soundedAgo : GoodIn wsX1_blowPipes (wsV RX1 82 RX1 yX1_soundedAgo wsX1_soundedAgo) := goodIn_app (goodIn_of _ (by decide +kernel)) ggX1_blowPipes_X1_soundedAgo
theorem dX1_blowPipes_0 : decode cX1_blowPipes 0 = .ok (.iconst 0, 1) := by decide +kernel
theorem dX1_blowPipes_1 : decode cX1_blowPipes 1 = .ok (.istore_n 1, 1) := by decide +kernel
theorem dX1_blowPipes_2 : decode cX1_blowPipes 2 = .ok (.iconst 0, 1) := by decide +kernel
theorem dX1_blowPipes_3 : decode cX1_blowPipes 3 = .ok (.istore_n 2, 1) := by decide +kernel
theorem dX1_blowPipes_4 : decode cX1_blowPipes 4 = .ok (.iload_n 2, 1) := by decide +kernel
theorem dX1_blowPipes_5 : decode cX1_blowPipes 5 = .ok (.bipush 6, 2) := by decide +kernel
theorem dX1_blowPipes_7 : decode cX1_blowPipes 7 = .ok (.if_icmp .ge 87, 3) := by decide +kernel
theorem dX1_blowPipes_10 : decode cX1_blowPipes 10 = .ok (.aload_n 0, 1) := by decide +kernel
theorem dX1_blowPipes_11 : decode cX1_blowPipes 11 = .ok (.iload_n 2, 1) := by decide +kernel
theorem dX1_blowPipes_12 : decode cX1_blowPipes 12 = .ok (.aload_n 0, 1) := by decide +kernel
theorem dX1_blowPipes_13 : decode cX1_blowPipes 13 = .ok (.getfield 51, 3) := by decide +kernel
theorem dX1_blowPipes_16 : decode cX1_blowPipes 16 = .ok (.invokevirtual 98, 3) := by decide +kernel
theorem dX1_blowPipes_19 : decode cX1_blowPipes 19 = .ok (.ifCond .eq 69, 3) := by decide +kernel
theorem dX1_blowPipes_22 : decode cX1_blowPipes 22 = .ok (.aload_n 0, 1) := by decide +kernel
theorem dX1_blowPipes_23 : decode cX1_blowPipes 23 = .ok (.getfield 60, 3) := by decide +kernel
theorem dX1_blowPipes_26 : decode cX1_blowPipes 26 = .ok (.ifCond .le 42, 3) := by decide +kernel
theorem dX1_blowPipes_29 : decode cX1_blowPipes 29 = .ok (.aload_n 0, 1) := by decide +kernel
theorem dX1_blowPipes_30 : decode cX1_blowPipes 30 = .ok (.dup, 1) := by decide +kernel
theorem dX1_blowPipes_31 : decode cX1_blowPipes 31 = .ok (.getfield 60, 3) := by decide +kernel
theorem dX1_blowPipes_34 : decode cX1_blowPipes 34 = .ok (.iconst 1, 1) := by decide +kernel
theorem dX1_blowPipes_35 : decode cX1_blowPipes 35 = .ok (.isub, 1) := by decide +kernel
theorem dX1_blowPipes_36 : decode cX1_blowPipes 36 = .ok (.putfield 60, 3) := by decide +kernel
theorem dX1_blowPipes_39 : decode cX1_blowPipes 39 = .ok (.aload_n 0, 1) := by decide +kernel
theorem dX1_blowPipes_40 : decode cX1_blowPipes 40 = .ok (.dup, 1) := by decide +kernel
theorem dX1_blowPipes_41 : decode cX1_blowPipes 41 = .ok (.getfield 70, 3) := by decide +kernel
theorem dX1_blowPipes_44 : decode cX1_blowPipes 44 = .ok (.iconst 1, 1) := by decide +kernel
theorem dX1_blowPipes_45 : decode cX1_blowPipes 45 = .ok (.iadd, 1) := by decide +kernel
theorem dX1_blowPipes_46 : decode cX1_blowPipes 46 = .ok (.putfield 70, 3) := by decide +kernel
theorem dX1_blowPipes_49 : decode cX1_blowPipes 49 = .ok (.aload_n 0, 1) := by decide +kernel
theorem dX1_blowPipes_50 : decode cX1_blowPipes 50 = .ok (.getfield 27, 3) := by decide +kernel
theorem dX1_blowPipes_53 : decode cX1_blowPipes 53 = .ok (.iload_n 2, 1) := by decide +kernel
theorem dX1_blowPipes_54 : decode cX1_blowPipes 54 = .ok (.dup2, 1) := by decide +kernel
theorem dX1_blowPipes_55 : decode cX1_blowPipes 55 = .ok (.iaload, 1) := by decide +kernel
theorem dX1_blowPipes_56 : decode cX1_blowPipes 56 = .ok (.iconst 1, 1) := by decide +kernel
theorem dX1_blowPipes_57 : decode cX1_blowPipes 57 = .ok (.iadd, 1) := by decide +kernel
theorem dX1_blowPipes_58 : decode cX1_blowPipes 58 = .ok (.iastore, 1) := by decide +kernel
theorem dX1_blowPipes_59 : decode cX1_blowPipes 59 = .ok (.iload_n 1, 1) := by decide +kernel
theorem dX1_blowPipes_60 : decode cX1_blowPipes 60 = .ok (.iconst 1, 1) := by decide +kernel
theorem dX1_blowPipes_61 : decode cX1_blowPipes 61 = .ok (.iload_n 2, 1) := by decide +kernel
theorem dX1_blowPipes_62 : decode cX1_blowPipes 62 = .ok (.ishl, 1) := by decide +kernel
theorem dX1_blowPipes_63 : decode cX1_blowPipes 63 = .ok (.ior, 1) := by decide +kernel
theorem dX1_blowPipes_64 : decode cX1_blowPipes 64 = .ok (.istore_n 1, 1) := by decide +kernel
theorem dX1_blowPipes_65 : decode cX1_blowPipes 65 = .ok (.goto 23, 3) := by decide +kernel
theorem dX1_blowPipes_68 : decode cX1_blowPipes 68 = .ok (.aload_n 0, 1) := by decide +kernel
theorem dX1_blowPipes_69 : decode cX1_blowPipes 69 = .ok (.dup, 1) := by decide +kernel
theorem dX1_blowPipes_70 : decode cX1_blowPipes 70 = .ok (.getfield 73, 3) := by decide +kernel
theorem dX1_blowPipes_73 : decode cX1_blowPipes 73 = .ok (.iconst 1, 1) := by decide +kernel
theorem dX1_blowPipes_74 : decode cX1_blowPipes 74 = .ok (.iadd, 1) := by decide +kernel
theorem dX1_blowPipes_75 : decode cX1_blowPipes 75 = .ok (.putfield 73, 3) := by decide +kernel
theorem dX1_blowPipes_78 : decode cX1_blowPipes 78 = .ok (.aload_n 0, 1) := by decide +kernel
theorem dX1_blowPipes_79 : decode cX1_blowPipes 79 = .ok (.getfield 30, 3) := by decide +kernel
theorem dX1_blowPipes_82 : decode cX1_blowPipes 82 = .ok (.iload_n 2, 1) := by decide +kernel
theorem dX1_blowPipes_83 : decode cX1_blowPipes 83 = .ok (.dup2, 1) := by decide +kernel
theorem dX1_blowPipes_84 : decode cX1_blowPipes 84 = .ok (.iaload, 1) := by decide +kernel
theorem dX1_blowPipes_85 : decode cX1_blowPipes 85 = .ok (.iconst 1, 1) := by decide +kernel
theorem dX1_blowPipes_86 : decode cX1_blowPipes 86 = .ok (.iadd, 1) := by decide +kernel
theorem dX1_blowPipes_87 : decode cX1_blowPipes 87 = .ok (.iastore, 1) := by decide +kernel
theorem dX1_blowPipes_88 : decode cX1_blowPipes 88 = .ok (.iinc 2 1, 3) := by decide +kernel
theorem dX1_blowPipes_91 : decode cX1_blowPipes 91 = .ok (.goto (-87), 3) := by decide +kernel
theorem dX1_blowPipes_94 : decode cX1_blowPipes 94 = .ok (.aload_n 0, 1) := by decide +kernel
theorem dX1_blowPipes_95 : decode cX1_blowPipes 95 = .ok (.aload_n 0, 1) := by decide +kernel
theorem dX1_blowPipes_96 : decode cX1_blowPipes 96 = .ok (.getfield 63, 3) := by decide +kernel
theorem dX1_blowPipes_99 : decode cX1_blowPipes 99 = .ok (.bipush 6, 2) := by decide +kernel
theorem dX1_blowPipes_101 : decode cX1_blowPipes 101 = .ok (.lshl, 1) := by decide +kernel
theorem dX1_blowPipes_102 : decode cX1_blowPipes 102 = .ok (.iload_n 1, 1) := by decide +kernel
theorem dX1_blowPipes_103 : decode cX1_blowPipes 103 = .ok (.i2l, 1) := by decide +kernel
theorem dX1_blowPipes_104 : decode cX1_blowPipes 104 = .ok (.lor, 1) := by decide +kernel
theorem dX1_blowPipes_105 : decode cX1_blowPipes 105 = .ok (.putfield 63, 3) := by decide +kernel
theorem dX1_blowPipes_108 : decode cX1_blowPipes 108 = .ok (.aload_n 0, 1) := by decide +kernel
theorem dX1_blowPipes_109 : decode cX1_blowPipes 109 = .ok (.iload_n 1, 1) := by decide +kernel
theorem dX1_blowPipes_110 : decode cX1_blowPipes 110 = .ok (.aload_n 0, 1) := by decide +kernel
theorem dX1_blowPipes_111 : decode cX1_blowPipes 111 = .ok (.aload_n 0, 1) := by decide +kernel
theorem dX1_blowPipes_112 : decode cX1_blowPipes 112 = .ok (.getfield 33, 3) := by decide +kernel
theorem dX1_blowPipes_115 : decode cX1_blowPipes 115 = .ok (.iconst 1, 1) := by decide +kernel
theorem dX1_blowPipes_116 : decode cX1_blowPipes 116 = .ok (.iaload, 1) := by decide +kernel
theorem dX1_blowPipes_117 : decode cX1_blowPipes 117 = .ok (.invokevirtual 82, 3) := by decide +kernel
theorem dX1_blowPipes_120 : decode cX1_blowPipes 120 = .ok (.ior, 1) := by decide +kernel
theorem dX1_blowPipes_121 : decode cX1_blowPipes 121 = .ok (.putfield 67, 3) := by decide +kernel
theorem dX1_blowPipes_124 : decode cX1_blowPipes 124 = .ok (.return_, 1) := by decide +kernel
theorem dX2_init_0 : decode cX2_init 0 = .ok (.aload_n 0, 1) := by decide +kernel
theorem dX2_init_1 : decode cX2_init 1 = .ok (.invokespecial 3, 3) := by decide +kernel
theorem dX2_init_4 : decode cX2_init 4 = .ok (.aload_n 0, 1) := by decide +kernel
theorem dX2_init_5 : decode cX2_init 5 = .ok (.bipush 120, 2) := by decide +kernel
theorem dX2_init_7 : decode cX2_init 7 = .ok (.newarray .char, 2) := by decide +kernel
theorem dX2_init_9 : decode cX2_init 9 = .ok (.putfield 9, 3) := by decide +kernel
theorem dX2_init_12 : decode cX2_init 12 = .ok (.return_, 1) := by decide +kernel
theorem dX2_isFull_0 : decode cX2_isFull 0 = .ok (.aload_n 0, 1) := by decide +kernel
theorem dX2_isFull_1 : decode cX2_isFull 1 = .ok (.getfield 15, 3) := by decide +kernel
theorem dX2_isFull_4 : decode cX2_isFull 4 = .ok (.bipush 120, 2) := by decide +kernel
theorem dX2_isFull_6 : decode cX2_isFull 6 = .ok (.if_icmp .lt 7, 3) := by decide +kernel
theorem dX2_isFull_9 : decode cX2_isFull 9 = .ok (.iconst 1, 1) := by decide +kernel
theorem dX2_isFull_10 : decode cX2_isFull 10 = .ok (.goto 4, 3) := by decide +kernel
theorem dX2_isFull_13 : decode cX2_isFull 13 = .ok (.iconst 0, 1) := by decide +kernel
theorem dX2_isFull_14 : decode cX2_isFull 14 = .ok (.ireturn, 1) := by decide +kernel
theorem dX2_addCharacter_0 : decode cX2_addCharacter 0 = .ok (.aload_n 0, 1) := by decide +kernel
theorem dX2_addCharacter_1 : decode cX2_addCharacter 1 = .ok (.getfield 15, 3) := by decide +kernel
theorem dX2_addCharacter_4 : decode cX2_addCharacter 4 = .ok (.ifCond .lt 32, 3) := by decide +kernel
theorem dX2_addCharacter_7 : decode cX2_addCharacter 7 = .ok (.aload_n 0, 1) := by decide +kernel
theorem dX2_addCharacter_8 : decode cX2_addCharacter 8 = .ok (.getfield 15, 3) := by decide +kernel
theorem dX2_addCharacter_11 : decode cX2_addCharacter 11 = .ok (.bipush 120, 2) := by decide +kernel
theorem dX2_addCharacter_13 : decode cX2_addCharacter 13 = .ok (.if_icmp .ge 23, 3) := by decide +kernel
theorem dX2_addCharacter_16 : decode cX2_addCharacter 16 = .ok (.aload_n 0, 1) := by decide +kernel
theorem dX2_addCharacter_17 : decode cX2_addCharacter 17 = .ok (.getfield 9, 3) := by decide +kernel
theorem dX2_addCharacter_20 : decode cX2_addCharacter 20 = .ok (.aload_n 0, 1) := by decide +kernel
theorem dX2_addCharacter_21 : decode cX2_addCharacter 21 = .ok (.getfield 15, 3) := by decide +kernel
theorem dX2_addCharacter_24 : decode cX2_addCharacter 24 = .ok (.iload_n 1, 1) := by decide +kernel
theorem dX2_addCharacter_25 : decode cX2_addCharacter 25 = .ok (.castore, 1) := by decide +kernel
theorem dX2_addCharacter_26 : decode cX2_addCharacter 26 = .ok (.aload_n 0, 1) := by decide +kernel
theorem dX2_addCharacter_27 : decode cX2_addCharacter 27 = .ok (.dup, 1) := by decide +kernel
theorem dX2_addCharacter_28 : decode cX2_addCharacter 28 = .ok (.getfield 15, 3) := by decide +kernel
theorem dX2_addCharacter_31 : decode cX2_addCharacter 31 = .ok (.iconst 1, 1) := by decide +kernel
theorem dX2_addCharacter_32 : decode cX2_addCharacter 32 = .ok (.iadd, 1) := by decide +kernel
theorem dX2_addCharacter_33 : decode cX2_addCharacter 33 = .ok (.putfield 15, 3) := by decide +kernel
theorem dX2_addCharacter_36 : decode cX2_addCharacter 36 = .ok (.aload_n 0, 1) := by decide +kernel
theorem dX2_addCharacter_37 : decode cX2_addCharacter 37 = .ok (.getfield 15, 3) := by decide +kernel
theorem dX2_addCharacter_40 : decode cX2_addCharacter 40 = .ok (.ireturn, 1) := by decide +kernel
set_option maxRecDepth 20000 in
theorem ggX2_firstWrong_X2_rewind : GoodIn wsX2_firstWrong wsX2_rewind := goodIn_r _ [7, 2, 1, 8, 9, 10, 6, 11, 12, 13, 34, 35, 36, 37, 38, 39, 40, 41] (by decide +kernel) (by decide +kernel)
set_option maxRecDepth 20000 in
theorem gX2_firstWrong_X2_rewind : GoodIn wsX2_firstWrong (wsV RX2 19 RX2 yX2_rewind wsX2_rewind) := goodIn_app (goodIn_of _ (by decide +kernel)) ggX2_firstWrong_X2_rewind
set_option maxRecDepth 20000 in
theorem ggX2_firstWrong_X2_readCommand : GoodIn wsX2_firstWrong wsX2_readCommand := goodIn_r _ [17, 1, 2, 12, 18, 8, 9, 10, 6, 11, 13, 19, 20, 21, 22, 23, 24, 25, 26, 27, 28, 29, 30, 31, 32, 33, 34, 35, 36, 37, 38, 39, 40, 41] (by decide +kernel) (by decide +kernel)
set_option maxRecDepth 20000 in
theorem gX2_firstWrong_X2_readCommand : GoodIn wsX2_firstWrong (wsV RX2 22 RX2 yX2_readCommand wsX2_readCommand) := goodIn_app (goodIn_of _ (by decide +kernel)) ggX2_firstWrong_X2_readCommand
theorem dX2_firstWrong_0 : decode cX2_firstWrong 0 = .ok (.aload_n 0, 1) := by decide +kernel
theorem dX2_firstWrong_1 : decode cX2_firstWrong 1 = .ok (.invokevirtual 19, 3) := by decide +kernel
theorem dX2_firstWrong_4 : decode cX2_firstWrong 4 = .ok (.iconst 0, 1) := by decide +kernel
theorem dX2_firstWrong_5 : decode cX2_firstWrong 5 = .ok (.istore_n 1, 1) := by decide +kernel
theorem dX2_firstWrong_6 : decode cX2_firstWrong 6 = .ok (.iload_n 1, 1) := by decide +kernel
theorem dX2_firstWrong_7 : decode cX2_firstWrong 7 = .ok (.bipush 120, 2) := by decide +kernel
theorem dX2_firstWrong_9 : decode cX2_firstWrong 9 = .ok (.if_icmp .ge 16, 3) := by decide +kernel
theorem dX2_firstWrong_12 : decode cX2_firstWrong 12 = .ok (.aload_n 0, 1) := by decide +kernel
theorem dX2_firstWrong_13 : decode cX2_firstWrong 13 = .ok (.invokevirtual 22, 3) := by decide +kernel
theorem dX2_firstWrong_16 : decode cX2_firstWrong 16 = .ok (.ifCond .eq 9, 3) := by decide +kernel
theorem dX2_firstWrong_19 : decode cX2_firstWrong 19 = .ok (.iinc 1 1, 3) := by decide +kernel
theorem dX2_firstWrong_22 : decode cX2_firstWrong 22 = .ok (.goto (-16), 3) := by decide +kernel
theorem dX2_firstWrong_25 : decode cX2_firstWrong 25 = .ok (.aload_n 0, 1) := by decide +kernel
theorem dX2_firstWrong_26 : decode cX2_firstWrong 26 = .ok (.getfield 26, 3) := by decide +kernel
theorem dX2_firstWrong_29 : decode cX2_firstWrong 29 = .ok (.ifCond .eq 10, 3) := by decide +kernel
theorem dX2_firstWrong_32 : decode cX2_firstWrong 32 = .ok (.aload_n 0, 1) := by decide +kernel
theorem dX2_firstWrong_33 : decode cX2_firstWrong 33 = .ok (.getfield 30, 3) := by decide +kernel
theorem dX2_firstWrong_36 : decode cX2_firstWrong 36 = .ok (.goto 4, 3) := by decide +kernel
theorem dX2_firstWrong_39 : decode cX2_firstWrong 39 = .ok (.iconst (-1), 1) := by decide +kernel
theorem dX2_firstWrong_40 : decode cX2_firstWrong 40 = .ok (.ireturn, 1) := by decide +kernel
set_option maxRecDepth 20000 in
theorem ggX2_rewind_X2_here : GoodIn wsX2_rewind wsX2_here := goodIn_r _ [7, 1, 8, 9, 10, 11, 12, 13, 14, 15, 16, 17] (by decide +kernel) (by decide +kernel)
set_option maxRecDepth 20000 in
theorem gX2_rewind_X2_here : GoodIn wsX2_rewind (wsV RX2 33 RX2 yX2_here wsX2_here) := goodIn_app (goodIn_of _ (by decide +kernel)) ggX2_rewind_X2_here
theorem dX2_rewind_0 : decode cX2_rewind 0 = .ok (.aload_n 0, 1) := by decide +kernel
theorem dX2_rewind_1 : decode cX2_rewind 1 = .ok (.iconst 0, 1) := by decide +kernel
theorem dX2_rewind_2 : decode cX2_rewind 2 = .ok (.putfield 30, 3) := by decide +kernel
theorem dX2_rewind_5 : decode cX2_rewind 5 = .ok (.aload_n 0, 1) := by decide +kernel
theorem dX2_rewind_6 : decode cX2_rewind 6 = .ok (.aload_n 0, 1) := by decide +kernel
theorem dX2_rewind_7 : decode cX2_rewind 7 = .ok (.invokevirtual 33, 3) := by decide +kernel
theorem dX2_rewind_10 : decode cX2_rewind 10 = .ok (.bipush 79, 2) := by decide +kernel
theorem dX2_rewind_12 : decode cX2_rewind 12 = .ok (.if_icmp .eq 7, 3) := by decide +kernel
theorem dX2_rewind_15 : decode cX2_rewind 15 = .ok (.iconst 1, 1) := by decide +kernel
theorem dX2_rewind_16 : decode cX2_rewind 16 = .ok (.goto 4, 3) := by decide +kernel
theorem dX2_rewind_19 : decode cX2_rewind 19 = .ok (.iconst 0, 1) := by decide +kernel
theorem dX2_rewind_20 : decode cX2_rewind 20 = .ok (.putfield 26, 3) := by decide +kernel
theorem dX2_rewind_23 : decode cX2_rewind 23 = .ok (.aload_n 0, 1) := by decide +kernel
theorem dX2_rewind_24 : decode cX2_rewind 24 = .ok (.getfield 26, 3) := by decide +kernel
theorem dX2_rewind_27 : decode cX2_rewind 27 = .ok (.ifCond .ne 13, 3) := by decide +kernel
theorem dX2_rewind_30 : decode cX2_rewind 30 = .ok (.aload_n 0, 1) := by decide +kernel
theorem dX2_rewind_31 : decode cX2_rewind 31 = .ok (.dup, 1) := by decide +kernel
theorem dX2_rewind_32 : decode cX2_rewind 32 = .ok (.getfield 30, 3) := by decide +kernel
theorem dX2_rewind_35 : decode cX2_rewind 35 = .ok (.iconst 1, 1) := by decide +kernel
theorem dX2_rewind_36 : decode cX2_rewind 36 = .ok (.iadd, 1) := by decide +kernel
theorem dX2_rewind_37 : decode cX2_rewind 37 = .ok (.putfield 30, 3) := by decide +kernel
theorem dX2_rewind_40 : decode cX2_rewind 40 = .ok (.return_, 1) := by decide +kernel
set_option maxRecDepth 20000 in
theorem ggX2_readCommand_X2_here : GoodIn wsX2_readCommand wsX2_here := goodIn_r _ [9, 2, 3, 10, 26, 27, 28, 29, 30, 31, 32, 33] (by decide +kernel) (by decide +kernel)
set_option maxRecDepth 20000 in
theorem gX2_readCommand_X2_here : GoodIn wsX2_readCommand (wsV RX2 33 RX2 yX2_here wsX2_here) := goodIn_app (goodIn_of _ (by decide +kernel)) ggX2_readCommand_X2_here
set_option maxRecDepth 20000 in
theorem ggX2_readCommand_X2_readNumbers : GoodIn wsX2_readCommand wsX2_readNumbers := goodIn_r _ [14, 4, 15, 16, 17, 2, 1, 18, 19, 20, 8, 21, 5, 6, 7, 9, 3, 10, 22, 23, 24, 25, 26, 27, 28, 29, 30, 31, 32, 33] (by decide +kernel) (by decide +kernel)
set_option maxRecDepth 20000 in
theorem gX2_readCommand_X2_readNumbers : GoodIn wsX2_readCommand (wsV RX2 41 RX2 yX2_readNumbers wsX2_readNumbers) := goodIn_app (goodIn_of _ (by decide +kernel)) ggX2_readCommand_X2_readNumbers
theorem dX2_readCommand_0 : decode cX2_readCommand 0 = .ok (.aload_n 0, 1) := by decide +kernel
theorem dX2_readCommand_1 : decode cX2_readCommand 1 = .ok (.getfield 26, 3) := by decide +kernel
theorem dX2_readCommand_4 : decode cX2_readCommand 4 = .ok (.ifCond .ne 14, 3) := by decide +kernel
theorem dX2_readCommand_7 : decode cX2_readCommand 7 = .ok (.aload_n 0, 1) := by decide +kernel
theorem dX2_readCommand_8 : decode cX2_readCommand 8 = .ok (.getfield 30, 3) := by decide +kernel
theorem dX2_readCommand_11 : decode cX2_readCommand 11 = .ok (.aload_n 0, 1) := by decide +kernel
theorem dX2_readCommand_12 : decode cX2_readCommand 12 = .ok (.getfield 15, 3) := by decide +kernel
theorem dX2_readCommand_15 : decode cX2_readCommand 15 = .ok (.if_icmp .lt 5, 3) := by decide +kernel
theorem dX2_readCommand_18 : decode cX2_readCommand 18 = .ok (.iconst 0, 1) := by decide +kernel
theorem dX2_readCommand_19 : decode cX2_readCommand 19 = .ok (.ireturn, 1) := by decide +kernel
theorem dX2_readCommand_20 : decode cX2_readCommand 20 = .ok (.aload_n 0, 1) := by decide +kernel
theorem dX2_readCommand_21 : decode cX2_readCommand 21 = .ok (.aload_n 0, 1) := by decide +kernel
theorem dX2_readCommand_22 : decode cX2_readCommand 22 = .ok (.invokevirtual 33, 3) := by decide +kernel
theorem dX2_readCommand_25 : decode cX2_readCommand 25 = .ok (.putfield 37, 3) := by decide +kernel
theorem dX2_readCommand_28 : decode cX2_readCommand 28 = .ok (.aload_n 0, 1) := by decide +kernel
theorem dX2_readCommand_29 : decode cX2_readCommand 29 = .ok (.dup, 1) := by decide +kernel
theorem dX2_readCommand_30 : decode cX2_readCommand 30 = .ok (.getfield 30, 3) := by decide +kernel
theorem dX2_readCommand_33 : decode cX2_readCommand 33 = .ok (.iconst 1, 1) := by decide +kernel
theorem dX2_readCommand_34 : decode cX2_readCommand 34 = .ok (.iadd, 1) := by decide +kernel
theorem dX2_readCommand_35 : decode cX2_readCommand 35 = .ok (.putfield 30, 3) := by decide +kernel
theorem dX2_readCommand_38 : decode cX2_readCommand 38 = .ok (.aload_n 0, 1) := by decide +kernel
theorem dX2_readCommand_39 : decode cX2_readCommand 39 = .ok (.invokevirtual 41, 3) := by decide +kernel
theorem dX2_readCommand_42 : decode cX2_readCommand 42 = .ok (.aload_n 0, 1) := by decide +kernel
theorem dX2_readCommand_43 : decode cX2_readCommand 43 = .ok (.getfield 26, 3) := by decide +kernel
theorem dX2_readCommand_46 : decode cX2_readCommand 46 = .ok (.ifCond .ne 7, 3) := by decide +kernel
theorem dX2_readCommand_49 : decode cX2_readCommand 49 = .ok (.iconst 1, 1) := by decide +kernel
theorem dX2_readCommand_50 : decode cX2_readCommand 50 = .ok (.goto 4, 3) := by decide +kernel
theorem dX2_readCommand_53 : decode cX2_readCommand 53 = .ok (.iconst 0, 1) := by decide +kernel
theorem dX2_readCommand_54 : decode cX2_readCommand 54 = .ok (.ireturn, 1) := by decide +kernel
set_option maxRecDepth 20000 in
theorem ggX2_readNumbers_X2_digit : GoodIn wsX2_readNumbers wsX2_digit := goodIn_r _ [11, 6, 5, 12, 13, 14, 10, 15, 16, 17, 22, 23, 24, 25, 26, 27, 28, 29] (by decide +kernel) (by decide +kernel)
set_option maxRecDepth 20000 in
theorem gX2_readNumbers_X2_digit : GoodIn wsX2_readNumbers (wsV RX2 44 RX2 yX2_digit wsX2_digit) := goodIn_app (goodIn_of _ (by decide +kernel)) ggX2_readNumbers_X2_digit
set_option maxRecDepth 20000 in
theorem ggX2_readNumbers_X2_twoDigits : GoodIn wsX2_readNumbers wsX2_twoDigits := goodIn_r _ [21, 7, 8, 9, 10, 11, 6, 5, 12, 13, 14, 15, 16, 17, 22, 23, 24, 25, 26, 27, 28, 29] (by decide +kernel) (by decide +kernel)
set_option maxRecDepth 20000 in
theorem gX2_readNumbers_X2_twoDigits : GoodIn wsX2_readNumbers (wsV RX2 51 RX2 yX2_twoDigits wsX2_twoDigits) := goodIn_app (goodIn_of _ (by decide +kernel)) ggX2_readNumbers_X2_twoDigits
theorem dX2_readNumbers_0 : decode cX2_readNumbers 0 = .ok (.aload_n 0, 1) := by decide +kernel
theorem dX2_readNumbers_1 : decode cX2_readNumbers 1 = .ok (.getfield 37, 3) := by decide +kernel
theorem dX2_readNumbers_4 : decode cX2_readNumbers 4 = .ok (.lookupswitch 163 #[(99, 149), (108, 87), (112, 52), (116, 135), (118, 111)], 52) := by decide +kernel
theorem dX2_readNumbers_56 : decode cX2_readNumbers 56 = .ok (.aload_n 0, 1) := by decide +kernel
theorem dX2_readNumbers_57 : decode cX2_readNumbers 57 = .ok (.aload_n 0, 1) := by decide +kernel
theorem dX2_readNumbers_58 : decode cX2_readNumbers 58 = .ok (.iconst 0, 1) := by decide +kernel
theorem dX2_readNumbers_59 : decode cX2_readNumbers 59 = .ok (.iconst 5, 1) := by decide +kernel
theorem dX2_readNumbers_60 : decode cX2_readNumbers 60 = .ok (.invokevirtual 44, 3) := by decide +kernel
theorem dX2_readNumbers_63 : decode cX2_readNumbers 63 = .ok (.putfield 48, 3) := by decide +kernel
theorem dX2_readNumbers_66 : decode cX2_readNumbers 66 = .ok (.aload_n 0, 1) := by decide +kernel
theorem dX2_readNumbers_67 : decode cX2_readNumbers 67 = .ok (.aload_n 0, 1) := by decide +kernel
theorem dX2_readNumbers_68 : decode cX2_readNumbers 68 = .ok (.iconst 0, 1) := by decide +kernel
theorem dX2_readNumbers_69 : decode cX2_readNumbers 69 = .ok (.bipush 23, 2) := by decide +kernel
theorem dX2_readNumbers_71 : decode cX2_readNumbers 71 = .ok (.invokevirtual 51, 3) := by decide +kernel
theorem dX2_readNumbers_74 : decode cX2_readNumbers 74 = .ok (.putfield 54, 3) := by decide +kernel
theorem dX2_readNumbers_77 : decode cX2_readNumbers 77 = .ok (.aload_n 0, 1) := by decide +kernel
theorem dX2_readNumbers_78 : decode cX2_readNumbers 78 = .ok (.aload_n 0, 1) := by decide +kernel
theorem dX2_readNumbers_79 : decode cX2_readNumbers 79 = .ok (.iconst 1, 1) := by decide +kernel
theorem dX2_readNumbers_80 : decode cX2_readNumbers 80 = .ok (.bipush 6, 2) := by decide +kernel
theorem dX2_readNumbers_82 : decode cX2_readNumbers 82 = .ok (.invokevirtual 44, 3) := by decide +kernel
theorem dX2_readNumbers_85 : decode cX2_readNumbers 85 = .ok (.putfield 57, 3) := by decide +kernel
theorem dX2_readNumbers_88 : decode cX2_readNumbers 88 = .ok (.goto 94, 3) := by decide +kernel
theorem dX2_readNumbers_91 : decode cX2_readNumbers 91 = .ok (.aload_n 0, 1) := by decide +kernel
theorem dX2_readNumbers_92 : decode cX2_readNumbers 92 = .ok (.aload_n 0, 1) := by decide +kernel
theorem dX2_readNumbers_93 : decode cX2_readNumbers 93 = .ok (.iconst 0, 1) := by decide +kernel
theorem dX2_readNumbers_94 : decode cX2_readNumbers 94 = .ok (.iconst 5, 1) := by decide +kernel
theorem dX2_readNumbers_95 : decode cX2_readNumbers 95 = .ok (.invokevirtual 44, 3) := by decide +kernel
theorem dX2_readNumbers_98 : decode cX2_readNumbers 98 = .ok (.putfield 48, 3) := by decide +kernel
theorem dX2_readNumbers_101 : decode cX2_readNumbers 101 = .ok (.aload_n 0, 1) := by decide +kernel
theorem dX2_readNumbers_102 : decode cX2_readNumbers 102 = .ok (.aload_n 0, 1) := by decide +kernel
theorem dX2_readNumbers_103 : decode cX2_readNumbers 103 = .ok (.iconst 0, 1) := by decide +kernel
theorem dX2_readNumbers_104 : decode cX2_readNumbers 104 = .ok (.bipush 23, 2) := by decide +kernel
theorem dX2_readNumbers_106 : decode cX2_readNumbers 106 = .ok (.invokevirtual 51, 3) := by decide +kernel
theorem dX2_readNumbers_109 : decode cX2_readNumbers 109 = .ok (.putfield 54, 3) := by decide +kernel
theorem dX2_readNumbers_112 : decode cX2_readNumbers 112 = .ok (.goto 70, 3) := by decide +kernel
theorem dX2_readNumbers_115 : decode cX2_readNumbers 115 = .ok (.aload_n 0, 1) := by decide +kernel
theorem dX2_readNumbers_116 : decode cX2_readNumbers 116 = .ok (.aload_n 0, 1) := by decide +kernel
theorem dX2_readNumbers_117 : decode cX2_readNumbers 117 = .ok (.iconst 0, 1) := by decide +kernel
theorem dX2_readNumbers_118 : decode cX2_readNumbers 118 = .ok (.iconst 2, 1) := by decide +kernel
theorem dX2_readNumbers_119 : decode cX2_readNumbers 119 = .ok (.invokevirtual 44, 3) := by decide +kernel
theorem dX2_readNumbers_122 : decode cX2_readNumbers 122 = .ok (.putfield 48, 3) := by decide +kernel
theorem dX2_readNumbers_125 : decode cX2_readNumbers 125 = .ok (.aload_n 0, 1) := by decide +kernel
theorem dX2_readNumbers_126 : decode cX2_readNumbers 126 = .ok (.aload_n 0, 1) := by decide +kernel
theorem dX2_readNumbers_127 : decode cX2_readNumbers 127 = .ok (.iconst 0, 1) := by decide +kernel
theorem dX2_readNumbers_128 : decode cX2_readNumbers 128 = .ok (.bipush 60, 2) := by decide +kernel
theorem dX2_readNumbers_130 : decode cX2_readNumbers 130 = .ok (.invokevirtual 51, 3) := by decide +kernel
theorem dX2_readNumbers_133 : decode cX2_readNumbers 133 = .ok (.putfield 54, 3) := by decide +kernel
theorem dX2_readNumbers_136 : decode cX2_readNumbers 136 = .ok (.goto 46, 3) := by decide +kernel
theorem dX2_readNumbers_139 : decode cX2_readNumbers 139 = .ok (.aload_n 0, 1) := by decide +kernel
theorem dX2_readNumbers_140 : decode cX2_readNumbers 140 = .ok (.aload_n 0, 1) := by decide +kernel
theorem dX2_readNumbers_141 : decode cX2_readNumbers 141 = .ok (.iconst 1, 1) := by decide +kernel
theorem dX2_readNumbers_142 : decode cX2_readNumbers 142 = .ok (.bipush 99, 2) := by decide +kernel
theorem dX2_readNumbers_144 : decode cX2_readNumbers 144 = .ok (.invokevirtual 51, 3) := by decide +kernel
theorem dX2_readNumbers_147 : decode cX2_readNumbers 147 = .ok (.putfield 48, 3) := by decide +kernel
theorem dX2_readNumbers_150 : decode cX2_readNumbers 150 = .ok (.goto 32, 3) := by decide +kernel
theorem dX2_readNumbers_153 : decode cX2_readNumbers 153 = .ok (.aload_n 0, 1) := by decide +kernel
theorem dX2_readNumbers_154 : decode cX2_readNumbers 154 = .ok (.aload_n 0, 1) := by decide +kernel
theorem dX2_readNumbers_155 : decode cX2_readNumbers 155 = .ok (.iconst 0, 1) := by decide +kernel
theorem dX2_readNumbers_156 : decode cX2_readNumbers 156 = .ok (.bipush 11, 2) := by decide +kernel
theorem dX2_readNumbers_158 : decode cX2_readNumbers 158 = .ok (.invokevirtual 51, 3) := by decide +kernel
theorem dX2_readNumbers_161 : decode cX2_readNumbers 161 = .ok (.putfield 48, 3) := by decide +kernel
theorem dX2_readNumbers_164 : decode cX2_readNumbers 164 = .ok (.goto 18, 3) := by decide +kernel
theorem dX2_readNumbers_167 : decode cX2_readNumbers 167 = .ok (.aload_n 0, 1) := by decide +kernel
theorem dX2_readNumbers_168 : decode cX2_readNumbers 168 = .ok (.dup, 1) := by decide +kernel
theorem dX2_readNumbers_169 : decode cX2_readNumbers 169 = .ok (.getfield 30, 3) := by decide +kernel
theorem dX2_readNumbers_172 : decode cX2_readNumbers 172 = .ok (.iconst 1, 1) := by decide +kernel
theorem dX2_readNumbers_173 : decode cX2_readNumbers 173 = .ok (.isub, 1) := by decide +kernel
theorem dX2_readNumbers_174 : decode cX2_readNumbers 174 = .ok (.putfield 30, 3) := by decide +kernel
theorem dX2_readNumbers_177 : decode cX2_readNumbers 177 = .ok (.aload_n 0, 1) := by decide +kernel
theorem dX2_readNumbers_178 : decode cX2_readNumbers 178 = .ok (.iconst 1, 1) := by decide +kernel
theorem dX2_readNumbers_179 : decode cX2_readNumbers 179 = .ok (.putfield 26, 3) := by decide +kernel
theorem dX2_readNumbers_182 : decode cX2_readNumbers 182 = .ok (.return_, 1) := by decide +kernel
set_option maxRecDepth 20000 in
theorem ggX2_twoDigits_X2_digit : GoodIn wsX2_twoDigits wsX2_digit := goodIn_r _ [5, 6, 7, 8, 9, 10, 4, 11, 12, 13, 14, 15, 16, 17, 18, 19, 20, 21] (by decide +kernel) (by decide +kernel)
set_option maxRecDepth 20000 in
theorem gX2_twoDigits_X2_digit : GoodIn wsX2_twoDigits (wsV RX2 44 RX2 yX2_digit wsX2_digit) := goodIn_app (goodIn_of _ (by decide +kernel)) ggX2_twoDigits_X2_digit
theorem dX2_twoDigits_0 : decode cX2_twoDigits 0 = .ok (.aload_n 0, 1) := by decide +kernel
theorem dX2_twoDigits_1 : decode cX2_twoDigits 1 = .ok (.iload_n 1, 1) := by decide +kernel
theorem dX2_twoDigits_2 : decode cX2_twoDigits 2 = .ok (.bipush 10, 2) := by decide +kernel
theorem dX2_twoDigits_4 : decode cX2_twoDigits 4 = .ok (.idiv, 1) := by decide +kernel
theorem dX2_twoDigits_5 : decode cX2_twoDigits 5 = .ok (.iload_n 2, 1) := by decide +kernel
theorem dX2_twoDigits_6 : decode cX2_twoDigits 6 = .ok (.bipush 10, 2) := by decide +kernel
theorem dX2_twoDigits_8 : decode cX2_twoDigits 8 = .ok (.idiv, 1) := by decide +kernel
theorem dX2_twoDigits_9 : decode cX2_twoDigits 9 = .ok (.invokevirtual 44, 3) := by decide +kernel
theorem dX2_twoDigits_12 : decode cX2_twoDigits 12 = .ok (.istore_n 3, 1) := by decide +kernel
theorem dX2_twoDigits_13 : decode cX2_twoDigits 13 = .ok (.iload_n 3, 1) := by decide +kernel
theorem dX2_twoDigits_14 : decode cX2_twoDigits 14 = .ok (.iload_n 1, 1) := by decide +kernel
theorem dX2_twoDigits_15 : decode cX2_twoDigits 15 = .ok (.bipush 10, 2) := by decide +kernel
theorem dX2_twoDigits_17 : decode cX2_twoDigits 17 = .ok (.idiv, 1) := by decide +kernel
theorem dX2_twoDigits_18 : decode cX2_twoDigits 18 = .ok (.if_icmp .ne 10, 3) := by decide +kernel
theorem dX2_twoDigits_21 : decode cX2_twoDigits 21 = .ok (.iload_n 1, 1) := by decide +kernel
theorem dX2_twoDigits_22 : decode cX2_twoDigits 22 = .ok (.bipush 10, 2) := by decide +kernel
theorem dX2_twoDigits_24 : decode cX2_twoDigits 24 = .ok (.irem, 1) := by decide +kernel
theorem dX2_twoDigits_25 : decode cX2_twoDigits 25 = .ok (.goto 4, 3) := by decide +kernel
theorem dX2_twoDigits_28 : decode cX2_twoDigits 28 = .ok (.iconst 0, 1) := by decide +kernel
theorem dX2_twoDigits_29 : decode cX2_twoDigits 29 = .ok (.istore 4, 2) := by decide +kernel
theorem dX2_twoDigits_31 : decode cX2_twoDigits 31 = .ok (.iload_n 3, 1) := by decide +kernel
theorem dX2_twoDigits_32 : decode cX2_twoDigits 32 = .ok (.iload_n 2, 1) := by decide +kernel
theorem dX2_twoDigits_33 : decode cX2_twoDigits 33 = .ok (.bipush 10, 2) := by decide +kernel
theorem dX2_twoDigits_35 : decode cX2_twoDigits 35 = .ok (.idiv, 1) := by decide +kernel
theorem dX2_twoDigits_36 : decode cX2_twoDigits 36 = .ok (.if_icmp .ne 10, 3) := by decide +kernel
theorem dX2_twoDigits_39 : decode cX2_twoDigits 39 = .ok (.iload_n 2, 1) := by decide +kernel
theorem dX2_twoDigits_40 : decode cX2_twoDigits 40 = .ok (.bipush 10, 2) := by decide +kernel
theorem dX2_twoDigits_42 : decode cX2_twoDigits 42 = .ok (.irem, 1) := by decide +kernel
theorem dX2_twoDigits_43 : decode cX2_twoDigits 43 = .ok (.goto 5, 3) := by decide +kernel
theorem dX2_twoDigits_46 : decode cX2_twoDigits 46 = .ok (.bipush 9, 2) := by decide +kernel
theorem dX2_twoDigits_48 : decode cX2_twoDigits 48 = .ok (.istore 5, 2) := by decide +kernel
theorem dX2_twoDigits_50 : decode cX2_twoDigits 50 = .ok (.bipush 10, 2) := by decide +kernel
theorem dX2_twoDigits_52 : decode cX2_twoDigits 52 = .ok (.iload_n 3, 1) := by decide +kernel
theorem dX2_twoDigits_53 : decode cX2_twoDigits 53 = .ok (.imul, 1) := by decide +kernel
theorem dX2_twoDigits_54 : decode cX2_twoDigits 54 = .ok (.aload_n 0, 1) := by decide +kernel
theorem dX2_twoDigits_55 : decode cX2_twoDigits 55 = .ok (.iload 4, 2) := by decide +kernel
theorem dX2_twoDigits_57 : decode cX2_twoDigits 57 = .ok (.iload 5, 2) := by decide +kernel
theorem dX2_twoDigits_59 : decode cX2_twoDigits 59 = .ok (.invokevirtual 44, 3) := by decide +kernel
theorem dX2_twoDigits_62 : decode cX2_twoDigits 62 = .ok (.iadd, 1) := by decide +kernel
theorem dX2_twoDigits_63 : decode cX2_twoDigits 63 = .ok (.ireturn, 1) := by decide +kernel
set_option maxRecDepth 20000 in
theorem ggX2_digit_X2_here : GoodIn wsX2_digit wsX2_here := goodIn_r _ [7, 2, 8, 9, 10, 11, 12, 13, 14, 15, 16, 17] (by decide +kernel) (by decide +kernel)
set_option maxRecDepth 20000 in
theorem gX2_digit_X2_here : GoodIn wsX2_digit (wsV RX2 33 RX2 yX2_here wsX2_here) := goodIn_app (goodIn_of _ (by decide +kernel)) ggX2_digit_X2_here
theorem dX2_digit_0 : decode cX2_digit 0 = .ok (.aload_n 0, 1) := by decide +kernel
theorem dX2_digit_1 : decode cX2_digit 1 = .ok (.invokevirtual 33, 3) := by decide +kernel
theorem dX2_digit_4 : decode cX2_digit 4 = .ok (.bipush 48, 2) := by decide +kernel
theorem dX2_digit_6 : decode cX2_digit 6 = .ok (.isub, 1) := by decide +kernel
theorem dX2_digit_7 : decode cX2_digit 7 = .ok (.istore_n 3, 1) := by decide +kernel
theorem dX2_digit_8 : decode cX2_digit 8 = .ok (.aload_n 0, 1) := by decide +kernel
theorem dX2_digit_9 : decode cX2_digit 9 = .ok (.getfield 26, 3) := by decide +kernel
theorem dX2_digit_12 : decode cX2_digit 12 = .ok (.ifCond .ne 13, 3) := by decide +kernel
theorem dX2_digit_15 : decode cX2_digit 15 = .ok (.iload_n 3, 1) := by decide +kernel
theorem dX2_digit_16 : decode cX2_digit 16 = .ok (.iload_n 1, 1) := by decide +kernel
theorem dX2_digit_17 : decode cX2_digit 17 = .ok (.if_icmp .lt 8, 3) := by decide +kernel
theorem dX2_digit_20 : decode cX2_digit 20 = .ok (.iload_n 3, 1) := by decide +kernel
theorem dX2_digit_21 : decode cX2_digit 21 = .ok (.iload_n 2, 1) := by decide +kernel
theorem dX2_digit_22 : decode cX2_digit 22 = .ok (.if_icmp .le 10, 3) := by decide +kernel
theorem dX2_digit_25 : decode cX2_digit 25 = .ok (.aload_n 0, 1) := by decide +kernel
theorem dX2_digit_26 : decode cX2_digit 26 = .ok (.iconst 1, 1) := by decide +kernel
theorem dX2_digit_27 : decode cX2_digit 27 = .ok (.putfield 26, 3) := by decide +kernel
theorem dX2_digit_30 : decode cX2_digit 30 = .ok (.iconst 0, 1) := by decide +kernel
theorem dX2_digit_31 : decode cX2_digit 31 = .ok (.ireturn, 1) := by decide +kernel
theorem dX2_digit_32 : decode cX2_digit 32 = .ok (.aload_n 0, 1) := by decide +kernel
theorem dX2_digit_33 : decode cX2_digit 33 = .ok (.dup, 1) := by decide +kernel
theorem dX2_digit_34 : decode cX2_digit 34 = .ok (.getfield 30, 3) := by decide +kernel
theorem dX2_digit_37 : decode cX2_digit 37 = .ok (.iconst 1, 1) := by decide +kernel
theorem dX2_digit_38 : decode cX2_digit 38 = .ok (.iadd, 1) := by decide +kernel
theorem dX2_digit_39 : decode cX2_digit 39 = .ok (.putfield 30, 3) := by decide +kernel
theorem dX2_digit_42 : decode cX2_digit 42 = .ok (.iload_n 3, 1) := by decide +kernel
theorem dX2_digit_43 : decode cX2_digit 43 = .ok (.ireturn, 1) := by decide +kernel
theorem dX2_here_0 : decode cX2_here 0 = .ok (.aload_n 0, 1) := by decide +kernel
theorem dX2_here_1 : decode cX2_here 1 = .ok (.getfield 30, 3) := by decide +kernel
theorem dX2_here_4 : decode cX2_here 4 = .ok (.ifCond .lt 35, 3) := by decide +kernel
theorem dX2_here_7 : decode cX2_here 7 = .ok (.aload_n 0, 1) := by decide +kernel
theorem dX2_here_8 : decode cX2_here 8 = .ok (.getfield 30, 3) := by decide +kernel
theorem dX2_here_11 : decode cX2_here 11 = .ok (.aload_n 0, 1) := by decide +kernel
theorem dX2_here_12 : decode cX2_here 12 = .ok (.getfield 15, 3) := by decide +kernel
theorem dX2_here_15 : decode cX2_here 15 = .ok (.if_icmp .ge 24, 3) := by decide +kernel
theorem dX2_here_18 : decode cX2_here 18 = .ok (.aload_n 0, 1) := by decide +kernel
theorem dX2_here_19 : decode cX2_here 19 = .ok (.getfield 30, 3) := by decide +kernel
theorem dX2_here_22 : decode cX2_here 22 = .ok (.bipush 120, 2) := by decide +kernel
theorem dX2_here_24 : decode cX2_here 24 = .ok (.if_icmp .ge 15, 3) := by decide +kernel
theorem dX2_here_27 : decode cX2_here 27 = .ok (.aload_n 0, 1) := by decide +kernel
theorem dX2_here_28 : decode cX2_here 28 = .ok (.getfield 9, 3) := by decide +kernel
theorem dX2_here_31 : decode cX2_here 31 = .ok (.aload_n 0, 1) := by decide +kernel
theorem dX2_here_32 : decode cX2_here 32 = .ok (.getfield 30, 3) := by decide +kernel
theorem dX2_here_35 : decode cX2_here 35 = .ok (.caload, 1) := by decide +kernel
theorem dX2_here_36 : decode cX2_here 36 = .ok (.goto 4, 3) := by decide +kernel
theorem dX2_here_39 : decode cX2_here 39 = .ok (.iconst 0, 1) := by decide +kernel
theorem dX2_here_40 : decode cX2_here 40 = .ok (.ireturn, 1) := by decide +kernel
set_option maxRecDepth 20000 in
theorem ggX3_init_X1_init : GoodIn wsX3_init wsX1_init := goodIn_r _ [11, 12, 2, 3, 13, 14, 15, 16, 17, 18, 19, 20, 21, 22, 23, 24, 25, 26, 27, 28, 29, 30, 31, 32, 33, 34, 54, 55, 56, 57, 37, 38, 39, 40, 41, 42, 43, 44, 45, 46, 47, 48, 49, 50, 51, 52, 53] (by decide +kernel) (by decide +kernel)
set_option maxRecDepth 20000 in
theorem gX3_init_X1_init_n21 : GoodIn wsX3_init (wsX1_init) := ggX3_init_X1_init
theorem dX3_init_0 : decode cX3_init 0 = .ok (.aload_n 0, 1) := by decide +kernel
theorem dX3_init_1 : decode cX3_init 1 = .ok (.invokespecial 3, 3) := by decide +kernel
theorem dX3_init_4 : decode cX3_init 4 = .ok (.aload_n 0, 1) := by decide +kernel
theorem dX3_init_5 : decode cX3_init 5 = .ok (.iconst 2, 1) := by decide +kernel
theorem dX3_init_6 : decode cX3_init 6 = .ok (.anewarray 9, 3) := by decide +kernel
theorem dX3_init_9 : decode cX3_init 9 = .ok (.putfield 11, 3) := by decide +kernel
theorem dX3_init_12 : decode cX3_init 12 = .ok (.aload_n 0, 1) := by decide +kernel
theorem dX3_init_13 : decode cX3_init 13 = .ok (.iconst 2, 1) := by decide +kernel
theorem dX3_init_14 : decode cX3_init 14 = .ok (.newarray .boolean, 2) := by decide +kernel
theorem dX3_init_16 : decode cX3_init 16 = .ok (.putfield 17, 3) := by decide +kernel
theorem dX3_init_19 : decode cX3_init 19 = .ok (.iconst 0, 1) := by decide +kernel
theorem dX3_init_20 : decode cX3_init 20 = .ok (.istore_n 1, 1) := by decide +kernel
theorem dX3_init_21 : decode cX3_init 21 = .ok (.iload_n 1, 1) := by decide +kernel
theorem dX3_init_22 : decode cX3_init 22 = .ok (.iconst 2, 1) := by decide +kernel
theorem dX3_init_23 : decode cX3_init 23 = .ok (.if_icmp .ge 22, 3) := by decide +kernel
theorem dX3_init_26 : decode cX3_init 26 = .ok (.aload_n 0, 1) := by decide +kernel
theorem dX3_init_27 : decode cX3_init 27 = .ok (.getfield 11, 3) := by decide +kernel
theorem dX3_init_30 : decode cX3_init 30 = .ok (.iload_n 1, 1) := by decide +kernel
theorem dX3_init_31 : decode cX3_init 31 = .ok (.new 9, 3) := by decide +kernel
theorem dX3_init_34 : decode cX3_init 34 = .ok (.dup, 1) := by decide +kernel
theorem dX3_init_35 : decode cX3_init 35 = .ok (.invokespecial 21, 3) := by decide +kernel
theorem dX3_init_38 : decode cX3_init 38 = .ok (.aastore, 1) := by decide +kernel
theorem dX3_init_39 : decode cX3_init 39 = .ok (.iinc 1 1, 3) := by decide +kernel
theorem dX3_init_42 : decode cX3_init 42 = .ok (.goto (-21), 3) := by decide +kernel
theorem dX3_init_45 : decode cX3_init 45 = .ok (.return_, 1) := by decide +kernel
theorem dX3_has_0 : decode cX3_has 0 = .ok (.iload_n 1, 1) := by decide +kernel
theorem dX3_has_1 : decode cX3_has 1 = .ok (.ifCond .lt 12, 3) := by decide +kernel
theorem dX3_has_4 : decode cX3_has 4 = .ok (.iload_n 1, 1) := by decide +kernel
theorem dX3_has_5 : decode cX3_has 5 = .ok (.iconst 2, 1) := by decide +kernel
theorem dX3_has_6 : decode cX3_has 6 = .ok (.if_icmp .ge 7, 3) := by decide +kernel
theorem dX3_has_9 : decode cX3_has 9 = .ok (.iconst 1, 1) := by decide +kernel
theorem dX3_has_10 : decode cX3_has 10 = .ok (.goto 4, 3) := by decide +kernel
theorem dX3_has_13 : decode cX3_has 13 = .ok (.iconst 0, 1) := by decide +kernel
theorem dX3_has_14 : decode cX3_has 14 = .ok (.ireturn, 1) := by decide +kernel
set_option maxRecDepth 20000 in
theorem ggX3_isStored_X3_has : GoodIn wsX3_isStored wsX3_has := goodIn_r _ [6] (by decide +kernel) (by decide +kernel)
set_option maxRecDepth 20000 in
theorem gX3_isStored_X3_has : GoodIn wsX3_isStored (wsV RX3 22 RX3 yX3_has wsX3_has) := goodIn_app (goodIn_of _ (by decide +kernel)) ggX3_isStored_X3_has
theorem dX3_isStored_0 : decode cX3_isStored 0 = .ok (.aload_n 0, 1) := by decide +kernel
theorem dX3_isStored_1 : decode cX3_isStored 1 = .ok (.iload_n 1, 1) := by decide +kernel
theorem dX3_isStored_2 : decode cX3_isStored 2 = .ok (.invokevirtual 22, 3) := by decide +kernel
theorem dX3_isStored_5 : decode cX3_isStored 5 = .ok (.ifCond .eq 16, 3) := by decide +kernel
theorem dX3_isStored_8 : decode cX3_isStored 8 = .ok (.aload_n 0, 1) := by decide +kernel
theorem dX3_isStored_9 : decode cX3_isStored 9 = .ok (.getfield 17, 3) := by decide +kernel
theorem dX3_isStored_12 : decode cX3_isStored 12 = .ok (.iload_n 1, 1) := by decide +kernel
theorem dX3_isStored_13 : decode cX3_isStored 13 = .ok (.baload, 1) := by decide +kernel
theorem dX3_isStored_14 : decode cX3_isStored 14 = .ok (.ifCond .eq 7, 3) := by decide +kernel
theorem dX3_isStored_17 : decode cX3_isStored 17 = .ok (.iconst 1, 1) := by decide +kernel
theorem dX3_isStored_18 : decode cX3_isStored 18 = .ok (.goto 4, 3) := by decide +kernel
theorem dX3_isStored_21 : decode cX3_isStored 21 = .ok (.iconst 0, 1) := by decide +kernel
theorem dX3_isStored_22 : decode cX3_isStored 22 = .ok (.ireturn, 1) := by decide +kernel
set_option maxRecDepth 20000 in
theorem ggX3_store_X3_has : GoodIn wsX3_store wsX3_has := goodIn_r _ [7] (by decide +kernel) (by decide +kernel)
set_option maxRecDepth 20000 in
theorem gX3_store_X3_has : GoodIn wsX3_store (wsV RX3 22 RX3 yX3_has wsX3_has) := goodIn_app (goodIn_of _ (by decide +kernel)) ggX3_store_X3_has
set_option maxRecDepth 20000 in
theorem ggX3_store_X1_copyFrom : GoodIn wsX3_store wsX1_copyFrom := goodIn_r _ [12, 13, 14, 15, 16, 17, 18, 19, 20, 21, 22, 23, 24, 25, 26, 27, 28, 29, 30, 31, 32, 33, 34, 35, 36, 37, 38, 39, 40, 41, 42, 43, 44, 45, 46, 47, 50, 51, 52, 53, 54, 55, 56, 57, 58, 59, 60, 61, 62, 63, 64, 65, 66, 67, 68, 69, 70] (by decide +kernel) (by decide +kernel)
set_option maxRecDepth 20000 in
theorem gX3_store_X1_copyFrom : GoodIn wsX3_store (wsV RX3 26 RX1 yX1_copyFrom wsX1_copyFrom) := goodIn_app (goodIn_of _ (by decide +kernel)) ggX3_store_X1_copyFrom
theorem dX3_store_0 : decode cX3_store 0 = .ok (.aload_n 0, 1) := by decide +kernel
theorem dX3_store_1 : decode cX3_store 1 = .ok (.iload_n 1, 1) := by decide +kernel
theorem dX3_store_2 : decode cX3_store 2 = .ok (.invokevirtual 22, 3) := by decide +kernel
theorem dX3_store_5 : decode cX3_store 5 = .ok (.ifCond .eq 20, 3) := by decide +kernel
theorem dX3_store_8 : decode cX3_store 8 = .ok (.aload_n 0, 1) := by decide +kernel
theorem dX3_store_9 : decode cX3_store 9 = .ok (.getfield 11, 3) := by decide +kernel
theorem dX3_store_12 : decode cX3_store 12 = .ok (.iload_n 1, 1) := by decide +kernel
theorem dX3_store_13 : decode cX3_store 13 = .ok (.aaload, 1) := by decide +kernel
theorem dX3_store_14 : decode cX3_store 14 = .ok (.aload_n 2, 1) := by decide +kernel
theorem dX3_store_15 : decode cX3_store 15 = .ok (.invokevirtual 26, 3) := by decide +kernel
theorem dX3_store_18 : decode cX3_store 18 = .ok (.aload_n 0, 1) := by decide +kernel
theorem dX3_store_19 : decode cX3_store 19 = .ok (.getfield 17, 3) := by decide +kernel
theorem dX3_store_22 : decode cX3_store 22 = .ok (.iload_n 1, 1) := by decide +kernel
theorem dX3_store_23 : decode cX3_store 23 = .ok (.iconst 1, 1) := by decide +kernel
theorem dX3_store_24 : decode cX3_store 24 = .ok (.bastore, 1) := by decide +kernel
theorem dX3_store_25 : decode cX3_store 25 = .ok (.return_, 1) := by decide +kernel
set_option maxRecDepth 20000 in
theorem ggX3_fetch_X3_has : GoodIn wsX3_fetch wsX3_has := goodIn_r _ [6] (by decide +kernel) (by decide +kernel)
set_option maxRecDepth 20000 in
theorem gX3_fetch_X3_has : GoodIn wsX3_fetch (wsV RX3 22 RX3 yX3_has wsX3_has) := goodIn_app (goodIn_of _ (by decide +kernel)) ggX3_fetch_X3_has
set_option maxRecDepth 20000 in
theorem ggX3_fetch_X1_copyFrom : GoodIn wsX3_fetch wsX1_copyFrom := goodIn_r _ [11, 12, 13, 14, 15, 16, 17, 18, 19, 20, 21, 22, 23, 24, 25, 26, 27, 28, 29, 30, 31, 32, 33, 34, 35, 36, 37, 38, 39, 40, 41, 42, 43, 44, 45, 46, 49, 50, 51, 52, 53, 54, 55, 56, 57, 58, 59, 60, 61, 62, 63, 64, 65, 66, 67, 68, 69] (by decide +kernel) (by decide +kernel)
set_option maxRecDepth 20000 in
theorem gX3_fetch_X1_copyFrom : GoodIn wsX3_fetch (wsV RX3 26 RX1 yX1_copyFrom wsX1_copyFrom) := goodIn_app (goodIn_of _ (by decide +kernel)) ggX3_fetch_X1_copyFrom
theorem dX3_fetch_0 : decode cX3_fetch 0 = .ok (.aload_n 0, 1) := by decide +kernel
theorem dX3_fetch_1 : decode cX3_fetch 1 = .ok (.iload_n 1, 1) := by decide +kernel
theorem dX3_fetch_2 : decode cX3_fetch 2 = .ok (.invokevirtual 22, 3) := by decide +kernel
theorem dX3_fetch_5 : decode cX3_fetch 5 = .ok (.ifCond .eq 13, 3) := by decide +kernel
theorem dX3_fetch_8 : decode cX3_fetch 8 = .ok (.aload_n 2, 1) := by decide +kernel
theorem dX3_fetch_9 : decode cX3_fetch 9 = .ok (.aload_n 0, 1) := by decide +kernel
theorem dX3_fetch_10 : decode cX3_fetch 10 = .ok (.getfield 11, 3) := by decide +kernel
theorem dX3_fetch_13 : decode cX3_fetch 13 = .ok (.iload_n 1, 1) := by decide +kernel
theorem dX3_fetch_14 : decode cX3_fetch 14 = .ok (.aaload, 1) := by decide +kernel
theorem dX3_fetch_15 : decode cX3_fetch 15 = .ok (.invokevirtual 26, 3) := by decide +kernel
theorem dX3_fetch_18 : decode cX3_fetch 18 = .ok (.return_, 1) := by decide +kernel
theorem dX3_wipe_0 : decode cX3_wipe 0 = .ok (.iconst 0, 1) := by decide +kernel
theorem dX3_wipe_1 : decode cX3_wipe 1 = .ok (.istore_n 1, 1) := by decide +kernel
theorem dX3_wipe_2 : decode cX3_wipe 2 = .ok (.iload_n 1, 1) := by decide +kernel
theorem dX3_wipe_3 : decode cX3_wipe 3 = .ok (.iconst 2, 1) := by decide +kernel
theorem dX3_wipe_4 : decode cX3_wipe 4 = .ok (.if_icmp .ge 16, 3) := by decide +kernel
theorem dX3_wipe_7 : decode cX3_wipe 7 = .ok (.aload_n 0, 1) := by decide +kernel
theorem dX3_wipe_8 : decode cX3_wipe 8 = .ok (.getfield 17, 3) := by decide +kernel
theorem dX3_wipe_11 : decode cX3_wipe 11 = .ok (.iload_n 1, 1) := by decide +kernel
theorem dX3_wipe_12 : decode cX3_wipe 12 = .ok (.iconst 0, 1) := by decide +kernel
theorem dX3_wipe_13 : decode cX3_wipe 13 = .ok (.bastore, 1) := by decide +kernel
theorem dX3_wipe_14 : decode cX3_wipe 14 = .ok (.iinc 1 1, 3) := by decide +kernel
theorem dX3_wipe_17 : decode cX3_wipe 17 = .ok (.goto (-15), 3) := by decide +kernel
theorem dX3_wipe_20 : decode cX3_wipe 20 = .ok (.return_, 1) := by decide +kernel
theorem dX4_init_0 : decode cX4_init 0 = .ok (.aload_n 0, 1) := by decide +kernel
theorem dX4_init_1 : decode cX4_init 1 = .ok (.invokespecial 3, 3) := by decide +kernel
theorem dX4_init_4 : decode cX4_init 4 = .ok (.aload_n 0, 1) := by decide +kernel
theorem dX4_init_5 : decode cX4_init 5 = .ok (.iload_n 1, 1) := by decide +kernel
theorem dX4_init_6 : decode cX4_init 6 = .ok (.iconst 0, 1) := by decide +kernel
theorem dX4_init_7 : decode cX4_init 7 = .ok (.invokestatic 9, 3) := by decide +kernel
theorem dX4_init_10 : decode cX4_init 10 = .ok (.putfield 15, 3) := by decide +kernel
theorem dX4_init_13 : decode cX4_init 13 = .ok (.aload_n 0, 1) := by decide +kernel
theorem dX4_init_14 : decode cX4_init 14 = .ok (.iload_n 2, 1) := by decide +kernel
theorem dX4_init_15 : decode cX4_init 15 = .ok (.iconst 0, 1) := by decide +kernel
theorem dX4_init_16 : decode cX4_init 16 = .ok (.invokestatic 9, 3) := by decide +kernel
theorem dX4_init_19 : decode cX4_init 19 = .ok (.putfield 21, 3) := by decide +kernel
theorem dX4_init_22 : decode cX4_init 22 = .ok (.aload_n 0, 1) := by decide +kernel
theorem dX4_init_23 : decode cX4_init 23 = .ok (.aload_n 0, 1) := by decide +kernel
theorem dX4_init_24 : decode cX4_init 24 = .ok (.getfield 15, 3) := by decide +kernel
theorem dX4_init_27 : decode cX4_init 27 = .ok (.aload_n 0, 1) := by decide +kernel
theorem dX4_init_28 : decode cX4_init 28 = .ok (.getfield 21, 3) := by decide +kernel
theorem dX4_init_31 : decode cX4_init 31 = .ok (.imul, 1) := by decide +kernel
theorem dX4_init_32 : decode cX4_init 32 = .ok (.newarray .int, 2) := by decide +kernel
theorem dX4_init_34 : decode cX4_init 34 = .ok (.putfield 24, 3) := by decide +kernel
theorem dX4_init_37 : decode cX4_init 37 = .ok (.return_, 1) := by decide +kernel
theorem dX4_has_0 : decode cX4_has 0 = .ok (.iload_n 1, 1) := by decide +kernel
theorem dX4_has_1 : decode cX4_has 1 = .ok (.ifCond .lt 15, 3) := by decide +kernel
theorem dX4_has_4 : decode cX4_has 4 = .ok (.iload_n 1, 1) := by decide +kernel
theorem dX4_has_5 : decode cX4_has 5 = .ok (.aload_n 0, 1) := by decide +kernel
theorem dX4_has_6 : decode cX4_has 6 = .ok (.getfield 28, 3) := by decide +kernel
theorem dX4_has_9 : decode cX4_has 9 = .ok (.if_icmp .ge 7, 3) := by decide +kernel
theorem dX4_has_12 : decode cX4_has 12 = .ok (.iconst 1, 1) := by decide +kernel
theorem dX4_has_13 : decode cX4_has 13 = .ok (.goto 4, 3) := by decide +kernel
theorem dX4_has_16 : decode cX4_has 16 = .ok (.iconst 0, 1) := by decide +kernel
theorem dX4_has_17 : decode cX4_has 17 = .ok (.ireturn, 1) := by decide +kernel
theorem dX4_isFull_0 : decode cX4_isFull 0 = .ok (.aload_n 0, 1) := by decide +kernel
theorem dX4_isFull_1 : decode cX4_isFull 1 = .ok (.getfield 28, 3) := by decide +kernel
theorem dX4_isFull_4 : decode cX4_isFull 4 = .ok (.aload_n 0, 1) := by decide +kernel
theorem dX4_isFull_5 : decode cX4_isFull 5 = .ok (.getfield 15, 3) := by decide +kernel
theorem dX4_isFull_8 : decode cX4_isFull 8 = .ok (.if_icmp .lt 7, 3) := by decide +kernel
theorem dX4_isFull_11 : decode cX4_isFull 11 = .ok (.iconst 1, 1) := by decide +kernel
theorem dX4_isFull_12 : decode cX4_isFull 12 = .ok (.goto 4, 3) := by decide +kernel
theorem dX4_isFull_15 : decode cX4_isFull 15 = .ok (.iconst 0, 1) := by decide +kernel
theorem dX4_isFull_16 : decode cX4_isFull 16 = .ok (.ireturn, 1) := by decide +kernel
theorem dX4_hasCell_0 : decode cX4_hasCell 0 = .ok (.iload_n 1, 1) := by decide +kernel
theorem dX4_hasCell_1 : decode cX4_hasCell 1 = .ok (.ifCond .lt 27, 3) := by decide +kernel
theorem dX4_hasCell_4 : decode cX4_hasCell 4 = .ok (.iload_n 1, 1) := by decide +kernel
theorem dX4_hasCell_5 : decode cX4_hasCell 5 = .ok (.aload_n 0, 1) := by decide +kernel
theorem dX4_hasCell_6 : decode cX4_hasCell 6 = .ok (.getfield 15, 3) := by decide +kernel
theorem dX4_hasCell_9 : decode cX4_hasCell 9 = .ok (.if_icmp .ge 19, 3) := by decide +kernel
theorem dX4_hasCell_12 : decode cX4_hasCell 12 = .ok (.iload_n 2, 1) := by decide +kernel
theorem dX4_hasCell_13 : decode cX4_hasCell 13 = .ok (.ifCond .lt 15, 3) := by decide +kernel
theorem dX4_hasCell_16 : decode cX4_hasCell 16 = .ok (.iload_n 2, 1) := by decide +kernel
theorem dX4_hasCell_17 : decode cX4_hasCell 17 = .ok (.aload_n 0, 1) := by decide +kernel
theorem dX4_hasCell_18 : decode cX4_hasCell 18 = .ok (.getfield 21, 3) := by decide +kernel
theorem dX4_hasCell_21 : decode cX4_hasCell 21 = .ok (.if_icmp .ge 7, 3) := by decide +kernel
theorem dX4_hasCell_24 : decode cX4_hasCell 24 = .ok (.iconst 1, 1) := by decide +kernel
theorem dX4_hasCell_25 : decode cX4_hasCell 25 = .ok (.goto 4, 3) := by decide +kernel
theorem dX4_hasCell_28 : decode cX4_hasCell 28 = .ok (.iconst 0, 1) := by decide +kernel
theorem dX4_hasCell_29 : decode cX4_hasCell 29 = .ok (.ireturn, 1) := by decide +kernel
set_option maxRecDepth 20000 in
theorem ggX4_at_X4_hasCell : GoodIn wsX4_at wsX4_hasCell := goodIn_r _ [7, 8, 2, 9, 10, 11, 12] (by decide +kernel) (by decide +kernel)
set_option maxRecDepth 20000 in
theorem gX4_at_X4_hasCell : GoodIn wsX4_at (wsV RX4 31 RX4 yX4_hasCell wsX4_hasCell) := goodIn_app (goodIn_of _ (by decide +kernel)) ggX4_at_X4_hasCell
theorem dX4_at_0 : decode cX4_at 0 = .ok (.aload_n 0, 1) := by decide +kernel
theorem dX4_at_1 : decode cX4_at 1 = .ok (.iload_n 1, 1) := by decide +kernel
theorem dX4_at_2 : decode cX4_at 2 = .ok (.iload_n 2, 1) := by decide +kernel
theorem dX4_at_3 : decode cX4_at 3 = .ok (.invokevirtual 31, 3) := by decide +kernel
theorem dX4_at_6 : decode cX4_at 6 = .ok (.ifCond .eq 19, 3) := by decide +kernel
theorem dX4_at_9 : decode cX4_at 9 = .ok (.aload_n 0, 1) := by decide +kernel
theorem dX4_at_10 : decode cX4_at 10 = .ok (.getfield 24, 3) := by decide +kernel
theorem dX4_at_13 : decode cX4_at 13 = .ok (.iload_n 1, 1) := by decide +kernel
theorem dX4_at_14 : decode cX4_at 14 = .ok (.aload_n 0, 1) := by decide +kernel
theorem dX4_at_15 : decode cX4_at 15 = .ok (.getfield 21, 3) := by decide +kernel
theorem dX4_at_18 : decode cX4_at 18 = .ok (.imul, 1) := by decide +kernel
theorem dX4_at_19 : decode cX4_at 19 = .ok (.iload_n 2, 1) := by decide +kernel
theorem dX4_at_20 : decode cX4_at 20 = .ok (.iadd, 1) := by decide +kernel
theorem dX4_at_21 : decode cX4_at 21 = .ok (.iaload, 1) := by decide +kernel
theorem dX4_at_22 : decode cX4_at 22 = .ok (.goto 4, 3) := by decide +kernel
theorem dX4_at_25 : decode cX4_at 25 = .ok (.iconst 0, 1) := by decide +kernel
theorem dX4_at_26 : decode cX4_at 26 = .ok (.ireturn, 1) := by decide +kernel
set_option maxRecDepth 20000 in
theorem ggX4_write_X4_hasCell : GoodIn wsX4_write wsX4_hasCell := goodIn_r _ [7, 8, 2, 9, 10, 11, 12] (by decide +kernel) (by decide +kernel)
set_option maxRecDepth 20000 in
theorem gX4_write_X4_hasCell : GoodIn wsX4_write (wsV RX4 31 RX4 yX4_hasCell wsX4_hasCell) := goodIn_app (goodIn_of _ (by decide +kernel)) ggX4_write_X4_hasCell
theorem dX4_write_0 : decode cX4_write 0 = .ok (.aload_n 0, 1) := by decide +kernel
theorem dX4_write_1 : decode cX4_write 1 = .ok (.iload_n 1, 1) := by decide +kernel
theorem dX4_write_2 : decode cX4_write 2 = .ok (.iload_n 2, 1) := by decide +kernel
theorem dX4_write_3 : decode cX4_write 3 = .ok (.invokevirtual 31, 3) := by decide +kernel
theorem dX4_write_6 : decode cX4_write 6 = .ok (.ifCond .eq 17, 3) := by decide +kernel
theorem dX4_write_9 : decode cX4_write 9 = .ok (.aload_n 0, 1) := by decide +kernel
theorem dX4_write_10 : decode cX4_write 10 = .ok (.getfield 24, 3) := by decide +kernel
theorem dX4_write_13 : decode cX4_write 13 = .ok (.iload_n 1, 1) := by decide +kernel
theorem dX4_write_14 : decode cX4_write 14 = .ok (.aload_n 0, 1) := by decide +kernel
theorem dX4_write_15 : decode cX4_write 15 = .ok (.getfield 21, 3) := by decide +kernel
theorem dX4_write_18 : decode cX4_write 18 = .ok (.imul, 1) := by decide +kernel
theorem dX4_write_19 : decode cX4_write 19 = .ok (.iload_n 2, 1) := by decide +kernel
theorem dX4_write_20 : decode cX4_write 20 = .ok (.iadd, 1) := by decide +kernel
theorem dX4_write_21 : decode cX4_write 21 = .ok (.iload_n 3, 1) := by decide +kernel
theorem dX4_write_22 : decode cX4_write 22 = .ok (.iastore, 1) := by decide +kernel
theorem dX4_write_23 : decode cX4_write 23 = .ok (.return_, 1) := by decide +kernel
set_option maxRecDepth 20000 in
theorem ggX4_addLine_X4_isFull : GoodIn wsX4_addLine wsX4_isFull := goodIn_r _ [6, 1, 7, 8, 9, 10, 11] (by decide +kernel) (by decide +kernel)
set_option maxRecDepth 20000 in
theorem gX4_addLine_X4_isFull : GoodIn wsX4_addLine (wsV RX4 35 RX4 yX4_isFull wsX4_isFull) := goodIn_app (goodIn_of _ (by decide +kernel)) ggX4_addLine_X4_isFull
theorem dX4_addLine_0 : decode cX4_addLine 0 = .ok (.aload_n 0, 1) := by decide +kernel
theorem dX4_addLine_1 : decode cX4_addLine 1 = .ok (.invokevirtual 35, 3) := by decide +kernel
theorem dX4_addLine_4 : decode cX4_addLine 4 = .ok (.ifCond .eq 5, 3) := by decide +kernel
theorem dX4_addLine_7 : decode cX4_addLine 7 = .ok (.iconst (-1), 1) := by decide +kernel
theorem dX4_addLine_8 : decode cX4_addLine 8 = .ok (.ireturn, 1) := by decide +kernel
theorem dX4_addLine_9 : decode cX4_addLine 9 = .ok (.aload_n 0, 1) := by decide +kernel
theorem dX4_addLine_10 : decode cX4_addLine 10 = .ok (.dup, 1) := by decide +kernel
theorem dX4_addLine_11 : decode cX4_addLine 11 = .ok (.getfield 28, 3) := by decide +kernel
theorem dX4_addLine_14 : decode cX4_addLine 14 = .ok (.iconst 1, 1) := by decide +kernel
theorem dX4_addLine_15 : decode cX4_addLine 15 = .ok (.iadd, 1) := by decide +kernel
theorem dX4_addLine_16 : decode cX4_addLine 16 = .ok (.putfield 28, 3) := by decide +kernel
theorem dX4_addLine_19 : decode cX4_addLine 19 = .ok (.aload_n 0, 1) := by decide +kernel
theorem dX4_addLine_20 : decode cX4_addLine 20 = .ok (.getfield 28, 3) := by decide +kernel
theorem dX4_addLine_23 : decode cX4_addLine 23 = .ok (.iconst 1, 1) := by decide +kernel
theorem dX4_addLine_24 : decode cX4_addLine 24 = .ok (.isub, 1) := by decide +kernel
theorem dX4_addLine_25 : decode cX4_addLine 25 = .ok (.ireturn, 1) := by decide +kernel
set_option maxRecDepth 20000 in
theorem ggX4_removeLine_X4_has : GoodIn wsX4_removeLine wsX4_has := goodIn_r _ [12, 1, 13, 14, 15, 16] (by decide +kernel) (by decide +kernel)
set_option maxRecDepth 20000 in
theorem gX4_removeLine_X4_has : GoodIn wsX4_removeLine (wsV RX4 39 RX4 yX4_has wsX4_has) := goodIn_app (goodIn_of _ (by decide +kernel)) ggX4_removeLine_X4_has
theorem dX4_removeLine_0 : decode cX4_removeLine 0 = .ok (.aload_n 0, 1) := by decide +kernel
theorem dX4_removeLine_1 : decode cX4_removeLine 1 = .ok (.iload_n 1, 1) := by decide +kernel
theorem dX4_removeLine_2 : decode cX4_removeLine 2 = .ok (.invokevirtual 39, 3) := by decide +kernel
theorem dX4_removeLine_5 : decode cX4_removeLine 5 = .ok (.ifCond .ne 4, 3) := by decide +kernel
theorem dX4_removeLine_8 : decode cX4_removeLine 8 = .ok (.return_, 1) := by decide +kernel
theorem dX4_removeLine_9 : decode cX4_removeLine 9 = .ok (.aload_n 0, 1) := by decide +kernel
theorem dX4_removeLine_10 : decode cX4_removeLine 10 = .ok (.getfield 28, 3) := by decide +kernel
theorem dX4_removeLine_13 : decode cX4_removeLine 13 = .ok (.iconst 1, 1) := by decide +kernel
theorem dX4_removeLine_14 : decode cX4_removeLine 14 = .ok (.isub, 1) := by decide +kernel
theorem dX4_removeLine_15 : decode cX4_removeLine 15 = .ok (.iload_n 1, 1) := by decide +kernel
theorem dX4_removeLine_16 : decode cX4_removeLine 16 = .ok (.isub, 1) := by decide +kernel
theorem dX4_removeLine_17 : decode cX4_removeLine 17 = .ok (.aload_n 0, 1) := by decide +kernel
theorem dX4_removeLine_18 : decode cX4_removeLine 18 = .ok (.getfield 21, 3) := by decide +kernel
theorem dX4_removeLine_21 : decode cX4_removeLine 21 = .ok (.imul, 1) := by decide +kernel
theorem dX4_removeLine_22 : decode cX4_removeLine 22 = .ok (.istore_n 2, 1) := by decide +kernel
theorem dX4_removeLine_23 : decode cX4_removeLine 23 = .ok (.aload_n 0, 1) := by decide +kernel
theorem dX4_removeLine_24 : decode cX4_removeLine 24 = .ok (.getfield 24, 3) := by decide +kernel
theorem dX4_removeLine_27 : decode cX4_removeLine 27 = .ok (.iload_n 1, 1) := by decide +kernel
theorem dX4_removeLine_28 : decode cX4_removeLine 28 = .ok (.iconst 1, 1) := by decide +kernel
theorem dX4_removeLine_29 : decode cX4_removeLine 29 = .ok (.iadd, 1) := by decide +kernel
theorem dX4_removeLine_30 : decode cX4_removeLine 30 = .ok (.aload_n 0, 1) := by decide +kernel
theorem dX4_removeLine_31 : decode cX4_removeLine 31 = .ok (.getfield 21, 3) := by decide +kernel
theorem dX4_removeLine_34 : decode cX4_removeLine 34 = .ok (.imul, 1) := by decide +kernel
theorem dX4_removeLine_35 : decode cX4_removeLine 35 = .ok (.aload_n 0, 1) := by decide +kernel
theorem dX4_removeLine_36 : decode cX4_removeLine 36 = .ok (.getfield 24, 3) := by decide +kernel
theorem dX4_removeLine_39 : decode cX4_removeLine 39 = .ok (.iload_n 1, 1) := by decide +kernel
theorem dX4_removeLine_40 : decode cX4_removeLine 40 = .ok (.aload_n 0, 1) := by decide +kernel
theorem dX4_removeLine_41 : decode cX4_removeLine 41 = .ok (.getfield 21, 3) := by decide +kernel
theorem dX4_removeLine_44 : decode cX4_removeLine 44 = .ok (.imul, 1) := by decide +kernel
theorem dX4_removeLine_45 : decode cX4_removeLine 45 = .ok (.iload_n 2, 1) := by decide +kernel
theorem dX4_removeLine_46 : decode cX4_removeLine 46 = .ok (.invokestatic 43, 3) := by decide +kernel
theorem dX4_removeLine_49 : decode cX4_removeLine 49 = .ok (.aload_n 0, 1) := by decide +kernel
theorem dX4_removeLine_50 : decode cX4_removeLine 50 = .ok (.dup, 1) := by decide +kernel
theorem dX4_removeLine_51 : decode cX4_removeLine 51 = .ok (.getfield 28, 3) := by decide +kernel
theorem dX4_removeLine_54 : decode cX4_removeLine 54 = .ok (.iconst 1, 1) := by decide +kernel
theorem dX4_removeLine_55 : decode cX4_removeLine 55 = .ok (.isub, 1) := by decide +kernel
theorem dX4_removeLine_56 : decode cX4_removeLine 56 = .ok (.putfield 28, 3) := by decide +kernel
theorem dX4_removeLine_59 : decode cX4_removeLine 59 = .ok (.return_, 1) := by decide +kernel
set_option maxRecDepth 20000 in
theorem ggX4_copyFrom_X5_copyRow : GoodIn wsX4_copyFrom wsX5_copyRow := goodIn_r _ [5, 6, 7, 8, 9, 10, 11, 12, 13] (by decide +kernel) (by decide +kernel)
set_option maxRecDepth 20000 in
theorem gX4_copyFrom_X5_copyRow_n49 : GoodIn wsX4_copyFrom (wsX5_copyRow) := ggX4_copyFrom_X5_copyRow
theorem dX4_copyFrom_0 : decode cX4_copyFrom 0 = .ok (.aload_n 0, 1) := by decide +kernel
theorem dX4_copyFrom_1 : decode cX4_copyFrom 1 = .ok (.aload_n 1, 1) := by decide +kernel
theorem dX4_copyFrom_2 : decode cX4_copyFrom 2 = .ok (.getfield 28, 3) := by decide +kernel
theorem dX4_copyFrom_5 : decode cX4_copyFrom 5 = .ok (.putfield 28, 3) := by decide +kernel
theorem dX4_copyFrom_8 : decode cX4_copyFrom 8 = .ok (.aload_n 1, 1) := by decide +kernel
theorem dX4_copyFrom_9 : decode cX4_copyFrom 9 = .ok (.getfield 24, 3) := by decide +kernel
theorem dX4_copyFrom_12 : decode cX4_copyFrom 12 = .ok (.aload_n 0, 1) := by decide +kernel
theorem dX4_copyFrom_13 : decode cX4_copyFrom 13 = .ok (.getfield 24, 3) := by decide +kernel
theorem dX4_copyFrom_16 : decode cX4_copyFrom 16 = .ok (.invokestatic 49, 3) := by decide +kernel
theorem dX4_copyFrom_19 : decode cX4_copyFrom 19 = .ok (.return_, 1) := by decide +kernel
set_option maxRecDepth 20000 in
theorem ggX5_init_X2_init : GoodIn wsX5_init wsX2_init := goodIn_r _ [23, 24, 2, 3, 25, 26, 66, 67, 68, 69, 70, 71, 72, 73] (by decide +kernel) (by decide +kernel)
set_option maxRecDepth 20000 in
theorem gX5_init_X2_init_n9 : GoodIn wsX5_init (wsX2_init) := ggX5_init_X2_init
set_option maxRecDepth 20000 in
theorem ggX5_init_X1_init : GoodIn wsX5_init wsX1_init := goodIn_r _ [28, 29, 2, 3, 30, 31, 32, 33, 34, 35, 36, 37, 38, 39, 40, 41, 42, 43, 44, 45, 46, 47, 48, 49, 50, 51, 102, 103, 104, 105, 80, 81, 82, 83, 84, 85, 86, 87, 88, 89, 90, 91, 92, 93, 94, 95, 96] (by decide +kernel) (by decide +kernel)
set_option maxRecDepth 20000 in
theorem gX5_init_X1_init_n18 : GoodIn wsX5_init (wsX1_init) := ggX5_init_X1_init
set_option maxRecDepth 20000 in
theorem ggX5_init_X0_init : GoodIn wsX5_init wsX0_init := goodIn_r _ [54, 55, 2, 3, 56, 57, 9, 10, 27, 28, 29, 30, 31, 32, 33, 34, 35, 36, 37, 38, 39, 40, 41, 42, 43, 44, 45, 46, 47, 48, 49, 50, 51, 97, 98, 99, 80, 81, 82, 83, 84, 85, 86, 87, 88, 89, 90, 91, 92, 93, 94, 95, 96, 102, 103, 104, 105] (by decide +kernel) (by decide +kernel)
set_option maxRecDepth 20000 in
theorem gX5_init_X0_init : GoodIn wsX5_init (wsX0_init) := ggX5_init_X0_init
set_option maxRecDepth 20000 in
theorem ggX5_init_X3_init : GoodIn wsX5_init wsX3_init := goodIn_r _ [60, 61, 2, 3, 62, 63, 64, 65, 9, 10, 27, 28, 29, 30, 31, 32, 33, 34, 35, 36, 37, 38, 39, 40, 41, 42, 43, 44, 45, 46, 47, 48, 49, 50, 51, 100, 101, 80, 81, 82, 83, 84, 85, 86, 87, 88, 89, 90, 91, 92, 93, 94, 95, 96, 102, 103, 104, 105] (by decide +kernel) (by decide +kernel)
set_option maxRecDepth 20000 in
theorem gX5_init_X3_init : GoodIn wsX5_init (wsX3_init) := ggX5_init_X3_init
theorem dX5_init_0 : decode cX5_init 0 = .ok (.aload_n 0, 1) := by decide +kernel
theorem dX5_init_1 : decode cX5_init 1 = .ok (.invokespecial 1, 3) := by decide +kernel
theorem dX5_init_4 : decode cX5_init 4 = .ok (.aload_n 0, 1) := by decide +kernel
theorem dX5_init_5 : decode cX5_init 5 = .ok (.new 7, 3) := by decide +kernel
theorem dX5_init_8 : decode cX5_init 8 = .ok (.dup, 1) := by decide +kernel
theorem dX5_init_9 : decode cX5_init 9 = .ok (.invokespecial 9, 3) := by decide +kernel
theorem dX5_init_12 : decode cX5_init 12 = .ok (.putfield 10, 3) := by decide +kernel
theorem dX5_init_15 : decode cX5_init 15 = .ok (.aload_n 0, 1) := by decide +kernel
theorem dX5_init_16 : decode cX5_init 16 = .ok (.new 16, 3) := by decide +kernel
theorem dX5_init_19 : decode cX5_init 19 = .ok (.dup, 1) := by decide +kernel
theorem dX5_init_20 : decode cX5_init 20 = .ok (.invokespecial 18, 3) := by decide +kernel
theorem dX5_init_23 : decode cX5_init 23 = .ok (.putfield 19, 3) := by decide +kernel
theorem dX5_init_26 : decode cX5_init 26 = .ok (.aload_n 0, 1) := by decide +kernel
theorem dX5_init_27 : decode cX5_init 27 = .ok (.new 16, 3) := by decide +kernel
theorem dX5_init_30 : decode cX5_init 30 = .ok (.dup, 1) := by decide +kernel
theorem dX5_init_31 : decode cX5_init 31 = .ok (.invokespecial 18, 3) := by decide +kernel
theorem dX5_init_34 : decode cX5_init 34 = .ok (.putfield 23, 3) := by decide +kernel
theorem dX5_init_37 : decode cX5_init 37 = .ok (.aload_n 0, 1) := by decide +kernel
theorem dX5_init_38 : decode cX5_init 38 = .ok (.new 16, 3) := by decide +kernel
theorem dX5_init_41 : decode cX5_init 41 = .ok (.dup, 1) := by decide +kernel
theorem dX5_init_42 : decode cX5_init 42 = .ok (.invokespecial 18, 3) := by decide +kernel
theorem dX5_init_45 : decode cX5_init 45 = .ok (.putfield 26, 3) := by decide +kernel
theorem dX5_init_48 : decode cX5_init 48 = .ok (.aload_n 0, 1) := by decide +kernel
theorem dX5_init_49 : decode cX5_init 49 = .ok (.new 29, 3) := by decide +kernel
theorem dX5_init_52 : decode cX5_init 52 = .ok (.dup, 1) := by decide +kernel
theorem dX5_init_53 : decode cX5_init 53 = .ok (.invokespecial 31, 3) := by decide +kernel
theorem dX5_init_56 : decode cX5_init 56 = .ok (.putfield 32, 3) := by decide +kernel
theorem dX5_init_59 : decode cX5_init 59 = .ok (.aload_n 0, 1) := by decide +kernel
theorem dX5_init_60 : decode cX5_init 60 = .ok (.new 36, 3) := by decide +kernel
theorem dX5_init_63 : decode cX5_init 63 = .ok (.dup, 1) := by decide +kernel
theorem dX5_init_64 : decode cX5_init 64 = .ok (.invokespecial 38, 3) := by decide +kernel
theorem dX5_init_67 : decode cX5_init 67 = .ok (.putfield 39, 3) := by decide +kernel
theorem dX5_init_70 : decode cX5_init 70 = .ok (.return_, 1) := by decide +kernel
set_option maxRecDepth 20000 in
theorem ggX5_append_X2_isFull : GoodIn wsX5_append wsX2_isFull := goodIn_r _ [10, 11, 23, 24, 25, 26, 27, 28, 29, 30] (by decide +kernel) (by decide +kernel)
set_option maxRecDepth 20000 in
theorem gX5_append_X2_isFull : GoodIn wsX5_append (wsV RX5 50 RX2 yX2_isFull wsX2_isFull) := goodIn_app (goodIn_of _ (by decide +kernel)) ggX5_append_X2_isFull
set_option maxRecDepth 20000 in
theorem ggX5_append_X2_addCharacter : GoodIn wsX5_append wsX2_addCharacter := goodIn_r _ [15, 11, 16, 23, 24, 25, 26, 27, 28, 29, 30] (by decide +kernel) (by decide +kernel)
set_option maxRecDepth 20000 in
theorem gX5_append_X2_addCharacter : GoodIn wsX5_append (wsV RX5 59 RX2 yX2_addCharacter wsX2_addCharacter) := goodIn_app (goodIn_of _ (by decide +kernel)) ggX5_append_X2_addCharacter
theorem dX5_append_0 : decode cX5_append 0 = .ok (.iload_n 1, 1) := by decide +kernel
theorem dX5_append_1 : decode cX5_append 1 = .ok (.ifCond .lt 10, 3) := by decide +kernel
theorem dX5_append_4 : decode cX5_append 4 = .ok (.iload_n 1, 1) := by decide +kernel
theorem dX5_append_5 : decode cX5_append 5 = .ok (.sipush 255, 3) := by decide +kernel
theorem dX5_append_8 : decode cX5_append 8 = .ok (.if_icmp .le 13, 3) := by decide +kernel
theorem dX5_append_11 : decode cX5_append 11 = .ok (.new 43, 3) := by decide +kernel
theorem dX5_append_14 : decode cX5_append 14 = .ok (.dup, 1) := by decide +kernel
theorem dX5_append_15 : decode cX5_append 15 = .ok (.ldc 45, 2) := by decide +kernel
theorem dX5_append_17 : decode cX5_append 17 = .ok (.invokespecial 47, 3) := by decide +kernel
theorem dX5_append_20 : decode cX5_append 20 = .ok (.athrow, 1) := by decide +kernel
theorem dX5_append_21 : decode cX5_append 21 = .ok (.aload_n 0, 1) := by decide +kernel
theorem dX5_append_22 : decode cX5_append 22 = .ok (.getfield 10, 3) := by decide +kernel
theorem dX5_append_25 : decode cX5_append 25 = .ok (.invokevirtual 50, 3) := by decide +kernel
theorem dX5_append_28 : decode cX5_append 28 = .ok (.ifCond .eq 13, 3) := by decide +kernel
theorem dX5_append_31 : decode cX5_append 31 = .ok (.new 54, 3) := by decide +kernel
theorem dX5_append_34 : decode cX5_append 34 = .ok (.dup, 1) := by decide +kernel
theorem dX5_append_35 : decode cX5_append 35 = .ok (.ldc 56, 2) := by decide +kernel
theorem dX5_append_37 : decode cX5_append 37 = .ok (.invokespecial 58, 3) := by decide +kernel
theorem dX5_append_40 : decode cX5_append 40 = .ok (.athrow, 1) := by decide +kernel
theorem dX5_append_41 : decode cX5_append 41 = .ok (.aload_n 0, 1) := by decide +kernel
theorem dX5_append_42 : decode cX5_append 42 = .ok (.getfield 10, 3) := by decide +kernel
theorem dX5_append_45 : decode cX5_append 45 = .ok (.iload_n 1, 1) := by decide +kernel
theorem dX5_append_46 : decode cX5_append 46 = .ok (.i2c, 1) := by decide +kernel
theorem dX5_append_47 : decode cX5_append 47 = .ok (.invokevirtual 59, 3) := by decide +kernel
theorem dX5_append_50 : decode cX5_append 50 = .ok (.ireturn, 1) := by decide +kernel
set_option maxRecDepth 20000 in
theorem ggX5_load_X2_firstWrong : GoodIn wsX5_load wsX2_firstWrong := goodIn_r _ [12, 13, 14, 15, 16, 17, 11, 18, 19, 20, 21, 22, 23, 24, 25, 26, 27, 28, 29, 30, 31, 32, 33, 34, 35, 36, 37, 38, 39, 40, 41, 42, 43, 44, 225, 226, 227, 228, 229, 230, 231, 232] (by decide +kernel) (by decide +kernel)
set_option maxRecDepth 20000 in
theorem gX5_load_X2_firstWrong : GoodIn wsX5_load (wsV RX5 67 RX2 yX2_firstWrong wsX2_firstWrong) := goodIn_app (goodIn_of _ (by decide +kernel)) ggX5_load_X2_firstWrong
set_option maxRecDepth 20000 in
theorem ggX5_load_X1_copyFrom : GoodIn wsX5_load wsX1_copyFrom := goodIn_r _ [49, 50, 51, 52, 53, 54, 55, 56, 57, 58, 59, 60, 61, 62, 63, 64, 65, 66, 67, 68, 69, 70, 71, 72, 73, 74, 75, 76, 77, 78, 79, 80, 81, 82, 83, 84, 233, 234, 235, 236, 237, 238, 239, 240, 241, 242, 243, 244, 245, 246, 247, 248, 249, 250, 251, 252, 253] (by decide +kernel) (by decide +kernel)
set_option maxRecDepth 20000 in
theorem gX5_load_X1_copyFrom : GoodIn wsX5_load (wsV RX5 72 RX1 yX1_copyFrom wsX1_copyFrom) := goodIn_app (goodIn_of _ (by decide +kernel)) ggX5_load_X1_copyFrom
set_option maxRecDepth 20000 in
theorem ggX5_load_X0_forget : GoodIn wsX5_load wsX0_forget := goodIn_r _ [89, 90, 254, 255, 256] (by decide +kernel) (by decide +kernel)
set_option maxRecDepth 20000 in
theorem gX5_load_X0_forget : GoodIn wsX5_load (wsV RX5 76 RX0 yX0_forget wsX0_forget) := goodIn_app (goodIn_of _ (by decide +kernel)) ggX5_load_X0_forget
set_option maxRecDepth 20000 in
theorem ggX5_load_X3_wipe : GoodIn wsX5_load wsX3_wipe := goodIn_r _ [95, 96, 257, 258] (by decide +kernel) (by decide +kernel)
set_option maxRecDepth 20000 in
theorem gX5_load_X3_wipe : GoodIn wsX5_load (wsV RX5 79 RX3 yX3_wipe wsX3_wipe) := goodIn_app (goodIn_of _ (by decide +kernel)) ggX5_load_X3_wipe
set_option maxRecDepth 20000 in
theorem ggX5_load_X2_rewind : GoodIn wsX5_load wsX2_rewind := goodIn_r _ [18, 14, 13, 19, 20, 21, 11, 22, 23, 24, 225, 226, 227, 228, 229, 230, 231, 232] (by decide +kernel) (by decide +kernel)
set_option maxRecDepth 20000 in
theorem gX5_load_X2_rewind : GoodIn wsX5_load (wsV RX5 81 RX2 yX2_rewind wsX2_rewind) := goodIn_app (goodIn_of _ (by decide +kernel)) ggX5_load_X2_rewind
set_option maxRecDepth 20000 in
theorem ggX5_load_X2_readCommand : GoodIn wsX5_load wsX2_readCommand := goodIn_r _ [28, 13, 14, 23, 29, 19, 20, 21, 11, 22, 24, 30, 31, 32, 33, 34, 35, 36, 37, 38, 39, 40, 41, 42, 43, 44, 225, 226, 227, 228, 229, 230, 231, 232] (by decide +kernel) (by decide +kernel)
set_option maxRecDepth 20000 in
theorem gX5_load_X2_readCommand : GoodIn wsX5_load (wsV RX5 84 RX2 yX2_readCommand wsX2_readCommand) := goodIn_app (goodIn_of _ (by decide +kernel)) ggX5_load_X2_readCommand
set_option maxRecDepth 20000 in
theorem ggX5_load_X5_obeysCommand : GoodIn wsX5_load wsX5_obeysCommand := goodIn_r _ [102, 3, 4, 103, 104, 105, 48, 106, 107, 75, 108, 109, 110, 111, 112, 51, 113, 114, 115, 116, 117, 118, 119, 70, 120, 72, 121, 122, 123, 124, 125, 126, 127, 128, 129, 130, 73, 131, 132, 133, 134, 135, 136, 137, 138, 139, 140, 141, 142, 143, 55, 144, 145, 146, 147, 148, 149, 150, 151, 152, 153, 63, 56, 60, 154, 78, 79, 80, 155, 156, 157, 158, 159, 160, 57, 58, 161, 162, 163, 164, 59, 65, 165, 166, 167, 168, 169, 170, 171, 172, 173, 174, 175, 176, 177, 178, 179, 52, 180, 181, 182, 183, 184, 185, 186, 187, 50, 188, 189, 190, 191, 192, 193, 194, 195, 196, 197, 198, 199, 200, 82, 83, 84, 201, 202, 203, 204, 205, 206, 207, 208, 66, 209, 210, 211, 212, 213, 53, 64, 54, 61, 62, 214, 215, 216, 217, 218, 219, 220, 221, 222, 223, 224, 225, 226, 227, 228, 229, 230, 231, 232, 233, 234, 235, 236, 237, 238, 239, 240, 241, 242, 243, 244, 245, 246, 247, 248, 249, 250, 251, 252, 253] (by decide +kernel) (by decide +kernel)
set_option maxRecDepth 20000 in
theorem gX5_load_X5_obeysCommand : GoodIn wsX5_load (wsV RX5 87 RX5 yX5_obeysCommand wsX5_obeysCommand) := goodIn_app (goodIn_of _ (by decide +kernel)) ggX5_load_X5_obeysCommand
theorem dX5_load_0 : decode cX5_load 0 = .ok (.aload_n 0, 1) := by decide +kernel
theorem dX5_load_1 : decode cX5_load 1 = .ok (.getfield 10, 3) := by decide +kernel
theorem dX5_load_4 : decode cX5_load 4 = .ok (.invokevirtual 67, 3) := by decide +kernel
theorem dX5_load_7 : decode cX5_load 7 = .ok (.iconst (-1), 1) := by decide +kernel
theorem dX5_load_8 : decode cX5_load 8 = .ok (.if_icmp .eq 13, 3) := by decide +kernel
theorem dX5_load_11 : decode cX5_load 11 = .ok (.new 54, 3) := by decide +kernel
theorem dX5_load_14 : decode cX5_load 14 = .ok (.dup, 1) := by decide +kernel
theorem dX5_load_15 : decode cX5_load 15 = .ok (.ldc 70, 2) := by decide +kernel
theorem dX5_load_17 : decode cX5_load 17 = .ok (.invokespecial 58, 3) := by decide +kernel
theorem dX5_load_20 : decode cX5_load 20 = .ok (.athrow, 1) := by decide +kernel
theorem dX5_load_21 : decode cX5_load 21 = .ok (.aload_n 0, 1) := by decide +kernel
theorem dX5_load_22 : decode cX5_load 22 = .ok (.getfield 19, 3) := by decide +kernel
theorem dX5_load_25 : decode cX5_load 25 = .ok (.aload_n 0, 1) := by decide +kernel
theorem dX5_load_26 : decode cX5_load 26 = .ok (.getfield 23, 3) := by decide +kernel
theorem dX5_load_29 : decode cX5_load 29 = .ok (.invokevirtual 72, 3) := by decide +kernel
theorem dX5_load_32 : decode cX5_load 32 = .ok (.aload_n 0, 1) := by decide +kernel
theorem dX5_load_33 : decode cX5_load 33 = .ok (.getfield 32, 3) := by decide +kernel
theorem dX5_load_36 : decode cX5_load 36 = .ok (.invokevirtual 76, 3) := by decide +kernel
theorem dX5_load_39 : decode cX5_load 39 = .ok (.aload_n 0, 1) := by decide +kernel
theorem dX5_load_40 : decode cX5_load 40 = .ok (.getfield 39, 3) := by decide +kernel
theorem dX5_load_43 : decode cX5_load 43 = .ok (.invokevirtual 79, 3) := by decide +kernel
theorem dX5_load_46 : decode cX5_load 46 = .ok (.aload_n 0, 1) := by decide +kernel
theorem dX5_load_47 : decode cX5_load 47 = .ok (.getfield 10, 3) := by decide +kernel
theorem dX5_load_50 : decode cX5_load 50 = .ok (.invokevirtual 81, 3) := by decide +kernel
theorem dX5_load_53 : decode cX5_load 53 = .ok (.iconst 0, 1) := by decide +kernel
theorem dX5_load_54 : decode cX5_load 54 = .ok (.istore_n 1, 1) := by decide +kernel
theorem dX5_load_55 : decode cX5_load 55 = .ok (.iconst 0, 1) := by decide +kernel
theorem dX5_load_56 : decode cX5_load 56 = .ok (.istore_n 2, 1) := by decide +kernel
theorem dX5_load_57 : decode cX5_load 57 = .ok (.iload_n 2, 1) := by decide +kernel
theorem dX5_load_58 : decode cX5_load 58 = .ok (.bipush 120, 2) := by decide +kernel
theorem dX5_load_60 : decode cX5_load 60 = .ok (.if_icmp .ge 29, 3) := by decide +kernel
theorem dX5_load_63 : decode cX5_load 63 = .ok (.aload_n 0, 1) := by decide +kernel
theorem dX5_load_64 : decode cX5_load 64 = .ok (.getfield 10, 3) := by decide +kernel
theorem dX5_load_67 : decode cX5_load 67 = .ok (.invokevirtual 84, 3) := by decide +kernel
theorem dX5_load_70 : decode cX5_load 70 = .ok (.ifCond .eq 19, 3) := by decide +kernel
theorem dX5_load_73 : decode cX5_load 73 = .ok (.aload_n 0, 1) := by decide +kernel
theorem dX5_load_74 : decode cX5_load 74 = .ok (.invokevirtual 87, 3) := by decide +kernel
theorem dX5_load_77 : decode cX5_load 77 = .ok (.ifCond .ne 6, 3) := by decide +kernel
theorem dX5_load_80 : decode cX5_load 80 = .ok (.iinc 1 1, 3) := by decide +kernel
theorem dX5_load_83 : decode cX5_load 83 = .ok (.iinc 2 1, 3) := by decide +kernel
theorem dX5_load_86 : decode cX5_load 86 = .ok (.goto (-29), 3) := by decide +kernel
theorem dX5_load_89 : decode cX5_load 89 = .ok (.iload_n 1, 1) := by decide +kernel
theorem dX5_load_90 : decode cX5_load 90 = .ok (.ireturn, 1) := by decide +kernel
set_option maxRecDepth 20000 in
theorem ggX5_obeysCommand_X1_orderPut : GoodIn wsX5_obeysCommand wsX1_orderPut := goodIn_r _ [7, 8, 9, 10, 11, 12, 13, 6, 14, 15, 16, 17, 18, 19, 20, 21, 22, 23, 24, 25, 26, 27, 28, 29, 30, 31, 32, 33, 34, 35, 36, 37, 38, 39, 40, 41, 161, 162, 163, 164, 165, 166, 167, 168, 169, 170, 171, 172, 173, 174, 175, 176, 177, 178, 179, 180, 181] (by decide +kernel) (by decide +kernel)
set_option maxRecDepth 20000 in
theorem gX5_obeysCommand_X1_orderPut : GoodIn wsX5_obeysCommand (wsV RX5 104 RX1 yX1_orderPut wsX1_orderPut) := goodIn_app (goodIn_of _ (by decide +kernel)) ggX5_obeysCommand_X1_orderPut
set_option maxRecDepth 20000 in
theorem ggX5_obeysCommand_X1_orderPull : GoodIn wsX5_obeysCommand wsX1_orderPull := goodIn_r _ [45, 11, 12, 13, 6, 14, 15, 16, 9, 17, 18, 19, 20, 21, 22, 23, 24, 25, 26, 27, 28, 29, 30, 31, 32, 33, 34, 35, 36, 37, 38, 39, 40, 41, 161, 162, 163, 164, 165, 166, 167, 168, 169, 170, 171, 172, 173, 174, 175, 176, 177, 178, 179, 180, 181] (by decide +kernel) (by decide +kernel)
set_option maxRecDepth 20000 in
theorem gX5_obeysCommand_X1_orderPull : GoodIn wsX5_obeysCommand (wsV RX5 108 RX1 yX1_orderPull wsX1_orderPull) := goodIn_app (goodIn_of _ (by decide +kernel)) ggX5_obeysCommand_X1_orderPull
set_option maxRecDepth 20000 in
theorem ggX5_obeysCommand_X1_change : GoodIn wsX5_obeysCommand wsX1_change := goodIn_r _ [49, 50, 51, 9, 52, 53, 54, 55, 56, 161, 162, 163, 164, 165, 166, 167, 168, 169, 170, 171, 172, 173, 174, 175, 176, 177] (by decide +kernel) (by decide +kernel)
set_option maxRecDepth 20000 in
theorem gX5_obeysCommand_X1_change : GoodIn wsX5_obeysCommand (wsV RX5 112 RX1 yX1_change wsX1_change) := goodIn_app (goodIn_of _ (by decide +kernel)) ggX5_obeysCommand_X1_change
set_option maxRecDepth 20000 in
theorem ggX5_obeysCommand_X1_play : GoodIn wsX5_obeysCommand wsX1_play := goodIn_r _ [60, 61, 62, 63, 50, 64, 65, 66, 67, 68, 9, 69, 70, 71, 72, 6, 73, 74, 75, 76, 77, 78, 79, 15, 80, 81, 82, 83, 84, 85, 86, 87, 88, 23, 89, 36, 37, 38, 39, 40, 41, 26, 90, 91, 92, 93, 94, 95, 96, 97, 16, 17, 32, 33, 34, 35, 98, 99, 100, 101, 102, 103, 104, 105, 106, 107, 108, 109, 110, 20, 21, 22, 24, 25, 27, 28, 29, 30, 31, 111, 112, 113, 114, 115, 116, 117, 118, 119, 120, 121, 122, 123, 124, 125, 126, 127, 128, 129, 130, 131, 132, 133, 134, 135, 136, 137, 138, 139, 140, 141, 142, 143, 144, 145, 161, 162, 163, 164, 165, 166, 167, 168, 169, 170, 171, 172, 173, 174, 175, 176, 177, 178, 179, 180, 181] (by decide +kernel) (by decide +kernel)
set_option maxRecDepth 20000 in
theorem gX5_obeysCommand_X1_play : GoodIn wsX5_obeysCommand (wsV RX5 115 RX1 yX1_play wsX1_play) := goodIn_app (goodIn_of _ (by decide +kernel)) ggX5_obeysCommand_X1_play
set_option maxRecDepth 20000 in
theorem ggX5_obeysCommand_X1_dropOrder : GoodIn wsX5_obeysCommand wsX1_dropOrder := goodIn_r _ [130, 15, 131, 132, 124, 125, 23, 126, 25, 115, 116, 117, 118, 37, 36, 119, 120, 121, 122, 123, 161, 162, 163, 164, 165, 166, 167, 168, 169, 170, 171, 172, 173, 174, 175, 176, 177, 178, 179, 180, 181] (by decide +kernel) (by decide +kernel)
set_option maxRecDepth 20000 in
theorem gX5_obeysCommand_X1_dropOrder : GoodIn wsX5_obeysCommand (wsV RX5 119 RX1 yX1_dropOrder wsX1_dropOrder) := goodIn_app (goodIn_of _ (by decide +kernel)) ggX5_obeysCommand_X1_dropOrder
theorem dX5_obeysCommand_0 : decode cX5_obeysCommand 0 = .ok (.aload_n 0, 1) := by decide +kernel
theorem dX5_obeysCommand_1 : decode cX5_obeysCommand 1 = .ok (.getfield 10, 3) := by decide +kernel
theorem dX5_obeysCommand_4 : decode cX5_obeysCommand 4 = .ok (.getfield 90, 3) := by decide +kernel
theorem dX5_obeysCommand_7 : decode cX5_obeysCommand 7 = .ok (.lookupswitch 197 #[(99, 173), (108, 87), (112, 49), (116, 149), (118, 118)], 49) := by decide +kernel
theorem dX5_obeysCommand_56 : decode cX5_obeysCommand 56 = .ok (.aload_n 0, 1) := by decide +kernel
theorem dX5_obeysCommand_57 : decode cX5_obeysCommand 57 = .ok (.getfield 19, 3) := by decide +kernel
theorem dX5_obeysCommand_60 : decode cX5_obeysCommand 60 = .ok (.aload_n 0, 1) := by decide +kernel
theorem dX5_obeysCommand_61 : decode cX5_obeysCommand 61 = .ok (.getfield 10, 3) := by decide +kernel
theorem dX5_obeysCommand_64 : decode cX5_obeysCommand 64 = .ok (.getfield 94, 3) := by decide +kernel
theorem dX5_obeysCommand_67 : decode cX5_obeysCommand 67 = .ok (.aload_n 0, 1) := by decide +kernel
theorem dX5_obeysCommand_68 : decode cX5_obeysCommand 68 = .ok (.getfield 10, 3) := by decide +kernel
theorem dX5_obeysCommand_71 : decode cX5_obeysCommand 71 = .ok (.getfield 98, 3) := by decide +kernel
theorem dX5_obeysCommand_74 : decode cX5_obeysCommand 74 = .ok (.aload_n 0, 1) := by decide +kernel
theorem dX5_obeysCommand_75 : decode cX5_obeysCommand 75 = .ok (.getfield 10, 3) := by decide +kernel
theorem dX5_obeysCommand_78 : decode cX5_obeysCommand 78 = .ok (.getfield 101, 3) := by decide +kernel
theorem dX5_obeysCommand_81 : decode cX5_obeysCommand 81 = .ok (.invokevirtual 104, 3) := by decide +kernel
theorem dX5_obeysCommand_84 : decode cX5_obeysCommand 84 = .ok (.iconst (-1), 1) := by decide +kernel
theorem dX5_obeysCommand_85 : decode cX5_obeysCommand 85 = .ok (.if_icmp .eq 7, 3) := by decide +kernel
theorem dX5_obeysCommand_88 : decode cX5_obeysCommand 88 = .ok (.iconst 1, 1) := by decide +kernel
theorem dX5_obeysCommand_89 : decode cX5_obeysCommand 89 = .ok (.goto 4, 3) := by decide +kernel
theorem dX5_obeysCommand_92 : decode cX5_obeysCommand 92 = .ok (.iconst 0, 1) := by decide +kernel
theorem dX5_obeysCommand_93 : decode cX5_obeysCommand 93 = .ok (.ireturn, 1) := by decide +kernel
theorem dX5_obeysCommand_94 : decode cX5_obeysCommand 94 = .ok (.aload_n 0, 1) := by decide +kernel
theorem dX5_obeysCommand_95 : decode cX5_obeysCommand 95 = .ok (.getfield 19, 3) := by decide +kernel
theorem dX5_obeysCommand_98 : decode cX5_obeysCommand 98 = .ok (.aload_n 0, 1) := by decide +kernel
theorem dX5_obeysCommand_99 : decode cX5_obeysCommand 99 = .ok (.getfield 10, 3) := by decide +kernel
theorem dX5_obeysCommand_102 : decode cX5_obeysCommand 102 = .ok (.getfield 94, 3) := by decide +kernel
theorem dX5_obeysCommand_105 : decode cX5_obeysCommand 105 = .ok (.aload_n 0, 1) := by decide +kernel
theorem dX5_obeysCommand_106 : decode cX5_obeysCommand 106 = .ok (.getfield 10, 3) := by decide +kernel
theorem dX5_obeysCommand_109 : decode cX5_obeysCommand 109 = .ok (.getfield 98, 3) := by decide +kernel
theorem dX5_obeysCommand_112 : decode cX5_obeysCommand 112 = .ok (.invokevirtual 108, 3) := by decide +kernel
theorem dX5_obeysCommand_115 : decode cX5_obeysCommand 115 = .ok (.iconst (-1), 1) := by decide +kernel
theorem dX5_obeysCommand_116 : decode cX5_obeysCommand 116 = .ok (.if_icmp .eq 7, 3) := by decide +kernel
theorem dX5_obeysCommand_119 : decode cX5_obeysCommand 119 = .ok (.iconst 1, 1) := by decide +kernel
theorem dX5_obeysCommand_120 : decode cX5_obeysCommand 120 = .ok (.goto 4, 3) := by decide +kernel
theorem dX5_obeysCommand_123 : decode cX5_obeysCommand 123 = .ok (.iconst 0, 1) := by decide +kernel
theorem dX5_obeysCommand_124 : decode cX5_obeysCommand 124 = .ok (.ireturn, 1) := by decide +kernel
theorem dX5_obeysCommand_125 : decode cX5_obeysCommand 125 = .ok (.aload_n 0, 1) := by decide +kernel
theorem dX5_obeysCommand_126 : decode cX5_obeysCommand 126 = .ok (.getfield 19, 3) := by decide +kernel
theorem dX5_obeysCommand_129 : decode cX5_obeysCommand 129 = .ok (.aload_n 0, 1) := by decide +kernel
theorem dX5_obeysCommand_130 : decode cX5_obeysCommand 130 = .ok (.getfield 10, 3) := by decide +kernel
theorem dX5_obeysCommand_133 : decode cX5_obeysCommand 133 = .ok (.getfield 94, 3) := by decide +kernel
theorem dX5_obeysCommand_136 : decode cX5_obeysCommand 136 = .ok (.aload_n 0, 1) := by decide +kernel
theorem dX5_obeysCommand_137 : decode cX5_obeysCommand 137 = .ok (.getfield 10, 3) := by decide +kernel
theorem dX5_obeysCommand_140 : decode cX5_obeysCommand 140 = .ok (.getfield 98, 3) := by decide +kernel
theorem dX5_obeysCommand_143 : decode cX5_obeysCommand 143 = .ok (.invokevirtual 112, 3) := by decide +kernel
theorem dX5_obeysCommand_146 : decode cX5_obeysCommand 146 = .ok (.iconst (-1), 1) := by decide +kernel
theorem dX5_obeysCommand_147 : decode cX5_obeysCommand 147 = .ok (.if_icmp .eq 7, 3) := by decide +kernel
theorem dX5_obeysCommand_150 : decode cX5_obeysCommand 150 = .ok (.iconst 1, 1) := by decide +kernel
theorem dX5_obeysCommand_151 : decode cX5_obeysCommand 151 = .ok (.goto 4, 3) := by decide +kernel
theorem dX5_obeysCommand_154 : decode cX5_obeysCommand 154 = .ok (.iconst 0, 1) := by decide +kernel
theorem dX5_obeysCommand_155 : decode cX5_obeysCommand 155 = .ok (.ireturn, 1) := by decide +kernel
theorem dX5_obeysCommand_156 : decode cX5_obeysCommand 156 = .ok (.aload_n 0, 1) := by decide +kernel
theorem dX5_obeysCommand_157 : decode cX5_obeysCommand 157 = .ok (.getfield 19, 3) := by decide +kernel
theorem dX5_obeysCommand_160 : decode cX5_obeysCommand 160 = .ok (.aload_n 0, 1) := by decide +kernel
theorem dX5_obeysCommand_161 : decode cX5_obeysCommand 161 = .ok (.getfield 10, 3) := by decide +kernel
theorem dX5_obeysCommand_164 : decode cX5_obeysCommand 164 = .ok (.getfield 94, 3) := by decide +kernel
theorem dX5_obeysCommand_167 : decode cX5_obeysCommand 167 = .ok (.invokevirtual 115, 3) := by decide +kernel
theorem dX5_obeysCommand_170 : decode cX5_obeysCommand 170 = .ok (.iconst (-1), 1) := by decide +kernel
theorem dX5_obeysCommand_171 : decode cX5_obeysCommand 171 = .ok (.if_icmp .eq 7, 3) := by decide +kernel
theorem dX5_obeysCommand_174 : decode cX5_obeysCommand 174 = .ok (.iconst 1, 1) := by decide +kernel
theorem dX5_obeysCommand_175 : decode cX5_obeysCommand 175 = .ok (.goto 4, 3) := by decide +kernel
theorem dX5_obeysCommand_178 : decode cX5_obeysCommand 178 = .ok (.iconst 0, 1) := by decide +kernel
theorem dX5_obeysCommand_179 : decode cX5_obeysCommand 179 = .ok (.ireturn, 1) := by decide +kernel
theorem dX5_obeysCommand_180 : decode cX5_obeysCommand 180 = .ok (.aload_n 0, 1) := by decide +kernel
theorem dX5_obeysCommand_181 : decode cX5_obeysCommand 181 = .ok (.getfield 19, 3) := by decide +kernel
theorem dX5_obeysCommand_184 : decode cX5_obeysCommand 184 = .ok (.aload_n 0, 1) := by decide +kernel
theorem dX5_obeysCommand_185 : decode cX5_obeysCommand 185 = .ok (.getfield 10, 3) := by decide +kernel
theorem dX5_obeysCommand_188 : decode cX5_obeysCommand 188 = .ok (.getfield 94, 3) := by decide +kernel
theorem dX5_obeysCommand_191 : decode cX5_obeysCommand 191 = .ok (.invokevirtual 119, 3) := by decide +kernel
theorem dX5_obeysCommand_194 : decode cX5_obeysCommand 194 = .ok (.iconst (-1), 1) := by decide +kernel
theorem dX5_obeysCommand_195 : decode cX5_obeysCommand 195 = .ok (.if_icmp .eq 7, 3) := by decide +kernel
theorem dX5_obeysCommand_198 : decode cX5_obeysCommand 198 = .ok (.iconst 1, 1) := by decide +kernel
theorem dX5_obeysCommand_199 : decode cX5_obeysCommand 199 = .ok (.goto 4, 3) := by decide +kernel
theorem dX5_obeysCommand_202 : decode cX5_obeysCommand 202 = .ok (.iconst 0, 1) := by decide +kernel
theorem dX5_obeysCommand_203 : decode cX5_obeysCommand 203 = .ok (.ireturn, 1) := by decide +kernel
theorem dX5_obeysCommand_204 : decode cX5_obeysCommand 204 = .ok (.iconst 0, 1) := by decide +kernel
theorem dX5_obeysCommand_205 : decode cX5_obeysCommand 205 = .ok (.ireturn, 1) := by decide +kernel
set_option maxRecDepth 20000 in
theorem ggX5_about_X1_tell : GoodIn wsX5_about wsX1_tell := goodIn_r _ [8, 9, 10, 11, 12, 13, 14, 15, 16, 17, 18, 19, 20, 21, 22, 7, 23, 24, 31, 32, 33, 34, 35, 36, 37, 38, 39, 40, 41, 42, 43, 44, 45, 46, 47, 48, 49, 50, 51] (by decide +kernel) (by decide +kernel)
set_option maxRecDepth 20000 in
theorem gX5_about_X1_tell : GoodIn wsX5_about (wsV RX5 124 RX1 yX1_tell wsX1_tell) := goodIn_app (goodIn_of _ (by decide +kernel)) ggX5_about_X1_tell
theorem dX5_about_0 : decode cX5_about 0 = .ok (.iload_n 1, 1) := by decide +kernel
theorem dX5_about_1 : decode cX5_about 1 = .ok (.ifCond .lt 9, 3) := by decide +kernel
theorem dX5_about_4 : decode cX5_about 4 = .ok (.iload_n 1, 1) := by decide +kernel
theorem dX5_about_5 : decode cX5_about 5 = .ok (.bipush 11, 2) := by decide +kernel
theorem dX5_about_7 : decode cX5_about 7 = .ok (.if_icmp .le 13, 3) := by decide +kernel
theorem dX5_about_10 : decode cX5_about 10 = .ok (.new 43, 3) := by decide +kernel
theorem dX5_about_13 : decode cX5_about 13 = .ok (.dup, 1) := by decide +kernel
theorem dX5_about_14 : decode cX5_about 14 = .ok (.ldc 122, 2) := by decide +kernel
theorem dX5_about_16 : decode cX5_about 16 = .ok (.invokespecial 47, 3) := by decide +kernel
theorem dX5_about_19 : decode cX5_about 19 = .ok (.athrow, 1) := by decide +kernel
theorem dX5_about_20 : decode cX5_about 20 = .ok (.aload_n 0, 1) := by decide +kernel
theorem dX5_about_21 : decode cX5_about 21 = .ok (.getfield 19, 3) := by decide +kernel
theorem dX5_about_24 : decode cX5_about 24 = .ok (.iload_n 1, 1) := by decide +kernel
theorem dX5_about_25 : decode cX5_about 25 = .ok (.invokevirtual 124, 3) := by decide +kernel
theorem dX5_about_28 : decode cX5_about 28 = .ok (.ireturn, 1) := by decide +kernel
set_option maxRecDepth 20000 in
theorem ggX5_pegOf_X4_has : GoodIn wsX5_pegOf wsX4_has := goodIn_r _ [10, 11, 46, 47, 48, 49] (by decide +kernel) (by decide +kernel)
set_option maxRecDepth 20000 in
theorem gX5_pegOf_X4_has : GoodIn wsX5_pegOf (wsV RX5 131 RX4 yX4_has wsX4_has) := goodIn_app (goodIn_of _ (by decide +kernel)) ggX5_pegOf_X4_has
set_option maxRecDepth 20000 in
theorem ggX5_pegOf_X4_at : GoodIn wsX5_pegOf wsX4_at := goodIn_r _ [15, 16, 17, 18, 19, 20, 9, 21, 22, 46, 47, 48, 49] (by decide +kernel) (by decide +kernel)
set_option maxRecDepth 20000 in
theorem gX5_pegOf_X4_at : GoodIn wsX5_pegOf (wsV RX5 144 RX4 yX4_at wsX4_at) := goodIn_app (goodIn_of _ (by decide +kernel)) ggX5_pegOf_X4_at
theorem dX5_pegOf_0 : decode cX5_pegOf 0 = .ok (.aload_n 0, 1) := by decide +kernel
theorem dX5_pegOf_1 : decode cX5_pegOf 1 = .ok (.getfield 19, 3) := by decide +kernel
theorem dX5_pegOf_4 : decode cX5_pegOf 4 = .ok (.getfield 127, 3) := by decide +kernel
theorem dX5_pegOf_7 : decode cX5_pegOf 7 = .ok (.iload_n 1, 1) := by decide +kernel
theorem dX5_pegOf_8 : decode cX5_pegOf 8 = .ok (.invokevirtual 131, 3) := by decide +kernel
theorem dX5_pegOf_11 : decode cX5_pegOf 11 = .ok (.ifCond .ne 13, 3) := by decide +kernel
theorem dX5_pegOf_14 : decode cX5_pegOf 14 = .ok (.new 137, 3) := by decide +kernel
theorem dX5_pegOf_17 : decode cX5_pegOf 17 = .ok (.dup, 1) := by decide +kernel
theorem dX5_pegOf_18 : decode cX5_pegOf 18 = .ok (.ldc 139, 2) := by decide +kernel
theorem dX5_pegOf_20 : decode cX5_pegOf 20 = .ok (.invokespecial 141, 3) := by decide +kernel
theorem dX5_pegOf_23 : decode cX5_pegOf 23 = .ok (.athrow, 1) := by decide +kernel
theorem dX5_pegOf_24 : decode cX5_pegOf 24 = .ok (.iload_n 2, 1) := by decide +kernel
theorem dX5_pegOf_25 : decode cX5_pegOf 25 = .ok (.ifCond .lt 8, 3) := by decide +kernel
theorem dX5_pegOf_28 : decode cX5_pegOf 28 = .ok (.iload_n 2, 1) := by decide +kernel
theorem dX5_pegOf_29 : decode cX5_pegOf 29 = .ok (.iconst 4, 1) := by decide +kernel
theorem dX5_pegOf_30 : decode cX5_pegOf 30 = .ok (.if_icmp .lt 13, 3) := by decide +kernel
theorem dX5_pegOf_33 : decode cX5_pegOf 33 = .ok (.new 43, 3) := by decide +kernel
theorem dX5_pegOf_36 : decode cX5_pegOf 36 = .ok (.dup, 1) := by decide +kernel
theorem dX5_pegOf_37 : decode cX5_pegOf 37 = .ok (.ldc 142, 2) := by decide +kernel
theorem dX5_pegOf_39 : decode cX5_pegOf 39 = .ok (.invokespecial 47, 3) := by decide +kernel
theorem dX5_pegOf_42 : decode cX5_pegOf 42 = .ok (.athrow, 1) := by decide +kernel
theorem dX5_pegOf_43 : decode cX5_pegOf 43 = .ok (.aload_n 0, 1) := by decide +kernel
theorem dX5_pegOf_44 : decode cX5_pegOf 44 = .ok (.getfield 19, 3) := by decide +kernel
theorem dX5_pegOf_47 : decode cX5_pegOf 47 = .ok (.getfield 127, 3) := by decide +kernel
theorem dX5_pegOf_50 : decode cX5_pegOf 50 = .ok (.iload_n 1, 1) := by decide +kernel
theorem dX5_pegOf_51 : decode cX5_pegOf 51 = .ok (.iload_n 2, 1) := by decide +kernel
theorem dX5_pegOf_52 : decode cX5_pegOf 52 = .ok (.invokevirtual 144, 3) := by decide +kernel
theorem dX5_pegOf_55 : decode cX5_pegOf 55 = .ok (.ireturn, 1) := by decide +kernel
set_option maxRecDepth 20000 in
theorem ggX5_orderOf_X4_has : GoodIn wsX5_orderOf wsX4_has := goodIn_r _ [10, 11, 46, 47, 48, 49] (by decide +kernel) (by decide +kernel)
set_option maxRecDepth 20000 in
theorem gX5_orderOf_X4_has : GoodIn wsX5_orderOf (wsV RX5 131 RX4 yX4_has wsX4_has) := goodIn_app (goodIn_of _ (by decide +kernel)) ggX5_orderOf_X4_has
set_option maxRecDepth 20000 in
theorem ggX5_orderOf_X4_at : GoodIn wsX5_orderOf wsX4_at := goodIn_r _ [15, 16, 17, 18, 19, 20, 9, 21, 22, 46, 47, 48, 49] (by decide +kernel) (by decide +kernel)
set_option maxRecDepth 20000 in
theorem gX5_orderOf_X4_at : GoodIn wsX5_orderOf (wsV RX5 144 RX4 yX4_at wsX4_at) := goodIn_app (goodIn_of _ (by decide +kernel)) ggX5_orderOf_X4_at
theorem dX5_orderOf_0 : decode cX5_orderOf 0 = .ok (.aload_n 0, 1) := by decide +kernel
theorem dX5_orderOf_1 : decode cX5_orderOf 1 = .ok (.getfield 19, 3) := by decide +kernel
theorem dX5_orderOf_4 : decode cX5_orderOf 4 = .ok (.getfield 147, 3) := by decide +kernel
theorem dX5_orderOf_7 : decode cX5_orderOf 7 = .ok (.iload_n 1, 1) := by decide +kernel
theorem dX5_orderOf_8 : decode cX5_orderOf 8 = .ok (.invokevirtual 131, 3) := by decide +kernel
theorem dX5_orderOf_11 : decode cX5_orderOf 11 = .ok (.ifCond .ne 13, 3) := by decide +kernel
theorem dX5_orderOf_14 : decode cX5_orderOf 14 = .ok (.new 137, 3) := by decide +kernel
theorem dX5_orderOf_17 : decode cX5_orderOf 17 = .ok (.dup, 1) := by decide +kernel
theorem dX5_orderOf_18 : decode cX5_orderOf 18 = .ok (.ldc 150, 2) := by decide +kernel
theorem dX5_orderOf_20 : decode cX5_orderOf 20 = .ok (.invokespecial 141, 3) := by decide +kernel
theorem dX5_orderOf_23 : decode cX5_orderOf 23 = .ok (.athrow, 1) := by decide +kernel
theorem dX5_orderOf_24 : decode cX5_orderOf 24 = .ok (.iload_n 2, 1) := by decide +kernel
theorem dX5_orderOf_25 : decode cX5_orderOf 25 = .ok (.ifCond .lt 8, 3) := by decide +kernel
theorem dX5_orderOf_28 : decode cX5_orderOf 28 = .ok (.iload_n 2, 1) := by decide +kernel
theorem dX5_orderOf_29 : decode cX5_orderOf 29 = .ok (.iconst 5, 1) := by decide +kernel
theorem dX5_orderOf_30 : decode cX5_orderOf 30 = .ok (.if_icmp .lt 13, 3) := by decide +kernel
theorem dX5_orderOf_33 : decode cX5_orderOf 33 = .ok (.new 43, 3) := by decide +kernel
theorem dX5_orderOf_36 : decode cX5_orderOf 36 = .ok (.dup, 1) := by decide +kernel
theorem dX5_orderOf_37 : decode cX5_orderOf 37 = .ok (.ldc 152, 2) := by decide +kernel
theorem dX5_orderOf_39 : decode cX5_orderOf 39 = .ok (.invokespecial 47, 3) := by decide +kernel
theorem dX5_orderOf_42 : decode cX5_orderOf 42 = .ok (.athrow, 1) := by decide +kernel
theorem dX5_orderOf_43 : decode cX5_orderOf 43 = .ok (.aload_n 0, 1) := by decide +kernel
theorem dX5_orderOf_44 : decode cX5_orderOf 44 = .ok (.getfield 19, 3) := by decide +kernel
theorem dX5_orderOf_47 : decode cX5_orderOf 47 = .ok (.getfield 147, 3) := by decide +kernel
theorem dX5_orderOf_50 : decode cX5_orderOf 50 = .ok (.iload_n 1, 1) := by decide +kernel
theorem dX5_orderOf_51 : decode cX5_orderOf 51 = .ok (.iload_n 2, 1) := by decide +kernel
theorem dX5_orderOf_52 : decode cX5_orderOf 52 = .ok (.invokevirtual 144, 3) := by decide +kernel
theorem dX5_orderOf_55 : decode cX5_orderOf 55 = .ok (.ireturn, 1) := by decide +kernel
set_option maxRecDepth 20000 in
theorem ggX5_pipeOf_X5_isPipe : GoodIn wsX5_pipeOf wsX5_isPipe := goodIn_r _ [9] (by decide +kernel) (by decide +kernel)
set_option maxRecDepth 20000 in
theorem gX5_pipeOf_X5_isPipe : GoodIn wsX5_pipeOf (va_wsS RX5 154 yX5_isPipe wsX5_isPipe) := goodIn_app (goodIn_of _ (by decide +kernel)) ggX5_pipeOf_X5_isPipe
set_option maxRecDepth 20000 in
theorem ggX5_pipeOf_X1_tellOfPipe : GoodIn wsX5_pipeOf wsX1_tellOfPipe := goodIn_r _ [14, 15, 16, 17, 18, 7, 8, 9, 19, 20, 21, 13, 22, 23, 24, 25, 26, 27, 28, 29, 30, 31, 32, 33, 34, 35, 36, 37, 38, 39, 40, 41, 42, 43, 44, 45, 46, 47, 48, 49, 56, 57, 58, 59, 60, 61, 62, 63, 64, 65, 66, 67, 68, 69, 70, 71, 72, 73, 74, 75, 76] (by decide +kernel) (by decide +kernel)
set_option maxRecDepth 20000 in
theorem gX5_pipeOf_X1_tellOfPipe : GoodIn wsX5_pipeOf (wsV RX5 159 RX1 yX1_tellOfPipe wsX1_tellOfPipe) := goodIn_app (goodIn_of _ (by decide +kernel)) ggX5_pipeOf_X1_tellOfPipe
theorem dX5_pipeOf_0 : decode cX5_pipeOf 0 = .ok (.iload_n 1, 1) := by decide +kernel
theorem dX5_pipeOf_1 : decode cX5_pipeOf 1 = .ok (.invokestatic 154, 3) := by decide +kernel
theorem dX5_pipeOf_4 : decode cX5_pipeOf 4 = .ok (.ifCond .ne 13, 3) := by decide +kernel
theorem dX5_pipeOf_7 : decode cX5_pipeOf 7 = .ok (.new 137, 3) := by decide +kernel
theorem dX5_pipeOf_10 : decode cX5_pipeOf 10 = .ok (.dup, 1) := by decide +kernel
theorem dX5_pipeOf_11 : decode cX5_pipeOf 11 = .ok (.ldc 157, 2) := by decide +kernel
theorem dX5_pipeOf_13 : decode cX5_pipeOf 13 = .ok (.invokespecial 141, 3) := by decide +kernel
theorem dX5_pipeOf_16 : decode cX5_pipeOf 16 = .ok (.athrow, 1) := by decide +kernel
theorem dX5_pipeOf_17 : decode cX5_pipeOf 17 = .ok (.iload_n 2, 1) := by decide +kernel
theorem dX5_pipeOf_18 : decode cX5_pipeOf 18 = .ok (.ifCond .lt 8, 3) := by decide +kernel
theorem dX5_pipeOf_21 : decode cX5_pipeOf 21 = .ok (.iload_n 2, 1) := by decide +kernel
theorem dX5_pipeOf_22 : decode cX5_pipeOf 22 = .ok (.iconst 4, 1) := by decide +kernel
theorem dX5_pipeOf_23 : decode cX5_pipeOf 23 = .ok (.if_icmp .le 13, 3) := by decide +kernel
theorem dX5_pipeOf_26 : decode cX5_pipeOf 26 = .ok (.new 43, 3) := by decide +kernel
theorem dX5_pipeOf_29 : decode cX5_pipeOf 29 = .ok (.dup, 1) := by decide +kernel
theorem dX5_pipeOf_30 : decode cX5_pipeOf 30 = .ok (.ldc 152, 2) := by decide +kernel
theorem dX5_pipeOf_32 : decode cX5_pipeOf 32 = .ok (.invokespecial 47, 3) := by decide +kernel
theorem dX5_pipeOf_35 : decode cX5_pipeOf 35 = .ok (.athrow, 1) := by decide +kernel
theorem dX5_pipeOf_36 : decode cX5_pipeOf 36 = .ok (.aload_n 0, 1) := by decide +kernel
theorem dX5_pipeOf_37 : decode cX5_pipeOf 37 = .ok (.getfield 19, 3) := by decide +kernel
theorem dX5_pipeOf_40 : decode cX5_pipeOf 40 = .ok (.iload_n 1, 1) := by decide +kernel
theorem dX5_pipeOf_41 : decode cX5_pipeOf 41 = .ok (.iload_n 2, 1) := by decide +kernel
theorem dX5_pipeOf_42 : decode cX5_pipeOf 42 = .ok (.invokevirtual 159, 3) := by decide +kernel
theorem dX5_pipeOf_45 : decode cX5_pipeOf 45 = .ok (.ireturn, 1) := by decide +kernel
set_option maxRecDepth 20000 in
theorem ggX5_chord_X5_isBar : GoodIn wsX5_chord wsX5_isBar := goodIn_r _ [7] (by decide +kernel) (by decide +kernel)
set_option maxRecDepth 20000 in
theorem gX5_chord_X5_isBar : GoodIn wsX5_chord (va_wsS RX5 162 yX5_isBar wsX5_isBar) := goodIn_app (goodIn_of _ (by decide +kernel)) ggX5_chord_X5_isBar
set_option maxRecDepth 20000 in
theorem ggX5_chord_X1_openPipes : GoodIn wsX5_chord wsX1_openPipes := goodIn_r _ [12, 13, 14, 15, 11, 16, 17, 18, 6, 19, 20, 21, 22, 29, 30, 31, 32, 33, 34, 35, 36, 37, 38, 39, 40, 41, 42, 43, 44, 45] (by decide +kernel) (by decide +kernel)
set_option maxRecDepth 20000 in
theorem gX5_chord_X1_openPipes : GoodIn wsX5_chord (wsV RX5 167 RX1 yX1_openPipes wsX1_openPipes) := goodIn_app (goodIn_of _ (by decide +kernel)) ggX5_chord_X1_openPipes
theorem dX5_chord_0 : decode cX5_chord 0 = .ok (.iload_n 1, 1) := by decide +kernel
theorem dX5_chord_1 : decode cX5_chord 1 = .ok (.invokestatic 162, 3) := by decide +kernel
theorem dX5_chord_4 : decode cX5_chord 4 = .ok (.ifCond .ne 13, 3) := by decide +kernel
theorem dX5_chord_7 : decode cX5_chord 7 = .ok (.new 137, 3) := by decide +kernel
theorem dX5_chord_10 : decode cX5_chord 10 = .ok (.dup, 1) := by decide +kernel
theorem dX5_chord_11 : decode cX5_chord 11 = .ok (.ldc 165, 2) := by decide +kernel
theorem dX5_chord_13 : decode cX5_chord 13 = .ok (.invokespecial 141, 3) := by decide +kernel
theorem dX5_chord_16 : decode cX5_chord 16 = .ok (.athrow, 1) := by decide +kernel
theorem dX5_chord_17 : decode cX5_chord 17 = .ok (.aload_n 0, 1) := by decide +kernel
theorem dX5_chord_18 : decode cX5_chord 18 = .ok (.getfield 19, 3) := by decide +kernel
theorem dX5_chord_21 : decode cX5_chord 21 = .ok (.iload_n 1, 1) := by decide +kernel
theorem dX5_chord_22 : decode cX5_chord 22 = .ok (.invokevirtual 167, 3) := by decide +kernel
theorem dX5_chord_25 : decode cX5_chord 25 = .ok (.ireturn, 1) := by decide +kernel
set_option maxRecDepth 20000 in
theorem ggX5_covered_X1_coveredBars : GoodIn wsX5_covered wsX1_coveredBars := goodIn_r _ [8, 9, 10, 11, 7, 12, 13, 14, 15, 16, 17, 18, 19, 20, 21, 22, 23, 24, 25, 26, 27, 28, 29, 30, 54, 55, 56, 57, 58, 59, 60, 61, 62, 63, 64, 65, 66, 67, 68, 69, 70] (by decide +kernel) (by decide +kernel)
set_option maxRecDepth 20000 in
theorem gX5_covered_X1_coveredBars : GoodIn wsX5_covered (wsV RX5 172 RX1 yX1_coveredBars wsX1_coveredBars) := goodIn_app (goodIn_of _ (by decide +kernel)) ggX5_covered_X1_coveredBars
set_option maxRecDepth 20000 in
theorem ggX5_covered_X1_sumOfLengths : GoodIn wsX5_covered wsX1_sumOfLengths := goodIn_r _ [34, 35, 36, 37, 38, 39, 40, 41, 42, 43, 44, 45, 46, 47, 54, 55, 56, 57, 58, 59, 60, 61, 62, 63, 64, 65, 66, 67, 68, 69, 70, 71, 72, 73, 74] (by decide +kernel) (by decide +kernel)
set_option maxRecDepth 20000 in
theorem gX5_covered_X1_sumOfLengths : GoodIn wsX5_covered (wsV RX5 175 RX1 yX1_sumOfLengths wsX1_sumOfLengths) := goodIn_app (goodIn_of _ (by decide +kernel)) ggX5_covered_X1_sumOfLengths
theorem dX5_covered_0 : decode cX5_covered 0 = .ok (.iload_n 1, 1) := by decide +kernel
theorem dX5_covered_1 : decode cX5_covered 1 = .ok (.ifCond .eq 18, 3) := by decide +kernel
theorem dX5_covered_4 : decode cX5_covered 4 = .ok (.iload_n 1, 1) := by decide +kernel
theorem dX5_covered_5 : decode cX5_covered 5 = .ok (.iconst 1, 1) := by decide +kernel
theorem dX5_covered_6 : decode cX5_covered 6 = .ok (.if_icmp .eq 13, 3) := by decide +kernel
theorem dX5_covered_9 : decode cX5_covered 9 = .ok (.new 43, 3) := by decide +kernel
theorem dX5_covered_12 : decode cX5_covered 12 = .ok (.dup, 1) := by decide +kernel
theorem dX5_covered_13 : decode cX5_covered 13 = .ok (.ldc 170, 2) := by decide +kernel
theorem dX5_covered_15 : decode cX5_covered 15 = .ok (.invokespecial 47, 3) := by decide +kernel
theorem dX5_covered_18 : decode cX5_covered 18 = .ok (.athrow, 1) := by decide +kernel
theorem dX5_covered_19 : decode cX5_covered 19 = .ok (.iload_n 1, 1) := by decide +kernel
theorem dX5_covered_20 : decode cX5_covered 20 = .ok (.ifCond .ne 13, 3) := by decide +kernel
theorem dX5_covered_23 : decode cX5_covered 23 = .ok (.aload_n 0, 1) := by decide +kernel
theorem dX5_covered_24 : decode cX5_covered 24 = .ok (.getfield 19, 3) := by decide +kernel
theorem dX5_covered_27 : decode cX5_covered 27 = .ok (.invokevirtual 172, 3) := by decide +kernel
theorem dX5_covered_30 : decode cX5_covered 30 = .ok (.goto 10, 3) := by decide +kernel
theorem dX5_covered_33 : decode cX5_covered 33 = .ok (.aload_n 0, 1) := by decide +kernel
theorem dX5_covered_34 : decode cX5_covered 34 = .ok (.getfield 19, 3) := by decide +kernel
theorem dX5_covered_37 : decode cX5_covered 37 = .ok (.invokevirtual 175, 3) := by decide +kernel
theorem dX5_covered_40 : decode cX5_covered 40 = .ok (.ireturn, 1) := by decide +kernel
set_option maxRecDepth 20000 in
theorem ggX5_setting_X5_isSetting : GoodIn wsX5_setting wsX5_isSetting := goodIn_r _ [7, 8] (by decide +kernel) (by decide +kernel)
set_option maxRecDepth 20000 in
theorem gX5_setting_X5_isSetting : GoodIn wsX5_setting (va_wsS RX5 178 yX5_isSetting wsX5_isSetting) := goodIn_app (goodIn_of _ (by decide +kernel)) ggX5_setting_X5_isSetting
set_option maxRecDepth 20000 in
theorem ggX5_setting_X1_settingOf : GoodIn wsX5_setting wsX1_settingOf := goodIn_r _ [13, 14, 5, 6, 7, 8, 21, 22, 23, 24, 25, 26, 27, 28, 29, 30, 31, 32, 33, 34, 35, 36, 37] (by decide +kernel) (by decide +kernel)
set_option maxRecDepth 20000 in
theorem gX5_setting_X1_settingOf : GoodIn wsX5_setting (wsV RX5 183 RX1 yX1_settingOf wsX1_settingOf) := goodIn_app (goodIn_of _ (by decide +kernel)) ggX5_setting_X1_settingOf
theorem dX5_setting_0 : decode cX5_setting 0 = .ok (.iload_n 1, 1) := by decide +kernel
theorem dX5_setting_1 : decode cX5_setting 1 = .ok (.invokestatic 178, 3) := by decide +kernel
theorem dX5_setting_4 : decode cX5_setting 4 = .ok (.ifCond .ne 13, 3) := by decide +kernel
theorem dX5_setting_7 : decode cX5_setting 7 = .ok (.new 43, 3) := by decide +kernel
theorem dX5_setting_10 : decode cX5_setting 10 = .ok (.dup, 1) := by decide +kernel
theorem dX5_setting_11 : decode cX5_setting 11 = .ok (.ldc 181, 2) := by decide +kernel
theorem dX5_setting_13 : decode cX5_setting 13 = .ok (.invokespecial 47, 3) := by decide +kernel
theorem dX5_setting_16 : decode cX5_setting 16 = .ok (.athrow, 1) := by decide +kernel
theorem dX5_setting_17 : decode cX5_setting 17 = .ok (.aload_n 0, 1) := by decide +kernel
theorem dX5_setting_18 : decode cX5_setting 18 = .ok (.getfield 19, 3) := by decide +kernel
theorem dX5_setting_21 : decode cX5_setting 21 = .ok (.iload_n 1, 1) := by decide +kernel
theorem dX5_setting_22 : decode cX5_setting 22 = .ok (.invokevirtual 183, 3) := by decide +kernel
theorem dX5_setting_25 : decode cX5_setting 25 = .ok (.ireturn, 1) := by decide +kernel
set_option maxRecDepth 20000 in
theorem ggX5_put_X5_isPipe : GoodIn wsX5_put wsX5_isPipe := goodIn_r _ [12] (by decide +kernel) (by decide +kernel)
set_option maxRecDepth 20000 in
theorem gX5_put_X5_isPipe : GoodIn wsX5_put (va_wsS RX5 154 yX5_isPipe wsX5_isPipe) := goodIn_app (goodIn_of _ (by decide +kernel)) ggX5_put_X5_isPipe
set_option maxRecDepth 20000 in
theorem ggX5_put_X5_isBar : GoodIn wsX5_put wsX5_isBar := goodIn_r _ [15] (by decide +kernel) (by decide +kernel)
set_option maxRecDepth 20000 in
theorem gX5_put_X5_isBar : GoodIn wsX5_put (va_wsS RX5 162 yX5_isBar wsX5_isBar) := goodIn_app (goodIn_of _ (by decide +kernel)) ggX5_put_X5_isBar
set_option maxRecDepth 20000 in
theorem ggX5_put_X5_isLength : GoodIn wsX5_put wsX5_isLength := goodIn_r _ [18] (by decide +kernel) (by decide +kernel)
set_option maxRecDepth 20000 in
theorem gX5_put_X5_isLength : GoodIn wsX5_put (va_wsS RX5 188 yX5_isLength wsX5_isLength) := goodIn_app (goodIn_of _ (by decide +kernel)) ggX5_put_X5_isLength
set_option maxRecDepth 20000 in
theorem ggX5_put_X4_isFull : GoodIn wsX5_put wsX4_isFull := goodIn_r _ [23, 24, 25, 122, 123, 124, 125] (by decide +kernel) (by decide +kernel)
set_option maxRecDepth 20000 in
theorem gX5_put_X4_isFull : GoodIn wsX5_put (wsV RX5 193 RX4 yX4_isFull wsX4_isFull) := goodIn_app (goodIn_of _ (by decide +kernel)) ggX5_put_X4_isFull
set_option maxRecDepth 20000 in
theorem ggX5_put_X0_remember : GoodIn wsX5_put wsX0_remember := goodIn_r _ [30, 31, 32, 33, 34, 35, 36, 37, 38, 39, 29, 40, 41, 42, 43, 44, 45, 46, 47, 48, 49, 50, 51, 52, 53, 54, 55, 56, 57, 58, 59, 60, 61, 62, 63, 64, 65, 66, 22, 67, 24, 68, 69, 11, 70, 71, 72, 73, 74, 75, 126, 127, 128, 105, 106, 107, 108, 109, 110, 111, 112, 113, 114, 115, 116, 117, 118, 119, 120, 121, 122, 123, 124, 125] (by decide +kernel) (by decide +kernel)
set_option maxRecDepth 20000 in
theorem gX5_put_X0_remember : GoodIn wsX5_put (wsV RX5 196 RX0 yX0_remember wsX0_remember) := goodIn_app (goodIn_of _ (by decide +kernel)) ggX5_put_X0_remember
set_option maxRecDepth 20000 in
theorem ggX5_put_X1_orderPut : GoodIn wsX5_put wsX1_orderPut := goodIn_r _ [79, 17, 11, 18, 80, 81, 82, 45, 83, 48, 10, 12, 14, 15, 84, 20, 21, 22, 23, 24, 25, 85, 86, 87, 88, 89, 90, 91, 92, 93, 68, 94, 95, 96, 97, 98, 105, 106, 107, 108, 109, 110, 111, 112, 113, 114, 115, 116, 117, 118, 119, 120, 121, 122, 123, 124, 125] (by decide +kernel) (by decide +kernel)
set_option maxRecDepth 20000 in
theorem gX5_put_X1_orderPut : GoodIn wsX5_put (wsV RX5 104 RX1 yX1_orderPut wsX1_orderPut) := goodIn_app (goodIn_of _ (by decide +kernel)) ggX5_put_X1_orderPut
theorem dX5_put_0 : decode cX5_put 0 = .ok (.iload_n 1, 1) := by decide +kernel
theorem dX5_put_1 : decode cX5_put 1 = .ok (.invokestatic 154, 3) := by decide +kernel
theorem dX5_put_4 : decode cX5_put 4 = .ok (.ifCond .eq 10, 3) := by decide +kernel
theorem dX5_put_7 : decode cX5_put 7 = .ok (.iload_n 2, 1) := by decide +kernel
theorem dX5_put_8 : decode cX5_put 8 = .ok (.invokestatic 162, 3) := by decide +kernel
theorem dX5_put_11 : decode cX5_put 11 = .ok (.ifCond .ne 13, 3) := by decide +kernel
theorem dX5_put_14 : decode cX5_put 14 = .ok (.new 137, 3) := by decide +kernel
theorem dX5_put_17 : decode cX5_put 17 = .ok (.dup, 1) := by decide +kernel
theorem dX5_put_18 : decode cX5_put 18 = .ok (.ldc 186, 2) := by decide +kernel
theorem dX5_put_20 : decode cX5_put 20 = .ok (.invokespecial 141, 3) := by decide +kernel
theorem dX5_put_23 : decode cX5_put 23 = .ok (.athrow, 1) := by decide +kernel
theorem dX5_put_24 : decode cX5_put 24 = .ok (.iload_n 3, 1) := by decide +kernel
theorem dX5_put_25 : decode cX5_put 25 = .ok (.invokestatic 188, 3) := by decide +kernel
theorem dX5_put_28 : decode cX5_put 28 = .ok (.ifCond .ne 13, 3) := by decide +kernel
theorem dX5_put_31 : decode cX5_put 31 = .ok (.new 43, 3) := by decide +kernel
theorem dX5_put_34 : decode cX5_put 34 = .ok (.dup, 1) := by decide +kernel
theorem dX5_put_35 : decode cX5_put 35 = .ok (.ldc 191, 2) := by decide +kernel
theorem dX5_put_37 : decode cX5_put 37 = .ok (.invokespecial 47, 3) := by decide +kernel
theorem dX5_put_40 : decode cX5_put 40 = .ok (.athrow, 1) := by decide +kernel
theorem dX5_put_41 : decode cX5_put 41 = .ok (.aload_n 0, 1) := by decide +kernel
theorem dX5_put_42 : decode cX5_put 42 = .ok (.getfield 19, 3) := by decide +kernel
theorem dX5_put_45 : decode cX5_put 45 = .ok (.getfield 147, 3) := by decide +kernel
theorem dX5_put_48 : decode cX5_put 48 = .ok (.invokevirtual 193, 3) := by decide +kernel
theorem dX5_put_51 : decode cX5_put 51 = .ok (.ifCond .eq 13, 3) := by decide +kernel
theorem dX5_put_54 : decode cX5_put 54 = .ok (.new 54, 3) := by decide +kernel
theorem dX5_put_57 : decode cX5_put 57 = .ok (.dup, 1) := by decide +kernel
theorem dX5_put_58 : decode cX5_put 58 = .ok (.ldc 194, 2) := by decide +kernel
theorem dX5_put_60 : decode cX5_put 60 = .ok (.invokespecial 58, 3) := by decide +kernel
theorem dX5_put_63 : decode cX5_put 63 = .ok (.athrow, 1) := by decide +kernel
theorem dX5_put_64 : decode cX5_put 64 = .ok (.aload_n 0, 1) := by decide +kernel
theorem dX5_put_65 : decode cX5_put 65 = .ok (.getfield 32, 3) := by decide +kernel
theorem dX5_put_68 : decode cX5_put 68 = .ok (.aload_n 0, 1) := by decide +kernel
theorem dX5_put_69 : decode cX5_put 69 = .ok (.getfield 19, 3) := by decide +kernel
theorem dX5_put_72 : decode cX5_put 72 = .ok (.invokevirtual 196, 3) := by decide +kernel
theorem dX5_put_75 : decode cX5_put 75 = .ok (.aload_n 0, 1) := by decide +kernel
theorem dX5_put_76 : decode cX5_put 76 = .ok (.getfield 19, 3) := by decide +kernel
theorem dX5_put_79 : decode cX5_put 79 = .ok (.iload_n 1, 1) := by decide +kernel
theorem dX5_put_80 : decode cX5_put 80 = .ok (.iload_n 2, 1) := by decide +kernel
theorem dX5_put_81 : decode cX5_put 81 = .ok (.iload_n 3, 1) := by decide +kernel
theorem dX5_put_82 : decode cX5_put 82 = .ok (.invokevirtual 104, 3) := by decide +kernel
theorem dX5_put_85 : decode cX5_put 85 = .ok (.ireturn, 1) := by decide +kernel
set_option maxRecDepth 20000 in
theorem ggX5_pull_X5_isPipe : GoodIn wsX5_pull wsX5_isPipe := goodIn_r _ [10] (by decide +kernel) (by decide +kernel)
set_option maxRecDepth 20000 in
theorem gX5_pull_X5_isPipe : GoodIn wsX5_pull (va_wsS RX5 154 yX5_isPipe wsX5_isPipe) := goodIn_app (goodIn_of _ (by decide +kernel)) ggX5_pull_X5_isPipe
set_option maxRecDepth 20000 in
theorem ggX5_pull_X5_isBar : GoodIn wsX5_pull wsX5_isBar := goodIn_r _ [13] (by decide +kernel) (by decide +kernel)
set_option maxRecDepth 20000 in
theorem gX5_pull_X5_isBar : GoodIn wsX5_pull (va_wsS RX5 162 yX5_isBar wsX5_isBar) := goodIn_app (goodIn_of _ (by decide +kernel)) ggX5_pull_X5_isBar
set_option maxRecDepth 20000 in
theorem ggX5_pull_X4_isFull : GoodIn wsX5_pull wsX4_isFull := goodIn_r _ [18, 19, 20, 117, 118, 119, 120] (by decide +kernel) (by decide +kernel)
set_option maxRecDepth 20000 in
theorem gX5_pull_X4_isFull : GoodIn wsX5_pull (wsV RX5 193 RX4 yX4_isFull wsX4_isFull) := goodIn_app (goodIn_of _ (by decide +kernel)) ggX5_pull_X4_isFull
set_option maxRecDepth 20000 in
theorem ggX5_pull_X0_remember : GoodIn wsX5_pull wsX0_remember := goodIn_r _ [25, 26, 27, 28, 29, 30, 31, 32, 33, 34, 24, 35, 36, 37, 38, 39, 40, 41, 42, 43, 44, 45, 46, 47, 48, 49, 50, 51, 52, 53, 54, 55, 56, 57, 58, 59, 60, 61, 17, 62, 19, 63, 64, 9, 65, 66, 67, 68, 69, 70, 121, 122, 123, 100, 101, 102, 103, 104, 105, 106, 107, 108, 109, 110, 111, 112, 113, 114, 115, 116, 117, 118, 119, 120] (by decide +kernel) (by decide +kernel)
set_option maxRecDepth 20000 in
theorem gX5_pull_X0_remember : GoodIn wsX5_pull (wsV RX5 196 RX0 yX0_remember wsX0_remember) := goodIn_app (goodIn_of _ (by decide +kernel)) ggX5_pull_X0_remember
set_option maxRecDepth 20000 in
theorem ggX5_pull_X1_orderPull : GoodIn wsX5_pull wsX1_orderPull := goodIn_r _ [74, 75, 76, 77, 40, 78, 43, 8, 9, 10, 12, 13, 79, 15, 16, 17, 18, 19, 20, 80, 81, 82, 83, 84, 85, 86, 87, 88, 63, 89, 90, 91, 92, 93, 100, 101, 102, 103, 104, 105, 106, 107, 108, 109, 110, 111, 112, 113, 114, 115, 116, 117, 118, 119, 120] (by decide +kernel) (by decide +kernel)
set_option maxRecDepth 20000 in
theorem gX5_pull_X1_orderPull : GoodIn wsX5_pull (wsV RX5 108 RX1 yX1_orderPull wsX1_orderPull) := goodIn_app (goodIn_of _ (by decide +kernel)) ggX5_pull_X1_orderPull
theorem dX5_pull_0 : decode cX5_pull 0 = .ok (.iload_n 1, 1) := by decide +kernel
theorem dX5_pull_1 : decode cX5_pull 1 = .ok (.invokestatic 154, 3) := by decide +kernel
theorem dX5_pull_4 : decode cX5_pull 4 = .ok (.ifCond .eq 10, 3) := by decide +kernel
theorem dX5_pull_7 : decode cX5_pull 7 = .ok (.iload_n 2, 1) := by decide +kernel
theorem dX5_pull_8 : decode cX5_pull 8 = .ok (.invokestatic 162, 3) := by decide +kernel
theorem dX5_pull_11 : decode cX5_pull 11 = .ok (.ifCond .ne 13, 3) := by decide +kernel
theorem dX5_pull_14 : decode cX5_pull 14 = .ok (.new 137, 3) := by decide +kernel
theorem dX5_pull_17 : decode cX5_pull 17 = .ok (.dup, 1) := by decide +kernel
theorem dX5_pull_18 : decode cX5_pull 18 = .ok (.ldc 186, 2) := by decide +kernel
theorem dX5_pull_20 : decode cX5_pull 20 = .ok (.invokespecial 141, 3) := by decide +kernel
theorem dX5_pull_23 : decode cX5_pull 23 = .ok (.athrow, 1) := by decide +kernel
theorem dX5_pull_24 : decode cX5_pull 24 = .ok (.aload_n 0, 1) := by decide +kernel
theorem dX5_pull_25 : decode cX5_pull 25 = .ok (.getfield 19, 3) := by decide +kernel
theorem dX5_pull_28 : decode cX5_pull 28 = .ok (.getfield 147, 3) := by decide +kernel
theorem dX5_pull_31 : decode cX5_pull 31 = .ok (.invokevirtual 193, 3) := by decide +kernel
theorem dX5_pull_34 : decode cX5_pull 34 = .ok (.ifCond .eq 13, 3) := by decide +kernel
theorem dX5_pull_37 : decode cX5_pull 37 = .ok (.new 54, 3) := by decide +kernel
theorem dX5_pull_40 : decode cX5_pull 40 = .ok (.dup, 1) := by decide +kernel
theorem dX5_pull_41 : decode cX5_pull 41 = .ok (.ldc 194, 2) := by decide +kernel
theorem dX5_pull_43 : decode cX5_pull 43 = .ok (.invokespecial 58, 3) := by decide +kernel
theorem dX5_pull_46 : decode cX5_pull 46 = .ok (.athrow, 1) := by decide +kernel
theorem dX5_pull_47 : decode cX5_pull 47 = .ok (.aload_n 0, 1) := by decide +kernel
theorem dX5_pull_48 : decode cX5_pull 48 = .ok (.getfield 32, 3) := by decide +kernel
theorem dX5_pull_51 : decode cX5_pull 51 = .ok (.aload_n 0, 1) := by decide +kernel
theorem dX5_pull_52 : decode cX5_pull 52 = .ok (.getfield 19, 3) := by decide +kernel
theorem dX5_pull_55 : decode cX5_pull 55 = .ok (.invokevirtual 196, 3) := by decide +kernel
theorem dX5_pull_58 : decode cX5_pull 58 = .ok (.aload_n 0, 1) := by decide +kernel
theorem dX5_pull_59 : decode cX5_pull 59 = .ok (.getfield 19, 3) := by decide +kernel
theorem dX5_pull_62 : decode cX5_pull 62 = .ok (.iload_n 1, 1) := by decide +kernel
theorem dX5_pull_63 : decode cX5_pull 63 = .ok (.iload_n 2, 1) := by decide +kernel
theorem dX5_pull_64 : decode cX5_pull 64 = .ok (.invokevirtual 108, 3) := by decide +kernel
theorem dX5_pull_67 : decode cX5_pull 67 = .ok (.ireturn, 1) := by decide +kernel
set_option maxRecDepth 20000 in
theorem ggX5_cancel_X4_has : GoodIn wsX5_cancel wsX4_has := goodIn_r _ [9, 10, 97, 98, 99, 100] (by decide +kernel) (by decide +kernel)
set_option maxRecDepth 20000 in
theorem gX5_cancel_X4_has : GoodIn wsX5_cancel (wsV RX5 131 RX4 yX4_has wsX4_has) := goodIn_app (goodIn_of _ (by decide +kernel)) ggX5_cancel_X4_has
set_option maxRecDepth 20000 in
theorem ggX5_cancel_X0_remember : GoodIn wsX5_cancel wsX0_remember := goodIn_r _ [15, 16, 17, 18, 19, 20, 21, 22, 23, 24, 14, 25, 26, 27, 28, 29, 30, 31, 32, 33, 34, 35, 36, 37, 38, 39, 40, 41, 42, 43, 44, 45, 46, 47, 48, 49, 50, 51, 8, 52, 10, 53, 54, 55, 56, 57, 58, 59, 60, 61, 101, 102, 103, 80, 81, 82, 83, 84, 85, 86, 87, 88, 89, 90, 91, 92, 93, 94, 95, 96, 97, 98, 99, 100] (by decide +kernel) (by decide +kernel)
set_option maxRecDepth 20000 in
theorem gX5_cancel_X0_remember : GoodIn wsX5_cancel (wsV RX5 196 RX0 yX0_remember wsX0_remember) := goodIn_app (goodIn_of _ (by decide +kernel)) ggX5_cancel_X0_remember
set_option maxRecDepth 20000 in
theorem ggX5_cancel_X1_dropOrder : GoodIn wsX5_cancel wsX1_dropOrder := goodIn_r _ [65, 33, 48, 66, 6, 7, 8, 9, 10, 67, 68, 69, 70, 71, 53, 72, 59, 60, 61, 73, 80, 81, 82, 83, 84, 85, 86, 87, 88, 89, 90, 91, 92, 93, 94, 95, 96, 97, 98, 99, 100] (by decide +kernel) (by decide +kernel)
set_option maxRecDepth 20000 in
theorem gX5_cancel_X1_dropOrder : GoodIn wsX5_cancel (wsV RX5 119 RX1 yX1_dropOrder wsX1_dropOrder) := goodIn_app (goodIn_of _ (by decide +kernel)) ggX5_cancel_X1_dropOrder
theorem dX5_cancel_0 : decode cX5_cancel 0 = .ok (.aload_n 0, 1) := by decide +kernel
theorem dX5_cancel_1 : decode cX5_cancel 1 = .ok (.getfield 19, 3) := by decide +kernel
theorem dX5_cancel_4 : decode cX5_cancel 4 = .ok (.getfield 147, 3) := by decide +kernel
theorem dX5_cancel_7 : decode cX5_cancel 7 = .ok (.iload_n 1, 1) := by decide +kernel
theorem dX5_cancel_8 : decode cX5_cancel 8 = .ok (.invokevirtual 131, 3) := by decide +kernel
theorem dX5_cancel_11 : decode cX5_cancel 11 = .ok (.ifCond .ne 13, 3) := by decide +kernel
theorem dX5_cancel_14 : decode cX5_cancel 14 = .ok (.new 137, 3) := by decide +kernel
theorem dX5_cancel_17 : decode cX5_cancel 17 = .ok (.dup, 1) := by decide +kernel
theorem dX5_cancel_18 : decode cX5_cancel 18 = .ok (.ldc 150, 2) := by decide +kernel
theorem dX5_cancel_20 : decode cX5_cancel 20 = .ok (.invokespecial 141, 3) := by decide +kernel
theorem dX5_cancel_23 : decode cX5_cancel 23 = .ok (.athrow, 1) := by decide +kernel
theorem dX5_cancel_24 : decode cX5_cancel 24 = .ok (.aload_n 0, 1) := by decide +kernel
theorem dX5_cancel_25 : decode cX5_cancel 25 = .ok (.getfield 32, 3) := by decide +kernel
theorem dX5_cancel_28 : decode cX5_cancel 28 = .ok (.aload_n 0, 1) := by decide +kernel
theorem dX5_cancel_29 : decode cX5_cancel 29 = .ok (.getfield 19, 3) := by decide +kernel
theorem dX5_cancel_32 : decode cX5_cancel 32 = .ok (.invokevirtual 196, 3) := by decide +kernel
theorem dX5_cancel_35 : decode cX5_cancel 35 = .ok (.aload_n 0, 1) := by decide +kernel
theorem dX5_cancel_36 : decode cX5_cancel 36 = .ok (.getfield 19, 3) := by decide +kernel
theorem dX5_cancel_39 : decode cX5_cancel 39 = .ok (.iload_n 1, 1) := by decide +kernel
theorem dX5_cancel_40 : decode cX5_cancel 40 = .ok (.invokevirtual 119, 3) := by decide +kernel
theorem dX5_cancel_43 : decode cX5_cancel 43 = .ok (.ireturn, 1) := by decide +kernel
set_option maxRecDepth 20000 in
theorem ggX5_ticks_X5_isTicks : GoodIn wsX5_ticks wsX5_isTicks := goodIn_r _ [8] (by decide +kernel) (by decide +kernel)
set_option maxRecDepth 20000 in
theorem gX5_ticks_X5_isTicks : GoodIn wsX5_ticks (va_wsS RX5 199 yX5_isTicks wsX5_isTicks) := goodIn_app (goodIn_of _ (by decide +kernel)) ggX5_ticks_X5_isTicks
set_option maxRecDepth 20000 in
theorem ggX5_ticks_X0_remember : GoodIn wsX5_ticks wsX0_remember := goodIn_r _ [13, 14, 15, 16, 17, 18, 19, 20, 21, 22, 12, 23, 24, 25, 26, 27, 28, 29, 30, 31, 32, 33, 34, 35, 36, 37, 38, 39, 40, 41, 42, 43, 44, 45, 46, 47, 48, 49, 50, 51, 52, 53, 54, 7, 55, 56, 57, 58, 59, 60, 154, 155, 156, 157, 158, 159, 160, 161, 162, 163, 164, 165, 166, 167, 168, 169, 170, 171, 172, 173, 174, 175, 176, 177] (by decide +kernel) (by decide +kernel)
set_option maxRecDepth 20000 in
theorem gX5_ticks_X0_remember : GoodIn wsX5_ticks (wsV RX5 196 RX0 yX0_remember wsX0_remember) := goodIn_app (goodIn_of _ (by decide +kernel)) ggX5_ticks_X0_remember
set_option maxRecDepth 20000 in
theorem ggX5_ticks_X1_play : GoodIn wsX5_ticks wsX1_play := goodIn_r _ [64, 43, 36, 40, 35, 65, 17, 18, 19, 6, 7, 8, 66, 67, 68, 28, 69, 37, 38, 70, 71, 72, 73, 31, 39, 45, 74, 75, 76, 77, 78, 79, 80, 50, 81, 53, 82, 83, 84, 85, 86, 87, 88, 89, 90, 91, 92, 93, 94, 32, 95, 96, 97, 98, 99, 100, 101, 102, 103, 104, 105, 106, 107, 108, 30, 109, 110, 111, 112, 113, 114, 115, 116, 52, 117, 118, 119, 120, 121, 122, 123, 124, 125, 126, 127, 128, 129, 130, 58, 59, 60, 131, 132, 133, 134, 135, 136, 137, 138, 46, 139, 140, 141, 142, 143, 33, 44, 34, 41, 42, 144, 145, 146, 147, 157, 158, 159, 160, 161, 162, 163, 164, 165, 166, 167, 168, 169, 170, 171, 172, 173, 174, 175, 176, 177] (by decide +kernel) (by decide +kernel)
set_option maxRecDepth 20000 in
theorem gX5_ticks_X1_play : GoodIn wsX5_ticks (wsV RX5 115 RX1 yX1_play wsX1_play) := goodIn_app (goodIn_of _ (by decide +kernel)) ggX5_ticks_X1_play
theorem dX5_ticks_0 : decode cX5_ticks 0 = .ok (.iload_n 1, 1) := by decide +kernel
theorem dX5_ticks_1 : decode cX5_ticks 1 = .ok (.invokestatic 199, 3) := by decide +kernel
theorem dX5_ticks_4 : decode cX5_ticks 4 = .ok (.ifCond .ne 13, 3) := by decide +kernel
theorem dX5_ticks_7 : decode cX5_ticks 7 = .ok (.new 43, 3) := by decide +kernel
theorem dX5_ticks_10 : decode cX5_ticks 10 = .ok (.dup, 1) := by decide +kernel
theorem dX5_ticks_11 : decode cX5_ticks 11 = .ok (.ldc 202, 2) := by decide +kernel
theorem dX5_ticks_13 : decode cX5_ticks 13 = .ok (.invokespecial 47, 3) := by decide +kernel
theorem dX5_ticks_16 : decode cX5_ticks 16 = .ok (.athrow, 1) := by decide +kernel
theorem dX5_ticks_17 : decode cX5_ticks 17 = .ok (.aload_n 0, 1) := by decide +kernel
theorem dX5_ticks_18 : decode cX5_ticks 18 = .ok (.getfield 32, 3) := by decide +kernel
theorem dX5_ticks_21 : decode cX5_ticks 21 = .ok (.aload_n 0, 1) := by decide +kernel
theorem dX5_ticks_22 : decode cX5_ticks 22 = .ok (.getfield 19, 3) := by decide +kernel
theorem dX5_ticks_25 : decode cX5_ticks 25 = .ok (.invokevirtual 196, 3) := by decide +kernel
theorem dX5_ticks_28 : decode cX5_ticks 28 = .ok (.aload_n 0, 1) := by decide +kernel
theorem dX5_ticks_29 : decode cX5_ticks 29 = .ok (.getfield 19, 3) := by decide +kernel
theorem dX5_ticks_32 : decode cX5_ticks 32 = .ok (.iload_n 1, 1) := by decide +kernel
theorem dX5_ticks_33 : decode cX5_ticks 33 = .ok (.invokevirtual 115, 3) := by decide +kernel
theorem dX5_ticks_36 : decode cX5_ticks 36 = .ok (.ireturn, 1) := by decide +kernel
set_option maxRecDepth 20000 in
theorem ggX5_set_X5_isSettingValue : GoodIn wsX5_set wsX5_isSettingValue := goodIn_r _ [8, 9, 10, 11, 7, 12] (by decide +kernel) (by decide +kernel)
set_option maxRecDepth 20000 in
theorem gX5_set_X5_isSettingValue : GoodIn wsX5_set (va_wsS RX5 204 yX5_isSettingValue wsX5_isSettingValue) := goodIn_app (goodIn_of _ (by decide +kernel)) ggX5_set_X5_isSettingValue
set_option maxRecDepth 20000 in
theorem ggX5_set_X0_remember : GoodIn wsX5_set wsX0_remember := goodIn_r _ [17, 18, 19, 20, 21, 22, 23, 24, 25, 26, 16, 27, 28, 29, 30, 31, 32, 33, 34, 35, 36, 37, 38, 39, 40, 41, 42, 43, 44, 45, 46, 47, 48, 49, 50, 51, 52, 53, 54, 55, 56, 57, 58, 7, 59, 60, 61, 62, 63, 64, 75, 76, 77, 78, 79, 80, 81, 82, 83, 84, 85, 86, 87, 88, 89, 90, 91, 92, 93, 94, 95, 96, 97, 98] (by decide +kernel) (by decide +kernel)
set_option maxRecDepth 20000 in
theorem gX5_set_X0_remember : GoodIn wsX5_set (wsV RX5 196 RX0 yX0_remember wsX0_remember) := goodIn_app (goodIn_of _ (by decide +kernel)) ggX5_set_X0_remember
set_option maxRecDepth 20000 in
theorem ggX5_set_X1_change : GoodIn wsX5_set wsX1_change := goodIn_r _ [68, 39, 6, 7, 8, 9, 10, 11, 12, 78, 79, 80, 81, 82, 83, 84, 85, 86, 87, 88, 89, 90, 91, 92, 93, 94] (by decide +kernel) (by decide +kernel)
set_option maxRecDepth 20000 in
theorem gX5_set_X1_change : GoodIn wsX5_set (wsV RX5 112 RX1 yX1_change wsX1_change) := goodIn_app (goodIn_of _ (by decide +kernel)) ggX5_set_X1_change
theorem dX5_set_0 : decode cX5_set 0 = .ok (.iload_n 1, 1) := by decide +kernel
theorem dX5_set_1 : decode cX5_set 1 = .ok (.iload_n 2, 1) := by decide +kernel
theorem dX5_set_2 : decode cX5_set 2 = .ok (.invokestatic 204, 3) := by decide +kernel
theorem dX5_set_5 : decode cX5_set 5 = .ok (.ifCond .ne 13, 3) := by decide +kernel
theorem dX5_set_8 : decode cX5_set 8 = .ok (.new 43, 3) := by decide +kernel
theorem dX5_set_11 : decode cX5_set 11 = .ok (.dup, 1) := by decide +kernel
theorem dX5_set_12 : decode cX5_set 12 = .ok (.ldc 208, 2) := by decide +kernel
theorem dX5_set_14 : decode cX5_set 14 = .ok (.invokespecial 47, 3) := by decide +kernel
theorem dX5_set_17 : decode cX5_set 17 = .ok (.athrow, 1) := by decide +kernel
theorem dX5_set_18 : decode cX5_set 18 = .ok (.aload_n 0, 1) := by decide +kernel
theorem dX5_set_19 : decode cX5_set 19 = .ok (.getfield 32, 3) := by decide +kernel
theorem dX5_set_22 : decode cX5_set 22 = .ok (.aload_n 0, 1) := by decide +kernel
theorem dX5_set_23 : decode cX5_set 23 = .ok (.getfield 19, 3) := by decide +kernel
theorem dX5_set_26 : decode cX5_set 26 = .ok (.invokevirtual 196, 3) := by decide +kernel
theorem dX5_set_29 : decode cX5_set 29 = .ok (.aload_n 0, 1) := by decide +kernel
theorem dX5_set_30 : decode cX5_set 30 = .ok (.getfield 19, 3) := by decide +kernel
theorem dX5_set_33 : decode cX5_set 33 = .ok (.iload_n 1, 1) := by decide +kernel
theorem dX5_set_34 : decode cX5_set 34 = .ok (.iload_n 2, 1) := by decide +kernel
theorem dX5_set_35 : decode cX5_set 35 = .ok (.invokevirtual 112, 3) := by decide +kernel
theorem dX5_set_38 : decode cX5_set 38 = .ok (.ireturn, 1) := by decide +kernel
set_option maxRecDepth 20000 in
theorem ggX5_undo_X0_isEmpty : GoodIn wsX5_undo wsX0_isEmpty := goodIn_r _ [9, 10, 67, 68, 69] (by decide +kernel) (by decide +kernel)
set_option maxRecDepth 20000 in
theorem gX5_undo_X0_isEmpty : GoodIn wsX5_undo (wsV RX5 210 RX0 yX0_isEmpty wsX0_isEmpty) := goodIn_app (goodIn_of _ (by decide +kernel)) ggX5_undo_X0_isEmpty
set_option maxRecDepth 20000 in
theorem ggX5_undo_X0_bringBack : GoodIn wsX5_undo wsX0_bringBack := goodIn_r _ [14, 15, 10, 16, 17, 18, 8, 19, 20, 21, 22, 23, 24, 25, 26, 27, 28, 29, 30, 31, 32, 33, 34, 35, 36, 37, 38, 39, 40, 41, 42, 43, 44, 45, 46, 47, 48, 49, 50, 51, 52, 53, 54, 55, 56, 57, 58, 59, 60, 67, 68, 69, 70, 71, 72, 73, 74, 75, 76, 77, 78, 79, 80, 81, 82, 83, 84, 85, 86, 87, 88, 89, 90] (by decide +kernel) (by decide +kernel)
set_option maxRecDepth 20000 in
theorem gX5_undo_X0_bringBack : GoodIn wsX5_undo (wsV RX5 215 RX0 yX0_bringBack wsX0_bringBack) := goodIn_app (goodIn_of _ (by decide +kernel)) ggX5_undo_X0_bringBack
theorem dX5_undo_0 : decode cX5_undo 0 = .ok (.aload_n 0, 1) := by decide +kernel
theorem dX5_undo_1 : decode cX5_undo 1 = .ok (.getfield 32, 3) := by decide +kernel
theorem dX5_undo_4 : decode cX5_undo 4 = .ok (.invokevirtual 210, 3) := by decide +kernel
theorem dX5_undo_7 : decode cX5_undo 7 = .ok (.ifCond .eq 13, 3) := by decide +kernel
theorem dX5_undo_10 : decode cX5_undo 10 = .ok (.new 54, 3) := by decide +kernel
theorem dX5_undo_13 : decode cX5_undo 13 = .ok (.dup, 1) := by decide +kernel
theorem dX5_undo_14 : decode cX5_undo 14 = .ok (.ldc 213, 2) := by decide +kernel
theorem dX5_undo_16 : decode cX5_undo 16 = .ok (.invokespecial 58, 3) := by decide +kernel
theorem dX5_undo_19 : decode cX5_undo 19 = .ok (.athrow, 1) := by decide +kernel
theorem dX5_undo_20 : decode cX5_undo 20 = .ok (.aload_n 0, 1) := by decide +kernel
theorem dX5_undo_21 : decode cX5_undo 21 = .ok (.getfield 32, 3) := by decide +kernel
theorem dX5_undo_24 : decode cX5_undo 24 = .ok (.aload_n 0, 1) := by decide +kernel
theorem dX5_undo_25 : decode cX5_undo 25 = .ok (.getfield 19, 3) := by decide +kernel
theorem dX5_undo_28 : decode cX5_undo 28 = .ok (.invokevirtual 215, 3) := by decide +kernel
theorem dX5_undo_31 : decode cX5_undo 31 = .ok (.ireturn, 1) := by decide +kernel
set_option maxRecDepth 20000 in
theorem ggX5_doneIn_X4_has : GoodIn wsX5_doneIn wsX4_has := goodIn_r _ [9, 10, 158, 159, 160, 161] (by decide +kernel) (by decide +kernel)
set_option maxRecDepth 20000 in
theorem gX5_doneIn_X4_has : GoodIn wsX5_doneIn (wsV RX5 131 RX4 yX4_has wsX4_has) := goodIn_app (goodIn_of _ (by decide +kernel)) ggX5_doneIn_X4_has
set_option maxRecDepth 20000 in
theorem ggX5_doneIn_X1_copyFrom : GoodIn wsX5_doneIn wsX1_copyFrom := goodIn_r _ [15, 16, 17, 18, 19, 20, 21, 22, 23, 24, 25, 26, 27, 28, 29, 30, 31, 32, 33, 34, 35, 8, 36, 10, 37, 38, 39, 40, 41, 42, 43, 44, 45, 46, 47, 48, 141, 142, 143, 144, 145, 146, 147, 148, 149, 150, 151, 152, 153, 154, 155, 156, 157, 158, 159, 160, 161] (by decide +kernel) (by decide +kernel)
set_option maxRecDepth 20000 in
theorem gX5_doneIn_X1_copyFrom : GoodIn wsX5_doneIn (wsV RX5 72 RX1 yX1_copyFrom wsX1_copyFrom) := goodIn_app (goodIn_of _ (by decide +kernel)) ggX5_doneIn_X1_copyFrom
set_option maxRecDepth 20000 in
theorem ggX5_doneIn_X1_play : GoodIn wsX5_doneIn wsX1_play := goodIn_r _ [52, 29, 22, 26, 21, 53, 42, 43, 44, 54, 39, 55, 56, 57, 58, 14, 59, 23, 24, 60, 61, 62, 63, 17, 25, 31, 64, 65, 66, 67, 68, 69, 70, 8, 71, 37, 72, 73, 74, 75, 76, 77, 78, 79, 80, 81, 82, 83, 84, 18, 85, 86, 87, 88, 89, 90, 91, 92, 93, 94, 95, 96, 97, 98, 16, 99, 100, 101, 102, 103, 104, 105, 106, 10, 107, 108, 109, 110, 111, 112, 113, 114, 115, 116, 117, 118, 119, 120, 46, 47, 48, 121, 6, 7, 9, 122, 123, 124, 125, 32, 126, 127, 128, 129, 130, 19, 30, 20, 27, 28, 131, 132, 133, 134, 141, 142, 143, 144, 145, 146, 147, 148, 149, 150, 151, 152, 153, 154, 155, 156, 157, 158, 159, 160, 161] (by decide +kernel) (by decide +kernel)
set_option maxRecDepth 20000 in
theorem gX5_doneIn_X1_play : GoodIn wsX5_doneIn (wsV RX5 115 RX1 yX1_play wsX1_play) := goodIn_app (goodIn_of _ (by decide +kernel)) ggX5_doneIn_X1_play
theorem dX5_doneIn_0 : decode cX5_doneIn 0 = .ok (.aload_n 0, 1) := by decide +kernel
theorem dX5_doneIn_1 : decode cX5_doneIn 1 = .ok (.getfield 19, 3) := by decide +kernel
theorem dX5_doneIn_4 : decode cX5_doneIn 4 = .ok (.getfield 147, 3) := by decide +kernel
theorem dX5_doneIn_7 : decode cX5_doneIn 7 = .ok (.iload_n 1, 1) := by decide +kernel
theorem dX5_doneIn_8 : decode cX5_doneIn 8 = .ok (.invokevirtual 131, 3) := by decide +kernel
theorem dX5_doneIn_11 : decode cX5_doneIn 11 = .ok (.ifCond .ne 13, 3) := by decide +kernel
theorem dX5_doneIn_14 : decode cX5_doneIn 14 = .ok (.new 137, 3) := by decide +kernel
theorem dX5_doneIn_17 : decode cX5_doneIn 17 = .ok (.dup, 1) := by decide +kernel
theorem dX5_doneIn_18 : decode cX5_doneIn 18 = .ok (.ldc 150, 2) := by decide +kernel
theorem dX5_doneIn_20 : decode cX5_doneIn 20 = .ok (.invokespecial 141, 3) := by decide +kernel
theorem dX5_doneIn_23 : decode cX5_doneIn 23 = .ok (.athrow, 1) := by decide +kernel
theorem dX5_doneIn_24 : decode cX5_doneIn 24 = .ok (.aload_n 0, 1) := by decide +kernel
theorem dX5_doneIn_25 : decode cX5_doneIn 25 = .ok (.getfield 26, 3) := by decide +kernel
theorem dX5_doneIn_28 : decode cX5_doneIn 28 = .ok (.aload_n 0, 1) := by decide +kernel
theorem dX5_doneIn_29 : decode cX5_doneIn 29 = .ok (.getfield 19, 3) := by decide +kernel
theorem dX5_doneIn_32 : decode cX5_doneIn 32 = .ok (.invokevirtual 72, 3) := by decide +kernel
theorem dX5_doneIn_35 : decode cX5_doneIn 35 = .ok (.aload_n 0, 1) := by decide +kernel
theorem dX5_doneIn_36 : decode cX5_doneIn 36 = .ok (.getfield 26, 3) := by decide +kernel
theorem dX5_doneIn_39 : decode cX5_doneIn 39 = .ok (.iload_n 1, 1) := by decide +kernel
theorem dX5_doneIn_40 : decode cX5_doneIn 40 = .ok (.putfield 219, 3) := by decide +kernel
theorem dX5_doneIn_43 : decode cX5_doneIn 43 = .ok (.iconst 1, 1) := by decide +kernel
theorem dX5_doneIn_44 : decode cX5_doneIn 44 = .ok (.istore_n 2, 1) := by decide +kernel
theorem dX5_doneIn_45 : decode cX5_doneIn 45 = .ok (.iload_n 2, 1) := by decide +kernel
theorem dX5_doneIn_46 : decode cX5_doneIn 46 = .ok (.bipush 100, 2) := by decide +kernel
theorem dX5_doneIn_48 : decode cX5_doneIn 48 = .ok (.if_icmp .gt 31, 3) := by decide +kernel
theorem dX5_doneIn_51 : decode cX5_doneIn 51 = .ok (.aload_n 0, 1) := by decide +kernel
theorem dX5_doneIn_52 : decode cX5_doneIn 52 = .ok (.getfield 26, 3) := by decide +kernel
theorem dX5_doneIn_55 : decode cX5_doneIn 55 = .ok (.iconst 1, 1) := by decide +kernel
theorem dX5_doneIn_56 : decode cX5_doneIn 56 = .ok (.invokevirtual 115, 3) := by decide +kernel
theorem dX5_doneIn_59 : decode cX5_doneIn 59 = .ok (.pop, 1) := by decide +kernel
theorem dX5_doneIn_60 : decode cX5_doneIn 60 = .ok (.aload_n 0, 1) := by decide +kernel
theorem dX5_doneIn_61 : decode cX5_doneIn 61 = .ok (.getfield 26, 3) := by decide +kernel
theorem dX5_doneIn_64 : decode cX5_doneIn 64 = .ok (.getfield 219, 3) := by decide +kernel
theorem dX5_doneIn_67 : decode cX5_doneIn 67 = .ok (.iconst (-1), 1) := by decide +kernel
theorem dX5_doneIn_68 : decode cX5_doneIn 68 = .ok (.if_icmp .ne 5, 3) := by decide +kernel
theorem dX5_doneIn_71 : decode cX5_doneIn 71 = .ok (.iload_n 2, 1) := by decide +kernel
theorem dX5_doneIn_72 : decode cX5_doneIn 72 = .ok (.ireturn, 1) := by decide +kernel
theorem dX5_doneIn_73 : decode cX5_doneIn 73 = .ok (.iinc 2 1, 3) := by decide +kernel
theorem dX5_doneIn_76 : decode cX5_doneIn 76 = .ok (.goto (-31), 3) := by decide +kernel
theorem dX5_doneIn_79 : decode cX5_doneIn 79 = .ok (.iconst (-1), 1) := by decide +kernel
theorem dX5_doneIn_80 : decode cX5_doneIn 80 = .ok (.ireturn, 1) := by decide +kernel
set_option maxRecDepth 20000 in
theorem ggX5_soundsIn_X5_isPipe : GoodIn wsX5_soundsIn wsX5_isPipe := goodIn_r _ [8] (by decide +kernel) (by decide +kernel)
set_option maxRecDepth 20000 in
theorem gX5_soundsIn_X5_isPipe : GoodIn wsX5_soundsIn (va_wsS RX5 154 yX5_isPipe wsX5_isPipe) := goodIn_app (goodIn_of _ (by decide +kernel)) ggX5_soundsIn_X5_isPipe
set_option maxRecDepth 20000 in
theorem ggX5_soundsIn_X1_copyFrom : GoodIn wsX5_soundsIn wsX1_copyFrom := goodIn_r _ [13, 14, 15, 16, 17, 18, 19, 20, 21, 22, 23, 24, 25, 26, 27, 28, 29, 30, 31, 32, 33, 34, 35, 36, 37, 38, 7, 39, 40, 41, 42, 43, 44, 45, 46, 47, 142, 143, 144, 145, 146, 147, 148, 149, 150, 151, 152, 153, 154, 155, 156, 157, 158, 159, 160, 161, 162] (by decide +kernel) (by decide +kernel)
set_option maxRecDepth 20000 in
theorem gX5_soundsIn_X1_copyFrom : GoodIn wsX5_soundsIn (wsV RX5 72 RX1 yX1_copyFrom wsX1_copyFrom) := goodIn_app (goodIn_of _ (by decide +kernel)) ggX5_soundsIn_X1_copyFrom
set_option maxRecDepth 20000 in
theorem ggX5_soundsIn_X1_play : GoodIn wsX5_soundsIn wsX1_play := goodIn_r _ [51, 27, 20, 24, 19, 52, 41, 42, 43, 53, 7, 54, 55, 56, 57, 12, 58, 21, 22, 59, 60, 61, 62, 15, 23, 29, 63, 64, 65, 66, 67, 68, 69, 34, 70, 37, 71, 72, 73, 74, 75, 76, 77, 78, 79, 80, 81, 82, 83, 16, 6, 8, 84, 85, 86, 87, 88, 89, 90, 91, 92, 93, 94, 95, 14, 96, 97, 98, 99, 100, 101, 102, 103, 36, 104, 105, 106, 107, 108, 109, 110, 111, 112, 113, 114, 115, 116, 117, 45, 46, 47, 118, 119, 120, 121, 122, 123, 124, 125, 30, 126, 127, 128, 129, 130, 17, 28, 18, 25, 26, 131, 132, 133, 134, 142, 143, 144, 145, 146, 147, 148, 149, 150, 151, 152, 153, 154, 155, 156, 157, 158, 159, 160, 161, 162] (by decide +kernel) (by decide +kernel)
set_option maxRecDepth 20000 in
theorem gX5_soundsIn_X1_play : GoodIn wsX5_soundsIn (wsV RX5 115 RX1 yX1_play wsX1_play) := goodIn_app (goodIn_of _ (by decide +kernel)) ggX5_soundsIn_X1_play
set_option maxRecDepth 20000 in
theorem ggX5_soundsIn_X1_soundedAgo : GoodIn wsX5_soundsIn wsX1_soundedAgo := goodIn_r _ [134, 25, 142, 143, 144, 145, 146, 147, 148, 149, 150, 151, 152, 153, 154, 155, 156, 157, 158] (by decide +kernel) (by decide +kernel)
set_option maxRecDepth 20000 in
theorem gX5_soundsIn_X1_soundedAgo : GoodIn wsX5_soundsIn (wsV RX5 222 RX1 yX1_soundedAgo wsX1_soundedAgo) := goodIn_app (goodIn_of _ (by decide +kernel)) ggX5_soundsIn_X1_soundedAgo
theorem dX5_soundsIn_0 : decode cX5_soundsIn 0 = .ok (.iload_n 1, 1) := by decide +kernel
theorem dX5_soundsIn_1 : decode cX5_soundsIn 1 = .ok (.invokestatic 154, 3) := by decide +kernel
theorem dX5_soundsIn_4 : decode cX5_soundsIn 4 = .ok (.ifCond .ne 13, 3) := by decide +kernel
theorem dX5_soundsIn_7 : decode cX5_soundsIn 7 = .ok (.new 137, 3) := by decide +kernel
theorem dX5_soundsIn_10 : decode cX5_soundsIn 10 = .ok (.dup, 1) := by decide +kernel
theorem dX5_soundsIn_11 : decode cX5_soundsIn 11 = .ok (.ldc 157, 2) := by decide +kernel
theorem dX5_soundsIn_13 : decode cX5_soundsIn 13 = .ok (.invokespecial 141, 3) := by decide +kernel
theorem dX5_soundsIn_16 : decode cX5_soundsIn 16 = .ok (.athrow, 1) := by decide +kernel
theorem dX5_soundsIn_17 : decode cX5_soundsIn 17 = .ok (.aload_n 0, 1) := by decide +kernel
theorem dX5_soundsIn_18 : decode cX5_soundsIn 18 = .ok (.getfield 26, 3) := by decide +kernel
theorem dX5_soundsIn_21 : decode cX5_soundsIn 21 = .ok (.aload_n 0, 1) := by decide +kernel
theorem dX5_soundsIn_22 : decode cX5_soundsIn 22 = .ok (.getfield 19, 3) := by decide +kernel
theorem dX5_soundsIn_25 : decode cX5_soundsIn 25 = .ok (.invokevirtual 72, 3) := by decide +kernel
theorem dX5_soundsIn_28 : decode cX5_soundsIn 28 = .ok (.iconst 1, 1) := by decide +kernel
theorem dX5_soundsIn_29 : decode cX5_soundsIn 29 = .ok (.istore_n 2, 1) := by decide +kernel
theorem dX5_soundsIn_30 : decode cX5_soundsIn 30 = .ok (.iload_n 2, 1) := by decide +kernel
theorem dX5_soundsIn_31 : decode cX5_soundsIn 31 = .ok (.bipush 100, 2) := by decide +kernel
theorem dX5_soundsIn_33 : decode cX5_soundsIn 33 = .ok (.if_icmp .gt 36, 3) := by decide +kernel
theorem dX5_soundsIn_36 : decode cX5_soundsIn 36 = .ok (.aload_n 0, 1) := by decide +kernel
theorem dX5_soundsIn_37 : decode cX5_soundsIn 37 = .ok (.getfield 26, 3) := by decide +kernel
theorem dX5_soundsIn_40 : decode cX5_soundsIn 40 = .ok (.iconst 1, 1) := by decide +kernel
theorem dX5_soundsIn_41 : decode cX5_soundsIn 41 = .ok (.invokevirtual 115, 3) := by decide +kernel
theorem dX5_soundsIn_44 : decode cX5_soundsIn 44 = .ok (.pop, 1) := by decide +kernel
theorem dX5_soundsIn_45 : decode cX5_soundsIn 45 = .ok (.aload_n 0, 1) := by decide +kernel
theorem dX5_soundsIn_46 : decode cX5_soundsIn 46 = .ok (.getfield 26, 3) := by decide +kernel
theorem dX5_soundsIn_49 : decode cX5_soundsIn 49 = .ok (.iconst 0, 1) := by decide +kernel
theorem dX5_soundsIn_50 : decode cX5_soundsIn 50 = .ok (.invokevirtual 222, 3) := by decide +kernel
theorem dX5_soundsIn_53 : decode cX5_soundsIn 53 = .ok (.iload_n 1, 1) := by decide +kernel
theorem dX5_soundsIn_54 : decode cX5_soundsIn 54 = .ok (.ishr, 1) := by decide +kernel
theorem dX5_soundsIn_55 : decode cX5_soundsIn 55 = .ok (.iconst 1, 1) := by decide +kernel
theorem dX5_soundsIn_56 : decode cX5_soundsIn 56 = .ok (.iand, 1) := by decide +kernel
theorem dX5_soundsIn_57 : decode cX5_soundsIn 57 = .ok (.iconst 1, 1) := by decide +kernel
theorem dX5_soundsIn_58 : decode cX5_soundsIn 58 = .ok (.if_icmp .ne 5, 3) := by decide +kernel
theorem dX5_soundsIn_61 : decode cX5_soundsIn 61 = .ok (.iload_n 2, 1) := by decide +kernel
theorem dX5_soundsIn_62 : decode cX5_soundsIn 62 = .ok (.ireturn, 1) := by decide +kernel
theorem dX5_soundsIn_63 : decode cX5_soundsIn 63 = .ok (.iinc 2 1, 3) := by decide +kernel
theorem dX5_soundsIn_66 : decode cX5_soundsIn 66 = .ok (.goto (-36), 3) := by decide +kernel
theorem dX5_soundsIn_69 : decode cX5_soundsIn 69 = .ok (.iconst (-1), 1) := by decide +kernel
theorem dX5_soundsIn_70 : decode cX5_soundsIn 70 = .ok (.ireturn, 1) := by decide +kernel
set_option maxRecDepth 20000 in
theorem ggX5_leastSpeed_X5_isTicks : GoodIn wsX5_leastSpeed wsX5_isTicks := goodIn_r _ [9] (by decide +kernel) (by decide +kernel)
set_option maxRecDepth 20000 in
theorem gX5_leastSpeed_X5_isTicks : GoodIn wsX5_leastSpeed (va_wsS RX5 199 yX5_isTicks wsX5_isTicks) := goodIn_app (goodIn_of _ (by decide +kernel)) ggX5_leastSpeed_X5_isTicks
set_option maxRecDepth 20000 in
theorem ggX5_leastSpeed_X1_copyFrom : GoodIn wsX5_leastSpeed wsX1_copyFrom := goodIn_r _ [14, 15, 16, 17, 18, 19, 20, 21, 22, 23, 24, 25, 26, 27, 28, 29, 30, 31, 32, 33, 34, 35, 36, 37, 38, 39, 8, 40, 41, 42, 43, 44, 45, 46, 47, 48, 151, 152, 153, 154, 155, 156, 157, 158, 159, 160, 161, 162, 163, 164, 165, 166, 167, 168, 169, 170, 171] (by decide +kernel) (by decide +kernel)
set_option maxRecDepth 20000 in
theorem gX5_leastSpeed_X1_copyFrom : GoodIn wsX5_leastSpeed (wsV RX5 72 RX1 yX1_copyFrom wsX1_copyFrom) := goodIn_app (goodIn_of _ (by decide +kernel)) ggX5_leastSpeed_X1_copyFrom
set_option maxRecDepth 20000 in
theorem ggX5_leastSpeed_X1_change : GoodIn wsX5_leastSpeed wsX1_change := goodIn_r _ [52, 20, 53, 8, 54, 3, 55, 56, 57, 151, 152, 153, 154, 155, 156, 157, 158, 159, 160, 161, 162, 163, 164, 165, 166, 167] (by decide +kernel) (by decide +kernel)
set_option maxRecDepth 20000 in
theorem gX5_leastSpeed_X1_change : GoodIn wsX5_leastSpeed (wsV RX5 112 RX1 yX1_change wsX1_change) := goodIn_app (goodIn_of _ (by decide +kernel)) ggX5_leastSpeed_X1_change
set_option maxRecDepth 20000 in
theorem ggX5_leastSpeed_X1_play : GoodIn wsX5_leastSpeed wsX1_play := goodIn_r _ [61, 28, 21, 25, 20, 62, 42, 43, 44, 7, 8, 9, 63, 64, 65, 13, 66, 22, 23, 67, 68, 69, 70, 16, 24, 30, 71, 72, 73, 74, 75, 76, 77, 35, 78, 38, 79, 80, 81, 82, 83, 84, 85, 86, 87, 88, 89, 90, 91, 17, 92, 93, 94, 95, 96, 97, 98, 99, 100, 101, 102, 103, 104, 105, 15, 106, 107, 108, 109, 110, 111, 112, 113, 37, 114, 115, 116, 117, 118, 119, 120, 121, 122, 123, 124, 125, 126, 127, 46, 47, 48, 128, 129, 130, 131, 132, 133, 134, 135, 31, 136, 137, 138, 139, 140, 18, 29, 19, 26, 27, 141, 142, 143, 144, 151, 152, 153, 154, 155, 156, 157, 158, 159, 160, 161, 162, 163, 164, 165, 166, 167, 168, 169, 170, 171] (by decide +kernel) (by decide +kernel)
set_option maxRecDepth 20000 in
theorem gX5_leastSpeed_X1_play : GoodIn wsX5_leastSpeed (wsV RX5 115 RX1 yX1_play wsX1_play) := goodIn_app (goodIn_of _ (by decide +kernel)) ggX5_leastSpeed_X1_play
theorem dX5_leastSpeed_0 : decode cX5_leastSpeed 0 = .ok (.iload_n 1, 1) := by decide +kernel
theorem dX5_leastSpeed_1 : decode cX5_leastSpeed 1 = .ok (.invokestatic 199, 3) := by decide +kernel
theorem dX5_leastSpeed_4 : decode cX5_leastSpeed 4 = .ok (.ifCond .ne 13, 3) := by decide +kernel
theorem dX5_leastSpeed_7 : decode cX5_leastSpeed 7 = .ok (.new 43, 3) := by decide +kernel
theorem dX5_leastSpeed_10 : decode cX5_leastSpeed 10 = .ok (.dup, 1) := by decide +kernel
theorem dX5_leastSpeed_11 : decode cX5_leastSpeed 11 = .ok (.ldc 202, 2) := by decide +kernel
theorem dX5_leastSpeed_13 : decode cX5_leastSpeed 13 = .ok (.invokespecial 47, 3) := by decide +kernel
theorem dX5_leastSpeed_16 : decode cX5_leastSpeed 16 = .ok (.athrow, 1) := by decide +kernel
theorem dX5_leastSpeed_17 : decode cX5_leastSpeed 17 = .ok (.iconst 0, 1) := by decide +kernel
theorem dX5_leastSpeed_18 : decode cX5_leastSpeed 18 = .ok (.istore_n 2, 1) := by decide +kernel
theorem dX5_leastSpeed_19 : decode cX5_leastSpeed 19 = .ok (.iload_n 2, 1) := by decide +kernel
theorem dX5_leastSpeed_20 : decode cX5_leastSpeed 20 = .ok (.getstatic 225, 3) := by decide +kernel
theorem dX5_leastSpeed_23 : decode cX5_leastSpeed 23 = .ok (.iconst 0, 1) := by decide +kernel
theorem dX5_leastSpeed_24 : decode cX5_leastSpeed 24 = .ok (.iaload, 1) := by decide +kernel
theorem dX5_leastSpeed_25 : decode cX5_leastSpeed 25 = .ok (.if_icmp .gt 58, 3) := by decide +kernel
theorem dX5_leastSpeed_28 : decode cX5_leastSpeed 28 = .ok (.aload_n 0, 1) := by decide +kernel
theorem dX5_leastSpeed_29 : decode cX5_leastSpeed 29 = .ok (.getfield 26, 3) := by decide +kernel
theorem dX5_leastSpeed_32 : decode cX5_leastSpeed 32 = .ok (.aload_n 0, 1) := by decide +kernel
theorem dX5_leastSpeed_33 : decode cX5_leastSpeed 33 = .ok (.getfield 19, 3) := by decide +kernel
theorem dX5_leastSpeed_36 : decode cX5_leastSpeed 36 = .ok (.invokevirtual 72, 3) := by decide +kernel
theorem dX5_leastSpeed_39 : decode cX5_leastSpeed 39 = .ok (.aload_n 0, 1) := by decide +kernel
theorem dX5_leastSpeed_40 : decode cX5_leastSpeed 40 = .ok (.getfield 26, 3) := by decide +kernel
theorem dX5_leastSpeed_43 : decode cX5_leastSpeed 43 = .ok (.iconst 0, 1) := by decide +kernel
theorem dX5_leastSpeed_44 : decode cX5_leastSpeed 44 = .ok (.iload_n 2, 1) := by decide +kernel
theorem dX5_leastSpeed_45 : decode cX5_leastSpeed 45 = .ok (.invokevirtual 112, 3) := by decide +kernel
theorem dX5_leastSpeed_48 : decode cX5_leastSpeed 48 = .ok (.pop, 1) := by decide +kernel
theorem dX5_leastSpeed_49 : decode cX5_leastSpeed 49 = .ok (.aload_n 0, 1) := by decide +kernel
theorem dX5_leastSpeed_50 : decode cX5_leastSpeed 50 = .ok (.getfield 26, 3) := by decide +kernel
theorem dX5_leastSpeed_53 : decode cX5_leastSpeed 53 = .ok (.iload_n 1, 1) := by decide +kernel
theorem dX5_leastSpeed_54 : decode cX5_leastSpeed 54 = .ok (.invokevirtual 115, 3) := by decide +kernel
theorem dX5_leastSpeed_57 : decode cX5_leastSpeed 57 = .ok (.pop, 1) := by decide +kernel
theorem dX5_leastSpeed_58 : decode cX5_leastSpeed 58 = .ok (.aload_n 0, 1) := by decide +kernel
theorem dX5_leastSpeed_59 : decode cX5_leastSpeed 59 = .ok (.getfield 26, 3) := by decide +kernel
theorem dX5_leastSpeed_62 : decode cX5_leastSpeed 62 = .ok (.getfield 229, 3) := by decide +kernel
theorem dX5_leastSpeed_65 : decode cX5_leastSpeed 65 = .ok (.aload_n 0, 1) := by decide +kernel
theorem dX5_leastSpeed_66 : decode cX5_leastSpeed 66 = .ok (.getfield 19, 3) := by decide +kernel
theorem dX5_leastSpeed_69 : decode cX5_leastSpeed 69 = .ok (.getfield 229, 3) := by decide +kernel
theorem dX5_leastSpeed_72 : decode cX5_leastSpeed 72 = .ok (.if_icmp .ne 5, 3) := by decide +kernel
theorem dX5_leastSpeed_75 : decode cX5_leastSpeed 75 = .ok (.iload_n 2, 1) := by decide +kernel
theorem dX5_leastSpeed_76 : decode cX5_leastSpeed 76 = .ok (.ireturn, 1) := by decide +kernel
theorem dX5_leastSpeed_77 : decode cX5_leastSpeed 77 = .ok (.iinc 2 1, 3) := by decide +kernel
theorem dX5_leastSpeed_80 : decode cX5_leastSpeed 80 = .ok (.goto (-61), 3) := by decide +kernel
theorem dX5_leastSpeed_83 : decode cX5_leastSpeed 83 = .ok (.iconst (-1), 1) := by decide +kernel
theorem dX5_leastSpeed_84 : decode cX5_leastSpeed 84 = .ok (.ireturn, 1) := by decide +kernel
set_option maxRecDepth 20000 in
theorem ggX5_fullest_X1_openPipes : GoodIn wsX5_fullest wsX1_openPipes := goodIn_r _ [6, 7, 8, 9, 5, 10, 11, 12, 13, 14, 15, 16, 17, 31, 32, 33, 34, 35, 36, 37, 38, 39, 40, 41, 42, 43, 44, 45, 46, 47] (by decide +kernel) (by decide +kernel)
set_option maxRecDepth 20000 in
theorem gX5_fullest_X1_openPipes : GoodIn wsX5_fullest (wsV RX5 167 RX1 yX1_openPipes wsX1_openPipes) := goodIn_app (goodIn_of _ (by decide +kernel)) ggX5_fullest_X1_openPipes
set_option maxRecDepth 20000 in
theorem ggX5_fullest_J6_bitCount_0f7a4 : GoodIn wsX5_fullest wsJ6_bitCount_0f7a4 := goodIn_r _ [21, 22, 23, 24] (by decide +kernel) (by decide +kernel)
set_option maxRecDepth 20000 in
theorem gX5_fullest_J6_bitCount_0f7a4 : GoodIn wsX5_fullest (va_wsS RX5 232 yJ6_bitCount_0f7a4 wsJ6_bitCount_0f7a4) := goodIn_app (goodIn_of _ (by decide +kernel)) ggX5_fullest_J6_bitCount_0f7a4
theorem dX5_fullest_0 : decode cX5_fullest 0 = .ok (.iconst 0, 1) := by decide +kernel
theorem dX5_fullest_1 : decode cX5_fullest 1 = .ok (.istore_n 1, 1) := by decide +kernel
theorem dX5_fullest_2 : decode cX5_fullest 2 = .ok (.iconst 1, 1) := by decide +kernel
theorem dX5_fullest_3 : decode cX5_fullest 3 = .ok (.istore_n 2, 1) := by decide +kernel
theorem dX5_fullest_4 : decode cX5_fullest 4 = .ok (.iload_n 2, 1) := by decide +kernel
theorem dX5_fullest_5 : decode cX5_fullest 5 = .ok (.bipush 24, 2) := by decide +kernel
theorem dX5_fullest_7 : decode cX5_fullest 7 = .ok (.if_icmp .ge 36, 3) := by decide +kernel
theorem dX5_fullest_10 : decode cX5_fullest 10 = .ok (.aload_n 0, 1) := by decide +kernel
theorem dX5_fullest_11 : decode cX5_fullest 11 = .ok (.getfield 19, 3) := by decide +kernel
theorem dX5_fullest_14 : decode cX5_fullest 14 = .ok (.iload_n 2, 1) := by decide +kernel
theorem dX5_fullest_15 : decode cX5_fullest 15 = .ok (.invokevirtual 167, 3) := by decide +kernel
theorem dX5_fullest_18 : decode cX5_fullest 18 = .ok (.invokestatic 232, 3) := by decide +kernel
theorem dX5_fullest_21 : decode cX5_fullest 21 = .ok (.aload_n 0, 1) := by decide +kernel
theorem dX5_fullest_22 : decode cX5_fullest 22 = .ok (.getfield 19, 3) := by decide +kernel
theorem dX5_fullest_25 : decode cX5_fullest 25 = .ok (.iload_n 1, 1) := by decide +kernel
theorem dX5_fullest_26 : decode cX5_fullest 26 = .ok (.invokevirtual 167, 3) := by decide +kernel
theorem dX5_fullest_29 : decode cX5_fullest 29 = .ok (.invokestatic 232, 3) := by decide +kernel
theorem dX5_fullest_32 : decode cX5_fullest 32 = .ok (.if_icmp .le 5, 3) := by decide +kernel
theorem dX5_fullest_35 : decode cX5_fullest 35 = .ok (.iload_n 2, 1) := by decide +kernel
theorem dX5_fullest_36 : decode cX5_fullest 36 = .ok (.istore_n 1, 1) := by decide +kernel
theorem dX5_fullest_37 : decode cX5_fullest 37 = .ok (.iinc 2 1, 3) := by decide +kernel
theorem dX5_fullest_40 : decode cX5_fullest 40 = .ok (.goto (-36), 3) := by decide +kernel
theorem dX5_fullest_43 : decode cX5_fullest 43 = .ok (.iload_n 1, 1) := by decide +kernel
theorem dX5_fullest_44 : decode cX5_fullest 44 = .ok (.ireturn, 1) := by decide +kernel
set_option maxRecDepth 20000 in
theorem ggX5_room_X5_isPipe : GoodIn wsX5_room wsX5_isPipe := goodIn_r _ [9] (by decide +kernel) (by decide +kernel)
set_option maxRecDepth 20000 in
theorem gX5_room_X5_isPipe : GoodIn wsX5_room (va_wsS RX5 154 yX5_isPipe wsX5_isPipe) := goodIn_app (goodIn_of _ (by decide +kernel)) ggX5_room_X5_isPipe
set_option maxRecDepth 20000 in
theorem ggX5_room_X5_isLength : GoodIn wsX5_room wsX5_isLength := goodIn_r _ [12] (by decide +kernel) (by decide +kernel)
set_option maxRecDepth 20000 in
theorem gX5_room_X5_isLength : GoodIn wsX5_room (va_wsS RX5 188 yX5_isLength wsX5_isLength) := goodIn_app (goodIn_of _ (by decide +kernel)) ggX5_room_X5_isLength
set_option maxRecDepth 20000 in
theorem ggX5_room_X5_span : GoodIn wsX5_room wsX5_span := goodIn_r _ [15, 16] (by decide +kernel) (by decide +kernel)
set_option maxRecDepth 20000 in
theorem gX5_room_X5_span : GoodIn wsX5_room (va_wsS RX5 237 yX5_span wsX5_span) := goodIn_app (goodIn_of _ (by decide +kernel)) ggX5_room_X5_span
set_option maxRecDepth 20000 in
theorem ggX5_room_X1_isFree : GoodIn wsX5_room wsX1_isFree := goodIn_r _ [21, 22, 7, 8, 9, 29, 30, 31, 32, 33, 34, 35, 36, 37, 38, 39, 40, 41, 42, 43, 44, 45] (by decide +kernel) (by decide +kernel)
set_option maxRecDepth 20000 in
theorem gX5_room_X1_isFree : GoodIn wsX5_room (wsV RX5 240 RX1 yX1_isFree wsX1_isFree) := goodIn_app (goodIn_of _ (by decide +kernel)) ggX5_room_X1_isFree
theorem dX5_room_0 : decode cX5_room 0 = .ok (.iload_n 1, 1) := by decide +kernel
theorem dX5_room_1 : decode cX5_room 1 = .ok (.invokestatic 154, 3) := by decide +kernel
theorem dX5_room_4 : decode cX5_room 4 = .ok (.ifCond .ne 13, 3) := by decide +kernel
theorem dX5_room_7 : decode cX5_room 7 = .ok (.new 137, 3) := by decide +kernel
theorem dX5_room_10 : decode cX5_room 10 = .ok (.dup, 1) := by decide +kernel
theorem dX5_room_11 : decode cX5_room 11 = .ok (.ldc 157, 2) := by decide +kernel
theorem dX5_room_13 : decode cX5_room 13 = .ok (.invokespecial 141, 3) := by decide +kernel
theorem dX5_room_16 : decode cX5_room 16 = .ok (.athrow, 1) := by decide +kernel
theorem dX5_room_17 : decode cX5_room 17 = .ok (.iload_n 2, 1) := by decide +kernel
theorem dX5_room_18 : decode cX5_room 18 = .ok (.invokestatic 188, 3) := by decide +kernel
theorem dX5_room_21 : decode cX5_room 21 = .ok (.ifCond .ne 13, 3) := by decide +kernel
theorem dX5_room_24 : decode cX5_room 24 = .ok (.new 43, 3) := by decide +kernel
theorem dX5_room_27 : decode cX5_room 27 = .ok (.dup, 1) := by decide +kernel
theorem dX5_room_28 : decode cX5_room 28 = .ok (.ldc 191, 2) := by decide +kernel
theorem dX5_room_30 : decode cX5_room 30 = .ok (.invokespecial 47, 3) := by decide +kernel
theorem dX5_room_33 : decode cX5_room 33 = .ok (.athrow, 1) := by decide +kernel
theorem dX5_room_34 : decode cX5_room 34 = .ok (.iconst 0, 1) := by decide +kernel
theorem dX5_room_35 : decode cX5_room 35 = .ok (.istore_n 3, 1) := by decide +kernel
theorem dX5_room_36 : decode cX5_room 36 = .ok (.iload_n 3, 1) := by decide +kernel
theorem dX5_room_37 : decode cX5_room 37 = .ok (.bipush 24, 2) := by decide +kernel
theorem dX5_room_39 : decode cX5_room 39 = .ok (.if_icmp .ge 27, 3) := by decide +kernel
theorem dX5_room_42 : decode cX5_room 42 = .ok (.aload_n 0, 1) := by decide +kernel
theorem dX5_room_43 : decode cX5_room 43 = .ok (.getfield 19, 3) := by decide +kernel
theorem dX5_room_46 : decode cX5_room 46 = .ok (.iload_n 1, 1) := by decide +kernel
theorem dX5_room_47 : decode cX5_room 47 = .ok (.iload_n 3, 1) := by decide +kernel
theorem dX5_room_48 : decode cX5_room 48 = .ok (.iload_n 2, 1) := by decide +kernel
theorem dX5_room_49 : decode cX5_room 49 = .ok (.invokestatic 237, 3) := by decide +kernel
theorem dX5_room_52 : decode cX5_room 52 = .ok (.invokevirtual 240, 3) := by decide +kernel
theorem dX5_room_55 : decode cX5_room 55 = .ok (.ifCond .eq 5, 3) := by decide +kernel
theorem dX5_room_58 : decode cX5_room 58 = .ok (.iload_n 3, 1) := by decide +kernel
theorem dX5_room_59 : decode cX5_room 59 = .ok (.ireturn, 1) := by decide +kernel
theorem dX5_room_60 : decode cX5_room 60 = .ok (.iinc 3 1, 3) := by decide +kernel
theorem dX5_room_63 : decode cX5_room 63 = .ok (.goto (-27), 3) := by decide +kernel
theorem dX5_room_66 : decode cX5_room 66 = .ok (.iconst (-1), 1) := by decide +kernel
theorem dX5_room_67 : decode cX5_room 67 = .ok (.ireturn, 1) := by decide +kernel
set_option maxRecDepth 20000 in
theorem ggX5_runScript_X5_withoutLastGroups : GoodIn wsX5_runScript wsX5_withoutLastGroups := goodIn_r _ [9, 5] (by decide +kernel) (by decide +kernel)
set_option maxRecDepth 20000 in
theorem gX5_runScript_X5_withoutLastGroups : GoodIn wsX5_runScript (va_wsS RX5 245 yX5_withoutLastGroups wsX5_withoutLastGroups) := goodIn_app (goodIn_of _ (by decide +kernel)) ggX5_runScript_X5_withoutLastGroups
set_option maxRecDepth 20000 in
theorem ggX5_runScript_X1_copyFrom : GoodIn wsX5_runScript wsX1_copyFrom := goodIn_r _ [14, 15, 16, 17, 18, 19, 20, 21, 22, 23, 24, 25, 26, 27, 28, 29, 30, 31, 32, 33, 34, 35, 36, 37, 38, 39, 8, 40, 41, 42, 43, 44, 45, 46, 47, 48, 179, 180, 181, 182, 183, 184, 185, 186, 187, 188, 189, 190, 191, 192, 193, 194, 195, 196, 197, 198, 199] (by decide +kernel) (by decide +kernel)
set_option maxRecDepth 20000 in
theorem gX5_runScript_X1_copyFrom : GoodIn wsX5_runScript (wsV RX5 72 RX1 yX1_copyFrom wsX1_copyFrom) := goodIn_app (goodIn_of _ (by decide +kernel)) ggX5_runScript_X1_copyFrom
set_option maxRecDepth 20000 in
theorem ggX5_runScript_X5_obeysGroup : GoodIn wsX5_runScript wsX5_obeysGroup := goodIn_r _ [52, 3, 53, 54, 55, 13, 56, 57, 8, 58, 59, 60, 61, 62, 16, 63, 64, 65, 66, 67, 68, 69, 35, 70, 37, 71, 72, 73, 74, 75, 76, 77, 78, 79, 80, 38, 81, 82, 83, 84, 85, 86, 87, 88, 89, 90, 91, 92, 93, 28, 21, 25, 20, 94, 42, 43, 44, 95, 96, 97, 98, 99, 100, 22, 23, 101, 102, 103, 104, 24, 30, 105, 106, 107, 108, 109, 110, 111, 112, 113, 114, 115, 116, 117, 118, 119, 17, 120, 121, 122, 123, 124, 125, 126, 127, 15, 128, 129, 130, 131, 132, 133, 134, 135, 136, 137, 138, 139, 140, 46, 47, 48, 141, 142, 143, 144, 145, 146, 147, 148, 31, 149, 150, 151, 152, 153, 18, 29, 19, 26, 27, 154, 155, 156, 157, 158, 159, 160, 161, 162, 163, 164, 165, 166, 167, 168, 169, 170, 171, 172, 173, 174, 175, 176, 177, 178, 179, 180, 181, 182, 183, 184, 185, 186, 187, 188, 189, 190, 191, 192, 193, 194, 195, 196, 197, 198, 199] (by decide +kernel) (by decide +kernel)
set_option maxRecDepth 20000 in
theorem gX5_runScript_X5_obeysGroup : GoodIn wsX5_runScript (wsV RX5 253 RX5 yX5_obeysGroup wsX5_obeysGroup) := goodIn_app (goodIn_of _ (by decide +kernel)) ggX5_runScript_X5_obeysGroup
theorem dX5_runScript_0 : decode cX5_runScript 0 = .ok (.iload_n 1, 1) := by decide +kernel
theorem dX5_runScript_1 : decode cX5_runScript 1 = .ok (.iconst 1, 1) := by decide +kernel
theorem dX5_runScript_2 : decode cX5_runScript 2 = .ok (.if_icmp .lt 8, 3) := by decide +kernel
theorem dX5_runScript_5 : decode cX5_runScript 5 = .ok (.iload_n 1, 1) := by decide +kernel
theorem dX5_runScript_6 : decode cX5_runScript 6 = .ok (.iconst 3, 1) := by decide +kernel
theorem dX5_runScript_7 : decode cX5_runScript 7 = .ok (.if_icmp .le 13, 3) := by decide +kernel
theorem dX5_runScript_10 : decode cX5_runScript 10 = .ok (.new 43, 3) := by decide +kernel
theorem dX5_runScript_13 : decode cX5_runScript 13 = .ok (.dup, 1) := by decide +kernel
theorem dX5_runScript_14 : decode cX5_runScript 14 = .ok (.ldc 243, 2) := by decide +kernel
theorem dX5_runScript_16 : decode cX5_runScript 16 = .ok (.invokespecial 47, 3) := by decide +kernel
theorem dX5_runScript_19 : decode cX5_runScript 19 = .ok (.athrow, 1) := by decide +kernel
theorem dX5_runScript_20 : decode cX5_runScript 20 = .ok (.lload_n 2, 1) := by decide +kernel
theorem dX5_runScript_21 : decode cX5_runScript 21 = .ok (.lconst 0, 1) := by decide +kernel
theorem dX5_runScript_22 : decode cX5_runScript 22 = .ok (.lcmp, 1) := by decide +kernel
theorem dX5_runScript_23 : decode cX5_runScript 23 = .ok (.ifCond .lt 13, 3) := by decide +kernel
theorem dX5_runScript_26 : decode cX5_runScript 26 = .ok (.lload_n 2, 1) := by decide +kernel
theorem dX5_runScript_27 : decode cX5_runScript 27 = .ok (.iload_n 1, 1) := by decide +kernel
theorem dX5_runScript_28 : decode cX5_runScript 28 = .ok (.invokestatic 245, 3) := by decide +kernel
theorem dX5_runScript_31 : decode cX5_runScript 31 = .ok (.lconst 0, 1) := by decide +kernel
theorem dX5_runScript_32 : decode cX5_runScript 32 = .ok (.lcmp, 1) := by decide +kernel
theorem dX5_runScript_33 : decode cX5_runScript 33 = .ok (.ifCond .eq 13, 3) := by decide +kernel
theorem dX5_runScript_36 : decode cX5_runScript 36 = .ok (.new 43, 3) := by decide +kernel
theorem dX5_runScript_39 : decode cX5_runScript 39 = .ok (.dup, 1) := by decide +kernel
theorem dX5_runScript_40 : decode cX5_runScript 40 = .ok (.ldc 249, 2) := by decide +kernel
theorem dX5_runScript_42 : decode cX5_runScript 42 = .ok (.invokespecial 47, 3) := by decide +kernel
theorem dX5_runScript_45 : decode cX5_runScript 45 = .ok (.athrow, 1) := by decide +kernel
theorem dX5_runScript_46 : decode cX5_runScript 46 = .ok (.aload_n 0, 1) := by decide +kernel
theorem dX5_runScript_47 : decode cX5_runScript 47 = .ok (.getfield 26, 3) := by decide +kernel
theorem dX5_runScript_50 : decode cX5_runScript 50 = .ok (.aload_n 0, 1) := by decide +kernel
theorem dX5_runScript_51 : decode cX5_runScript 51 = .ok (.getfield 19, 3) := by decide +kernel
theorem dX5_runScript_54 : decode cX5_runScript 54 = .ok (.invokevirtual 72, 3) := by decide +kernel
theorem dX5_runScript_57 : decode cX5_runScript 57 = .ok (.iconst 0, 1) := by decide +kernel
theorem dX5_runScript_58 : decode cX5_runScript 58 = .ok (.istore 4, 2) := by decide +kernel
theorem dX5_runScript_60 : decode cX5_runScript 60 = .ok (.iload 4, 2) := by decide +kernel
theorem dX5_runScript_62 : decode cX5_runScript 62 = .ok (.iload_n 1, 1) := by decide +kernel
theorem dX5_runScript_63 : decode cX5_runScript 63 = .ok (.if_icmp .ge 38, 3) := by decide +kernel
theorem dX5_runScript_66 : decode cX5_runScript 66 = .ok (.lload_n 2, 1) := by decide +kernel
theorem dX5_runScript_67 : decode cX5_runScript 67 = .ok (.iload_n 1, 1) := by decide +kernel
theorem dX5_runScript_68 : decode cX5_runScript 68 = .ok (.iconst 1, 1) := by decide +kernel
theorem dX5_runScript_69 : decode cX5_runScript 69 = .ok (.isub, 1) := by decide +kernel
theorem dX5_runScript_70 : decode cX5_runScript 70 = .ok (.iload 4, 2) := by decide +kernel
theorem dX5_runScript_72 : decode cX5_runScript 72 = .ok (.isub, 1) := by decide +kernel
theorem dX5_runScript_73 : decode cX5_runScript 73 = .ok (.invokestatic 245, 3) := by decide +kernel
theorem dX5_runScript_76 : decode cX5_runScript 76 = .ok (.ldc2_w 251, 3) := by decide +kernel
theorem dX5_runScript_79 : decode cX5_runScript 79 = .ok (.lrem, 1) := by decide +kernel
theorem dX5_runScript_80 : decode cX5_runScript 80 = .ok (.l2i, 1) := by decide +kernel
theorem dX5_runScript_81 : decode cX5_runScript 81 = .ok (.istore 5, 2) := by decide +kernel
theorem dX5_runScript_83 : decode cX5_runScript 83 = .ok (.aload_n 0, 1) := by decide +kernel
theorem dX5_runScript_84 : decode cX5_runScript 84 = .ok (.iload 5, 2) := by decide +kernel
theorem dX5_runScript_86 : decode cX5_runScript 86 = .ok (.invokevirtual 253, 3) := by decide +kernel
theorem dX5_runScript_89 : decode cX5_runScript 89 = .ok (.ifCond .ne 6, 3) := by decide +kernel
theorem dX5_runScript_92 : decode cX5_runScript 92 = .ok (.iload 4, 2) := by decide +kernel
theorem dX5_runScript_94 : decode cX5_runScript 94 = .ok (.ireturn, 1) := by decide +kernel
theorem dX5_runScript_95 : decode cX5_runScript 95 = .ok (.iinc 4 1, 3) := by decide +kernel
theorem dX5_runScript_98 : decode cX5_runScript 98 = .ok (.goto (-38), 3) := by decide +kernel
theorem dX5_runScript_101 : decode cX5_runScript 101 = .ok (.iconst (-1), 1) := by decide +kernel
theorem dX5_runScript_102 : decode cX5_runScript 102 = .ok (.ireturn, 1) := by decide +kernel
theorem dX5_withoutLastGroups_0 : decode cX5_withoutLastGroups 0 = .ok (.lload_n 0, 1) := by decide +kernel
theorem dX5_withoutLastGroups_1 : decode cX5_withoutLastGroups 1 = .ok (.lstore_n 3, 1) := by decide +kernel
theorem dX5_withoutLastGroups_2 : decode cX5_withoutLastGroups 2 = .ok (.iconst 0, 1) := by decide +kernel
theorem dX5_withoutLastGroups_3 : decode cX5_withoutLastGroups 3 = .ok (.istore 5, 2) := by decide +kernel
theorem dX5_withoutLastGroups_5 : decode cX5_withoutLastGroups 5 = .ok (.iload 5, 2) := by decide +kernel
theorem dX5_withoutLastGroups_7 : decode cX5_withoutLastGroups 7 = .ok (.iload_n 2, 1) := by decide +kernel
theorem dX5_withoutLastGroups_8 : decode cX5_withoutLastGroups 8 = .ok (.if_icmp .ge 15, 3) := by decide +kernel
theorem dX5_withoutLastGroups_11 : decode cX5_withoutLastGroups 11 = .ok (.lload_n 3, 1) := by decide +kernel
theorem dX5_withoutLastGroups_12 : decode cX5_withoutLastGroups 12 = .ok (.ldc2_w 251, 3) := by decide +kernel
theorem dX5_withoutLastGroups_15 : decode cX5_withoutLastGroups 15 = .ok (.ldiv, 1) := by decide +kernel
theorem dX5_withoutLastGroups_16 : decode cX5_withoutLastGroups 16 = .ok (.lstore_n 3, 1) := by decide +kernel
theorem dX5_withoutLastGroups_17 : decode cX5_withoutLastGroups 17 = .ok (.iinc 5 1, 3) := by decide +kernel
theorem dX5_withoutLastGroups_20 : decode cX5_withoutLastGroups 20 = .ok (.goto (-15), 3) := by decide +kernel
theorem dX5_withoutLastGroups_23 : decode cX5_withoutLastGroups 23 = .ok (.lload_n 3, 1) := by decide +kernel
theorem dX5_withoutLastGroups_24 : decode cX5_withoutLastGroups 24 = .ok (.lreturn, 1) := by decide +kernel
set_option maxRecDepth 20000 in
theorem ggX5_obeysGroup_X1_orderPut : GoodIn wsX5_obeysGroup wsX1_orderPut := goodIn_r _ [6, 7, 8, 9, 10, 11, 12, 5, 13, 14, 15, 16, 17, 18, 19, 20, 21, 22, 23, 24, 25, 26, 27, 28, 29, 30, 31, 32, 33, 34, 35, 36, 37, 38, 39, 40, 156, 157, 158, 159, 160, 161, 162, 163, 164, 165, 166, 167, 168, 169, 170, 171, 172, 173, 174, 175, 176] (by decide +kernel) (by decide +kernel)
set_option maxRecDepth 20000 in
theorem gX5_obeysGroup_X1_orderPut : GoodIn wsX5_obeysGroup (wsV RX5 104 RX1 yX1_orderPut wsX1_orderPut) := goodIn_app (goodIn_of _ (by decide +kernel)) ggX5_obeysGroup_X1_orderPut
set_option maxRecDepth 20000 in
theorem ggX5_obeysGroup_X1_orderPull : GoodIn wsX5_obeysGroup wsX1_orderPull := goodIn_r _ [44, 10, 11, 12, 5, 13, 14, 15, 8, 16, 17, 18, 19, 20, 21, 22, 23, 24, 25, 26, 27, 28, 29, 30, 31, 32, 33, 34, 35, 36, 37, 38, 39, 40, 156, 157, 158, 159, 160, 161, 162, 163, 164, 165, 166, 167, 168, 169, 170, 171, 172, 173, 174, 175, 176] (by decide +kernel) (by decide +kernel)
set_option maxRecDepth 20000 in
theorem gX5_obeysGroup_X1_orderPull : GoodIn wsX5_obeysGroup (wsV RX5 108 RX1 yX1_orderPull wsX1_orderPull) := goodIn_app (goodIn_of _ (by decide +kernel)) ggX5_obeysGroup_X1_orderPull
set_option maxRecDepth 20000 in
theorem ggX5_obeysGroup_X1_play : GoodIn wsX5_obeysGroup wsX1_play := goodIn_r _ [48, 49, 50, 51, 52, 53, 54, 55, 56, 57, 8, 58, 59, 60, 61, 5, 62, 63, 64, 65, 66, 67, 68, 14, 69, 70, 71, 72, 73, 74, 75, 76, 77, 22, 78, 35, 36, 37, 38, 39, 40, 25, 79, 80, 81, 82, 83, 84, 85, 86, 15, 16, 31, 32, 33, 34, 87, 88, 89, 90, 91, 92, 93, 94, 95, 96, 97, 98, 99, 19, 20, 21, 23, 24, 26, 27, 28, 29, 30, 100, 101, 102, 103, 104, 105, 106, 107, 108, 109, 110, 111, 112, 113, 114, 115, 116, 117, 118, 119, 120, 121, 122, 123, 124, 125, 126, 127, 128, 129, 130, 131, 132, 133, 134, 156, 157, 158, 159, 160, 161, 162, 163, 164, 165, 166, 167, 168, 169, 170, 171, 172, 173, 174, 175, 176] (by decide +kernel) (by decide +kernel)
set_option maxRecDepth 20000 in
theorem gX5_obeysGroup_X1_play : GoodIn wsX5_obeysGroup (wsV RX5 115 RX1 yX1_play wsX1_play) := goodIn_app (goodIn_of _ (by decide +kernel)) ggX5_obeysGroup_X1_play
set_option maxRecDepth 20000 in
theorem ggX5_obeysGroup_X1_change : GoodIn wsX5_obeysGroup wsX1_change := goodIn_r _ [138, 52, 139, 8, 140, 141, 142, 143, 144, 156, 157, 158, 159, 160, 161, 162, 163, 164, 165, 166, 167, 168, 169, 170, 171, 172] (by decide +kernel) (by decide +kernel)
set_option maxRecDepth 20000 in
theorem gX5_obeysGroup_X1_change : GoodIn wsX5_obeysGroup (wsV RX5 112 RX1 yX1_change wsX1_change) := goodIn_app (goodIn_of _ (by decide +kernel)) ggX5_obeysGroup_X1_change
set_option maxRecDepth 20000 in
theorem ggX5_obeysGroup_X1_dropOrder : GoodIn wsX5_obeysGroup wsX1_dropOrder := goodIn_r _ [119, 14, 120, 121, 113, 114, 22, 115, 24, 104, 105, 106, 107, 36, 35, 108, 109, 110, 111, 112, 156, 157, 158, 159, 160, 161, 162, 163, 164, 165, 166, 167, 168, 169, 170, 171, 172, 173, 174, 175, 176] (by decide +kernel) (by decide +kernel)
set_option maxRecDepth 20000 in
theorem gX5_obeysGroup_X1_dropOrder : GoodIn wsX5_obeysGroup (wsV RX5 119 RX1 yX1_dropOrder wsX1_dropOrder) := goodIn_app (goodIn_of _ (by decide +kernel)) ggX5_obeysGroup_X1_dropOrder
set_option maxRecDepth 20000 in
theorem ggX5_obeysGroup_X5_isPipe : GoodIn wsX5_obeysGroup wsX5_isPipe := goodIn_r _ [16] (by decide +kernel) (by decide +kernel)
set_option maxRecDepth 20000 in
theorem gX5_obeysGroup_X5_isPipe : GoodIn wsX5_obeysGroup (va_wsS RX5 154 yX5_isPipe wsX5_isPipe) := goodIn_app (goodIn_of _ (by decide +kernel)) ggX5_obeysGroup_X5_isPipe
set_option maxRecDepth 20000 in
theorem ggX5_obeysGroup_X5_isBar : GoodIn wsX5_obeysGroup wsX5_isBar := goodIn_r _ [18] (by decide +kernel) (by decide +kernel)
set_option maxRecDepth 20000 in
theorem gX5_obeysGroup_X5_isBar : GoodIn wsX5_obeysGroup (va_wsS RX5 162 yX5_isBar wsX5_isBar) := goodIn_app (goodIn_of _ (by decide +kernel)) ggX5_obeysGroup_X5_isBar
set_option maxRecDepth 20000 in
theorem ggX5_obeysGroup_X1_isOpen : GoodIn wsX5_obeysGroup wsX1_isOpen := goodIn_r _ [85, 86, 15, 8, 16, 79, 80, 81, 156, 157, 158, 159, 160, 161, 162, 163, 164, 165, 166, 167, 168, 169, 170, 171, 172] (by decide +kernel) (by decide +kernel)
set_option maxRecDepth 20000 in
theorem gX5_obeysGroup_X1_isOpen : GoodIn wsX5_obeysGroup (wsV RX5 256 RX1 yX1_isOpen wsX1_isOpen) := goodIn_app (goodIn_of _ (by decide +kernel)) ggX5_obeysGroup_X1_isOpen
set_option maxRecDepth 20000 in
theorem ggX5_obeysGroup_X1_soundedAgo : GoodIn wsX5_obeysGroup wsX1_soundedAgo := goodIn_r _ [134, 129, 156, 157, 158, 159, 160, 161, 162, 163, 164, 165, 166, 167, 168, 169, 170, 171, 172] (by decide +kernel) (by decide +kernel)
set_option maxRecDepth 20000 in
theorem gX5_obeysGroup_X1_soundedAgo : GoodIn wsX5_obeysGroup (wsV RX5 222 RX1 yX1_soundedAgo wsX1_soundedAgo) := goodIn_app (goodIn_of _ (by decide +kernel)) ggX5_obeysGroup_X1_soundedAgo
theorem dX5_obeysGroup_0 : decode cX5_obeysGroup 0 = .ok (.iload_n 1, 1) := by decide +kernel
theorem dX5_obeysGroup_1 : decode cX5_obeysGroup 1 = .ok (.sipush 1000, 3) := by decide +kernel
theorem dX5_obeysGroup_4 : decode cX5_obeysGroup 4 = .ok (.idiv, 1) := by decide +kernel
theorem dX5_obeysGroup_5 : decode cX5_obeysGroup 5 = .ok (.bipush 10, 2) := by decide +kernel
theorem dX5_obeysGroup_7 : decode cX5_obeysGroup 7 = .ok (.irem, 1) := by decide +kernel
theorem dX5_obeysGroup_8 : decode cX5_obeysGroup 8 = .ok (.istore_n 2, 1) := by decide +kernel
theorem dX5_obeysGroup_9 : decode cX5_obeysGroup 9 = .ok (.iload_n 1, 1) := by decide +kernel
theorem dX5_obeysGroup_10 : decode cX5_obeysGroup 10 = .ok (.bipush 100, 2) := by decide +kernel
theorem dX5_obeysGroup_12 : decode cX5_obeysGroup 12 = .ok (.idiv, 1) := by decide +kernel
theorem dX5_obeysGroup_13 : decode cX5_obeysGroup 13 = .ok (.bipush 10, 2) := by decide +kernel
theorem dX5_obeysGroup_15 : decode cX5_obeysGroup 15 = .ok (.irem, 1) := by decide +kernel
theorem dX5_obeysGroup_16 : decode cX5_obeysGroup 16 = .ok (.istore_n 3, 1) := by decide +kernel
theorem dX5_obeysGroup_17 : decode cX5_obeysGroup 17 = .ok (.iload_n 1, 1) := by decide +kernel
theorem dX5_obeysGroup_18 : decode cX5_obeysGroup 18 = .ok (.bipush 10, 2) := by decide +kernel
theorem dX5_obeysGroup_20 : decode cX5_obeysGroup 20 = .ok (.idiv, 1) := by decide +kernel
theorem dX5_obeysGroup_21 : decode cX5_obeysGroup 21 = .ok (.bipush 10, 2) := by decide +kernel
theorem dX5_obeysGroup_23 : decode cX5_obeysGroup 23 = .ok (.irem, 1) := by decide +kernel
theorem dX5_obeysGroup_24 : decode cX5_obeysGroup 24 = .ok (.istore 4, 2) := by decide +kernel
theorem dX5_obeysGroup_26 : decode cX5_obeysGroup 26 = .ok (.iload_n 1, 1) := by decide +kernel
theorem dX5_obeysGroup_27 : decode cX5_obeysGroup 27 = .ok (.bipush 10, 2) := by decide +kernel
theorem dX5_obeysGroup_29 : decode cX5_obeysGroup 29 = .ok (.irem, 1) := by decide +kernel
theorem dX5_obeysGroup_30 : decode cX5_obeysGroup 30 = .ok (.istore 5, 2) := by decide +kernel
theorem dX5_obeysGroup_32 : decode cX5_obeysGroup 32 = .ok (.bipush 10, 2) := by decide +kernel
theorem dX5_obeysGroup_34 : decode cX5_obeysGroup 34 = .ok (.iload_n 3, 1) := by decide +kernel
theorem dX5_obeysGroup_35 : decode cX5_obeysGroup 35 = .ok (.imul, 1) := by decide +kernel
theorem dX5_obeysGroup_36 : decode cX5_obeysGroup 36 = .ok (.iload 4, 2) := by decide +kernel
theorem dX5_obeysGroup_38 : decode cX5_obeysGroup 38 = .ok (.iadd, 1) := by decide +kernel
theorem dX5_obeysGroup_39 : decode cX5_obeysGroup 39 = .ok (.istore 6, 2) := by decide +kernel
theorem dX5_obeysGroup_41 : decode cX5_obeysGroup 41 = .ok (.bipush 10, 2) := by decide +kernel
theorem dX5_obeysGroup_43 : decode cX5_obeysGroup 43 = .ok (.iload 4, 2) := by decide +kernel
theorem dX5_obeysGroup_45 : decode cX5_obeysGroup 45 = .ok (.imul, 1) := by decide +kernel
theorem dX5_obeysGroup_46 : decode cX5_obeysGroup 46 = .ok (.iload 5, 2) := by decide +kernel
theorem dX5_obeysGroup_48 : decode cX5_obeysGroup 48 = .ok (.iadd, 1) := by decide +kernel
theorem dX5_obeysGroup_49 : decode cX5_obeysGroup 49 = .ok (.istore 7, 2) := by decide +kernel
theorem dX5_obeysGroup_51 : decode cX5_obeysGroup 51 = .ok (.iload_n 1, 1) := by decide +kernel
theorem dX5_obeysGroup_52 : decode cX5_obeysGroup 52 = .ok (.sipush 10000, 3) := by decide +kernel
theorem dX5_obeysGroup_55 : decode cX5_obeysGroup 55 = .ok (.idiv, 1) := by decide +kernel
theorem dX5_obeysGroup_56 : decode cX5_obeysGroup 56 = .ok (.tableswitch 304 1 9 #[52, 74, 99, 126, 150, 178, 217, 243, 277], 52) := by decide +kernel
theorem dX5_obeysGroup_108 : decode cX5_obeysGroup 108 = .ok (.aload_n 0, 1) := by decide +kernel
theorem dX5_obeysGroup_109 : decode cX5_obeysGroup 109 = .ok (.getfield 26, 3) := by decide +kernel
theorem dX5_obeysGroup_112 : decode cX5_obeysGroup 112 = .ok (.iload_n 2, 1) := by decide +kernel
theorem dX5_obeysGroup_113 : decode cX5_obeysGroup 113 = .ok (.iload 6, 2) := by decide +kernel
theorem dX5_obeysGroup_115 : decode cX5_obeysGroup 115 = .ok (.iload 5, 2) := by decide +kernel
theorem dX5_obeysGroup_117 : decode cX5_obeysGroup 117 = .ok (.invokevirtual 104, 3) := by decide +kernel
theorem dX5_obeysGroup_120 : decode cX5_obeysGroup 120 = .ok (.iconst (-1), 1) := by decide +kernel
theorem dX5_obeysGroup_121 : decode cX5_obeysGroup 121 = .ok (.if_icmp .eq 7, 3) := by decide +kernel
theorem dX5_obeysGroup_124 : decode cX5_obeysGroup 124 = .ok (.iconst 1, 1) := by decide +kernel
theorem dX5_obeysGroup_125 : decode cX5_obeysGroup 125 = .ok (.goto 4, 3) := by decide +kernel
theorem dX5_obeysGroup_128 : decode cX5_obeysGroup 128 = .ok (.iconst 0, 1) := by decide +kernel
theorem dX5_obeysGroup_129 : decode cX5_obeysGroup 129 = .ok (.ireturn, 1) := by decide +kernel
theorem dX5_obeysGroup_130 : decode cX5_obeysGroup 130 = .ok (.iload 5, 2) := by decide +kernel
theorem dX5_obeysGroup_132 : decode cX5_obeysGroup 132 = .ok (.ifCond .ne 21, 3) := by decide +kernel
theorem dX5_obeysGroup_135 : decode cX5_obeysGroup 135 = .ok (.aload_n 0, 1) := by decide +kernel
theorem dX5_obeysGroup_136 : decode cX5_obeysGroup 136 = .ok (.getfield 26, 3) := by decide +kernel
theorem dX5_obeysGroup_139 : decode cX5_obeysGroup 139 = .ok (.iload_n 2, 1) := by decide +kernel
theorem dX5_obeysGroup_140 : decode cX5_obeysGroup 140 = .ok (.iload 6, 2) := by decide +kernel
theorem dX5_obeysGroup_142 : decode cX5_obeysGroup 142 = .ok (.invokevirtual 108, 3) := by decide +kernel
theorem dX5_obeysGroup_145 : decode cX5_obeysGroup 145 = .ok (.iconst (-1), 1) := by decide +kernel
theorem dX5_obeysGroup_146 : decode cX5_obeysGroup 146 = .ok (.if_icmp .eq 7, 3) := by decide +kernel
theorem dX5_obeysGroup_149 : decode cX5_obeysGroup 149 = .ok (.iconst 1, 1) := by decide +kernel
theorem dX5_obeysGroup_150 : decode cX5_obeysGroup 150 = .ok (.goto 4, 3) := by decide +kernel
theorem dX5_obeysGroup_153 : decode cX5_obeysGroup 153 = .ok (.iconst 0, 1) := by decide +kernel
theorem dX5_obeysGroup_154 : decode cX5_obeysGroup 154 = .ok (.ireturn, 1) := by decide +kernel
theorem dX5_obeysGroup_155 : decode cX5_obeysGroup 155 = .ok (.iload_n 2, 1) := by decide +kernel
theorem dX5_obeysGroup_156 : decode cX5_obeysGroup 156 = .ok (.ifCond .ne 24, 3) := by decide +kernel
theorem dX5_obeysGroup_159 : decode cX5_obeysGroup 159 = .ok (.iload_n 3, 1) := by decide +kernel
theorem dX5_obeysGroup_160 : decode cX5_obeysGroup 160 = .ok (.ifCond .ne 20, 3) := by decide +kernel
theorem dX5_obeysGroup_163 : decode cX5_obeysGroup 163 = .ok (.aload_n 0, 1) := by decide +kernel
theorem dX5_obeysGroup_164 : decode cX5_obeysGroup 164 = .ok (.getfield 26, 3) := by decide +kernel
theorem dX5_obeysGroup_167 : decode cX5_obeysGroup 167 = .ok (.iload 7, 2) := by decide +kernel
theorem dX5_obeysGroup_169 : decode cX5_obeysGroup 169 = .ok (.invokevirtual 115, 3) := by decide +kernel
theorem dX5_obeysGroup_172 : decode cX5_obeysGroup 172 = .ok (.iconst (-1), 1) := by decide +kernel
theorem dX5_obeysGroup_173 : decode cX5_obeysGroup 173 = .ok (.if_icmp .eq 7, 3) := by decide +kernel
theorem dX5_obeysGroup_176 : decode cX5_obeysGroup 176 = .ok (.iconst 1, 1) := by decide +kernel
theorem dX5_obeysGroup_177 : decode cX5_obeysGroup 177 = .ok (.goto 4, 3) := by decide +kernel
theorem dX5_obeysGroup_180 : decode cX5_obeysGroup 180 = .ok (.iconst 0, 1) := by decide +kernel
theorem dX5_obeysGroup_181 : decode cX5_obeysGroup 181 = .ok (.ireturn, 1) := by decide +kernel
theorem dX5_obeysGroup_182 : decode cX5_obeysGroup 182 = .ok (.iload_n 3, 1) := by decide +kernel
theorem dX5_obeysGroup_183 : decode cX5_obeysGroup 183 = .ok (.ifCond .ne 21, 3) := by decide +kernel
theorem dX5_obeysGroup_186 : decode cX5_obeysGroup 186 = .ok (.aload_n 0, 1) := by decide +kernel
theorem dX5_obeysGroup_187 : decode cX5_obeysGroup 187 = .ok (.getfield 26, 3) := by decide +kernel
theorem dX5_obeysGroup_190 : decode cX5_obeysGroup 190 = .ok (.iload_n 2, 1) := by decide +kernel
theorem dX5_obeysGroup_191 : decode cX5_obeysGroup 191 = .ok (.iload 7, 2) := by decide +kernel
theorem dX5_obeysGroup_193 : decode cX5_obeysGroup 193 = .ok (.invokevirtual 112, 3) := by decide +kernel
theorem dX5_obeysGroup_196 : decode cX5_obeysGroup 196 = .ok (.iconst (-1), 1) := by decide +kernel
theorem dX5_obeysGroup_197 : decode cX5_obeysGroup 197 = .ok (.if_icmp .eq 7, 3) := by decide +kernel
theorem dX5_obeysGroup_200 : decode cX5_obeysGroup 200 = .ok (.iconst 1, 1) := by decide +kernel
theorem dX5_obeysGroup_201 : decode cX5_obeysGroup 201 = .ok (.goto 4, 3) := by decide +kernel
theorem dX5_obeysGroup_204 : decode cX5_obeysGroup 204 = .ok (.iconst 0, 1) := by decide +kernel
theorem dX5_obeysGroup_205 : decode cX5_obeysGroup 205 = .ok (.ireturn, 1) := by decide +kernel
theorem dX5_obeysGroup_206 : decode cX5_obeysGroup 206 = .ok (.iload_n 2, 1) := by decide +kernel
theorem dX5_obeysGroup_207 : decode cX5_obeysGroup 207 = .ok (.ifCond .ne 25, 3) := by decide +kernel
theorem dX5_obeysGroup_210 : decode cX5_obeysGroup 210 = .ok (.iload 5, 2) := by decide +kernel
theorem dX5_obeysGroup_212 : decode cX5_obeysGroup 212 = .ok (.ifCond .ne 20, 3) := by decide +kernel
theorem dX5_obeysGroup_215 : decode cX5_obeysGroup 215 = .ok (.aload_n 0, 1) := by decide +kernel
theorem dX5_obeysGroup_216 : decode cX5_obeysGroup 216 = .ok (.getfield 26, 3) := by decide +kernel
theorem dX5_obeysGroup_219 : decode cX5_obeysGroup 219 = .ok (.iload 6, 2) := by decide +kernel
theorem dX5_obeysGroup_221 : decode cX5_obeysGroup 221 = .ok (.invokevirtual 119, 3) := by decide +kernel
theorem dX5_obeysGroup_224 : decode cX5_obeysGroup 224 = .ok (.iconst (-1), 1) := by decide +kernel
theorem dX5_obeysGroup_225 : decode cX5_obeysGroup 225 = .ok (.if_icmp .eq 7, 3) := by decide +kernel
theorem dX5_obeysGroup_228 : decode cX5_obeysGroup 228 = .ok (.iconst 1, 1) := by decide +kernel
theorem dX5_obeysGroup_229 : decode cX5_obeysGroup 229 = .ok (.goto 4, 3) := by decide +kernel
theorem dX5_obeysGroup_232 : decode cX5_obeysGroup 232 = .ok (.iconst 0, 1) := by decide +kernel
theorem dX5_obeysGroup_233 : decode cX5_obeysGroup 233 = .ok (.ireturn, 1) := by decide +kernel
theorem dX5_obeysGroup_234 : decode cX5_obeysGroup 234 = .ok (.iload 5, 2) := by decide +kernel
theorem dX5_obeysGroup_236 : decode cX5_obeysGroup 236 = .ok (.ifCond .ne 35, 3) := by decide +kernel
theorem dX5_obeysGroup_239 : decode cX5_obeysGroup 239 = .ok (.iload_n 2, 1) := by decide +kernel
theorem dX5_obeysGroup_240 : decode cX5_obeysGroup 240 = .ok (.invokestatic 154, 3) := by decide +kernel
theorem dX5_obeysGroup_243 : decode cX5_obeysGroup 243 = .ok (.ifCond .eq 28, 3) := by decide +kernel
theorem dX5_obeysGroup_246 : decode cX5_obeysGroup 246 = .ok (.iload 6, 2) := by decide +kernel
theorem dX5_obeysGroup_248 : decode cX5_obeysGroup 248 = .ok (.invokestatic 162, 3) := by decide +kernel
theorem dX5_obeysGroup_251 : decode cX5_obeysGroup 251 = .ok (.ifCond .eq 20, 3) := by decide +kernel
theorem dX5_obeysGroup_254 : decode cX5_obeysGroup 254 = .ok (.aload_n 0, 1) := by decide +kernel
theorem dX5_obeysGroup_255 : decode cX5_obeysGroup 255 = .ok (.getfield 26, 3) := by decide +kernel
theorem dX5_obeysGroup_258 : decode cX5_obeysGroup 258 = .ok (.iload_n 2, 1) := by decide +kernel
theorem dX5_obeysGroup_259 : decode cX5_obeysGroup 259 = .ok (.iload 6, 2) := by decide +kernel
theorem dX5_obeysGroup_261 : decode cX5_obeysGroup 261 = .ok (.invokevirtual 256, 3) := by decide +kernel
theorem dX5_obeysGroup_264 : decode cX5_obeysGroup 264 = .ok (.ifCond .eq 7, 3) := by decide +kernel
theorem dX5_obeysGroup_267 : decode cX5_obeysGroup 267 = .ok (.iconst 1, 1) := by decide +kernel
theorem dX5_obeysGroup_268 : decode cX5_obeysGroup 268 = .ok (.goto 4, 3) := by decide +kernel
theorem dX5_obeysGroup_271 : decode cX5_obeysGroup 271 = .ok (.iconst 0, 1) := by decide +kernel
theorem dX5_obeysGroup_272 : decode cX5_obeysGroup 272 = .ok (.ireturn, 1) := by decide +kernel
theorem dX5_obeysGroup_273 : decode cX5_obeysGroup 273 = .ok (.iload_n 2, 1) := by decide +kernel
theorem dX5_obeysGroup_274 : decode cX5_obeysGroup 274 = .ok (.ifCond .ne 23, 3) := by decide +kernel
theorem dX5_obeysGroup_277 : decode cX5_obeysGroup 277 = .ok (.iload_n 3, 1) := by decide +kernel
theorem dX5_obeysGroup_278 : decode cX5_obeysGroup 278 = .ok (.ifCond .ne 19, 3) := by decide +kernel
theorem dX5_obeysGroup_281 : decode cX5_obeysGroup 281 = .ok (.aload_n 0, 1) := by decide +kernel
theorem dX5_obeysGroup_282 : decode cX5_obeysGroup 282 = .ok (.getfield 26, 3) := by decide +kernel
theorem dX5_obeysGroup_285 : decode cX5_obeysGroup 285 = .ok (.getfield 259, 3) := by decide +kernel
theorem dX5_obeysGroup_288 : decode cX5_obeysGroup 288 = .ok (.iload 7, 2) := by decide +kernel
theorem dX5_obeysGroup_290 : decode cX5_obeysGroup 290 = .ok (.if_icmp .lt 7, 3) := by decide +kernel
theorem dX5_obeysGroup_293 : decode cX5_obeysGroup 293 = .ok (.iconst 1, 1) := by decide +kernel
theorem dX5_obeysGroup_294 : decode cX5_obeysGroup 294 = .ok (.goto 4, 3) := by decide +kernel
theorem dX5_obeysGroup_297 : decode cX5_obeysGroup 297 = .ok (.iconst 0, 1) := by decide +kernel
theorem dX5_obeysGroup_298 : decode cX5_obeysGroup 298 = .ok (.ireturn, 1) := by decide +kernel
theorem dX5_obeysGroup_299 : decode cX5_obeysGroup 299 = .ok (.iload_n 2, 1) := by decide +kernel
theorem dX5_obeysGroup_300 : decode cX5_obeysGroup 300 = .ok (.ifCond .ne 31, 3) := by decide +kernel
theorem dX5_obeysGroup_303 : decode cX5_obeysGroup 303 = .ok (.iload_n 3, 1) := by decide +kernel
theorem dX5_obeysGroup_304 : decode cX5_obeysGroup 304 = .ok (.ifCond .ne 27, 3) := by decide +kernel
theorem dX5_obeysGroup_307 : decode cX5_obeysGroup 307 = .ok (.iload 4, 2) := by decide +kernel
theorem dX5_obeysGroup_309 : decode cX5_obeysGroup 309 = .ok (.ifCond .ne 22, 3) := by decide +kernel
theorem dX5_obeysGroup_312 : decode cX5_obeysGroup 312 = .ok (.aload_n 0, 1) := by decide +kernel
theorem dX5_obeysGroup_313 : decode cX5_obeysGroup 313 = .ok (.getfield 26, 3) := by decide +kernel
theorem dX5_obeysGroup_316 : decode cX5_obeysGroup 316 = .ok (.getfield 147, 3) := by decide +kernel
theorem dX5_obeysGroup_319 : decode cX5_obeysGroup 319 = .ok (.getfield 262, 3) := by decide +kernel
theorem dX5_obeysGroup_322 : decode cX5_obeysGroup 322 = .ok (.iload 5, 2) := by decide +kernel
theorem dX5_obeysGroup_324 : decode cX5_obeysGroup 324 = .ok (.if_icmp .gt 7, 3) := by decide +kernel
theorem dX5_obeysGroup_327 : decode cX5_obeysGroup 327 = .ok (.iconst 1, 1) := by decide +kernel
theorem dX5_obeysGroup_328 : decode cX5_obeysGroup 328 = .ok (.goto 4, 3) := by decide +kernel
theorem dX5_obeysGroup_331 : decode cX5_obeysGroup 331 = .ok (.iconst 0, 1) := by decide +kernel
theorem dX5_obeysGroup_332 : decode cX5_obeysGroup 332 = .ok (.ireturn, 1) := by decide +kernel
theorem dX5_obeysGroup_333 : decode cX5_obeysGroup 333 = .ok (.iload_n 2, 1) := by decide +kernel
theorem dX5_obeysGroup_334 : decode cX5_obeysGroup 334 = .ok (.ifCond .ne 24, 3) := by decide +kernel
theorem dX5_obeysGroup_337 : decode cX5_obeysGroup 337 = .ok (.iload_n 3, 1) := by decide +kernel
theorem dX5_obeysGroup_338 : decode cX5_obeysGroup 338 = .ok (.ifCond .ne 20, 3) := by decide +kernel
theorem dX5_obeysGroup_341 : decode cX5_obeysGroup 341 = .ok (.aload_n 0, 1) := by decide +kernel
theorem dX5_obeysGroup_342 : decode cX5_obeysGroup 342 = .ok (.getfield 26, 3) := by decide +kernel
theorem dX5_obeysGroup_345 : decode cX5_obeysGroup 345 = .ok (.iconst 0, 1) := by decide +kernel
theorem dX5_obeysGroup_346 : decode cX5_obeysGroup 346 = .ok (.invokevirtual 222, 3) := by decide +kernel
theorem dX5_obeysGroup_349 : decode cX5_obeysGroup 349 = .ok (.iload 7, 2) := by decide +kernel
theorem dX5_obeysGroup_351 : decode cX5_obeysGroup 351 = .ok (.if_icmp .ne 7, 3) := by decide +kernel
theorem dX5_obeysGroup_354 : decode cX5_obeysGroup 354 = .ok (.iconst 1, 1) := by decide +kernel
theorem dX5_obeysGroup_355 : decode cX5_obeysGroup 355 = .ok (.goto 4, 3) := by decide +kernel
theorem dX5_obeysGroup_358 : decode cX5_obeysGroup 358 = .ok (.iconst 0, 1) := by decide +kernel
theorem dX5_obeysGroup_359 : decode cX5_obeysGroup 359 = .ok (.ireturn, 1) := by decide +kernel
theorem dX5_obeysGroup_360 : decode cX5_obeysGroup 360 = .ok (.iconst 0, 1) := by decide +kernel
theorem dX5_obeysGroup_361 : decode cX5_obeysGroup 361 = .ok (.ireturn, 1) := by decide +kernel
set_option maxRecDepth 20000 in
theorem ggX5_simulate_X1_copyFrom : GoodIn wsX5_simulate wsX1_copyFrom := goodIn_r _ [11, 12, 13, 14, 15, 16, 17, 18, 19, 20, 21, 22, 23, 24, 25, 26, 27, 28, 29, 30, 31, 32, 33, 34, 35, 36, 37, 38, 39, 40, 41, 42, 43, 44, 45, 46, 173, 174, 175, 176, 177, 178, 179, 180, 181, 182, 183, 184, 185, 186, 187, 188, 189, 190, 191, 192, 193] (by decide +kernel) (by decide +kernel)
set_option maxRecDepth 20000 in
theorem gX5_simulate_X1_copyFrom : GoodIn wsX5_simulate (wsV RX5 72 RX1 yX1_copyFrom wsX1_copyFrom) := goodIn_app (goodIn_of _ (by decide +kernel)) ggX5_simulate_X1_copyFrom
set_option maxRecDepth 20000 in
theorem ggX5_simulate_X5_simulateTurn : GoodIn wsX5_simulate wsX5_simulateTurn := goodIn_r _ [50, 3, 51, 52, 53, 10, 54, 55, 37, 56, 57, 58, 59, 60, 13, 61, 62, 63, 64, 65, 66, 67, 32, 68, 34, 69, 70, 71, 72, 73, 74, 75, 76, 77, 78, 35, 79, 80, 81, 82, 83, 84, 85, 86, 87, 88, 89, 90, 91, 17, 92, 93, 94, 95, 96, 97, 98, 99, 100, 101, 28, 102, 103, 104, 105, 106, 107, 108, 109, 110, 44, 45, 46, 111, 112, 113, 114, 115, 25, 18, 22, 116, 40, 41, 42, 117, 118, 119, 120, 121, 122, 19, 20, 123, 124, 125, 126, 21, 27, 127, 128, 129, 130, 131, 132, 133, 134, 135, 136, 137, 138, 139, 140, 141, 14, 142, 143, 144, 145, 146, 147, 148, 149, 12, 150, 151, 152, 153, 154, 155, 156, 157, 158, 159, 160, 161, 162, 15, 26, 16, 23, 24, 163, 164, 165, 166, 167, 168, 169, 170, 171, 172, 173, 174, 175, 176, 177, 178, 179, 180, 181, 182, 183, 184, 185, 186, 187, 188, 189, 190, 191, 192, 193] (by decide +kernel) (by decide +kernel)
set_option maxRecDepth 20000 in
theorem gX5_simulate_X5_simulateTurn : GoodIn wsX5_simulate (wsV RX5 271 RX5 yX5_simulateTurn wsX5_simulateTurn) := goodIn_app (goodIn_of _ (by decide +kernel)) ggX5_simulate_X5_simulateTurn
theorem dX5_simulate_0 : decode cX5_simulate 0 = .ok (.iload_n 3, 1) := by decide +kernel
theorem dX5_simulate_1 : decode cX5_simulate 1 = .ok (.iconst 1, 1) := by decide +kernel
theorem dX5_simulate_2 : decode cX5_simulate 2 = .ok (.if_icmp .lt 9, 3) := by decide +kernel
theorem dX5_simulate_5 : decode cX5_simulate 5 = .ok (.iload_n 3, 1) := by decide +kernel
theorem dX5_simulate_6 : decode cX5_simulate 6 = .ok (.bipush 60, 2) := by decide +kernel
theorem dX5_simulate_8 : decode cX5_simulate 8 = .ok (.if_icmp .le 14, 3) := by decide +kernel
theorem dX5_simulate_11 : decode cX5_simulate 11 = .ok (.new 43, 3) := by decide +kernel
theorem dX5_simulate_14 : decode cX5_simulate 14 = .ok (.dup, 1) := by decide +kernel
theorem dX5_simulate_15 : decode cX5_simulate 15 = .ok (.ldc_w 265, 3) := by decide +kernel
theorem dX5_simulate_18 : decode cX5_simulate 18 = .ok (.invokespecial 47, 3) := by decide +kernel
theorem dX5_simulate_21 : decode cX5_simulate 21 = .ok (.athrow, 1) := by decide +kernel
theorem dX5_simulate_22 : decode cX5_simulate 22 = .ok (.aload_n 0, 1) := by decide +kernel
theorem dX5_simulate_23 : decode cX5_simulate 23 = .ok (.getfield 26, 3) := by decide +kernel
theorem dX5_simulate_26 : decode cX5_simulate 26 = .ok (.aload_n 0, 1) := by decide +kernel
theorem dX5_simulate_27 : decode cX5_simulate 27 = .ok (.getfield 19, 3) := by decide +kernel
theorem dX5_simulate_30 : decode cX5_simulate 30 = .ok (.invokevirtual 72, 3) := by decide +kernel
theorem dX5_simulate_33 : decode cX5_simulate 33 = .ok (.lload_n 1, 1) := by decide +kernel
theorem dX5_simulate_34 : decode cX5_simulate 34 = .ok (.lstore 4, 2) := by decide +kernel
theorem dX5_simulate_36 : decode cX5_simulate 36 = .ok (.iconst 0, 1) := by decide +kernel
theorem dX5_simulate_37 : decode cX5_simulate 37 = .ok (.istore 6, 2) := by decide +kernel
theorem dX5_simulate_39 : decode cX5_simulate 39 = .ok (.iload 6, 2) := by decide +kernel
theorem dX5_simulate_41 : decode cX5_simulate 41 = .ok (.iload_n 3, 1) := by decide +kernel
theorem dX5_simulate_42 : decode cX5_simulate 42 = .ok (.if_icmp .ge 31, 3) := by decide +kernel
theorem dX5_simulate_45 : decode cX5_simulate 45 = .ok (.lload 4, 2) := by decide +kernel
theorem dX5_simulate_47 : decode cX5_simulate 47 = .ok (.ldc2_w 267, 3) := by decide +kernel
theorem dX5_simulate_50 : decode cX5_simulate 50 = .ok (.lmul, 1) := by decide +kernel
theorem dX5_simulate_51 : decode cX5_simulate 51 = .ok (.ldc2_w 269, 3) := by decide +kernel
theorem dX5_simulate_54 : decode cX5_simulate 54 = .ok (.ladd, 1) := by decide +kernel
theorem dX5_simulate_55 : decode cX5_simulate 55 = .ok (.lstore 4, 2) := by decide +kernel
theorem dX5_simulate_57 : decode cX5_simulate 57 = .ok (.aload_n 0, 1) := by decide +kernel
theorem dX5_simulate_58 : decode cX5_simulate 58 = .ok (.lload 4, 2) := by decide +kernel
theorem dX5_simulate_60 : decode cX5_simulate 60 = .ok (.bipush 33, 2) := by decide +kernel
theorem dX5_simulate_62 : decode cX5_simulate 62 = .ok (.lushr, 1) := by decide +kernel
theorem dX5_simulate_63 : decode cX5_simulate 63 = .ok (.l2i, 1) := by decide +kernel
theorem dX5_simulate_64 : decode cX5_simulate 64 = .ok (.invokevirtual 271, 3) := by decide +kernel
theorem dX5_simulate_67 : decode cX5_simulate 67 = .ok (.iinc 6 1, 3) := by decide +kernel
theorem dX5_simulate_70 : decode cX5_simulate 70 = .ok (.goto (-31), 3) := by decide +kernel
theorem dX5_simulate_73 : decode cX5_simulate 73 = .ok (.aload_n 0, 1) := by decide +kernel
theorem dX5_simulate_74 : decode cX5_simulate 74 = .ok (.getfield 26, 3) := by decide +kernel
theorem dX5_simulate_77 : decode cX5_simulate 77 = .ok (.getfield 275, 3) := by decide +kernel
theorem dX5_simulate_80 : decode cX5_simulate 80 = .ok (.aload_n 0, 1) := by decide +kernel
theorem dX5_simulate_81 : decode cX5_simulate 81 = .ok (.getfield 19, 3) := by decide +kernel
theorem dX5_simulate_84 : decode cX5_simulate 84 = .ok (.getfield 275, 3) := by decide +kernel
theorem dX5_simulate_87 : decode cX5_simulate 87 = .ok (.isub, 1) := by decide +kernel
theorem dX5_simulate_88 : decode cX5_simulate 88 = .ok (.istore 6, 2) := by decide +kernel
theorem dX5_simulate_90 : decode cX5_simulate 90 = .ok (.aload_n 0, 1) := by decide +kernel
theorem dX5_simulate_91 : decode cX5_simulate 91 = .ok (.getfield 26, 3) := by decide +kernel
theorem dX5_simulate_94 : decode cX5_simulate 94 = .ok (.getfield 229, 3) := by decide +kernel
theorem dX5_simulate_97 : decode cX5_simulate 97 = .ok (.aload_n 0, 1) := by decide +kernel
theorem dX5_simulate_98 : decode cX5_simulate 98 = .ok (.getfield 19, 3) := by decide +kernel
theorem dX5_simulate_101 : decode cX5_simulate 101 = .ok (.getfield 229, 3) := by decide +kernel
theorem dX5_simulate_104 : decode cX5_simulate 104 = .ok (.isub, 1) := by decide +kernel
theorem dX5_simulate_105 : decode cX5_simulate 105 = .ok (.istore 7, 2) := by decide +kernel
theorem dX5_simulate_107 : decode cX5_simulate 107 = .ok (.sipush 10000, 3) := by decide +kernel
theorem dX5_simulate_110 : decode cX5_simulate 110 = .ok (.iload 6, 2) := by decide +kernel
theorem dX5_simulate_112 : decode cX5_simulate 112 = .ok (.sipush 10000, 3) := by decide +kernel
theorem dX5_simulate_115 : decode cX5_simulate 115 = .ok (.irem, 1) := by decide +kernel
theorem dX5_simulate_116 : decode cX5_simulate 116 = .ok (.imul, 1) := by decide +kernel
theorem dX5_simulate_117 : decode cX5_simulate 117 = .ok (.bipush 100, 2) := by decide +kernel
theorem dX5_simulate_119 : decode cX5_simulate 119 = .ok (.iload 7, 2) := by decide +kernel
theorem dX5_simulate_121 : decode cX5_simulate 121 = .ok (.bipush 100, 2) := by decide +kernel
theorem dX5_simulate_123 : decode cX5_simulate 123 = .ok (.irem, 1) := by decide +kernel
theorem dX5_simulate_124 : decode cX5_simulate 124 = .ok (.imul, 1) := by decide +kernel
theorem dX5_simulate_125 : decode cX5_simulate 125 = .ok (.iadd, 1) := by decide +kernel
theorem dX5_simulate_126 : decode cX5_simulate 126 = .ok (.aload_n 0, 1) := by decide +kernel
theorem dX5_simulate_127 : decode cX5_simulate 127 = .ok (.getfield 26, 3) := by decide +kernel
theorem dX5_simulate_130 : decode cX5_simulate 130 = .ok (.getfield 127, 3) := by decide +kernel
theorem dX5_simulate_133 : decode cX5_simulate 133 = .ok (.getfield 262, 3) := by decide +kernel
theorem dX5_simulate_136 : decode cX5_simulate 136 = .ok (.iadd, 1) := by decide +kernel
theorem dX5_simulate_137 : decode cX5_simulate 137 = .ok (.ireturn, 1) := by decide +kernel
set_option maxRecDepth 20000 in
theorem ggX5_simulateTurn_X1_orderPut : GoodIn wsX5_simulateTurn wsX1_orderPut := goodIn_r _ [6, 7, 8, 9, 10, 11, 12, 5, 13, 14, 15, 16, 17, 18, 19, 20, 21, 22, 23, 24, 25, 26, 27, 28, 29, 30, 31, 32, 33, 34, 35, 36, 37, 38, 39, 40, 152, 153, 154, 155, 156, 157, 158, 159, 160, 161, 162, 163, 164, 165, 166, 167, 168, 169, 170, 171, 172] (by decide +kernel) (by decide +kernel)
set_option maxRecDepth 20000 in
theorem gX5_simulateTurn_X1_orderPut : GoodIn wsX5_simulateTurn (wsV RX5 104 RX1 yX1_orderPut wsX1_orderPut) := goodIn_app (goodIn_of _ (by decide +kernel)) ggX5_simulateTurn_X1_orderPut
set_option maxRecDepth 20000 in
theorem ggX5_simulateTurn_X1_orderPull : GoodIn wsX5_simulateTurn wsX1_orderPull := goodIn_r _ [44, 10, 11, 12, 5, 13, 14, 15, 8, 16, 17, 18, 19, 20, 21, 22, 23, 24, 25, 26, 27, 28, 29, 30, 31, 32, 33, 34, 35, 36, 37, 38, 39, 40, 152, 153, 154, 155, 156, 157, 158, 159, 160, 161, 162, 163, 164, 165, 166, 167, 168, 169, 170, 171, 172] (by decide +kernel) (by decide +kernel)
set_option maxRecDepth 20000 in
theorem gX5_simulateTurn_X1_orderPull : GoodIn wsX5_simulateTurn (wsV RX5 108 RX1 yX1_orderPull wsX1_orderPull) := goodIn_app (goodIn_of _ (by decide +kernel)) ggX5_simulateTurn_X1_orderPull
set_option maxRecDepth 20000 in
theorem ggX5_simulateTurn_X1_change : GoodIn wsX5_simulateTurn wsX1_change := goodIn_r _ [48, 49, 50, 8, 51, 52, 53, 54, 55, 152, 153, 154, 155, 156, 157, 158, 159, 160, 161, 162, 163, 164, 165, 166, 167, 168] (by decide +kernel) (by decide +kernel)
set_option maxRecDepth 20000 in
theorem gX5_simulateTurn_X1_change : GoodIn wsX5_simulateTurn (wsV RX5 112 RX1 yX1_change wsX1_change) := goodIn_app (goodIn_of _ (by decide +kernel)) ggX5_simulateTurn_X1_change
set_option maxRecDepth 20000 in
theorem ggX5_simulateTurn_X1_dropOrder : GoodIn wsX5_simulateTurn wsX1_dropOrder := goodIn_r _ [59, 14, 60, 61, 62, 63, 22, 64, 24, 65, 66, 67, 68, 36, 35, 69, 70, 71, 72, 73, 152, 153, 154, 155, 156, 157, 158, 159, 160, 161, 162, 163, 164, 165, 166, 167, 168, 169, 170, 171, 172] (by decide +kernel) (by decide +kernel)
set_option maxRecDepth 20000 in
theorem gX5_simulateTurn_X1_dropOrder : GoodIn wsX5_simulateTurn (wsV RX5 119 RX1 yX1_dropOrder wsX1_dropOrder) := goodIn_app (goodIn_of _ (by decide +kernel)) ggX5_simulateTurn_X1_dropOrder
set_option maxRecDepth 20000 in
theorem ggX5_simulateTurn_X1_play : GoodIn wsX5_simulateTurn wsX1_play := goodIn_r _ [77, 78, 79, 80, 49, 81, 82, 83, 84, 85, 8, 86, 87, 88, 89, 5, 90, 91, 92, 93, 94, 95, 96, 14, 97, 98, 99, 100, 101, 102, 103, 104, 105, 22, 106, 35, 36, 37, 38, 39, 40, 25, 107, 108, 109, 110, 111, 112, 113, 114, 15, 16, 31, 32, 33, 34, 115, 116, 117, 118, 119, 120, 121, 122, 123, 124, 125, 126, 127, 19, 20, 21, 23, 24, 26, 27, 28, 29, 30, 128, 129, 130, 131, 65, 66, 67, 68, 69, 70, 71, 72, 73, 62, 63, 64, 132, 57, 58, 59, 60, 61, 133, 134, 135, 136, 137, 138, 139, 140, 141, 142, 143, 144, 145, 152, 153, 154, 155, 156, 157, 158, 159, 160, 161, 162, 163, 164, 165, 166, 167, 168, 169, 170, 171, 172] (by decide +kernel) (by decide +kernel)
set_option maxRecDepth 20000 in
theorem gX5_simulateTurn_X1_play : GoodIn wsX5_simulateTurn (wsV RX5 115 RX1 yX1_play wsX1_play) := goodIn_app (goodIn_of _ (by decide +kernel)) ggX5_simulateTurn_X1_play
theorem dX5_simulateTurn_0 : decode cX5_simulateTurn 0 = .ok (.iload_n 1, 1) := by decide +kernel
theorem dX5_simulateTurn_1 : decode cX5_simulateTurn 1 = .ok (.bipush 8, 2) := by decide +kernel
theorem dX5_simulateTurn_3 : decode cX5_simulateTurn 3 = .ok (.idiv, 1) := by decide +kernel
theorem dX5_simulateTurn_4 : decode cX5_simulateTurn 4 = .ok (.istore_n 2, 1) := by decide +kernel
theorem dX5_simulateTurn_5 : decode cX5_simulateTurn 5 = .ok (.iload_n 1, 1) := by decide +kernel
theorem dX5_simulateTurn_6 : decode cX5_simulateTurn 6 = .ok (.bipush 8, 2) := by decide +kernel
theorem dX5_simulateTurn_8 : decode cX5_simulateTurn 8 = .ok (.irem, 1) := by decide +kernel
theorem dX5_simulateTurn_9 : decode cX5_simulateTurn 9 = .ok (.tableswitch 178 0 5 #[39, 39, 39, 71, 93, 135], 39) := by decide +kernel
theorem dX5_simulateTurn_48 : decode cX5_simulateTurn 48 = .ok (.aload_n 0, 1) := by decide +kernel
theorem dX5_simulateTurn_49 : decode cX5_simulateTurn 49 = .ok (.getfield 26, 3) := by decide +kernel
