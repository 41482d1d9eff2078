/-! p29: the law's instructions. -/
theorem dL_act_0 : decode cL_act 0 = .ok (.iload_n 1, 1) := by decide +kernel
theorem dL_act_1 : decode cL_act 1 = .ok (.bipush 16, 2) := by decide +kernel
theorem dL_act_3 : decode cL_act 3 = .ok (.idiv, 1) := by decide +kernel
theorem dL_act_4 : decode cL_act 4 = .ok (.istore_n 2, 1) := by decide +kernel
theorem dL_act_5 : decode cL_act 5 = .ok (.aload_n 0, 1) := by decide +kernel
theorem dL_act_6 : decode cL_act 6 = .ok (.iconst 2, 1) := by decide +kernel
theorem dL_act_7 : decode cL_act 7 = .ok (.iconst 0, 1) := by decide +kernel
theorem dL_act_8 : decode cL_act 8 = .ok (.iconst 0, 1) := by decide +kernel
theorem dL_act_9 : decode cL_act 9 = .ok (.iconst 0, 1) := by decide +kernel
theorem dL_act_10 : decode cL_act 10 = .ok (.invokestatic 164, 3) := by decide +kernel
theorem dL_act_13 : decode cL_act 13 = .ok (.istore_n 3, 1) := by decide +kernel
theorem dL_act_14 : decode cL_act 14 = .ok (.iload_n 1, 1) := by decide +kernel
theorem dL_act_15 : decode cL_act 15 = .ok (.bipush 16, 2) := by decide +kernel
theorem dL_act_17 : decode cL_act 17 = .ok (.irem, 1) := by decide +kernel
theorem dL_act_18 : decode cL_act 18 = .ok (.tableswitch 278 0 11 #[62, 62, 62, 62, 62, 90, 90, 153, 166, 178, 216, 242], 62) := by decide +kernel
theorem dL_act_80 : decode cL_act 80 = .ok (.aload_n 0, 1) := by decide +kernel
theorem dL_act_81 : decode cL_act 81 = .ok (.bipush 9, 2) := by decide +kernel
theorem dL_act_83 : decode cL_act 83 = .ok (.iload_n 2, 1) := by decide +kernel
theorem dL_act_84 : decode cL_act 84 = .ok (.bipush 6, 2) := by decide +kernel
theorem dL_act_86 : decode cL_act 86 = .ok (.irem, 1) := by decide +kernel
theorem dL_act_87 : decode cL_act 87 = .ok (.iload_n 2, 1) := by decide +kernel
theorem dL_act_88 : decode cL_act 88 = .ok (.bipush 6, 2) := by decide +kernel
theorem dL_act_90 : decode cL_act 90 = .ok (.idiv, 1) := by decide +kernel
theorem dL_act_91 : decode cL_act 91 = .ok (.bipush 24, 2) := by decide +kernel
theorem dL_act_93 : decode cL_act 93 = .ok (.irem, 1) := by decide +kernel
theorem dL_act_94 : decode cL_act 94 = .ok (.iconst 1, 1) := by decide +kernel
theorem dL_act_95 : decode cL_act 95 = .ok (.iload_n 2, 1) := by decide +kernel
theorem dL_act_96 : decode cL_act 96 = .ok (.sipush 144, 3) := by decide +kernel
theorem dL_act_99 : decode cL_act 99 = .ok (.idiv, 1) := by decide +kernel
theorem dL_act_100 : decode cL_act 100 = .ok (.bipush 6, 2) := by decide +kernel
theorem dL_act_102 : decode cL_act 102 = .ok (.irem, 1) := by decide +kernel
theorem dL_act_103 : decode cL_act 103 = .ok (.iadd, 1) := by decide +kernel
theorem dL_act_104 : decode cL_act 104 = .ok (.invokestatic 164, 3) := by decide +kernel
theorem dL_act_107 : decode cL_act 107 = .ok (.ireturn, 1) := by decide +kernel
theorem dL_act_108 : decode cL_act 108 = .ok (.iload_n 3, 1) := by decide +kernel
theorem dL_act_109 : decode cL_act 109 = .ok (.ifCond .le 43, 3) := by decide +kernel
theorem dL_act_112 : decode cL_act 112 = .ok (.iload_n 2, 1) := by decide +kernel
theorem dL_act_113 : decode cL_act 113 = .ok (.sipush 144, 3) := by decide +kernel
theorem dL_act_116 : decode cL_act 116 = .ok (.idiv, 1) := by decide +kernel
theorem dL_act_117 : decode cL_act 117 = .ok (.iconst 3, 1) := by decide +kernel
theorem dL_act_118 : decode cL_act 118 = .ok (.irem, 1) := by decide +kernel
theorem dL_act_119 : decode cL_act 119 = .ok (.ifCond .le 33, 3) := by decide +kernel
theorem dL_act_122 : decode cL_act 122 = .ok (.aload_n 0, 1) := by decide +kernel
theorem dL_act_123 : decode cL_act 123 = .ok (.bipush 10, 2) := by decide +kernel
theorem dL_act_125 : decode cL_act 125 = .ok (.aload_n 0, 1) := by decide +kernel
theorem dL_act_126 : decode cL_act 126 = .ok (.iconst 3, 1) := by decide +kernel
theorem dL_act_127 : decode cL_act 127 = .ok (.iload_n 2, 1) := by decide +kernel
theorem dL_act_128 : decode cL_act 128 = .ok (.iload_n 3, 1) := by decide +kernel
theorem dL_act_129 : decode cL_act 129 = .ok (.irem, 1) := by decide +kernel
theorem dL_act_130 : decode cL_act 130 = .ok (.iconst 0, 1) := by decide +kernel
