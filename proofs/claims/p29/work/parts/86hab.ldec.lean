/-! p29: the law's instructions. -/
theorem dL_holds_79 : decode cL_holds 79 = .ok (.iconst 0, 1) := by decide +kernel
theorem dL_holds_80 : decode cL_holds 80 = .ok (.invokestatic 164, 3) := by decide +kernel
theorem dL_holds_83 : decode cL_holds 83 = .ok (.ifCond .lt 21, 3) := by decide +kernel
theorem dL_holds_86 : decode cL_holds 86 = .ok (.aload_n 0, 1) := by decide +kernel
theorem dL_holds_87 : decode cL_holds 87 = .ok (.iconst 2, 1) := by decide +kernel
theorem dL_holds_88 : decode cL_holds 88 = .ok (.bipush 6, 2) := by decide +kernel
theorem dL_holds_90 : decode cL_holds 90 = .ok (.iconst 0, 1) := by decide +kernel
theorem dL_holds_91 : decode cL_holds 91 = .ok (.iconst 0, 1) := by decide +kernel
theorem dL_holds_92 : decode cL_holds 92 = .ok (.invokestatic 164, 3) := by decide +kernel
theorem dL_holds_95 : decode cL_holds 95 = .ok (.bipush 60, 2) := by decide +kernel
theorem dL_holds_97 : decode cL_holds 97 = .ok (.if_icmp .gt 7, 3) := by decide +kernel
theorem dL_holds_100 : decode cL_holds 100 = .ok (.iconst 1, 1) := by decide +kernel
theorem dL_holds_101 : decode cL_holds 101 = .ok (.goto 4, 3) := by decide +kernel
theorem dL_holds_104 : decode cL_holds 104 = .ok (.iconst 0, 1) := by decide +kernel
theorem dL_holds_105 : decode cL_holds 105 = .ok (.istore 9, 2) := by decide +kernel
theorem dL_holds_107 : decode cL_holds 107 = .ok (.iconst 0, 1) := by decide +kernel
theorem dL_holds_108 : decode cL_holds 108 = .ok (.istore 10, 2) := by decide +kernel
theorem dL_holds_110 : decode cL_holds 110 = .ok (.iload 10, 2) := by decide +kernel
theorem dL_holds_112 : decode cL_holds 112 = .ok (.iload_n 2, 1) := by decide +kernel
theorem dL_holds_113 : decode cL_holds 113 = .ok (.if_icmp .ge 155, 3) := by decide +kernel
theorem dL_holds_116 : decode cL_holds 116 = .ok (.iload 9, 2) := by decide +kernel
theorem dL_holds_118 : decode cL_holds 118 = .ok (.ifCond .eq 150, 3) := by decide +kernel
theorem dL_holds_121 : decode cL_holds 121 = .ok (.aload_n 0, 1) := by decide +kernel
theorem dL_holds_122 : decode cL_holds 122 = .ok (.iconst 3, 1) := by decide +kernel
theorem dL_holds_123 : decode cL_holds 123 = .ok (.iload 10, 2) := by decide +kernel
theorem dL_holds_125 : decode cL_holds 125 = .ok (.iconst 0, 1) := by decide +kernel
theorem dL_holds_126 : decode cL_holds 126 = .ok (.iconst 0, 1) := by decide +kernel
theorem dL_holds_127 : decode cL_holds 127 = .ok (.invokestatic 164, 3) := by decide +kernel
theorem dL_holds_130 : decode cL_holds 130 = .ok (.istore 11, 2) := by decide +kernel
theorem dL_holds_132 : decode cL_holds 132 = .ok (.aload_n 0, 1) := by decide +kernel
theorem dL_holds_133 : decode cL_holds 133 = .ok (.iconst 3, 1) := by decide +kernel
theorem dL_holds_134 : decode cL_holds 134 = .ok (.iload 10, 2) := by decide +kernel
theorem dL_holds_136 : decode cL_holds 136 = .ok (.iconst 1, 1) := by decide +kernel
theorem dL_holds_137 : decode cL_holds 137 = .ok (.iconst 0, 1) := by decide +kernel
theorem dL_holds_138 : decode cL_holds 138 = .ok (.invokestatic 164, 3) := by decide +kernel
theorem dL_holds_141 : decode cL_holds 141 = .ok (.istore 12, 2) := by decide +kernel
theorem dL_holds_143 : decode cL_holds 143 = .ok (.aload_n 0, 1) := by decide +kernel
theorem dL_holds_144 : decode cL_holds 144 = .ok (.iconst 3, 1) := by decide +kernel
theorem dL_holds_145 : decode cL_holds 145 = .ok (.iload 10, 2) := by decide +kernel
theorem dL_holds_147 : decode cL_holds 147 = .ok (.iconst 2, 1) := by decide +kernel
theorem dL_holds_148 : decode cL_holds 148 = .ok (.iconst 0, 1) := by decide +kernel
theorem dL_holds_149 : decode cL_holds 149 = .ok (.invokestatic 164, 3) := by decide +kernel
theorem dL_holds_152 : decode cL_holds 152 = .ok (.istore 13, 2) := by decide +kernel
theorem dL_holds_154 : decode cL_holds 154 = .ok (.aload_n 0, 1) := by decide +kernel
theorem dL_holds_155 : decode cL_holds 155 = .ok (.iconst 3, 1) := by decide +kernel
theorem dL_holds_156 : decode cL_holds 156 = .ok (.iload 10, 2) := by decide +kernel
theorem dL_holds_158 : decode cL_holds 158 = .ok (.iconst 3, 1) := by decide +kernel
theorem dL_holds_159 : decode cL_holds 159 = .ok (.iconst 0, 1) := by decide +kernel
theorem dL_holds_160 : decode cL_holds 160 = .ok (.invokestatic 164, 3) := by decide +kernel
theorem dL_holds_163 : decode cL_holds 163 = .ok (.istore 14, 2) := by decide +kernel
