/-! p29: the law's instructions. -/
theorem dL_alike_77 : decode cL_alike 77 = .ok (.invokestatic 164, 3) := by decide +kernel
theorem dL_alike_80 : decode cL_alike 80 = .ok (.if_icmp .ne 124, 3) := by decide +kernel
theorem dL_alike_83 : decode cL_alike 83 = .ok (.aload_n 0, 1) := by decide +kernel
theorem dL_alike_84 : decode cL_alike 84 = .ok (.iconst 2, 1) := by decide +kernel
theorem dL_alike_85 : decode cL_alike 85 = .ok (.iload 4, 2) := by decide +kernel
theorem dL_alike_87 : decode cL_alike 87 = .ok (.iconst 0, 1) := by decide +kernel
theorem dL_alike_88 : decode cL_alike 88 = .ok (.iconst 0, 1) := by decide +kernel
theorem dL_alike_89 : decode cL_alike 89 = .ok (.invokestatic 164, 3) := by decide +kernel
theorem dL_alike_92 : decode cL_alike 92 = .ok (.aload_n 1, 1) := by decide +kernel
theorem dL_alike_93 : decode cL_alike 93 = .ok (.iconst 2, 1) := by decide +kernel
theorem dL_alike_94 : decode cL_alike 94 = .ok (.iload 4, 2) := by decide +kernel
theorem dL_alike_96 : decode cL_alike 96 = .ok (.iconst 0, 1) := by decide +kernel
theorem dL_alike_97 : decode cL_alike 97 = .ok (.iconst 0, 1) := by decide +kernel
theorem dL_alike_98 : decode cL_alike 98 = .ok (.invokestatic 164, 3) := by decide +kernel
theorem dL_alike_101 : decode cL_alike 101 = .ok (.if_icmp .ne 103, 3) := by decide +kernel
theorem dL_alike_104 : decode cL_alike 104 = .ok (.aload_n 0, 1) := by decide +kernel
theorem dL_alike_105 : decode cL_alike 105 = .ok (.iconst 4, 1) := by decide +kernel
theorem dL_alike_106 : decode cL_alike 106 = .ok (.iload 4, 2) := by decide +kernel
theorem dL_alike_108 : decode cL_alike 108 = .ok (.iload_n 2, 1) := by decide +kernel
theorem dL_alike_109 : decode cL_alike 109 = .ok (.iconst 5, 1) := by decide +kernel
theorem dL_alike_110 : decode cL_alike 110 = .ok (.irem, 1) := by decide +kernel
theorem dL_alike_111 : decode cL_alike 111 = .ok (.iconst 0, 1) := by decide +kernel
theorem dL_alike_112 : decode cL_alike 112 = .ok (.invokestatic 164, 3) := by decide +kernel
theorem dL_alike_115 : decode cL_alike 115 = .ok (.aload_n 1, 1) := by decide +kernel
theorem dL_alike_116 : decode cL_alike 116 = .ok (.iconst 4, 1) := by decide +kernel
theorem dL_alike_117 : decode cL_alike 117 = .ok (.iload 4, 2) := by decide +kernel
theorem dL_alike_119 : decode cL_alike 119 = .ok (.iload_n 2, 1) := by decide +kernel
theorem dL_alike_120 : decode cL_alike 120 = .ok (.iconst 5, 1) := by decide +kernel
theorem dL_alike_121 : decode cL_alike 121 = .ok (.irem, 1) := by decide +kernel
theorem dL_alike_122 : decode cL_alike 122 = .ok (.iconst 0, 1) := by decide +kernel
theorem dL_alike_123 : decode cL_alike 123 = .ok (.invokestatic 164, 3) := by decide +kernel
theorem dL_alike_126 : decode cL_alike 126 = .ok (.if_icmp .ne 78, 3) := by decide +kernel
theorem dL_alike_129 : decode cL_alike 129 = .ok (.aload_n 0, 1) := by decide +kernel
theorem dL_alike_130 : decode cL_alike 130 = .ok (.bipush 6, 2) := by decide +kernel
theorem dL_alike_132 : decode cL_alike 132 = .ok (.iload 4, 2) := by decide +kernel
theorem dL_alike_134 : decode cL_alike 134 = .ok (.iconst 0, 1) := by decide +kernel
theorem dL_alike_135 : decode cL_alike 135 = .ok (.iconst 0, 1) := by decide +kernel
theorem dL_alike_136 : decode cL_alike 136 = .ok (.invokestatic 164, 3) := by decide +kernel
theorem dL_alike_139 : decode cL_alike 139 = .ok (.aload_n 1, 1) := by decide +kernel
theorem dL_alike_140 : decode cL_alike 140 = .ok (.bipush 6, 2) := by decide +kernel
theorem dL_alike_142 : decode cL_alike 142 = .ok (.iload 4, 2) := by decide +kernel
theorem dL_alike_144 : decode cL_alike 144 = .ok (.iconst 0, 1) := by decide +kernel
theorem dL_alike_145 : decode cL_alike 145 = .ok (.iconst 0, 1) := by decide +kernel
theorem dL_alike_146 : decode cL_alike 146 = .ok (.invokestatic 164, 3) := by decide +kernel
theorem dL_alike_149 : decode cL_alike 149 = .ok (.if_icmp .ne 55, 3) := by decide +kernel
theorem dL_alike_152 : decode cL_alike 152 = .ok (.aload_n 0, 1) := by decide +kernel
theorem dL_alike_153 : decode cL_alike 153 = .ok (.iconst 5, 1) := by decide +kernel
theorem dL_alike_154 : decode cL_alike 154 = .ok (.iload 4, 2) := by decide +kernel
theorem dL_alike_156 : decode cL_alike 156 = .ok (.iload_n 2, 1) := by decide +kernel
theorem dL_alike_157 : decode cL_alike 157 = .ok (.iconst 5, 1) := by decide +kernel
