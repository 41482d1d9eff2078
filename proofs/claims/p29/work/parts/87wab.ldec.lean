/-! p29: the law's instructions. -/
theorem dL_undoes_17 : decode cL_undoes 17 = .ok (.iconst 0, 1) := by decide +kernel
theorem dL_undoes_18 : decode cL_undoes 18 = .ok (.iconst 0, 1) := by decide +kernel
theorem dL_undoes_19 : decode cL_undoes 19 = .ok (.iconst 0, 1) := by decide +kernel
theorem dL_undoes_20 : decode cL_undoes 20 = .ok (.invokestatic 164, 3) := by decide +kernel
theorem dL_undoes_23 : decode cL_undoes 23 = .ok (.invokestatic 214, 3) := by decide +kernel
theorem dL_undoes_26 : decode cL_undoes 26 = .ok (.ifCond .ne 22, 3) := by decide +kernel
theorem dL_undoes_29 : decode cL_undoes 29 = .ok (.aload_n 1, 1) := by decide +kernel
theorem dL_undoes_30 : decode cL_undoes 30 = .ok (.bipush 14, 2) := by decide +kernel
theorem dL_undoes_32 : decode cL_undoes 32 = .ok (.iconst 0, 1) := by decide +kernel
theorem dL_undoes_33 : decode cL_undoes 33 = .ok (.iconst 0, 1) := by decide +kernel
theorem dL_undoes_34 : decode cL_undoes 34 = .ok (.iconst 0, 1) := by decide +kernel
theorem dL_undoes_35 : decode cL_undoes 35 = .ok (.invokestatic 164, 3) := by decide +kernel
theorem dL_undoes_38 : decode cL_undoes 38 = .ok (.invokestatic 214, 3) := by decide +kernel
theorem dL_undoes_41 : decode cL_undoes 41 = .ok (.ifCond .ne 7, 3) := by decide +kernel
theorem dL_undoes_44 : decode cL_undoes 44 = .ok (.iconst 1, 1) := by decide +kernel
theorem dL_undoes_45 : decode cL_undoes 45 = .ok (.goto 4, 3) := by decide +kernel
theorem dL_undoes_48 : decode cL_undoes 48 = .ok (.iconst 0, 1) := by decide +kernel
theorem dL_undoes_49 : decode cL_undoes 49 = .ok (.istore_n 3, 1) := by decide +kernel
theorem dL_undoes_50 : decode cL_undoes 50 = .ok (.iinc 4 (-99), 3) := by decide +kernel
theorem dL_undoes_53 : decode cL_undoes 53 = .ok (.goto (-48), 3) := by decide +kernel
theorem dL_undoes_56 : decode cL_undoes 56 = .ok (.iload_n 3, 1) := by decide +kernel
theorem dL_undoes_57 : decode cL_undoes 57 = .ok (.ireturn, 1) := by decide +kernel
