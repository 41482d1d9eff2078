/-! p29: the law's instructions. -/
theorem dL_waits_75 : decode cL_waits 75 = .ok (.ireturn, 1) := by decide +kernel
theorem dL_undoes_0 : decode cL_undoes 0 = .ok (.iconst 1, 1) := by decide +kernel
theorem dL_undoes_1 : decode cL_undoes 1 = .ok (.istore_n 3, 1) := by decide +kernel
theorem dL_undoes_2 : decode cL_undoes 2 = .ok (.iload_n 2, 1) := by decide +kernel
theorem dL_undoes_3 : decode cL_undoes 3 = .ok (.istore 4, 2) := by decide +kernel
theorem dL_undoes_5 : decode cL_undoes 5 = .ok (.iload 4, 2) := by decide +kernel
theorem dL_undoes_7 : decode cL_undoes 7 = .ok (.ifCond .le 49, 3) := by decide +kernel
theorem dL_undoes_10 : decode cL_undoes 10 = .ok (.iload_n 3, 1) := by decide +kernel
theorem dL_undoes_11 : decode cL_undoes 11 = .ok (.ifCond .eq 45, 3) := by decide +kernel
theorem dL_undoes_14 : decode cL_undoes 14 = .ok (.aload_n 0, 1) := by decide +kernel
theorem dL_undoes_15 : decode cL_undoes 15 = .ok (.bipush 14, 2) := by decide +kernel
theorem dL_undoes_17 : decode cL_undoes 17 = .ok (.iconst 0, 1) := by decide +kernel
theorem dL_undoes_18 : decode cL_undoes 18 = .ok (.iconst 0, 1) := by decide +kernel
theorem dL_undoes_19 : decode cL_undoes 19 = .ok (.iconst 0, 1) := by decide +kernel
theorem dL_undoes_20 : decode cL_undoes 20 = .ok (.invokestatic 164, 3) := by decide +kernel
theorem dL_undoes_23 : decode cL_undoes 23 = .ok (.invokestatic 214, 3) := by decide +kernel
theorem dL_undoes_26 : decode cL_undoes 26 = .ok (.ifCond .ne 22, 3) := by decide +kernel
theorem dL_undoes_29 : decode cL_undoes 29 = .ok (.aload_n 1, 1) := by decide +kernel
theorem dL_undoes_30 : decode cL_undoes 30 = .ok (.bipush 14, 2) := by decide +kernel
theorem dL_undoes_32 : decode cL_undoes 32 = .ok (.iconst 0, 1) := by decide +kernel
theorem dL_undoes_33 : decode cL_undoes 33 = .ok (.iconst 0, 1) := by decide +kernel
theorem dL_undoes_34 : decode cL_undoes 34 = .ok (.iconst 0, 1) := by decide +kernel
theorem dL_undoes_35 : decode cL_undoes 35 = .ok (.invokestatic 164, 3) := by decide +kernel
theorem dL_undoes_38 : decode cL_undoes 38 = .ok (.invokestatic 214, 3) := by decide +kernel
theorem dL_undoes_41 : decode cL_undoes 41 = .ok (.ifCond .ne 7, 3) := by decide +kernel
theorem dL_undoes_44 : decode cL_undoes 44 = .ok (.iconst 1, 1) := by decide +kernel
theorem dL_undoes_45 : decode cL_undoes 45 = .ok (.goto 4, 3) := by decide +kernel
theorem dL_undoes_48 : decode cL_undoes 48 = .ok (.iconst 0, 1) := by decide +kernel
theorem dL_undoes_49 : decode cL_undoes 49 = .ok (.istore_n 3, 1) := by decide +kernel
theorem dL_undoes_50 : decode cL_undoes 50 = .ok (.iinc 4 (-99), 3) := by decide +kernel
theorem dL_undoes_53 : decode cL_undoes 53 = .ok (.goto (-48), 3) := by decide +kernel
theorem dL_undoes_56 : decode cL_undoes 56 = .ok (.iload_n 3, 1) := by decide +kernel
theorem dL_undoes_57 : decode cL_undoes 57 = .ok (.ireturn, 1) := by decide +kernel
theorem dL_goes_0 : decode cL_goes 0 = .ok (.iload_n 2, 1) := by decide +kernel
theorem dL_goes_1 : decode cL_goes 1 = .ok (.bipush 6, 2) := by decide +kernel
theorem dL_goes_3 : decode cL_goes 3 = .ok (.irem, 1) := by decide +kernel
theorem dL_goes_4 : decode cL_goes 4 = .ok (.istore_n 3, 1) := by decide +kernel
theorem dL_goes_5 : decode cL_goes 5 = .ok (.aload_n 0, 1) := by decide +kernel
theorem dL_goes_6 : decode cL_goes 6 = .ok (.iconst 5, 1) := by decide +kernel
theorem dL_goes_7 : decode cL_goes 7 = .ok (.iload_n 3, 1) := by decide +kernel
theorem dL_goes_8 : decode cL_goes 8 = .ok (.iconst 3, 1) := by decide +kernel
theorem dL_goes_9 : decode cL_goes 9 = .ok (.iconst 0, 1) := by decide +kernel
theorem dL_goes_10 : decode cL_goes 10 = .ok (.invokestatic 164, 3) := by decide +kernel
theorem dL_goes_13 : decode cL_goes 13 = .ok (.istore 4, 2) := by decide +kernel
theorem dL_goes_15 : decode cL_goes 15 = .ok (.aload_n 0, 1) := by decide +kernel
theorem dL_goes_16 : decode cL_goes 16 = .ok (.bipush 16, 2) := by decide +kernel
theorem dL_goes_18 : decode cL_goes 18 = .ok (.iload_n 3, 1) := by decide +kernel
theorem dL_goes_19 : decode cL_goes 19 = .ok (.iconst 0, 1) := by decide +kernel
theorem dL_goes_20 : decode cL_goes 20 = .ok (.iconst 0, 1) := by decide +kernel
theorem dL_goes_21 : decode cL_goes 21 = .ok (.invokestatic 164, 3) := by decide +kernel
