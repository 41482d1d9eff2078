/-! p29: the law's instructions. -/
theorem dL_waits_0 : decode cL_waits 0 = .ok (.iconst 1, 1) := by decide +kernel
theorem dL_waits_1 : decode cL_waits 1 = .ok (.istore_n 3, 1) := by decide +kernel
theorem dL_waits_2 : decode cL_waits 2 = .ok (.iload_n 2, 1) := by decide +kernel
theorem dL_waits_3 : decode cL_waits 3 = .ok (.istore 4, 2) := by decide +kernel
theorem dL_waits_5 : decode cL_waits 5 = .ok (.iload 4, 2) := by decide +kernel
theorem dL_waits_7 : decode cL_waits 7 = .ok (.ifCond .le 67, 3) := by decide +kernel
theorem dL_waits_10 : decode cL_waits 10 = .ok (.iload_n 3, 1) := by decide +kernel
theorem dL_waits_11 : decode cL_waits 11 = .ok (.ifCond .eq 63, 3) := by decide +kernel
theorem dL_waits_14 : decode cL_waits 14 = .ok (.iload 4, 2) := by decide +kernel
theorem dL_waits_16 : decode cL_waits 16 = .ok (.bipush 99, 2) := by decide +kernel
theorem dL_waits_18 : decode cL_waits 18 = .ok (.if_icmp .le 8, 3) := by decide +kernel
theorem dL_waits_21 : decode cL_waits 21 = .ok (.bipush 99, 2) := by decide +kernel
theorem dL_waits_23 : decode cL_waits 23 = .ok (.goto 5, 3) := by decide +kernel
theorem dL_waits_26 : decode cL_waits 26 = .ok (.iload 4, 2) := by decide +kernel
theorem dL_waits_28 : decode cL_waits 28 = .ok (.istore 5, 2) := by decide +kernel
theorem dL_waits_30 : decode cL_waits 30 = .ok (.aload_n 0, 1) := by decide +kernel
theorem dL_waits_31 : decode cL_waits 31 = .ok (.bipush 12, 2) := by decide +kernel
theorem dL_waits_33 : decode cL_waits 33 = .ok (.iload 5, 2) := by decide +kernel
theorem dL_waits_35 : decode cL_waits 35 = .ok (.iconst 0, 1) := by decide +kernel
theorem dL_waits_36 : decode cL_waits 36 = .ok (.iconst 0, 1) := by decide +kernel
theorem dL_waits_37 : decode cL_waits 37 = .ok (.invokestatic 164, 3) := by decide +kernel
theorem dL_waits_40 : decode cL_waits 40 = .ok (.istore 6, 2) := by decide +kernel
theorem dL_waits_42 : decode cL_waits 42 = .ok (.iload 6, 2) := by decide +kernel
theorem dL_waits_44 : decode cL_waits 44 = .ok (.ifCond .lt 22, 3) := by decide +kernel
theorem dL_waits_47 : decode cL_waits 47 = .ok (.aload_n 1, 1) := by decide +kernel
theorem dL_waits_48 : decode cL_waits 48 = .ok (.bipush 12, 2) := by decide +kernel
theorem dL_waits_50 : decode cL_waits 50 = .ok (.iload 5, 2) := by decide +kernel
theorem dL_waits_52 : decode cL_waits 52 = .ok (.iconst 0, 1) := by decide +kernel
theorem dL_waits_53 : decode cL_waits 53 = .ok (.iconst 0, 1) := by decide +kernel
theorem dL_waits_54 : decode cL_waits 54 = .ok (.invokestatic 164, 3) := by decide +kernel
theorem dL_waits_57 : decode cL_waits 57 = .ok (.iload 6, 2) := by decide +kernel
theorem dL_waits_59 : decode cL_waits 59 = .ok (.if_icmp .ne 7, 3) := by decide +kernel
theorem dL_waits_62 : decode cL_waits 62 = .ok (.iconst 1, 1) := by decide +kernel
theorem dL_waits_63 : decode cL_waits 63 = .ok (.goto 4, 3) := by decide +kernel
theorem dL_waits_66 : decode cL_waits 66 = .ok (.iconst 0, 1) := by decide +kernel
theorem dL_waits_67 : decode cL_waits 67 = .ok (.istore_n 3, 1) := by decide +kernel
theorem dL_waits_68 : decode cL_waits 68 = .ok (.iinc 4 (-99), 3) := by decide +kernel
theorem dL_waits_71 : decode cL_waits 71 = .ok (.goto (-66), 3) := by decide +kernel
theorem dL_waits_74 : decode cL_waits 74 = .ok (.iload_n 3, 1) := by decide +kernel
theorem dL_waits_75 : decode cL_waits 75 = .ok (.ireturn, 1) := by decide +kernel
theorem dL_undoes_0 : decode cL_undoes 0 = .ok (.iconst 1, 1) := by decide +kernel
theorem dL_undoes_1 : decode cL_undoes 1 = .ok (.istore_n 3, 1) := by decide +kernel
theorem dL_undoes_2 : decode cL_undoes 2 = .ok (.iload_n 2, 1) := by decide +kernel
theorem dL_undoes_3 : decode cL_undoes 3 = .ok (.istore 4, 2) := by decide +kernel
theorem dL_undoes_5 : decode cL_undoes 5 = .ok (.iload 4, 2) := by decide +kernel
theorem dL_undoes_7 : decode cL_undoes 7 = .ok (.ifCond .le 49, 3) := by decide +kernel
theorem dL_undoes_10 : decode cL_undoes 10 = .ok (.iload_n 3, 1) := by decide +kernel
theorem dL_undoes_11 : decode cL_undoes 11 = .ok (.ifCond .eq 45, 3) := by decide +kernel
theorem dL_undoes_14 : decode cL_undoes 14 = .ok (.aload_n 0, 1) := by decide +kernel
theorem dL_undoes_15 : decode cL_undoes 15 = .ok (.bipush 14, 2) := by decide +kernel
