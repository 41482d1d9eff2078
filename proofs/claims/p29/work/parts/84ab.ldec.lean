/-! p29: the law's instructions. -/
theorem dL_isFree_0 : decode cL_isFree 0 = .ok (.iconst 1, 1) := by decide +kernel
theorem dL_isFree_1 : decode cL_isFree 1 = .ok (.istore 4, 2) := by decide +kernel
theorem dL_isFree_3 : decode cL_isFree 3 = .ok (.iconst 0, 1) := by decide +kernel
theorem dL_isFree_4 : decode cL_isFree 4 = .ok (.istore 5, 2) := by decide +kernel
theorem dL_isFree_6 : decode cL_isFree 6 = .ok (.iload 5, 2) := by decide +kernel
theorem dL_isFree_8 : decode cL_isFree 8 = .ok (.iload_n 3, 1) := by decide +kernel
theorem dL_isFree_9 : decode cL_isFree 9 = .ok (.if_icmp .ge 43, 3) := by decide +kernel
theorem dL_isFree_12 : decode cL_isFree 12 = .ok (.iload 4, 2) := by decide +kernel
theorem dL_isFree_14 : decode cL_isFree 14 = .ok (.ifCond .eq 29, 3) := by decide +kernel
theorem dL_isFree_17 : decode cL_isFree 17 = .ok (.aload_n 0, 1) := by decide +kernel
theorem dL_isFree_18 : decode cL_isFree 18 = .ok (.bipush 6, 2) := by decide +kernel
theorem dL_isFree_20 : decode cL_isFree 20 = .ok (.iload_n 2, 1) := by decide +kernel
theorem dL_isFree_21 : decode cL_isFree 21 = .ok (.iload 5, 2) := by decide +kernel
theorem dL_isFree_23 : decode cL_isFree 23 = .ok (.iadd, 1) := by decide +kernel
theorem dL_isFree_24 : decode cL_isFree 24 = .ok (.bipush 24, 2) := by decide +kernel
theorem dL_isFree_26 : decode cL_isFree 26 = .ok (.irem, 1) := by decide +kernel
theorem dL_isFree_27 : decode cL_isFree 27 = .ok (.iconst 0, 1) := by decide +kernel
theorem dL_isFree_28 : decode cL_isFree 28 = .ok (.iconst 0, 1) := by decide +kernel
theorem dL_isFree_29 : decode cL_isFree 29 = .ok (.invokestatic 164, 3) := by decide +kernel
theorem dL_isFree_32 : decode cL_isFree 32 = .ok (.iload_n 1, 1) := by decide +kernel
theorem dL_isFree_33 : decode cL_isFree 33 = .ok (.ishr, 1) := by decide +kernel
theorem dL_isFree_34 : decode cL_isFree 34 = .ok (.iconst 1, 1) := by decide +kernel
theorem dL_isFree_35 : decode cL_isFree 35 = .ok (.iand, 1) := by decide +kernel
theorem dL_isFree_36 : decode cL_isFree 36 = .ok (.ifCond .ne 7, 3) := by decide +kernel
theorem dL_isFree_39 : decode cL_isFree 39 = .ok (.iconst 1, 1) := by decide +kernel
theorem dL_isFree_40 : decode cL_isFree 40 = .ok (.goto 4, 3) := by decide +kernel
theorem dL_isFree_43 : decode cL_isFree 43 = .ok (.iconst 0, 1) := by decide +kernel
theorem dL_isFree_44 : decode cL_isFree 44 = .ok (.istore 4, 2) := by decide +kernel
theorem dL_isFree_46 : decode cL_isFree 46 = .ok (.iinc 5 1, 3) := by decide +kernel
theorem dL_isFree_49 : decode cL_isFree 49 = .ok (.goto (-43), 3) := by decide +kernel
theorem dL_isFree_52 : decode cL_isFree 52 = .ok (.iload 4, 2) := by decide +kernel
theorem dL_isFree_54 : decode cL_isFree 54 = .ok (.ireturn, 1) := by decide +kernel
