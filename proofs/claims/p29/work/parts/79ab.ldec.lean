/-! p29: the law's instructions. -/
theorem dL_tryOrder_0 : decode cL_tryOrder 0 = .ok (.aload_n 0, 1) := by decide +kernel
theorem dL_tryOrder_1 : decode cL_tryOrder 1 = .ok (.iload_n 1, 1) := by decide +kernel
theorem dL_tryOrder_2 : decode cL_tryOrder 2 = .ok (.iload_n 2, 1) := by decide +kernel
theorem dL_tryOrder_3 : decode cL_tryOrder 3 = .ok (.invokevirtual 41, 3) := by decide +kernel
theorem dL_tryOrder_6 : decode cL_tryOrder 6 = .ok (.ireturn, 1) := by decide +kernel
theorem dL_tryOrder_7 : decode cL_tryOrder 7 = .ok (.astore_n 3, 1) := by decide +kernel
theorem dL_tryOrder_8 : decode cL_tryOrder 8 = .ok (.ldc 40, 2) := by decide +kernel
theorem dL_tryOrder_10 : decode cL_tryOrder 10 = .ok (.ireturn, 1) := by decide +kernel
theorem dL_tryOrder_11 : decode cL_tryOrder 11 = .ok (.astore_n 3, 1) := by decide +kernel
theorem dL_tryOrder_12 : decode cL_tryOrder 12 = .ok (.ldc 15, 2) := by decide +kernel
theorem dL_tryOrder_14 : decode cL_tryOrder 14 = .ok (.ireturn, 1) := by decide +kernel
theorem dL_tryPipe_0 : decode cL_tryPipe 0 = .ok (.aload_n 0, 1) := by decide +kernel
theorem dL_tryPipe_1 : decode cL_tryPipe 1 = .ok (.iload_n 1, 1) := by decide +kernel
theorem dL_tryPipe_2 : decode cL_tryPipe 2 = .ok (.iload_n 2, 1) := by decide +kernel
theorem dL_tryPipe_3 : decode cL_tryPipe 3 = .ok (.invokevirtual 44, 3) := by decide +kernel
theorem dL_tryPipe_6 : decode cL_tryPipe 6 = .ok (.ireturn, 1) := by decide +kernel
theorem dL_tryPipe_7 : decode cL_tryPipe 7 = .ok (.astore_n 3, 1) := by decide +kernel
theorem dL_tryPipe_8 : decode cL_tryPipe 8 = .ok (.ldc 40, 2) := by decide +kernel
theorem dL_tryPipe_10 : decode cL_tryPipe 10 = .ok (.ireturn, 1) := by decide +kernel
theorem dL_tryPipe_11 : decode cL_tryPipe 11 = .ok (.astore_n 3, 1) := by decide +kernel
theorem dL_tryPipe_12 : decode cL_tryPipe 12 = .ok (.ldc 15, 2) := by decide +kernel
theorem dL_tryPipe_14 : decode cL_tryPipe 14 = .ok (.ireturn, 1) := by decide +kernel
theorem dL_tryChord_0 : decode cL_tryChord 0 = .ok (.aload_n 0, 1) := by decide +kernel
theorem dL_tryChord_1 : decode cL_tryChord 1 = .ok (.iload_n 1, 1) := by decide +kernel
theorem dL_tryChord_2 : decode cL_tryChord 2 = .ok (.invokevirtual 47, 3) := by decide +kernel
theorem dL_tryChord_5 : decode cL_tryChord 5 = .ok (.ireturn, 1) := by decide +kernel
theorem dL_tryChord_6 : decode cL_tryChord 6 = .ok (.astore_n 2, 1) := by decide +kernel
theorem dL_tryChord_7 : decode cL_tryChord 7 = .ok (.ldc 40, 2) := by decide +kernel
theorem dL_tryChord_9 : decode cL_tryChord 9 = .ok (.ireturn, 1) := by decide +kernel
theorem dL_tryCovered_0 : decode cL_tryCovered 0 = .ok (.aload_n 0, 1) := by decide +kernel
theorem dL_tryCovered_1 : decode cL_tryCovered 1 = .ok (.iload_n 1, 1) := by decide +kernel
theorem dL_tryCovered_2 : decode cL_tryCovered 2 = .ok (.invokevirtual 50, 3) := by decide +kernel
theorem dL_tryCovered_5 : decode cL_tryCovered 5 = .ok (.ireturn, 1) := by decide +kernel
theorem dL_tryCovered_6 : decode cL_tryCovered 6 = .ok (.astore_n 2, 1) := by decide +kernel
theorem dL_tryCovered_7 : decode cL_tryCovered 7 = .ok (.ldc 15, 2) := by decide +kernel
theorem dL_tryCovered_9 : decode cL_tryCovered 9 = .ok (.ireturn, 1) := by decide +kernel
theorem dL_trySetting_0 : decode cL_trySetting 0 = .ok (.aload_n 0, 1) := by decide +kernel
theorem dL_trySetting_1 : decode cL_trySetting 1 = .ok (.iload_n 1, 1) := by decide +kernel
theorem dL_trySetting_2 : decode cL_trySetting 2 = .ok (.invokevirtual 53, 3) := by decide +kernel
theorem dL_trySetting_5 : decode cL_trySetting 5 = .ok (.ireturn, 1) := by decide +kernel
theorem dL_trySetting_6 : decode cL_trySetting 6 = .ok (.astore_n 2, 1) := by decide +kernel
theorem dL_trySetting_7 : decode cL_trySetting 7 = .ok (.ldc 15, 2) := by decide +kernel
theorem dL_trySetting_9 : decode cL_trySetting 9 = .ok (.ireturn, 1) := by decide +kernel
theorem dL_tryPut_0 : decode cL_tryPut 0 = .ok (.aload_n 0, 1) := by decide +kernel
theorem dL_tryPut_1 : decode cL_tryPut 1 = .ok (.iload_n 1, 1) := by decide +kernel
theorem dL_tryPut_2 : decode cL_tryPut 2 = .ok (.iload_n 2, 1) := by decide +kernel
theorem dL_tryPut_3 : decode cL_tryPut 3 = .ok (.iload_n 3, 1) := by decide +kernel
theorem dL_tryPut_4 : decode cL_tryPut 4 = .ok (.invokevirtual 56, 3) := by decide +kernel
theorem dL_tryPut_7 : decode cL_tryPut 7 = .ok (.ireturn, 1) := by decide +kernel
theorem dL_tryPut_8 : decode cL_tryPut 8 = .ok (.astore 4, 2) := by decide +kernel
