/-! p29: the law's instructions. -/
theorem dL_tryPut_10 : decode cL_tryPut 10 = .ok (.ldc 40, 2) := by decide +kernel
theorem dL_tryPut_12 : decode cL_tryPut 12 = .ok (.ireturn, 1) := by decide +kernel
theorem dL_tryPut_13 : decode cL_tryPut 13 = .ok (.astore 4, 2) := by decide +kernel
theorem dL_tryPut_15 : decode cL_tryPut 15 = .ok (.ldc 15, 2) := by decide +kernel
theorem dL_tryPut_17 : decode cL_tryPut 17 = .ok (.ireturn, 1) := by decide +kernel
theorem dL_tryPut_18 : decode cL_tryPut 18 = .ok (.astore 4, 2) := by decide +kernel
theorem dL_tryPut_20 : decode cL_tryPut 20 = .ok (.ldc 26, 2) := by decide +kernel
theorem dL_tryPut_22 : decode cL_tryPut 22 = .ok (.ireturn, 1) := by decide +kernel
theorem dL_tryPull_0 : decode cL_tryPull 0 = .ok (.aload_n 0, 1) := by decide +kernel
theorem dL_tryPull_1 : decode cL_tryPull 1 = .ok (.iload_n 1, 1) := by decide +kernel
theorem dL_tryPull_2 : decode cL_tryPull 2 = .ok (.iload_n 2, 1) := by decide +kernel
theorem dL_tryPull_3 : decode cL_tryPull 3 = .ok (.invokevirtual 60, 3) := by decide +kernel
theorem dL_tryPull_6 : decode cL_tryPull 6 = .ok (.ireturn, 1) := by decide +kernel
theorem dL_tryPull_7 : decode cL_tryPull 7 = .ok (.astore_n 3, 1) := by decide +kernel
theorem dL_tryPull_8 : decode cL_tryPull 8 = .ok (.ldc 40, 2) := by decide +kernel
theorem dL_tryPull_10 : decode cL_tryPull 10 = .ok (.ireturn, 1) := by decide +kernel
theorem dL_tryPull_11 : decode cL_tryPull 11 = .ok (.astore_n 3, 1) := by decide +kernel
theorem dL_tryPull_12 : decode cL_tryPull 12 = .ok (.ldc 26, 2) := by decide +kernel
theorem dL_tryPull_14 : decode cL_tryPull 14 = .ok (.ireturn, 1) := by decide +kernel
theorem dL_tryCancel_0 : decode cL_tryCancel 0 = .ok (.aload_n 0, 1) := by decide +kernel
theorem dL_tryCancel_1 : decode cL_tryCancel 1 = .ok (.iload_n 1, 1) := by decide +kernel
theorem dL_tryCancel_2 : decode cL_tryCancel 2 = .ok (.invokevirtual 63, 3) := by decide +kernel
theorem dL_tryCancel_5 : decode cL_tryCancel 5 = .ok (.ireturn, 1) := by decide +kernel
theorem dL_tryCancel_6 : decode cL_tryCancel 6 = .ok (.astore_n 2, 1) := by decide +kernel
theorem dL_tryCancel_7 : decode cL_tryCancel 7 = .ok (.ldc 40, 2) := by decide +kernel
theorem dL_tryCancel_9 : decode cL_tryCancel 9 = .ok (.ireturn, 1) := by decide +kernel
theorem dL_tryTicks_0 : decode cL_tryTicks 0 = .ok (.aload_n 0, 1) := by decide +kernel
theorem dL_tryTicks_1 : decode cL_tryTicks 1 = .ok (.iload_n 1, 1) := by decide +kernel
theorem dL_tryTicks_2 : decode cL_tryTicks 2 = .ok (.invokevirtual 66, 3) := by decide +kernel
theorem dL_tryTicks_5 : decode cL_tryTicks 5 = .ok (.ireturn, 1) := by decide +kernel
theorem dL_tryTicks_6 : decode cL_tryTicks 6 = .ok (.astore_n 2, 1) := by decide +kernel
theorem dL_tryTicks_7 : decode cL_tryTicks 7 = .ok (.ldc 15, 2) := by decide +kernel
theorem dL_tryTicks_9 : decode cL_tryTicks 9 = .ok (.ireturn, 1) := by decide +kernel
theorem dL_tryLay_0 : decode cL_tryLay 0 = .ok (.aload_n 0, 1) := by decide +kernel
theorem dL_tryLay_1 : decode cL_tryLay 1 = .ok (.iload_n 1, 1) := by decide +kernel
theorem dL_tryLay_2 : decode cL_tryLay 2 = .ok (.iload_n 2, 1) := by decide +kernel
theorem dL_tryLay_3 : decode cL_tryLay 3 = .ok (.invokevirtual 69, 3) := by decide +kernel
theorem dL_tryLay_6 : decode cL_tryLay 6 = .ok (.ireturn, 1) := by decide +kernel
theorem dL_tryLay_7 : decode cL_tryLay 7 = .ok (.astore_n 3, 1) := by decide +kernel
theorem dL_tryLay_8 : decode cL_tryLay 8 = .ok (.ldc 15, 2) := by decide +kernel
theorem dL_tryLay_10 : decode cL_tryLay 10 = .ok (.ireturn, 1) := by decide +kernel
theorem dL_tryUndo_0 : decode cL_tryUndo 0 = .ok (.aload_n 0, 1) := by decide +kernel
theorem dL_tryUndo_1 : decode cL_tryUndo 1 = .ok (.invokevirtual 72, 3) := by decide +kernel
theorem dL_tryUndo_4 : decode cL_tryUndo 4 = .ok (.ireturn, 1) := by decide +kernel
theorem dL_tryUndo_5 : decode cL_tryUndo 5 = .ok (.astore_n 1, 1) := by decide +kernel
theorem dL_tryUndo_6 : decode cL_tryUndo 6 = .ok (.ldc 26, 2) := by decide +kernel
theorem dL_tryUndo_8 : decode cL_tryUndo 8 = .ok (.ireturn, 1) := by decide +kernel
theorem dL_tryDone_0 : decode cL_tryDone 0 = .ok (.aload_n 0, 1) := by decide +kernel
theorem dL_tryDone_1 : decode cL_tryDone 1 = .ok (.iload_n 1, 1) := by decide +kernel
theorem dL_tryDone_2 : decode cL_tryDone 2 = .ok (.invokevirtual 75, 3) := by decide +kernel
