/-! p29: the law's instructions. -/
theorem dL_tryDone_5 : decode cL_tryDone 5 = .ok (.ireturn, 1) := by decide +kernel
theorem dL_tryDone_6 : decode cL_tryDone 6 = .ok (.astore_n 2, 1) := by decide +kernel
theorem dL_tryDone_7 : decode cL_tryDone 7 = .ok (.ldc 40, 2) := by decide +kernel
theorem dL_tryDone_9 : decode cL_tryDone 9 = .ok (.ireturn, 1) := by decide +kernel
theorem dL_trySounds_0 : decode cL_trySounds 0 = .ok (.aload_n 0, 1) := by decide +kernel
theorem dL_trySounds_1 : decode cL_trySounds 1 = .ok (.iload_n 1, 1) := by decide +kernel
theorem dL_trySounds_2 : decode cL_trySounds 2 = .ok (.invokevirtual 78, 3) := by decide +kernel
theorem dL_trySounds_5 : decode cL_trySounds 5 = .ok (.ireturn, 1) := by decide +kernel
theorem dL_trySounds_6 : decode cL_trySounds 6 = .ok (.astore_n 2, 1) := by decide +kernel
theorem dL_trySounds_7 : decode cL_trySounds 7 = .ok (.ldc 40, 2) := by decide +kernel
theorem dL_trySounds_9 : decode cL_trySounds 9 = .ok (.ireturn, 1) := by decide +kernel
theorem dL_tryLeast_0 : decode cL_tryLeast 0 = .ok (.aload_n 0, 1) := by decide +kernel
theorem dL_tryLeast_1 : decode cL_tryLeast 1 = .ok (.iload_n 1, 1) := by decide +kernel
theorem dL_tryLeast_2 : decode cL_tryLeast 2 = .ok (.invokevirtual 81, 3) := by decide +kernel
theorem dL_tryLeast_5 : decode cL_tryLeast 5 = .ok (.ireturn, 1) := by decide +kernel
theorem dL_tryLeast_6 : decode cL_tryLeast 6 = .ok (.astore_n 2, 1) := by decide +kernel
theorem dL_tryLeast_7 : decode cL_tryLeast 7 = .ok (.ldc 15, 2) := by decide +kernel
theorem dL_tryLeast_9 : decode cL_tryLeast 9 = .ok (.ireturn, 1) := by decide +kernel
theorem dL_tryRoom_0 : decode cL_tryRoom 0 = .ok (.aload_n 0, 1) := by decide +kernel
theorem dL_tryRoom_1 : decode cL_tryRoom 1 = .ok (.iload_n 1, 1) := by decide +kernel
theorem dL_tryRoom_2 : decode cL_tryRoom 2 = .ok (.iload_n 2, 1) := by decide +kernel
theorem dL_tryRoom_3 : decode cL_tryRoom 3 = .ok (.invokevirtual 84, 3) := by decide +kernel
theorem dL_tryRoom_6 : decode cL_tryRoom 6 = .ok (.ireturn, 1) := by decide +kernel
theorem dL_tryRoom_7 : decode cL_tryRoom 7 = .ok (.astore_n 3, 1) := by decide +kernel
theorem dL_tryRoom_8 : decode cL_tryRoom 8 = .ok (.ldc 40, 2) := by decide +kernel
theorem dL_tryRoom_10 : decode cL_tryRoom 10 = .ok (.ireturn, 1) := by decide +kernel
theorem dL_tryRoom_11 : decode cL_tryRoom 11 = .ok (.astore_n 3, 1) := by decide +kernel
theorem dL_tryRoom_12 : decode cL_tryRoom 12 = .ok (.ldc 15, 2) := by decide +kernel
theorem dL_tryRoom_14 : decode cL_tryRoom 14 = .ok (.ireturn, 1) := by decide +kernel
theorem dL_tryKeep_0 : decode cL_tryKeep 0 = .ok (.aload_n 0, 1) := by decide +kernel
theorem dL_tryKeep_1 : decode cL_tryKeep 1 = .ok (.iload_n 1, 1) := by decide +kernel
theorem dL_tryKeep_2 : decode cL_tryKeep 2 = .ok (.invokevirtual 87, 3) := by decide +kernel
theorem dL_tryKeep_5 : decode cL_tryKeep 5 = .ok (.ireturn, 1) := by decide +kernel
theorem dL_tryKeep_6 : decode cL_tryKeep 6 = .ok (.astore_n 2, 1) := by decide +kernel
theorem dL_tryKeep_7 : decode cL_tryKeep 7 = .ok (.ldc 40, 2) := by decide +kernel
theorem dL_tryKeep_9 : decode cL_tryKeep 9 = .ok (.ireturn, 1) := by decide +kernel
theorem dL_tryBack_0 : decode cL_tryBack 0 = .ok (.aload_n 0, 1) := by decide +kernel
theorem dL_tryBack_1 : decode cL_tryBack 1 = .ok (.iload_n 1, 1) := by decide +kernel
theorem dL_tryBack_2 : decode cL_tryBack 2 = .ok (.invokevirtual 90, 3) := by decide +kernel
theorem dL_tryBack_5 : decode cL_tryBack 5 = .ok (.ireturn, 1) := by decide +kernel
theorem dL_tryBack_6 : decode cL_tryBack 6 = .ok (.astore_n 2, 1) := by decide +kernel
theorem dL_tryBack_7 : decode cL_tryBack 7 = .ok (.ldc 40, 2) := by decide +kernel
theorem dL_tryBack_9 : decode cL_tryBack 9 = .ok (.ireturn, 1) := by decide +kernel
theorem dL_tryBack_10 : decode cL_tryBack 10 = .ok (.astore_n 2, 1) := by decide +kernel
theorem dL_tryBack_11 : decode cL_tryBack 11 = .ok (.ldc 26, 2) := by decide +kernel
theorem dL_tryBack_13 : decode cL_tryBack 13 = .ok (.ireturn, 1) := by decide +kernel
theorem dL_call_0 : decode cL_call 0 = .ok (.iload_n 1, 1) := by decide +kernel
theorem dL_call_1 : decode cL_call 1 = .ok (.tableswitch 222 0 19 #[95, 101, 106, 112, 119, 126, 133, 139, 145, 151, 160, 167, 173, 179, 186, 191, 197, 203, 209, 216], 95) := by decide +kernel
theorem dL_call_96 : decode cL_call 96 = .ok (.aload_n 0, 1) := by decide +kernel
theorem dL_call_97 : decode cL_call 97 = .ok (.iload_n 2, 1) := by decide +kernel
