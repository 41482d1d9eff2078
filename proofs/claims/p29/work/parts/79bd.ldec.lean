/-! p29: the law's instructions. -/
theorem dL_act_274 : decode cL_act 274 = .ok (.iconst 0, 1) := by decide +kernel
theorem dL_act_275 : decode cL_act 275 = .ok (.iconst 0, 1) := by decide +kernel
theorem dL_act_276 : decode cL_act 276 = .ok (.invokestatic 164, 3) := by decide +kernel
theorem dL_act_279 : decode cL_act 279 = .ok (.goto 16, 3) := by decide +kernel
theorem dL_act_282 : decode cL_act 282 = .ok (.aload_n 0, 1) := by decide +kernel
theorem dL_act_283 : decode cL_act 283 = .ok (.bipush 20, 2) := by decide +kernel
theorem dL_act_285 : decode cL_act 285 = .ok (.iload_n 2, 1) := by decide +kernel
theorem dL_act_286 : decode cL_act 286 = .ok (.iconst 2, 1) := by decide +kernel
theorem dL_act_287 : decode cL_act 287 = .ok (.idiv, 1) := by decide +kernel
theorem dL_act_288 : decode cL_act 288 = .ok (.iconst 2, 1) := by decide +kernel
theorem dL_act_289 : decode cL_act 289 = .ok (.irem, 1) := by decide +kernel
theorem dL_act_290 : decode cL_act 290 = .ok (.iconst 0, 1) := by decide +kernel
theorem dL_act_291 : decode cL_act 291 = .ok (.iconst 0, 1) := by decide +kernel
theorem dL_act_292 : decode cL_act 292 = .ok (.invokestatic 164, 3) := by decide +kernel
theorem dL_act_295 : decode cL_act 295 = .ok (.ireturn, 1) := by decide +kernel
theorem dL_act_296 : decode cL_act 296 = .ok (.aload_n 0, 1) := by decide +kernel
theorem dL_act_297 : decode cL_act 297 = .ok (.bipush 12, 2) := by decide +kernel
theorem dL_act_299 : decode cL_act 299 = .ok (.iconst 1, 1) := by decide +kernel
theorem dL_act_300 : decode cL_act 300 = .ok (.iload_n 2, 1) := by decide +kernel
theorem dL_act_301 : decode cL_act 301 = .ok (.bipush 12, 2) := by decide +kernel
theorem dL_act_303 : decode cL_act 303 = .ok (.irem, 1) := by decide +kernel
theorem dL_act_304 : decode cL_act 304 = .ok (.iadd, 1) := by decide +kernel
theorem dL_act_305 : decode cL_act 305 = .ok (.iconst 0, 1) := by decide +kernel
theorem dL_act_306 : decode cL_act 306 = .ok (.iconst 0, 1) := by decide +kernel
theorem dL_act_307 : decode cL_act 307 = .ok (.invokestatic 164, 3) := by decide +kernel
theorem dL_act_310 : decode cL_act 310 = .ok (.ireturn, 1) := by decide +kernel
theorem dL_alike_0 : decode cL_alike 0 = .ok (.aload_n 0, 1) := by decide +kernel
theorem dL_alike_1 : decode cL_alike 1 = .ok (.iload_n 2, 1) := by decide +kernel
theorem dL_alike_2 : decode cL_alike 2 = .ok (.i2l, 1) := by decide +kernel
theorem dL_alike_3 : decode cL_alike 3 = .ok (.iconst 1, 1) := by decide +kernel
theorem dL_alike_4 : decode cL_alike 4 = .ok (.iload_n 2, 1) := by decide +kernel
theorem dL_alike_5 : decode cL_alike 5 = .ok (.bipush 30, 2) := by decide +kernel
theorem dL_alike_7 : decode cL_alike 7 = .ok (.irem, 1) := by decide +kernel
theorem dL_alike_8 : decode cL_alike 8 = .ok (.iadd, 1) := by decide +kernel
theorem dL_alike_9 : decode cL_alike 9 = .ok (.invokestatic 174, 3) := by decide +kernel
theorem dL_alike_12 : decode cL_alike 12 = .ok (.aload_n 1, 1) := by decide +kernel
theorem dL_alike_13 : decode cL_alike 13 = .ok (.iload_n 2, 1) := by decide +kernel
theorem dL_alike_14 : decode cL_alike 14 = .ok (.i2l, 1) := by decide +kernel
theorem dL_alike_15 : decode cL_alike 15 = .ok (.iconst 1, 1) := by decide +kernel
theorem dL_alike_16 : decode cL_alike 16 = .ok (.iload_n 2, 1) := by decide +kernel
theorem dL_alike_17 : decode cL_alike 17 = .ok (.bipush 30, 2) := by decide +kernel
theorem dL_alike_19 : decode cL_alike 19 = .ok (.irem, 1) := by decide +kernel
theorem dL_alike_20 : decode cL_alike 20 = .ok (.iadd, 1) := by decide +kernel
theorem dL_alike_21 : decode cL_alike 21 = .ok (.invokestatic 174, 3) := by decide +kernel
theorem dL_alike_24 : decode cL_alike 24 = .ok (.if_icmp .ne 18, 3) := by decide +kernel
theorem dL_alike_27 : decode cL_alike 27 = .ok (.aload_n 0, 1) := by decide +kernel
theorem dL_alike_28 : decode cL_alike 28 = .ok (.invokevirtual 178, 3) := by decide +kernel
theorem dL_alike_31 : decode cL_alike 31 = .ok (.aload_n 1, 1) := by decide +kernel
theorem dL_alike_32 : decode cL_alike 32 = .ok (.invokevirtual 178, 3) := by decide +kernel
theorem dL_alike_35 : decode cL_alike 35 = .ok (.if_icmp .ne 7, 3) := by decide +kernel
