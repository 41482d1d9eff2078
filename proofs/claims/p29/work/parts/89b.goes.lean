/-! p29: the oldest order waits no more when that was told. -/
set_option maxHeartbeats 4000000 in
set_option maxRecDepth 100000 in
theorem goes_3 {p : Program} {l : Launch} {e : Env} {s : State} {m : MethodId} {args : Array Value} {below : List Frame} {meth : Method} {c : Code} {D : va_G} {cs : Nat → ClassId} {A : Nat → Prop} {Q : State → Prop} {ca cb : Nat → Nat → Nat} (hfl : l.stackTraces = false) {k2 : KC} {n M T : Nat} {o : OV} {z k19 : Int32} (hR : RF o k2.1) (h1 : k2.1 1 = nI 1) (he : EI T k2.1) (hT : T + 100 ≤ BIG) (hz : P_done k2.1 z) (hdv : ∀ cv, QR cv k2 → QR (k_X5_doneIn cv 0).2.2 k2 ∧ aX (k_X5_doneIn cv 0) = z) (hE : kE p s m args meth c D cs yL_goes wsN_goes cL_goes 14 (some .boolean) A) (k4 : ∀ t, t ≤ 2 → KX p l e RM_goes s m args below meth c D A 14 Q (f_2 (trm t k2) (trm t k2)) (w_2 cs ca cb) [(9, .int (nI M)), (8, .int 1), (7, .int k19), (0, .ref (ca 0 0)), (1, .ref (cb 0 0)), (2, .int (nI n))] [] 465 120 720) : KX p l e RM_goes s m args below meth c D A 14 Q (f_2 k2 k2) (w_2 cs ca cb) [(9, .int (nI M)), (8, .int 1), (7, .int k19), (0, .ref (ca 0 0)), (1, .ref (cb 0 0)), (2, .int (nI n))] [] 268 70 420 := by
  obtain ⟨hx, hb, hr, hlocks, hml, hown, hts, hK, hA, hG, hnm⟩ := id hE
  have hown : s.vm.findClass RL = some m.cls := hown
  have hBB : BIG = 1000000 := rfl
  have hv0 := he.2.1.2.2
  have ht0 := he.1.2
  refine KX_step (fun H locs ls hl => lv_aload_n hx hb dL_goes_268 rfl (lv_at hl 3 rfl)) ?_
  refine KX_step (fun H locs ls hl => lv_bipush (v := 15) hx hb dL_goes_269 (by decide)) ?_
  refine KX_step (fun H locs ls hl => lv_iconst (v := 0) hx hb dL_goes_271 (by decide)) ?_
  refine KX_step (fun H locs ls hl => lv_iconst (v := 0) hx hb dL_goes_272 (by decide)) ?_
  refine KX_step (fun H locs ls hl => lv_iconst (v := 0) hx hb dL_goes_273 (by decide)) ?_
  refine KX_call (cells2 := 71) (slots2 := 426) (st0 := [.int 0, .int 0, .int 0, .int 15, .ref (ca 0 0)]) (rest := []) hE rfl (sp2a (q_call_15 l hfl D cs ca 0 0 0 hdv)) (va_cwS 5 hts gN_goes_L_call rfl rfl rfl (by decide +kernel) ⟨(Nat.le_of_ble_eq_true rfl), (Nat.le_of_ble_eq_true rfl)⟩) rfl rfl (Nat.le_of_ble_eq_true rfl) ⟨(Nat.le_of_ble_eq_true rfl), (Nat.le_of_ble_eq_true rfl)⟩ dL_goes_274 (Nat.le_of_ble_eq_true rfl) (Nat.le_of_ble_eq_true rfl) ?_
  refine KX_store (lv1 := [(10, .int z), (9, .int (nI M)), (8, .int 1), (7, .int k19), (0, .ref (ca 0 0)), (1, .ref (cb 0 0)), (2, .int (nI n))]) (fun H locs ls hl K => lv_istore hx hb dL_goes_277 hl (by decide) rfl K) ?_
  refine KX_step (fun H locs ls hl => lv_iload hx hb dL_goes_279 (lv_at hl 0 rfl)) ?_
  refine KX_step (fun H locs ls hl => lv_iconst (v := (-1)) hx hb dL_goes_281 (by decide)) ?_
  rcases hz with ⟨u, u1, u2, u3, u4, u5⟩ | ⟨u1, u2⟩
  · subst u3
    obtain ⟨V, X, M2, i1, i2, i3, i4, i5, i6⟩ := one_it (m := u) hR h1 he (by omega)
    have hw1 : (wtk k2 u).1 = itS u k2.1 := wtk_1 (by omega)
    have hM2 : M2 = 0 := (nI_eq (b := 0) (by omega) (by omega)).mp (i3.symm.trans u4)
    refine KX_if (fun H locs ls hl => lv_icmp_ne (tgt := 290) hx hb dL_goes_282 (by decide)) (fun _ => ?_) (fun q => absurd q (nI_nm (by omega)))
    refine KX_step (fun H locs ls hl => lv_iload hx hb dL_goes_290 (lv_at hl 0 rfl)) ?_
    refine KX_store (lv1 := [(11, .int (nI u)), (10, .int (nI u)), (9, .int (nI M)), (8, .int 1), (7, .int k19), (0, .ref (ca 0 0)), (1, .ref (cb 0 0)), (2, .int (nI n))]) (fun H locs ls hl K => lv_istore hx hb dL_goes_292 hl (by decide) rfl K) ?_
    refine KX_step (fun H locs ls hl => lv_aload_n hx hb dL_goes_294 rfl (lv_at hl 5 rfl)) ?_
    refine KX_step (fun H locs ls hl => lv_iconst (v := 2) hx hb dL_goes_295 (by decide)) ?_
    refine KX_step (fun H locs ls hl => lv_iconst (v := 5) hx hb dL_goes_296 (by decide)) ?_
    refine KX_step (fun H locs ls hl => lv_iconst (v := 0) hx hb dL_goes_297 (by decide)) ?_
    refine KX_step (fun H locs ls hl => lv_iconst (v := 0) hx hb dL_goes_298 (by decide)) ?_
    refine KX_call (cells2 := 72) (slots2 := 432) (st0 := [.int 0, .int 0, .int 5, .int 2, .ref (ca 0 0)]) (rest := []) hE rfl (sp2a (q_call_2 l hfl D cs ca 5 0 0 (fun cv hq => (F_about (c := k2) (i := 5) (by omega) cv hq).imp id (fun q => q.trans he.2.1.1)))) (va_cwS 5 hts gN_goes_L_call rfl rfl rfl (by decide +kernel) ⟨(Nat.le_of_ble_eq_true rfl), (Nat.le_of_ble_eq_true rfl)⟩) rfl rfl (Nat.le_of_ble_eq_true rfl) ⟨(Nat.le_of_ble_eq_true rfl), (Nat.le_of_ble_eq_true rfl)⟩ dL_goes_299 (Nat.le_of_ble_eq_true rfl) (Nat.le_of_ble_eq_true rfl) ?_
    refine KX_step (fun H locs ls hl => lv_aload_n hx hb dL_goes_302 rfl (lv_at hl 5 rfl)) ?_
    refine KX_step (fun H locs ls hl => lv_iconst (v := 2) hx hb dL_goes_303 (by decide)) ?_
    refine KX_step (fun H locs ls hl => lv_bipush (v := 11) hx hb dL_goes_304 (by decide)) ?_
    refine KX_step (fun H locs ls hl => lv_iconst (v := 0) hx hb dL_goes_306 (by decide)) ?_
    refine KX_step (fun H locs ls hl => lv_iconst (v := 0) hx hb dL_goes_307 (by decide)) ?_
    refine KX_call (cells2 := 73) (slots2 := 438) (st0 := [.int 0, .int 0, .int 11, .int 2, .ref (ca 0 0), .int (nI (gA k2.1 5))]) (rest := [.int (nI (gA k2.1 5))]) hE rfl (sp2a (q_call_2 l hfl D cs ca 11 0 0 (fun cv hq => (F_about (c := k2) (i := 11) (by omega) cv hq).imp id (fun q => q.trans he.2.1.2.1)))) (va_cwS 5 hts gN_goes_L_call rfl rfl rfl (by decide +kernel) ⟨(Nat.le_of_ble_eq_true rfl), (Nat.le_of_ble_eq_true rfl)⟩) rfl rfl (Nat.le_of_ble_eq_true rfl) ⟨(Nat.le_of_ble_eq_true rfl), (Nat.le_of_ble_eq_true rfl)⟩ dL_goes_308 (Nat.le_of_ble_eq_true rfl) (Nat.le_of_ble_eq_true rfl) ?_
    refine KX_step (st1 := [.int (nI ((gA k2.1 5) + (gA k2.1 11)))]) (fun H locs ls hl K => lv_iadd hx hb dL_goes_311 (by rw [show ((nI (gA k2.1 5)) + (nI (gA k2.1 11)) : Int32) = (nI ((gA k2.1 5) + (gA k2.1 11))) from nI_add (gA k2.1 5) (gA k2.1 11)]; exact K)) ?_
    refine KX_store (lv1 := [(12, .int (nI ((gA k2.1 5) + (gA k2.1 11)))), (11, .int (nI u)), (10, .int (nI u)), (9, .int (nI M)), (8, .int 1), (7, .int k19), (0, .ref (ca 0 0)), (1, .ref (cb 0 0)), (2, .int (nI n))]) (fun H locs ls hl K => lv_istore hx hb dL_goes_312 hl (by decide) rfl K) ?_
    refine KX_step (fun H locs ls hl => lv_iload hx hb dL_goes_314 (lv_at hl 4 rfl)) ?_
    refine KX_if (fun H locs ls hl => lv_if_eq (tgt := 408) hx hb dL_goes_316 (by decide)) (fun q => absurd q n10) (fun _ => ?_)
    refine KX_step (fun H locs ls hl => lv_aload_n hx hb dL_goes_319 rfl (lv_at hl 6 rfl)) ?_
    refine KX_step (fun H locs ls hl => lv_aload_n hx hb dL_goes_320 rfl (lv_at hl 7 rfl)) ?_
    refine KX_step (fun H locs ls hl => lv_iload hx hb dL_goes_321 (lv_at hl 1 rfl)) ?_
    refine KX_call (cells2 := 77) (slots2 := 462) (st0 := [.int (nI u), .ref (cb 0 0), .ref (ca 0 0)]) (rest := []) hE rfl (sp2 (c_waits l hfl D cs ca cb (k := k2) (n := u) (by omega) (by omega))) (va_cwS 3 hts gN_goes_L_waits rfl rfl rfl (by decide +kernel) ⟨(Nat.le_of_ble_eq_true rfl), (Nat.le_of_ble_eq_true rfl)⟩) rfl rfl (Nat.le_of_ble_eq_true rfl) ⟨(Nat.le_of_ble_eq_true rfl), (Nat.le_of_ble_eq_true rfl)⟩ dL_goes_323 (Nat.le_of_ble_eq_true rfl) (Nat.le_of_ble_eq_true rfl) ?_
    refine KX_if (fun H locs ls hl => lv_if_eq (tgt := 408) hx hb dL_goes_326 (by decide)) (fun q => absurd q n10) (fun _ => ?_)
    refine KX_step (fun H locs ls hl => lv_aload_n hx hb dL_goes_329 rfl (lv_at hl 6 rfl)) ?_
    refine KX_step (fun H locs ls hl => lv_iconst (v := 2) hx hb dL_goes_330 (by decide)) ?_
    refine KX_step (fun H locs ls hl => lv_iconst (v := 1) hx hb dL_goes_331 (by decide)) ?_
    refine KX_step (fun H locs ls hl => lv_iconst (v := 0) hx hb dL_goes_332 (by decide)) ?_
    refine KX_step (fun H locs ls hl => lv_iconst (v := 0) hx hb dL_goes_333 (by decide)) ?_
    refine KX_call (cells2 := 78) (slots2 := 468) (st0 := [.int 0, .int 0, .int 1, .int 2, .ref (ca 0 0)]) (rest := []) hE rfl (sp2a (q_call_2 l hfl D cs ca 1 0 0 (fun cv hq => (F_about (c := wtk k2 u) (i := 1) (by omega) cv hq).imp id (fun q => q.trans ((congrFun hw1 1).trans i3))))) (va_cwS 5 hts gN_goes_L_call rfl rfl rfl (by decide +kernel) ⟨(Nat.le_of_ble_eq_true rfl), (Nat.le_of_ble_eq_true rfl)⟩) rfl rfl (Nat.le_of_ble_eq_true rfl) ⟨(Nat.le_of_ble_eq_true rfl), (Nat.le_of_ble_eq_true rfl)⟩ dL_goes_334 (Nat.le_of_ble_eq_true rfl) (Nat.le_of_ble_eq_true rfl) ?_
    refine KX_if (fun H locs ls hl => lv_if_ne (tgt := 344) hx hb dL_goes_337 (by decide)) (fun q => absurd (congrArg nI hM2) q) (fun _ => ?_)
    refine KX_step (fun H locs ls hl => lv_iconst (v := 1) hx hb dL_goes_340 (by decide)) ?_
    refine KX_step (fun H locs ls hl => lv_goto (tgt := 345) hx hb dL_goes_341 (by decide)) ?_
    refine KX_step (fun H locs ls hl => lv_iload hx hb dL_goes_345 (lv_at hl 2 rfl)) ?_
    refine KX_step (fun H locs ls hl => lv_iconst (v := (-1)) hx hb dL_goes_347 (by decide)) ?_
    refine KX_if (fun H locs ls hl => lv_icmp_eq (tgt := 355) hx hb dL_goes_348 (by decide)) (fun q => absurd q (nI_nm (by omega))) (fun _ => ?_)
    refine KX_step (fun H locs ls hl => lv_iconst (v := 1) hx hb dL_goes_351 (by decide)) ?_
    refine KX_step (fun H locs ls hl => lv_goto (tgt := 356) hx hb dL_goes_352 (by decide)) ?_
    refine KX_if (fun H locs ls hl => lv_icmp_ne (tgt := 408) hx hb dL_goes_356 (by decide)) (fun q => absurd rfl q) (fun _ => ?_)
    refine KX_step (fun H locs ls hl => lv_aload_n hx hb dL_goes_359 rfl (lv_at hl 6 rfl)) ?_
    refine KX_step (fun H locs ls hl => lv_iconst (v := 2) hx hb dL_goes_360 (by decide)) ?_
    refine KX_step (fun H locs ls hl => lv_iconst (v := 5) hx hb dL_goes_361 (by decide)) ?_
    refine KX_step (fun H locs ls hl => lv_iconst (v := 0) hx hb dL_goes_362 (by decide)) ?_
    refine KX_step (fun H locs ls hl => lv_iconst (v := 0) hx hb dL_goes_363 (by decide)) ?_
    refine KX_call (cells2 := 79) (slots2 := 474) (st0 := [.int 0, .int 0, .int 5, .int 2, .ref (ca 0 0)]) (rest := []) hE rfl (sp2a (q_call_2 l hfl D cs ca 5 0 0 (fun cv hq => (F_about (c := wtk k2 u) (i := 5) (by omega) cv hq).imp id (fun q => q.trans ((congrFun hw1 5).trans i1))))) (va_cwS 5 hts gN_goes_L_call rfl rfl rfl (by decide +kernel) ⟨(Nat.le_of_ble_eq_true rfl), (Nat.le_of_ble_eq_true rfl)⟩) rfl rfl (Nat.le_of_ble_eq_true rfl) ⟨(Nat.le_of_ble_eq_true rfl), (Nat.le_of_ble_eq_true rfl)⟩ dL_goes_364 (Nat.le_of_ble_eq_true rfl) (Nat.le_of_ble_eq_true rfl) ?_
    refine KX_step (fun H locs ls hl => lv_aload_n hx hb dL_goes_367 rfl (lv_at hl 6 rfl)) ?_
    refine KX_step (fun H locs ls hl => lv_iconst (v := 2) hx hb dL_goes_368 (by decide)) ?_
    refine KX_step (fun H locs ls hl => lv_bipush (v := 11) hx hb dL_goes_369 (by decide)) ?_
    refine KX_step (fun H locs ls hl => lv_iconst (v := 0) hx hb dL_goes_371 (by decide)) ?_
    refine KX_step (fun H locs ls hl => lv_iconst (v := 0) hx hb dL_goes_372 (by decide)) ?_
    refine KX_call (cells2 := 80) (slots2 := 480) (st0 := [.int 0, .int 0, .int 11, .int 2, .ref (ca 0 0), .int (nI V)]) (rest := [.int (nI V)]) hE rfl (sp2a (q_call_2 l hfl D cs ca 11 0 0 (fun cv hq => (F_about (c := wtk k2 u) (i := 11) (by omega) cv hq).imp id (fun q => q.trans ((congrFun hw1 11).trans i2))))) (va_cwS 5 hts gN_goes_L_call rfl rfl rfl (by decide +kernel) ⟨(Nat.le_of_ble_eq_true rfl), (Nat.le_of_ble_eq_true rfl)⟩) rfl rfl (Nat.le_of_ble_eq_true rfl) ⟨(Nat.le_of_ble_eq_true rfl), (Nat.le_of_ble_eq_true rfl)⟩ dL_goes_373 (Nat.le_of_ble_eq_true rfl) (Nat.le_of_ble_eq_true rfl) ?_
    refine KX_step (st1 := [.int (nI (V + X))]) (fun H locs ls hl K => lv_iadd hx hb dL_goes_376 (by rw [show ((nI V) + (nI X) : Int32) = (nI (V + X)) from nI_add (V) (X)]; exact K)) ?_
    refine KX_step (fun H locs ls hl => lv_iload hx hb dL_goes_377 (lv_at hl 0 rfl)) ?_
    refine KX_step (fun H locs ls hl => lv_iload hx hb dL_goes_379 (lv_at hl 2 rfl)) ?_
    refine KX_step (fun H locs ls hl => lv_iconst (v := (-1)) hx hb dL_goes_381 (by decide)) ?_
    refine KX_if (fun H locs ls hl => lv_icmp_ne (tgt := 389) hx hb dL_goes_382 (by decide)) (fun _ => ?_) (fun q => absurd q (nI_nm (by omega)))
    refine KX_step (fun H locs ls hl => lv_iconst (v := 1) hx hb dL_goes_389 (by decide)) ?_
    refine KX_step (st1 := [.int (nI (((gA k2.1 5) + (gA k2.1 11)) + 1)), .int (nI (V + X))]) (fun H locs ls hl K => lv_iadd hx hb dL_goes_390 (by rw [show ((nI ((gA k2.1 5) + (gA k2.1 11))) + 1 : Int32) = (nI (((gA k2.1 5) + (gA k2.1 11)) + 1)) from nI_add ((gA k2.1 5) + (gA k2.1 11)) (1)]; exact K)) ?_
    refine KX_if (fun H locs ls hl => lv_icmp_ne (tgt := 408) hx hb dL_goes_391 (by decide)) (fun q => absurd (congrArg nI (by omega)) q) (fun _ => ?_)
    refine KX_step (fun H locs ls hl => lv_aload_n hx hb dL_goes_394 rfl (lv_at hl 6 rfl)) ?_
    refine KX_step (fun H locs ls hl => lv_aload_n hx hb dL_goes_395 rfl (lv_at hl 7 rfl)) ?_
    refine KX_step (fun H locs ls hl => lv_iload hx hb dL_goes_396 (lv_at hl 1 rfl)) ?_
    refine KX_call (cells2 := 84) (slots2 := 504) (st0 := [.int (nI u), .ref (cb 0 0), .ref (ca 0 0)]) (rest := []) hE rfl (sp2 (c_undoes2 l hfl D cs ca cb (k := k2) (n := u) (by omega) (by omega))) (va_cwS 3 hts gN_goes_L_undoes rfl rfl rfl (by decide +kernel) ⟨(Nat.le_of_ble_eq_true rfl), (Nat.le_of_ble_eq_true rfl)⟩) rfl rfl (Nat.le_of_ble_eq_true rfl) ⟨(Nat.le_of_ble_eq_true rfl), (Nat.le_of_ble_eq_true rfl)⟩ dL_goes_398 (Nat.le_of_ble_eq_true rfl) (Nat.le_of_ble_eq_true rfl) ?_
    refine KX_if (fun H locs ls hl => lv_if_eq (tgt := 408) hx hb dL_goes_401 (by decide)) (fun q => absurd q n10) (fun _ => ?_)
    refine KX_step (fun H locs ls hl => lv_iconst (v := 1) hx hb dL_goes_404 (by decide)) ?_
    refine KX_step (fun H locs ls hl => lv_goto (tgt := 409) hx hb dL_goes_405 (by decide)) ?_
    refine KX_store (lv1 := [(8, .int 1), (12, .int (nI ((gA k2.1 5) + (gA k2.1 11)))), (11, .int (nI u)), (10, .int (nI u)), (9, .int (nI M)), (7, .int k19), (0, .ref (ca 0 0)), (1, .ref (cb 0 0)), (2, .int (nI n))]) (fun H locs ls hl K => lv_istore hx hb dL_goes_409 hl (by decide) rfl K) ?_
    refine KX_step (fun H locs ls hl => lv_iload hx hb dL_goes_411 (lv_at hl 2 rfl)) ?_
    refine KX_step (fun H locs ls hl => lv_iconst (v := 1) hx hb dL_goes_413 (by decide)) ?_
    by_cases hg1 : u = 1
    · refine KX_if (fun H locs ls hl => lv_icmp_le (tgt := 465) hx hb dL_goes_414 (by decide)) (fun _ => ?_) (fun q => absurd (by rw [hg1]; decide) q)
      refine KX_sub (lv1 := [(9, .int (nI M)), (8, .int 1), (7, .int k19), (0, .ref (ca 0 0)), (1, .ref (cb 0 0)), (2, .int (nI n))]) [4, 0, 5, 6, 7, 8] rfl ?_
      have hd1 := dpt_b u
      exact KX_wid (by omega) (by omega) (k4 _ (by omega))
    · obtain ⟨V2, X2, M3, j1, j2, j3, j4, j5, j6⟩ := one_it (m := u - 1) hR h1 he (by omega)
      have hM3 : M3 = 1 := by
        have hne : M3 ≠ 0 := fun q => u5 (u - 1) (by omega) (by omega) (j3.trans (congrArg nI q))
        omega
      have hw2 : (wtk (trm (dpt u) k2) (u - 1)).1 = itS (u - 1) k2.1 := wtk_1 (c := trm (dpt u) k2) (by omega)
      refine KX_if (fun H locs ls hl => lv_icmp_le (tgt := 465) hx hb dL_goes_414 (by decide)) (fun q => absurd q (nI_ge (a := 1) (b := u) (by omega) (by omega))) (fun _ => ?_)
      refine KX_step (fun H locs ls hl => lv_iload hx hb dL_goes_417 (lv_at hl 0 rfl)) ?_
      refine KX_if (fun H locs ls hl => lv_if_eq (tgt := 465) hx hb dL_goes_419 (by decide)) (fun q => absurd q n10) (fun _ => ?_)
      refine KX_step (fun H locs ls hl => lv_aload_n hx hb dL_goes_422 rfl (lv_at hl 6 rfl)) ?_
      refine KX_step (fun H locs ls hl => lv_aload_n hx hb dL_goes_423 rfl (lv_at hl 7 rfl)) ?_
      refine KX_step (fun H locs ls hl => lv_iload hx hb dL_goes_424 (lv_at hl 2 rfl)) ?_
      refine KX_step (fun H locs ls hl => lv_iconst (v := 1) hx hb dL_goes_426 (by decide)) ?_
      refine KX_step (st1 := [.int (nI (u - 1)), .ref (cb 0 0), .ref (ca 0 0)]) (fun H locs ls hl K => lv_isub hx hb dL_goes_427 (by rw [show ((nI u) - 1 : Int32) = (nI (u - 1)) from nI_sub (a := u) (b := 1) (by omega)]; exact K)) ?_
      refine KX_call (cells2 := 88) (slots2 := 528) (st0 := [.int (nI (u - 1)), .ref (cb 0 0), .ref (ca 0 0)]) (rest := []) hE rfl (sp2 (c_waits l hfl D cs ca cb (k := trm (dpt u) k2) (n := u - 1) (by omega) (by omega))) (va_cwS 3 hts gN_goes_L_waits rfl rfl rfl (by decide +kernel) ⟨(Nat.le_of_ble_eq_true rfl), (Nat.le_of_ble_eq_true rfl)⟩) rfl rfl (Nat.le_of_ble_eq_true rfl) ⟨(Nat.le_of_ble_eq_true rfl), (Nat.le_of_ble_eq_true rfl)⟩ dL_goes_428 (Nat.le_of_ble_eq_true rfl) (Nat.le_of_ble_eq_true rfl) ?_
      refine KX_if (fun H locs ls hl => lv_if_eq (tgt := 462) hx hb dL_goes_431 (by decide)) (fun q => absurd q n10) (fun _ => ?_)
      refine KX_step (fun H locs ls hl => lv_aload_n hx hb dL_goes_434 rfl (lv_at hl 6 rfl)) ?_
      refine KX_step (fun H locs ls hl => lv_iconst (v := 2) hx hb dL_goes_435 (by decide)) ?_
      refine KX_step (fun H locs ls hl => lv_iconst (v := 1) hx hb dL_goes_436 (by decide)) ?_
      refine KX_step (fun H locs ls hl => lv_iconst (v := 0) hx hb dL_goes_437 (by decide)) ?_
      refine KX_step (fun H locs ls hl => lv_iconst (v := 0) hx hb dL_goes_438 (by decide)) ?_
      refine KX_call (cells2 := 89) (slots2 := 534) (st0 := [.int 0, .int 0, .int 1, .int 2, .ref (ca 0 0)]) (rest := []) hE rfl (sp2a (q_call_2 l hfl D cs ca 1 0 0 (fun cv hq => (F_about (c := wtk (trm (dpt u) k2) (u - 1)) (i := 1) (by omega) cv hq).imp id (fun q => q.trans ((congrFun hw2 1).trans (j3.trans (congrArg nI hM3))))))) (va_cwS 5 hts gN_goes_L_call rfl rfl rfl (by decide +kernel) ⟨(Nat.le_of_ble_eq_true rfl), (Nat.le_of_ble_eq_true rfl)⟩) rfl rfl (Nat.le_of_ble_eq_true rfl) ⟨(Nat.le_of_ble_eq_true rfl), (Nat.le_of_ble_eq_true rfl)⟩ dL_goes_439 (Nat.le_of_ble_eq_true rfl) (Nat.le_of_ble_eq_true rfl) ?_
      refine KX_step (fun H locs ls hl => lv_iconst (v := 1) hx hb dL_goes_442 (by decide)) ?_
      refine KX_if (fun H locs ls hl => lv_icmp_ne (tgt := 462) hx hb dL_goes_443 (by decide)) (fun q => absurd rfl q) (fun _ => ?_)
      refine KX_step (fun H locs ls hl => lv_aload_n hx hb dL_goes_446 rfl (lv_at hl 6 rfl)) ?_
      refine KX_step (fun H locs ls hl => lv_aload_n hx hb dL_goes_447 rfl (lv_at hl 7 rfl)) ?_
      refine KX_step (fun H locs ls hl => lv_iload hx hb dL_goes_448 (lv_at hl 2 rfl)) ?_
      refine KX_step (fun H locs ls hl => lv_iconst (v := 1) hx hb dL_goes_450 (by decide)) ?_
      refine KX_step (st1 := [.int (nI (u - 1)), .ref (cb 0 0), .ref (ca 0 0)]) (fun H locs ls hl K => lv_isub hx hb dL_goes_451 (by rw [show ((nI u) - 1 : Int32) = (nI (u - 1)) from nI_sub (a := u) (b := 1) (by omega)]; exact K)) ?_
      refine KX_call (cells2 := 93) (slots2 := 558) (st0 := [.int (nI (u - 1)), .ref (cb 0 0), .ref (ca 0 0)]) (rest := []) hE rfl (sp2 (c_undoes2 l hfl D cs ca cb (k := trm (dpt u) k2) (n := u - 1) (by omega) (by omega))) (va_cwS 3 hts gN_goes_L_undoes rfl rfl rfl (by decide +kernel) ⟨(Nat.le_of_ble_eq_true rfl), (Nat.le_of_ble_eq_true rfl)⟩) rfl rfl (Nat.le_of_ble_eq_true rfl) ⟨(Nat.le_of_ble_eq_true rfl), (Nat.le_of_ble_eq_true rfl)⟩ dL_goes_452 (Nat.le_of_ble_eq_true rfl) (Nat.le_of_ble_eq_true rfl) ?_
      refine KX_if (fun H locs ls hl => lv_if_eq (tgt := 462) hx hb dL_goes_455 (by decide)) (fun q => absurd q n10) (fun _ => ?_)
      refine KX_step (fun H locs ls hl => lv_iconst (v := 1) hx hb dL_goes_458 (by decide)) ?_
      refine KX_step (fun H locs ls hl => lv_goto (tgt := 463) hx hb dL_goes_459 (by decide)) ?_
      refine KX_store (lv1 := [(8, .int 1), (12, .int (nI ((gA k2.1 5) + (gA k2.1 11)))), (11, .int (nI u)), (10, .int (nI u)), (9, .int (nI M)), (7, .int k19), (0, .ref (ca 0 0)), (1, .ref (cb 0 0)), (2, .int (nI n))]) (fun H locs ls hl K => lv_istore hx hb dL_goes_463 hl (by decide) rfl K) ?_
      refine KX_sub (lv1 := [(9, .int (nI M)), (8, .int 1), (7, .int k19), (0, .ref (ca 0 0)), (1, .ref (cb 0 0)), (2, .int (nI n))]) [4, 0, 5, 6, 7, 8] rfl ?_
      have hd1 := dpt_b u
      have hd2 := dpt_b (u - 1)
      refine KX_imp (Φ2 := f_2 (trm (max (dpt (u - 1)) (dpt u)) k2) (trm (max (dpt (u - 1)) (dpt u)) k2)) (fun v hv => by rw [← trm_trm]; exact hv) ?_
      exact KX_wid (by omega) (by omega) (k4 _ (by omega))
  · subst u1
    obtain ⟨V, X, M2, i1, i2, i3, i4, i5, i6⟩ := one_it (m := 100) hR h1 he (by omega)
    have hw1 : (wtk k2 100).1 = itS 100 k2.1 := wtk_1 (by omega)
    have hM2 : M2 ≠ 0 := fun q => u2 100 (by omega) (by omega) (i3.trans (congrArg nI q))
    refine KX_if (fun H locs ls hl => lv_icmp_ne (tgt := 290) hx hb dL_goes_282 (by decide)) (fun q => absurd rfl q) (fun _ => ?_)
    refine KX_step (fun H locs ls hl => lv_bipush (v := (nI 100)) hx hb dL_goes_285 (by decide)) ?_
    refine KX_step (fun H locs ls hl => lv_goto (tgt := 292) hx hb dL_goes_287 (by decide)) ?_
    refine KX_store (lv1 := [(11, .int (nI 100)), (10, .int (-1)), (9, .int (nI M)), (8, .int 1), (7, .int k19), (0, .ref (ca 0 0)), (1, .ref (cb 0 0)), (2, .int (nI n))]) (fun H locs ls hl K => lv_istore hx hb dL_goes_292 hl (by decide) rfl K) ?_
    refine KX_step (fun H locs ls hl => lv_aload_n hx hb dL_goes_294 rfl (lv_at hl 5 rfl)) ?_
    refine KX_step (fun H locs ls hl => lv_iconst (v := 2) hx hb dL_goes_295 (by decide)) ?_
    refine KX_step (fun H locs ls hl => lv_iconst (v := 5) hx hb dL_goes_296 (by decide)) ?_
    refine KX_step (fun H locs ls hl => lv_iconst (v := 0) hx hb dL_goes_297 (by decide)) ?_
    refine KX_step (fun H locs ls hl => lv_iconst (v := 0) hx hb dL_goes_298 (by decide)) ?_
    refine KX_call (cells2 := 72) (slots2 := 432) (st0 := [.int 0, .int 0, .int 5, .int 2, .ref (ca 0 0)]) (rest := []) hE rfl (sp2a (q_call_2 l hfl D cs ca 5 0 0 (fun cv hq => (F_about (c := k2) (i := 5) (by omega) cv hq).imp id (fun q => q.trans he.2.1.1)))) (va_cwS 5 hts gN_goes_L_call rfl rfl rfl (by decide +kernel) ⟨(Nat.le_of_ble_eq_true rfl), (Nat.le_of_ble_eq_true rfl)⟩) rfl rfl (Nat.le_of_ble_eq_true rfl) ⟨(Nat.le_of_ble_eq_true rfl), (Nat.le_of_ble_eq_true rfl)⟩ dL_goes_299 (Nat.le_of_ble_eq_true rfl) (Nat.le_of_ble_eq_true rfl) ?_
    refine KX_step (fun H locs ls hl => lv_aload_n hx hb dL_goes_302 rfl (lv_at hl 5 rfl)) ?_
    refine KX_step (fun H locs ls hl => lv_iconst (v := 2) hx hb dL_goes_303 (by decide)) ?_
    refine KX_step (fun H locs ls hl => lv_bipush (v := 11) hx hb dL_goes_304 (by decide)) ?_
    refine KX_step (fun H locs ls hl => lv_iconst (v := 0) hx hb dL_goes_306 (by decide)) ?_
    refine KX_step (fun H locs ls hl => lv_iconst (v := 0) hx hb dL_goes_307 (by decide)) ?_
    refine KX_call (cells2 := 73) (slots2 := 438) (st0 := [.int 0, .int 0, .int 11, .int 2, .ref (ca 0 0), .int (nI (gA k2.1 5))]) (rest := [.int (nI (gA k2.1 5))]) hE rfl (sp2a (q_call_2 l hfl D cs ca 11 0 0 (fun cv hq => (F_about (c := k2) (i := 11) (by omega) cv hq).imp id (fun q => q.trans he.2.1.2.1)))) (va_cwS 5 hts gN_goes_L_call rfl rfl rfl (by decide +kernel) ⟨(Nat.le_of_ble_eq_true rfl), (Nat.le_of_ble_eq_true rfl)⟩) rfl rfl (Nat.le_of_ble_eq_true rfl) ⟨(Nat.le_of_ble_eq_true rfl), (Nat.le_of_ble_eq_true rfl)⟩ dL_goes_308 (Nat.le_of_ble_eq_true rfl) (Nat.le_of_ble_eq_true rfl) ?_
    refine KX_step (st1 := [.int (nI ((gA k2.1 5) + (gA k2.1 11)))]) (fun H locs ls hl K => lv_iadd hx hb dL_goes_311 (by rw [show ((nI (gA k2.1 5)) + (nI (gA k2.1 11)) : Int32) = (nI ((gA k2.1 5) + (gA k2.1 11))) from nI_add (gA k2.1 5) (gA k2.1 11)]; exact K)) ?_
    refine KX_store (lv1 := [(12, .int (nI ((gA k2.1 5) + (gA k2.1 11)))), (11, .int (nI 100)), (10, .int (-1)), (9, .int (nI M)), (8, .int 1), (7, .int k19), (0, .ref (ca 0 0)), (1, .ref (cb 0 0)), (2, .int (nI n))]) (fun H locs ls hl K => lv_istore hx hb dL_goes_312 hl (by decide) rfl K) ?_
    refine KX_step (fun H locs ls hl => lv_iload hx hb dL_goes_314 (lv_at hl 4 rfl)) ?_
    refine KX_if (fun H locs ls hl => lv_if_eq (tgt := 408) hx hb dL_goes_316 (by decide)) (fun q => absurd q n10) (fun _ => ?_)
    refine KX_step (fun H locs ls hl => lv_aload_n hx hb dL_goes_319 rfl (lv_at hl 6 rfl)) ?_
    refine KX_step (fun H locs ls hl => lv_aload_n hx hb dL_goes_320 rfl (lv_at hl 7 rfl)) ?_
    refine KX_step (fun H locs ls hl => lv_iload hx hb dL_goes_321 (lv_at hl 1 rfl)) ?_
    refine KX_call (cells2 := 77) (slots2 := 462) (st0 := [.int (nI 100), .ref (cb 0 0), .ref (ca 0 0)]) (rest := []) hE rfl (sp2 (c_waits l hfl D cs ca cb (k := k2) (n := 100) (by omega) (by omega))) (va_cwS 3 hts gN_goes_L_waits rfl rfl rfl (by decide +kernel) ⟨(Nat.le_of_ble_eq_true rfl), (Nat.le_of_ble_eq_true rfl)⟩) rfl rfl (Nat.le_of_ble_eq_true rfl) ⟨(Nat.le_of_ble_eq_true rfl), (Nat.le_of_ble_eq_true rfl)⟩ dL_goes_323 (Nat.le_of_ble_eq_true rfl) (Nat.le_of_ble_eq_true rfl) ?_
    refine KX_if (fun H locs ls hl => lv_if_eq (tgt := 408) hx hb dL_goes_326 (by decide)) (fun q => absurd q n10) (fun _ => ?_)
    refine KX_step (fun H locs ls hl => lv_aload_n hx hb dL_goes_329 rfl (lv_at hl 6 rfl)) ?_
    refine KX_step (fun H locs ls hl => lv_iconst (v := 2) hx hb dL_goes_330 (by decide)) ?_
    refine KX_step (fun H locs ls hl => lv_iconst (v := 1) hx hb dL_goes_331 (by decide)) ?_
    refine KX_step (fun H locs ls hl => lv_iconst (v := 0) hx hb dL_goes_332 (by decide)) ?_
    refine KX_step (fun H locs ls hl => lv_iconst (v := 0) hx hb dL_goes_333 (by decide)) ?_
    refine KX_call (cells2 := 78) (slots2 := 468) (st0 := [.int 0, .int 0, .int 1, .int 2, .ref (ca 0 0)]) (rest := []) hE rfl (sp2a (q_call_2 l hfl D cs ca 1 0 0 (fun cv hq => (F_about (c := wtk k2 100) (i := 1) (by omega) cv hq).imp id (fun q => q.trans ((congrFun hw1 1).trans i3))))) (va_cwS 5 hts gN_goes_L_call rfl rfl rfl (by decide +kernel) ⟨(Nat.le_of_ble_eq_true rfl), (Nat.le_of_ble_eq_true rfl)⟩) rfl rfl (Nat.le_of_ble_eq_true rfl) ⟨(Nat.le_of_ble_eq_true rfl), (Nat.le_of_ble_eq_true rfl)⟩ dL_goes_334 (Nat.le_of_ble_eq_true rfl) (Nat.le_of_ble_eq_true rfl) ?_
    refine KX_if (fun H locs ls hl => lv_if_ne (tgt := 344) hx hb dL_goes_337 (by decide)) (fun _ => ?_) (fun q => absurd q (nI_ne0 (by omega) (by omega)))
    refine KX_step (fun H locs ls hl => lv_iconst (v := 0) hx hb dL_goes_344 (by decide)) ?_
    refine KX_step (fun H locs ls hl => lv_iload hx hb dL_goes_345 (lv_at hl 2 rfl)) ?_
    refine KX_step (fun H locs ls hl => lv_iconst (v := (-1)) hx hb dL_goes_347 (by decide)) ?_
    refine KX_if (fun H locs ls hl => lv_icmp_eq (tgt := 355) hx hb dL_goes_348 (by decide)) (fun _ => ?_) (fun q => absurd rfl q)
    refine KX_step (fun H locs ls hl => lv_iconst (v := 0) hx hb dL_goes_355 (by decide)) ?_
    refine KX_if (fun H locs ls hl => lv_icmp_ne (tgt := 408) hx hb dL_goes_356 (by decide)) (fun q => absurd rfl q) (fun _ => ?_)
    refine KX_step (fun H locs ls hl => lv_aload_n hx hb dL_goes_359 rfl (lv_at hl 6 rfl)) ?_
    refine KX_step (fun H locs ls hl => lv_iconst (v := 2) hx hb dL_goes_360 (by decide)) ?_
    refine KX_step (fun H locs ls hl => lv_iconst (v := 5) hx hb dL_goes_361 (by decide)) ?_
    refine KX_step (fun H locs ls hl => lv_iconst (v := 0) hx hb dL_goes_362 (by decide)) ?_
    refine KX_step (fun H locs ls hl => lv_iconst (v := 0) hx hb dL_goes_363 (by decide)) ?_
    refine KX_call (cells2 := 79) (slots2 := 474) (st0 := [.int 0, .int 0, .int 5, .int 2, .ref (ca 0 0)]) (rest := []) hE rfl (sp2a (q_call_2 l hfl D cs ca 5 0 0 (fun cv hq => (F_about (c := wtk k2 100) (i := 5) (by omega) cv hq).imp id (fun q => q.trans ((congrFun hw1 5).trans i1))))) (va_cwS 5 hts gN_goes_L_call rfl rfl rfl (by decide +kernel) ⟨(Nat.le_of_ble_eq_true rfl), (Nat.le_of_ble_eq_true rfl)⟩) rfl rfl (Nat.le_of_ble_eq_true rfl) ⟨(Nat.le_of_ble_eq_true rfl), (Nat.le_of_ble_eq_true rfl)⟩ dL_goes_364 (Nat.le_of_ble_eq_true rfl) (Nat.le_of_ble_eq_true rfl) ?_
    refine KX_step (fun H locs ls hl => lv_aload_n hx hb dL_goes_367 rfl (lv_at hl 6 rfl)) ?_
    refine KX_step (fun H locs ls hl => lv_iconst (v := 2) hx hb dL_goes_368 (by decide)) ?_
    refine KX_step (fun H locs ls hl => lv_bipush (v := 11) hx hb dL_goes_369 (by decide)) ?_
    refine KX_step (fun H locs ls hl => lv_iconst (v := 0) hx hb dL_goes_371 (by decide)) ?_
    refine KX_step (fun H locs ls hl => lv_iconst (v := 0) hx hb dL_goes_372 (by decide)) ?_
    refine KX_call (cells2 := 80) (slots2 := 480) (st0 := [.int 0, .int 0, .int 11, .int 2, .ref (ca 0 0), .int (nI V)]) (rest := [.int (nI V)]) hE rfl (sp2a (q_call_2 l hfl D cs ca 11 0 0 (fun cv hq => (F_about (c := wtk k2 100) (i := 11) (by omega) cv hq).imp id (fun q => q.trans ((congrFun hw1 11).trans i2))))) (va_cwS 5 hts gN_goes_L_call rfl rfl rfl (by decide +kernel) ⟨(Nat.le_of_ble_eq_true rfl), (Nat.le_of_ble_eq_true rfl)⟩) rfl rfl (Nat.le_of_ble_eq_true rfl) ⟨(Nat.le_of_ble_eq_true rfl), (Nat.le_of_ble_eq_true rfl)⟩ dL_goes_373 (Nat.le_of_ble_eq_true rfl) (Nat.le_of_ble_eq_true rfl) ?_
    refine KX_step (st1 := [.int (nI (V + X))]) (fun H locs ls hl K => lv_iadd hx hb dL_goes_376 (by rw [show ((nI V) + (nI X) : Int32) = (nI (V + X)) from nI_add (V) (X)]; exact K)) ?_
    refine KX_step (fun H locs ls hl => lv_iload hx hb dL_goes_377 (lv_at hl 0 rfl)) ?_
    refine KX_step (fun H locs ls hl => lv_iload hx hb dL_goes_379 (lv_at hl 2 rfl)) ?_
    refine KX_step (fun H locs ls hl => lv_iconst (v := (-1)) hx hb dL_goes_381 (by decide)) ?_
    refine KX_if (fun H locs ls hl => lv_icmp_ne (tgt := 389) hx hb dL_goes_382 (by decide)) (fun q => absurd rfl q) (fun _ => ?_)
    refine KX_step (fun H locs ls hl => lv_iconst (v := 0) hx hb dL_goes_385 (by decide)) ?_
    refine KX_step (fun H locs ls hl => lv_goto (tgt := 390) hx hb dL_goes_386 (by decide)) ?_
    refine KX_step (st1 := [.int (nI (((gA k2.1 5) + (gA k2.1 11)) + 0)), .int (nI (V + X))]) (fun H locs ls hl K => lv_iadd hx hb dL_goes_390 (by rw [show ((nI ((gA k2.1 5) + (gA k2.1 11))) + 0 : Int32) = (nI (((gA k2.1 5) + (gA k2.1 11)) + 0)) from nI_add ((gA k2.1 5) + (gA k2.1 11)) (0)]; exact K)) ?_
    refine KX_if (fun H locs ls hl => lv_icmp_ne (tgt := 408) hx hb dL_goes_391 (by decide)) (fun q => absurd (congrArg nI (by omega)) q) (fun _ => ?_)
    refine KX_step (fun H locs ls hl => lv_aload_n hx hb dL_goes_394 rfl (lv_at hl 6 rfl)) ?_
    refine KX_step (fun H locs ls hl => lv_aload_n hx hb dL_goes_395 rfl (lv_at hl 7 rfl)) ?_
    refine KX_step (fun H locs ls hl => lv_iload hx hb dL_goes_396 (lv_at hl 1 rfl)) ?_
    refine KX_call (cells2 := 84) (slots2 := 504) (st0 := [.int (nI 100), .ref (cb 0 0), .ref (ca 0 0)]) (rest := []) hE rfl (sp2 (c_undoes2 l hfl D cs ca cb (k := k2) (n := 100) (by omega) (by omega))) (va_cwS 3 hts gN_goes_L_undoes rfl rfl rfl (by decide +kernel) ⟨(Nat.le_of_ble_eq_true rfl), (Nat.le_of_ble_eq_true rfl)⟩) rfl rfl (Nat.le_of_ble_eq_true rfl) ⟨(Nat.le_of_ble_eq_true rfl), (Nat.le_of_ble_eq_true rfl)⟩ dL_goes_398 (Nat.le_of_ble_eq_true rfl) (Nat.le_of_ble_eq_true rfl) ?_
    refine KX_if (fun H locs ls hl => lv_if_eq (tgt := 408) hx hb dL_goes_401 (by decide)) (fun q => absurd q n10) (fun _ => ?_)
    refine KX_step (fun H locs ls hl => lv_iconst (v := 1) hx hb dL_goes_404 (by decide)) ?_
    refine KX_step (fun H locs ls hl => lv_goto (tgt := 409) hx hb dL_goes_405 (by decide)) ?_
    refine KX_store (lv1 := [(8, .int 1), (12, .int (nI ((gA k2.1 5) + (gA k2.1 11)))), (11, .int (nI 100)), (10, .int (-1)), (9, .int (nI M)), (7, .int k19), (0, .ref (ca 0 0)), (1, .ref (cb 0 0)), (2, .int (nI n))]) (fun H locs ls hl K => lv_istore hx hb dL_goes_409 hl (by decide) rfl K) ?_
    refine KX_step (fun H locs ls hl => lv_iload hx hb dL_goes_411 (lv_at hl 2 rfl)) ?_
    refine KX_step (fun H locs ls hl => lv_iconst (v := 1) hx hb dL_goes_413 (by decide)) ?_
    obtain ⟨V2, X2, M3, j1, j2, j3, j4, j5, j6⟩ := one_it (m := 100 - 1) hR h1 he (by omega)
    have hM3 : M3 = 1 := by
      have hne : M3 ≠ 0 := fun q => u2 (100 - 1) (by omega) (by omega) (j3.trans (congrArg nI q))
      omega
    have hw2 : (wtk (trm (dpt 100) k2) (100 - 1)).1 = itS (100 - 1) k2.1 := wtk_1 (c := trm (dpt 100) k2) (by omega)
    refine KX_if (fun H locs ls hl => lv_icmp_le (tgt := 465) hx hb dL_goes_414 (by decide)) (fun q => absurd q (by decide)) (fun _ => ?_)
    refine KX_step (fun H locs ls hl => lv_iload hx hb dL_goes_417 (lv_at hl 0 rfl)) ?_
    refine KX_if (fun H locs ls hl => lv_if_eq (tgt := 465) hx hb dL_goes_419 (by decide)) (fun q => absurd q n10) (fun _ => ?_)
    refine KX_step (fun H locs ls hl => lv_aload_n hx hb dL_goes_422 rfl (lv_at hl 6 rfl)) ?_
    refine KX_step (fun H locs ls hl => lv_aload_n hx hb dL_goes_423 rfl (lv_at hl 7 rfl)) ?_
    refine KX_step (fun H locs ls hl => lv_iload hx hb dL_goes_424 (lv_at hl 2 rfl)) ?_
    refine KX_step (fun H locs ls hl => lv_iconst (v := 1) hx hb dL_goes_426 (by decide)) ?_
    refine KX_step (st1 := [.int (nI (100 - 1)), .ref (cb 0 0), .ref (ca 0 0)]) (fun H locs ls hl K => lv_isub hx hb dL_goes_427 (by rw [show ((nI 100) - 1 : Int32) = (nI (100 - 1)) from nI_sub (a := 100) (b := 1) (by omega)]; exact K)) ?_
    refine KX_call (cells2 := 88) (slots2 := 528) (st0 := [.int (nI (100 - 1)), .ref (cb 0 0), .ref (ca 0 0)]) (rest := []) hE rfl (sp2 (c_waits l hfl D cs ca cb (k := trm (dpt 100) k2) (n := 100 - 1) (by omega) (by omega))) (va_cwS 3 hts gN_goes_L_waits rfl rfl rfl (by decide +kernel) ⟨(Nat.le_of_ble_eq_true rfl), (Nat.le_of_ble_eq_true rfl)⟩) rfl rfl (Nat.le_of_ble_eq_true rfl) ⟨(Nat.le_of_ble_eq_true rfl), (Nat.le_of_ble_eq_true rfl)⟩ dL_goes_428 (Nat.le_of_ble_eq_true rfl) (Nat.le_of_ble_eq_true rfl) ?_
    refine KX_if (fun H locs ls hl => lv_if_eq (tgt := 462) hx hb dL_goes_431 (by decide)) (fun q => absurd q n10) (fun _ => ?_)
    refine KX_step (fun H locs ls hl => lv_aload_n hx hb dL_goes_434 rfl (lv_at hl 6 rfl)) ?_
    refine KX_step (fun H locs ls hl => lv_iconst (v := 2) hx hb dL_goes_435 (by decide)) ?_
    refine KX_step (fun H locs ls hl => lv_iconst (v := 1) hx hb dL_goes_436 (by decide)) ?_
    refine KX_step (fun H locs ls hl => lv_iconst (v := 0) hx hb dL_goes_437 (by decide)) ?_
    refine KX_step (fun H locs ls hl => lv_iconst (v := 0) hx hb dL_goes_438 (by decide)) ?_
    refine KX_call (cells2 := 89) (slots2 := 534) (st0 := [.int 0, .int 0, .int 1, .int 2, .ref (ca 0 0)]) (rest := []) hE rfl (sp2a (q_call_2 l hfl D cs ca 1 0 0 (fun cv hq => (F_about (c := wtk (trm (dpt 100) k2) (100 - 1)) (i := 1) (by omega) cv hq).imp id (fun q => q.trans ((congrFun hw2 1).trans (j3.trans (congrArg nI hM3))))))) (va_cwS 5 hts gN_goes_L_call rfl rfl rfl (by decide +kernel) ⟨(Nat.le_of_ble_eq_true rfl), (Nat.le_of_ble_eq_true rfl)⟩) rfl rfl (Nat.le_of_ble_eq_true rfl) ⟨(Nat.le_of_ble_eq_true rfl), (Nat.le_of_ble_eq_true rfl)⟩ dL_goes_439 (Nat.le_of_ble_eq_true rfl) (Nat.le_of_ble_eq_true rfl) ?_
    refine KX_step (fun H locs ls hl => lv_iconst (v := 1) hx hb dL_goes_442 (by decide)) ?_
    refine KX_if (fun H locs ls hl => lv_icmp_ne (tgt := 462) hx hb dL_goes_443 (by decide)) (fun q => absurd rfl q) (fun _ => ?_)
    refine KX_step (fun H locs ls hl => lv_aload_n hx hb dL_goes_446 rfl (lv_at hl 6 rfl)) ?_
    refine KX_step (fun H locs ls hl => lv_aload_n hx hb dL_goes_447 rfl (lv_at hl 7 rfl)) ?_
    refine KX_step (fun H locs ls hl => lv_iload hx hb dL_goes_448 (lv_at hl 2 rfl)) ?_
    refine KX_step (fun H locs ls hl => lv_iconst (v := 1) hx hb dL_goes_450 (by decide)) ?_
    refine KX_step (st1 := [.int (nI (100 - 1)), .ref (cb 0 0), .ref (ca 0 0)]) (fun H locs ls hl K => lv_isub hx hb dL_goes_451 (by rw [show ((nI 100) - 1 : Int32) = (nI (100 - 1)) from nI_sub (a := 100) (b := 1) (by omega)]; exact K)) ?_
    refine KX_call (cells2 := 93) (slots2 := 558) (st0 := [.int (nI (100 - 1)), .ref (cb 0 0), .ref (ca 0 0)]) (rest := []) hE rfl (sp2 (c_undoes2 l hfl D cs ca cb (k := trm (dpt 100) k2) (n := 100 - 1) (by omega) (by omega))) (va_cwS 3 hts gN_goes_L_undoes rfl rfl rfl (by decide +kernel) ⟨(Nat.le_of_ble_eq_true rfl), (Nat.le_of_ble_eq_true rfl)⟩) rfl rfl (Nat.le_of_ble_eq_true rfl) ⟨(Nat.le_of_ble_eq_true rfl), (Nat.le_of_ble_eq_true rfl)⟩ dL_goes_452 (Nat.le_of_ble_eq_true rfl) (Nat.le_of_ble_eq_true rfl) ?_
    refine KX_if (fun H locs ls hl => lv_if_eq (tgt := 462) hx hb dL_goes_455 (by decide)) (fun q => absurd q n10) (fun _ => ?_)
    refine KX_step (fun H locs ls hl => lv_iconst (v := 1) hx hb dL_goes_458 (by decide)) ?_
    refine KX_step (fun H locs ls hl => lv_goto (tgt := 463) hx hb dL_goes_459 (by decide)) ?_
    refine KX_store (lv1 := [(8, .int 1), (12, .int (nI ((gA k2.1 5) + (gA k2.1 11)))), (11, .int (nI 100)), (10, .int (-1)), (9, .int (nI M)), (7, .int k19), (0, .ref (ca 0 0)), (1, .ref (cb 0 0)), (2, .int (nI n))]) (fun H locs ls hl K => lv_istore hx hb dL_goes_463 hl (by decide) rfl K) ?_
    refine KX_sub (lv1 := [(9, .int (nI M)), (8, .int 1), (7, .int k19), (0, .ref (ca 0 0)), (1, .ref (cb 0 0)), (2, .int (nI n))]) [4, 0, 5, 6, 7, 8] rfl ?_
    have hd1 := dpt_b 100
    have hd2 := dpt_b (100 - 1)
    refine KX_imp (Φ2 := f_2 (trm (max (dpt (100 - 1)) (dpt 100)) k2) (trm (max (dpt (100 - 1)) (dpt 100)) k2)) (fun v hv => by rw [← trm_trm]; exact hv) ?_
    exact KX_wid (by omega) (by omega) (k4 _ (by omega))
set_option maxHeartbeats 4000000 in
set_option maxRecDepth 100000 in
theorem goes_2 {p : Program} {l : Launch} {e : Env} {s : State} {m : MethodId} {args : Array Value} {below : List Frame} {meth : Method} {c : Code} {D : va_G} {cs : Nat → ClassId} {A : Nat → Prop} {Q : State → Prop} {ca cb : Nat → Nat → Nat} (hfl : l.stackTraces = false) {k : KC} {n M : Nat} (m0 : k.1 1 = nI M) (hM : M ≤ 12) {o : OV} {T tau : Nat} (htau : tau ≤ 14) (hR : RF o k.1) (he : EI T k.1) (hT : T + 100 ≤ BIG)  (hE : kE p s m args meth c D cs yL_goes wsN_goes cL_goes 14 (some .boolean) A) (kr : ∀ t, t ≤ 14 → ∀ (lv : List (Nat × Value)) (pc cells slots : Nat), cells ≤ 200 → slots ≤ 1200 → decode cL_goes pc = .ok (.ireturn, 1) → KX p l e RM_goes s m args below meth c D A 14 Q (f_2 (trm t k) (trm t k)) (w_2 cs ca cb) lv [.int 1] pc cells slots) : KX p l e RM_goes s m args below meth c D A 14 Q (f_2 (trm tau k) (trm tau k)) (w_2 cs ca cb) [(8, .int 1), (7, .int (k.1 9)), (0, .ref (ca 0 0)), (1, .ref (cb 0 0)), (2, .int (nI n))] [] 189 40 240 := by
  obtain ⟨hx, hb, hr, hlocks, hml, hown, hts, hK, hA, hG, hnm⟩ := id hE
  have hown : s.vm.findClass RL = some m.cls := hown
  refine KX_step (fun H locs ls hl => lv_aload_n hx hb dL_goes_189 rfl (lv_at hl 2 rfl)) ?_
  refine KX_step (fun H locs ls hl => lv_iconst (v := 2) hx hb dL_goes_190 (by decide)) ?_
  refine KX_step (fun H locs ls hl => lv_iconst (v := 1) hx hb dL_goes_191 (by decide)) ?_
  refine KX_step (fun H locs ls hl => lv_iconst (v := 0) hx hb dL_goes_192 (by decide)) ?_
  refine KX_step (fun H locs ls hl => lv_iconst (v := 0) hx hb dL_goes_193 (by decide)) ?_
  refine KX_call (cells2 := 41) (slots2 := 246) (st0 := [.int 0, .int 0, .int 1, .int 2, .ref (ca 0 0)]) (rest := []) hE rfl (sp2a (q_call_2 l hfl D cs ca 1 0 0 (fun cv hq => (F_about (c := trm tau k) (i := 1) (by omega) cv hq).imp id (fun q => q.trans m0)))) (va_cwS 5 hts gN_goes_L_call rfl rfl rfl (by decide +kernel) ⟨(Nat.le_of_ble_eq_true rfl), (Nat.le_of_ble_eq_true rfl)⟩) rfl rfl (Nat.le_of_ble_eq_true rfl) ⟨(Nat.le_of_ble_eq_true rfl), (Nat.le_of_ble_eq_true rfl)⟩ dL_goes_194 (Nat.le_of_ble_eq_true rfl) (Nat.le_of_ble_eq_true rfl) ?_
  refine KX_store (lv1 := [(9, .int (nI M)), (8, .int 1), (7, .int (k.1 9)), (0, .ref (ca 0 0)), (1, .ref (cb 0 0)), (2, .int (nI n))]) (fun H locs ls hl K => lv_istore hx hb dL_goes_197 hl (by decide) rfl K) ?_
  refine KX_step (fun H locs ls hl => lv_iload hx hb dL_goes_199 (lv_at hl 0 rfl)) ?_
  by_cases hM0 : M = 0
  · refine KX_if (fun H locs ls hl => lv_if_le (tgt := 524) hx hb dL_goes_201 (by decide)) (fun _ => ?_) (fun q => absurd (by rw [hM0]; decide) q)
    refine KX_sub (lv1 := [(9, .int (nI M)), (8, .int 1), (7, .int (k.1 9)), (0, .ref (ca 0 0)), (1, .ref (cb 0 0)), (2, .int (nI n))]) [0, 1, 2, 3, 4, 5] rfl ?_
    refine KX_imp (Φ2 := fun u => ∃ t, t ≤ 14 ∧ f_2 (trm t k) (trm t k) u) (fun u hu => ⟨tau, htau, hu⟩) ?_
    exact KX_wid (by omega) (by omega) (goes_5 hfl m0 hM hE kr)
  · refine KX_if (fun H locs ls hl => lv_if_le (tgt := 524) hx hb dL_goes_201 (by decide)) (fun q => absurd q (nI_nle (by omega) (by omega))) (fun _ => ?_)
    refine KX_step (fun H locs ls hl => lv_iload hx hb dL_goes_204 (lv_at hl 1 rfl)) ?_
    refine KX_if (fun H locs ls hl => lv_if_eq (tgt := 524) hx hb dL_goes_206 (by decide)) (fun q => absurd q n10) (fun _ => ?_)
    refine KX_step (fun H locs ls hl => lv_iload hx hb dL_goes_209 (lv_at hl 0 rfl)) ?_
    refine KX_step (fun H locs ls hl => lv_iconst (v := 1) hx hb dL_goes_211 (by decide)) ?_
    refine KX_step (st1 := [.int (nI (M - 1))]) (fun H locs ls hl K => lv_isub hx hb dL_goes_212 (by rw [show ((nI M) - 1 : Int32) = (nI (M - 1)) from nI_sub (a := M) (b := 1) (by omega)]; exact K)) ?_
    refine KX_store (lv1 := [(10, .int (nI (M - 1))), (9, .int (nI M)), (8, .int 1), (7, .int (k.1 9)), (0, .ref (ca 0 0)), (1, .ref (cb 0 0)), (2, .int (nI n))]) (fun H locs ls hl K => lv_istore hx hb dL_goes_213 hl (by decide) rfl K) ?_
    refine KX_sub (lv1 := [(10, .int (nI (M - 1))), (9, .int (nI M)), (8, .int 1), (7, .int (k.1 9)), (0, .ref (ca 0 0)), (1, .ref (cb 0 0)), (2, .int (nI n))]) [0, 1, 2, 3, 4, 5, 6] rfl ?_
    have L : ∀ x i, i + x = M - 1 → KX p l e RM_goes s m args below meth c D A 14 Q (f_2 (cch (trm tau k) M i) (cch (trm tau k) M i)) (w_2 cs ca cb) [(10, .int (nI (M - 1 - i))), (9, .int (nI M)), (8, .int 1), (7, .int (k.1 9)), (0, .ref (ca 0 0)), (1, .ref (cb 0 0)), (2, .int (nI n))] [] 215 (41 + 2 * i) (246 + 12 * i) := by
      intro x
      induction x with
      | zero =>
        intro i hi
        have hi : i = M - 1 := by omega
        subst hi
        refine KX_step (fun H locs ls hl => lv_iload hx hb dL_goes_215 (lv_at hl 0 rfl)) ?_
        refine KX_if (fun H locs ls hl => lv_if_le (tgt := 268) hx hb dL_goes_217 (by decide)) (fun _ => ?_) (fun q => absurd (by rw [Nat.sub_self]; decide) q)
        refine KX_sub (lv1 := [(9, .int (nI M)), (8, .int 1), (7, .int (k.1 9)), (0, .ref (ca 0 0)), (1, .ref (cb 0 0)), (2, .int (nI n))]) [1, 2, 3, 4, 5, 6] rfl ?_
        refine KX_wid (cells2 := 70) (slots2 := 420) (by omega) (by omega) ?_
        refine KX_fact (F := ∃ cv, QR cv (cch (trm tau k) M (M - 1))) (fun u hu => ⟨u.1, hu.1⟩) (fun hq => ?_)
        obtain ⟨cv0, hq⟩ := hq
        obtain ⟨⟨o2, r1⟩, r2, r3⟩ := rwc_ok hR m0 hM he (M - 1) (by omega)
        have e1 : (cch (trm tau k) M (M - 1)).1 = rwc k.1 M (M - 1) := cch_1
        have r4 : (cch (trm tau k) M (M - 1)).1 1 = nI 1 := by rw [e1, r3]; exact congrArg nI (by omega)
        obtain ⟨z, hz, hdv⟩ := R_done hq r4
        exact goes_3 hfl (k2 := cch (trm tau k) M (M - 1)) (o := o2) (T := T) (by rw [e1]; exact r1) r4 (by rw [e1]; exact r2) hT hz hdv hE (fun t ht => goes_4 hfl m0 hM (by omega) ht htau hE kr)
      | succ x ih =>
        intro i hi
        obtain ⟨-, -, r3⟩ := rwc_ok hR m0 hM he i (by omega)
        have hF := F_cancel (c := trm tau k) (M := M) (i := i) r3 hM (by omega)
        refine KX_step (fun H locs ls hl => lv_iload hx hb dL_goes_215 (lv_at hl 0 rfl)) ?_
        refine KX_if (fun H locs ls hl => lv_if_le (tgt := 268) hx hb dL_goes_217 (by decide)) (fun q => absurd q (nI_nle (by omega) (by omega))) (fun _ => ?_)
        refine KX_step (fun H locs ls hl => lv_iload hx hb dL_goes_220 (lv_at hl 2 rfl)) ?_
        refine KX_if (fun H locs ls hl => lv_if_eq (tgt := 268) hx hb dL_goes_222 (by decide)) (fun q => absurd q n10) (fun _ => ?_)
        refine KX_step (fun H locs ls hl => lv_aload_n hx hb dL_goes_225 rfl (lv_at hl 4 rfl)) ?_
        refine KX_step (fun H locs ls hl => lv_bipush (v := 11) hx hb dL_goes_226 (by decide)) ?_
        refine KX_step (fun H locs ls hl => lv_iload hx hb dL_goes_228 (lv_at hl 0 rfl)) ?_
        refine KX_step (fun H locs ls hl => lv_iconst (v := 0) hx hb dL_goes_230 (by decide)) ?_
        refine KX_step (fun H locs ls hl => lv_iconst (v := 0) hx hb dL_goes_231 (by decide)) ?_
        refine KX_call (cells2 := 41 + 2 * i + 1) (slots2 := 246 + 12 * i + 6) (st0 := [.int 0, .int 0, .int (nI (M - 1 - i)), .int 11, .ref (ca 0 0)]) (rest := []) hE rfl (sp2a (q_call_11 l hfl D cs ca (nI (M - 1 - i)) 0 0 hF)) (va_cwS 5 hts gN_goes_L_call rfl rfl rfl (by decide +kernel) ⟨(Nat.le_of_ble_eq_true rfl), (Nat.le_of_ble_eq_true rfl)⟩) rfl rfl (Nat.le_of_ble_eq_true rfl) ⟨(show 41 + 2 * i + 1 ≤ 200 by omega), (show 246 + 12 * i + 6 ≤ 1200 by omega)⟩ dL_goes_232 (by omega) (by omega) ?_
        refine KX_step (fun H locs ls hl => lv_iload hx hb dL_goes_235 (lv_at hl 0 rfl)) ?_
        refine KX_if (fun H locs ls hl => lv_icmp_ne (tgt := 259) hx hb dL_goes_237 (by decide)) (fun q => absurd rfl q) (fun _ => ?_)
        refine KX_step (fun H locs ls hl => lv_aload_n hx hb dL_goes_240 rfl (lv_at hl 5 rfl)) ?_
        refine KX_step (fun H locs ls hl => lv_bipush (v := 11) hx hb dL_goes_241 (by decide)) ?_
        refine KX_step (fun H locs ls hl => lv_iload hx hb dL_goes_243 (lv_at hl 0 rfl)) ?_
        refine KX_step (fun H locs ls hl => lv_iconst (v := 0) hx hb dL_goes_245 (by decide)) ?_
        refine KX_step (fun H locs ls hl => lv_iconst (v := 0) hx hb dL_goes_246 (by decide)) ?_
        refine KX_call (cells2 := 41 + 2 * i + 2) (slots2 := 246 + 12 * i + 12) (st0 := [.int 0, .int 0, .int (nI (M - 1 - i)), .int 11, .ref (cb 0 0)]) (rest := []) hE rfl (sp2b (q_call_11 l hfl D cs cb (nI (M - 1 - i)) 0 0 hF)) (va_cwS 5 hts gN_goes_L_call rfl rfl rfl (by decide +kernel) ⟨(Nat.le_of_ble_eq_true rfl), (Nat.le_of_ble_eq_true rfl)⟩) rfl rfl (Nat.le_of_ble_eq_true rfl) ⟨(show 41 + 2 * i + 1 + 1 ≤ 200 by omega), (show 246 + 12 * i + 6 + 6 ≤ 1200 by omega)⟩ dL_goes_247 (by omega) (by omega) ?_
        refine KX_step (fun H locs ls hl => lv_iload hx hb dL_goes_250 (lv_at hl 0 rfl)) ?_
        refine KX_if (fun H locs ls hl => lv_icmp_ne (tgt := 259) hx hb dL_goes_252 (by decide)) (fun q => absurd rfl q) (fun _ => ?_)
        refine KX_step (fun H locs ls hl => lv_iconst (v := 1) hx hb dL_goes_255 (by decide)) ?_
        refine KX_step (fun H locs ls hl => lv_goto (tgt := 260) hx hb dL_goes_256 (by decide)) ?_
        refine KX_store (lv1 := [(8, .int 1), (10, .int (nI (M - 1 - i))), (9, .int (nI M)), (7, .int (k.1 9)), (0, .ref (ca 0 0)), (1, .ref (cb 0 0)), (2, .int (nI n))]) (fun H locs ls hl K => lv_istore hx hb dL_goes_260 hl (by decide) rfl K) ?_
        refine KX_store (lv1 := [(10, .int (nI (M - 1 - (i + 1)))), (8, .int 1), (9, .int (nI M)), (7, .int (k.1 9)), (0, .ref (ca 0 0)), (1, .ref (cb 0 0)), (2, .int (nI n))]) (fun H locs ls hl K => lv_iinc (k := 1) (lv' := [(10, .int (nI (M - 1 - (i + 1)))), (8, .int 1), (9, .int (nI M)), (7, .int (k.1 9)), (0, .ref (ca 0 0)), (1, .ref (cb 0 0)), (2, .int (nI n))]) hx hb dL_goes_262 hl rfl ((m1x (n := M - 1 - i) (by omega)).trans (congrArg nI (by omega))) (by decide) rfl K) ?_
        refine KX_step (fun H locs ls hl => lv_goto (tgt := 215) hx hb dL_goes_265 (by decide)) ?_
        refine KX_sub (lv1 := [(10, .int (nI (M - 1 - (i + 1)))), (9, .int (nI M)), (8, .int 1), (7, .int (k.1 9)), (0, .ref (ca 0 0)), (1, .ref (cb 0 0)), (2, .int (nI n))]) [0, 2, 1, 3, 4, 5, 6] rfl ?_
        exact KX_wid (by omega) (by omega) (ih (i + 1) (by omega))
    exact KX_wid (by omega) (by omega) (L (M - 1) 0 (by omega))
