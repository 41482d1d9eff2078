/-! p29: what was told of pipes and orders comes so, and is undone. -/
abbrev RM_goes : Room := { frames := 10, cells := 200, slots := 1200, locals := 245 }
set_option maxHeartbeats 4000000 in
set_option maxRecDepth 100000 in
theorem goes_5 {p : Program} {l : Launch} {e : Env} {s : State} {m : MethodId} {args : Array Value} {below : List Frame} {meth : Method} {c : Code} {D : va_G} {cs : Nat → ClassId} {A : Nat → Prop} {Q : State → Prop} {ca cb : Nat → Nat → Nat} (hfl : l.stackTraces = false) {k : KC} {n M : Nat} (m0 : k.1 1 = nI M) (hM : M ≤ 12)  (hE : kE p s m args meth c D cs yL_goes wsN_goes cL_goes 14 (some .boolean) A) (kr : ∀ t, t ≤ 14 → ∀ (lv : List (Nat × Value)) (pc cells slots : Nat), cells ≤ 200 → slots ≤ 1200 → decode cL_goes pc = .ok (.ireturn, 1) → KX p l e RM_goes s m args below meth c D A 14 Q (f_2 (trm t k) (trm t k)) (w_2 cs ca cb) lv [.int 1] pc cells slots) : KX p l e RM_goes s m args below meth c D A 14 Q (fun u => ∃ t, t ≤ 14 ∧ f_2 (trm t k) (trm t k) u) (w_2 cs ca cb) [(9, .int (nI M)), (8, .int 1), (7, .int (k.1 9)), (0, .ref (ca 0 0)), (1, .ref (cb 0 0)), (2, .int (nI n))] [] 524 150 900 := by
  obtain ⟨hx, hb, hr, hlocks, hml, hown, hts, hK, hA, hG, hnm⟩ := id hE
  have hown : s.vm.findClass RL = some m.cls := hown
  refine KX_ex (fun t => ?_)
  refine KX_fact (F := t ≤ 14) (fun u hu => hu.1) (fun ht => ?_)
  refine KX_imp (Φ2 := f_2 (trm t k) (trm t k)) (fun u hu => hu.2) ?_
  refine KX_step (fun H locs ls hl => lv_iload hx hb dL_goes_524 (lv_at hl 1 rfl)) ?_
  refine KX_if (fun H locs ls hl => lv_if_eq (tgt := 560) hx hb dL_goes_526 (by decide)) (fun q => absurd q n10) (fun _ => ?_)
  refine KX_step (fun H locs ls hl => lv_aload_n hx hb dL_goes_529 rfl (lv_at hl 3 rfl)) ?_
  refine KX_step (fun H locs ls hl => lv_iconst (v := 2) hx hb dL_goes_530 (by decide)) ?_
  refine KX_step (fun H locs ls hl => lv_iconst (v := 1) hx hb dL_goes_531 (by decide)) ?_
  refine KX_step (fun H locs ls hl => lv_iconst (v := 0) hx hb dL_goes_532 (by decide)) ?_
  refine KX_step (fun H locs ls hl => lv_iconst (v := 0) hx hb dL_goes_533 (by decide)) ?_
  refine KX_call (cells2 := 151) (slots2 := 906) (st0 := [.int 0, .int 0, .int 1, .int 2, .ref (ca 0 0)]) (rest := []) hE rfl (sp2a (q_call_2 l hfl D cs ca 1 0 0 (fun cv hq => (F_about (c := trm t k) (i := 1) (by omega) cv hq).imp id (fun q => q.trans m0)))) (va_cwS 5 hts gN_goes_L_call rfl rfl rfl (by decide +kernel) ⟨(Nat.le_of_ble_eq_true rfl), (Nat.le_of_ble_eq_true rfl)⟩) rfl rfl (Nat.le_of_ble_eq_true rfl) ⟨(Nat.le_of_ble_eq_true rfl), (Nat.le_of_ble_eq_true rfl)⟩ dL_goes_534 (Nat.le_of_ble_eq_true rfl) (Nat.le_of_ble_eq_true rfl) ?_
  refine KX_step (fun H locs ls hl => lv_iload hx hb dL_goes_537 (lv_at hl 0 rfl)) ?_
  refine KX_if (fun H locs ls hl => lv_icmp_ne (tgt := 560) hx hb dL_goes_539 (by decide)) (fun q => absurd rfl q) (fun _ => ?_)
  refine KX_step (fun H locs ls hl => lv_aload_n hx hb dL_goes_542 rfl (lv_at hl 3 rfl)) ?_
  refine KX_step (fun H locs ls hl => lv_iconst (v := 2) hx hb dL_goes_543 (by decide)) ?_
  refine KX_step (fun H locs ls hl => lv_bipush (v := 9) hx hb dL_goes_544 (by decide)) ?_
  refine KX_step (fun H locs ls hl => lv_iconst (v := 0) hx hb dL_goes_546 (by decide)) ?_
  refine KX_step (fun H locs ls hl => lv_iconst (v := 0) hx hb dL_goes_547 (by decide)) ?_
  refine KX_call (cells2 := 152) (slots2 := 912) (st0 := [.int 0, .int 0, .int 9, .int 2, .ref (ca 0 0)]) (rest := []) hE rfl (sp2a (q_call_2 l hfl D cs ca 9 0 0 (F_about (c := trm t k) (i := 9) (by omega)))) (va_cwS 5 hts gN_goes_L_call rfl rfl rfl (by decide +kernel) ⟨(Nat.le_of_ble_eq_true rfl), (Nat.le_of_ble_eq_true rfl)⟩) rfl rfl (Nat.le_of_ble_eq_true rfl) ⟨(Nat.le_of_ble_eq_true rfl), (Nat.le_of_ble_eq_true rfl)⟩ dL_goes_548 (Nat.le_of_ble_eq_true rfl) (Nat.le_of_ble_eq_true rfl) ?_
  refine KX_step (fun H locs ls hl => lv_iload hx hb dL_goes_551 (lv_at hl 2 rfl)) ?_
  refine KX_if (fun H locs ls hl => lv_icmp_ne (tgt := 560) hx hb dL_goes_553 (by decide)) (fun q => absurd rfl q) (fun _ => ?_)
  refine KX_step (fun H locs ls hl => lv_iconst (v := 1) hx hb dL_goes_556 (by decide)) ?_
  refine KX_step (fun H locs ls hl => lv_goto (tgt := 561) hx hb dL_goes_557 (by decide)) ?_
  exact kr t ht _ _ _ _ (Nat.le_of_ble_eq_true rfl) (Nat.le_of_ble_eq_true rfl) dL_goes_561
set_option maxHeartbeats 4000000 in
set_option maxRecDepth 100000 in
theorem goes_4 {p : Program} {l : Launch} {e : Env} {s : State} {m : MethodId} {args : Array Value} {below : List Frame} {meth : Method} {c : Code} {D : va_G} {cs : Nat → ClassId} {A : Nat → Prop} {Q : State → Prop} {ca cb : Nat → Nat → Nat} (hfl : l.stackTraces = false) {k : KC} {n M : Nat} (m0 : k.1 1 = nI M) (hM : M ≤ 12) (hM0 : 0 < M) {t0 tau : Nat} (ht0 : t0 ≤ 2) (htau : tau ≤ 14)  (hE : kE p s m args meth c D cs yL_goes wsN_goes cL_goes 14 (some .boolean) A) (kr : ∀ t, t ≤ 14 → ∀ (lv : List (Nat × Value)) (pc cells slots : Nat), cells ≤ 200 → slots ≤ 1200 → decode cL_goes pc = .ok (.ireturn, 1) → KX p l e RM_goes s m args below meth c D A 14 Q (f_2 (trm t k) (trm t k)) (w_2 cs ca cb) lv [.int 1] pc cells slots) : KX p l e RM_goes s m args below meth c D A 14 Q (f_2 (trm t0 (cch (trm tau k) M (M - 1))) (trm t0 (cch (trm tau k) M (M - 1)))) (w_2 cs ca cb) [(9, .int (nI M)), (8, .int 1), (7, .int (k.1 9)), (0, .ref (ca 0 0)), (1, .ref (cb 0 0)), (2, .int (nI n))] [] 465 120 720 := by
  obtain ⟨hx, hb, hr, hlocks, hml, hown, hts, hK, hA, hG, hnm⟩ := id hE
  have hown : s.vm.findClass RL = some m.cls := hown
  refine KX_step (fun H locs ls hl => lv_iload hx hb dL_goes_465 (lv_at hl 0 rfl)) ?_
  refine KX_step (fun H locs ls hl => lv_iconst (v := 1) hx hb dL_goes_467 (by decide)) ?_
  refine KX_step (st1 := [.int (nI (M - 1))]) (fun H locs ls hl K => lv_isub hx hb dL_goes_468 (by rw [show ((nI M) - 1 : Int32) = (nI (M - 1)) from nI_sub (a := M) (b := 1) (by omega)]; exact K)) ?_
  refine KX_store (lv1 := [(13, .int (nI (M - 1))), (9, .int (nI M)), (8, .int 1), (7, .int (k.1 9)), (0, .ref (ca 0 0)), (1, .ref (cb 0 0)), (2, .int (nI n))]) (fun H locs ls hl K => lv_istore hx hb dL_goes_469 hl (by decide) rfl K) ?_
  refine KX_sub (lv1 := [(13, .int (nI (M - 1))), (9, .int (nI M)), (8, .int 1), (7, .int (k.1 9)), (0, .ref (ca 0 0)), (1, .ref (cb 0 0)), (2, .int (nI n))]) [0, 1, 2, 3, 4, 5, 6] rfl ?_
  have L : ∀ i, i ≤ M - 1 → KX p l e RM_goes s m args below meth c D A 14 Q (f_2 (trm (t0 + (M - 1 - i)) (cch (trm tau k) M i)) (trm (t0 + (M - 1 - i)) (cch (trm tau k) M i))) (w_2 cs ca cb) [(13, .int (nI i)), (9, .int (nI M)), (8, .int 1), (7, .int (k.1 9)), (0, .ref (ca 0 0)), (1, .ref (cb 0 0)), (2, .int (nI n))] [] 471 (120 + 2 * (12 - i)) (720 + 12 * (12 - i)) := by
    intro i
    induction i with
    | zero =>
      intro hi
      refine KX_step (fun H locs ls hl => lv_iload hx hb dL_goes_471 (lv_at hl 0 rfl)) ?_
      refine KX_if (fun H locs ls hl => lv_if_le (tgt := 524) hx hb dL_goes_473 (by decide)) (fun _ => ?_) (fun q => absurd (by decide) q)
      refine KX_sub (lv1 := [(9, .int (nI M)), (8, .int 1), (7, .int (k.1 9)), (0, .ref (ca 0 0)), (1, .ref (cb 0 0)), (2, .int (nI n))]) [1, 2, 3, 4, 5, 6] rfl ?_
      refine KX_imp (Φ2 := fun u => ∃ t, t ≤ 14 ∧ f_2 (trm t k) (trm t k) u) (fun u hu => ⟨max (t0 + (M - 1 - 0)) tau, by omega, by rw [← trm_trm]; exact hu⟩) ?_
      exact KX_wid (by omega) (by omega) (goes_5 hfl m0 hM hE kr)
    | succ i ih =>
      intro hi
      have hF : ∀ cv, QR cv (trm (t0 + (M - 1 - (i + 1))) (cch (trm tau k) M (i + 1))) → QR (k_X5_undo cv).2.2 (trm (t0 + (M - 1 - i)) (cch (trm tau k) M i)) ∧ aX (k_X5_undo cv) = nI ((trm (t0 + (M - 1 - (i + 1))) (cch (trm tau k) M (i + 1))).2.1.1 - 1) := fun cv hq => by
        have := F_undo_t (t := t0 + (M - 1 - (i + 1))) (c := cch (trm tau k) M i) (r := rwc k.1 M (i + 1)) (by omega) cv hq
        rw [show t0 + (M - 1 - (i + 1)) + 1 = t0 + (M - 1 - i) by omega] at this
        exact this
      refine KX_step (fun H locs ls hl => lv_iload hx hb dL_goes_471 (lv_at hl 0 rfl)) ?_
      refine KX_if (fun H locs ls hl => lv_if_le (tgt := 524) hx hb dL_goes_473 (by decide)) (fun q => absurd q (nI_nle (by omega) (by omega))) (fun _ => ?_)
      refine KX_step (fun H locs ls hl => lv_iload hx hb dL_goes_476 (lv_at hl 2 rfl)) ?_
      refine KX_if (fun H locs ls hl => lv_if_eq (tgt := 524) hx hb dL_goes_478 (by decide)) (fun q => absurd q n10) (fun _ => ?_)
      refine KX_step (fun H locs ls hl => lv_aload_n hx hb dL_goes_481 rfl (lv_at hl 4 rfl)) ?_
      refine KX_step (fun H locs ls hl => lv_bipush (v := 14) hx hb dL_goes_482 (by decide)) ?_
      refine KX_step (fun H locs ls hl => lv_iconst (v := 0) hx hb dL_goes_484 (by decide)) ?_
      refine KX_step (fun H locs ls hl => lv_iconst (v := 0) hx hb dL_goes_485 (by decide)) ?_
      refine KX_step (fun H locs ls hl => lv_iconst (v := 0) hx hb dL_goes_486 (by decide)) ?_
      refine KX_call (cells2 := 120 + 2 * (12 - (i + 1)) + 1) (slots2 := 720 + 12 * (12 - (i + 1)) + 6) (st0 := [.int 0, .int 0, .int 0, .int 14, .ref (ca 0 0)]) (rest := []) hE rfl (sp2a (q_call_14 l hfl D cs ca 0 0 0 hF)) (va_cwS 5 hts gN_goes_L_call rfl rfl rfl (by decide +kernel) ⟨(Nat.le_of_ble_eq_true rfl), (Nat.le_of_ble_eq_true rfl)⟩) rfl rfl (Nat.le_of_ble_eq_true rfl) ⟨(show 120 + 2 * (12 - (i + 1)) + 1 ≤ 200 by omega), (show 720 + 12 * (12 - (i + 1)) + 6 ≤ 1200 by omega)⟩ dL_goes_487 (by omega) (by omega) ?_
      refine KX_call (cells2 := 120 + 2 * (12 - (i + 1)) + 1) (slots2 := 720 + 12 * (12 - (i + 1)) + 6) (st0 := [.int (nI ((trm (t0 + (M - 1 - (i + 1))) (cch (trm tau k) M (i + 1))).2.1.1 - 1))]) (rest := []) hE rfl (sp0 (c_thrown l D cs (n := (trm (t0 + (M - 1 - (i + 1))) (cch (trm tau k) M (i + 1))).2.1.1 - 1) trm_lt)) (va_cwS 1 hts gN_goes_L_thrown rfl rfl rfl (by decide +kernel) ⟨(Nat.le_of_ble_eq_true rfl), (Nat.le_of_ble_eq_true rfl)⟩) rfl rfl (Nat.le_of_ble_eq_true rfl) ⟨(show 120 + 2 * (12 - (i + 1)) + 1 + 0 ≤ 200 by omega), (show 720 + 12 * (12 - (i + 1)) + 6 + 0 ≤ 1200 by omega)⟩ dL_goes_490 (by omega) (by omega) ?_
      refine KX_if (fun H locs ls hl => lv_if_ne (tgt := 515) hx hb dL_goes_493 (by decide)) (fun q => absurd rfl q) (fun _ => ?_)
      refine KX_step (fun H locs ls hl => lv_aload_n hx hb dL_goes_496 rfl (lv_at hl 5 rfl)) ?_
      refine KX_step (fun H locs ls hl => lv_bipush (v := 14) hx hb dL_goes_497 (by decide)) ?_
      refine KX_step (fun H locs ls hl => lv_iconst (v := 0) hx hb dL_goes_499 (by decide)) ?_
      refine KX_step (fun H locs ls hl => lv_iconst (v := 0) hx hb dL_goes_500 (by decide)) ?_
      refine KX_step (fun H locs ls hl => lv_iconst (v := 0) hx hb dL_goes_501 (by decide)) ?_
      refine KX_call (cells2 := 120 + 2 * (12 - (i + 1)) + 2) (slots2 := 720 + 12 * (12 - (i + 1)) + 12) (st0 := [.int 0, .int 0, .int 0, .int 14, .ref (cb 0 0)]) (rest := []) hE rfl (sp2b (q_call_14 l hfl D cs cb 0 0 0 hF)) (va_cwS 5 hts gN_goes_L_call rfl rfl rfl (by decide +kernel) ⟨(Nat.le_of_ble_eq_true rfl), (Nat.le_of_ble_eq_true rfl)⟩) rfl rfl (Nat.le_of_ble_eq_true rfl) ⟨(show 120 + 2 * (12 - (i + 1)) + 1 + 1 ≤ 200 by omega), (show 720 + 12 * (12 - (i + 1)) + 6 + 6 ≤ 1200 by omega)⟩ dL_goes_502 (by omega) (by omega) ?_
      refine KX_call (cells2 := 120 + 2 * (12 - (i + 1)) + 2) (slots2 := 720 + 12 * (12 - (i + 1)) + 12) (st0 := [.int (nI ((trm (t0 + (M - 1 - (i + 1))) (cch (trm tau k) M (i + 1))).2.1.1 - 1))]) (rest := []) hE rfl (sp0 (c_thrown l D cs (n := (trm (t0 + (M - 1 - (i + 1))) (cch (trm tau k) M (i + 1))).2.1.1 - 1) trm_lt)) (va_cwS 1 hts gN_goes_L_thrown rfl rfl rfl (by decide +kernel) ⟨(Nat.le_of_ble_eq_true rfl), (Nat.le_of_ble_eq_true rfl)⟩) rfl rfl (Nat.le_of_ble_eq_true rfl) ⟨(show 120 + 2 * (12 - (i + 1)) + 2 + 0 ≤ 200 by omega), (show 720 + 12 * (12 - (i + 1)) + 12 + 0 ≤ 1200 by omega)⟩ dL_goes_505 (by omega) (by omega) ?_
      refine KX_if (fun H locs ls hl => lv_if_ne (tgt := 515) hx hb dL_goes_508 (by decide)) (fun q => absurd rfl q) (fun _ => ?_)
      refine KX_step (fun H locs ls hl => lv_iconst (v := 1) hx hb dL_goes_511 (by decide)) ?_
      refine KX_step (fun H locs ls hl => lv_goto (tgt := 516) hx hb dL_goes_512 (by decide)) ?_
      refine KX_store (lv1 := [(8, .int 1), (13, .int (nI (i + 1))), (9, .int (nI M)), (7, .int (k.1 9)), (0, .ref (ca 0 0)), (1, .ref (cb 0 0)), (2, .int (nI n))]) (fun H locs ls hl K => lv_istore hx hb dL_goes_516 hl (by decide) rfl K) ?_
      refine KX_store (lv1 := [(13, .int (nI i)), (8, .int 1), (9, .int (nI M)), (7, .int (k.1 9)), (0, .ref (ca 0 0)), (1, .ref (cb 0 0)), (2, .int (nI n))]) (fun H locs ls hl K => lv_iinc (k := 1) (lv' := [(13, .int (nI i)), (8, .int 1), (9, .int (nI M)), (7, .int (k.1 9)), (0, .ref (ca 0 0)), (1, .ref (cb 0 0)), (2, .int (nI n))]) hx hb dL_goes_518 hl rfl (m1x (n := i + 1) (by omega)) (by decide) rfl K) ?_
      refine KX_step (fun H locs ls hl => lv_goto (tgt := 471) hx hb dL_goes_521 (by decide)) ?_
      refine KX_sub (lv1 := [(13, .int (nI i)), (9, .int (nI M)), (8, .int 1), (7, .int (k.1 9)), (0, .ref (ca 0 0)), (1, .ref (cb 0 0)), (2, .int (nI n))]) [0, 2, 1, 3, 4, 5, 6] rfl ?_
      exact KX_wid (by omega) (by omega) (ih (by omega))
  have h9 := L (M - 1) (Nat.le_refl _)
  rw [show t0 + (M - 1 - (M - 1)) = t0 by omega] at h9
  exact KX_wid (by omega) (by omega) h9
