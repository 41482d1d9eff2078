/-! p29: two organs wait, undo, are alike, tell the least speed. -/
abbrev RM_waits : Room := { frames := 9, cells := 4, slots := 24, locals := 219 }
set_option maxHeartbeats 4000000 in
set_option maxRecDepth 100000 in
theorem waits_1 {p : Program} {l : Launch} {e : Env} {s : State} {m : MethodId} {args : Array Value} {below : List Frame} {meth : Method} {c : Code} {D : va_G} {cs : Nat → ClassId} {A : Nat → Prop} {Q : State → Prop} {ca cb : Nat → Nat → Nat} (hfl : l.stackTraces = false) {k k2 : KC} {n d : Nat} (hn1 : 1 ≤ n) (hn2 : n ≤ 99) (hd : d ≤ 693) (hT : ∀ cv, QR cv k → QR (k_X5_ticks cv (nI n)).2.2 k2 ∧ aX (k_X5_ticks cv (nI n)) = nI d) (hE : kE p s m args meth c D cs yL_waits wsN_waits cL_waits 7 (some .boolean) A) (kr : ∀ (lv : List (Nat × Value)) (pc cells slots : Nat), cells ≤ 4 → slots ≤ 24 → decode cL_waits pc = .ok (.ireturn, 1) → KX p l e RM_waits s m args below meth c D A 7 Q (f_2 k2 k2) (w_2 cs ca cb) lv [.int 1] pc cells slots) : KX p l e RM_waits s m args below meth c D A 7 Q (f_2 k k) (w_2 cs ca cb) [(0, .ref (ca 0 0)), (1, .ref (cb 0 0)), (2, .int (nI n))] [] 0 0 0 := by
  obtain ⟨hx, hb, hr, hlocks, hml, hown, hts, hK, hA, hG, hnm⟩ := id hE
  have hown : s.vm.findClass RL = some m.cls := hown
  refine KX_step (fun H locs ls hl => lv_iconst (v := 1) hx hb dL_waits_0 (by decide)) ?_
  refine KX_store (lv1 := [(3, .int 1), (0, .ref (ca 0 0)), (1, .ref (cb 0 0)), (2, .int (nI n))]) (fun H locs ls hl K => lv_istore_n hx hb dL_waits_1 rfl hl (by decide) rfl K) ?_
  refine KX_step (fun H locs ls hl => lv_iload_n hx hb dL_waits_2 rfl (lv_at hl 3 rfl)) ?_
  refine KX_store (lv1 := [(4, .int (nI n)), (3, .int 1), (0, .ref (ca 0 0)), (1, .ref (cb 0 0)), (2, .int (nI n))]) (fun H locs ls hl K => lv_istore hx hb dL_waits_3 hl (by decide) rfl K) ?_
  refine KX_step (fun H locs ls hl => lv_iload hx hb dL_waits_5 (lv_at hl 0 rfl)) ?_
  refine KX_if (fun H locs ls hl => lv_if_le (tgt := 74) hx hb dL_waits_7 (by decide)) (fun q => absurd q (nI_nle (by omega) (by omega))) (fun _ => ?_)
  refine KX_step (fun H locs ls hl => lv_iload_n hx hb dL_waits_10 rfl (lv_at hl 1 rfl)) ?_
  refine KX_if (fun H locs ls hl => lv_if_eq (tgt := 74) hx hb dL_waits_11 (by decide)) (fun q => absurd q (by decide)) (fun _ => ?_)
  refine KX_step (fun H locs ls hl => lv_iload hx hb dL_waits_14 (lv_at hl 0 rfl)) ?_
  refine KX_step (fun H locs ls hl => lv_bipush (v := 99) hx hb dL_waits_16 (by decide)) ?_
  refine KX_if (fun H locs ls hl => lv_icmp_le (tgt := 26) hx hb dL_waits_18 (by decide)) (fun _ => ?_) (fun q => absurd (nI_le (b := 99) hn2 (by omega)) q)
  refine KX_step (fun H locs ls hl => lv_iload hx hb dL_waits_26 (lv_at hl 0 rfl)) ?_
  refine KX_store (lv1 := [(5, .int (nI n)), (4, .int (nI n)), (3, .int 1), (0, .ref (ca 0 0)), (1, .ref (cb 0 0)), (2, .int (nI n))]) (fun H locs ls hl K => lv_istore hx hb dL_waits_28 hl (by decide) rfl K) ?_
  refine KX_step (fun H locs ls hl => lv_aload_n hx hb dL_waits_30 rfl (lv_at hl 3 rfl)) ?_
  refine KX_step (fun H locs ls hl => lv_bipush (v := 12) hx hb dL_waits_31 (by decide)) ?_
  refine KX_step (fun H locs ls hl => lv_iload hx hb dL_waits_33 (lv_at hl 0 rfl)) ?_
  refine KX_step (fun H locs ls hl => lv_iconst (v := 0) hx hb dL_waits_35 (by decide)) ?_
  refine KX_step (fun H locs ls hl => lv_iconst (v := 0) hx hb dL_waits_36 (by decide)) ?_
  refine KX_call (cells2 := 1) (slots2 := 6) (st0 := [.int 0, .int 0, .int (nI n), .int 12, .ref (ca 0 0)]) (rest := []) hE rfl (sp2a (q_call_12 l hfl D cs ca (nI n) 0 0 hT)) (va_cwS 5 hts gN_waits_L_call rfl rfl rfl (by decide +kernel) ⟨(Nat.le_of_ble_eq_true rfl), (Nat.le_of_ble_eq_true rfl)⟩) rfl rfl (Nat.le_of_ble_eq_true rfl) ⟨(Nat.le_of_ble_eq_true rfl), (Nat.le_of_ble_eq_true rfl)⟩ dL_waits_37 (Nat.le_of_ble_eq_true rfl) (Nat.le_of_ble_eq_true rfl) ?_
  refine KX_store (lv1 := [(6, .int (nI d)), (5, .int (nI n)), (4, .int (nI n)), (3, .int 1), (0, .ref (ca 0 0)), (1, .ref (cb 0 0)), (2, .int (nI n))]) (fun H locs ls hl K => lv_istore hx hb dL_waits_40 hl (by decide) rfl K) ?_
  refine KX_step (fun H locs ls hl => lv_iload hx hb dL_waits_42 (lv_at hl 0 rfl)) ?_
  refine KX_if (fun H locs ls hl => lv_if_lt (tgt := 66) hx hb dL_waits_44 (by decide)) (fun q => absurd q (nI_pos (by omega))) (fun _ => ?_)
  refine KX_step (fun H locs ls hl => lv_aload_n hx hb dL_waits_47 rfl (lv_at hl 5 rfl)) ?_
  refine KX_step (fun H locs ls hl => lv_bipush (v := 12) hx hb dL_waits_48 (by decide)) ?_
  refine KX_step (fun H locs ls hl => lv_iload hx hb dL_waits_50 (lv_at hl 1 rfl)) ?_
  refine KX_step (fun H locs ls hl => lv_iconst (v := 0) hx hb dL_waits_52 (by decide)) ?_
  refine KX_step (fun H locs ls hl => lv_iconst (v := 0) hx hb dL_waits_53 (by decide)) ?_
  refine KX_call (cells2 := 2) (slots2 := 12) (st0 := [.int 0, .int 0, .int (nI n), .int 12, .ref (cb 0 0)]) (rest := []) hE rfl (sp2b (q_call_12 l hfl D cs cb (nI n) 0 0 hT)) (va_cwS 5 hts gN_waits_L_call rfl rfl rfl (by decide +kernel) ⟨(Nat.le_of_ble_eq_true rfl), (Nat.le_of_ble_eq_true rfl)⟩) rfl rfl (Nat.le_of_ble_eq_true rfl) ⟨(Nat.le_of_ble_eq_true rfl), (Nat.le_of_ble_eq_true rfl)⟩ dL_waits_54 (Nat.le_of_ble_eq_true rfl) (Nat.le_of_ble_eq_true rfl) ?_
  refine KX_step (fun H locs ls hl => lv_iload hx hb dL_waits_57 (lv_at hl 0 rfl)) ?_
  refine KX_if (fun H locs ls hl => lv_icmp_ne (tgt := 66) hx hb dL_waits_59 (by decide)) (fun q => absurd rfl q) (fun _ => ?_)
  refine KX_step (fun H locs ls hl => lv_iconst (v := 1) hx hb dL_waits_62 (by decide)) ?_
  refine KX_step (fun H locs ls hl => lv_goto (tgt := 67) hx hb dL_waits_63 (by decide)) ?_
  refine KX_store (lv1 := [(3, .int 1), (6, .int (nI d)), (5, .int (nI n)), (4, .int (nI n)), (0, .ref (ca 0 0)), (1, .ref (cb 0 0)), (2, .int (nI n))]) (fun H locs ls hl K => lv_istore_n hx hb dL_waits_67 rfl hl (by decide) rfl K) ?_
  refine KX_store (lv1 := [(4, .int (nI n + Int32.ofInt (-99))), (3, .int 1), (6, .int (nI d)), (5, .int (nI n)), (0, .ref (ca 0 0)), (1, .ref (cb 0 0)), (2, .int (nI n))]) (fun H locs ls hl K => lv_iinc (k := 3) (lv' := [(4, .int (nI n + Int32.ofInt (-99))), (3, .int 1), (6, .int (nI d)), (5, .int (nI n)), (0, .ref (ca 0 0)), (1, .ref (cb 0 0)), (2, .int (nI n))]) hx hb dL_waits_68 hl rfl rfl (by decide) rfl K) ?_
  refine KX_step (fun H locs ls hl => lv_goto (tgt := 5) hx hb dL_waits_71 (by decide)) ?_
  refine KX_step (fun H locs ls hl => lv_iload hx hb dL_waits_5 (lv_at hl 0 rfl)) ?_
  refine KX_if (fun H locs ls hl => lv_if_le (tgt := 74) hx hb dL_waits_7 (by decide)) (fun _ => ?_) (fun q => absurd (m99 hn2) q)
  refine KX_step (fun H locs ls hl => lv_iload_n hx hb dL_waits_74 rfl (lv_at hl 1 rfl)) ?_
  exact kr _ _ _ _ (Nat.le_of_ble_eq_true rfl) (Nat.le_of_ble_eq_true rfl) dL_waits_75
set_option maxHeartbeats 4000000 in
set_option maxRecDepth 100000 in
theorem waits_2 {p : Program} {l : Launch} {e : Env} {s : State} {m : MethodId} {args : Array Value} {below : List Frame} {meth : Method} {c : Code} {D : va_G} {cs : Nat → ClassId} {A : Nat → Prop} {Q : State → Prop} {ca cb : Nat → Nat → Nat} (hfl : l.stackTraces = false) {k k2 k3 : KC} {d d2 : Nat} (hd : d ≤ 693) (hd2 : d2 ≤ 693) (hT : ∀ cv, QR cv k → QR (k_X5_ticks cv (nI 99)).2.2 k2 ∧ aX (k_X5_ticks cv (nI 99)) = nI d) (hT2 : ∀ cv, QR cv k2 → QR (k_X5_ticks cv 1).2.2 k3 ∧ aX (k_X5_ticks cv 1) = nI d2) (hE : kE p s m args meth c D cs yL_waits wsN_waits cL_waits 7 (some .boolean) A) (kr : ∀ (lv : List (Nat × Value)) (pc cells slots : Nat), cells ≤ 4 → slots ≤ 24 → decode cL_waits pc = .ok (.ireturn, 1) → KX p l e RM_waits s m args below meth c D A 7 Q (f_2 k3 k3) (w_2 cs ca cb) lv [.int 1] pc cells slots) : KX p l e RM_waits s m args below meth c D A 7 Q (f_2 k k) (w_2 cs ca cb) [(0, .ref (ca 0 0)), (1, .ref (cb 0 0)), (2, .int (nI 100))] [] 0 0 0 := by
  obtain ⟨hx, hb, hr, hlocks, hml, hown, hts, hK, hA, hG, hnm⟩ := id hE
  have hown : s.vm.findClass RL = some m.cls := hown
  refine KX_step (fun H locs ls hl => lv_iconst (v := 1) hx hb dL_waits_0 (by decide)) ?_
  refine KX_store (lv1 := [(3, .int 1), (0, .ref (ca 0 0)), (1, .ref (cb 0 0)), (2, .int (nI 100))]) (fun H locs ls hl K => lv_istore_n hx hb dL_waits_1 rfl hl (by decide) rfl K) ?_
  refine KX_step (fun H locs ls hl => lv_iload_n hx hb dL_waits_2 rfl (lv_at hl 3 rfl)) ?_
  refine KX_store (lv1 := [(4, .int (nI 100)), (3, .int 1), (0, .ref (ca 0 0)), (1, .ref (cb 0 0)), (2, .int (nI 100))]) (fun H locs ls hl K => lv_istore hx hb dL_waits_3 hl (by decide) rfl K) ?_
  refine KX_step (fun H locs ls hl => lv_iload hx hb dL_waits_5 (lv_at hl 0 rfl)) ?_
  refine KX_if (fun H locs ls hl => lv_if_le (tgt := 74) hx hb dL_waits_7 (by decide)) (fun q => absurd q (by decide)) (fun _ => ?_)
  refine KX_step (fun H locs ls hl => lv_iload_n hx hb dL_waits_10 rfl (lv_at hl 1 rfl)) ?_
  refine KX_if (fun H locs ls hl => lv_if_eq (tgt := 74) hx hb dL_waits_11 (by decide)) (fun q => absurd q (by decide)) (fun _ => ?_)
  refine KX_step (fun H locs ls hl => lv_iload hx hb dL_waits_14 (lv_at hl 0 rfl)) ?_
  refine KX_step (fun H locs ls hl => lv_bipush (v := 99) hx hb dL_waits_16 (by decide)) ?_
  refine KX_if (fun H locs ls hl => lv_icmp_le (tgt := 26) hx hb dL_waits_18 (by decide)) (fun q => absurd q (by decide)) (fun _ => ?_)
  refine KX_step (fun H locs ls hl => lv_bipush (v := (nI 99)) hx hb dL_waits_21 (by decide)) ?_
  refine KX_step (fun H locs ls hl => lv_goto (tgt := 28) hx hb dL_waits_23 (by decide)) ?_
  refine KX_store (lv1 := [(5, .int (nI 99)), (4, .int (nI 100)), (3, .int 1), (0, .ref (ca 0 0)), (1, .ref (cb 0 0)), (2, .int (nI 100))]) (fun H locs ls hl K => lv_istore hx hb dL_waits_28 hl (by decide) rfl K) ?_
  refine KX_step (fun H locs ls hl => lv_aload_n hx hb dL_waits_30 rfl (lv_at hl 3 rfl)) ?_
  refine KX_step (fun H locs ls hl => lv_bipush (v := 12) hx hb dL_waits_31 (by decide)) ?_
  refine KX_step (fun H locs ls hl => lv_iload hx hb dL_waits_33 (lv_at hl 0 rfl)) ?_
  refine KX_step (fun H locs ls hl => lv_iconst (v := 0) hx hb dL_waits_35 (by decide)) ?_
  refine KX_step (fun H locs ls hl => lv_iconst (v := 0) hx hb dL_waits_36 (by decide)) ?_
  refine KX_call (cells2 := 1) (slots2 := 6) (st0 := [.int 0, .int 0, .int (nI 99), .int 12, .ref (ca 0 0)]) (rest := []) hE rfl (sp2a (q_call_12 l hfl D cs ca (nI 99) 0 0 hT)) (va_cwS 5 hts gN_waits_L_call rfl rfl rfl (by decide +kernel) ⟨(Nat.le_of_ble_eq_true rfl), (Nat.le_of_ble_eq_true rfl)⟩) rfl rfl (Nat.le_of_ble_eq_true rfl) ⟨(Nat.le_of_ble_eq_true rfl), (Nat.le_of_ble_eq_true rfl)⟩ dL_waits_37 (Nat.le_of_ble_eq_true rfl) (Nat.le_of_ble_eq_true rfl) ?_
  refine KX_store (lv1 := [(6, .int (nI d)), (5, .int (nI 99)), (4, .int (nI 100)), (3, .int 1), (0, .ref (ca 0 0)), (1, .ref (cb 0 0)), (2, .int (nI 100))]) (fun H locs ls hl K => lv_istore hx hb dL_waits_40 hl (by decide) rfl K) ?_
  refine KX_step (fun H locs ls hl => lv_iload hx hb dL_waits_42 (lv_at hl 0 rfl)) ?_
  refine KX_if (fun H locs ls hl => lv_if_lt (tgt := 66) hx hb dL_waits_44 (by decide)) (fun q => absurd q (nI_pos (by omega))) (fun _ => ?_)
  refine KX_step (fun H locs ls hl => lv_aload_n hx hb dL_waits_47 rfl (lv_at hl 5 rfl)) ?_
  refine KX_step (fun H locs ls hl => lv_bipush (v := 12) hx hb dL_waits_48 (by decide)) ?_
  refine KX_step (fun H locs ls hl => lv_iload hx hb dL_waits_50 (lv_at hl 1 rfl)) ?_
  refine KX_step (fun H locs ls hl => lv_iconst (v := 0) hx hb dL_waits_52 (by decide)) ?_
  refine KX_step (fun H locs ls hl => lv_iconst (v := 0) hx hb dL_waits_53 (by decide)) ?_
  refine KX_call (cells2 := 2) (slots2 := 12) (st0 := [.int 0, .int 0, .int (nI 99), .int 12, .ref (cb 0 0)]) (rest := []) hE rfl (sp2b (q_call_12 l hfl D cs cb (nI 99) 0 0 hT)) (va_cwS 5 hts gN_waits_L_call rfl rfl rfl (by decide +kernel) ⟨(Nat.le_of_ble_eq_true rfl), (Nat.le_of_ble_eq_true rfl)⟩) rfl rfl (Nat.le_of_ble_eq_true rfl) ⟨(Nat.le_of_ble_eq_true rfl), (Nat.le_of_ble_eq_true rfl)⟩ dL_waits_54 (Nat.le_of_ble_eq_true rfl) (Nat.le_of_ble_eq_true rfl) ?_
  refine KX_step (fun H locs ls hl => lv_iload hx hb dL_waits_57 (lv_at hl 0 rfl)) ?_
  refine KX_if (fun H locs ls hl => lv_icmp_ne (tgt := 66) hx hb dL_waits_59 (by decide)) (fun q => absurd rfl q) (fun _ => ?_)
  refine KX_step (fun H locs ls hl => lv_iconst (v := 1) hx hb dL_waits_62 (by decide)) ?_
  refine KX_step (fun H locs ls hl => lv_goto (tgt := 67) hx hb dL_waits_63 (by decide)) ?_
  refine KX_store (lv1 := [(3, .int 1), (6, .int (nI d)), (5, .int (nI 99)), (4, .int (nI 100)), (0, .ref (ca 0 0)), (1, .ref (cb 0 0)), (2, .int (nI 100))]) (fun H locs ls hl K => lv_istore_n hx hb dL_waits_67 rfl hl (by decide) rfl K) ?_
  refine KX_store (lv1 := [(4, .int 1), (3, .int 1), (6, .int (nI d)), (5, .int (nI 99)), (0, .ref (ca 0 0)), (1, .ref (cb 0 0)), (2, .int (nI 100))]) (fun H locs ls hl K => lv_iinc (k := 3) (lv' := [(4, .int 1), (3, .int 1), (6, .int (nI d)), (5, .int (nI 99)), (0, .ref (ca 0 0)), (1, .ref (cb 0 0)), (2, .int (nI 100))]) hx hb dL_waits_68 hl rfl (by decide) (by decide) rfl K) ?_
  refine KX_step (fun H locs ls hl => lv_goto (tgt := 5) hx hb dL_waits_71 (by decide)) ?_
  refine KX_step (fun H locs ls hl => lv_iload hx hb dL_waits_5 (lv_at hl 0 rfl)) ?_
  refine KX_if (fun H locs ls hl => lv_if_le (tgt := 74) hx hb dL_waits_7 (by decide)) (fun q => absurd q (by decide)) (fun _ => ?_)
  refine KX_step (fun H locs ls hl => lv_iload_n hx hb dL_waits_10 rfl (lv_at hl 1 rfl)) ?_
  refine KX_if (fun H locs ls hl => lv_if_eq (tgt := 74) hx hb dL_waits_11 (by decide)) (fun q => absurd q (by decide)) (fun _ => ?_)
  refine KX_step (fun H locs ls hl => lv_iload hx hb dL_waits_14 (lv_at hl 0 rfl)) ?_
  refine KX_step (fun H locs ls hl => lv_bipush (v := 99) hx hb dL_waits_16 (by decide)) ?_
  refine KX_if (fun H locs ls hl => lv_icmp_le (tgt := 26) hx hb dL_waits_18 (by decide)) (fun _ => ?_) (fun q => absurd (by decide) q)
  refine KX_step (fun H locs ls hl => lv_iload hx hb dL_waits_26 (lv_at hl 0 rfl)) ?_
  refine KX_store (lv1 := [(5, .int 1), (4, .int 1), (3, .int 1), (6, .int (nI d)), (0, .ref (ca 0 0)), (1, .ref (cb 0 0)), (2, .int (nI 100))]) (fun H locs ls hl K => lv_istore hx hb dL_waits_28 hl (by decide) rfl K) ?_
  refine KX_step (fun H locs ls hl => lv_aload_n hx hb dL_waits_30 rfl (lv_at hl 4 rfl)) ?_
  refine KX_step (fun H locs ls hl => lv_bipush (v := 12) hx hb dL_waits_31 (by decide)) ?_
  refine KX_step (fun H locs ls hl => lv_iload hx hb dL_waits_33 (lv_at hl 0 rfl)) ?_
  refine KX_step (fun H locs ls hl => lv_iconst (v := 0) hx hb dL_waits_35 (by decide)) ?_
  refine KX_step (fun H locs ls hl => lv_iconst (v := 0) hx hb dL_waits_36 (by decide)) ?_
  refine KX_call (cells2 := 3) (slots2 := 18) (st0 := [.int 0, .int 0, .int 1, .int 12, .ref (ca 0 0)]) (rest := []) hE rfl (sp2a (q_call_12 l hfl D cs ca 1 0 0 hT2)) (va_cwS 5 hts gN_waits_L_call rfl rfl rfl (by decide +kernel) ⟨(Nat.le_of_ble_eq_true rfl), (Nat.le_of_ble_eq_true rfl)⟩) rfl rfl (Nat.le_of_ble_eq_true rfl) ⟨(Nat.le_of_ble_eq_true rfl), (Nat.le_of_ble_eq_true rfl)⟩ dL_waits_37 (Nat.le_of_ble_eq_true rfl) (Nat.le_of_ble_eq_true rfl) ?_
  refine KX_store (lv1 := [(6, .int (nI d2)), (5, .int 1), (4, .int 1), (3, .int 1), (0, .ref (ca 0 0)), (1, .ref (cb 0 0)), (2, .int (nI 100))]) (fun H locs ls hl K => lv_istore hx hb dL_waits_40 hl (by decide) rfl K) ?_
  refine KX_step (fun H locs ls hl => lv_iload hx hb dL_waits_42 (lv_at hl 0 rfl)) ?_
  refine KX_if (fun H locs ls hl => lv_if_lt (tgt := 66) hx hb dL_waits_44 (by decide)) (fun q => absurd q (nI_pos (by omega))) (fun _ => ?_)
  refine KX_step (fun H locs ls hl => lv_aload_n hx hb dL_waits_47 rfl (lv_at hl 5 rfl)) ?_
  refine KX_step (fun H locs ls hl => lv_bipush (v := 12) hx hb dL_waits_48 (by decide)) ?_
  refine KX_step (fun H locs ls hl => lv_iload hx hb dL_waits_50 (lv_at hl 1 rfl)) ?_
  refine KX_step (fun H locs ls hl => lv_iconst (v := 0) hx hb dL_waits_52 (by decide)) ?_
  refine KX_step (fun H locs ls hl => lv_iconst (v := 0) hx hb dL_waits_53 (by decide)) ?_
  refine KX_call (cells2 := 4) (slots2 := 24) (st0 := [.int 0, .int 0, .int 1, .int 12, .ref (cb 0 0)]) (rest := []) hE rfl (sp2b (q_call_12 l hfl D cs cb 1 0 0 hT2)) (va_cwS 5 hts gN_waits_L_call rfl rfl rfl (by decide +kernel) ⟨(Nat.le_of_ble_eq_true rfl), (Nat.le_of_ble_eq_true rfl)⟩) rfl rfl (Nat.le_of_ble_eq_true rfl) ⟨(Nat.le_of_ble_eq_true rfl), (Nat.le_of_ble_eq_true rfl)⟩ dL_waits_54 (Nat.le_of_ble_eq_true rfl) (Nat.le_of_ble_eq_true rfl) ?_
  refine KX_step (fun H locs ls hl => lv_iload hx hb dL_waits_57 (lv_at hl 0 rfl)) ?_
  refine KX_if (fun H locs ls hl => lv_icmp_ne (tgt := 66) hx hb dL_waits_59 (by decide)) (fun q => absurd rfl q) (fun _ => ?_)
  refine KX_step (fun H locs ls hl => lv_iconst (v := 1) hx hb dL_waits_62 (by decide)) ?_
  refine KX_step (fun H locs ls hl => lv_goto (tgt := 67) hx hb dL_waits_63 (by decide)) ?_
  refine KX_store (lv1 := [(3, .int 1), (6, .int (nI d2)), (5, .int 1), (4, .int 1), (0, .ref (ca 0 0)), (1, .ref (cb 0 0)), (2, .int (nI 100))]) (fun H locs ls hl K => lv_istore_n hx hb dL_waits_67 rfl hl (by decide) rfl K) ?_
  refine KX_store (lv1 := [(4, .int (-98)), (3, .int 1), (6, .int (nI d2)), (5, .int 1), (0, .ref (ca 0 0)), (1, .ref (cb 0 0)), (2, .int (nI 100))]) (fun H locs ls hl K => lv_iinc (k := 3) (lv' := [(4, .int (-98)), (3, .int 1), (6, .int (nI d2)), (5, .int 1), (0, .ref (ca 0 0)), (1, .ref (cb 0 0)), (2, .int (nI 100))]) hx hb dL_waits_68 hl rfl (by decide) (by decide) rfl K) ?_
  refine KX_step (fun H locs ls hl => lv_goto (tgt := 5) hx hb dL_waits_71 (by decide)) ?_
  refine KX_step (fun H locs ls hl => lv_iload hx hb dL_waits_5 (lv_at hl 0 rfl)) ?_
  refine KX_if (fun H locs ls hl => lv_if_le (tgt := 74) hx hb dL_waits_7 (by decide)) (fun _ => ?_) (fun q => absurd (by decide) q)
  refine KX_step (fun H locs ls hl => lv_iload_n hx hb dL_waits_74 rfl (lv_at hl 1 rfl)) ?_
  exact kr _ _ _ _ (Nat.le_of_ble_eq_true rfl) (Nat.le_of_ble_eq_true rfl) dL_waits_75
theorem wtk_b {c : KC} {n : Nat} (h : ¬ n ≤ 99) : wtk c n = psh (psh c (itS 99 c.1)) (itS 1 (itS 99 c.1))   := if_neg h
theorem psh_1 {c : KC} {r : KR} : (psh c r).1 = r := rfl
theorem c_waits (l : Launch) (hfl : l.stackTraces = false) (D : va_G) (cs : Nat → ClassId) (ca cb : Nat → Nat → Nat) {k : KC} {n : Nat} (hn1 : 1 ≤ n) (hn2 : n ≤ 100) : k2 l yL_waits wsN_waits RM_waits 4 24 D cs ca cb [.ref (ca 0 0), .ref (cb 0 0), .int (nI n)] 1 k k (wtk k n) (wtk k n) := by
  intro v hv
  by_cases h9 : n ≤ 99
  · obtain ⟨d, hd, hT⟩ := R_ticks hv.1 hn1 h9
    rw [show wtk k n = psh k (itS n k.1) from if_pos h9]
    exact kQ_of (U := CV × CV) (Φ := f_2 k k) (wc := w_2 cs ca cb) (cc := cL_waits) (maxL := 7) (ret := some .boolean) (by decide) rfl (Nat.le_of_ble_eq_true rfl) (fun p e s m below meth c A hE => waits_1 hfl hn1 h9 hd hT hE (fun lv pc cells slots h1 h2 hd => KX_ret (r := 1) (Φ1 := f_2 (psh k (itS n k.1)) (psh k (itS n k.1))) (w1 := w_2 cs ca cb) hE rfl rfl (fun u hu => ⟨u, hu, List.Perm.refl _⟩) h1 h2 hd)) v hv
  · have : n = 100 := by omega
    subst this
    obtain ⟨d, hd, hT⟩ := R_ticks hv.1 (v := 99) (by omega) (by omega)
    obtain ⟨d2, hd2, hT2⟩ := R_ticks (hT v.1 hv.1).1 (v := 1) (by omega) (by omega)
    rw [psh_1] at hT2
    rw [wtk_b (show ¬ 100 ≤ 99 by omega)]
    generalize itS 99 k.1 = r9 at hT hT2 ⊢
    generalize itS 1 r9 = r10 at hT2 ⊢
    exact kQ_of (U := CV × CV) (Φ := f_2 k k) (wc := w_2 cs ca cb) (cc := cL_waits) (maxL := 7) (ret := some .boolean) (by decide) rfl (Nat.le_of_ble_eq_true rfl) (fun p e s m below meth c A hE => waits_2 (k := k) (k2 := psh k r9) (k3 := psh (psh k r9) r10) hfl hd hd2 hT hT2 hE (fun lv pc cells slots h1 h2 hd => KX_ret (r := 1) (Φ1 := f_2 (psh (psh k r9) r10) (psh (psh k r9) r10)) (w1 := w_2 cs ca cb) hE rfl rfl (fun u hu => ⟨u, hu, List.Perm.refl _⟩) h1 h2 hd)) v hv
abbrev RM_undoes : Room := { frames := 9, cells := 4, slots := 24, locals := 209 }
set_option maxHeartbeats 4000000 in
set_option maxRecDepth 100000 in
theorem undoes_1 {p : Program} {l : Launch} {e : Env} {s : State} {m : MethodId} {args : Array Value} {below : List Frame} {meth : Method} {c : Code} {D : va_G} {cs : Nat → ClassId} {A : Nat → Prop} {Q : State → Prop} {ca cb : Nat → Nat → Nat} (hfl : l.stackTraces = false) {k k2 : KC} {n d : Nat} (hn1 : 1 ≤ n) (hn2 : n ≤ 99) (hd : d ≤ 14) (hT : ∀ cv, QR cv k → QR (k_X5_undo cv).2.2 k2 ∧ aX (k_X5_undo cv) = nI d) (hE : kE p s m args meth c D cs yL_undoes wsN_undoes cL_undoes 5 (some .boolean) A) (kr : ∀ (lv : List (Nat × Value)) (pc cells slots : Nat), cells ≤ 4 → slots ≤ 24 → decode cL_undoes pc = .ok (.ireturn, 1) → KX p l e RM_undoes s m args below meth c D A 5 Q (f_2 k2 k2) (w_2 cs ca cb) lv [.int 1] pc cells slots) : KX p l e RM_undoes s m args below meth c D A 5 Q (f_2 k k) (w_2 cs ca cb) [(0, .ref (ca 0 0)), (1, .ref (cb 0 0)), (2, .int (nI n))] [] 0 0 0 := by
  obtain ⟨hx, hb, hr, hlocks, hml, hown, hts, hK, hA, hG, hnm⟩ := id hE
  have hown : s.vm.findClass RL = some m.cls := hown
  refine KX_step (fun H locs ls hl => lv_iconst (v := 1) hx hb dL_undoes_0 (by decide)) ?_
  refine KX_store (lv1 := [(3, .int 1), (0, .ref (ca 0 0)), (1, .ref (cb 0 0)), (2, .int (nI n))]) (fun H locs ls hl K => lv_istore_n hx hb dL_undoes_1 rfl hl (by decide) rfl K) ?_
  refine KX_step (fun H locs ls hl => lv_iload_n hx hb dL_undoes_2 rfl (lv_at hl 3 rfl)) ?_
  refine KX_store (lv1 := [(4, .int (nI n)), (3, .int 1), (0, .ref (ca 0 0)), (1, .ref (cb 0 0)), (2, .int (nI n))]) (fun H locs ls hl K => lv_istore hx hb dL_undoes_3 hl (by decide) rfl K) ?_
  refine KX_step (fun H locs ls hl => lv_iload hx hb dL_undoes_5 (lv_at hl 0 rfl)) ?_
  refine KX_if (fun H locs ls hl => lv_if_le (tgt := 56) hx hb dL_undoes_7 (by decide)) (fun q => absurd q (nI_nle (by omega) (by omega))) (fun _ => ?_)
  refine KX_step (fun H locs ls hl => lv_iload_n hx hb dL_undoes_10 rfl (lv_at hl 1 rfl)) ?_
  refine KX_if (fun H locs ls hl => lv_if_eq (tgt := 56) hx hb dL_undoes_11 (by decide)) (fun q => absurd q (by decide)) (fun _ => ?_)
  refine KX_step (fun H locs ls hl => lv_aload_n hx hb dL_undoes_14 rfl (lv_at hl 2 rfl)) ?_
  refine KX_step (fun H locs ls hl => lv_bipush (v := 14) hx hb dL_undoes_15 (by decide)) ?_
  refine KX_step (fun H locs ls hl => lv_iconst (v := 0) hx hb dL_undoes_17 (by decide)) ?_
  refine KX_step (fun H locs ls hl => lv_iconst (v := 0) hx hb dL_undoes_18 (by decide)) ?_
  refine KX_step (fun H locs ls hl => lv_iconst (v := 0) hx hb dL_undoes_19 (by decide)) ?_
  refine KX_call (cells2 := 1) (slots2 := 6) (st0 := [.int 0, .int 0, .int 0, .int 14, .ref (ca 0 0)]) (rest := []) hE rfl (sp2a (q_call_14 l hfl D cs ca 0 0 0 hT)) (va_cwS 5 hts gN_undoes_L_call rfl rfl rfl (by decide +kernel) ⟨(Nat.le_of_ble_eq_true rfl), (Nat.le_of_ble_eq_true rfl)⟩) rfl rfl (Nat.le_of_ble_eq_true rfl) ⟨(Nat.le_of_ble_eq_true rfl), (Nat.le_of_ble_eq_true rfl)⟩ dL_undoes_20 (Nat.le_of_ble_eq_true rfl) (Nat.le_of_ble_eq_true rfl) ?_
  refine KX_call (cells2 := 1) (slots2 := 6) (st0 := [.int (nI d)]) (rest := []) hE rfl (sp0 (c_thrown l D cs (n := d) (by omega))) (va_cwS 1 hts gN_undoes_L_thrown rfl rfl rfl (by decide +kernel) ⟨(Nat.le_of_ble_eq_true rfl), (Nat.le_of_ble_eq_true rfl)⟩) rfl rfl (Nat.le_of_ble_eq_true rfl) ⟨(Nat.le_of_ble_eq_true rfl), (Nat.le_of_ble_eq_true rfl)⟩ dL_undoes_23 (Nat.le_of_ble_eq_true rfl) (Nat.le_of_ble_eq_true rfl) ?_
  refine KX_if (fun H locs ls hl => lv_if_ne (tgt := 48) hx hb dL_undoes_26 (by decide)) (fun q => absurd rfl q) (fun _ => ?_)
  refine KX_step (fun H locs ls hl => lv_aload_n hx hb dL_undoes_29 rfl (lv_at hl 3 rfl)) ?_
  refine KX_step (fun H locs ls hl => lv_bipush (v := 14) hx hb dL_undoes_30 (by decide)) ?_
  refine KX_step (fun H locs ls hl => lv_iconst (v := 0) hx hb dL_undoes_32 (by decide)) ?_
  refine KX_step (fun H locs ls hl => lv_iconst (v := 0) hx hb dL_undoes_33 (by decide)) ?_
  refine KX_step (fun H locs ls hl => lv_iconst (v := 0) hx hb dL_undoes_34 (by decide)) ?_
  refine KX_call (cells2 := 2) (slots2 := 12) (st0 := [.int 0, .int 0, .int 0, .int 14, .ref (cb 0 0)]) (rest := []) hE rfl (sp2b (q_call_14 l hfl D cs cb 0 0 0 hT)) (va_cwS 5 hts gN_undoes_L_call rfl rfl rfl (by decide +kernel) ⟨(Nat.le_of_ble_eq_true rfl), (Nat.le_of_ble_eq_true rfl)⟩) rfl rfl (Nat.le_of_ble_eq_true rfl) ⟨(Nat.le_of_ble_eq_true rfl), (Nat.le_of_ble_eq_true rfl)⟩ dL_undoes_35 (Nat.le_of_ble_eq_true rfl) (Nat.le_of_ble_eq_true rfl) ?_
  refine KX_call (cells2 := 2) (slots2 := 12) (st0 := [.int (nI d)]) (rest := []) hE rfl (sp0 (c_thrown l D cs (n := d) (by omega))) (va_cwS 1 hts gN_undoes_L_thrown rfl rfl rfl (by decide +kernel) ⟨(Nat.le_of_ble_eq_true rfl), (Nat.le_of_ble_eq_true rfl)⟩) rfl rfl (Nat.le_of_ble_eq_true rfl) ⟨(Nat.le_of_ble_eq_true rfl), (Nat.le_of_ble_eq_true rfl)⟩ dL_undoes_38 (Nat.le_of_ble_eq_true rfl) (Nat.le_of_ble_eq_true rfl) ?_
  refine KX_if (fun H locs ls hl => lv_if_ne (tgt := 48) hx hb dL_undoes_41 (by decide)) (fun q => absurd rfl q) (fun _ => ?_)
  refine KX_step (fun H locs ls hl => lv_iconst (v := 1) hx hb dL_undoes_44 (by decide)) ?_
  refine KX_step (fun H locs ls hl => lv_goto (tgt := 49) hx hb dL_undoes_45 (by decide)) ?_
  refine KX_store (lv1 := [(3, .int 1), (4, .int (nI n)), (0, .ref (ca 0 0)), (1, .ref (cb 0 0)), (2, .int (nI n))]) (fun H locs ls hl K => lv_istore_n hx hb dL_undoes_49 rfl hl (by decide) rfl K) ?_
  refine KX_store (lv1 := [(4, .int (nI n + Int32.ofInt (-99))), (3, .int 1), (0, .ref (ca 0 0)), (1, .ref (cb 0 0)), (2, .int (nI n))]) (fun H locs ls hl K => lv_iinc (k := 1) (lv' := [(4, .int (nI n + Int32.ofInt (-99))), (3, .int 1), (0, .ref (ca 0 0)), (1, .ref (cb 0 0)), (2, .int (nI n))]) hx hb dL_undoes_50 hl rfl rfl (by decide) rfl K) ?_
  refine KX_step (fun H locs ls hl => lv_goto (tgt := 5) hx hb dL_undoes_53 (by decide)) ?_
  refine KX_step (fun H locs ls hl => lv_iload hx hb dL_undoes_5 (lv_at hl 0 rfl)) ?_
  refine KX_if (fun H locs ls hl => lv_if_le (tgt := 56) hx hb dL_undoes_7 (by decide)) (fun _ => ?_) (fun q => absurd (m99 hn2) q)
  refine KX_step (fun H locs ls hl => lv_iload_n hx hb dL_undoes_56 rfl (lv_at hl 1 rfl)) ?_
  exact kr _ _ _ _ (Nat.le_of_ble_eq_true rfl) (Nat.le_of_ble_eq_true rfl) dL_undoes_57
set_option maxHeartbeats 4000000 in
set_option maxRecDepth 100000 in
theorem undoes_2 {p : Program} {l : Launch} {e : Env} {s : State} {m : MethodId} {args : Array Value} {below : List Frame} {meth : Method} {c : Code} {D : va_G} {cs : Nat → ClassId} {A : Nat → Prop} {Q : State → Prop} {ca cb : Nat → Nat → Nat} (hfl : l.stackTraces = false) {k k2 k3 : KC} {d d2 : Nat} (hd : d ≤ 14) (hd2 : d2 ≤ 14) (hT : ∀ cv, QR cv k → QR (k_X5_undo cv).2.2 k2 ∧ aX (k_X5_undo cv) = nI d) (hT2 : ∀ cv, QR cv k2 → QR (k_X5_undo cv).2.2 k3 ∧ aX (k_X5_undo cv) = nI d2) (hE : kE p s m args meth c D cs yL_undoes wsN_undoes cL_undoes 5 (some .boolean) A) (kr : ∀ (lv : List (Nat × Value)) (pc cells slots : Nat), cells ≤ 4 → slots ≤ 24 → decode cL_undoes pc = .ok (.ireturn, 1) → KX p l e RM_undoes s m args below meth c D A 5 Q (f_2 k3 k3) (w_2 cs ca cb) lv [.int 1] pc cells slots) : KX p l e RM_undoes s m args below meth c D A 5 Q (f_2 k k) (w_2 cs ca cb) [(0, .ref (ca 0 0)), (1, .ref (cb 0 0)), (2, .int (nI 100))] [] 0 0 0 := by
  obtain ⟨hx, hb, hr, hlocks, hml, hown, hts, hK, hA, hG, hnm⟩ := id hE
  have hown : s.vm.findClass RL = some m.cls := hown
  refine KX_step (fun H locs ls hl => lv_iconst (v := 1) hx hb dL_undoes_0 (by decide)) ?_
  refine KX_store (lv1 := [(3, .int 1), (0, .ref (ca 0 0)), (1, .ref (cb 0 0)), (2, .int (nI 100))]) (fun H locs ls hl K => lv_istore_n hx hb dL_undoes_1 rfl hl (by decide) rfl K) ?_
  refine KX_step (fun H locs ls hl => lv_iload_n hx hb dL_undoes_2 rfl (lv_at hl 3 rfl)) ?_
  refine KX_store (lv1 := [(4, .int (nI 100)), (3, .int 1), (0, .ref (ca 0 0)), (1, .ref (cb 0 0)), (2, .int (nI 100))]) (fun H locs ls hl K => lv_istore hx hb dL_undoes_3 hl (by decide) rfl K) ?_
  refine KX_step (fun H locs ls hl => lv_iload hx hb dL_undoes_5 (lv_at hl 0 rfl)) ?_
  refine KX_if (fun H locs ls hl => lv_if_le (tgt := 56) hx hb dL_undoes_7 (by decide)) (fun q => absurd q (by decide)) (fun _ => ?_)
  refine KX_step (fun H locs ls hl => lv_iload_n hx hb dL_undoes_10 rfl (lv_at hl 1 rfl)) ?_
  refine KX_if (fun H locs ls hl => lv_if_eq (tgt := 56) hx hb dL_undoes_11 (by decide)) (fun q => absurd q (by decide)) (fun _ => ?_)
  refine KX_step (fun H locs ls hl => lv_aload_n hx hb dL_undoes_14 rfl (lv_at hl 2 rfl)) ?_
  refine KX_step (fun H locs ls hl => lv_bipush (v := 14) hx hb dL_undoes_15 (by decide)) ?_
  refine KX_step (fun H locs ls hl => lv_iconst (v := 0) hx hb dL_undoes_17 (by decide)) ?_
  refine KX_step (fun H locs ls hl => lv_iconst (v := 0) hx hb dL_undoes_18 (by decide)) ?_
  refine KX_step (fun H locs ls hl => lv_iconst (v := 0) hx hb dL_undoes_19 (by decide)) ?_
  refine KX_call (cells2 := 1) (slots2 := 6) (st0 := [.int 0, .int 0, .int 0, .int 14, .ref (ca 0 0)]) (rest := []) hE rfl (sp2a (q_call_14 l hfl D cs ca 0 0 0 hT)) (va_cwS 5 hts gN_undoes_L_call rfl rfl rfl (by decide +kernel) ⟨(Nat.le_of_ble_eq_true rfl), (Nat.le_of_ble_eq_true rfl)⟩) rfl rfl (Nat.le_of_ble_eq_true rfl) ⟨(Nat.le_of_ble_eq_true rfl), (Nat.le_of_ble_eq_true rfl)⟩ dL_undoes_20 (Nat.le_of_ble_eq_true rfl) (Nat.le_of_ble_eq_true rfl) ?_
  refine KX_call (cells2 := 1) (slots2 := 6) (st0 := [.int (nI d)]) (rest := []) hE rfl (sp0 (c_thrown l D cs (n := d) (by omega))) (va_cwS 1 hts gN_undoes_L_thrown rfl rfl rfl (by decide +kernel) ⟨(Nat.le_of_ble_eq_true rfl), (Nat.le_of_ble_eq_true rfl)⟩) rfl rfl (Nat.le_of_ble_eq_true rfl) ⟨(Nat.le_of_ble_eq_true rfl), (Nat.le_of_ble_eq_true rfl)⟩ dL_undoes_23 (Nat.le_of_ble_eq_true rfl) (Nat.le_of_ble_eq_true rfl) ?_
  refine KX_if (fun H locs ls hl => lv_if_ne (tgt := 48) hx hb dL_undoes_26 (by decide)) (fun q => absurd rfl q) (fun _ => ?_)
  refine KX_step (fun H locs ls hl => lv_aload_n hx hb dL_undoes_29 rfl (lv_at hl 3 rfl)) ?_
  refine KX_step (fun H locs ls hl => lv_bipush (v := 14) hx hb dL_undoes_30 (by decide)) ?_
  refine KX_step (fun H locs ls hl => lv_iconst (v := 0) hx hb dL_undoes_32 (by decide)) ?_
  refine KX_step (fun H locs ls hl => lv_iconst (v := 0) hx hb dL_undoes_33 (by decide)) ?_
  refine KX_step (fun H locs ls hl => lv_iconst (v := 0) hx hb dL_undoes_34 (by decide)) ?_
  refine KX_call (cells2 := 2) (slots2 := 12) (st0 := [.int 0, .int 0, .int 0, .int 14, .ref (cb 0 0)]) (rest := []) hE rfl (sp2b (q_call_14 l hfl D cs cb 0 0 0 hT)) (va_cwS 5 hts gN_undoes_L_call rfl rfl rfl (by decide +kernel) ⟨(Nat.le_of_ble_eq_true rfl), (Nat.le_of_ble_eq_true rfl)⟩) rfl rfl (Nat.le_of_ble_eq_true rfl) ⟨(Nat.le_of_ble_eq_true rfl), (Nat.le_of_ble_eq_true rfl)⟩ dL_undoes_35 (Nat.le_of_ble_eq_true rfl) (Nat.le_of_ble_eq_true rfl) ?_
  refine KX_call (cells2 := 2) (slots2 := 12) (st0 := [.int (nI d)]) (rest := []) hE rfl (sp0 (c_thrown l D cs (n := d) (by omega))) (va_cwS 1 hts gN_undoes_L_thrown rfl rfl rfl (by decide +kernel) ⟨(Nat.le_of_ble_eq_true rfl), (Nat.le_of_ble_eq_true rfl)⟩) rfl rfl (Nat.le_of_ble_eq_true rfl) ⟨(Nat.le_of_ble_eq_true rfl), (Nat.le_of_ble_eq_true rfl)⟩ dL_undoes_38 (Nat.le_of_ble_eq_true rfl) (Nat.le_of_ble_eq_true rfl) ?_
  refine KX_if (fun H locs ls hl => lv_if_ne (tgt := 48) hx hb dL_undoes_41 (by decide)) (fun q => absurd rfl q) (fun _ => ?_)
  refine KX_step (fun H locs ls hl => lv_iconst (v := 1) hx hb dL_undoes_44 (by decide)) ?_
  refine KX_step (fun H locs ls hl => lv_goto (tgt := 49) hx hb dL_undoes_45 (by decide)) ?_
  refine KX_store (lv1 := [(3, .int 1), (4, .int (nI 100)), (0, .ref (ca 0 0)), (1, .ref (cb 0 0)), (2, .int (nI 100))]) (fun H locs ls hl K => lv_istore_n hx hb dL_undoes_49 rfl hl (by decide) rfl K) ?_
  refine KX_store (lv1 := [(4, .int 1), (3, .int 1), (0, .ref (ca 0 0)), (1, .ref (cb 0 0)), (2, .int (nI 100))]) (fun H locs ls hl K => lv_iinc (k := 1) (lv' := [(4, .int 1), (3, .int 1), (0, .ref (ca 0 0)), (1, .ref (cb 0 0)), (2, .int (nI 100))]) hx hb dL_undoes_50 hl rfl (by decide) (by decide) rfl K) ?_
  refine KX_step (fun H locs ls hl => lv_goto (tgt := 5) hx hb dL_undoes_53 (by decide)) ?_
  refine KX_step (fun H locs ls hl => lv_iload hx hb dL_undoes_5 (lv_at hl 0 rfl)) ?_
  refine KX_if (fun H locs ls hl => lv_if_le (tgt := 56) hx hb dL_undoes_7 (by decide)) (fun q => absurd q (by decide)) (fun _ => ?_)
  refine KX_step (fun H locs ls hl => lv_iload_n hx hb dL_undoes_10 rfl (lv_at hl 1 rfl)) ?_
  refine KX_if (fun H locs ls hl => lv_if_eq (tgt := 56) hx hb dL_undoes_11 (by decide)) (fun q => absurd q (by decide)) (fun _ => ?_)
  refine KX_step (fun H locs ls hl => lv_aload_n hx hb dL_undoes_14 rfl (lv_at hl 2 rfl)) ?_
  refine KX_step (fun H locs ls hl => lv_bipush (v := 14) hx hb dL_undoes_15 (by decide)) ?_
  refine KX_step (fun H locs ls hl => lv_iconst (v := 0) hx hb dL_undoes_17 (by decide)) ?_
  refine KX_step (fun H locs ls hl => lv_iconst (v := 0) hx hb dL_undoes_18 (by decide)) ?_
  refine KX_step (fun H locs ls hl => lv_iconst (v := 0) hx hb dL_undoes_19 (by decide)) ?_
  refine KX_call (cells2 := 3) (slots2 := 18) (st0 := [.int 0, .int 0, .int 0, .int 14, .ref (ca 0 0)]) (rest := []) hE rfl (sp2a (q_call_14 l hfl D cs ca 0 0 0 hT2)) (va_cwS 5 hts gN_undoes_L_call rfl rfl rfl (by decide +kernel) ⟨(Nat.le_of_ble_eq_true rfl), (Nat.le_of_ble_eq_true rfl)⟩) rfl rfl (Nat.le_of_ble_eq_true rfl) ⟨(Nat.le_of_ble_eq_true rfl), (Nat.le_of_ble_eq_true rfl)⟩ dL_undoes_20 (Nat.le_of_ble_eq_true rfl) (Nat.le_of_ble_eq_true rfl) ?_
  refine KX_call (cells2 := 3) (slots2 := 18) (st0 := [.int (nI d2)]) (rest := []) hE rfl (sp0 (c_thrown l D cs (n := d2) (by omega))) (va_cwS 1 hts gN_undoes_L_thrown rfl rfl rfl (by decide +kernel) ⟨(Nat.le_of_ble_eq_true rfl), (Nat.le_of_ble_eq_true rfl)⟩) rfl rfl (Nat.le_of_ble_eq_true rfl) ⟨(Nat.le_of_ble_eq_true rfl), (Nat.le_of_ble_eq_true rfl)⟩ dL_undoes_23 (Nat.le_of_ble_eq_true rfl) (Nat.le_of_ble_eq_true rfl) ?_
  refine KX_if (fun H locs ls hl => lv_if_ne (tgt := 48) hx hb dL_undoes_26 (by decide)) (fun q => absurd rfl q) (fun _ => ?_)
  refine KX_step (fun H locs ls hl => lv_aload_n hx hb dL_undoes_29 rfl (lv_at hl 3 rfl)) ?_
  refine KX_step (fun H locs ls hl => lv_bipush (v := 14) hx hb dL_undoes_30 (by decide)) ?_
  refine KX_step (fun H locs ls hl => lv_iconst (v := 0) hx hb dL_undoes_32 (by decide)) ?_
  refine KX_step (fun H locs ls hl => lv_iconst (v := 0) hx hb dL_undoes_33 (by decide)) ?_
  refine KX_step (fun H locs ls hl => lv_iconst (v := 0) hx hb dL_undoes_34 (by decide)) ?_
  refine KX_call (cells2 := 4) (slots2 := 24) (st0 := [.int 0, .int 0, .int 0, .int 14, .ref (cb 0 0)]) (rest := []) hE rfl (sp2b (q_call_14 l hfl D cs cb 0 0 0 hT2)) (va_cwS 5 hts gN_undoes_L_call rfl rfl rfl (by decide +kernel) ⟨(Nat.le_of_ble_eq_true rfl), (Nat.le_of_ble_eq_true rfl)⟩) rfl rfl (Nat.le_of_ble_eq_true rfl) ⟨(Nat.le_of_ble_eq_true rfl), (Nat.le_of_ble_eq_true rfl)⟩ dL_undoes_35 (Nat.le_of_ble_eq_true rfl) (Nat.le_of_ble_eq_true rfl) ?_
  refine KX_call (cells2 := 4) (slots2 := 24) (st0 := [.int (nI d2)]) (rest := []) hE rfl (sp0 (c_thrown l D cs (n := d2) (by omega))) (va_cwS 1 hts gN_undoes_L_thrown rfl rfl rfl (by decide +kernel) ⟨(Nat.le_of_ble_eq_true rfl), (Nat.le_of_ble_eq_true rfl)⟩) rfl rfl (Nat.le_of_ble_eq_true rfl) ⟨(Nat.le_of_ble_eq_true rfl), (Nat.le_of_ble_eq_true rfl)⟩ dL_undoes_38 (Nat.le_of_ble_eq_true rfl) (Nat.le_of_ble_eq_true rfl) ?_
  refine KX_if (fun H locs ls hl => lv_if_ne (tgt := 48) hx hb dL_undoes_41 (by decide)) (fun q => absurd rfl q) (fun _ => ?_)
  refine KX_step (fun H locs ls hl => lv_iconst (v := 1) hx hb dL_undoes_44 (by decide)) ?_
  refine KX_step (fun H locs ls hl => lv_goto (tgt := 49) hx hb dL_undoes_45 (by decide)) ?_
  refine KX_store (lv1 := [(3, .int 1), (4, .int 1), (0, .ref (ca 0 0)), (1, .ref (cb 0 0)), (2, .int (nI 100))]) (fun H locs ls hl K => lv_istore_n hx hb dL_undoes_49 rfl hl (by decide) rfl K) ?_
  refine KX_store (lv1 := [(4, .int (-98)), (3, .int 1), (0, .ref (ca 0 0)), (1, .ref (cb 0 0)), (2, .int (nI 100))]) (fun H locs ls hl K => lv_iinc (k := 1) (lv' := [(4, .int (-98)), (3, .int 1), (0, .ref (ca 0 0)), (1, .ref (cb 0 0)), (2, .int (nI 100))]) hx hb dL_undoes_50 hl rfl (by decide) (by decide) rfl K) ?_
  refine KX_step (fun H locs ls hl => lv_goto (tgt := 5) hx hb dL_undoes_53 (by decide)) ?_
  refine KX_step (fun H locs ls hl => lv_iload hx hb dL_undoes_5 (lv_at hl 0 rfl)) ?_
  refine KX_if (fun H locs ls hl => lv_if_le (tgt := 56) hx hb dL_undoes_7 (by decide)) (fun _ => ?_) (fun q => absurd (by decide) q)
  refine KX_step (fun H locs ls hl => lv_iload_n hx hb dL_undoes_56 rfl (lv_at hl 1 rfl)) ?_
  exact kr _ _ _ _ (Nat.le_of_ble_eq_true rfl) (Nat.le_of_ble_eq_true rfl) dL_undoes_57
theorem c_undoes (l : Launch) (hfl : l.stackTraces = false) (D : va_G) (cs : Nat → ClassId) (ca cb : Nat → Nat → Nat) {k : KC} {n : Nat} (hn1 : 1 ≤ n) (hn2 : n ≤ 100) (hc : dpt n ≤ k.2.1.1) : k2 l yL_undoes wsN_undoes RM_undoes 4 24 D cs ca cb [.ref (ca 0 0), .ref (cb 0 0), .int (nI n)] 1 k k (unk k n) (unk k n) := by
  intro v hv
  have hle := hv.1.2
  by_cases h9 : n ≤ 99
  · have hk : dpt n = 1 := if_pos h9
    rw [show unk k n = unc k from if_pos h9]
    exact kQ_of (U := CV × CV) (Φ := f_2 k k) (wc := w_2 cs ca cb) (cc := cL_undoes) (maxL := 5) (ret := some .boolean) (by decide) rfl (Nat.le_of_ble_eq_true rfl) (fun p e s m below meth c A hE => undoes_1 hfl hn1 h9 (d := k.2.1.1 - 1) (by omega) (fun cv hq => Q_undo hq (by omega)) hE (fun lv pc cells slots h1 h2 hd => KX_ret (r := 1) (Φ1 := f_2 (unc k) (unc k)) (w1 := w_2 cs ca cb) hE rfl rfl (fun u hu => ⟨u, hu, List.Perm.refl _⟩) h1 h2 hd)) v hv
  · have : n = 100 := by omega
    subst this
    have hk : dpt 100 = 2 := rfl
    exact kQ_of (U := CV × CV) (Φ := f_2 k k) (wc := w_2 cs ca cb) (cc := cL_undoes) (maxL := 5) (ret := some .boolean) (by decide) rfl (Nat.le_of_ble_eq_true rfl) (fun p e s m below meth c A hE => undoes_2 hfl (d := k.2.1.1 - 1) (d2 := k.2.1.1 - 1 - 1) (by omega) (by omega) (fun cv hq => Q_undo hq (by omega)) (fun cv hq => Q_undo hq (show k.2.1.1 - 1 ≠ 0 by omega)) hE (fun lv pc cells slots h1 h2 hd => KX_ret (r := 1) (Φ1 := f_2 (unc (unc k)) (unc (unc k))) (w1 := w_2 cs ca cb) hE rfl rfl (fun u hu => ⟨u, hu, List.Perm.refl _⟩) h1 h2 hd)) v hv
theorem c_undoes2 (l : Launch) (hfl : l.stackTraces = false) (D : va_G) (cs : Nat → ClassId) (ca cb : Nat → Nat → Nat) {k : KC} {n : Nat} (hn1 : 1 ≤ n) (hn2 : n ≤ 100) : k2 l yL_undoes wsN_undoes RM_undoes 4 24 D cs ca cb [.ref (ca 0 0), .ref (cb 0 0), .int (nI n)] 1 (wtk k n) (wtk k n) (trm (dpt n) k) (trm (dpt n) k) := by
  have h := c_undoes l hfl D cs ca cb (k := wtk k n) hn1 hn2 dpt_c
  rw [unk_wtk] at h
  exact h
