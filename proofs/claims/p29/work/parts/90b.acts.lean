/-! p29: which of them. -/
set_option maxHeartbeats 4000000 in
set_option maxRecDepth 100000 in
theorem act_h0 {p : Program} {l : Launch} {e : Env} {s : State} {m : MethodId} {args : Array Value} {below : List Frame} {meth : Method} {c : Code} {D : va_G} {cs : Nat → ClassId} {A : Nat → Prop} {Q : State → Prop} {ca : Nat → Nat → Nat} (hfl : l.stackTraces = false) {k : KC} {n N : Nat} (hn : n < 2 ^ 31) (hN : N ≤ 30) (n0 : k.1 0 = nI N) (hv : n % 16 = 0) (hE : kE p s m args meth c D cs yL_act wsN_act cL_act 4 (some .int) A) (kt : KX p l e RM_act s m args below meth c D A 4 Q (f_1 k) (w_1 cs ca) [(3, .int (nI N)), (2, .int (nI (n / 16))), (0, .ref (ca 0 0)), (1, .int (nI n))] [] 80 1 6) : KX p l e RM_act s m args below meth c D A 4 Q (f_1 k) (w_1 cs ca) [(0, .ref (ca 0 0)), (1, .int (nI n))] [] 0 0 0 := by
  obtain ⟨hx, hb, hr, hlocks, hml, hown, hts, hK, hA, hG, hnm⟩ := id hE
  have hown : s.vm.findClass RL = some m.cls := hown
  refine KX_step (fun H locs ls hl => lv_iload_n hx hb dL_act_0 rfl (lv_at hl 1 rfl)) ?_
  refine KX_step (fun H locs ls hl => lv_bipush (v := 16) hx hb dL_act_1 (by decide)) ?_
  refine KX_step (st1 := [.int (nI (n / 16))]) (fun H locs ls hl K => lv_idiv hx hb dL_act_3 (by decide) (by rw [show ((nI n) / 16 : Int32) = (nI (n / 16)) from nI_div (a := n) (b := 16) (by omega) (by omega) (by omega)]; exact K)) ?_
  refine KX_store (lv1 := [(2, .int (nI (n / 16))), (0, .ref (ca 0 0)), (1, .int (nI n))]) (fun H locs ls hl K => lv_istore_n hx hb dL_act_4 rfl hl (by decide) rfl K) ?_
  refine KX_step (fun H locs ls hl => lv_aload_n hx hb dL_act_5 rfl (lv_at hl 1 rfl)) ?_
  refine KX_step (fun H locs ls hl => lv_iconst (v := 2) hx hb dL_act_6 (by decide)) ?_
  refine KX_step (fun H locs ls hl => lv_iconst (v := 0) hx hb dL_act_7 (by decide)) ?_
  refine KX_step (fun H locs ls hl => lv_iconst (v := 0) hx hb dL_act_8 (by decide)) ?_
  refine KX_step (fun H locs ls hl => lv_iconst (v := 0) hx hb dL_act_9 (by decide)) ?_
  refine KX_call (cells2 := 1) (slots2 := 6) (st0 := [.int 0, .int 0, .int 0, .int 2, .ref (ca 0 0)]) (rest := []) hE rfl (sp1 (q_call_2 l hfl D cs ca 0 0 0 (fun cv hq => (F_about (i := 0) (by omega) cv hq).imp id (fun z => z.trans n0)))) (va_cwS 5 hts gN_act_L_call rfl rfl rfl (by decide +kernel) ⟨(Nat.le_of_ble_eq_true rfl), (Nat.le_of_ble_eq_true rfl)⟩) rfl rfl (Nat.le_of_ble_eq_true rfl) ⟨(Nat.le_of_ble_eq_true rfl), (Nat.le_of_ble_eq_true rfl)⟩ dL_act_10 (Nat.le_of_ble_eq_true rfl) (Nat.le_of_ble_eq_true rfl) ?_
  refine KX_store (lv1 := [(3, .int (nI N)), (2, .int (nI (n / 16))), (0, .ref (ca 0 0)), (1, .int (nI n))]) (fun H locs ls hl K => lv_istore_n hx hb dL_act_13 rfl hl (by decide) rfl K) ?_
  refine KX_step (fun H locs ls hl => lv_iload_n hx hb dL_act_14 rfl (lv_at hl 3 rfl)) ?_
  refine KX_step (fun H locs ls hl => lv_bipush (v := 16) hx hb dL_act_15 (by decide)) ?_
  refine KX_step (st1 := [.int (nI (n % 16))]) (fun H locs ls hl K => lv_irem hx hb dL_act_17 (by decide) (by rw [show ((nI n) - (nI n) / 16 * 16 : Int32) = (nI (n % 16)) from nI_mod (a := n) (b := 16) (by omega) (by omega) (by omega)]; exact K)) ?_
  refine KX_step (fun H locs ls hl => lv_tableIn (tgt := 80) (off := 62) hx hb dL_act_18 (by rw [hv]; decide) (by rw [hv]; decide) (by rw [hv]; rfl) (by decide)) ?_
  exact kt
set_option maxHeartbeats 4000000 in
set_option maxRecDepth 100000 in
theorem act_h1 {p : Program} {l : Launch} {e : Env} {s : State} {m : MethodId} {args : Array Value} {below : List Frame} {meth : Method} {c : Code} {D : va_G} {cs : Nat → ClassId} {A : Nat → Prop} {Q : State → Prop} {ca : Nat → Nat → Nat} (hfl : l.stackTraces = false) {k : KC} {n N : Nat} (hn : n < 2 ^ 31) (hN : N ≤ 30) (n0 : k.1 0 = nI N) (hv : n % 16 = 1) (hE : kE p s m args meth c D cs yL_act wsN_act cL_act 4 (some .int) A) (kt : KX p l e RM_act s m args below meth c D A 4 Q (f_1 k) (w_1 cs ca) [(3, .int (nI N)), (2, .int (nI (n / 16))), (0, .ref (ca 0 0)), (1, .int (nI n))] [] 80 1 6) : KX p l e RM_act s m args below meth c D A 4 Q (f_1 k) (w_1 cs ca) [(0, .ref (ca 0 0)), (1, .int (nI n))] [] 0 0 0 := by
  obtain ⟨hx, hb, hr, hlocks, hml, hown, hts, hK, hA, hG, hnm⟩ := id hE
  have hown : s.vm.findClass RL = some m.cls := hown
  refine KX_step (fun H locs ls hl => lv_iload_n hx hb dL_act_0 rfl (lv_at hl 1 rfl)) ?_
  refine KX_step (fun H locs ls hl => lv_bipush (v := 16) hx hb dL_act_1 (by decide)) ?_
  refine KX_step (st1 := [.int (nI (n / 16))]) (fun H locs ls hl K => lv_idiv hx hb dL_act_3 (by decide) (by rw [show ((nI n) / 16 : Int32) = (nI (n / 16)) from nI_div (a := n) (b := 16) (by omega) (by omega) (by omega)]; exact K)) ?_
  refine KX_store (lv1 := [(2, .int (nI (n / 16))), (0, .ref (ca 0 0)), (1, .int (nI n))]) (fun H locs ls hl K => lv_istore_n hx hb dL_act_4 rfl hl (by decide) rfl K) ?_
  refine KX_step (fun H locs ls hl => lv_aload_n hx hb dL_act_5 rfl (lv_at hl 1 rfl)) ?_
  refine KX_step (fun H locs ls hl => lv_iconst (v := 2) hx hb dL_act_6 (by decide)) ?_
  refine KX_step (fun H locs ls hl => lv_iconst (v := 0) hx hb dL_act_7 (by decide)) ?_
  refine KX_step (fun H locs ls hl => lv_iconst (v := 0) hx hb dL_act_8 (by decide)) ?_
  refine KX_step (fun H locs ls hl => lv_iconst (v := 0) hx hb dL_act_9 (by decide)) ?_
  refine KX_call (cells2 := 1) (slots2 := 6) (st0 := [.int 0, .int 0, .int 0, .int 2, .ref (ca 0 0)]) (rest := []) hE rfl (sp1 (q_call_2 l hfl D cs ca 0 0 0 (fun cv hq => (F_about (i := 0) (by omega) cv hq).imp id (fun z => z.trans n0)))) (va_cwS 5 hts gN_act_L_call rfl rfl rfl (by decide +kernel) ⟨(Nat.le_of_ble_eq_true rfl), (Nat.le_of_ble_eq_true rfl)⟩) rfl rfl (Nat.le_of_ble_eq_true rfl) ⟨(Nat.le_of_ble_eq_true rfl), (Nat.le_of_ble_eq_true rfl)⟩ dL_act_10 (Nat.le_of_ble_eq_true rfl) (Nat.le_of_ble_eq_true rfl) ?_
  refine KX_store (lv1 := [(3, .int (nI N)), (2, .int (nI (n / 16))), (0, .ref (ca 0 0)), (1, .int (nI n))]) (fun H locs ls hl K => lv_istore_n hx hb dL_act_13 rfl hl (by decide) rfl K) ?_
  refine KX_step (fun H locs ls hl => lv_iload_n hx hb dL_act_14 rfl (lv_at hl 3 rfl)) ?_
  refine KX_step (fun H locs ls hl => lv_bipush (v := 16) hx hb dL_act_15 (by decide)) ?_
  refine KX_step (st1 := [.int (nI (n % 16))]) (fun H locs ls hl K => lv_irem hx hb dL_act_17 (by decide) (by rw [show ((nI n) - (nI n) / 16 * 16 : Int32) = (nI (n % 16)) from nI_mod (a := n) (b := 16) (by omega) (by omega) (by omega)]; exact K)) ?_
  refine KX_step (fun H locs ls hl => lv_tableIn (tgt := 80) (off := 62) hx hb dL_act_18 (by rw [hv]; decide) (by rw [hv]; decide) (by rw [hv]; rfl) (by decide)) ?_
  exact kt
set_option maxHeartbeats 4000000 in
set_option maxRecDepth 100000 in
theorem act_h2 {p : Program} {l : Launch} {e : Env} {s : State} {m : MethodId} {args : Array Value} {below : List Frame} {meth : Method} {c : Code} {D : va_G} {cs : Nat → ClassId} {A : Nat → Prop} {Q : State → Prop} {ca : Nat → Nat → Nat} (hfl : l.stackTraces = false) {k : KC} {n N : Nat} (hn : n < 2 ^ 31) (hN : N ≤ 30) (n0 : k.1 0 = nI N) (hv : n % 16 = 2) (hE : kE p s m args meth c D cs yL_act wsN_act cL_act 4 (some .int) A) (kt : KX p l e RM_act s m args below meth c D A 4 Q (f_1 k) (w_1 cs ca) [(3, .int (nI N)), (2, .int (nI (n / 16))), (0, .ref (ca 0 0)), (1, .int (nI n))] [] 80 1 6) : KX p l e RM_act s m args below meth c D A 4 Q (f_1 k) (w_1 cs ca) [(0, .ref (ca 0 0)), (1, .int (nI n))] [] 0 0 0 := by
  obtain ⟨hx, hb, hr, hlocks, hml, hown, hts, hK, hA, hG, hnm⟩ := id hE
  have hown : s.vm.findClass RL = some m.cls := hown
  refine KX_step (fun H locs ls hl => lv_iload_n hx hb dL_act_0 rfl (lv_at hl 1 rfl)) ?_
  refine KX_step (fun H locs ls hl => lv_bipush (v := 16) hx hb dL_act_1 (by decide)) ?_
  refine KX_step (st1 := [.int (nI (n / 16))]) (fun H locs ls hl K => lv_idiv hx hb dL_act_3 (by decide) (by rw [show ((nI n) / 16 : Int32) = (nI (n / 16)) from nI_div (a := n) (b := 16) (by omega) (by omega) (by omega)]; exact K)) ?_
  refine KX_store (lv1 := [(2, .int (nI (n / 16))), (0, .ref (ca 0 0)), (1, .int (nI n))]) (fun H locs ls hl K => lv_istore_n hx hb dL_act_4 rfl hl (by decide) rfl K) ?_
  refine KX_step (fun H locs ls hl => lv_aload_n hx hb dL_act_5 rfl (lv_at hl 1 rfl)) ?_
  refine KX_step (fun H locs ls hl => lv_iconst (v := 2) hx hb dL_act_6 (by decide)) ?_
  refine KX_step (fun H locs ls hl => lv_iconst (v := 0) hx hb dL_act_7 (by decide)) ?_
  refine KX_step (fun H locs ls hl => lv_iconst (v := 0) hx hb dL_act_8 (by decide)) ?_
  refine KX_step (fun H locs ls hl => lv_iconst (v := 0) hx hb dL_act_9 (by decide)) ?_
  refine KX_call (cells2 := 1) (slots2 := 6) (st0 := [.int 0, .int 0, .int 0, .int 2, .ref (ca 0 0)]) (rest := []) hE rfl (sp1 (q_call_2 l hfl D cs ca 0 0 0 (fun cv hq => (F_about (i := 0) (by omega) cv hq).imp id (fun z => z.trans n0)))) (va_cwS 5 hts gN_act_L_call rfl rfl rfl (by decide +kernel) ⟨(Nat.le_of_ble_eq_true rfl), (Nat.le_of_ble_eq_true rfl)⟩) rfl rfl (Nat.le_of_ble_eq_true rfl) ⟨(Nat.le_of_ble_eq_true rfl), (Nat.le_of_ble_eq_true rfl)⟩ dL_act_10 (Nat.le_of_ble_eq_true rfl) (Nat.le_of_ble_eq_true rfl) ?_
  refine KX_store (lv1 := [(3, .int (nI N)), (2, .int (nI (n / 16))), (0, .ref (ca 0 0)), (1, .int (nI n))]) (fun H locs ls hl K => lv_istore_n hx hb dL_act_13 rfl hl (by decide) rfl K) ?_
  refine KX_step (fun H locs ls hl => lv_iload_n hx hb dL_act_14 rfl (lv_at hl 3 rfl)) ?_
  refine KX_step (fun H locs ls hl => lv_bipush (v := 16) hx hb dL_act_15 (by decide)) ?_
  refine KX_step (st1 := [.int (nI (n % 16))]) (fun H locs ls hl K => lv_irem hx hb dL_act_17 (by decide) (by rw [show ((nI n) - (nI n) / 16 * 16 : Int32) = (nI (n % 16)) from nI_mod (a := n) (b := 16) (by omega) (by omega) (by omega)]; exact K)) ?_
  refine KX_step (fun H locs ls hl => lv_tableIn (tgt := 80) (off := 62) hx hb dL_act_18 (by rw [hv]; decide) (by rw [hv]; decide) (by rw [hv]; rfl) (by decide)) ?_
  exact kt
set_option maxHeartbeats 4000000 in
set_option maxRecDepth 100000 in
theorem act_h3 {p : Program} {l : Launch} {e : Env} {s : State} {m : MethodId} {args : Array Value} {below : List Frame} {meth : Method} {c : Code} {D : va_G} {cs : Nat → ClassId} {A : Nat → Prop} {Q : State → Prop} {ca : Nat → Nat → Nat} (hfl : l.stackTraces = false) {k : KC} {n N : Nat} (hn : n < 2 ^ 31) (hN : N ≤ 30) (n0 : k.1 0 = nI N) (hv : n % 16 = 3) (hE : kE p s m args meth c D cs yL_act wsN_act cL_act 4 (some .int) A) (kt : KX p l e RM_act s m args below meth c D A 4 Q (f_1 k) (w_1 cs ca) [(3, .int (nI N)), (2, .int (nI (n / 16))), (0, .ref (ca 0 0)), (1, .int (nI n))] [] 80 1 6) : KX p l e RM_act s m args below meth c D A 4 Q (f_1 k) (w_1 cs ca) [(0, .ref (ca 0 0)), (1, .int (nI n))] [] 0 0 0 := by
  obtain ⟨hx, hb, hr, hlocks, hml, hown, hts, hK, hA, hG, hnm⟩ := id hE
  have hown : s.vm.findClass RL = some m.cls := hown
  refine KX_step (fun H locs ls hl => lv_iload_n hx hb dL_act_0 rfl (lv_at hl 1 rfl)) ?_
  refine KX_step (fun H locs ls hl => lv_bipush (v := 16) hx hb dL_act_1 (by decide)) ?_
  refine KX_step (st1 := [.int (nI (n / 16))]) (fun H locs ls hl K => lv_idiv hx hb dL_act_3 (by decide) (by rw [show ((nI n) / 16 : Int32) = (nI (n / 16)) from nI_div (a := n) (b := 16) (by omega) (by omega) (by omega)]; exact K)) ?_
  refine KX_store (lv1 := [(2, .int (nI (n / 16))), (0, .ref (ca 0 0)), (1, .int (nI n))]) (fun H locs ls hl K => lv_istore_n hx hb dL_act_4 rfl hl (by decide) rfl K) ?_
  refine KX_step (fun H locs ls hl => lv_aload_n hx hb dL_act_5 rfl (lv_at hl 1 rfl)) ?_
  refine KX_step (fun H locs ls hl => lv_iconst (v := 2) hx hb dL_act_6 (by decide)) ?_
  refine KX_step (fun H locs ls hl => lv_iconst (v := 0) hx hb dL_act_7 (by decide)) ?_
  refine KX_step (fun H locs ls hl => lv_iconst (v := 0) hx hb dL_act_8 (by decide)) ?_
  refine KX_step (fun H locs ls hl => lv_iconst (v := 0) hx hb dL_act_9 (by decide)) ?_
  refine KX_call (cells2 := 1) (slots2 := 6) (st0 := [.int 0, .int 0, .int 0, .int 2, .ref (ca 0 0)]) (rest := []) hE rfl (sp1 (q_call_2 l hfl D cs ca 0 0 0 (fun cv hq => (F_about (i := 0) (by omega) cv hq).imp id (fun z => z.trans n0)))) (va_cwS 5 hts gN_act_L_call rfl rfl rfl (by decide +kernel) ⟨(Nat.le_of_ble_eq_true rfl), (Nat.le_of_ble_eq_true rfl)⟩) rfl rfl (Nat.le_of_ble_eq_true rfl) ⟨(Nat.le_of_ble_eq_true rfl), (Nat.le_of_ble_eq_true rfl)⟩ dL_act_10 (Nat.le_of_ble_eq_true rfl) (Nat.le_of_ble_eq_true rfl) ?_
  refine KX_store (lv1 := [(3, .int (nI N)), (2, .int (nI (n / 16))), (0, .ref (ca 0 0)), (1, .int (nI n))]) (fun H locs ls hl K => lv_istore_n hx hb dL_act_13 rfl hl (by decide) rfl K) ?_
  refine KX_step (fun H locs ls hl => lv_iload_n hx hb dL_act_14 rfl (lv_at hl 3 rfl)) ?_
  refine KX_step (fun H locs ls hl => lv_bipush (v := 16) hx hb dL_act_15 (by decide)) ?_
  refine KX_step (st1 := [.int (nI (n % 16))]) (fun H locs ls hl K => lv_irem hx hb dL_act_17 (by decide) (by rw [show ((nI n) - (nI n) / 16 * 16 : Int32) = (nI (n % 16)) from nI_mod (a := n) (b := 16) (by omega) (by omega) (by omega)]; exact K)) ?_
  refine KX_step (fun H locs ls hl => lv_tableIn (tgt := 80) (off := 62) hx hb dL_act_18 (by rw [hv]; decide) (by rw [hv]; decide) (by rw [hv]; rfl) (by decide)) ?_
  exact kt
set_option maxHeartbeats 4000000 in
set_option maxRecDepth 100000 in
theorem act_h4 {p : Program} {l : Launch} {e : Env} {s : State} {m : MethodId} {args : Array Value} {below : List Frame} {meth : Method} {c : Code} {D : va_G} {cs : Nat → ClassId} {A : Nat → Prop} {Q : State → Prop} {ca : Nat → Nat → Nat} (hfl : l.stackTraces = false) {k : KC} {n N : Nat} (hn : n < 2 ^ 31) (hN : N ≤ 30) (n0 : k.1 0 = nI N) (hv : n % 16 = 4) (hE : kE p s m args meth c D cs yL_act wsN_act cL_act 4 (some .int) A) (kt : KX p l e RM_act s m args below meth c D A 4 Q (f_1 k) (w_1 cs ca) [(3, .int (nI N)), (2, .int (nI (n / 16))), (0, .ref (ca 0 0)), (1, .int (nI n))] [] 80 1 6) : KX p l e RM_act s m args below meth c D A 4 Q (f_1 k) (w_1 cs ca) [(0, .ref (ca 0 0)), (1, .int (nI n))] [] 0 0 0 := by
  obtain ⟨hx, hb, hr, hlocks, hml, hown, hts, hK, hA, hG, hnm⟩ := id hE
  have hown : s.vm.findClass RL = some m.cls := hown
  refine KX_step (fun H locs ls hl => lv_iload_n hx hb dL_act_0 rfl (lv_at hl 1 rfl)) ?_
  refine KX_step (fun H locs ls hl => lv_bipush (v := 16) hx hb dL_act_1 (by decide)) ?_
  refine KX_step (st1 := [.int (nI (n / 16))]) (fun H locs ls hl K => lv_idiv hx hb dL_act_3 (by decide) (by rw [show ((nI n) / 16 : Int32) = (nI (n / 16)) from nI_div (a := n) (b := 16) (by omega) (by omega) (by omega)]; exact K)) ?_
  refine KX_store (lv1 := [(2, .int (nI (n / 16))), (0, .ref (ca 0 0)), (1, .int (nI n))]) (fun H locs ls hl K => lv_istore_n hx hb dL_act_4 rfl hl (by decide) rfl K) ?_
  refine KX_step (fun H locs ls hl => lv_aload_n hx hb dL_act_5 rfl (lv_at hl 1 rfl)) ?_
  refine KX_step (fun H locs ls hl => lv_iconst (v := 2) hx hb dL_act_6 (by decide)) ?_
  refine KX_step (fun H locs ls hl => lv_iconst (v := 0) hx hb dL_act_7 (by decide)) ?_
  refine KX_step (fun H locs ls hl => lv_iconst (v := 0) hx hb dL_act_8 (by decide)) ?_
  refine KX_step (fun H locs ls hl => lv_iconst (v := 0) hx hb dL_act_9 (by decide)) ?_
  refine KX_call (cells2 := 1) (slots2 := 6) (st0 := [.int 0, .int 0, .int 0, .int 2, .ref (ca 0 0)]) (rest := []) hE rfl (sp1 (q_call_2 l hfl D cs ca 0 0 0 (fun cv hq => (F_about (i := 0) (by omega) cv hq).imp id (fun z => z.trans n0)))) (va_cwS 5 hts gN_act_L_call rfl rfl rfl (by decide +kernel) ⟨(Nat.le_of_ble_eq_true rfl), (Nat.le_of_ble_eq_true rfl)⟩) rfl rfl (Nat.le_of_ble_eq_true rfl) ⟨(Nat.le_of_ble_eq_true rfl), (Nat.le_of_ble_eq_true rfl)⟩ dL_act_10 (Nat.le_of_ble_eq_true rfl) (Nat.le_of_ble_eq_true rfl) ?_
  refine KX_store (lv1 := [(3, .int (nI N)), (2, .int (nI (n / 16))), (0, .ref (ca 0 0)), (1, .int (nI n))]) (fun H locs ls hl K => lv_istore_n hx hb dL_act_13 rfl hl (by decide) rfl K) ?_
  refine KX_step (fun H locs ls hl => lv_iload_n hx hb dL_act_14 rfl (lv_at hl 3 rfl)) ?_
  refine KX_step (fun H locs ls hl => lv_bipush (v := 16) hx hb dL_act_15 (by decide)) ?_
  refine KX_step (st1 := [.int (nI (n % 16))]) (fun H locs ls hl K => lv_irem hx hb dL_act_17 (by decide) (by rw [show ((nI n) - (nI n) / 16 * 16 : Int32) = (nI (n % 16)) from nI_mod (a := n) (b := 16) (by omega) (by omega) (by omega)]; exact K)) ?_
  refine KX_step (fun H locs ls hl => lv_tableIn (tgt := 80) (off := 62) hx hb dL_act_18 (by rw [hv]; decide) (by rw [hv]; decide) (by rw [hv]; rfl) (by decide)) ?_
  exact kt
set_option maxHeartbeats 4000000 in
set_option maxRecDepth 100000 in
theorem act_h5 {p : Program} {l : Launch} {e : Env} {s : State} {m : MethodId} {args : Array Value} {below : List Frame} {meth : Method} {c : Code} {D : va_G} {cs : Nat → ClassId} {A : Nat → Prop} {Q : State → Prop} {ca : Nat → Nat → Nat} (hfl : l.stackTraces = false) {k : KC} {n N : Nat} (hn : n < 2 ^ 31) (hN : N ≤ 30) (n0 : k.1 0 = nI N) (hv : n % 16 = 5) (hE : kE p s m args meth c D cs yL_act wsN_act cL_act 4 (some .int) A) (kt : KX p l e RM_act s m args below meth c D A 4 Q (f_1 k) (w_1 cs ca) [(3, .int (nI N)), (2, .int (nI (n / 16))), (0, .ref (ca 0 0)), (1, .int (nI n))] [] 108 1 6) : KX p l e RM_act s m args below meth c D A 4 Q (f_1 k) (w_1 cs ca) [(0, .ref (ca 0 0)), (1, .int (nI n))] [] 0 0 0 := by
  obtain ⟨hx, hb, hr, hlocks, hml, hown, hts, hK, hA, hG, hnm⟩ := id hE
  have hown : s.vm.findClass RL = some m.cls := hown
  refine KX_step (fun H locs ls hl => lv_iload_n hx hb dL_act_0 rfl (lv_at hl 1 rfl)) ?_
  refine KX_step (fun H locs ls hl => lv_bipush (v := 16) hx hb dL_act_1 (by decide)) ?_
  refine KX_step (st1 := [.int (nI (n / 16))]) (fun H locs ls hl K => lv_idiv hx hb dL_act_3 (by decide) (by rw [show ((nI n) / 16 : Int32) = (nI (n / 16)) from nI_div (a := n) (b := 16) (by omega) (by omega) (by omega)]; exact K)) ?_
  refine KX_store (lv1 := [(2, .int (nI (n / 16))), (0, .ref (ca 0 0)), (1, .int (nI n))]) (fun H locs ls hl K => lv_istore_n hx hb dL_act_4 rfl hl (by decide) rfl K) ?_
  refine KX_step (fun H locs ls hl => lv_aload_n hx hb dL_act_5 rfl (lv_at hl 1 rfl)) ?_
  refine KX_step (fun H locs ls hl => lv_iconst (v := 2) hx hb dL_act_6 (by decide)) ?_
  refine KX_step (fun H locs ls hl => lv_iconst (v := 0) hx hb dL_act_7 (by decide)) ?_
  refine KX_step (fun H locs ls hl => lv_iconst (v := 0) hx hb dL_act_8 (by decide)) ?_
  refine KX_step (fun H locs ls hl => lv_iconst (v := 0) hx hb dL_act_9 (by decide)) ?_
  refine KX_call (cells2 := 1) (slots2 := 6) (st0 := [.int 0, .int 0, .int 0, .int 2, .ref (ca 0 0)]) (rest := []) hE rfl (sp1 (q_call_2 l hfl D cs ca 0 0 0 (fun cv hq => (F_about (i := 0) (by omega) cv hq).imp id (fun z => z.trans n0)))) (va_cwS 5 hts gN_act_L_call rfl rfl rfl (by decide +kernel) ⟨(Nat.le_of_ble_eq_true rfl), (Nat.le_of_ble_eq_true rfl)⟩) rfl rfl (Nat.le_of_ble_eq_true rfl) ⟨(Nat.le_of_ble_eq_true rfl), (Nat.le_of_ble_eq_true rfl)⟩ dL_act_10 (Nat.le_of_ble_eq_true rfl) (Nat.le_of_ble_eq_true rfl) ?_
  refine KX_store (lv1 := [(3, .int (nI N)), (2, .int (nI (n / 16))), (0, .ref (ca 0 0)), (1, .int (nI n))]) (fun H locs ls hl K => lv_istore_n hx hb dL_act_13 rfl hl (by decide) rfl K) ?_
  refine KX_step (fun H locs ls hl => lv_iload_n hx hb dL_act_14 rfl (lv_at hl 3 rfl)) ?_
  refine KX_step (fun H locs ls hl => lv_bipush (v := 16) hx hb dL_act_15 (by decide)) ?_
  refine KX_step (st1 := [.int (nI (n % 16))]) (fun H locs ls hl K => lv_irem hx hb dL_act_17 (by decide) (by rw [show ((nI n) - (nI n) / 16 * 16 : Int32) = (nI (n % 16)) from nI_mod (a := n) (b := 16) (by omega) (by omega) (by omega)]; exact K)) ?_
  refine KX_step (fun H locs ls hl => lv_tableIn (tgt := 108) (off := 90) hx hb dL_act_18 (by rw [hv]; decide) (by rw [hv]; decide) (by rw [hv]; rfl) (by decide)) ?_
  exact kt
set_option maxHeartbeats 4000000 in
set_option maxRecDepth 100000 in
theorem act_h6 {p : Program} {l : Launch} {e : Env} {s : State} {m : MethodId} {args : Array Value} {below : List Frame} {meth : Method} {c : Code} {D : va_G} {cs : Nat → ClassId} {A : Nat → Prop} {Q : State → Prop} {ca : Nat → Nat → Nat} (hfl : l.stackTraces = false) {k : KC} {n N : Nat} (hn : n < 2 ^ 31) (hN : N ≤ 30) (n0 : k.1 0 = nI N) (hv : n % 16 = 6) (hE : kE p s m args meth c D cs yL_act wsN_act cL_act 4 (some .int) A) (kt : KX p l e RM_act s m args below meth c D A 4 Q (f_1 k) (w_1 cs ca) [(3, .int (nI N)), (2, .int (nI (n / 16))), (0, .ref (ca 0 0)), (1, .int (nI n))] [] 108 1 6) : KX p l e RM_act s m args below meth c D A 4 Q (f_1 k) (w_1 cs ca) [(0, .ref (ca 0 0)), (1, .int (nI n))] [] 0 0 0 := by
  obtain ⟨hx, hb, hr, hlocks, hml, hown, hts, hK, hA, hG, hnm⟩ := id hE
  have hown : s.vm.findClass RL = some m.cls := hown
  refine KX_step (fun H locs ls hl => lv_iload_n hx hb dL_act_0 rfl (lv_at hl 1 rfl)) ?_
  refine KX_step (fun H locs ls hl => lv_bipush (v := 16) hx hb dL_act_1 (by decide)) ?_
  refine KX_step (st1 := [.int (nI (n / 16))]) (fun H locs ls hl K => lv_idiv hx hb dL_act_3 (by decide) (by rw [show ((nI n) / 16 : Int32) = (nI (n / 16)) from nI_div (a := n) (b := 16) (by omega) (by omega) (by omega)]; exact K)) ?_
  refine KX_store (lv1 := [(2, .int (nI (n / 16))), (0, .ref (ca 0 0)), (1, .int (nI n))]) (fun H locs ls hl K => lv_istore_n hx hb dL_act_4 rfl hl (by decide) rfl K) ?_
  refine KX_step (fun H locs ls hl => lv_aload_n hx hb dL_act_5 rfl (lv_at hl 1 rfl)) ?_
  refine KX_step (fun H locs ls hl => lv_iconst (v := 2) hx hb dL_act_6 (by decide)) ?_
  refine KX_step (fun H locs ls hl => lv_iconst (v := 0) hx hb dL_act_7 (by decide)) ?_
  refine KX_step (fun H locs ls hl => lv_iconst (v := 0) hx hb dL_act_8 (by decide)) ?_
  refine KX_step (fun H locs ls hl => lv_iconst (v := 0) hx hb dL_act_9 (by decide)) ?_
  refine KX_call (cells2 := 1) (slots2 := 6) (st0 := [.int 0, .int 0, .int 0, .int 2, .ref (ca 0 0)]) (rest := []) hE rfl (sp1 (q_call_2 l hfl D cs ca 0 0 0 (fun cv hq => (F_about (i := 0) (by omega) cv hq).imp id (fun z => z.trans n0)))) (va_cwS 5 hts gN_act_L_call rfl rfl rfl (by decide +kernel) ⟨(Nat.le_of_ble_eq_true rfl), (Nat.le_of_ble_eq_true rfl)⟩) rfl rfl (Nat.le_of_ble_eq_true rfl) ⟨(Nat.le_of_ble_eq_true rfl), (Nat.le_of_ble_eq_true rfl)⟩ dL_act_10 (Nat.le_of_ble_eq_true rfl) (Nat.le_of_ble_eq_true rfl) ?_
  refine KX_store (lv1 := [(3, .int (nI N)), (2, .int (nI (n / 16))), (0, .ref (ca 0 0)), (1, .int (nI n))]) (fun H locs ls hl K => lv_istore_n hx hb dL_act_13 rfl hl (by decide) rfl K) ?_
  refine KX_step (fun H locs ls hl => lv_iload_n hx hb dL_act_14 rfl (lv_at hl 3 rfl)) ?_
  refine KX_step (fun H locs ls hl => lv_bipush (v := 16) hx hb dL_act_15 (by decide)) ?_
  refine KX_step (st1 := [.int (nI (n % 16))]) (fun H locs ls hl K => lv_irem hx hb dL_act_17 (by decide) (by rw [show ((nI n) - (nI n) / 16 * 16 : Int32) = (nI (n % 16)) from nI_mod (a := n) (b := 16) (by omega) (by omega) (by omega)]; exact K)) ?_
  refine KX_step (fun H locs ls hl => lv_tableIn (tgt := 108) (off := 90) hx hb dL_act_18 (by rw [hv]; decide) (by rw [hv]; decide) (by rw [hv]; rfl) (by decide)) ?_
  exact kt
set_option maxHeartbeats 4000000 in
set_option maxRecDepth 100000 in
theorem act_h7 {p : Program} {l : Launch} {e : Env} {s : State} {m : MethodId} {args : Array Value} {below : List Frame} {meth : Method} {c : Code} {D : va_G} {cs : Nat → ClassId} {A : Nat → Prop} {Q : State → Prop} {ca : Nat → Nat → Nat} (hfl : l.stackTraces = false) {k : KC} {n N : Nat} (hn : n < 2 ^ 31) (hN : N ≤ 30) (n0 : k.1 0 = nI N) (hv : n % 16 = 7) (hE : kE p s m args meth c D cs yL_act wsN_act cL_act 4 (some .int) A) (kt : KX p l e RM_act s m args below meth c D A 4 Q (f_1 k) (w_1 cs ca) [(3, .int (nI N)), (2, .int (nI (n / 16))), (0, .ref (ca 0 0)), (1, .int (nI n))] [] 171 1 6) : KX p l e RM_act s m args below meth c D A 4 Q (f_1 k) (w_1 cs ca) [(0, .ref (ca 0 0)), (1, .int (nI n))] [] 0 0 0 := by
  obtain ⟨hx, hb, hr, hlocks, hml, hown, hts, hK, hA, hG, hnm⟩ := id hE
  have hown : s.vm.findClass RL = some m.cls := hown
  refine KX_step (fun H locs ls hl => lv_iload_n hx hb dL_act_0 rfl (lv_at hl 1 rfl)) ?_
  refine KX_step (fun H locs ls hl => lv_bipush (v := 16) hx hb dL_act_1 (by decide)) ?_
  refine KX_step (st1 := [.int (nI (n / 16))]) (fun H locs ls hl K => lv_idiv hx hb dL_act_3 (by decide) (by rw [show ((nI n) / 16 : Int32) = (nI (n / 16)) from nI_div (a := n) (b := 16) (by omega) (by omega) (by omega)]; exact K)) ?_
  refine KX_store (lv1 := [(2, .int (nI (n / 16))), (0, .ref (ca 0 0)), (1, .int (nI n))]) (fun H locs ls hl K => lv_istore_n hx hb dL_act_4 rfl hl (by decide) rfl K) ?_
  refine KX_step (fun H locs ls hl => lv_aload_n hx hb dL_act_5 rfl (lv_at hl 1 rfl)) ?_
  refine KX_step (fun H locs ls hl => lv_iconst (v := 2) hx hb dL_act_6 (by decide)) ?_
  refine KX_step (fun H locs ls hl => lv_iconst (v := 0) hx hb dL_act_7 (by decide)) ?_
  refine KX_step (fun H locs ls hl => lv_iconst (v := 0) hx hb dL_act_8 (by decide)) ?_
  refine KX_step (fun H locs ls hl => lv_iconst (v := 0) hx hb dL_act_9 (by decide)) ?_
  refine KX_call (cells2 := 1) (slots2 := 6) (st0 := [.int 0, .int 0, .int 0, .int 2, .ref (ca 0 0)]) (rest := []) hE rfl (sp1 (q_call_2 l hfl D cs ca 0 0 0 (fun cv hq => (F_about (i := 0) (by omega) cv hq).imp id (fun z => z.trans n0)))) (va_cwS 5 hts gN_act_L_call rfl rfl rfl (by decide +kernel) ⟨(Nat.le_of_ble_eq_true rfl), (Nat.le_of_ble_eq_true rfl)⟩) rfl rfl (Nat.le_of_ble_eq_true rfl) ⟨(Nat.le_of_ble_eq_true rfl), (Nat.le_of_ble_eq_true rfl)⟩ dL_act_10 (Nat.le_of_ble_eq_true rfl) (Nat.le_of_ble_eq_true rfl) ?_
  refine KX_store (lv1 := [(3, .int (nI N)), (2, .int (nI (n / 16))), (0, .ref (ca 0 0)), (1, .int (nI n))]) (fun H locs ls hl K => lv_istore_n hx hb dL_act_13 rfl hl (by decide) rfl K) ?_
  refine KX_step (fun H locs ls hl => lv_iload_n hx hb dL_act_14 rfl (lv_at hl 3 rfl)) ?_
  refine KX_step (fun H locs ls hl => lv_bipush (v := 16) hx hb dL_act_15 (by decide)) ?_
  refine KX_step (st1 := [.int (nI (n % 16))]) (fun H locs ls hl K => lv_irem hx hb dL_act_17 (by decide) (by rw [show ((nI n) - (nI n) / 16 * 16 : Int32) = (nI (n % 16)) from nI_mod (a := n) (b := 16) (by omega) (by omega) (by omega)]; exact K)) ?_
  refine KX_step (fun H locs ls hl => lv_tableIn (tgt := 171) (off := 153) hx hb dL_act_18 (by rw [hv]; decide) (by rw [hv]; decide) (by rw [hv]; rfl) (by decide)) ?_
  exact kt
set_option maxHeartbeats 4000000 in
set_option maxRecDepth 100000 in
theorem act_h8 {p : Program} {l : Launch} {e : Env} {s : State} {m : MethodId} {args : Array Value} {below : List Frame} {meth : Method} {c : Code} {D : va_G} {cs : Nat → ClassId} {A : Nat → Prop} {Q : State → Prop} {ca : Nat → Nat → Nat} (hfl : l.stackTraces = false) {k : KC} {n N : Nat} (hn : n < 2 ^ 31) (hN : N ≤ 30) (n0 : k.1 0 = nI N) (hv : n % 16 = 8) (hE : kE p s m args meth c D cs yL_act wsN_act cL_act 4 (some .int) A) (kt : KX p l e RM_act s m args below meth c D A 4 Q (f_1 k) (w_1 cs ca) [(3, .int (nI N)), (2, .int (nI (n / 16))), (0, .ref (ca 0 0)), (1, .int (nI n))] [] 184 1 6) : KX p l e RM_act s m args below meth c D A 4 Q (f_1 k) (w_1 cs ca) [(0, .ref (ca 0 0)), (1, .int (nI n))] [] 0 0 0 := by
  obtain ⟨hx, hb, hr, hlocks, hml, hown, hts, hK, hA, hG, hnm⟩ := id hE
  have hown : s.vm.findClass RL = some m.cls := hown
  refine KX_step (fun H locs ls hl => lv_iload_n hx hb dL_act_0 rfl (lv_at hl 1 rfl)) ?_
  refine KX_step (fun H locs ls hl => lv_bipush (v := 16) hx hb dL_act_1 (by decide)) ?_
  refine KX_step (st1 := [.int (nI (n / 16))]) (fun H locs ls hl K => lv_idiv hx hb dL_act_3 (by decide) (by rw [show ((nI n) / 16 : Int32) = (nI (n / 16)) from nI_div (a := n) (b := 16) (by omega) (by omega) (by omega)]; exact K)) ?_
  refine KX_store (lv1 := [(2, .int (nI (n / 16))), (0, .ref (ca 0 0)), (1, .int (nI n))]) (fun H locs ls hl K => lv_istore_n hx hb dL_act_4 rfl hl (by decide) rfl K) ?_
  refine KX_step (fun H locs ls hl => lv_aload_n hx hb dL_act_5 rfl (lv_at hl 1 rfl)) ?_
  refine KX_step (fun H locs ls hl => lv_iconst (v := 2) hx hb dL_act_6 (by decide)) ?_
  refine KX_step (fun H locs ls hl => lv_iconst (v := 0) hx hb dL_act_7 (by decide)) ?_
  refine KX_step (fun H locs ls hl => lv_iconst (v := 0) hx hb dL_act_8 (by decide)) ?_
  refine KX_step (fun H locs ls hl => lv_iconst (v := 0) hx hb dL_act_9 (by decide)) ?_
  refine KX_call (cells2 := 1) (slots2 := 6) (st0 := [.int 0, .int 0, .int 0, .int 2, .ref (ca 0 0)]) (rest := []) hE rfl (sp1 (q_call_2 l hfl D cs ca 0 0 0 (fun cv hq => (F_about (i := 0) (by omega) cv hq).imp id (fun z => z.trans n0)))) (va_cwS 5 hts gN_act_L_call rfl rfl rfl (by decide +kernel) ⟨(Nat.le_of_ble_eq_true rfl), (Nat.le_of_ble_eq_true rfl)⟩) rfl rfl (Nat.le_of_ble_eq_true rfl) ⟨(Nat.le_of_ble_eq_true rfl), (Nat.le_of_ble_eq_true rfl)⟩ dL_act_10 (Nat.le_of_ble_eq_true rfl) (Nat.le_of_ble_eq_true rfl) ?_
  refine KX_store (lv1 := [(3, .int (nI N)), (2, .int (nI (n / 16))), (0, .ref (ca 0 0)), (1, .int (nI n))]) (fun H locs ls hl K => lv_istore_n hx hb dL_act_13 rfl hl (by decide) rfl K) ?_
  refine KX_step (fun H locs ls hl => lv_iload_n hx hb dL_act_14 rfl (lv_at hl 3 rfl)) ?_
  refine KX_step (fun H locs ls hl => lv_bipush (v := 16) hx hb dL_act_15 (by decide)) ?_
  refine KX_step (st1 := [.int (nI (n % 16))]) (fun H locs ls hl K => lv_irem hx hb dL_act_17 (by decide) (by rw [show ((nI n) - (nI n) / 16 * 16 : Int32) = (nI (n % 16)) from nI_mod (a := n) (b := 16) (by omega) (by omega) (by omega)]; exact K)) ?_
  refine KX_step (fun H locs ls hl => lv_tableIn (tgt := 184) (off := 166) hx hb dL_act_18 (by rw [hv]; decide) (by rw [hv]; decide) (by rw [hv]; rfl) (by decide)) ?_
  exact kt
set_option maxHeartbeats 4000000 in
set_option maxRecDepth 100000 in
theorem act_h9 {p : Program} {l : Launch} {e : Env} {s : State} {m : MethodId} {args : Array Value} {below : List Frame} {meth : Method} {c : Code} {D : va_G} {cs : Nat → ClassId} {A : Nat → Prop} {Q : State → Prop} {ca : Nat → Nat → Nat} (hfl : l.stackTraces = false) {k : KC} {n N : Nat} (hn : n < 2 ^ 31) (hN : N ≤ 30) (n0 : k.1 0 = nI N) (hv : n % 16 = 9) (hE : kE p s m args meth c D cs yL_act wsN_act cL_act 4 (some .int) A) (kt : KX p l e RM_act s m args below meth c D A 4 Q (f_1 k) (w_1 cs ca) [(3, .int (nI N)), (2, .int (nI (n / 16))), (0, .ref (ca 0 0)), (1, .int (nI n))] [] 196 1 6) : KX p l e RM_act s m args below meth c D A 4 Q (f_1 k) (w_1 cs ca) [(0, .ref (ca 0 0)), (1, .int (nI n))] [] 0 0 0 := by
  obtain ⟨hx, hb, hr, hlocks, hml, hown, hts, hK, hA, hG, hnm⟩ := id hE
  have hown : s.vm.findClass RL = some m.cls := hown
  refine KX_step (fun H locs ls hl => lv_iload_n hx hb dL_act_0 rfl (lv_at hl 1 rfl)) ?_
  refine KX_step (fun H locs ls hl => lv_bipush (v := 16) hx hb dL_act_1 (by decide)) ?_
  refine KX_step (st1 := [.int (nI (n / 16))]) (fun H locs ls hl K => lv_idiv hx hb dL_act_3 (by decide) (by rw [show ((nI n) / 16 : Int32) = (nI (n / 16)) from nI_div (a := n) (b := 16) (by omega) (by omega) (by omega)]; exact K)) ?_
  refine KX_store (lv1 := [(2, .int (nI (n / 16))), (0, .ref (ca 0 0)), (1, .int (nI n))]) (fun H locs ls hl K => lv_istore_n hx hb dL_act_4 rfl hl (by decide) rfl K) ?_
  refine KX_step (fun H locs ls hl => lv_aload_n hx hb dL_act_5 rfl (lv_at hl 1 rfl)) ?_
  refine KX_step (fun H locs ls hl => lv_iconst (v := 2) hx hb dL_act_6 (by decide)) ?_
  refine KX_step (fun H locs ls hl => lv_iconst (v := 0) hx hb dL_act_7 (by decide)) ?_
  refine KX_step (fun H locs ls hl => lv_iconst (v := 0) hx hb dL_act_8 (by decide)) ?_
  refine KX_step (fun H locs ls hl => lv_iconst (v := 0) hx hb dL_act_9 (by decide)) ?_
  refine KX_call (cells2 := 1) (slots2 := 6) (st0 := [.int 0, .int 0, .int 0, .int 2, .ref (ca 0 0)]) (rest := []) hE rfl (sp1 (q_call_2 l hfl D cs ca 0 0 0 (fun cv hq => (F_about (i := 0) (by omega) cv hq).imp id (fun z => z.trans n0)))) (va_cwS 5 hts gN_act_L_call rfl rfl rfl (by decide +kernel) ⟨(Nat.le_of_ble_eq_true rfl), (Nat.le_of_ble_eq_true rfl)⟩) rfl rfl (Nat.le_of_ble_eq_true rfl) ⟨(Nat.le_of_ble_eq_true rfl), (Nat.le_of_ble_eq_true rfl)⟩ dL_act_10 (Nat.le_of_ble_eq_true rfl) (Nat.le_of_ble_eq_true rfl) ?_
  refine KX_store (lv1 := [(3, .int (nI N)), (2, .int (nI (n / 16))), (0, .ref (ca 0 0)), (1, .int (nI n))]) (fun H locs ls hl K => lv_istore_n hx hb dL_act_13 rfl hl (by decide) rfl K) ?_
  refine KX_step (fun H locs ls hl => lv_iload_n hx hb dL_act_14 rfl (lv_at hl 3 rfl)) ?_
  refine KX_step (fun H locs ls hl => lv_bipush (v := 16) hx hb dL_act_15 (by decide)) ?_
  refine KX_step (st1 := [.int (nI (n % 16))]) (fun H locs ls hl K => lv_irem hx hb dL_act_17 (by decide) (by rw [show ((nI n) - (nI n) / 16 * 16 : Int32) = (nI (n % 16)) from nI_mod (a := n) (b := 16) (by omega) (by omega) (by omega)]; exact K)) ?_
  refine KX_step (fun H locs ls hl => lv_tableIn (tgt := 196) (off := 178) hx hb dL_act_18 (by rw [hv]; decide) (by rw [hv]; decide) (by rw [hv]; rfl) (by decide)) ?_
  exact kt
set_option maxHeartbeats 4000000 in
set_option maxRecDepth 100000 in
theorem act_h10 {p : Program} {l : Launch} {e : Env} {s : State} {m : MethodId} {args : Array Value} {below : List Frame} {meth : Method} {c : Code} {D : va_G} {cs : Nat → ClassId} {A : Nat → Prop} {Q : State → Prop} {ca : Nat → Nat → Nat} (hfl : l.stackTraces = false) {k : KC} {n N : Nat} (hn : n < 2 ^ 31) (hN : N ≤ 30) (n0 : k.1 0 = nI N) (hv : n % 16 = 10) (hE : kE p s m args meth c D cs yL_act wsN_act cL_act 4 (some .int) A) (kt : KX p l e RM_act s m args below meth c D A 4 Q (f_1 k) (w_1 cs ca) [(3, .int (nI N)), (2, .int (nI (n / 16))), (0, .ref (ca 0 0)), (1, .int (nI n))] [] 234 1 6) : KX p l e RM_act s m args below meth c D A 4 Q (f_1 k) (w_1 cs ca) [(0, .ref (ca 0 0)), (1, .int (nI n))] [] 0 0 0 := by
  obtain ⟨hx, hb, hr, hlocks, hml, hown, hts, hK, hA, hG, hnm⟩ := id hE
  have hown : s.vm.findClass RL = some m.cls := hown
  refine KX_step (fun H locs ls hl => lv_iload_n hx hb dL_act_0 rfl (lv_at hl 1 rfl)) ?_
  refine KX_step (fun H locs ls hl => lv_bipush (v := 16) hx hb dL_act_1 (by decide)) ?_
  refine KX_step (st1 := [.int (nI (n / 16))]) (fun H locs ls hl K => lv_idiv hx hb dL_act_3 (by decide) (by rw [show ((nI n) / 16 : Int32) = (nI (n / 16)) from nI_div (a := n) (b := 16) (by omega) (by omega) (by omega)]; exact K)) ?_
  refine KX_store (lv1 := [(2, .int (nI (n / 16))), (0, .ref (ca 0 0)), (1, .int (nI n))]) (fun H locs ls hl K => lv_istore_n hx hb dL_act_4 rfl hl (by decide) rfl K) ?_
  refine KX_step (fun H locs ls hl => lv_aload_n hx hb dL_act_5 rfl (lv_at hl 1 rfl)) ?_
  refine KX_step (fun H locs ls hl => lv_iconst (v := 2) hx hb dL_act_6 (by decide)) ?_
  refine KX_step (fun H locs ls hl => lv_iconst (v := 0) hx hb dL_act_7 (by decide)) ?_
  refine KX_step (fun H locs ls hl => lv_iconst (v := 0) hx hb dL_act_8 (by decide)) ?_
  refine KX_step (fun H locs ls hl => lv_iconst (v := 0) hx hb dL_act_9 (by decide)) ?_
  refine KX_call (cells2 := 1) (slots2 := 6) (st0 := [.int 0, .int 0, .int 0, .int 2, .ref (ca 0 0)]) (rest := []) hE rfl (sp1 (q_call_2 l hfl D cs ca 0 0 0 (fun cv hq => (F_about (i := 0) (by omega) cv hq).imp id (fun z => z.trans n0)))) (va_cwS 5 hts gN_act_L_call rfl rfl rfl (by decide +kernel) ⟨(Nat.le_of_ble_eq_true rfl), (Nat.le_of_ble_eq_true rfl)⟩) rfl rfl (Nat.le_of_ble_eq_true rfl) ⟨(Nat.le_of_ble_eq_true rfl), (Nat.le_of_ble_eq_true rfl)⟩ dL_act_10 (Nat.le_of_ble_eq_true rfl) (Nat.le_of_ble_eq_true rfl) ?_
  refine KX_store (lv1 := [(3, .int (nI N)), (2, .int (nI (n / 16))), (0, .ref (ca 0 0)), (1, .int (nI n))]) (fun H locs ls hl K => lv_istore_n hx hb dL_act_13 rfl hl (by decide) rfl K) ?_
  refine KX_step (fun H locs ls hl => lv_iload_n hx hb dL_act_14 rfl (lv_at hl 3 rfl)) ?_
  refine KX_step (fun H locs ls hl => lv_bipush (v := 16) hx hb dL_act_15 (by decide)) ?_
  refine KX_step (st1 := [.int (nI (n % 16))]) (fun H locs ls hl K => lv_irem hx hb dL_act_17 (by decide) (by rw [show ((nI n) - (nI n) / 16 * 16 : Int32) = (nI (n % 16)) from nI_mod (a := n) (b := 16) (by omega) (by omega) (by omega)]; exact K)) ?_
  refine KX_step (fun H locs ls hl => lv_tableIn (tgt := 234) (off := 216) hx hb dL_act_18 (by rw [hv]; decide) (by rw [hv]; decide) (by rw [hv]; rfl) (by decide)) ?_
  exact kt
set_option maxHeartbeats 4000000 in
set_option maxRecDepth 100000 in
theorem act_h11 {p : Program} {l : Launch} {e : Env} {s : State} {m : MethodId} {args : Array Value} {below : List Frame} {meth : Method} {c : Code} {D : va_G} {cs : Nat → ClassId} {A : Nat → Prop} {Q : State → Prop} {ca : Nat → Nat → Nat} (hfl : l.stackTraces = false) {k : KC} {n N : Nat} (hn : n < 2 ^ 31) (hN : N ≤ 30) (n0 : k.1 0 = nI N) (hv : n % 16 = 11) (hE : kE p s m args meth c D cs yL_act wsN_act cL_act 4 (some .int) A) (kt : KX p l e RM_act s m args below meth c D A 4 Q (f_1 k) (w_1 cs ca) [(3, .int (nI N)), (2, .int (nI (n / 16))), (0, .ref (ca 0 0)), (1, .int (nI n))] [] 260 1 6) : KX p l e RM_act s m args below meth c D A 4 Q (f_1 k) (w_1 cs ca) [(0, .ref (ca 0 0)), (1, .int (nI n))] [] 0 0 0 := by
  obtain ⟨hx, hb, hr, hlocks, hml, hown, hts, hK, hA, hG, hnm⟩ := id hE
  have hown : s.vm.findClass RL = some m.cls := hown
  refine KX_step (fun H locs ls hl => lv_iload_n hx hb dL_act_0 rfl (lv_at hl 1 rfl)) ?_
  refine KX_step (fun H locs ls hl => lv_bipush (v := 16) hx hb dL_act_1 (by decide)) ?_
  refine KX_step (st1 := [.int (nI (n / 16))]) (fun H locs ls hl K => lv_idiv hx hb dL_act_3 (by decide) (by rw [show ((nI n) / 16 : Int32) = (nI (n / 16)) from nI_div (a := n) (b := 16) (by omega) (by omega) (by omega)]; exact K)) ?_
  refine KX_store (lv1 := [(2, .int (nI (n / 16))), (0, .ref (ca 0 0)), (1, .int (nI n))]) (fun H locs ls hl K => lv_istore_n hx hb dL_act_4 rfl hl (by decide) rfl K) ?_
  refine KX_step (fun H locs ls hl => lv_aload_n hx hb dL_act_5 rfl (lv_at hl 1 rfl)) ?_
  refine KX_step (fun H locs ls hl => lv_iconst (v := 2) hx hb dL_act_6 (by decide)) ?_
  refine KX_step (fun H locs ls hl => lv_iconst (v := 0) hx hb dL_act_7 (by decide)) ?_
  refine KX_step (fun H locs ls hl => lv_iconst (v := 0) hx hb dL_act_8 (by decide)) ?_
  refine KX_step (fun H locs ls hl => lv_iconst (v := 0) hx hb dL_act_9 (by decide)) ?_
  refine KX_call (cells2 := 1) (slots2 := 6) (st0 := [.int 0, .int 0, .int 0, .int 2, .ref (ca 0 0)]) (rest := []) hE rfl (sp1 (q_call_2 l hfl D cs ca 0 0 0 (fun cv hq => (F_about (i := 0) (by omega) cv hq).imp id (fun z => z.trans n0)))) (va_cwS 5 hts gN_act_L_call rfl rfl rfl (by decide +kernel) ⟨(Nat.le_of_ble_eq_true rfl), (Nat.le_of_ble_eq_true rfl)⟩) rfl rfl (Nat.le_of_ble_eq_true rfl) ⟨(Nat.le_of_ble_eq_true rfl), (Nat.le_of_ble_eq_true rfl)⟩ dL_act_10 (Nat.le_of_ble_eq_true rfl) (Nat.le_of_ble_eq_true rfl) ?_
  refine KX_store (lv1 := [(3, .int (nI N)), (2, .int (nI (n / 16))), (0, .ref (ca 0 0)), (1, .int (nI n))]) (fun H locs ls hl K => lv_istore_n hx hb dL_act_13 rfl hl (by decide) rfl K) ?_
  refine KX_step (fun H locs ls hl => lv_iload_n hx hb dL_act_14 rfl (lv_at hl 3 rfl)) ?_
  refine KX_step (fun H locs ls hl => lv_bipush (v := 16) hx hb dL_act_15 (by decide)) ?_
  refine KX_step (st1 := [.int (nI (n % 16))]) (fun H locs ls hl K => lv_irem hx hb dL_act_17 (by decide) (by rw [show ((nI n) - (nI n) / 16 * 16 : Int32) = (nI (n % 16)) from nI_mod (a := n) (b := 16) (by omega) (by omega) (by omega)]; exact K)) ?_
  refine KX_step (fun H locs ls hl => lv_tableIn (tgt := 260) (off := 242) hx hb dL_act_18 (by rw [hv]; decide) (by rw [hv]; decide) (by rw [hv]; rfl) (by decide)) ?_
  exact kt
set_option maxHeartbeats 4000000 in
set_option maxRecDepth 100000 in
theorem act_h12 {p : Program} {l : Launch} {e : Env} {s : State} {m : MethodId} {args : Array Value} {below : List Frame} {meth : Method} {c : Code} {D : va_G} {cs : Nat → ClassId} {A : Nat → Prop} {Q : State → Prop} {ca : Nat → Nat → Nat} (hfl : l.stackTraces = false) {k : KC} {n N : Nat} (hn : n < 2 ^ 31) (hN : N ≤ 30) (n0 : k.1 0 = nI N) (hv : 12 ≤ n % 16) (hE : kE p s m args meth c D cs yL_act wsN_act cL_act 4 (some .int) A) (kt : KX p l e RM_act s m args below meth c D A 4 Q (f_1 k) (w_1 cs ca) [(3, .int (nI N)), (2, .int (nI (n / 16))), (0, .ref (ca 0 0)), (1, .int (nI n))] [] 296 1 6) : KX p l e RM_act s m args below meth c D A 4 Q (f_1 k) (w_1 cs ca) [(0, .ref (ca 0 0)), (1, .int (nI n))] [] 0 0 0 := by
  obtain ⟨hx, hb, hr, hlocks, hml, hown, hts, hK, hA, hG, hnm⟩ := id hE
  have hown : s.vm.findClass RL = some m.cls := hown
  refine KX_step (fun H locs ls hl => lv_iload_n hx hb dL_act_0 rfl (lv_at hl 1 rfl)) ?_
  refine KX_step (fun H locs ls hl => lv_bipush (v := 16) hx hb dL_act_1 (by decide)) ?_
  refine KX_step (st1 := [.int (nI (n / 16))]) (fun H locs ls hl K => lv_idiv hx hb dL_act_3 (by decide) (by rw [show ((nI n) / 16 : Int32) = (nI (n / 16)) from nI_div (a := n) (b := 16) (by omega) (by omega) (by omega)]; exact K)) ?_
  refine KX_store (lv1 := [(2, .int (nI (n / 16))), (0, .ref (ca 0 0)), (1, .int (nI n))]) (fun H locs ls hl K => lv_istore_n hx hb dL_act_4 rfl hl (by decide) rfl K) ?_
  refine KX_step (fun H locs ls hl => lv_aload_n hx hb dL_act_5 rfl (lv_at hl 1 rfl)) ?_
  refine KX_step (fun H locs ls hl => lv_iconst (v := 2) hx hb dL_act_6 (by decide)) ?_
  refine KX_step (fun H locs ls hl => lv_iconst (v := 0) hx hb dL_act_7 (by decide)) ?_
  refine KX_step (fun H locs ls hl => lv_iconst (v := 0) hx hb dL_act_8 (by decide)) ?_
  refine KX_step (fun H locs ls hl => lv_iconst (v := 0) hx hb dL_act_9 (by decide)) ?_
  refine KX_call (cells2 := 1) (slots2 := 6) (st0 := [.int 0, .int 0, .int 0, .int 2, .ref (ca 0 0)]) (rest := []) hE rfl (sp1 (q_call_2 l hfl D cs ca 0 0 0 (fun cv hq => (F_about (i := 0) (by omega) cv hq).imp id (fun z => z.trans n0)))) (va_cwS 5 hts gN_act_L_call rfl rfl rfl (by decide +kernel) ⟨(Nat.le_of_ble_eq_true rfl), (Nat.le_of_ble_eq_true rfl)⟩) rfl rfl (Nat.le_of_ble_eq_true rfl) ⟨(Nat.le_of_ble_eq_true rfl), (Nat.le_of_ble_eq_true rfl)⟩ dL_act_10 (Nat.le_of_ble_eq_true rfl) (Nat.le_of_ble_eq_true rfl) ?_
  refine KX_store (lv1 := [(3, .int (nI N)), (2, .int (nI (n / 16))), (0, .ref (ca 0 0)), (1, .int (nI n))]) (fun H locs ls hl K => lv_istore_n hx hb dL_act_13 rfl hl (by decide) rfl K) ?_
  refine KX_step (fun H locs ls hl => lv_iload_n hx hb dL_act_14 rfl (lv_at hl 3 rfl)) ?_
  refine KX_step (fun H locs ls hl => lv_bipush (v := 16) hx hb dL_act_15 (by decide)) ?_
  refine KX_step (st1 := [.int (nI (n % 16))]) (fun H locs ls hl K => lv_irem hx hb dL_act_17 (by decide) (by rw [show ((nI n) - (nI n) / 16 * 16 : Int32) = (nI (n % 16)) from nI_mod (a := n) (b := 16) (by omega) (by omega) (by omega)]; exact K)) ?_
  refine KX_step (fun H locs ls hl => lv_tableOut (tgt := 296) hx hb dL_act_18 (Or.inr (by rw [nI_toInt (by omega)]; omega)) (by decide)) ?_
  exact kt
