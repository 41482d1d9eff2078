/-! p29: two organs are alike. -/
abbrev RM_alike : Room := { frames := 10, cells := 400, slots := 2400, locals := 239 }
set_option maxHeartbeats 4000000 in
set_option maxRecDepth 100000 in
theorem alike_w {p : Program} {l : Launch} {e : Env} {s : State} {m : MethodId} {args : Array Value} {below : List Frame} {meth : Method} {c : Code} {D : va_G} {cs : Nat → ClassId} {A : Nat → Prop} {Q : State → Prop} {ca cb : Nat → Nat → Nat} (hfl : l.stackTraces = false) {k : KC} {n : Nat} (hn : n < 2 ^ 31) (hE : kE p s m args meth c D cs yL_alike wsN_alike cL_alike 5 (some .boolean) A) (kr : ∀ (lv : List (Nat × Value)) (pc cells slots : Nat), cells ≤ 400 → slots ≤ 2400 → decode cL_alike pc = .ok (.ireturn, 1) → KX p l e RM_alike s m args below meth c D A 5 Q (f_2 k k) (w_2 cs ca cb) lv [.int 1] pc cells slots) : KX p l e RM_alike s m args below meth c D A 5 Q (f_2 k k) (w_2 cs ca cb) [(0, .ref (ca 0 0)), (1, .ref (cb 0 0)), (2, .int (nI n))] [] 0 0 0 := by
  obtain ⟨hx, hb, hr, hlocks, hml, hown, hts, hK, hA, hG, hnm⟩ := id hE
  have hown : s.vm.findClass RL = some m.cls := hown
  refine KX_step (fun H locs ls hl => lv_aload_n hx hb dL_alike_0 rfl (lv_at hl 0 rfl)) ?_
  refine KX_step (fun H locs ls hl => lv_iload_n hx hb dL_alike_1 rfl (lv_at hl 2 rfl)) ?_
  refine KX_step (fun H locs ls hl => lv_i2l (v := (nI n).toInt64) hx hb dL_alike_2 rfl) ?_
  refine KX_step (fun H locs ls hl => lv_iconst (v := 1) hx hb dL_alike_3 (by decide)) ?_
  refine KX_step (fun H locs ls hl => lv_iload_n hx hb dL_alike_4 rfl (lv_at hl 2 rfl)) ?_
  refine KX_step (fun H locs ls hl => lv_bipush (v := 30) hx hb dL_alike_5 (by decide)) ?_
  refine KX_step (st1 := [.int (nI (n % 30)), .int 1, .long ((nI n).toInt64), .ref (ca 0 0)]) (fun H locs ls hl K => lv_irem hx hb dL_alike_7 (by decide) (by rw [show ((nI n) - (nI n) / 30 * 30 : Int32) = (nI (n % 30)) from nI_mod (a := n) (b := 30) (by omega) (by omega) (by omega)]; exact K)) ?_
  refine KX_step (st1 := [.int (nI (1 + (n % 30))), .long ((nI n).toInt64), .ref (ca 0 0)]) (fun H locs ls hl K => lv_iadd hx hb dL_alike_8 (by rw [show (1 + (nI (n % 30)) : Int32) = (nI (1 + (n % 30))) from nI_add (1) (n % 30)]; exact K)) ?_
  refine KX_callH (cells2 := 1) (slots2 := 6) (st0 := [.int (nI (1 + (n % 30))), .long ((nI n).toInt64), .ref (ca 0 0)]) (rest := []) hE rfl (sp2a (q_doSimulate l hfl D cs ca ((nI n).toInt64) (nI (1 + (n % 30))) (fun cv hq => Q_sim hq _ (n := 1 + (n % 30)) (by omega) (by omega)))) (vx_cwSW 3 hts gN_alike_L_doSimulate rfl rfl rfl (by decide +kernel) ⟨(Nat.le_of_ble_eq_true rfl), (Nat.le_of_ble_eq_true rfl)⟩) rfl rfl (Nat.le_of_ble_eq_true rfl) ⟨(Nat.le_of_ble_eq_true rfl), (Nat.le_of_ble_eq_true rfl)⟩ dL_alike_9 (Nat.le_of_ble_eq_true rfl) (Nat.le_of_ble_eq_true rfl) ?_
  refine KX_step (fun H locs ls hl => lv_aload_n hx hb dL_alike_12 rfl (lv_at hl 1 rfl)) ?_
  refine KX_step (fun H locs ls hl => lv_iload_n hx hb dL_alike_13 rfl (lv_at hl 2 rfl)) ?_
  refine KX_step (fun H locs ls hl => lv_i2l (v := (nI n).toInt64) hx hb dL_alike_14 rfl) ?_
  refine KX_step (fun H locs ls hl => lv_iconst (v := 1) hx hb dL_alike_15 (by decide)) ?_
  refine KX_step (fun H locs ls hl => lv_iload_n hx hb dL_alike_16 rfl (lv_at hl 2 rfl)) ?_
  refine KX_step (fun H locs ls hl => lv_bipush (v := 30) hx hb dL_alike_17 (by decide)) ?_
  refine KX_step (st1 := [.int (nI (n % 30)), .int 1, .long ((nI n).toInt64), .ref (cb 0 0), .int ((k_X6_simulate (nmv k) ((nI n).toInt64) (nI (1 + (n % 30)))).1)]) (fun H locs ls hl K => lv_irem hx hb dL_alike_19 (by decide) (by rw [show ((nI n) - (nI n) / 30 * 30 : Int32) = (nI (n % 30)) from nI_mod (a := n) (b := 30) (by omega) (by omega) (by omega)]; exact K)) ?_
  refine KX_step (st1 := [.int (nI (1 + (n % 30))), .long ((nI n).toInt64), .ref (cb 0 0), .int ((k_X6_simulate (nmv k) ((nI n).toInt64) (nI (1 + (n % 30)))).1)]) (fun H locs ls hl K => lv_iadd hx hb dL_alike_20 (by rw [show (1 + (nI (n % 30)) : Int32) = (nI (1 + (n % 30))) from nI_add (1) (n % 30)]; exact K)) ?_
  refine KX_callH (cells2 := 2) (slots2 := 12) (st0 := [.int (nI (1 + (n % 30))), .long ((nI n).toInt64), .ref (cb 0 0), .int ((k_X6_simulate (nmv k) ((nI n).toInt64) (nI (1 + (n % 30)))).1)]) (rest := [.int ((k_X6_simulate (nmv k) ((nI n).toInt64) (nI (1 + (n % 30)))).1)]) hE rfl (sp2b (q_doSimulate l hfl D cs cb ((nI n).toInt64) (nI (1 + (n % 30))) (fun cv hq => Q_sim hq _ (n := 1 + (n % 30)) (by omega) (by omega)))) (vx_cwSW 3 hts gN_alike_L_doSimulate rfl rfl rfl (by decide +kernel) ⟨(Nat.le_of_ble_eq_true rfl), (Nat.le_of_ble_eq_true rfl)⟩) rfl rfl (Nat.le_of_ble_eq_true rfl) ⟨(Nat.le_of_ble_eq_true rfl), (Nat.le_of_ble_eq_true rfl)⟩ dL_alike_21 (Nat.le_of_ble_eq_true rfl) (Nat.le_of_ble_eq_true rfl) ?_
  refine KX_if (fun H locs ls hl => lv_icmp_ne (tgt := 42) hx hb dL_alike_24 (by decide)) (fun q => absurd rfl q) (fun _ => ?_)
  refine KX_step (fun H locs ls hl => lv_aload_n hx hb dL_alike_27 rfl (lv_at hl 0 rfl)) ?_
  refine KX_callV (b := ca 0 0) (cells2 := 2) (slots2 := 12) (st0 := [.ref (ca 0 0)]) (rest := []) (As := []) hE rfl (sv2a R_full2) (cwV 0 hts gN_alike_X5_fullest rfl rfl rfl (by decide +kernel) ⟨(Nat.le_of_ble_eq_true rfl), (Nat.le_of_ble_eq_true rfl)⟩) rfl rfl (Nat.le_of_ble_eq_true rfl) ⟨(Nat.le_of_ble_eq_true rfl), (Nat.le_of_ble_eq_true rfl)⟩ dL_alike_28 (Nat.le_of_ble_eq_true rfl) (Nat.le_of_ble_eq_true rfl) ?_
  refine KX_step (fun H locs ls hl => lv_aload_n hx hb dL_alike_31 rfl (lv_at hl 1 rfl)) ?_
  refine KX_callV (b := cb 0 0) (cells2 := 2) (slots2 := 12) (st0 := [.ref (cb 0 0), .int ((k_X6_fullest (nmv k)).1)]) (rest := [.int ((k_X6_fullest (nmv k)).1)]) (As := []) hE rfl (sv2b R_full2) (cwV 0 hts gN_alike_X5_fullest rfl rfl rfl (by decide +kernel) ⟨(Nat.le_of_ble_eq_true rfl), (Nat.le_of_ble_eq_true rfl)⟩) rfl rfl (Nat.le_of_ble_eq_true rfl) ⟨(Nat.le_of_ble_eq_true rfl), (Nat.le_of_ble_eq_true rfl)⟩ dL_alike_32 (Nat.le_of_ble_eq_true rfl) (Nat.le_of_ble_eq_true rfl) ?_
  refine KX_if (fun H locs ls hl => lv_icmp_ne (tgt := 42) hx hb dL_alike_35 (by decide)) (fun q => absurd rfl q) (fun _ => ?_)
  refine KX_step (fun H locs ls hl => lv_iconst (v := 1) hx hb dL_alike_38 (by decide)) ?_
  refine KX_step (fun H locs ls hl => lv_goto (tgt := 43) hx hb dL_alike_39 (by decide)) ?_
  refine KX_store (lv1 := [(3, .int 1), (0, .ref (ca 0 0)), (1, .ref (cb 0 0)), (2, .int (nI n))]) (fun H locs ls hl K => lv_istore_n hx hb dL_alike_43 rfl hl (by decide) rfl K) ?_
  have L : ∀ i j, j + i = 30 → KX p l e RM_alike s m args below meth c D A 5 Q (f_2 k k) (w_2 cs ca cb) [(4, .int (nI j)), (3, .int 1), (0, .ref (ca 0 0)), (1, .ref (cb 0 0)), (2, .int (nI n))] [] 47 (4 + 12 * j) (24 + 72 * j) := by
    intro i
    induction i with
    | zero =>
      intro j hj
      have hj : j = 30 := by omega
      subst hj
      refine KX_step (fun H locs ls hl => lv_iload hx hb dL_alike_47 (lv_at hl 0 rfl)) ?_
      refine KX_step (fun H locs ls hl => lv_bipush (v := 30) hx hb dL_alike_49 (by decide)) ?_
      refine KX_if (fun H locs ls hl => lv_icmp_ge (tgt := 212) hx hb dL_alike_51 (by decide)) (fun _ => ?_) (fun q => absurd (by decide) q)
      refine KX_step (fun H locs ls hl => lv_iload_n hx hb dL_alike_212 rfl (lv_at hl 1 rfl)) ?_
      exact kr _ _ _ _ (by omega) (by omega) dL_alike_213
    | succ i ih =>
      intro j hj
      refine KX_step (fun H locs ls hl => lv_iload hx hb dL_alike_47 (lv_at hl 0 rfl)) ?_
      refine KX_step (fun H locs ls hl => lv_bipush (v := 30) hx hb dL_alike_49 (by decide)) ?_
      refine KX_if (fun H locs ls hl => lv_icmp_ge (tgt := 212) hx hb dL_alike_51 (by decide)) (fun q => absurd q (nI_ge (b := 30) (by omega) (by omega))) (fun _ => ?_)
      refine KX_step (fun H locs ls hl => lv_iload_n hx hb dL_alike_54 rfl (lv_at hl 1 rfl)) ?_
      refine KX_if (fun H locs ls hl => lv_if_eq (tgt := 212) hx hb dL_alike_55 (by decide)) (fun q => absurd q n10) (fun _ => ?_)
      refine KX_step (fun H locs ls hl => lv_aload_n hx hb dL_alike_58 rfl (lv_at hl 2 rfl)) ?_
      refine KX_step (fun H locs ls hl => lv_iconst (v := 3) hx hb dL_alike_59 (by decide)) ?_
      refine KX_step (fun H locs ls hl => lv_iload hx hb dL_alike_60 (lv_at hl 0 rfl)) ?_
      refine KX_step (fun H locs ls hl => lv_iload_n hx hb dL_alike_62 rfl (lv_at hl 4 rfl)) ?_
      refine KX_step (fun H locs ls hl => lv_iconst (v := 4) hx hb dL_alike_63 (by decide)) ?_
      refine KX_step (st1 := [.int (nI (n % 4)), .int (nI j), .int 3, .ref (ca 0 0)]) (fun H locs ls hl K => lv_irem hx hb dL_alike_64 (by decide) (by rw [show ((nI n) - (nI n) / 4 * 4 : Int32) = (nI (n % 4)) from nI_mod (a := n) (b := 4) (by omega) (by omega) (by omega)]; exact K)) ?_
      refine KX_step (fun H locs ls hl => lv_iconst (v := 0) hx hb dL_alike_65 (by decide)) ?_
      refine KX_call (cells2 := 4 + 12 * j + 1) (slots2 := 24 + 72 * j + 6) (st0 := [.int 0, .int (nI (n % 4)), .int (nI j), .int 3, .ref (ca 0 0)]) (rest := []) hE rfl (sp2a (q_call_3 l hfl D cs ca (nI j) (nI (n % 4)) 0 (fun cv hq => Q_peg hq _ _))) (va_cwS 5 hts gN_alike_L_call rfl rfl rfl (by decide +kernel) ⟨(Nat.le_of_ble_eq_true rfl), (Nat.le_of_ble_eq_true rfl)⟩) rfl rfl (Nat.le_of_ble_eq_true rfl) ⟨(show 4 + 12 * j + 1 ≤ 400 by omega), (show 24 + 72 * j + 6 ≤ 2400 by omega)⟩ dL_alike_66 (by omega) (by omega) ?_
      refine KX_step (fun H locs ls hl => lv_aload_n hx hb dL_alike_69 rfl (lv_at hl 3 rfl)) ?_
      refine KX_step (fun H locs ls hl => lv_iconst (v := 3) hx hb dL_alike_70 (by decide)) ?_
      refine KX_step (fun H locs ls hl => lv_iload hx hb dL_alike_71 (lv_at hl 0 rfl)) ?_
      refine KX_step (fun H locs ls hl => lv_iload_n hx hb dL_alike_73 rfl (lv_at hl 4 rfl)) ?_
      refine KX_step (fun H locs ls hl => lv_iconst (v := 4) hx hb dL_alike_74 (by decide)) ?_
      refine KX_step (st1 := [.int (nI (n % 4)), .int (nI j), .int 3, .ref (cb 0 0), .int (a_peg k.1 (nI j) (nI (n % 4)))]) (fun H locs ls hl K => lv_irem hx hb dL_alike_75 (by decide) (by rw [show ((nI n) - (nI n) / 4 * 4 : Int32) = (nI (n % 4)) from nI_mod (a := n) (b := 4) (by omega) (by omega) (by omega)]; exact K)) ?_
      refine KX_step (fun H locs ls hl => lv_iconst (v := 0) hx hb dL_alike_76 (by decide)) ?_
      refine KX_call (cells2 := 4 + 12 * j + 2) (slots2 := 24 + 72 * j + 12) (st0 := [.int 0, .int (nI (n % 4)), .int (nI j), .int 3, .ref (cb 0 0), .int (a_peg k.1 (nI j) (nI (n % 4)))]) (rest := [.int (a_peg k.1 (nI j) (nI (n % 4)))]) hE rfl (sp2b (q_call_3 l hfl D cs cb (nI j) (nI (n % 4)) 0 (fun cv hq => Q_peg hq _ _))) (va_cwS 5 hts gN_alike_L_call rfl rfl rfl (by decide +kernel) ⟨(Nat.le_of_ble_eq_true rfl), (Nat.le_of_ble_eq_true rfl)⟩) rfl rfl (Nat.le_of_ble_eq_true rfl) ⟨(show 4 + 12 * j + 1 + 1 ≤ 400 by omega), (show 24 + 72 * j + 6 + 6 ≤ 2400 by omega)⟩ dL_alike_77 (by omega) (by omega) ?_
      refine KX_if (fun H locs ls hl => lv_icmp_ne (tgt := 204) hx hb dL_alike_80 (by decide)) (fun q => absurd rfl q) (fun _ => ?_)
      refine KX_step (fun H locs ls hl => lv_aload_n hx hb dL_alike_83 rfl (lv_at hl 2 rfl)) ?_
      refine KX_step (fun H locs ls hl => lv_iconst (v := 2) hx hb dL_alike_84 (by decide)) ?_
      refine KX_step (fun H locs ls hl => lv_iload hx hb dL_alike_85 (lv_at hl 0 rfl)) ?_
      refine KX_step (fun H locs ls hl => lv_iconst (v := 0) hx hb dL_alike_87 (by decide)) ?_
      refine KX_step (fun H locs ls hl => lv_iconst (v := 0) hx hb dL_alike_88 (by decide)) ?_
      refine KX_call (cells2 := 4 + 12 * j + 3) (slots2 := 24 + 72 * j + 18) (st0 := [.int 0, .int 0, .int (nI j), .int 2, .ref (ca 0 0)]) (rest := []) hE rfl (sp2a (q_call_2 l hfl D cs ca (nI j) 0 0 (fun cv hq => Q_about hq _))) (va_cwS 5 hts gN_alike_L_call rfl rfl rfl (by decide +kernel) ⟨(Nat.le_of_ble_eq_true rfl), (Nat.le_of_ble_eq_true rfl)⟩) rfl rfl (Nat.le_of_ble_eq_true rfl) ⟨(show 4 + 12 * j + 2 + 1 ≤ 400 by omega), (show 24 + 72 * j + 12 + 6 ≤ 2400 by omega)⟩ dL_alike_89 (by omega) (by omega) ?_
      refine KX_step (fun H locs ls hl => lv_aload_n hx hb dL_alike_92 rfl (lv_at hl 3 rfl)) ?_
      refine KX_step (fun H locs ls hl => lv_iconst (v := 2) hx hb dL_alike_93 (by decide)) ?_
      refine KX_step (fun H locs ls hl => lv_iload hx hb dL_alike_94 (lv_at hl 0 rfl)) ?_
      refine KX_step (fun H locs ls hl => lv_iconst (v := 0) hx hb dL_alike_96 (by decide)) ?_
      refine KX_step (fun H locs ls hl => lv_iconst (v := 0) hx hb dL_alike_97 (by decide)) ?_
      refine KX_call (cells2 := 4 + 12 * j + 4) (slots2 := 24 + 72 * j + 24) (st0 := [.int 0, .int 0, .int (nI j), .int 2, .ref (cb 0 0), .int (a_about k.1 (nI j))]) (rest := [.int (a_about k.1 (nI j))]) hE rfl (sp2b (q_call_2 l hfl D cs cb (nI j) 0 0 (fun cv hq => Q_about hq _))) (va_cwS 5 hts gN_alike_L_call rfl rfl rfl (by decide +kernel) ⟨(Nat.le_of_ble_eq_true rfl), (Nat.le_of_ble_eq_true rfl)⟩) rfl rfl (Nat.le_of_ble_eq_true rfl) ⟨(show 4 + 12 * j + 3 + 1 ≤ 400 by omega), (show 24 + 72 * j + 18 + 6 ≤ 2400 by omega)⟩ dL_alike_98 (by omega) (by omega) ?_
      refine KX_if (fun H locs ls hl => lv_icmp_ne (tgt := 204) hx hb dL_alike_101 (by decide)) (fun q => absurd rfl q) (fun _ => ?_)
      refine KX_step (fun H locs ls hl => lv_aload_n hx hb dL_alike_104 rfl (lv_at hl 2 rfl)) ?_
      refine KX_step (fun H locs ls hl => lv_iconst (v := 4) hx hb dL_alike_105 (by decide)) ?_
      refine KX_step (fun H locs ls hl => lv_iload hx hb dL_alike_106 (lv_at hl 0 rfl)) ?_
      refine KX_step (fun H locs ls hl => lv_iload_n hx hb dL_alike_108 rfl (lv_at hl 4 rfl)) ?_
      refine KX_step (fun H locs ls hl => lv_iconst (v := 5) hx hb dL_alike_109 (by decide)) ?_
      refine KX_step (st1 := [.int (nI (n % 5)), .int (nI j), .int 4, .ref (ca 0 0)]) (fun H locs ls hl K => lv_irem hx hb dL_alike_110 (by decide) (by rw [show ((nI n) - (nI n) / 5 * 5 : Int32) = (nI (n % 5)) from nI_mod (a := n) (b := 5) (by omega) (by omega) (by omega)]; exact K)) ?_
      refine KX_step (fun H locs ls hl => lv_iconst (v := 0) hx hb dL_alike_111 (by decide)) ?_
      refine KX_call (cells2 := 4 + 12 * j + 5) (slots2 := 24 + 72 * j + 30) (st0 := [.int 0, .int (nI (n % 5)), .int (nI j), .int 4, .ref (ca 0 0)]) (rest := []) hE rfl (sp2a (q_call_4 l hfl D cs ca (nI j) (nI (n % 5)) 0 (fun cv hq => Q_order hq _ _))) (va_cwS 5 hts gN_alike_L_call rfl rfl rfl (by decide +kernel) ⟨(Nat.le_of_ble_eq_true rfl), (Nat.le_of_ble_eq_true rfl)⟩) rfl rfl (Nat.le_of_ble_eq_true rfl) ⟨(show 4 + 12 * j + 4 + 1 ≤ 400 by omega), (show 24 + 72 * j + 24 + 6 ≤ 2400 by omega)⟩ dL_alike_112 (by omega) (by omega) ?_
      refine KX_step (fun H locs ls hl => lv_aload_n hx hb dL_alike_115 rfl (lv_at hl 3 rfl)) ?_
      refine KX_step (fun H locs ls hl => lv_iconst (v := 4) hx hb dL_alike_116 (by decide)) ?_
      refine KX_step (fun H locs ls hl => lv_iload hx hb dL_alike_117 (lv_at hl 0 rfl)) ?_
      refine KX_step (fun H locs ls hl => lv_iload_n hx hb dL_alike_119 rfl (lv_at hl 4 rfl)) ?_
      refine KX_step (fun H locs ls hl => lv_iconst (v := 5) hx hb dL_alike_120 (by decide)) ?_
      refine KX_step (st1 := [.int (nI (n % 5)), .int (nI j), .int 4, .ref (cb 0 0), .int (a_order k.1 (nI j) (nI (n % 5)))]) (fun H locs ls hl K => lv_irem hx hb dL_alike_121 (by decide) (by rw [show ((nI n) - (nI n) / 5 * 5 : Int32) = (nI (n % 5)) from nI_mod (a := n) (b := 5) (by omega) (by omega) (by omega)]; exact K)) ?_
      refine KX_step (fun H locs ls hl => lv_iconst (v := 0) hx hb dL_alike_122 (by decide)) ?_
      refine KX_call (cells2 := 4 + 12 * j + 6) (slots2 := 24 + 72 * j + 36) (st0 := [.int 0, .int (nI (n % 5)), .int (nI j), .int 4, .ref (cb 0 0), .int (a_order k.1 (nI j) (nI (n % 5)))]) (rest := [.int (a_order k.1 (nI j) (nI (n % 5)))]) hE rfl (sp2b (q_call_4 l hfl D cs cb (nI j) (nI (n % 5)) 0 (fun cv hq => Q_order hq _ _))) (va_cwS 5 hts gN_alike_L_call rfl rfl rfl (by decide +kernel) ⟨(Nat.le_of_ble_eq_true rfl), (Nat.le_of_ble_eq_true rfl)⟩) rfl rfl (Nat.le_of_ble_eq_true rfl) ⟨(show 4 + 12 * j + 5 + 1 ≤ 400 by omega), (show 24 + 72 * j + 30 + 6 ≤ 2400 by omega)⟩ dL_alike_123 (by omega) (by omega) ?_
      refine KX_if (fun H locs ls hl => lv_icmp_ne (tgt := 204) hx hb dL_alike_126 (by decide)) (fun q => absurd rfl q) (fun _ => ?_)
      refine KX_step (fun H locs ls hl => lv_aload_n hx hb dL_alike_129 rfl (lv_at hl 2 rfl)) ?_
      refine KX_step (fun H locs ls hl => lv_bipush (v := 6) hx hb dL_alike_130 (by decide)) ?_
      refine KX_step (fun H locs ls hl => lv_iload hx hb dL_alike_132 (lv_at hl 0 rfl)) ?_
      refine KX_step (fun H locs ls hl => lv_iconst (v := 0) hx hb dL_alike_134 (by decide)) ?_
      refine KX_step (fun H locs ls hl => lv_iconst (v := 0) hx hb dL_alike_135 (by decide)) ?_
      refine KX_call (cells2 := 4 + 12 * j + 7) (slots2 := 24 + 72 * j + 42) (st0 := [.int 0, .int 0, .int (nI j), .int 6, .ref (ca 0 0)]) (rest := []) hE rfl (sp2a (q_call_6 l hfl D cs ca (nI j) 0 0 (fun cv hq => Q_chord hq _))) (va_cwS 5 hts gN_alike_L_call rfl rfl rfl (by decide +kernel) ⟨(Nat.le_of_ble_eq_true rfl), (Nat.le_of_ble_eq_true rfl)⟩) rfl rfl (Nat.le_of_ble_eq_true rfl) ⟨(show 4 + 12 * j + 6 + 1 ≤ 400 by omega), (show 24 + 72 * j + 36 + 6 ≤ 2400 by omega)⟩ dL_alike_136 (by omega) (by omega) ?_
      refine KX_step (fun H locs ls hl => lv_aload_n hx hb dL_alike_139 rfl (lv_at hl 3 rfl)) ?_
      refine KX_step (fun H locs ls hl => lv_bipush (v := 6) hx hb dL_alike_140 (by decide)) ?_
      refine KX_step (fun H locs ls hl => lv_iload hx hb dL_alike_142 (lv_at hl 0 rfl)) ?_
      refine KX_step (fun H locs ls hl => lv_iconst (v := 0) hx hb dL_alike_144 (by decide)) ?_
      refine KX_step (fun H locs ls hl => lv_iconst (v := 0) hx hb dL_alike_145 (by decide)) ?_
      refine KX_call (cells2 := 4 + 12 * j + 8) (slots2 := 24 + 72 * j + 48) (st0 := [.int 0, .int 0, .int (nI j), .int 6, .ref (cb 0 0), .int (a_chord k.1 (nI j))]) (rest := [.int (a_chord k.1 (nI j))]) hE rfl (sp2b (q_call_6 l hfl D cs cb (nI j) 0 0 (fun cv hq => Q_chord hq _))) (va_cwS 5 hts gN_alike_L_call rfl rfl rfl (by decide +kernel) ⟨(Nat.le_of_ble_eq_true rfl), (Nat.le_of_ble_eq_true rfl)⟩) rfl rfl (Nat.le_of_ble_eq_true rfl) ⟨(show 4 + 12 * j + 7 + 1 ≤ 400 by omega), (show 24 + 72 * j + 42 + 6 ≤ 2400 by omega)⟩ dL_alike_146 (by omega) (by omega) ?_
      refine KX_if (fun H locs ls hl => lv_icmp_ne (tgt := 204) hx hb dL_alike_149 (by decide)) (fun q => absurd rfl q) (fun _ => ?_)
      refine KX_step (fun H locs ls hl => lv_aload_n hx hb dL_alike_152 rfl (lv_at hl 2 rfl)) ?_
      refine KX_step (fun H locs ls hl => lv_iconst (v := 5) hx hb dL_alike_153 (by decide)) ?_
      refine KX_step (fun H locs ls hl => lv_iload hx hb dL_alike_154 (lv_at hl 0 rfl)) ?_
      refine KX_step (fun H locs ls hl => lv_iload_n hx hb dL_alike_156 rfl (lv_at hl 4 rfl)) ?_
      refine KX_step (fun H locs ls hl => lv_iconst (v := 5) hx hb dL_alike_157 (by decide)) ?_
      refine KX_step (st1 := [.int (nI (n % 5)), .int (nI j), .int 5, .ref (ca 0 0)]) (fun H locs ls hl K => lv_irem hx hb dL_alike_158 (by decide) (by rw [show ((nI n) - (nI n) / 5 * 5 : Int32) = (nI (n % 5)) from nI_mod (a := n) (b := 5) (by omega) (by omega) (by omega)]; exact K)) ?_
      refine KX_step (fun H locs ls hl => lv_iconst (v := 0) hx hb dL_alike_159 (by decide)) ?_
      refine KX_call (cells2 := 4 + 12 * j + 9) (slots2 := 24 + 72 * j + 54) (st0 := [.int 0, .int (nI (n % 5)), .int (nI j), .int 5, .ref (ca 0 0)]) (rest := []) hE rfl (sp2a (q_call_5 l hfl D cs ca (nI j) (nI (n % 5)) 0 (fun cv hq => Q_pipe hq _ _))) (va_cwS 5 hts gN_alike_L_call rfl rfl rfl (by decide +kernel) ⟨(Nat.le_of_ble_eq_true rfl), (Nat.le_of_ble_eq_true rfl)⟩) rfl rfl (Nat.le_of_ble_eq_true rfl) ⟨(show 4 + 12 * j + 8 + 1 ≤ 400 by omega), (show 24 + 72 * j + 48 + 6 ≤ 2400 by omega)⟩ dL_alike_160 (by omega) (by omega) ?_
      refine KX_step (fun H locs ls hl => lv_aload_n hx hb dL_alike_163 rfl (lv_at hl 3 rfl)) ?_
      refine KX_step (fun H locs ls hl => lv_iconst (v := 5) hx hb dL_alike_164 (by decide)) ?_
      refine KX_step (fun H locs ls hl => lv_iload hx hb dL_alike_165 (lv_at hl 0 rfl)) ?_
      refine KX_step (fun H locs ls hl => lv_iload_n hx hb dL_alike_167 rfl (lv_at hl 4 rfl)) ?_
      refine KX_step (fun H locs ls hl => lv_iconst (v := 5) hx hb dL_alike_168 (by decide)) ?_
      refine KX_step (st1 := [.int (nI (n % 5)), .int (nI j), .int 5, .ref (cb 0 0), .int (a_pipe k.1 (nI j) (nI (n % 5)))]) (fun H locs ls hl K => lv_irem hx hb dL_alike_169 (by decide) (by rw [show ((nI n) - (nI n) / 5 * 5 : Int32) = (nI (n % 5)) from nI_mod (a := n) (b := 5) (by omega) (by omega) (by omega)]; exact K)) ?_
      refine KX_step (fun H locs ls hl => lv_iconst (v := 0) hx hb dL_alike_170 (by decide)) ?_
      refine KX_call (cells2 := 4 + 12 * j + 10) (slots2 := 24 + 72 * j + 60) (st0 := [.int 0, .int (nI (n % 5)), .int (nI j), .int 5, .ref (cb 0 0), .int (a_pipe k.1 (nI j) (nI (n % 5)))]) (rest := [.int (a_pipe k.1 (nI j) (nI (n % 5)))]) hE rfl (sp2b (q_call_5 l hfl D cs cb (nI j) (nI (n % 5)) 0 (fun cv hq => Q_pipe hq _ _))) (va_cwS 5 hts gN_alike_L_call rfl rfl rfl (by decide +kernel) ⟨(Nat.le_of_ble_eq_true rfl), (Nat.le_of_ble_eq_true rfl)⟩) rfl rfl (Nat.le_of_ble_eq_true rfl) ⟨(show 4 + 12 * j + 9 + 1 ≤ 400 by omega), (show 24 + 72 * j + 54 + 6 ≤ 2400 by omega)⟩ dL_alike_171 (by omega) (by omega) ?_
      refine KX_if (fun H locs ls hl => lv_icmp_ne (tgt := 204) hx hb dL_alike_174 (by decide)) (fun q => absurd rfl q) (fun _ => ?_)
      refine KX_step (fun H locs ls hl => lv_aload_n hx hb dL_alike_177 rfl (lv_at hl 2 rfl)) ?_
      refine KX_step (fun H locs ls hl => lv_bipush (v := 8) hx hb dL_alike_178 (by decide)) ?_
      refine KX_step (fun H locs ls hl => lv_iload hx hb dL_alike_180 (lv_at hl 0 rfl)) ?_
      refine KX_step (fun H locs ls hl => lv_iconst (v := 0) hx hb dL_alike_182 (by decide)) ?_
      refine KX_step (fun H locs ls hl => lv_iconst (v := 0) hx hb dL_alike_183 (by decide)) ?_
      refine KX_call (cells2 := 4 + 12 * j + 11) (slots2 := 24 + 72 * j + 66) (st0 := [.int 0, .int 0, .int (nI j), .int 8, .ref (ca 0 0)]) (rest := []) hE rfl (sp2a (q_call_8 l hfl D cs ca (nI j) 0 0 (fun cv hq => Q_setting hq _))) (va_cwS 5 hts gN_alike_L_call rfl rfl rfl (by decide +kernel) ⟨(Nat.le_of_ble_eq_true rfl), (Nat.le_of_ble_eq_true rfl)⟩) rfl rfl (Nat.le_of_ble_eq_true rfl) ⟨(show 4 + 12 * j + 10 + 1 ≤ 400 by omega), (show 24 + 72 * j + 60 + 6 ≤ 2400 by omega)⟩ dL_alike_184 (by omega) (by omega) ?_
      refine KX_step (fun H locs ls hl => lv_aload_n hx hb dL_alike_187 rfl (lv_at hl 3 rfl)) ?_
      refine KX_step (fun H locs ls hl => lv_bipush (v := 8) hx hb dL_alike_188 (by decide)) ?_
      refine KX_step (fun H locs ls hl => lv_iload hx hb dL_alike_190 (lv_at hl 0 rfl)) ?_
      refine KX_step (fun H locs ls hl => lv_iconst (v := 0) hx hb dL_alike_192 (by decide)) ?_
      refine KX_step (fun H locs ls hl => lv_iconst (v := 0) hx hb dL_alike_193 (by decide)) ?_
      refine KX_call (cells2 := 4 + 12 * j + 12) (slots2 := 24 + 72 * j + 72) (st0 := [.int 0, .int 0, .int (nI j), .int 8, .ref (cb 0 0), .int (a_setting k.1 (nI j))]) (rest := [.int (a_setting k.1 (nI j))]) hE rfl (sp2b (q_call_8 l hfl D cs cb (nI j) 0 0 (fun cv hq => Q_setting hq _))) (va_cwS 5 hts gN_alike_L_call rfl rfl rfl (by decide +kernel) ⟨(Nat.le_of_ble_eq_true rfl), (Nat.le_of_ble_eq_true rfl)⟩) rfl rfl (Nat.le_of_ble_eq_true rfl) ⟨(show 4 + 12 * j + 11 + 1 ≤ 400 by omega), (show 24 + 72 * j + 66 + 6 ≤ 2400 by omega)⟩ dL_alike_194 (by omega) (by omega) ?_
      refine KX_if (fun H locs ls hl => lv_icmp_ne (tgt := 204) hx hb dL_alike_197 (by decide)) (fun q => absurd rfl q) (fun _ => ?_)
      refine KX_step (fun H locs ls hl => lv_iconst (v := 1) hx hb dL_alike_200 (by decide)) ?_
      refine KX_step (fun H locs ls hl => lv_goto (tgt := 205) hx hb dL_alike_201 (by decide)) ?_
      refine KX_store (lv1 := [(3, .int 1), (4, .int (nI j)), (0, .ref (ca 0 0)), (1, .ref (cb 0 0)), (2, .int (nI n))]) (fun H locs ls hl K => lv_istore_n hx hb dL_alike_205 rfl hl (by decide) rfl K) ?_
      refine KX_store (lv1 := [(4, .int (nI (j + 1))), (3, .int 1), (0, .ref (ca 0 0)), (1, .ref (cb 0 0)), (2, .int (nI n))]) (fun H locs ls hl K => lv_iinc (k := 1) (lv' := [(4, .int (nI (j + 1))), (3, .int 1), (0, .ref (ca 0 0)), (1, .ref (cb 0 0)), (2, .int (nI n))]) hx hb dL_alike_206 hl rfl (nI_1 _) (by decide) rfl K) ?_
      refine KX_step (fun H locs ls hl => lv_goto (tgt := 47) hx hb dL_alike_209 (by decide)) ?_
      refine KX_sub (lv1 := [(4, .int (nI (j + 1))), (3, .int 1), (0, .ref (ca 0 0)), (1, .ref (cb 0 0)), (2, .int (nI n))]) [0, 1, 2, 3, 4] rfl ?_
      exact KX_wid (by omega) (by omega) (ih (j + 1) (by omega))
  refine KX_step (fun H locs ls hl => lv_iconst (v := 0) hx hb dL_alike_44 (by decide)) ?_
  refine KX_store (lv1 := [(4, .int 0), (3, .int 1), (0, .ref (ca 0 0)), (1, .ref (cb 0 0)), (2, .int (nI n))]) (fun H locs ls hl K => lv_istore hx hb dL_alike_45 hl (by decide) rfl K) ?_
  refine KX_sub (lv1 := [(4, .int 0), (3, .int 1), (0, .ref (ca 0 0)), (1, .ref (cb 0 0)), (2, .int (nI n))]) [0, 1, 2, 3, 4] rfl ?_
  exact KX_wid (by omega) (by omega) (L 30 0 (by omega))
theorem c_alike (l : Launch) (hfl : l.stackTraces = false) (D : va_G) (cs : Nat → ClassId) (ca cb : Nat → Nat → Nat) {k : KC} {n : Nat} (hn : n < 2 ^ 31) : k2 l yL_alike wsN_alike RM_alike 400 2400 D cs ca cb [.ref (ca 0 0), .ref (cb 0 0), .int (nI n)] 1 k k k k :=
  kQ_of (U := CV × CV) (Φ := f_2 k k) (wc := w_2 cs ca cb) (cc := cL_alike) (maxL := 5) (ret := some .boolean) (by decide) rfl (Nat.le_of_ble_eq_true rfl) (fun p e s m below meth c A hE => alike_w hfl hn hE (fun lv pc cells slots h1 h2 hd => KX_ret (r := 1) (Φ1 := f_2 k k) (w1 := w_2 cs ca cb) hE rfl rfl (fun u hu => ⟨u, hu, List.Perm.refl _⟩) h1 h2 hd))
