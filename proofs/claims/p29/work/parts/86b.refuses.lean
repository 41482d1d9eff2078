/-! p29: the same, of odd numbers. -/
set_option maxHeartbeats 4000000 in
set_option maxRecDepth 100000 in
theorem refuses_o {p : Program} {l : Launch} {e : Env} {s : State} {m : MethodId} {args : Array Value} {below : List Frame} {meth : Method} {c : Code} {D : va_G} {cs : Nat → ClassId} {A : Nat → Prop} {Q : State → Prop} {ca : Nat → Nat → Nat} (hfl : l.stackTraces = false) {k : KC} {N M n : Nat} (n0 : k.1 0 = nI N) (hN : N ≤ 30) (m0 : k.1 1 = nI M) (hM : M ≤ 12) (hn : n < 100000) (hp : n % 2 = 1) (hE : kE p s m args meth c D cs yL_refuses wsN_refuses cL_refuses 8 (some .boolean) A) (kr : ∀ (lv : List (Nat × Value)) (pc cells slots : Nat), cells ≤ 40 → slots ≤ 240 → decode cL_refuses pc = .ok (.ireturn, 1) → KX p l e RM_refuses s m args below meth c D A 8 Q (f_1 k) (w_1 cs ca) lv [.int 1] pc cells slots) : KX p l e RM_refuses s m args below meth c D A 8 Q (f_1 k) (w_1 cs ca) [(0, .ref (ca 0 0)), (1, .int (nI n))] [] 0 0 0 := by
  obtain ⟨hx, hb, hr, hlocks, hml, hown, hts, hK, hA, hG, hnm⟩ := id hE
  have hown : s.vm.findClass RL = some m.cls := hown
  refine KX_step (fun H locs ls hl => lv_aload_n hx hb dL_refuses_0 rfl (lv_at hl 0 rfl)) ?_
  refine KX_step (fun H locs ls hl => lv_iconst (v := 2) hx hb dL_refuses_1 (by decide)) ?_
  refine KX_step (fun H locs ls hl => lv_iconst (v := 0) hx hb dL_refuses_2 (by decide)) ?_
  refine KX_step (fun H locs ls hl => lv_iconst (v := 0) hx hb dL_refuses_3 (by decide)) ?_
  refine KX_step (fun H locs ls hl => lv_iconst (v := 0) hx hb dL_refuses_4 (by decide)) ?_
  refine KX_call (cells2 := 1) (slots2 := 6) (st0 := [.int 0, .int 0, .int 0, .int 2, .ref (ca 0 0)]) (rest := []) hE rfl (sp1 (q_call_2 l hfl D cs ca 0 0 0 (fun cv hq => (F_about (i := 0) (by omega) cv hq).imp id (fun z => z.trans n0)))) (va_cwS 5 hts gN_refuses_L_call rfl rfl rfl (by decide +kernel) ⟨(Nat.le_of_ble_eq_true rfl), (Nat.le_of_ble_eq_true rfl)⟩) rfl rfl (Nat.le_of_ble_eq_true rfl) ⟨(Nat.le_of_ble_eq_true rfl), (Nat.le_of_ble_eq_true rfl)⟩ dL_refuses_5 (Nat.le_of_ble_eq_true rfl) (Nat.le_of_ble_eq_true rfl) ?_
  refine KX_store (lv1 := [(2, .int (nI N)), (0, .ref (ca 0 0)), (1, .int (nI n))]) (fun H locs ls hl K => lv_istore_n hx hb dL_refuses_8 rfl hl (by decide) rfl K) ?_
  refine KX_step (fun H locs ls hl => lv_aload_n hx hb dL_refuses_9 rfl (lv_at hl 1 rfl)) ?_
  refine KX_step (fun H locs ls hl => lv_iconst (v := 2) hx hb dL_refuses_10 (by decide)) ?_
  refine KX_step (fun H locs ls hl => lv_iconst (v := 1) hx hb dL_refuses_11 (by decide)) ?_
  refine KX_step (fun H locs ls hl => lv_iconst (v := 0) hx hb dL_refuses_12 (by decide)) ?_
  refine KX_step (fun H locs ls hl => lv_iconst (v := 0) hx hb dL_refuses_13 (by decide)) ?_
  refine KX_call (cells2 := 2) (slots2 := 12) (st0 := [.int 0, .int 0, .int 1, .int 2, .ref (ca 0 0)]) (rest := []) hE rfl (sp1 (q_call_2 l hfl D cs ca 1 0 0 (fun cv hq => (F_about (i := 1) (by omega) cv hq).imp id (fun z => z.trans m0)))) (va_cwS 5 hts gN_refuses_L_call rfl rfl rfl (by decide +kernel) ⟨(Nat.le_of_ble_eq_true rfl), (Nat.le_of_ble_eq_true rfl)⟩) rfl rfl (Nat.le_of_ble_eq_true rfl) ⟨(Nat.le_of_ble_eq_true rfl), (Nat.le_of_ble_eq_true rfl)⟩ dL_refuses_14 (Nat.le_of_ble_eq_true rfl) (Nat.le_of_ble_eq_true rfl) ?_
  refine KX_store (lv1 := [(3, .int (nI M)), (2, .int (nI N)), (0, .ref (ca 0 0)), (1, .int (nI n))]) (fun H locs ls hl K => lv_istore_n hx hb dL_refuses_17 rfl hl (by decide) rfl K) ?_
  refine KX_step (fun H locs ls hl => lv_iload_n hx hb dL_refuses_18 rfl (lv_at hl 3 rfl)) ?_
  refine KX_step (fun H locs ls hl => lv_iconst (v := 2) hx hb dL_refuses_19 (by decide)) ?_
  refine KX_step (st1 := [.int (nI (n % 2))]) (fun H locs ls hl K => lv_irem hx hb dL_refuses_20 (by decide) (by rw [show ((nI n) - (nI n) / 2 * 2 : Int32) = (nI (n % 2)) from nI_mod (a := n) (b := 2) (by omega) (by omega) (by omega)]; exact K)) ?_
  refine KX_if (fun H locs ls hl => lv_if_ne (tgt := 33) hx hb dL_refuses_21 (by decide)) (fun _ => ?_) (fun q => absurd q (nI_ne1 hp))
  refine KX_step (fun H locs ls hl => lv_bipush (v := 6) hx hb dL_refuses_33 (by decide)) ?_
  refine KX_step (fun H locs ls hl => lv_iload_n hx hb dL_refuses_35 rfl (lv_at hl 3 rfl)) ?_
  refine KX_step (fun H locs ls hl => lv_bipush (v := 99) hx hb dL_refuses_36 (by decide)) ?_
  refine KX_step (st1 := [.int (nI (n % 99)), .int 6]) (fun H locs ls hl K => lv_irem hx hb dL_refuses_38 (by decide) (by rw [show ((nI n) - (nI n) / 99 * 99 : Int32) = (nI (n % 99)) from nI_mod (a := n) (b := 99) (by omega) (by omega) (by omega)]; exact K)) ?_
  refine KX_step (st1 := [.int (nI (6 + (n % 99)))]) (fun H locs ls hl K => lv_iadd hx hb dL_refuses_39 (by rw [show (6 + (nI (n % 99)) : Int32) = (nI (6 + (n % 99))) from nI_add (6) (n % 99)]; exact K)) ?_
  refine KX_store (lv1 := [(4, .int (nI (6 + (n % 99)))), (3, .int (nI M)), (2, .int (nI N)), (0, .ref (ca 0 0)), (1, .int (nI n))]) (fun H locs ls hl K => lv_istore hx hb dL_refuses_40 hl (by decide) rfl K) ?_
  refine KX_step (fun H locs ls hl => lv_iload_n hx hb dL_refuses_42 rfl (lv_at hl 4 rfl)) ?_
  refine KX_step (fun H locs ls hl => lv_iconst (v := 2) hx hb dL_refuses_43 (by decide)) ?_
  refine KX_step (st1 := [.int (nI (n % 2))]) (fun H locs ls hl K => lv_irem hx hb dL_refuses_44 (by decide) (by rw [show ((nI n) - (nI n) / 2 * 2 : Int32) = (nI (n % 2)) from nI_mod (a := n) (b := 2) (by omega) (by omega) (by omega)]; exact K)) ?_
  refine KX_if (fun H locs ls hl => lv_if_ne (tgt := 57) hx hb dL_refuses_45 (by decide)) (fun _ => ?_) (fun q => absurd q (nI_ne1 hp))
  refine KX_step (fun H locs ls hl => lv_bipush (v := 24) hx hb dL_refuses_57 (by decide)) ?_
  refine KX_step (fun H locs ls hl => lv_iload_n hx hb dL_refuses_59 rfl (lv_at hl 4 rfl)) ?_
  refine KX_step (fun H locs ls hl => lv_bipush (v := 99) hx hb dL_refuses_60 (by decide)) ?_
  refine KX_step (st1 := [.int (nI (n % 99)), .int 24]) (fun H locs ls hl K => lv_irem hx hb dL_refuses_62 (by decide) (by rw [show ((nI n) - (nI n) / 99 * 99 : Int32) = (nI (n % 99)) from nI_mod (a := n) (b := 99) (by omega) (by omega) (by omega)]; exact K)) ?_
  refine KX_step (st1 := [.int (nI (24 + (n % 99)))]) (fun H locs ls hl K => lv_iadd hx hb dL_refuses_63 (by rw [show (24 + (nI (n % 99)) : Int32) = (nI (24 + (n % 99))) from nI_add (24) (n % 99)]; exact K)) ?_
  refine KX_store (lv1 := [(5, .int (nI (24 + (n % 99)))), (4, .int (nI (6 + (n % 99)))), (3, .int (nI M)), (2, .int (nI N)), (0, .ref (ca 0 0)), (1, .int (nI n))]) (fun H locs ls hl K => lv_istore hx hb dL_refuses_64 hl (by decide) rfl K) ?_
  refine KX_step (fun H locs ls hl => lv_iload_n hx hb dL_refuses_66 rfl (lv_at hl 5 rfl)) ?_
  refine KX_step (fun H locs ls hl => lv_iconst (v := 2) hx hb dL_refuses_67 (by decide)) ?_
  refine KX_step (st1 := [.int (nI (n % 2))]) (fun H locs ls hl K => lv_irem hx hb dL_refuses_68 (by decide) (by rw [show ((nI n) - (nI n) / 2 * 2 : Int32) = (nI (n % 2)) from nI_mod (a := n) (b := 2) (by omega) (by omega) (by omega)]; exact K)) ?_
  refine KX_if (fun H locs ls hl => lv_if_ne (tgt := 81) hx hb dL_refuses_69 (by decide)) (fun _ => ?_) (fun q => absurd q (nI_ne1 hp))
  refine KX_step (fun H locs ls hl => lv_iload_n hx hb dL_refuses_81 rfl (lv_at hl 2 rfl)) ?_
  refine KX_step (fun H locs ls hl => lv_iload_n hx hb dL_refuses_82 rfl (lv_at hl 5 rfl)) ?_
  refine KX_step (fun H locs ls hl => lv_bipush (v := 99) hx hb dL_refuses_83 (by decide)) ?_
  refine KX_step (st1 := [.int (nI (n % 99)), .int (nI M)]) (fun H locs ls hl K => lv_irem hx hb dL_refuses_85 (by decide) (by rw [show ((nI n) - (nI n) / 99 * 99 : Int32) = (nI (n % 99)) from nI_mod (a := n) (b := 99) (by omega) (by omega) (by omega)]; exact K)) ?_
  refine KX_step (st1 := [.int (nI (M + (n % 99)))]) (fun H locs ls hl K => lv_iadd hx hb dL_refuses_86 (by rw [show ((nI M) + (nI (n % 99)) : Int32) = (nI (M + (n % 99))) from nI_add (M) (n % 99)]; exact K)) ?_
  refine KX_store (lv1 := [(6, .int (nI (M + (n % 99)))), (5, .int (nI (24 + (n % 99)))), (4, .int (nI (6 + (n % 99)))), (3, .int (nI M)), (2, .int (nI N)), (0, .ref (ca 0 0)), (1, .int (nI n))]) (fun H locs ls hl K => lv_istore hx hb dL_refuses_87 hl (by decide) rfl K) ?_
  refine KX_step (fun H locs ls hl => lv_aload_n hx hb dL_refuses_89 rfl (lv_at hl 5 rfl)) ?_
  refine KX_step (fun H locs ls hl => lv_iconst (v := 0) hx hb dL_refuses_90 (by decide)) ?_
  refine KX_step (fun H locs ls hl => lv_iload_n hx hb dL_refuses_91 rfl (lv_at hl 6 rfl)) ?_
  refine KX_step (fun H locs ls hl => lv_iconst (v := 2) hx hb dL_refuses_92 (by decide)) ?_
  refine KX_step (st1 := [.int (nI (n % 2)), .int 0, .ref (ca 0 0)]) (fun H locs ls hl K => lv_irem hx hb dL_refuses_93 (by decide) (by rw [show ((nI n) - (nI n) / 2 * 2 : Int32) = (nI (n % 2)) from nI_mod (a := n) (b := 2) (by omega) (by omega) (by omega)]; exact K)) ?_
  refine KX_if (fun H locs ls hl => lv_if_ne (tgt := 106) hx hb dL_refuses_94 (by decide)) (fun _ => ?_) (fun q => absurd q (nI_ne1 hp))
  refine KX_step (fun H locs ls hl => lv_sipush (v := 256) hx hb dL_refuses_106 (by decide)) ?_
  refine KX_step (fun H locs ls hl => lv_iload_n hx hb dL_refuses_109 rfl (lv_at hl 6 rfl)) ?_
  refine KX_step (fun H locs ls hl => lv_bipush (v := 9) hx hb dL_refuses_110 (by decide)) ?_
  refine KX_step (st1 := [.int (nI (n % 9)), .int 256, .int 0, .ref (ca 0 0)]) (fun H locs ls hl K => lv_irem hx hb dL_refuses_112 (by decide) (by rw [show ((nI n) - (nI n) / 9 * 9 : Int32) = (nI (n % 9)) from nI_mod (a := n) (b := 9) (by omega) (by omega) (by omega)]; exact K)) ?_
  refine KX_step (st1 := [.int (nI (256 + (n % 9))), .int 0, .ref (ca 0 0)]) (fun H locs ls hl K => lv_iadd hx hb dL_refuses_113 (by rw [show (256 + (nI (n % 9)) : Int32) = (nI (256 + (n % 9))) from nI_add (256) (n % 9)]; exact K)) ?_
  refine KX_step (fun H locs ls hl => lv_iconst (v := 0) hx hb dL_refuses_114 (by decide)) ?_
  refine KX_step (fun H locs ls hl => lv_iconst (v := 0) hx hb dL_refuses_115 (by decide)) ?_
  refine KX_call (cells2 := 3) (slots2 := 18) (st0 := [.int 0, .int 0, .int (nI (256 + (n % 9))), .int 0, .ref (ca 0 0)]) (rest := []) hE rfl (sp1 (q_call_0 l hfl D cs ca (nI (256 + (n % 9))) 0 0 (fun cv hq => Q_append_x hq ((inx 0 255 rfl rfl).mpr (by rw [nI_toInt (by omega)]; omega))))) (va_cwS 5 hts gN_refuses_L_call rfl rfl rfl (by decide +kernel) ⟨(Nat.le_of_ble_eq_true rfl), (Nat.le_of_ble_eq_true rfl)⟩) rfl rfl (Nat.le_of_ble_eq_true rfl) ⟨(Nat.le_of_ble_eq_true rfl), (Nat.le_of_ble_eq_true rfl)⟩ dL_refuses_116 (Nat.le_of_ble_eq_true rfl) (Nat.le_of_ble_eq_true rfl) ?_
  refine KX_step (fun H locs ls hl => lv_ldc (v := (-9999002)) hx hb hown (hts (.constant RL 15 (-9999002)) (by decide +kernel)) dL_refuses_119) ?_
  refine KX_if (fun H locs ls hl => lv_icmp_ne (tgt := 755) hx hb dL_refuses_121 (by decide)) (fun q => absurd (by decide) q) (fun _ => ?_)
  refine KX_step (fun H locs ls hl => lv_aload_n hx hb dL_refuses_124 rfl (lv_at hl 5 rfl)) ?_
  refine KX_step (fun H locs ls hl => lv_iconst (v := 2) hx hb dL_refuses_125 (by decide)) ?_
  refine KX_step (fun H locs ls hl => lv_bipush (v := 12) hx hb dL_refuses_126 (by decide)) ?_
  refine KX_step (fun H locs ls hl => lv_iload_n hx hb dL_refuses_128 rfl (lv_at hl 6 rfl)) ?_
  refine KX_step (fun H locs ls hl => lv_bipush (v := 50) hx hb dL_refuses_129 (by decide)) ?_
  refine KX_step (st1 := [.int (nI (n % 50)), .int 12, .int 2, .ref (ca 0 0)]) (fun H locs ls hl K => lv_irem hx hb dL_refuses_131 (by decide) (by rw [show ((nI n) - (nI n) / 50 * 50 : Int32) = (nI (n % 50)) from nI_mod (a := n) (b := 50) (by omega) (by omega) (by omega)]; exact K)) ?_
  refine KX_step (st1 := [.int (nI (12 + (n % 50))), .int 2, .ref (ca 0 0)]) (fun H locs ls hl K => lv_iadd hx hb dL_refuses_132 (by rw [show (12 + (nI (n % 50)) : Int32) = (nI (12 + (n % 50))) from nI_add (12) (n % 50)]; exact K)) ?_
  refine KX_step (fun H locs ls hl => lv_iconst (v := 0) hx hb dL_refuses_133 (by decide)) ?_
  refine KX_step (fun H locs ls hl => lv_iconst (v := 0) hx hb dL_refuses_134 (by decide)) ?_
  refine KX_call (cells2 := 4) (slots2 := 24) (st0 := [.int 0, .int 0, .int (nI (12 + (n % 50))), .int 2, .ref (ca 0 0)]) (rest := []) hE rfl (sp1 (q_call_2 l hfl D cs ca (nI (12 + (n % 50))) 0 0 (F_about_x (by rw [nI_toInt (by omega)]; omega)))) (va_cwS 5 hts gN_refuses_L_call rfl rfl rfl (by decide +kernel) ⟨(Nat.le_of_ble_eq_true rfl), (Nat.le_of_ble_eq_true rfl)⟩) rfl rfl (Nat.le_of_ble_eq_true rfl) ⟨(Nat.le_of_ble_eq_true rfl), (Nat.le_of_ble_eq_true rfl)⟩ dL_refuses_135 (Nat.le_of_ble_eq_true rfl) (Nat.le_of_ble_eq_true rfl) ?_
  refine KX_step (fun H locs ls hl => lv_ldc (v := (-9999002)) hx hb hown (hts (.constant RL 15 (-9999002)) (by decide +kernel)) dL_refuses_138) ?_
  refine KX_if (fun H locs ls hl => lv_icmp_ne (tgt := 755) hx hb dL_refuses_140 (by decide)) (fun q => absurd (by decide) q) (fun _ => ?_)
  refine KX_step (fun H locs ls hl => lv_aload_n hx hb dL_refuses_143 rfl (lv_at hl 5 rfl)) ?_
  refine KX_step (fun H locs ls hl => lv_iconst (v := 3) hx hb dL_refuses_144 (by decide)) ?_
  refine KX_step (fun H locs ls hl => lv_iload_n hx hb dL_refuses_145 rfl (lv_at hl 6 rfl)) ?_
  refine KX_step (fun H locs ls hl => lv_iconst (v := 2) hx hb dL_refuses_146 (by decide)) ?_
  refine KX_step (st1 := [.int (nI (n % 2)), .int 3, .ref (ca 0 0)]) (fun H locs ls hl K => lv_irem hx hb dL_refuses_147 (by decide) (by rw [show ((nI n) - (nI n) / 2 * 2 : Int32) = (nI (n % 2)) from nI_mod (a := n) (b := 2) (by omega) (by omega) (by omega)]; exact K)) ?_
  refine KX_if (fun H locs ls hl => lv_if_ne (tgt := 155) hx hb dL_refuses_148 (by decide)) (fun _ => ?_) (fun q => absurd q (nI_ne1 hp))
  refine KX_step (fun H locs ls hl => lv_iload_n hx hb dL_refuses_155 rfl (lv_at hl 4 rfl)) ?_
  refine KX_step (fun H locs ls hl => lv_iload_n hx hb dL_refuses_156 rfl (lv_at hl 6 rfl)) ?_
  refine KX_step (fun H locs ls hl => lv_bipush (v := 9) hx hb dL_refuses_157 (by decide)) ?_
  refine KX_step (st1 := [.int (nI (n % 9)), .int (nI N), .int 3, .ref (ca 0 0)]) (fun H locs ls hl K => lv_irem hx hb dL_refuses_159 (by decide) (by rw [show ((nI n) - (nI n) / 9 * 9 : Int32) = (nI (n % 9)) from nI_mod (a := n) (b := 9) (by omega) (by omega) (by omega)]; exact K)) ?_
  refine KX_step (st1 := [.int (nI (N + (n % 9))), .int 3, .ref (ca 0 0)]) (fun H locs ls hl K => lv_iadd hx hb dL_refuses_160 (by rw [show ((nI N) + (nI (n % 9)) : Int32) = (nI (N + (n % 9))) from nI_add (N) (n % 9)]; exact K)) ?_
  refine KX_step (fun H locs ls hl => lv_bipush (v := 99) hx hb dL_refuses_161 (by decide)) ?_
  refine KX_step (fun H locs ls hl => lv_iconst (v := 0) hx hb dL_refuses_163 (by decide)) ?_
  refine KX_call (cells2 := 5) (slots2 := 30) (st0 := [.int 0, .int 99, .int (nI (N + (n % 9))), .int 3, .ref (ca 0 0)]) (rest := []) hE rfl (sp1 (q_call_3 l hfl D cs ca (nI (N + (n % 9))) 99 0 (F_peg_x n0 hN (by rw [nI_toInt (by omega)]; omega)))) (va_cwS 5 hts gN_refuses_L_call rfl rfl rfl (by decide +kernel) ⟨(Nat.le_of_ble_eq_true rfl), (Nat.le_of_ble_eq_true rfl)⟩) rfl rfl (Nat.le_of_ble_eq_true rfl) ⟨(Nat.le_of_ble_eq_true rfl), (Nat.le_of_ble_eq_true rfl)⟩ dL_refuses_164 (Nat.le_of_ble_eq_true rfl) (Nat.le_of_ble_eq_true rfl) ?_
  refine KX_step (fun H locs ls hl => lv_ldc (v := (-9999001)) hx hb hown (hts (.constant RL 40 (-9999001)) (by decide +kernel)) dL_refuses_167) ?_
  refine KX_if (fun H locs ls hl => lv_icmp_ne (tgt := 755) hx hb dL_refuses_169 (by decide)) (fun q => absurd (by decide) q) (fun _ => ?_)
  refine KX_step (fun H locs ls hl => lv_iload_n hx hb dL_refuses_172 rfl (lv_at hl 4 rfl)) ?_
  have J1 : KX p l e RM_refuses s m args below meth c D A 8 Q (f_1 k) (w_1 cs ca) [(6, .int (nI (M + (n % 99)))), (5, .int (nI (24 + (n % 99)))), (4, .int (nI (6 + (n % 99)))), (3, .int (nI M)), (2, .int (nI N)), (0, .ref (ca 0 0)), (1, .int (nI n))] [] 194 6 36 := by
    refine KX_step (fun H locs ls hl => lv_aload_n hx hb dL_refuses_194 rfl (lv_at hl 5 rfl)) ?_
    refine KX_step (fun H locs ls hl => lv_iconst (v := 4) hx hb dL_refuses_195 (by decide)) ?_
    refine KX_step (fun H locs ls hl => lv_iload hx hb dL_refuses_196 (lv_at hl 0 rfl)) ?_
    refine KX_step (fun H locs ls hl => lv_bipush (v := 99) hx hb dL_refuses_198 (by decide)) ?_
    refine KX_step (fun H locs ls hl => lv_iconst (v := 0) hx hb dL_refuses_200 (by decide)) ?_
    refine KX_call (cells2 := 7) (slots2 := 42) (st0 := [.int 0, .int 99, .int (nI (M + (n % 99))), .int 4, .ref (ca 0 0)]) (rest := []) hE rfl (sp1 (q_call_4 l hfl D cs ca (nI (M + (n % 99))) 99 0 (F_order_x m0 hM (by rw [nI_toInt (by omega)]; omega)))) (va_cwS 5 hts gN_refuses_L_call rfl rfl rfl (by decide +kernel) ⟨(Nat.le_of_ble_eq_true rfl), (Nat.le_of_ble_eq_true rfl)⟩) rfl rfl (Nat.le_of_ble_eq_true rfl) ⟨(Nat.le_of_ble_eq_true rfl), (Nat.le_of_ble_eq_true rfl)⟩ dL_refuses_201 (Nat.le_of_ble_eq_true rfl) (Nat.le_of_ble_eq_true rfl) ?_
    refine KX_step (fun H locs ls hl => lv_ldc (v := (-9999001)) hx hb hown (hts (.constant RL 40 (-9999001)) (by decide +kernel)) dL_refuses_204) ?_
    refine KX_if (fun H locs ls hl => lv_icmp_ne (tgt := 755) hx hb dL_refuses_206 (by decide)) (fun q => absurd (by decide) q) (fun _ => ?_)
    refine KX_step (fun H locs ls hl => lv_iload_n hx hb dL_refuses_209 rfl (lv_at hl 3 rfl)) ?_
    have J2 : KX p l e RM_refuses s m args below meth c D A 8 Q (f_1 k) (w_1 cs ca) [(6, .int (nI (M + (n % 99)))), (5, .int (nI (24 + (n % 99)))), (4, .int (nI (6 + (n % 99)))), (3, .int (nI M)), (2, .int (nI N)), (0, .ref (ca 0 0)), (1, .int (nI n))] [] 231 8 48 := by
      refine KX_step (fun H locs ls hl => lv_aload_n hx hb dL_refuses_231 rfl (lv_at hl 5 rfl)) ?_
      refine KX_step (fun H locs ls hl => lv_iconst (v := 5) hx hb dL_refuses_232 (by decide)) ?_
      refine KX_step (fun H locs ls hl => lv_iload hx hb dL_refuses_233 (lv_at hl 2 rfl)) ?_
      refine KX_step (fun H locs ls hl => lv_bipush (v := 99) hx hb dL_refuses_235 (by decide)) ?_
      refine KX_step (fun H locs ls hl => lv_iconst (v := 0) hx hb dL_refuses_237 (by decide)) ?_
      refine KX_call (cells2 := 9) (slots2 := 54) (st0 := [.int 0, .int 99, .int (nI (6 + (n % 99))), .int 5, .ref (ca 0 0)]) (rest := []) hE rfl (sp1 (q_call_5 l hfl D cs ca (nI (6 + (n % 99))) 99 0 (F_pipe_x (by rw [nI_toInt (by omega)]; omega)))) (va_cwS 5 hts gN_refuses_L_call rfl rfl rfl (by decide +kernel) ⟨(Nat.le_of_ble_eq_true rfl), (Nat.le_of_ble_eq_true rfl)⟩) rfl rfl (Nat.le_of_ble_eq_true rfl) ⟨(Nat.le_of_ble_eq_true rfl), (Nat.le_of_ble_eq_true rfl)⟩ dL_refuses_238 (Nat.le_of_ble_eq_true rfl) (Nat.le_of_ble_eq_true rfl) ?_
      refine KX_step (fun H locs ls hl => lv_ldc (v := (-9999001)) hx hb hown (hts (.constant RL 40 (-9999001)) (by decide +kernel)) dL_refuses_241) ?_
      refine KX_if (fun H locs ls hl => lv_icmp_ne (tgt := 755) hx hb dL_refuses_243 (by decide)) (fun q => absurd (by decide) q) (fun _ => ?_)
      refine KX_step (fun H locs ls hl => lv_aload_n hx hb dL_refuses_246 rfl (lv_at hl 5 rfl)) ?_
      refine KX_step (fun H locs ls hl => lv_iconst (v := 5) hx hb dL_refuses_247 (by decide)) ?_
      refine KX_step (fun H locs ls hl => lv_iconst (v := 0) hx hb dL_refuses_248 (by decide)) ?_
      refine KX_step (fun H locs ls hl => lv_iconst (v := 5) hx hb dL_refuses_249 (by decide)) ?_
      refine KX_step (fun H locs ls hl => lv_iload_n hx hb dL_refuses_250 rfl (lv_at hl 6 rfl)) ?_
      refine KX_step (fun H locs ls hl => lv_bipush (v := 9) hx hb dL_refuses_251 (by decide)) ?_
      refine KX_step (st1 := [.int (nI (n % 9)), .int 5, .int 0, .int 5, .ref (ca 0 0)]) (fun H locs ls hl K => lv_irem hx hb dL_refuses_253 (by decide) (by rw [show ((nI n) - (nI n) / 9 * 9 : Int32) = (nI (n % 9)) from nI_mod (a := n) (b := 9) (by omega) (by omega) (by omega)]; exact K)) ?_
      refine KX_step (st1 := [.int (nI (5 + (n % 9))), .int 0, .int 5, .ref (ca 0 0)]) (fun H locs ls hl K => lv_iadd hx hb dL_refuses_254 (by rw [show (5 + (nI (n % 9)) : Int32) = (nI (5 + (n % 9))) from nI_add (5) (n % 9)]; exact K)) ?_
      refine KX_step (fun H locs ls hl => lv_iconst (v := 0) hx hb dL_refuses_255 (by decide)) ?_
      refine KX_call (cells2 := 10) (slots2 := 60) (st0 := [.int 0, .int (nI (5 + (n % 9))), .int 0, .int 5, .ref (ca 0 0)]) (rest := []) hE rfl (sp1 (q_call_5 l hfl D cs ca 0 (nI (5 + (n % 9))) 0 (F_pipe_a (p := 0) (by omega) (by rw [nI_toInt (by omega)]; omega)))) (va_cwS 5 hts gN_refuses_L_call rfl rfl rfl (by decide +kernel) ⟨(Nat.le_of_ble_eq_true rfl), (Nat.le_of_ble_eq_true rfl)⟩) rfl rfl (Nat.le_of_ble_eq_true rfl) ⟨(Nat.le_of_ble_eq_true rfl), (Nat.le_of_ble_eq_true rfl)⟩ dL_refuses_256 (Nat.le_of_ble_eq_true rfl) (Nat.le_of_ble_eq_true rfl) ?_
      refine KX_step (fun H locs ls hl => lv_ldc (v := (-9999002)) hx hb hown (hts (.constant RL 15 (-9999002)) (by decide +kernel)) dL_refuses_259) ?_
      refine KX_if (fun H locs ls hl => lv_icmp_ne (tgt := 755) hx hb dL_refuses_261 (by decide)) (fun q => absurd (by decide) q) (fun _ => ?_)
      refine KX_step (fun H locs ls hl => lv_aload_n hx hb dL_refuses_264 rfl (lv_at hl 5 rfl)) ?_
      refine KX_step (fun H locs ls hl => lv_bipush (v := 6) hx hb dL_refuses_265 (by decide)) ?_
      refine KX_step (fun H locs ls hl => lv_iload hx hb dL_refuses_267 (lv_at hl 1 rfl)) ?_
      refine KX_step (fun H locs ls hl => lv_iconst (v := 0) hx hb dL_refuses_269 (by decide)) ?_
      refine KX_step (fun H locs ls hl => lv_iconst (v := 0) hx hb dL_refuses_270 (by decide)) ?_
      refine KX_call (cells2 := 11) (slots2 := 66) (st0 := [.int 0, .int 0, .int (nI (24 + (n % 99))), .int 6, .ref (ca 0 0)]) (rest := []) hE rfl (sp1 (q_call_6 l hfl D cs ca (nI (24 + (n % 99))) 0 0 (F_chord_x (by rw [nI_toInt (by omega)]; omega)))) (va_cwS 5 hts gN_refuses_L_call rfl rfl rfl (by decide +kernel) ⟨(Nat.le_of_ble_eq_true rfl), (Nat.le_of_ble_eq_true rfl)⟩) rfl rfl (Nat.le_of_ble_eq_true rfl) ⟨(Nat.le_of_ble_eq_true rfl), (Nat.le_of_ble_eq_true rfl)⟩ dL_refuses_271 (Nat.le_of_ble_eq_true rfl) (Nat.le_of_ble_eq_true rfl) ?_
      refine KX_step (fun H locs ls hl => lv_ldc (v := (-9999001)) hx hb hown (hts (.constant RL 40 (-9999001)) (by decide +kernel)) dL_refuses_274) ?_
      refine KX_if (fun H locs ls hl => lv_icmp_ne (tgt := 755) hx hb dL_refuses_276 (by decide)) (fun q => absurd (by decide) q) (fun _ => ?_)
      refine KX_step (fun H locs ls hl => lv_aload_n hx hb dL_refuses_279 rfl (lv_at hl 5 rfl)) ?_
      refine KX_step (fun H locs ls hl => lv_bipush (v := 7) hx hb dL_refuses_280 (by decide)) ?_
      refine KX_step (fun H locs ls hl => lv_iconst (v := 2) hx hb dL_refuses_282 (by decide)) ?_
      refine KX_step (fun H locs ls hl => lv_iload_n hx hb dL_refuses_283 rfl (lv_at hl 6 rfl)) ?_
      refine KX_step (fun H locs ls hl => lv_bipush (v := 9) hx hb dL_refuses_284 (by decide)) ?_
      refine KX_step (st1 := [.int (nI (n % 9)), .int 2, .int 7, .ref (ca 0 0)]) (fun H locs ls hl K => lv_irem hx hb dL_refuses_286 (by decide) (by rw [show ((nI n) - (nI n) / 9 * 9 : Int32) = (nI (n % 9)) from nI_mod (a := n) (b := 9) (by omega) (by omega) (by omega)]; exact K)) ?_
      refine KX_step (st1 := [.int (nI (2 + (n % 9))), .int 7, .ref (ca 0 0)]) (fun H locs ls hl K => lv_iadd hx hb dL_refuses_287 (by rw [show (2 + (nI (n % 9)) : Int32) = (nI (2 + (n % 9))) from nI_add (2) (n % 9)]; exact K)) ?_
      refine KX_step (fun H locs ls hl => lv_iconst (v := 0) hx hb dL_refuses_288 (by decide)) ?_
      refine KX_step (fun H locs ls hl => lv_iconst (v := 0) hx hb dL_refuses_289 (by decide)) ?_
      refine KX_call (cells2 := 12) (slots2 := 72) (st0 := [.int 0, .int 0, .int (nI (2 + (n % 9))), .int 7, .ref (ca 0 0)]) (rest := []) hE rfl (sp1 (q_call_7 l hfl D cs ca (nI (2 + (n % 9))) 0 0 (F_cov_x (by rw [nI_toInt (by omega)]; omega)))) (va_cwS 5 hts gN_refuses_L_call rfl rfl rfl (by decide +kernel) ⟨(Nat.le_of_ble_eq_true rfl), (Nat.le_of_ble_eq_true rfl)⟩) rfl rfl (Nat.le_of_ble_eq_true rfl) ⟨(Nat.le_of_ble_eq_true rfl), (Nat.le_of_ble_eq_true rfl)⟩ dL_refuses_290 (Nat.le_of_ble_eq_true rfl) (Nat.le_of_ble_eq_true rfl) ?_
      refine KX_step (fun H locs ls hl => lv_ldc (v := (-9999002)) hx hb hown (hts (.constant RL 15 (-9999002)) (by decide +kernel)) dL_refuses_293) ?_
      refine KX_if (fun H locs ls hl => lv_icmp_ne (tgt := 755) hx hb dL_refuses_295 (by decide)) (fun q => absurd (by decide) q) (fun _ => ?_)
      refine KX_step (fun H locs ls hl => lv_aload_n hx hb dL_refuses_298 rfl (lv_at hl 5 rfl)) ?_
      refine KX_step (fun H locs ls hl => lv_bipush (v := 8) hx hb dL_refuses_299 (by decide)) ?_
      refine KX_step (fun H locs ls hl => lv_iconst (v := 3) hx hb dL_refuses_301 (by decide)) ?_
      refine KX_step (fun H locs ls hl => lv_iload_n hx hb dL_refuses_302 rfl (lv_at hl 6 rfl)) ?_
      refine KX_step (fun H locs ls hl => lv_bipush (v := 9) hx hb dL_refuses_303 (by decide)) ?_
      refine KX_step (st1 := [.int (nI (n % 9)), .int 3, .int 8, .ref (ca 0 0)]) (fun H locs ls hl K => lv_irem hx hb dL_refuses_305 (by decide) (by rw [show ((nI n) - (nI n) / 9 * 9 : Int32) = (nI (n % 9)) from nI_mod (a := n) (b := 9) (by omega) (by omega) (by omega)]; exact K)) ?_
      refine KX_step (st1 := [.int (nI (3 + (n % 9))), .int 8, .ref (ca 0 0)]) (fun H locs ls hl K => lv_iadd hx hb dL_refuses_306 (by rw [show (3 + (nI (n % 9)) : Int32) = (nI (3 + (n % 9))) from nI_add (3) (n % 9)]; exact K)) ?_
      refine KX_step (fun H locs ls hl => lv_iconst (v := 0) hx hb dL_refuses_307 (by decide)) ?_
      refine KX_step (fun H locs ls hl => lv_iconst (v := 0) hx hb dL_refuses_308 (by decide)) ?_
      refine KX_call (cells2 := 13) (slots2 := 78) (st0 := [.int 0, .int 0, .int (nI (3 + (n % 9))), .int 8, .ref (ca 0 0)]) (rest := []) hE rfl (sp1 (q_call_8 l hfl D cs ca (nI (3 + (n % 9))) 0 0 (F_setting_x (by rw [nI_toInt (by omega)]; omega)))) (va_cwS 5 hts gN_refuses_L_call rfl rfl rfl (by decide +kernel) ⟨(Nat.le_of_ble_eq_true rfl), (Nat.le_of_ble_eq_true rfl)⟩) rfl rfl (Nat.le_of_ble_eq_true rfl) ⟨(Nat.le_of_ble_eq_true rfl), (Nat.le_of_ble_eq_true rfl)⟩ dL_refuses_309 (Nat.le_of_ble_eq_true rfl) (Nat.le_of_ble_eq_true rfl) ?_
      refine KX_step (fun H locs ls hl => lv_ldc (v := (-9999002)) hx hb hown (hts (.constant RL 15 (-9999002)) (by decide +kernel)) dL_refuses_312) ?_
      refine KX_if (fun H locs ls hl => lv_icmp_ne (tgt := 755) hx hb dL_refuses_314 (by decide)) (fun q => absurd (by decide) q) (fun _ => ?_)
      refine KX_step (fun H locs ls hl => lv_aload_n hx hb dL_refuses_317 rfl (lv_at hl 5 rfl)) ?_
      refine KX_step (fun H locs ls hl => lv_bipush (v := 9) hx hb dL_refuses_318 (by decide)) ?_
      refine KX_step (fun H locs ls hl => lv_iload hx hb dL_refuses_320 (lv_at hl 2 rfl)) ?_
      refine KX_step (fun H locs ls hl => lv_iconst (v := 0) hx hb dL_refuses_322 (by decide)) ?_
      refine KX_step (fun H locs ls hl => lv_bipush (v := 99) hx hb dL_refuses_323 (by decide)) ?_
      refine KX_call (cells2 := 14) (slots2 := 84) (st0 := [.int 99, .int 0, .int (nI (6 + (n % 99))), .int 9, .ref (ca 0 0)]) (rest := []) hE rfl (sp1 (q_call_9 l hfl D cs ca (nI (6 + (n % 99))) 0 99 (fun cv hq => Q_put_x hq (Or.inl (isP_x (by rw [nI_toInt (by omega)]; omega)))))) (va_cwS 5 hts gN_refuses_L_call rfl rfl rfl (by decide +kernel) ⟨(Nat.le_of_ble_eq_true rfl), (Nat.le_of_ble_eq_true rfl)⟩) rfl rfl (Nat.le_of_ble_eq_true rfl) ⟨(Nat.le_of_ble_eq_true rfl), (Nat.le_of_ble_eq_true rfl)⟩ dL_refuses_325 (Nat.le_of_ble_eq_true rfl) (Nat.le_of_ble_eq_true rfl) ?_
      refine KX_step (fun H locs ls hl => lv_ldc (v := (-9999001)) hx hb hown (hts (.constant RL 40 (-9999001)) (by decide +kernel)) dL_refuses_328) ?_
      refine KX_if (fun H locs ls hl => lv_icmp_ne (tgt := 755) hx hb dL_refuses_330 (by decide)) (fun q => absurd (by decide) q) (fun _ => ?_)
      refine KX_step (fun H locs ls hl => lv_aload_n hx hb dL_refuses_333 rfl (lv_at hl 5 rfl)) ?_
      refine KX_step (fun H locs ls hl => lv_bipush (v := 9) hx hb dL_refuses_334 (by decide)) ?_
      refine KX_step (fun H locs ls hl => lv_iconst (v := 0) hx hb dL_refuses_336 (by decide)) ?_
      refine KX_step (fun H locs ls hl => lv_iload hx hb dL_refuses_337 (lv_at hl 1 rfl)) ?_
      refine KX_step (fun H locs ls hl => lv_bipush (v := 99) hx hb dL_refuses_339 (by decide)) ?_
      refine KX_call (cells2 := 15) (slots2 := 90) (st0 := [.int 99, .int (nI (24 + (n % 99))), .int 0, .int 9, .ref (ca 0 0)]) (rest := []) hE rfl (sp1 (q_call_9 l hfl D cs ca 0 (nI (24 + (n % 99))) 99 (fun cv hq => Q_put_x hq (Or.inr (isB_x (by rw [nI_toInt (by omega)]; omega)))))) (va_cwS 5 hts gN_refuses_L_call rfl rfl rfl (by decide +kernel) ⟨(Nat.le_of_ble_eq_true rfl), (Nat.le_of_ble_eq_true rfl)⟩) rfl rfl (Nat.le_of_ble_eq_true rfl) ⟨(Nat.le_of_ble_eq_true rfl), (Nat.le_of_ble_eq_true rfl)⟩ dL_refuses_341 (Nat.le_of_ble_eq_true rfl) (Nat.le_of_ble_eq_true rfl) ?_
      refine KX_step (fun H locs ls hl => lv_ldc (v := (-9999001)) hx hb hown (hts (.constant RL 40 (-9999001)) (by decide +kernel)) dL_refuses_344) ?_
      refine KX_if (fun H locs ls hl => lv_icmp_ne (tgt := 755) hx hb dL_refuses_346 (by decide)) (fun q => absurd (by decide) q) (fun _ => ?_)
      refine KX_step (fun H locs ls hl => lv_aload_n hx hb dL_refuses_349 rfl (lv_at hl 5 rfl)) ?_
      refine KX_step (fun H locs ls hl => lv_bipush (v := 9) hx hb dL_refuses_350 (by decide)) ?_
      refine KX_step (fun H locs ls hl => lv_iconst (v := 0) hx hb dL_refuses_352 (by decide)) ?_
      refine KX_step (fun H locs ls hl => lv_iconst (v := 0) hx hb dL_refuses_353 (by decide)) ?_
      refine KX_step (fun H locs ls hl => lv_iload_n hx hb dL_refuses_354 rfl (lv_at hl 6 rfl)) ?_
      refine KX_step (fun H locs ls hl => lv_iconst (v := 2) hx hb dL_refuses_355 (by decide)) ?_
      refine KX_step (st1 := [.int (nI (n % 2)), .int 0, .int 0, .int 9, .ref (ca 0 0)]) (fun H locs ls hl K => lv_irem hx hb dL_refuses_356 (by decide) (by rw [show ((nI n) - (nI n) / 2 * 2 : Int32) = (nI (n % 2)) from nI_mod (a := n) (b := 2) (by omega) (by omega) (by omega)]; exact K)) ?_
      refine KX_if (fun H locs ls hl => lv_if_ne (tgt := 364) hx hb dL_refuses_357 (by decide)) (fun _ => ?_) (fun q => absurd q (nI_ne1 hp))
      refine KX_step (fun H locs ls hl => lv_bipush (v := 7) hx hb dL_refuses_364 (by decide)) ?_
      refine KX_step (fun H locs ls hl => lv_iload_n hx hb dL_refuses_366 rfl (lv_at hl 6 rfl)) ?_
      refine KX_step (fun H locs ls hl => lv_bipush (v := 9) hx hb dL_refuses_367 (by decide)) ?_
      refine KX_step (st1 := [.int (nI (n % 9)), .int 7, .int 0, .int 0, .int 9, .ref (ca 0 0)]) (fun H locs ls hl K => lv_irem hx hb dL_refuses_369 (by decide) (by rw [show ((nI n) - (nI n) / 9 * 9 : Int32) = (nI (n % 9)) from nI_mod (a := n) (b := 9) (by omega) (by omega) (by omega)]; exact K)) ?_
      refine KX_step (st1 := [.int (nI (7 + (n % 9))), .int 0, .int 0, .int 9, .ref (ca 0 0)]) (fun H locs ls hl K => lv_iadd hx hb dL_refuses_370 (by rw [show (7 + (nI (n % 9)) : Int32) = (nI (7 + (n % 9))) from nI_add (7) (n % 9)]; exact K)) ?_
      refine KX_call (cells2 := 16) (slots2 := 96) (st0 := [.int (nI (7 + (n % 9))), .int 0, .int 0, .int 9, .ref (ca 0 0)]) (rest := []) hE rfl (sp1 (q_call_9 l hfl D cs ca 0 0 (nI (7 + (n % 9))) (fun cv hq => Q_put_a hq (isP_y (p := 0) (by omega)) (isB_y (p := 0) (by omega)) ((inx 1 6 rfl rfl).mpr (by rw [nI_toInt (by omega)]; omega))))) (va_cwS 5 hts gN_refuses_L_call rfl rfl rfl (by decide +kernel) ⟨(Nat.le_of_ble_eq_true rfl), (Nat.le_of_ble_eq_true rfl)⟩) rfl rfl (Nat.le_of_ble_eq_true rfl) ⟨(Nat.le_of_ble_eq_true rfl), (Nat.le_of_ble_eq_true rfl)⟩ dL_refuses_371 (Nat.le_of_ble_eq_true rfl) (Nat.le_of_ble_eq_true rfl) ?_
      refine KX_step (fun H locs ls hl => lv_ldc (v := (-9999002)) hx hb hown (hts (.constant RL 15 (-9999002)) (by decide +kernel)) dL_refuses_374) ?_
      refine KX_if (fun H locs ls hl => lv_icmp_ne (tgt := 755) hx hb dL_refuses_376 (by decide)) (fun q => absurd (by decide) q) (fun _ => ?_)
      refine KX_step (fun H locs ls hl => lv_aload_n hx hb dL_refuses_379 rfl (lv_at hl 5 rfl)) ?_
      refine KX_step (fun H locs ls hl => lv_bipush (v := 10) hx hb dL_refuses_380 (by decide)) ?_
      refine KX_step (fun H locs ls hl => lv_iload hx hb dL_refuses_382 (lv_at hl 2 rfl)) ?_
      refine KX_step (fun H locs ls hl => lv_iconst (v := 0) hx hb dL_refuses_384 (by decide)) ?_
      refine KX_step (fun H locs ls hl => lv_iconst (v := 0) hx hb dL_refuses_385 (by decide)) ?_
      refine KX_call (cells2 := 17) (slots2 := 102) (st0 := [.int 0, .int 0, .int (nI (6 + (n % 99))), .int 10, .ref (ca 0 0)]) (rest := []) hE rfl (sp1 (q_call_10 l hfl D cs ca (nI (6 + (n % 99))) 0 0 (fun cv hq => Q_pull_x hq (Or.inl (isP_x (by rw [nI_toInt (by omega)]; omega)))))) (va_cwS 5 hts gN_refuses_L_call rfl rfl rfl (by decide +kernel) ⟨(Nat.le_of_ble_eq_true rfl), (Nat.le_of_ble_eq_true rfl)⟩) rfl rfl (Nat.le_of_ble_eq_true rfl) ⟨(Nat.le_of_ble_eq_true rfl), (Nat.le_of_ble_eq_true rfl)⟩ dL_refuses_386 (Nat.le_of_ble_eq_true rfl) (Nat.le_of_ble_eq_true rfl) ?_
      refine KX_step (fun H locs ls hl => lv_ldc (v := (-9999001)) hx hb hown (hts (.constant RL 40 (-9999001)) (by decide +kernel)) dL_refuses_389) ?_
      refine KX_if (fun H locs ls hl => lv_icmp_ne (tgt := 755) hx hb dL_refuses_391 (by decide)) (fun q => absurd (by decide) q) (fun _ => ?_)
      refine KX_step (fun H locs ls hl => lv_aload_n hx hb dL_refuses_394 rfl (lv_at hl 5 rfl)) ?_
      refine KX_step (fun H locs ls hl => lv_bipush (v := 10) hx hb dL_refuses_395 (by decide)) ?_
      refine KX_step (fun H locs ls hl => lv_iconst (v := 0) hx hb dL_refuses_397 (by decide)) ?_
      refine KX_step (fun H locs ls hl => lv_iload hx hb dL_refuses_398 (lv_at hl 1 rfl)) ?_
      refine KX_step (fun H locs ls hl => lv_iconst (v := 0) hx hb dL_refuses_400 (by decide)) ?_
      refine KX_call (cells2 := 18) (slots2 := 108) (st0 := [.int 0, .int (nI (24 + (n % 99))), .int 0, .int 10, .ref (ca 0 0)]) (rest := []) hE rfl (sp1 (q_call_10 l hfl D cs ca 0 (nI (24 + (n % 99))) 0 (fun cv hq => Q_pull_x hq (Or.inr (isB_x (by rw [nI_toInt (by omega)]; omega)))))) (va_cwS 5 hts gN_refuses_L_call rfl rfl rfl (by decide +kernel) ⟨(Nat.le_of_ble_eq_true rfl), (Nat.le_of_ble_eq_true rfl)⟩) rfl rfl (Nat.le_of_ble_eq_true rfl) ⟨(Nat.le_of_ble_eq_true rfl), (Nat.le_of_ble_eq_true rfl)⟩ dL_refuses_401 (Nat.le_of_ble_eq_true rfl) (Nat.le_of_ble_eq_true rfl) ?_
      refine KX_step (fun H locs ls hl => lv_ldc (v := (-9999001)) hx hb hown (hts (.constant RL 40 (-9999001)) (by decide +kernel)) dL_refuses_404) ?_
      refine KX_if (fun H locs ls hl => lv_icmp_ne (tgt := 755) hx hb dL_refuses_406 (by decide)) (fun q => absurd (by decide) q) (fun _ => ?_)
      refine KX_step (fun H locs ls hl => lv_aload_n hx hb dL_refuses_409 rfl (lv_at hl 5 rfl)) ?_
      refine KX_step (fun H locs ls hl => lv_bipush (v := 11) hx hb dL_refuses_410 (by decide)) ?_
      refine KX_step (fun H locs ls hl => lv_iload hx hb dL_refuses_412 (lv_at hl 0 rfl)) ?_
      refine KX_step (fun H locs ls hl => lv_iconst (v := 0) hx hb dL_refuses_414 (by decide)) ?_
      refine KX_step (fun H locs ls hl => lv_iconst (v := 0) hx hb dL_refuses_415 (by decide)) ?_
      refine KX_call (cells2 := 19) (slots2 := 114) (st0 := [.int 0, .int 0, .int (nI (M + (n % 99))), .int 11, .ref (ca 0 0)]) (rest := []) hE rfl (sp1 (q_call_11 l hfl D cs ca (nI (M + (n % 99))) 0 0 (fun cv hq => Q_cancel_x hq (isO_x m0 hM (by rw [nI_toInt (by omega)]; omega))))) (va_cwS 5 hts gN_refuses_L_call rfl rfl rfl (by decide +kernel) ⟨(Nat.le_of_ble_eq_true rfl), (Nat.le_of_ble_eq_true rfl)⟩) rfl rfl (Nat.le_of_ble_eq_true rfl) ⟨(Nat.le_of_ble_eq_true rfl), (Nat.le_of_ble_eq_true rfl)⟩ dL_refuses_416 (Nat.le_of_ble_eq_true rfl) (Nat.le_of_ble_eq_true rfl) ?_
      refine KX_step (fun H locs ls hl => lv_ldc (v := (-9999001)) hx hb hown (hts (.constant RL 40 (-9999001)) (by decide +kernel)) dL_refuses_419) ?_
      refine KX_if (fun H locs ls hl => lv_icmp_ne (tgt := 755) hx hb dL_refuses_421 (by decide)) (fun q => absurd (by decide) q) (fun _ => ?_)
      refine KX_step (fun H locs ls hl => lv_aload_n hx hb dL_refuses_424 rfl (lv_at hl 5 rfl)) ?_
      refine KX_step (fun H locs ls hl => lv_bipush (v := 12) hx hb dL_refuses_425 (by decide)) ?_
      refine KX_step (fun H locs ls hl => lv_iload_n hx hb dL_refuses_427 rfl (lv_at hl 6 rfl)) ?_
      refine KX_step (fun H locs ls hl => lv_iconst (v := 2) hx hb dL_refuses_428 (by decide)) ?_
      refine KX_step (st1 := [.int (nI (n % 2)), .int 12, .ref (ca 0 0)]) (fun H locs ls hl K => lv_irem hx hb dL_refuses_429 (by decide) (by rw [show ((nI n) - (nI n) / 2 * 2 : Int32) = (nI (n % 2)) from nI_mod (a := n) (b := 2) (by omega) (by omega) (by omega)]; exact K)) ?_
      refine KX_if (fun H locs ls hl => lv_if_ne (tgt := 437) hx hb dL_refuses_430 (by decide)) (fun _ => ?_) (fun q => absurd q (nI_ne1 hp))
      refine KX_step (fun H locs ls hl => lv_bipush (v := 100) hx hb dL_refuses_437 (by decide)) ?_
      refine KX_step (fun H locs ls hl => lv_iload_n hx hb dL_refuses_439 rfl (lv_at hl 6 rfl)) ?_
      refine KX_step (fun H locs ls hl => lv_bipush (v := 9) hx hb dL_refuses_440 (by decide)) ?_
      refine KX_step (st1 := [.int (nI (n % 9)), .int 100, .int 12, .ref (ca 0 0)]) (fun H locs ls hl K => lv_irem hx hb dL_refuses_442 (by decide) (by rw [show ((nI n) - (nI n) / 9 * 9 : Int32) = (nI (n % 9)) from nI_mod (a := n) (b := 9) (by omega) (by omega) (by omega)]; exact K)) ?_
      refine KX_step (st1 := [.int (nI (100 + (n % 9))), .int 12, .ref (ca 0 0)]) (fun H locs ls hl K => lv_iadd hx hb dL_refuses_443 (by rw [show (100 + (nI (n % 9)) : Int32) = (nI (100 + (n % 9))) from nI_add (100) (n % 9)]; exact K)) ?_
      refine KX_step (fun H locs ls hl => lv_iconst (v := 0) hx hb dL_refuses_444 (by decide)) ?_
      refine KX_step (fun H locs ls hl => lv_iconst (v := 0) hx hb dL_refuses_445 (by decide)) ?_
      refine KX_call (cells2 := 20) (slots2 := 120) (st0 := [.int 0, .int 0, .int (nI (100 + (n % 9))), .int 12, .ref (ca 0 0)]) (rest := []) hE rfl (sp1 (q_call_12 l hfl D cs ca (nI (100 + (n % 9))) 0 0 (fun cv hq => Q_ticks_x hq ((inx 1 99 rfl rfl).mpr (by rw [nI_toInt (by omega)]; omega))))) (va_cwS 5 hts gN_refuses_L_call rfl rfl rfl (by decide +kernel) ⟨(Nat.le_of_ble_eq_true rfl), (Nat.le_of_ble_eq_true rfl)⟩) rfl rfl (Nat.le_of_ble_eq_true rfl) ⟨(Nat.le_of_ble_eq_true rfl), (Nat.le_of_ble_eq_true rfl)⟩ dL_refuses_446 (Nat.le_of_ble_eq_true rfl) (Nat.le_of_ble_eq_true rfl) ?_
      refine KX_step (fun H locs ls hl => lv_ldc (v := (-9999002)) hx hb hown (hts (.constant RL 15 (-9999002)) (by decide +kernel)) dL_refuses_449) ?_
      refine KX_if (fun H locs ls hl => lv_icmp_ne (tgt := 755) hx hb dL_refuses_451 (by decide)) (fun q => absurd (by decide) q) (fun _ => ?_)
      refine KX_step (fun H locs ls hl => lv_aload_n hx hb dL_refuses_454 rfl (lv_at hl 5 rfl)) ?_
      refine KX_step (fun H locs ls hl => lv_bipush (v := 13) hx hb dL_refuses_455 (by decide)) ?_
      refine KX_step (fun H locs ls hl => lv_iconst (v := 0) hx hb dL_refuses_457 (by decide)) ?_
      refine KX_step (fun H locs ls hl => lv_iload_n hx hb dL_refuses_458 rfl (lv_at hl 6 rfl)) ?_
      refine KX_step (fun H locs ls hl => lv_iconst (v := 2) hx hb dL_refuses_459 (by decide)) ?_
      refine KX_step (st1 := [.int (nI (n % 2)), .int 0, .int 13, .ref (ca 0 0)]) (fun H locs ls hl K => lv_irem hx hb dL_refuses_460 (by decide) (by rw [show ((nI n) - (nI n) / 2 * 2 : Int32) = (nI (n % 2)) from nI_mod (a := n) (b := 2) (by omega) (by omega) (by omega)]; exact K)) ?_
      refine KX_if (fun H locs ls hl => lv_if_ne (tgt := 468) hx hb dL_refuses_461 (by decide)) (fun _ => ?_) (fun q => absurd q (nI_ne1 hp))
      refine KX_step (fun H locs ls hl => lv_iconst (v := 4) hx hb dL_refuses_468 (by decide)) ?_
      refine KX_step (fun H locs ls hl => lv_iload_n hx hb dL_refuses_469 rfl (lv_at hl 6 rfl)) ?_
      refine KX_step (fun H locs ls hl => lv_bipush (v := 9) hx hb dL_refuses_470 (by decide)) ?_
      refine KX_step (st1 := [.int (nI (n % 9)), .int 4, .int 0, .int 13, .ref (ca 0 0)]) (fun H locs ls hl K => lv_irem hx hb dL_refuses_472 (by decide) (by rw [show ((nI n) - (nI n) / 9 * 9 : Int32) = (nI (n % 9)) from nI_mod (a := n) (b := 9) (by omega) (by omega) (by omega)]; exact K)) ?_
      refine KX_step (st1 := [.int (nI (4 + (n % 9))), .int 0, .int 13, .ref (ca 0 0)]) (fun H locs ls hl K => lv_iadd hx hb dL_refuses_473 (by rw [show (4 + (nI (n % 9)) : Int32) = (nI (4 + (n % 9))) from nI_add (4) (n % 9)]; exact K)) ?_
      refine KX_step (fun H locs ls hl => lv_iconst (v := 0) hx hb dL_refuses_474 (by decide)) ?_
      refine KX_call (cells2 := 21) (slots2 := 126) (st0 := [.int 0, .int (nI (4 + (n % 9))), .int 0, .int 13, .ref (ca 0 0)]) (rest := []) hE rfl (sp1 (q_call_13 l hfl D cs ca 0 (nI (4 + (n % 9))) 0 (fun cv hq => Q_set_x hq (isS_x (by rw [(show (0 : Int32).toInt = 0 from rfl), (nI_toInt (n := 4 + (n % 9)) (by omega))]; omega))))) (va_cwS 5 hts gN_refuses_L_call rfl rfl rfl (by decide +kernel) ⟨(Nat.le_of_ble_eq_true rfl), (Nat.le_of_ble_eq_true rfl)⟩) rfl rfl (Nat.le_of_ble_eq_true rfl) ⟨(Nat.le_of_ble_eq_true rfl), (Nat.le_of_ble_eq_true rfl)⟩ dL_refuses_475 (Nat.le_of_ble_eq_true rfl) (Nat.le_of_ble_eq_true rfl) ?_
      refine KX_step (fun H locs ls hl => lv_ldc (v := (-9999002)) hx hb hown (hts (.constant RL 15 (-9999002)) (by decide +kernel)) dL_refuses_478) ?_
      refine KX_if (fun H locs ls hl => lv_icmp_ne (tgt := 755) hx hb dL_refuses_480 (by decide)) (fun q => absurd (by decide) q) (fun _ => ?_)
      refine KX_step (fun H locs ls hl => lv_aload_n hx hb dL_refuses_483 rfl (lv_at hl 5 rfl)) ?_
      refine KX_step (fun H locs ls hl => lv_bipush (v := 13) hx hb dL_refuses_484 (by decide)) ?_
      refine KX_step (fun H locs ls hl => lv_iconst (v := 1) hx hb dL_refuses_486 (by decide)) ?_
      refine KX_step (fun H locs ls hl => lv_iload_n hx hb dL_refuses_487 rfl (lv_at hl 6 rfl)) ?_
      refine KX_step (fun H locs ls hl => lv_iconst (v := 2) hx hb dL_refuses_488 (by decide)) ?_
      refine KX_step (st1 := [.int (nI (n % 2)), .int 1, .int 13, .ref (ca 0 0)]) (fun H locs ls hl K => lv_irem hx hb dL_refuses_489 (by decide) (by rw [show ((nI n) - (nI n) / 2 * 2 : Int32) = (nI (n % 2)) from nI_mod (a := n) (b := 2) (by omega) (by omega) (by omega)]; exact K)) ?_
      refine KX_if (fun H locs ls hl => lv_if_ne (tgt := 497) hx hb dL_refuses_490 (by decide)) (fun _ => ?_) (fun q => absurd q (nI_ne1 hp))
      refine KX_step (fun H locs ls hl => lv_bipush (v := 10) hx hb dL_refuses_497 (by decide)) ?_
      refine KX_step (fun H locs ls hl => lv_iload_n hx hb dL_refuses_499 rfl (lv_at hl 6 rfl)) ?_
      refine KX_step (fun H locs ls hl => lv_bipush (v := 9) hx hb dL_refuses_500 (by decide)) ?_
      refine KX_step (st1 := [.int (nI (n % 9)), .int 10, .int 1, .int 13, .ref (ca 0 0)]) (fun H locs ls hl K => lv_irem hx hb dL_refuses_502 (by decide) (by rw [show ((nI n) - (nI n) / 9 * 9 : Int32) = (nI (n % 9)) from nI_mod (a := n) (b := 9) (by omega) (by omega) (by omega)]; exact K)) ?_
      refine KX_step (st1 := [.int (nI (10 + (n % 9))), .int 1, .int 13, .ref (ca 0 0)]) (fun H locs ls hl K => lv_iadd hx hb dL_refuses_503 (by rw [show (10 + (nI (n % 9)) : Int32) = (nI (10 + (n % 9))) from nI_add (10) (n % 9)]; exact K)) ?_
      refine KX_step (fun H locs ls hl => lv_iconst (v := 0) hx hb dL_refuses_504 (by decide)) ?_
      refine KX_call (cells2 := 22) (slots2 := 132) (st0 := [.int 0, .int (nI (10 + (n % 9))), .int 1, .int 13, .ref (ca 0 0)]) (rest := []) hE rfl (sp1 (q_call_13 l hfl D cs ca 1 (nI (10 + (n % 9))) 0 (fun cv hq => Q_set_x hq (isS_x (by rw [(show (1 : Int32).toInt = 1 from rfl), (nI_toInt (n := 10 + (n % 9)) (by omega))]; omega))))) (va_cwS 5 hts gN_refuses_L_call rfl rfl rfl (by decide +kernel) ⟨(Nat.le_of_ble_eq_true rfl), (Nat.le_of_ble_eq_true rfl)⟩) rfl rfl (Nat.le_of_ble_eq_true rfl) ⟨(Nat.le_of_ble_eq_true rfl), (Nat.le_of_ble_eq_true rfl)⟩ dL_refuses_505 (Nat.le_of_ble_eq_true rfl) (Nat.le_of_ble_eq_true rfl) ?_
      refine KX_step (fun H locs ls hl => lv_ldc (v := (-9999002)) hx hb hown (hts (.constant RL 15 (-9999002)) (by decide +kernel)) dL_refuses_508) ?_
      refine KX_if (fun H locs ls hl => lv_icmp_ne (tgt := 755) hx hb dL_refuses_510 (by decide)) (fun q => absurd (by decide) q) (fun _ => ?_)
      refine KX_step (fun H locs ls hl => lv_aload_n hx hb dL_refuses_513 rfl (lv_at hl 5 rfl)) ?_
      refine KX_step (fun H locs ls hl => lv_bipush (v := 13) hx hb dL_refuses_514 (by decide)) ?_
      refine KX_step (fun H locs ls hl => lv_iconst (v := 2) hx hb dL_refuses_516 (by decide)) ?_
      refine KX_step (fun H locs ls hl => lv_iload_n hx hb dL_refuses_517 rfl (lv_at hl 6 rfl)) ?_
      refine KX_step (fun H locs ls hl => lv_iconst (v := 2) hx hb dL_refuses_518 (by decide)) ?_
      refine KX_step (st1 := [.int (nI (n % 2)), .int 2, .int 13, .ref (ca 0 0)]) (fun H locs ls hl K => lv_irem hx hb dL_refuses_519 (by decide) (by rw [show ((nI n) - (nI n) / 2 * 2 : Int32) = (nI (n % 2)) from nI_mod (a := n) (b := 2) (by omega) (by omega) (by omega)]; exact K)) ?_
      refine KX_if (fun H locs ls hl => lv_if_ne (tgt := 527) hx hb dL_refuses_520 (by decide)) (fun _ => ?_) (fun q => absurd q (nI_ne1 hp))
      refine KX_step (fun H locs ls hl => lv_bipush (v := 61) hx hb dL_refuses_527 (by decide)) ?_
      refine KX_step (fun H locs ls hl => lv_iload_n hx hb dL_refuses_529 rfl (lv_at hl 6 rfl)) ?_
      refine KX_step (fun H locs ls hl => lv_bipush (v := 9) hx hb dL_refuses_530 (by decide)) ?_
      refine KX_step (st1 := [.int (nI (n % 9)), .int 61, .int 2, .int 13, .ref (ca 0 0)]) (fun H locs ls hl K => lv_irem hx hb dL_refuses_532 (by decide) (by rw [show ((nI n) - (nI n) / 9 * 9 : Int32) = (nI (n % 9)) from nI_mod (a := n) (b := 9) (by omega) (by omega) (by omega)]; exact K)) ?_
      refine KX_step (st1 := [.int (nI (61 + (n % 9))), .int 2, .int 13, .ref (ca 0 0)]) (fun H locs ls hl K => lv_iadd hx hb dL_refuses_533 (by rw [show (61 + (nI (n % 9)) : Int32) = (nI (61 + (n % 9))) from nI_add (61) (n % 9)]; exact K)) ?_
      refine KX_step (fun H locs ls hl => lv_iconst (v := 0) hx hb dL_refuses_534 (by decide)) ?_
      refine KX_call (cells2 := 23) (slots2 := 138) (st0 := [.int 0, .int (nI (61 + (n % 9))), .int 2, .int 13, .ref (ca 0 0)]) (rest := []) hE rfl (sp1 (q_call_13 l hfl D cs ca 2 (nI (61 + (n % 9))) 0 (fun cv hq => Q_set_x hq (isS_x (by rw [(show (2 : Int32).toInt = 2 from rfl), (nI_toInt (n := 61 + (n % 9)) (by omega))]; omega))))) (va_cwS 5 hts gN_refuses_L_call rfl rfl rfl (by decide +kernel) ⟨(Nat.le_of_ble_eq_true rfl), (Nat.le_of_ble_eq_true rfl)⟩) rfl rfl (Nat.le_of_ble_eq_true rfl) ⟨(Nat.le_of_ble_eq_true rfl), (Nat.le_of_ble_eq_true rfl)⟩ dL_refuses_535 (Nat.le_of_ble_eq_true rfl) (Nat.le_of_ble_eq_true rfl) ?_
      refine KX_step (fun H locs ls hl => lv_ldc (v := (-9999002)) hx hb hown (hts (.constant RL 15 (-9999002)) (by decide +kernel)) dL_refuses_538) ?_
      refine KX_if (fun H locs ls hl => lv_icmp_ne (tgt := 755) hx hb dL_refuses_540 (by decide)) (fun q => absurd (by decide) q) (fun _ => ?_)
      refine KX_step (fun H locs ls hl => lv_aload_n hx hb dL_refuses_543 rfl (lv_at hl 5 rfl)) ?_
      refine KX_step (fun H locs ls hl => lv_bipush (v := 13) hx hb dL_refuses_544 (by decide)) ?_
      refine KX_step (fun H locs ls hl => lv_iconst (v := 3) hx hb dL_refuses_546 (by decide)) ?_
      refine KX_step (fun H locs ls hl => lv_iload_n hx hb dL_refuses_547 rfl (lv_at hl 6 rfl)) ?_
      refine KX_step (fun H locs ls hl => lv_bipush (v := 9) hx hb dL_refuses_548 (by decide)) ?_
      refine KX_step (st1 := [.int (nI (n % 9)), .int 3, .int 13, .ref (ca 0 0)]) (fun H locs ls hl K => lv_irem hx hb dL_refuses_550 (by decide) (by rw [show ((nI n) - (nI n) / 9 * 9 : Int32) = (nI (n % 9)) from nI_mod (a := n) (b := 9) (by omega) (by omega) (by omega)]; exact K)) ?_
      refine KX_step (st1 := [.int (nI (3 + (n % 9))), .int 13, .ref (ca 0 0)]) (fun H locs ls hl K => lv_iadd hx hb dL_refuses_551 (by rw [show (3 + (nI (n % 9)) : Int32) = (nI (3 + (n % 9))) from nI_add (3) (n % 9)]; exact K)) ?_
      refine KX_step (fun H locs ls hl => lv_iconst (v := 0) hx hb dL_refuses_552 (by decide)) ?_
      refine KX_step (fun H locs ls hl => lv_iconst (v := 0) hx hb dL_refuses_553 (by decide)) ?_
      refine KX_call (cells2 := 24) (slots2 := 144) (st0 := [.int 0, .int 0, .int (nI (3 + (n % 9))), .int 13, .ref (ca 0 0)]) (rest := []) hE rfl (sp1 (q_call_13 l hfl D cs ca (nI (3 + (n % 9))) 0 0 (fun cv hq => Q_set_x hq (isS_x (by rw [nI_toInt (n := 3 + (n % 9)) (by omega)]; omega))))) (va_cwS 5 hts gN_refuses_L_call rfl rfl rfl (by decide +kernel) ⟨(Nat.le_of_ble_eq_true rfl), (Nat.le_of_ble_eq_true rfl)⟩) rfl rfl (Nat.le_of_ble_eq_true rfl) ⟨(Nat.le_of_ble_eq_true rfl), (Nat.le_of_ble_eq_true rfl)⟩ dL_refuses_554 (Nat.le_of_ble_eq_true rfl) (Nat.le_of_ble_eq_true rfl) ?_
      refine KX_step (fun H locs ls hl => lv_ldc (v := (-9999002)) hx hb hown (hts (.constant RL 15 (-9999002)) (by decide +kernel)) dL_refuses_557) ?_
      refine KX_if (fun H locs ls hl => lv_icmp_ne (tgt := 755) hx hb dL_refuses_559 (by decide)) (fun q => absurd (by decide) q) (fun _ => ?_)
      refine KX_step (fun H locs ls hl => lv_aload_n hx hb dL_refuses_562 rfl (lv_at hl 5 rfl)) ?_
      refine KX_step (fun H locs ls hl => lv_bipush (v := 15) hx hb dL_refuses_563 (by decide)) ?_
      refine KX_step (fun H locs ls hl => lv_iload hx hb dL_refuses_565 (lv_at hl 0 rfl)) ?_
      refine KX_step (fun H locs ls hl => lv_iconst (v := 0) hx hb dL_refuses_567 (by decide)) ?_
      refine KX_step (fun H locs ls hl => lv_iconst (v := 0) hx hb dL_refuses_568 (by decide)) ?_
      refine KX_call (cells2 := 25) (slots2 := 150) (st0 := [.int 0, .int 0, .int (nI (M + (n % 99))), .int 15, .ref (ca 0 0)]) (rest := []) hE rfl (sp1 (q_call_15 l hfl D cs ca (nI (M + (n % 99))) 0 0 (fun cv hq => Q_done_x hq (isO_x m0 hM (by rw [nI_toInt (by omega)]; omega))))) (va_cwS 5 hts gN_refuses_L_call rfl rfl rfl (by decide +kernel) ⟨(Nat.le_of_ble_eq_true rfl), (Nat.le_of_ble_eq_true rfl)⟩) rfl rfl (Nat.le_of_ble_eq_true rfl) ⟨(Nat.le_of_ble_eq_true rfl), (Nat.le_of_ble_eq_true rfl)⟩ dL_refuses_569 (Nat.le_of_ble_eq_true rfl) (Nat.le_of_ble_eq_true rfl) ?_
      refine KX_step (fun H locs ls hl => lv_ldc (v := (-9999001)) hx hb hown (hts (.constant RL 40 (-9999001)) (by decide +kernel)) dL_refuses_572) ?_
      refine KX_if (fun H locs ls hl => lv_icmp_ne (tgt := 755) hx hb dL_refuses_574 (by decide)) (fun q => absurd (by decide) q) (fun _ => ?_)
      refine KX_step (fun H locs ls hl => lv_aload_n hx hb dL_refuses_577 rfl (lv_at hl 5 rfl)) ?_
      refine KX_step (fun H locs ls hl => lv_bipush (v := 16) hx hb dL_refuses_578 (by decide)) ?_
      refine KX_step (fun H locs ls hl => lv_iload hx hb dL_refuses_580 (lv_at hl 2 rfl)) ?_
      refine KX_step (fun H locs ls hl => lv_iconst (v := 0) hx hb dL_refuses_582 (by decide)) ?_
      refine KX_step (fun H locs ls hl => lv_iconst (v := 0) hx hb dL_refuses_583 (by decide)) ?_
      refine KX_call (cells2 := 26) (slots2 := 156) (st0 := [.int 0, .int 0, .int (nI (6 + (n % 99))), .int 16, .ref (ca 0 0)]) (rest := []) hE rfl (sp1 (q_call_16 l hfl D cs ca (nI (6 + (n % 99))) 0 0 (fun cv hq => Q_sounds_x hq (isP_x (by rw [nI_toInt (by omega)]; omega))))) (va_cwS 5 hts gN_refuses_L_call rfl rfl rfl (by decide +kernel) ⟨(Nat.le_of_ble_eq_true rfl), (Nat.le_of_ble_eq_true rfl)⟩) rfl rfl (Nat.le_of_ble_eq_true rfl) ⟨(Nat.le_of_ble_eq_true rfl), (Nat.le_of_ble_eq_true rfl)⟩ dL_refuses_584 (Nat.le_of_ble_eq_true rfl) (Nat.le_of_ble_eq_true rfl) ?_
      refine KX_step (fun H locs ls hl => lv_ldc (v := (-9999001)) hx hb hown (hts (.constant RL 40 (-9999001)) (by decide +kernel)) dL_refuses_587) ?_
      refine KX_if (fun H locs ls hl => lv_icmp_ne (tgt := 755) hx hb dL_refuses_589 (by decide)) (fun q => absurd (by decide) q) (fun _ => ?_)
      refine KX_step (fun H locs ls hl => lv_aload_n hx hb dL_refuses_592 rfl (lv_at hl 5 rfl)) ?_
      refine KX_step (fun H locs ls hl => lv_bipush (v := 17) hx hb dL_refuses_593 (by decide)) ?_
      refine KX_step (fun H locs ls hl => lv_iload_n hx hb dL_refuses_595 rfl (lv_at hl 6 rfl)) ?_
      refine KX_step (fun H locs ls hl => lv_iconst (v := 2) hx hb dL_refuses_596 (by decide)) ?_
      refine KX_step (st1 := [.int (nI (n % 2)), .int 17, .ref (ca 0 0)]) (fun H locs ls hl K => lv_irem hx hb dL_refuses_597 (by decide) (by rw [show ((nI n) - (nI n) / 2 * 2 : Int32) = (nI (n % 2)) from nI_mod (a := n) (b := 2) (by omega) (by omega) (by omega)]; exact K)) ?_
      refine KX_if (fun H locs ls hl => lv_if_ne (tgt := 605) hx hb dL_refuses_598 (by decide)) (fun _ => ?_) (fun q => absurd q (nI_ne1 hp))
      refine KX_step (fun H locs ls hl => lv_bipush (v := 100) hx hb dL_refuses_605 (by decide)) ?_
      refine KX_step (fun H locs ls hl => lv_iload_n hx hb dL_refuses_607 rfl (lv_at hl 6 rfl)) ?_
      refine KX_step (fun H locs ls hl => lv_bipush (v := 9) hx hb dL_refuses_608 (by decide)) ?_
      refine KX_step (st1 := [.int (nI (n % 9)), .int 100, .int 17, .ref (ca 0 0)]) (fun H locs ls hl K => lv_irem hx hb dL_refuses_610 (by decide) (by rw [show ((nI n) - (nI n) / 9 * 9 : Int32) = (nI (n % 9)) from nI_mod (a := n) (b := 9) (by omega) (by omega) (by omega)]; exact K)) ?_
      refine KX_step (st1 := [.int (nI (100 + (n % 9))), .int 17, .ref (ca 0 0)]) (fun H locs ls hl K => lv_iadd hx hb dL_refuses_611 (by rw [show (100 + (nI (n % 9)) : Int32) = (nI (100 + (n % 9))) from nI_add (100) (n % 9)]; exact K)) ?_
      refine KX_step (fun H locs ls hl => lv_iconst (v := 0) hx hb dL_refuses_612 (by decide)) ?_
      refine KX_step (fun H locs ls hl => lv_iconst (v := 0) hx hb dL_refuses_613 (by decide)) ?_
      refine KX_call (cells2 := 27) (slots2 := 162) (st0 := [.int 0, .int 0, .int (nI (100 + (n % 9))), .int 17, .ref (ca 0 0)]) (rest := []) hE rfl (sp1 (q_call_17 l hfl D cs ca (nI (100 + (n % 9))) 0 0 (fun cv hq => Q_least_x hq ((inx 1 99 rfl rfl).mpr (by rw [nI_toInt (by omega)]; omega))))) (va_cwS 5 hts gN_refuses_L_call rfl rfl rfl (by decide +kernel) ⟨(Nat.le_of_ble_eq_true rfl), (Nat.le_of_ble_eq_true rfl)⟩) rfl rfl (Nat.le_of_ble_eq_true rfl) ⟨(Nat.le_of_ble_eq_true rfl), (Nat.le_of_ble_eq_true rfl)⟩ dL_refuses_614 (Nat.le_of_ble_eq_true rfl) (Nat.le_of_ble_eq_true rfl) ?_
      refine KX_step (fun H locs ls hl => lv_ldc (v := (-9999002)) hx hb hown (hts (.constant RL 15 (-9999002)) (by decide +kernel)) dL_refuses_617) ?_
      refine KX_if (fun H locs ls hl => lv_icmp_ne (tgt := 755) hx hb dL_refuses_619 (by decide)) (fun q => absurd (by decide) q) (fun _ => ?_)
      refine KX_step (fun H locs ls hl => lv_aload_n hx hb dL_refuses_622 rfl (lv_at hl 5 rfl)) ?_
      refine KX_step (fun H locs ls hl => lv_bipush (v := 18) hx hb dL_refuses_623 (by decide)) ?_
      refine KX_step (fun H locs ls hl => lv_iload hx hb dL_refuses_625 (lv_at hl 2 rfl)) ?_
      refine KX_step (fun H locs ls hl => lv_bipush (v := 99) hx hb dL_refuses_627 (by decide)) ?_
      refine KX_step (fun H locs ls hl => lv_iconst (v := 0) hx hb dL_refuses_629 (by decide)) ?_
      refine KX_call (cells2 := 28) (slots2 := 168) (st0 := [.int 0, .int 99, .int (nI (6 + (n % 99))), .int 18, .ref (ca 0 0)]) (rest := []) hE rfl (sp1 (q_call_18 l hfl D cs ca (nI (6 + (n % 99))) 99 0 (fun cv hq => Q_room_x hq (isP_x (by rw [nI_toInt (by omega)]; omega))))) (va_cwS 5 hts gN_refuses_L_call rfl rfl rfl (by decide +kernel) ⟨(Nat.le_of_ble_eq_true rfl), (Nat.le_of_ble_eq_true rfl)⟩) rfl rfl (Nat.le_of_ble_eq_true rfl) ⟨(Nat.le_of_ble_eq_true rfl), (Nat.le_of_ble_eq_true rfl)⟩ dL_refuses_630 (Nat.le_of_ble_eq_true rfl) (Nat.le_of_ble_eq_true rfl) ?_
      refine KX_step (fun H locs ls hl => lv_ldc (v := (-9999001)) hx hb hown (hts (.constant RL 40 (-9999001)) (by decide +kernel)) dL_refuses_633) ?_
      refine KX_if (fun H locs ls hl => lv_icmp_ne (tgt := 755) hx hb dL_refuses_635 (by decide)) (fun q => absurd (by decide) q) (fun _ => ?_)
      refine KX_step (fun H locs ls hl => lv_aload_n hx hb dL_refuses_638 rfl (lv_at hl 5 rfl)) ?_
      refine KX_step (fun H locs ls hl => lv_bipush (v := 18) hx hb dL_refuses_639 (by decide)) ?_
      refine KX_step (fun H locs ls hl => lv_iconst (v := 0) hx hb dL_refuses_641 (by decide)) ?_
      refine KX_step (fun H locs ls hl => lv_iload_n hx hb dL_refuses_642 rfl (lv_at hl 6 rfl)) ?_
      refine KX_step (fun H locs ls hl => lv_iconst (v := 2) hx hb dL_refuses_643 (by decide)) ?_
      refine KX_step (st1 := [.int (nI (n % 2)), .int 0, .int 18, .ref (ca 0 0)]) (fun H locs ls hl K => lv_irem hx hb dL_refuses_644 (by decide) (by rw [show ((nI n) - (nI n) / 2 * 2 : Int32) = (nI (n % 2)) from nI_mod (a := n) (b := 2) (by omega) (by omega) (by omega)]; exact K)) ?_
      refine KX_if (fun H locs ls hl => lv_if_ne (tgt := 652) hx hb dL_refuses_645 (by decide)) (fun _ => ?_) (fun q => absurd q (nI_ne1 hp))
      refine KX_step (fun H locs ls hl => lv_bipush (v := 7) hx hb dL_refuses_652 (by decide)) ?_
      refine KX_step (fun H locs ls hl => lv_iload_n hx hb dL_refuses_654 rfl (lv_at hl 6 rfl)) ?_
      refine KX_step (fun H locs ls hl => lv_bipush (v := 9) hx hb dL_refuses_655 (by decide)) ?_
      refine KX_step (st1 := [.int (nI (n % 9)), .int 7, .int 0, .int 18, .ref (ca 0 0)]) (fun H locs ls hl K => lv_irem hx hb dL_refuses_657 (by decide) (by rw [show ((nI n) - (nI n) / 9 * 9 : Int32) = (nI (n % 9)) from nI_mod (a := n) (b := 9) (by omega) (by omega) (by omega)]; exact K)) ?_
      refine KX_step (st1 := [.int (nI (7 + (n % 9))), .int 0, .int 18, .ref (ca 0 0)]) (fun H locs ls hl K => lv_iadd hx hb dL_refuses_658 (by rw [show (7 + (nI (n % 9)) : Int32) = (nI (7 + (n % 9))) from nI_add (7) (n % 9)]; exact K)) ?_
      refine KX_step (fun H locs ls hl => lv_iconst (v := 0) hx hb dL_refuses_659 (by decide)) ?_
      refine KX_call (cells2 := 29) (slots2 := 174) (st0 := [.int 0, .int (nI (7 + (n % 9))), .int 0, .int 18, .ref (ca 0 0)]) (rest := []) hE rfl (sp1 (q_call_18 l hfl D cs ca 0 (nI (7 + (n % 9))) 0 (fun cv hq => Q_room_a hq (isP_y (p := 0) (by omega)) ((inx 1 6 rfl rfl).mpr (by rw [nI_toInt (by omega)]; omega))))) (va_cwS 5 hts gN_refuses_L_call rfl rfl rfl (by decide +kernel) ⟨(Nat.le_of_ble_eq_true rfl), (Nat.le_of_ble_eq_true rfl)⟩) rfl rfl (Nat.le_of_ble_eq_true rfl) ⟨(Nat.le_of_ble_eq_true rfl), (Nat.le_of_ble_eq_true rfl)⟩ dL_refuses_660 (Nat.le_of_ble_eq_true rfl) (Nat.le_of_ble_eq_true rfl) ?_
      refine KX_step (fun H locs ls hl => lv_ldc (v := (-9999002)) hx hb hown (hts (.constant RL 15 (-9999002)) (by decide +kernel)) dL_refuses_663) ?_
      refine KX_if (fun H locs ls hl => lv_icmp_ne (tgt := 755) hx hb dL_refuses_665 (by decide)) (fun q => absurd (by decide) q) (fun _ => ?_)
      refine KX_step (fun H locs ls hl => lv_aload_n hx hb dL_refuses_668 rfl (lv_at hl 5 rfl)) ?_
      refine KX_step (fun H locs ls hl => lv_bipush (v := 19) hx hb dL_refuses_669 (by decide)) ?_
      refine KX_step (fun H locs ls hl => lv_iconst (v := 2) hx hb dL_refuses_671 (by decide)) ?_
      refine KX_step (fun H locs ls hl => lv_iload_n hx hb dL_refuses_672 rfl (lv_at hl 6 rfl)) ?_
      refine KX_step (fun H locs ls hl => lv_bipush (v := 50) hx hb dL_refuses_673 (by decide)) ?_
      refine KX_step (st1 := [.int (nI (n % 50)), .int 2, .int 19, .ref (ca 0 0)]) (fun H locs ls hl K => lv_irem hx hb dL_refuses_675 (by decide) (by rw [show ((nI n) - (nI n) / 50 * 50 : Int32) = (nI (n % 50)) from nI_mod (a := n) (b := 50) (by omega) (by omega) (by omega)]; exact K)) ?_
      refine KX_step (st1 := [.int (nI (2 + (n % 50))), .int 19, .ref (ca 0 0)]) (fun H locs ls hl K => lv_iadd hx hb dL_refuses_676 (by rw [show (2 + (nI (n % 50)) : Int32) = (nI (2 + (n % 50))) from nI_add (2) (n % 50)]; exact K)) ?_
      refine KX_step (fun H locs ls hl => lv_iconst (v := 0) hx hb dL_refuses_677 (by decide)) ?_
      refine KX_step (fun H locs ls hl => lv_iconst (v := 0) hx hb dL_refuses_678 (by decide)) ?_
      refine KX_call (cells2 := 30) (slots2 := 180) (st0 := [.int 0, .int 0, .int (nI (2 + (n % 50))), .int 19, .ref (ca 0 0)]) (rest := []) hE rfl (sp1 (q_call_19 l hfl D cs ca (nI (2 + (n % 50))) 0 0 (fun cv hq => Q_save_x hq ((inx 0 1 rfl rfl).mpr (by rw [nI_toInt (by omega)]; omega))))) (va_cwS 5 hts gN_refuses_L_call rfl rfl rfl (by decide +kernel) ⟨(Nat.le_of_ble_eq_true rfl), (Nat.le_of_ble_eq_true rfl)⟩) rfl rfl (Nat.le_of_ble_eq_true rfl) ⟨(Nat.le_of_ble_eq_true rfl), (Nat.le_of_ble_eq_true rfl)⟩ dL_refuses_679 (Nat.le_of_ble_eq_true rfl) (Nat.le_of_ble_eq_true rfl) ?_
      refine KX_step (fun H locs ls hl => lv_ldc (v := (-9999001)) hx hb hown (hts (.constant RL 40 (-9999001)) (by decide +kernel)) dL_refuses_682) ?_
      refine KX_if (fun H locs ls hl => lv_icmp_ne (tgt := 755) hx hb dL_refuses_684 (by decide)) (fun q => absurd (by decide) q) (fun _ => ?_)
      refine KX_step (fun H locs ls hl => lv_aload_n hx hb dL_refuses_687 rfl (lv_at hl 5 rfl)) ?_
      refine KX_step (fun H locs ls hl => lv_bipush (v := 20) hx hb dL_refuses_688 (by decide)) ?_
      refine KX_step (fun H locs ls hl => lv_iconst (v := (-1)) hx hb dL_refuses_690 (by decide)) ?_
      refine KX_step (fun H locs ls hl => lv_iload_n hx hb dL_refuses_691 rfl (lv_at hl 6 rfl)) ?_
      refine KX_step (fun H locs ls hl => lv_bipush (v := 9) hx hb dL_refuses_692 (by decide)) ?_
      refine KX_step (st1 := [.int (nI (n % 9)), .int (-1), .int 20, .ref (ca 0 0)]) (fun H locs ls hl K => lv_irem hx hb dL_refuses_694 (by decide) (by rw [show ((nI n) - (nI n) / 9 * 9 : Int32) = (nI (n % 9)) from nI_mod (a := n) (b := 9) (by omega) (by omega) (by omega)]; exact K)) ?_
      refine KX_step (fun H locs ls hl => lv_isub hx hb dL_refuses_695) ?_
      refine KX_step (fun H locs ls hl => lv_iconst (v := 0) hx hb dL_refuses_696 (by decide)) ?_
      refine KX_step (fun H locs ls hl => lv_iconst (v := 0) hx hb dL_refuses_697 (by decide)) ?_
      refine KX_call (cells2 := 31) (slots2 := 186) (st0 := [.int 0, .int 0, .int ((-1) - (nI (n % 9))), .int 20, .ref (ca 0 0)]) (rest := []) hE rfl (sp1 (q_call_20 l hfl D cs ca ((-1) - (nI (n % 9))) 0 0 (fun cv hq => Q_restore_x hq ((inx 0 1 rfl rfl).mpr (by rw [sub1 (by omega)]; omega))))) (va_cwS 5 hts gN_refuses_L_call rfl rfl rfl (by decide +kernel) ⟨(Nat.le_of_ble_eq_true rfl), (Nat.le_of_ble_eq_true rfl)⟩) rfl rfl (Nat.le_of_ble_eq_true rfl) ⟨(Nat.le_of_ble_eq_true rfl), (Nat.le_of_ble_eq_true rfl)⟩ dL_refuses_698 (Nat.le_of_ble_eq_true rfl) (Nat.le_of_ble_eq_true rfl) ?_
      refine KX_step (fun H locs ls hl => lv_ldc (v := (-9999001)) hx hb hown (hts (.constant RL 40 (-9999001)) (by decide +kernel)) dL_refuses_701) ?_
      refine KX_if (fun H locs ls hl => lv_icmp_ne (tgt := 755) hx hb dL_refuses_703 (by decide)) (fun q => absurd (by decide) q) (fun _ => ?_)
      refine KX_step (fun H locs ls hl => lv_aload_n hx hb dL_refuses_706 rfl (lv_at hl 5 rfl)) ?_
      refine KX_step (fun H locs ls hl => lv_iconst (v := 0) hx hb dL_refuses_707 (by decide)) ?_
      refine KX_step (fun H locs ls hl => lv_lconst (v := 0) hx hb dL_refuses_708 (by decide)) ?_
      refine KX_callH (cells2 := 32) (slots2 := 192) (st0 := [.long 0, .int 0, .ref (ca 0 0)]) (rest := []) hE rfl (sp1 (q_doScript l hfl D cs ca 0 0 (fun cv hq => Q_script_0 hq 0))) (vx_cwSW 3 hts gN_refuses_L_doScript rfl rfl rfl (by decide +kernel) ⟨(Nat.le_of_ble_eq_true rfl), (Nat.le_of_ble_eq_true rfl)⟩) rfl rfl (Nat.le_of_ble_eq_true rfl) ⟨(Nat.le_of_ble_eq_true rfl), (Nat.le_of_ble_eq_true rfl)⟩ dL_refuses_709 (Nat.le_of_ble_eq_true rfl) (Nat.le_of_ble_eq_true rfl) ?_
      refine KX_step (fun H locs ls hl => lv_ldc (v := (-9999002)) hx hb hown (hts (.constant RL 15 (-9999002)) (by decide +kernel)) dL_refuses_712) ?_
      refine KX_if (fun H locs ls hl => lv_icmp_ne (tgt := 755) hx hb dL_refuses_714 (by decide)) (fun q => absurd (by decide) q) (fun _ => ?_)
      refine KX_step (fun H locs ls hl => lv_aload_n hx hb dL_refuses_717 rfl (lv_at hl 5 rfl)) ?_
      refine KX_step (fun H locs ls hl => lv_iconst (v := 1) hx hb dL_refuses_718 (by decide)) ?_
      refine KX_step (fun H locs ls hl => lv_ldc2 (v := 100000) hx hb hown (hts (.constantLong RL 172 100000) (by decide +kernel)) dL_refuses_719) ?_
      refine KX_step (fun H locs ls hl => lv_iload_n hx hb dL_refuses_722 rfl (lv_at hl 6 rfl)) ?_
      refine KX_step (fun H locs ls hl => lv_i2l (v := (nI n).toInt64) hx hb dL_refuses_723 rfl) ?_
      refine KX_step (fun H locs ls hl => lv_ladd hx hb dL_refuses_724) ?_
      refine KX_callH (cells2 := 33) (slots2 := 198) (st0 := [.long (100000 + ((nI n).toInt64)), .int 1, .ref (ca 0 0)]) (rest := []) hE rfl (sp1 (q_doScript l hfl D cs ca 1 (100000 + ((nI n).toInt64)) (fun cv hq => Q_script_1 hq (big1 (by omega))))) (vx_cwSW 3 hts gN_refuses_L_doScript rfl rfl rfl (by decide +kernel) ⟨(Nat.le_of_ble_eq_true rfl), (Nat.le_of_ble_eq_true rfl)⟩) rfl rfl (Nat.le_of_ble_eq_true rfl) ⟨(Nat.le_of_ble_eq_true rfl), (Nat.le_of_ble_eq_true rfl)⟩ dL_refuses_725 (Nat.le_of_ble_eq_true rfl) (Nat.le_of_ble_eq_true rfl) ?_
      refine KX_step (fun H locs ls hl => lv_ldc (v := (-9999002)) hx hb hown (hts (.constant RL 15 (-9999002)) (by decide +kernel)) dL_refuses_728) ?_
      refine KX_if (fun H locs ls hl => lv_icmp_ne (tgt := 755) hx hb dL_refuses_730 (by decide)) (fun q => absurd (by decide) q) (fun _ => ?_)
      refine KX_step (fun H locs ls hl => lv_aload_n hx hb dL_refuses_733 rfl (lv_at hl 5 rfl)) ?_
      refine KX_step (fun H locs ls hl => lv_iload_n hx hb dL_refuses_734 rfl (lv_at hl 6 rfl)) ?_
      refine KX_step (fun H locs ls hl => lv_i2l (v := (nI n).toInt64) hx hb dL_refuses_735 rfl) ?_
      refine KX_step (fun H locs ls hl => lv_bipush (v := 61) hx hb dL_refuses_736 (by decide)) ?_
      refine KX_step (fun H locs ls hl => lv_iload_n hx hb dL_refuses_738 rfl (lv_at hl 6 rfl)) ?_
      refine KX_step (fun H locs ls hl => lv_bipush (v := 9) hx hb dL_refuses_739 (by decide)) ?_
      refine KX_step (st1 := [.int (nI (n % 9)), .int 61, .long ((nI n).toInt64), .ref (ca 0 0)]) (fun H locs ls hl K => lv_irem hx hb dL_refuses_741 (by decide) (by rw [show ((nI n) - (nI n) / 9 * 9 : Int32) = (nI (n % 9)) from nI_mod (a := n) (b := 9) (by omega) (by omega) (by omega)]; exact K)) ?_
      refine KX_step (st1 := [.int (nI (61 + (n % 9))), .long ((nI n).toInt64), .ref (ca 0 0)]) (fun H locs ls hl K => lv_iadd hx hb dL_refuses_742 (by rw [show (61 + (nI (n % 9)) : Int32) = (nI (61 + (n % 9))) from nI_add (61) (n % 9)]; exact K)) ?_
      refine KX_callH (cells2 := 34) (slots2 := 204) (st0 := [.int (nI (61 + (n % 9))), .long ((nI n).toInt64), .ref (ca 0 0)]) (rest := []) hE rfl (sp1 (q_doSimulate l hfl D cs ca ((nI n).toInt64) (nI (61 + (n % 9))) (fun cv hq => Q_sim_x hq _ ((inx 1 60 rfl rfl).mpr (by rw [nI_toInt (by omega)]; omega))))) (vx_cwSW 3 hts gN_refuses_L_doSimulate rfl rfl rfl (by decide +kernel) ⟨(Nat.le_of_ble_eq_true rfl), (Nat.le_of_ble_eq_true rfl)⟩) rfl rfl (Nat.le_of_ble_eq_true rfl) ⟨(Nat.le_of_ble_eq_true rfl), (Nat.le_of_ble_eq_true rfl)⟩ dL_refuses_743 (Nat.le_of_ble_eq_true rfl) (Nat.le_of_ble_eq_true rfl) ?_
      refine KX_step (fun H locs ls hl => lv_ldc (v := (-9999002)) hx hb hown (hts (.constant RL 15 (-9999002)) (by decide +kernel)) dL_refuses_746) ?_
      refine KX_if (fun H locs ls hl => lv_icmp_ne (tgt := 755) hx hb dL_refuses_748 (by decide)) (fun q => absurd (by decide) q) (fun _ => ?_)
      refine KX_step (fun H locs ls hl => lv_iconst (v := 1) hx hb dL_refuses_751 (by decide)) ?_
      refine KX_step (fun H locs ls hl => lv_goto (tgt := 756) hx hb dL_refuses_752 (by decide)) ?_
      refine KX_store (lv1 := [(7, .int 1), (6, .int (nI (M + (n % 99)))), (5, .int (nI (24 + (n % 99)))), (4, .int (nI (6 + (n % 99)))), (3, .int (nI M)), (2, .int (nI N)), (0, .ref (ca 0 0)), (1, .int (nI n))]) (fun H locs ls hl K => lv_istore hx hb dL_refuses_756 hl (by decide) rfl K) ?_
      refine KX_step (fun H locs ls hl => lv_iload hx hb dL_refuses_758 (lv_at hl 0 rfl)) ?_
      refine KX_if (fun H locs ls hl => lv_if_eq (tgt := 801) hx hb dL_refuses_760 (by decide)) (fun q => absurd q (by decide)) (fun _ => ?_)
      refine KX_step (fun H locs ls hl => lv_iload_n hx hb dL_refuses_763 rfl (lv_at hl 4 rfl)) ?_
      refine KX_step (fun H locs ls hl => lv_bipush (v := 12) hx hb dL_refuses_764 (by decide)) ?_
      refine KX_if (fun H locs ls hl => lv_icmp_lt (tgt := 797) hx hb dL_refuses_766 (by decide)) (fun h9 => ?_) (fun h9 => ?_)
      · refine KX_step (fun H locs ls hl => lv_iconst (v := 1) hx hb dL_refuses_797 (by decide)) ?_
        refine KX_step (fun H locs ls hl => lv_goto (tgt := 802) hx hb dL_refuses_798 (by decide)) ?_
        exact kr _ _ _ _ (Nat.le_of_ble_eq_true rfl) (Nat.le_of_ble_eq_true rfl) dL_refuses_802
      · have h12 : M = 12 := m12_of hM h9
        refine KX_step (fun H locs ls hl => lv_aload_n hx hb dL_refuses_769 rfl (lv_at hl 6 rfl)) ?_
        refine KX_step (fun H locs ls hl => lv_bipush (v := 9) hx hb dL_refuses_770 (by decide)) ?_
        refine KX_step (fun H locs ls hl => lv_iconst (v := 0) hx hb dL_refuses_772 (by decide)) ?_
        refine KX_step (fun H locs ls hl => lv_iconst (v := 0) hx hb dL_refuses_773 (by decide)) ?_
        refine KX_step (fun H locs ls hl => lv_iconst (v := 1) hx hb dL_refuses_774 (by decide)) ?_
        refine KX_call (cells2 := 35) (slots2 := 210) (st0 := [.int 1, .int 0, .int 0, .int 9, .ref (ca 0 0)]) (rest := []) hE rfl (sp1 (q_call_9 l hfl D cs ca 0 0 1 (fun cv hq => Q_put_s hq (isP_y (p := 0) (by omega)) (isB_y (p := 0) (by omega)) (by decide) (m0.trans (congrArg nI h12))))) (va_cwS 5 hts gN_refuses_L_call rfl rfl rfl (by decide +kernel) ⟨(Nat.le_of_ble_eq_true rfl), (Nat.le_of_ble_eq_true rfl)⟩) rfl rfl (Nat.le_of_ble_eq_true rfl) ⟨(Nat.le_of_ble_eq_true rfl), (Nat.le_of_ble_eq_true rfl)⟩ dL_refuses_775 (Nat.le_of_ble_eq_true rfl) (Nat.le_of_ble_eq_true rfl) ?_
        refine KX_step (fun H locs ls hl => lv_ldc (v := (-9999003)) hx hb hown (hts (.constant RL 26 (-9999003)) (by decide +kernel)) dL_refuses_778) ?_
        refine KX_if (fun H locs ls hl => lv_icmp_ne (tgt := 801) hx hb dL_refuses_780 (by decide)) (fun q => absurd (by decide) q) (fun _ => ?_)
        refine KX_step (fun H locs ls hl => lv_aload_n hx hb dL_refuses_783 rfl (lv_at hl 6 rfl)) ?_
        refine KX_step (fun H locs ls hl => lv_bipush (v := 10) hx hb dL_refuses_784 (by decide)) ?_
        refine KX_step (fun H locs ls hl => lv_iconst (v := 0) hx hb dL_refuses_786 (by decide)) ?_
        refine KX_step (fun H locs ls hl => lv_iconst (v := 0) hx hb dL_refuses_787 (by decide)) ?_
        refine KX_step (fun H locs ls hl => lv_iconst (v := 0) hx hb dL_refuses_788 (by decide)) ?_
        refine KX_call (cells2 := 36) (slots2 := 216) (st0 := [.int 0, .int 0, .int 0, .int 10, .ref (ca 0 0)]) (rest := []) hE rfl (sp1 (q_call_10 l hfl D cs ca 0 0 0 (fun cv hq => Q_pull_s hq (isP_y (p := 0) (by omega)) (isB_y (p := 0) (by omega)) (m0.trans (congrArg nI h12))))) (va_cwS 5 hts gN_refuses_L_call rfl rfl rfl (by decide +kernel) ⟨(Nat.le_of_ble_eq_true rfl), (Nat.le_of_ble_eq_true rfl)⟩) rfl rfl (Nat.le_of_ble_eq_true rfl) ⟨(Nat.le_of_ble_eq_true rfl), (Nat.le_of_ble_eq_true rfl)⟩ dL_refuses_789 (Nat.le_of_ble_eq_true rfl) (Nat.le_of_ble_eq_true rfl) ?_
        refine KX_step (fun H locs ls hl => lv_ldc (v := (-9999003)) hx hb hown (hts (.constant RL 26 (-9999003)) (by decide +kernel)) dL_refuses_792) ?_
        refine KX_if (fun H locs ls hl => lv_icmp_ne (tgt := 801) hx hb dL_refuses_794 (by decide)) (fun q => absurd (by decide) q) (fun _ => ?_)
        refine KX_step (fun H locs ls hl => lv_iconst (v := 1) hx hb dL_refuses_797 (by decide)) ?_
        refine KX_step (fun H locs ls hl => lv_goto (tgt := 802) hx hb dL_refuses_798 (by decide)) ?_
        exact kr _ _ _ _ (Nat.le_of_ble_eq_true rfl) (Nat.le_of_ble_eq_true rfl) dL_refuses_802
    refine KX_if (fun H locs ls hl => lv_if_eq (tgt := 231) hx hb dL_refuses_210 (by decide)) (fun h9 => ?_) (fun h9 => ?_)
    · refine KX_wid (cells2 := 8) (slots2 := 48) (Nat.le_of_ble_eq_true rfl) (Nat.le_of_ble_eq_true rfl) ?_
      exact J2
    · have hM0 : 0 < M := Nat.pos_of_ne_zero (fun q => h9 (congrArg nI q))
      refine KX_step (fun H locs ls hl => lv_aload_n hx hb dL_refuses_213 rfl (lv_at hl 5 rfl)) ?_
      refine KX_step (fun H locs ls hl => lv_iconst (v := 4) hx hb dL_refuses_214 (by decide)) ?_
      refine KX_step (fun H locs ls hl => lv_iconst (v := 0) hx hb dL_refuses_215 (by decide)) ?_
      refine KX_step (fun H locs ls hl => lv_iconst (v := 5) hx hb dL_refuses_216 (by decide)) ?_
      refine KX_step (fun H locs ls hl => lv_iload_n hx hb dL_refuses_217 rfl (lv_at hl 6 rfl)) ?_
      refine KX_step (fun H locs ls hl => lv_bipush (v := 9) hx hb dL_refuses_218 (by decide)) ?_
      refine KX_step (st1 := [.int (nI (n % 9)), .int 5, .int 0, .int 4, .ref (ca 0 0)]) (fun H locs ls hl K => lv_irem hx hb dL_refuses_220 (by decide) (by rw [show ((nI n) - (nI n) / 9 * 9 : Int32) = (nI (n % 9)) from nI_mod (a := n) (b := 9) (by omega) (by omega) (by omega)]; exact K)) ?_
      refine KX_step (st1 := [.int (nI (5 + (n % 9))), .int 0, .int 4, .ref (ca 0 0)]) (fun H locs ls hl K => lv_iadd hx hb dL_refuses_221 (by rw [show (5 + (nI (n % 9)) : Int32) = (nI (5 + (n % 9))) from nI_add (5) (n % 9)]; exact K)) ?_
      refine KX_step (fun H locs ls hl => lv_iconst (v := 0) hx hb dL_refuses_222 (by decide)) ?_
      refine KX_call (cells2 := 8) (slots2 := 48) (st0 := [.int 0, .int (nI (5 + (n % 9))), .int 0, .int 4, .ref (ca 0 0)]) (rest := []) hE rfl (sp1 (q_call_4 l hfl D cs ca 0 (nI (5 + (n % 9))) 0 (F_order_a (k := 0) m0 hM (by omega) (by rw [nI_toInt (by omega)]; omega)))) (va_cwS 5 hts gN_refuses_L_call rfl rfl rfl (by decide +kernel) ⟨(Nat.le_of_ble_eq_true rfl), (Nat.le_of_ble_eq_true rfl)⟩) rfl rfl (Nat.le_of_ble_eq_true rfl) ⟨(Nat.le_of_ble_eq_true rfl), (Nat.le_of_ble_eq_true rfl)⟩ dL_refuses_223 (Nat.le_of_ble_eq_true rfl) (Nat.le_of_ble_eq_true rfl) ?_
      refine KX_step (fun H locs ls hl => lv_ldc (v := (-9999002)) hx hb hown (hts (.constant RL 15 (-9999002)) (by decide +kernel)) dL_refuses_226) ?_
      refine KX_if (fun H locs ls hl => lv_icmp_ne (tgt := 755) hx hb dL_refuses_228 (by decide)) (fun q => absurd (by decide) q) (fun _ => ?_)
      exact J2
  refine KX_if (fun H locs ls hl => lv_if_eq (tgt := 194) hx hb dL_refuses_173 (by decide)) (fun h9 => ?_) (fun h9 => ?_)
  · refine KX_wid (cells2 := 6) (slots2 := 36) (Nat.le_of_ble_eq_true rfl) (Nat.le_of_ble_eq_true rfl) ?_
    exact J1
  · have hN0 : 0 < N := Nat.pos_of_ne_zero (fun q => h9 (congrArg nI q))
    refine KX_step (fun H locs ls hl => lv_aload_n hx hb dL_refuses_176 rfl (lv_at hl 5 rfl)) ?_
    refine KX_step (fun H locs ls hl => lv_iconst (v := 3) hx hb dL_refuses_177 (by decide)) ?_
    refine KX_step (fun H locs ls hl => lv_iconst (v := 0) hx hb dL_refuses_178 (by decide)) ?_
    refine KX_step (fun H locs ls hl => lv_iconst (v := 4) hx hb dL_refuses_179 (by decide)) ?_
    refine KX_step (fun H locs ls hl => lv_iload_n hx hb dL_refuses_180 rfl (lv_at hl 6 rfl)) ?_
    refine KX_step (fun H locs ls hl => lv_bipush (v := 9) hx hb dL_refuses_181 (by decide)) ?_
    refine KX_step (st1 := [.int (nI (n % 9)), .int 4, .int 0, .int 3, .ref (ca 0 0)]) (fun H locs ls hl K => lv_irem hx hb dL_refuses_183 (by decide) (by rw [show ((nI n) - (nI n) / 9 * 9 : Int32) = (nI (n % 9)) from nI_mod (a := n) (b := 9) (by omega) (by omega) (by omega)]; exact K)) ?_
    refine KX_step (st1 := [.int (nI (4 + (n % 9))), .int 0, .int 3, .ref (ca 0 0)]) (fun H locs ls hl K => lv_iadd hx hb dL_refuses_184 (by rw [show (4 + (nI (n % 9)) : Int32) = (nI (4 + (n % 9))) from nI_add (4) (n % 9)]; exact K)) ?_
    refine KX_step (fun H locs ls hl => lv_iconst (v := 0) hx hb dL_refuses_185 (by decide)) ?_
    refine KX_call (cells2 := 6) (slots2 := 36) (st0 := [.int 0, .int (nI (4 + (n % 9))), .int 0, .int 3, .ref (ca 0 0)]) (rest := []) hE rfl (sp1 (q_call_3 l hfl D cs ca 0 (nI (4 + (n % 9))) 0 (F_peg_a (k := 0) n0 hN (by omega) (by rw [nI_toInt (by omega)]; omega)))) (va_cwS 5 hts gN_refuses_L_call rfl rfl rfl (by decide +kernel) ⟨(Nat.le_of_ble_eq_true rfl), (Nat.le_of_ble_eq_true rfl)⟩) rfl rfl (Nat.le_of_ble_eq_true rfl) ⟨(Nat.le_of_ble_eq_true rfl), (Nat.le_of_ble_eq_true rfl)⟩ dL_refuses_186 (Nat.le_of_ble_eq_true rfl) (Nat.le_of_ble_eq_true rfl) ?_
    refine KX_step (fun H locs ls hl => lv_ldc (v := (-9999002)) hx hb hown (hts (.constant RL 15 (-9999002)) (by decide +kernel)) dL_refuses_189) ?_
    refine KX_if (fun H locs ls hl => lv_icmp_ne (tgt := 755) hx hb dL_refuses_191 (by decide)) (fun q => absurd (by decide) q) (fun _ => ?_)
    exact J1
theorem c_refuses (l : Launch) (hfl : l.stackTraces = false) (D : va_G) (cs : Nat → ClassId) (ca : Nat → Nat → Nat) {k : KC} {n : Nat} (hn : n < 100000) : k1 l yL_refuses wsN_refuses RM_refuses 40 240 D cs ca [.ref (ca 0 0), .int (nI n)] 1 k k := by
  intro v hv
  obtain ⟨o, hR⟩ := (⟨_, QR_R hv⟩ : ∃ o, RF o k.1)
  obtain ⟨M, hM, m0, -⟩ := RF_M hR
  obtain ⟨N, hN, n0, -⟩ := RF_N hR
  refine kQ_of (U := CV) (Φ := f_1 k) (wc := w_1 cs ca) (cc := cL_refuses) (maxL := 8) (ret := some .boolean) (by decide) rfl (Nat.le_of_ble_eq_true rfl) (fun p e s m below meth c A hE => ?_) v hv
  have kr : ∀ (lv : List (Nat × Value)) (pc cells slots : Nat), cells ≤ 40 → slots ≤ 240 → decode cL_refuses pc = .ok (.ireturn, 1) → KX p l e RM_refuses s m [Value.ref (ca 0 0), .int (nI n)].toArray below meth c D A 8 _ (f_1 k) (w_1 cs ca) lv [.int 1] pc cells slots := fun lv pc cells slots h1 h2 hd => KX_ret (r := 1) (Φ1 := f_1 k) (w1 := w_1 cs ca) hE rfl rfl (fun u hu => ⟨u, hu, List.Perm.refl _⟩) h1 h2 hd
  rcases Nat.mod_two_eq_zero_or_one n with hp | hp
  · exact refuses_e hfl n0 hN m0 hM hn hp hE kr
  · exact refuses_o hfl n0 hN m0 hM hn hp hE kr
