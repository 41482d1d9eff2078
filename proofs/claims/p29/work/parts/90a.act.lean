/-! p29: what is done in a round. -/
abbrev RM_act : Room := { frames := 9, cells := 4, slots := 24, locals := 220 }
/-- every row that is kept -/
def CI (T : Nat) (k : KC) : Prop := EI T k.1 ∧ (∀ j, j < k.2.1.1 → EI T (k.2.1.2 j)) ∧ ∀ i, i < 2 → k.2.2.1 i = 1 → EI T (k.2.2.2 i)
theorem CI_mono {T T2 : Nat} {k : KC} (h : T ≤ T2) (hc : CI T k) : CI T2 k := ⟨EI_mono h hc.1, fun j hj => EI_mono h (hc.2.1 j hj), fun i hi h1 => EI_mono h (hc.2.2 i hi h1)⟩
theorem CI_psh {T : Nat} {k : KC} {r : KR} (hc : CI T k) (he : EI T r) : CI T (psh k r) := by
  refine ⟨he, fun j hj => ?_, hc.2.2⟩
  have hj : j < min (k.2.1.1 + 1) 14 := hj
  show EI T (if j = 0 then k.1 else k.2.1.2 (j - 1))
  by_cases h0 : j = 0
  · rw [if_pos h0]; exact hc.1
  · rw [if_neg h0]; exact hc.2.1 (j - 1) (by omega)
theorem CI_unc {T : Nat} {k : KC} (h0 : k.2.1.1 ≠ 0) (hc : CI T k) : CI T (unc k) := ⟨hc.2.1 0 (by omega), fun j hj => hc.2.1 (j + 1) (by have hj : j < k.2.1.1 - 1 := hj; omega), hc.2.2⟩
theorem CI_trm {T t : Nat} {k : KC} (hc : CI T k) : CI T (trm t k) := ⟨hc.1, fun j hj => hc.2.1 j (by have hj : j < min k.2.1.1 (14 - t) := hj; omega), hc.2.2⟩
theorem CI_svc {T i : Nat} {k : KC} (hc : CI T k) : CI T (svc k i) := by
  refine ⟨hc.1, hc.2.1, fun j hj h1 => ?_⟩
  show EI T (va_up k.2.2.2 i k.1 j)
  have h1 : va_up k.2.2.1 i 1 j = 1 := h1
  by_cases h : j = i
  · subst h; rw [va_eq]; exact hc.1
  · rw [va_ne h]; rw [va_ne h] at h1; exact hc.2.2 j hj h1
theorem CI_rsc {T i : Nat} {k : KC} (hi : i < 2) (h1 : k.2.2.1 i = 1) (hc : CI T k) : CI T (rsc k i) := ⟨hc.2.2 i hi h1, fun j hj => absurd hj (Nat.not_lt_zero j), hc.2.2⟩
set_option maxHeartbeats 4000000 in
set_option maxRecDepth 100000 in
theorem act_80 {p : Program} {l : Launch} {e : Env} {s : State} {m : MethodId} {args : Array Value} {below : List Frame} {meth : Method} {c : Code} {D : va_G} {cs : Nat → ClassId} {A : Nat → Prop} {Q : State → Prop} {ca : Nat → Nat → Nat} (hfl : l.stackTraces = false) {k k2 : KC} {n N : Nat} {r : Int32} (hn : n < 2 ^ 31) (hN : N ≤ 30) (hF : ∀ cv, QR cv k → QR (k_X5_put cv (nI (n / 16 % 6)) (nI (n / 16 / 6 % 24)) (nI (1 + n / 16 / 144 % 6))).2.2 k2 ∧ aX (k_X5_put cv (nI (n / 16 % 6)) (nI (n / 16 / 6 % 24)) (nI (1 + n / 16 / 144 % 6))) = r) (hE : kE p s m args meth c D cs yL_act wsN_act cL_act 4 (some .int) A) (kr : ∀ (lv : List (Nat × Value)) (pc cells slots : Nat), cells ≤ 4 → slots ≤ 24 → decode cL_act pc = .ok (.ireturn, 1) → KX p l e RM_act s m args below meth c D A 4 Q (f_1 k2) (w_1 cs ca) lv [.int r] pc cells slots) : KX p l e RM_act s m args below meth c D A 4 Q (f_1 k) (w_1 cs ca) [(3, .int (nI N)), (2, .int (nI (n / 16))), (0, .ref (ca 0 0)), (1, .int (nI n))] [] 80 1 6 := by
  obtain ⟨hx, hb, hr, hlocks, hml, hown, hts, hK, hA, hG, hnm⟩ := id hE
  have hown : s.vm.findClass RL = some m.cls := hown
  refine KX_step (fun H locs ls hl => lv_aload_n hx hb dL_act_80 rfl (lv_at hl 2 rfl)) ?_
  refine KX_step (fun H locs ls hl => lv_bipush (v := 9) hx hb dL_act_81 (by decide)) ?_
  refine KX_step (fun H locs ls hl => lv_iload_n hx hb dL_act_83 rfl (lv_at hl 1 rfl)) ?_
  refine KX_step (fun H locs ls hl => lv_bipush (v := 6) hx hb dL_act_84 (by decide)) ?_
  refine KX_step (st1 := [.int (nI ((n / 16) % 6)), .int 9, .ref (ca 0 0)]) (fun H locs ls hl K => lv_irem hx hb dL_act_86 (by decide) (by rw [show ((nI (n / 16)) - (nI (n / 16)) / 6 * 6 : Int32) = (nI ((n / 16) % 6)) from nI_mod (a := n / 16) (b := 6) (by omega) (by omega) (by omega)]; exact K)) ?_
  refine KX_step (fun H locs ls hl => lv_iload_n hx hb dL_act_87 rfl (lv_at hl 1 rfl)) ?_
  refine KX_step (fun H locs ls hl => lv_bipush (v := 6) hx hb dL_act_88 (by decide)) ?_
  refine KX_step (st1 := [.int (nI ((n / 16) / 6)), .int (nI ((n / 16) % 6)), .int 9, .ref (ca 0 0)]) (fun H locs ls hl K => lv_idiv hx hb dL_act_90 (by decide) (by rw [show ((nI (n / 16)) / 6 : Int32) = (nI ((n / 16) / 6)) from nI_div (a := n / 16) (b := 6) (by omega) (by omega) (by omega)]; exact K)) ?_
  refine KX_step (fun H locs ls hl => lv_bipush (v := 24) hx hb dL_act_91 (by decide)) ?_
  refine KX_step (st1 := [.int (nI (((n / 16) / 6) % 24)), .int (nI ((n / 16) % 6)), .int 9, .ref (ca 0 0)]) (fun H locs ls hl K => lv_irem hx hb dL_act_93 (by decide) (by rw [show ((nI ((n / 16) / 6)) - (nI ((n / 16) / 6)) / 24 * 24 : Int32) = (nI (((n / 16) / 6) % 24)) from nI_mod (a := (n / 16) / 6) (b := 24) (by omega) (by omega) (by omega)]; exact K)) ?_
  refine KX_step (fun H locs ls hl => lv_iconst (v := 1) hx hb dL_act_94 (by decide)) ?_
  refine KX_step (fun H locs ls hl => lv_iload_n hx hb dL_act_95 rfl (lv_at hl 1 rfl)) ?_
  refine KX_step (fun H locs ls hl => lv_sipush (v := 144) hx hb dL_act_96 (by decide)) ?_
  refine KX_step (st1 := [.int (nI ((n / 16) / 144)), .int 1, .int (nI (((n / 16) / 6) % 24)), .int (nI ((n / 16) % 6)), .int 9, .ref (ca 0 0)]) (fun H locs ls hl K => lv_idiv hx hb dL_act_99 (by decide) (by rw [show ((nI (n / 16)) / 144 : Int32) = (nI ((n / 16) / 144)) from nI_div (a := n / 16) (b := 144) (by omega) (by omega) (by omega)]; exact K)) ?_
  refine KX_step (fun H locs ls hl => lv_bipush (v := 6) hx hb dL_act_100 (by decide)) ?_
  refine KX_step (st1 := [.int (nI (((n / 16) / 144) % 6)), .int 1, .int (nI (((n / 16) / 6) % 24)), .int (nI ((n / 16) % 6)), .int 9, .ref (ca 0 0)]) (fun H locs ls hl K => lv_irem hx hb dL_act_102 (by decide) (by rw [show ((nI ((n / 16) / 144)) - (nI ((n / 16) / 144)) / 6 * 6 : Int32) = (nI (((n / 16) / 144) % 6)) from nI_mod (a := (n / 16) / 144) (b := 6) (by omega) (by omega) (by omega)]; exact K)) ?_
  refine KX_step (st1 := [.int (nI (1 + (((n / 16) / 144) % 6))), .int (nI (((n / 16) / 6) % 24)), .int (nI ((n / 16) % 6)), .int 9, .ref (ca 0 0)]) (fun H locs ls hl K => lv_iadd hx hb dL_act_103 (by rw [show (1 + (nI (((n / 16) / 144) % 6)) : Int32) = (nI (1 + (((n / 16) / 144) % 6))) from nI_add (1) (((n / 16) / 144) % 6)]; exact K)) ?_
  refine KX_call (cells2 := 2) (slots2 := 12) (st0 := [.int (nI (1 + (((n / 16) / 144) % 6))), .int (nI (((n / 16) / 6) % 24)), .int (nI ((n / 16) % 6)), .int 9, .ref (ca 0 0)]) (rest := []) hE rfl (sp1 (q_call_9 l hfl D cs ca (nI ((n / 16) % 6)) (nI (((n / 16) / 6) % 24)) (nI (1 + (((n / 16) / 144) % 6))) hF)) (va_cwS 5 hts gN_act_L_call rfl rfl rfl (by decide +kernel) ⟨(Nat.le_of_ble_eq_true rfl), (Nat.le_of_ble_eq_true rfl)⟩) rfl rfl (Nat.le_of_ble_eq_true rfl) ⟨(Nat.le_of_ble_eq_true rfl), (Nat.le_of_ble_eq_true rfl)⟩ dL_act_104 (Nat.le_of_ble_eq_true rfl) (Nat.le_of_ble_eq_true rfl) ?_
  exact kr _ _ _ _ (Nat.le_of_ble_eq_true rfl) (Nat.le_of_ble_eq_true rfl) dL_act_107
set_option maxHeartbeats 4000000 in
set_option maxRecDepth 100000 in
theorem act_108a {p : Program} {l : Launch} {e : Env} {s : State} {m : MethodId} {args : Array Value} {below : List Frame} {meth : Method} {c : Code} {D : va_G} {cs : Nat → ClassId} {A : Nat → Prop} {Q : State → Prop} {ca : Nat → Nat → Nat} (hfl : l.stackTraces = false) {k k2 : KC} {n N : Nat} {r : Int32} (hn : n < 2 ^ 31) (hN : N ≤ 30) {pp bb : Nat} (hP : ∀ cv, QR cv k → QR (k_X5_pegOf cv (nI (n / 16 % N)) 0).2.2 k ∧ aX (k_X5_pegOf cv (nI (n / 16 % N)) 0) = (nI pp)) (hB : ∀ cv, QR cv k → QR (k_X5_pegOf cv (nI (n / 16 % N)) 1).2.2 k ∧ aX (k_X5_pegOf cv (nI (n / 16 % N)) 1) = (nI bb))(hF : ∀ cv, QR cv k → QR (k_X5_pull cv (nI pp) (nI bb)).2.2 k2 ∧ aX (k_X5_pull cv (nI pp) (nI bb)) = r) (hN0 : 0 < N) (h144 : ¬ n / 16 / 144 % 3 = 0) (hE : kE p s m args meth c D cs yL_act wsN_act cL_act 4 (some .int) A) (kr : ∀ (lv : List (Nat × Value)) (pc cells slots : Nat), cells ≤ 4 → slots ≤ 24 → decode cL_act pc = .ok (.ireturn, 1) → KX p l e RM_act s m args below meth c D A 4 Q (f_1 k2) (w_1 cs ca) lv [.int r] pc cells slots) : KX p l e RM_act s m args below meth c D A 4 Q (f_1 k) (w_1 cs ca) [(3, .int (nI N)), (2, .int (nI (n / 16))), (0, .ref (ca 0 0)), (1, .int (nI n))] [] 108 1 6 := by
  obtain ⟨hx, hb, hr, hlocks, hml, hown, hts, hK, hA, hG, hnm⟩ := id hE
  have hown : s.vm.findClass RL = some m.cls := hown
  refine KX_step (fun H locs ls hl => lv_iload_n hx hb dL_act_108 rfl (lv_at hl 0 rfl)) ?_
  refine KX_if (fun H locs ls hl => lv_if_le (tgt := 152) hx hb dL_act_109 (by decide)) (fun q => absurd q (nI_nle (by omega) (by omega))) (fun _ => ?_)
  refine KX_step (fun H locs ls hl => lv_iload_n hx hb dL_act_112 rfl (lv_at hl 1 rfl)) ?_
  refine KX_step (fun H locs ls hl => lv_sipush (v := 144) hx hb dL_act_113 (by decide)) ?_
  refine KX_step (st1 := [.int (nI ((n / 16) / 144))]) (fun H locs ls hl K => lv_idiv hx hb dL_act_116 (by decide) (by rw [show ((nI (n / 16)) / 144 : Int32) = (nI ((n / 16) / 144)) from nI_div (a := n / 16) (b := 144) (by omega) (by omega) (by omega)]; exact K)) ?_
  refine KX_step (fun H locs ls hl => lv_iconst (v := 3) hx hb dL_act_117 (by decide)) ?_
  refine KX_step (st1 := [.int (nI (((n / 16) / 144) % 3))]) (fun H locs ls hl K => lv_irem hx hb dL_act_118 (by decide) (by rw [show ((nI ((n / 16) / 144)) - (nI ((n / 16) / 144)) / 3 * 3 : Int32) = (nI (((n / 16) / 144) % 3)) from nI_mod (a := (n / 16) / 144) (b := 3) (by omega) (by omega) (by omega)]; exact K)) ?_
  refine KX_if (fun H locs ls hl => lv_if_le (tgt := 152) hx hb dL_act_119 (by decide)) (fun q => absurd q (nI_nle (by omega) (by omega))) (fun _ => ?_)
  refine KX_step (fun H locs ls hl => lv_aload_n hx hb dL_act_122 rfl (lv_at hl 2 rfl)) ?_
  refine KX_step (fun H locs ls hl => lv_bipush (v := 10) hx hb dL_act_123 (by decide)) ?_
  refine KX_step (fun H locs ls hl => lv_aload_n hx hb dL_act_125 rfl (lv_at hl 2 rfl)) ?_
  refine KX_step (fun H locs ls hl => lv_iconst (v := 3) hx hb dL_act_126 (by decide)) ?_
  refine KX_step (fun H locs ls hl => lv_iload_n hx hb dL_act_127 rfl (lv_at hl 1 rfl)) ?_
  refine KX_step (fun H locs ls hl => lv_iload_n hx hb dL_act_128 rfl (lv_at hl 0 rfl)) ?_
  refine KX_step (st1 := [.int (nI ((n / 16) % N)), .int 3, .ref (ca 0 0), .int 10, .ref (ca 0 0)]) (fun H locs ls hl K => lv_irem hx hb dL_act_129 (nI_ne0 (by omega) (by omega)) (by rw [show ((nI (n / 16)) - (nI (n / 16)) / (nI N) * (nI N) : Int32) = (nI ((n / 16) % N)) from nI_mod (a := n / 16) (b := N) (by omega) (by omega) (by omega)]; exact K)) ?_
  refine KX_step (fun H locs ls hl => lv_iconst (v := 0) hx hb dL_act_130 (by decide)) ?_
  refine KX_step (fun H locs ls hl => lv_iconst (v := 0) hx hb dL_act_131 (by decide)) ?_
  refine KX_call (cells2 := 2) (slots2 := 12) (st0 := [.int 0, .int 0, .int (nI ((n / 16) % N)), .int 3, .ref (ca 0 0), .int 10, .ref (ca 0 0)]) (rest := [.int 10, .ref (ca 0 0)]) hE rfl (sp1 (q_call_3 l hfl D cs ca (nI ((n / 16) % N)) 0 0 hP)) (va_cwS 5 hts gN_act_L_call rfl rfl rfl (by decide +kernel) ⟨(Nat.le_of_ble_eq_true rfl), (Nat.le_of_ble_eq_true rfl)⟩) rfl rfl (Nat.le_of_ble_eq_true rfl) ⟨(Nat.le_of_ble_eq_true rfl), (Nat.le_of_ble_eq_true rfl)⟩ dL_act_132 (Nat.le_of_ble_eq_true rfl) (Nat.le_of_ble_eq_true rfl) ?_
  refine KX_step (fun H locs ls hl => lv_aload_n hx hb dL_act_135 rfl (lv_at hl 2 rfl)) ?_
  refine KX_step (fun H locs ls hl => lv_iconst (v := 3) hx hb dL_act_136 (by decide)) ?_
  refine KX_step (fun H locs ls hl => lv_iload_n hx hb dL_act_137 rfl (lv_at hl 1 rfl)) ?_
  refine KX_step (fun H locs ls hl => lv_iload_n hx hb dL_act_138 rfl (lv_at hl 0 rfl)) ?_
  refine KX_step (st1 := [.int (nI ((n / 16) % N)), .int 3, .ref (ca 0 0), .int (nI pp), .int 10, .ref (ca 0 0)]) (fun H locs ls hl K => lv_irem hx hb dL_act_139 (nI_ne0 (by omega) (by omega)) (by rw [show ((nI (n / 16)) - (nI (n / 16)) / (nI N) * (nI N) : Int32) = (nI ((n / 16) % N)) from nI_mod (a := n / 16) (b := N) (by omega) (by omega) (by omega)]; exact K)) ?_
  refine KX_step (fun H locs ls hl => lv_iconst (v := 1) hx hb dL_act_140 (by decide)) ?_
  refine KX_step (fun H locs ls hl => lv_iconst (v := 0) hx hb dL_act_141 (by decide)) ?_
  refine KX_call (cells2 := 3) (slots2 := 18) (st0 := [.int 0, .int 1, .int (nI ((n / 16) % N)), .int 3, .ref (ca 0 0), .int (nI pp), .int 10, .ref (ca 0 0)]) (rest := [.int (nI pp), .int 10, .ref (ca 0 0)]) hE rfl (sp1 (q_call_3 l hfl D cs ca (nI ((n / 16) % N)) 1 0 hB)) (va_cwS 5 hts gN_act_L_call rfl rfl rfl (by decide +kernel) ⟨(Nat.le_of_ble_eq_true rfl), (Nat.le_of_ble_eq_true rfl)⟩) rfl rfl (Nat.le_of_ble_eq_true rfl) ⟨(Nat.le_of_ble_eq_true rfl), (Nat.le_of_ble_eq_true rfl)⟩ dL_act_142 (Nat.le_of_ble_eq_true rfl) (Nat.le_of_ble_eq_true rfl) ?_
  refine KX_step (fun H locs ls hl => lv_iconst (v := 0) hx hb dL_act_145 (by decide)) ?_
  refine KX_call (cells2 := 4) (slots2 := 24) (st0 := [.int 0, .int (nI bb), .int (nI pp), .int 10, .ref (ca 0 0)]) (rest := []) hE rfl (sp1 (q_call_10 l hfl D cs ca (nI pp) (nI bb) 0 hF)) (va_cwS 5 hts gN_act_L_call rfl rfl rfl (by decide +kernel) ⟨(Nat.le_of_ble_eq_true rfl), (Nat.le_of_ble_eq_true rfl)⟩) rfl rfl (Nat.le_of_ble_eq_true rfl) ⟨(Nat.le_of_ble_eq_true rfl), (Nat.le_of_ble_eq_true rfl)⟩ dL_act_146 (Nat.le_of_ble_eq_true rfl) (Nat.le_of_ble_eq_true rfl) ?_
  refine KX_step (fun H locs ls hl => lv_goto (tgt := 170) hx hb dL_act_149 (by decide)) ?_
  exact kr _ _ _ _ (Nat.le_of_ble_eq_true rfl) (Nat.le_of_ble_eq_true rfl) dL_act_170
set_option maxHeartbeats 4000000 in
set_option maxRecDepth 100000 in
theorem act_108b {p : Program} {l : Launch} {e : Env} {s : State} {m : MethodId} {args : Array Value} {below : List Frame} {meth : Method} {c : Code} {D : va_G} {cs : Nat → ClassId} {A : Nat → Prop} {Q : State → Prop} {ca : Nat → Nat → Nat} (hfl : l.stackTraces = false) {k k2 : KC} {n N : Nat} {r : Int32} (hn : n < 2 ^ 31) (hN : N ≤ 30) (hF : ∀ cv, QR cv k → QR (k_X5_pull cv (nI (n / 16 % 6)) (nI (n / 16 / 6 % 24))).2.2 k2 ∧ aX (k_X5_pull cv (nI (n / 16 % 6)) (nI (n / 16 / 6 % 24))) = r) (hN0 : N = 0) (hE : kE p s m args meth c D cs yL_act wsN_act cL_act 4 (some .int) A) (kr : ∀ (lv : List (Nat × Value)) (pc cells slots : Nat), cells ≤ 4 → slots ≤ 24 → decode cL_act pc = .ok (.ireturn, 1) → KX p l e RM_act s m args below meth c D A 4 Q (f_1 k2) (w_1 cs ca) lv [.int r] pc cells slots) : KX p l e RM_act s m args below meth c D A 4 Q (f_1 k) (w_1 cs ca) [(3, .int (nI N)), (2, .int (nI (n / 16))), (0, .ref (ca 0 0)), (1, .int (nI n))] [] 108 1 6 := by
  obtain ⟨hx, hb, hr, hlocks, hml, hown, hts, hK, hA, hG, hnm⟩ := id hE
  have hown : s.vm.findClass RL = some m.cls := hown
  refine KX_step (fun H locs ls hl => lv_iload_n hx hb dL_act_108 rfl (lv_at hl 0 rfl)) ?_
  refine KX_if (fun H locs ls hl => lv_if_le (tgt := 152) hx hb dL_act_109 (by decide)) (fun _ => ?_) (fun q => absurd (by rw [hN0]; decide) q)
  refine KX_step (fun H locs ls hl => lv_aload_n hx hb dL_act_152 rfl (lv_at hl 2 rfl)) ?_
  refine KX_step (fun H locs ls hl => lv_bipush (v := 10) hx hb dL_act_153 (by decide)) ?_
  refine KX_step (fun H locs ls hl => lv_iload_n hx hb dL_act_155 rfl (lv_at hl 1 rfl)) ?_
  refine KX_step (fun H locs ls hl => lv_bipush (v := 6) hx hb dL_act_156 (by decide)) ?_
  refine KX_step (st1 := [.int (nI ((n / 16) % 6)), .int 10, .ref (ca 0 0)]) (fun H locs ls hl K => lv_irem hx hb dL_act_158 (by decide) (by rw [show ((nI (n / 16)) - (nI (n / 16)) / 6 * 6 : Int32) = (nI ((n / 16) % 6)) from nI_mod (a := n / 16) (b := 6) (by omega) (by omega) (by omega)]; exact K)) ?_
  refine KX_step (fun H locs ls hl => lv_iload_n hx hb dL_act_159 rfl (lv_at hl 1 rfl)) ?_
  refine KX_step (fun H locs ls hl => lv_bipush (v := 6) hx hb dL_act_160 (by decide)) ?_
  refine KX_step (st1 := [.int (nI ((n / 16) / 6)), .int (nI ((n / 16) % 6)), .int 10, .ref (ca 0 0)]) (fun H locs ls hl K => lv_idiv hx hb dL_act_162 (by decide) (by rw [show ((nI (n / 16)) / 6 : Int32) = (nI ((n / 16) / 6)) from nI_div (a := n / 16) (b := 6) (by omega) (by omega) (by omega)]; exact K)) ?_
  refine KX_step (fun H locs ls hl => lv_bipush (v := 24) hx hb dL_act_163 (by decide)) ?_
  refine KX_step (st1 := [.int (nI (((n / 16) / 6) % 24)), .int (nI ((n / 16) % 6)), .int 10, .ref (ca 0 0)]) (fun H locs ls hl K => lv_irem hx hb dL_act_165 (by decide) (by rw [show ((nI ((n / 16) / 6)) - (nI ((n / 16) / 6)) / 24 * 24 : Int32) = (nI (((n / 16) / 6) % 24)) from nI_mod (a := (n / 16) / 6) (b := 24) (by omega) (by omega) (by omega)]; exact K)) ?_
  refine KX_step (fun H locs ls hl => lv_iconst (v := 0) hx hb dL_act_166 (by decide)) ?_
  refine KX_call (cells2 := 2) (slots2 := 12) (st0 := [.int 0, .int (nI (((n / 16) / 6) % 24)), .int (nI ((n / 16) % 6)), .int 10, .ref (ca 0 0)]) (rest := []) hE rfl (sp1 (q_call_10 l hfl D cs ca (nI ((n / 16) % 6)) (nI (((n / 16) / 6) % 24)) 0 hF)) (va_cwS 5 hts gN_act_L_call rfl rfl rfl (by decide +kernel) ⟨(Nat.le_of_ble_eq_true rfl), (Nat.le_of_ble_eq_true rfl)⟩) rfl rfl (Nat.le_of_ble_eq_true rfl) ⟨(Nat.le_of_ble_eq_true rfl), (Nat.le_of_ble_eq_true rfl)⟩ dL_act_167 (Nat.le_of_ble_eq_true rfl) (Nat.le_of_ble_eq_true rfl) ?_
  exact kr _ _ _ _ (Nat.le_of_ble_eq_true rfl) (Nat.le_of_ble_eq_true rfl) dL_act_170
set_option maxHeartbeats 4000000 in
set_option maxRecDepth 100000 in
theorem act_108c {p : Program} {l : Launch} {e : Env} {s : State} {m : MethodId} {args : Array Value} {below : List Frame} {meth : Method} {c : Code} {D : va_G} {cs : Nat → ClassId} {A : Nat → Prop} {Q : State → Prop} {ca : Nat → Nat → Nat} (hfl : l.stackTraces = false) {k k2 : KC} {n N : Nat} {r : Int32} (hn : n < 2 ^ 31) (hN : N ≤ 30) (hF : ∀ cv, QR cv k → QR (k_X5_pull cv (nI (n / 16 % 6)) (nI (n / 16 / 6 % 24))).2.2 k2 ∧ aX (k_X5_pull cv (nI (n / 16 % 6)) (nI (n / 16 / 6 % 24))) = r) (hN0 : 0 < N) (h144 : n / 16 / 144 % 3 = 0) (hE : kE p s m args meth c D cs yL_act wsN_act cL_act 4 (some .int) A) (kr : ∀ (lv : List (Nat × Value)) (pc cells slots : Nat), cells ≤ 4 → slots ≤ 24 → decode cL_act pc = .ok (.ireturn, 1) → KX p l e RM_act s m args below meth c D A 4 Q (f_1 k2) (w_1 cs ca) lv [.int r] pc cells slots) : KX p l e RM_act s m args below meth c D A 4 Q (f_1 k) (w_1 cs ca) [(3, .int (nI N)), (2, .int (nI (n / 16))), (0, .ref (ca 0 0)), (1, .int (nI n))] [] 108 1 6 := by
  obtain ⟨hx, hb, hr, hlocks, hml, hown, hts, hK, hA, hG, hnm⟩ := id hE
  have hown : s.vm.findClass RL = some m.cls := hown
  refine KX_step (fun H locs ls hl => lv_iload_n hx hb dL_act_108 rfl (lv_at hl 0 rfl)) ?_
  refine KX_if (fun H locs ls hl => lv_if_le (tgt := 152) hx hb dL_act_109 (by decide)) (fun q => absurd q (nI_nle (by omega) (by omega))) (fun _ => ?_)
  refine KX_step (fun H locs ls hl => lv_iload_n hx hb dL_act_112 rfl (lv_at hl 1 rfl)) ?_
  refine KX_step (fun H locs ls hl => lv_sipush (v := 144) hx hb dL_act_113 (by decide)) ?_
  refine KX_step (st1 := [.int (nI ((n / 16) / 144))]) (fun H locs ls hl K => lv_idiv hx hb dL_act_116 (by decide) (by rw [show ((nI (n / 16)) / 144 : Int32) = (nI ((n / 16) / 144)) from nI_div (a := n / 16) (b := 144) (by omega) (by omega) (by omega)]; exact K)) ?_
  refine KX_step (fun H locs ls hl => lv_iconst (v := 3) hx hb dL_act_117 (by decide)) ?_
  refine KX_step (st1 := [.int (nI (((n / 16) / 144) % 3))]) (fun H locs ls hl K => lv_irem hx hb dL_act_118 (by decide) (by rw [show ((nI ((n / 16) / 144)) - (nI ((n / 16) / 144)) / 3 * 3 : Int32) = (nI (((n / 16) / 144) % 3)) from nI_mod (a := (n / 16) / 144) (b := 3) (by omega) (by omega) (by omega)]; exact K)) ?_
  refine KX_if (fun H locs ls hl => lv_if_le (tgt := 152) hx hb dL_act_119 (by decide)) (fun _ => ?_) (fun q => absurd (by rw [h144]; decide) q)
  refine KX_step (fun H locs ls hl => lv_aload_n hx hb dL_act_152 rfl (lv_at hl 2 rfl)) ?_
  refine KX_step (fun H locs ls hl => lv_bipush (v := 10) hx hb dL_act_153 (by decide)) ?_
  refine KX_step (fun H locs ls hl => lv_iload_n hx hb dL_act_155 rfl (lv_at hl 1 rfl)) ?_
  refine KX_step (fun H locs ls hl => lv_bipush (v := 6) hx hb dL_act_156 (by decide)) ?_
  refine KX_step (st1 := [.int (nI ((n / 16) % 6)), .int 10, .ref (ca 0 0)]) (fun H locs ls hl K => lv_irem hx hb dL_act_158 (by decide) (by rw [show ((nI (n / 16)) - (nI (n / 16)) / 6 * 6 : Int32) = (nI ((n / 16) % 6)) from nI_mod (a := n / 16) (b := 6) (by omega) (by omega) (by omega)]; exact K)) ?_
  refine KX_step (fun H locs ls hl => lv_iload_n hx hb dL_act_159 rfl (lv_at hl 1 rfl)) ?_
  refine KX_step (fun H locs ls hl => lv_bipush (v := 6) hx hb dL_act_160 (by decide)) ?_
  refine KX_step (st1 := [.int (nI ((n / 16) / 6)), .int (nI ((n / 16) % 6)), .int 10, .ref (ca 0 0)]) (fun H locs ls hl K => lv_idiv hx hb dL_act_162 (by decide) (by rw [show ((nI (n / 16)) / 6 : Int32) = (nI ((n / 16) / 6)) from nI_div (a := n / 16) (b := 6) (by omega) (by omega) (by omega)]; exact K)) ?_
  refine KX_step (fun H locs ls hl => lv_bipush (v := 24) hx hb dL_act_163 (by decide)) ?_
  refine KX_step (st1 := [.int (nI (((n / 16) / 6) % 24)), .int (nI ((n / 16) % 6)), .int 10, .ref (ca 0 0)]) (fun H locs ls hl K => lv_irem hx hb dL_act_165 (by decide) (by rw [show ((nI ((n / 16) / 6)) - (nI ((n / 16) / 6)) / 24 * 24 : Int32) = (nI (((n / 16) / 6) % 24)) from nI_mod (a := (n / 16) / 6) (b := 24) (by omega) (by omega) (by omega)]; exact K)) ?_
  refine KX_step (fun H locs ls hl => lv_iconst (v := 0) hx hb dL_act_166 (by decide)) ?_
  refine KX_call (cells2 := 2) (slots2 := 12) (st0 := [.int 0, .int (nI (((n / 16) / 6) % 24)), .int (nI ((n / 16) % 6)), .int 10, .ref (ca 0 0)]) (rest := []) hE rfl (sp1 (q_call_10 l hfl D cs ca (nI ((n / 16) % 6)) (nI (((n / 16) / 6) % 24)) 0 hF)) (va_cwS 5 hts gN_act_L_call rfl rfl rfl (by decide +kernel) ⟨(Nat.le_of_ble_eq_true rfl), (Nat.le_of_ble_eq_true rfl)⟩) rfl rfl (Nat.le_of_ble_eq_true rfl) ⟨(Nat.le_of_ble_eq_true rfl), (Nat.le_of_ble_eq_true rfl)⟩ dL_act_167 (Nat.le_of_ble_eq_true rfl) (Nat.le_of_ble_eq_true rfl) ?_
  exact kr _ _ _ _ (Nat.le_of_ble_eq_true rfl) (Nat.le_of_ble_eq_true rfl) dL_act_170
set_option maxHeartbeats 4000000 in
set_option maxRecDepth 100000 in
theorem act_171 {p : Program} {l : Launch} {e : Env} {s : State} {m : MethodId} {args : Array Value} {below : List Frame} {meth : Method} {c : Code} {D : va_G} {cs : Nat → ClassId} {A : Nat → Prop} {Q : State → Prop} {ca : Nat → Nat → Nat} (hfl : l.stackTraces = false) {k k2 : KC} {n N : Nat} {r : Int32} (hn : n < 2 ^ 31) (hN : N ≤ 30) (hF : ∀ cv, QR cv k → QR (k_X5_cancel cv (nI (n / 16 % 12))).2.2 k2 ∧ aX (k_X5_cancel cv (nI (n / 16 % 12))) = r) (hE : kE p s m args meth c D cs yL_act wsN_act cL_act 4 (some .int) A) (kr : ∀ (lv : List (Nat × Value)) (pc cells slots : Nat), cells ≤ 4 → slots ≤ 24 → decode cL_act pc = .ok (.ireturn, 1) → KX p l e RM_act s m args below meth c D A 4 Q (f_1 k2) (w_1 cs ca) lv [.int r] pc cells slots) : KX p l e RM_act s m args below meth c D A 4 Q (f_1 k) (w_1 cs ca) [(3, .int (nI N)), (2, .int (nI (n / 16))), (0, .ref (ca 0 0)), (1, .int (nI n))] [] 171 1 6 := by
  obtain ⟨hx, hb, hr, hlocks, hml, hown, hts, hK, hA, hG, hnm⟩ := id hE
  have hown : s.vm.findClass RL = some m.cls := hown
  refine KX_step (fun H locs ls hl => lv_aload_n hx hb dL_act_171 rfl (lv_at hl 2 rfl)) ?_
  refine KX_step (fun H locs ls hl => lv_bipush (v := 11) hx hb dL_act_172 (by decide)) ?_
  refine KX_step (fun H locs ls hl => lv_iload_n hx hb dL_act_174 rfl (lv_at hl 1 rfl)) ?_
  refine KX_step (fun H locs ls hl => lv_bipush (v := 12) hx hb dL_act_175 (by decide)) ?_
  refine KX_step (st1 := [.int (nI ((n / 16) % 12)), .int 11, .ref (ca 0 0)]) (fun H locs ls hl K => lv_irem hx hb dL_act_177 (by decide) (by rw [show ((nI (n / 16)) - (nI (n / 16)) / 12 * 12 : Int32) = (nI ((n / 16) % 12)) from nI_mod (a := n / 16) (b := 12) (by omega) (by omega) (by omega)]; exact K)) ?_
  refine KX_step (fun H locs ls hl => lv_iconst (v := 0) hx hb dL_act_178 (by decide)) ?_
  refine KX_step (fun H locs ls hl => lv_iconst (v := 0) hx hb dL_act_179 (by decide)) ?_
  refine KX_call (cells2 := 2) (slots2 := 12) (st0 := [.int 0, .int 0, .int (nI ((n / 16) % 12)), .int 11, .ref (ca 0 0)]) (rest := []) hE rfl (sp1 (q_call_11 l hfl D cs ca (nI ((n / 16) % 12)) 0 0 hF)) (va_cwS 5 hts gN_act_L_call rfl rfl rfl (by decide +kernel) ⟨(Nat.le_of_ble_eq_true rfl), (Nat.le_of_ble_eq_true rfl)⟩) rfl rfl (Nat.le_of_ble_eq_true rfl) ⟨(Nat.le_of_ble_eq_true rfl), (Nat.le_of_ble_eq_true rfl)⟩ dL_act_180 (Nat.le_of_ble_eq_true rfl) (Nat.le_of_ble_eq_true rfl) ?_
  exact kr _ _ _ _ (Nat.le_of_ble_eq_true rfl) (Nat.le_of_ble_eq_true rfl) dL_act_183
set_option maxHeartbeats 4000000 in
set_option maxRecDepth 100000 in
theorem act_184 {p : Program} {l : Launch} {e : Env} {s : State} {m : MethodId} {args : Array Value} {below : List Frame} {meth : Method} {c : Code} {D : va_G} {cs : Nat → ClassId} {A : Nat → Prop} {Q : State → Prop} {ca : Nat → Nat → Nat} (hfl : l.stackTraces = false) {k k2 : KC} {n N : Nat} {r : Int32} (hn : n < 2 ^ 31) (hN : N ≤ 30) (hF : ∀ cv, QR cv k → QR (k_X5_set cv 0 (nI (n / 16 % 4))).2.2 k2 ∧ aX (k_X5_set cv 0 (nI (n / 16 % 4))) = r) (hE : kE p s m args meth c D cs yL_act wsN_act cL_act 4 (some .int) A) (kr : ∀ (lv : List (Nat × Value)) (pc cells slots : Nat), cells ≤ 4 → slots ≤ 24 → decode cL_act pc = .ok (.ireturn, 1) → KX p l e RM_act s m args below meth c D A 4 Q (f_1 k2) (w_1 cs ca) lv [.int r] pc cells slots) : KX p l e RM_act s m args below meth c D A 4 Q (f_1 k) (w_1 cs ca) [(3, .int (nI N)), (2, .int (nI (n / 16))), (0, .ref (ca 0 0)), (1, .int (nI n))] [] 184 1 6 := by
  obtain ⟨hx, hb, hr, hlocks, hml, hown, hts, hK, hA, hG, hnm⟩ := id hE
  have hown : s.vm.findClass RL = some m.cls := hown
  refine KX_step (fun H locs ls hl => lv_aload_n hx hb dL_act_184 rfl (lv_at hl 2 rfl)) ?_
  refine KX_step (fun H locs ls hl => lv_bipush (v := 13) hx hb dL_act_185 (by decide)) ?_
  refine KX_step (fun H locs ls hl => lv_iconst (v := 0) hx hb dL_act_187 (by decide)) ?_
  refine KX_step (fun H locs ls hl => lv_iload_n hx hb dL_act_188 rfl (lv_at hl 1 rfl)) ?_
  refine KX_step (fun H locs ls hl => lv_iconst (v := 4) hx hb dL_act_189 (by decide)) ?_
  refine KX_step (st1 := [.int (nI ((n / 16) % 4)), .int 0, .int 13, .ref (ca 0 0)]) (fun H locs ls hl K => lv_irem hx hb dL_act_190 (by decide) (by rw [show ((nI (n / 16)) - (nI (n / 16)) / 4 * 4 : Int32) = (nI ((n / 16) % 4)) from nI_mod (a := n / 16) (b := 4) (by omega) (by omega) (by omega)]; exact K)) ?_
  refine KX_step (fun H locs ls hl => lv_iconst (v := 0) hx hb dL_act_191 (by decide)) ?_
  refine KX_call (cells2 := 2) (slots2 := 12) (st0 := [.int 0, .int (nI ((n / 16) % 4)), .int 0, .int 13, .ref (ca 0 0)]) (rest := []) hE rfl (sp1 (q_call_13 l hfl D cs ca 0 (nI ((n / 16) % 4)) 0 hF)) (va_cwS 5 hts gN_act_L_call rfl rfl rfl (by decide +kernel) ⟨(Nat.le_of_ble_eq_true rfl), (Nat.le_of_ble_eq_true rfl)⟩) rfl rfl (Nat.le_of_ble_eq_true rfl) ⟨(Nat.le_of_ble_eq_true rfl), (Nat.le_of_ble_eq_true rfl)⟩ dL_act_192 (Nat.le_of_ble_eq_true rfl) (Nat.le_of_ble_eq_true rfl) ?_
  exact kr _ _ _ _ (Nat.le_of_ble_eq_true rfl) (Nat.le_of_ble_eq_true rfl) dL_act_195
set_option maxHeartbeats 4000000 in
set_option maxRecDepth 100000 in
theorem act_196e {p : Program} {l : Launch} {e : Env} {s : State} {m : MethodId} {args : Array Value} {below : List Frame} {meth : Method} {c : Code} {D : va_G} {cs : Nat → ClassId} {A : Nat → Prop} {Q : State → Prop} {ca : Nat → Nat → Nat} (hfl : l.stackTraces = false) {k k2 : KC} {n N : Nat} {r : Int32} (hn : n < 2 ^ 31) (hN : N ≤ 30) (hF : ∀ cv, QR cv k → QR (k_X5_set cv 1 (nI (n / 16 / 2 % 10))).2.2 k2 ∧ aX (k_X5_set cv 1 (nI (n / 16 / 2 % 10))) = r) (hp : n / 16 % 2 = 0) (hE : kE p s m args meth c D cs yL_act wsN_act cL_act 4 (some .int) A) (kr : ∀ (lv : List (Nat × Value)) (pc cells slots : Nat), cells ≤ 4 → slots ≤ 24 → decode cL_act pc = .ok (.ireturn, 1) → KX p l e RM_act s m args below meth c D A 4 Q (f_1 k2) (w_1 cs ca) lv [.int r] pc cells slots) : KX p l e RM_act s m args below meth c D A 4 Q (f_1 k) (w_1 cs ca) [(3, .int (nI N)), (2, .int (nI (n / 16))), (0, .ref (ca 0 0)), (1, .int (nI n))] [] 196 1 6 := by
  obtain ⟨hx, hb, hr, hlocks, hml, hown, hts, hK, hA, hG, hnm⟩ := id hE
  have hown : s.vm.findClass RL = some m.cls := hown
  refine KX_step (fun H locs ls hl => lv_iload_n hx hb dL_act_196 rfl (lv_at hl 1 rfl)) ?_
  refine KX_step (fun H locs ls hl => lv_iconst (v := 2) hx hb dL_act_197 (by decide)) ?_
  refine KX_step (st1 := [.int (nI ((n / 16) % 2))]) (fun H locs ls hl K => lv_irem hx hb dL_act_198 (by decide) (by rw [show ((nI (n / 16)) - (nI (n / 16)) / 2 * 2 : Int32) = (nI ((n / 16) % 2)) from nI_mod (a := n / 16) (b := 2) (by omega) (by omega) (by omega)]; exact K)) ?_
  refine KX_if (fun H locs ls hl => lv_if_ne (tgt := 219) hx hb dL_act_199 (by decide)) (fun q => absurd (congrArg nI hp) q) (fun _ => ?_)
  refine KX_step (fun H locs ls hl => lv_aload_n hx hb dL_act_202 rfl (lv_at hl 2 rfl)) ?_
  refine KX_step (fun H locs ls hl => lv_bipush (v := 13) hx hb dL_act_203 (by decide)) ?_
  refine KX_step (fun H locs ls hl => lv_iconst (v := 1) hx hb dL_act_205 (by decide)) ?_
  refine KX_step (fun H locs ls hl => lv_iload_n hx hb dL_act_206 rfl (lv_at hl 1 rfl)) ?_
  refine KX_step (fun H locs ls hl => lv_iconst (v := 2) hx hb dL_act_207 (by decide)) ?_
  refine KX_step (st1 := [.int (nI ((n / 16) / 2)), .int 1, .int 13, .ref (ca 0 0)]) (fun H locs ls hl K => lv_idiv hx hb dL_act_208 (by decide) (by rw [show ((nI (n / 16)) / 2 : Int32) = (nI ((n / 16) / 2)) from nI_div (a := n / 16) (b := 2) (by omega) (by omega) (by omega)]; exact K)) ?_
  refine KX_step (fun H locs ls hl => lv_bipush (v := 10) hx hb dL_act_209 (by decide)) ?_
  refine KX_step (st1 := [.int (nI (((n / 16) / 2) % 10)), .int 1, .int 13, .ref (ca 0 0)]) (fun H locs ls hl K => lv_irem hx hb dL_act_211 (by decide) (by rw [show ((nI ((n / 16) / 2)) - (nI ((n / 16) / 2)) / 10 * 10 : Int32) = (nI (((n / 16) / 2) % 10)) from nI_mod (a := (n / 16) / 2) (b := 10) (by omega) (by omega) (by omega)]; exact K)) ?_
  refine KX_step (fun H locs ls hl => lv_iconst (v := 0) hx hb dL_act_212 (by decide)) ?_
  refine KX_call (cells2 := 2) (slots2 := 12) (st0 := [.int 0, .int (nI (((n / 16) / 2) % 10)), .int 1, .int 13, .ref (ca 0 0)]) (rest := []) hE rfl (sp1 (q_call_13 l hfl D cs ca 1 (nI (((n / 16) / 2) % 10)) 0 hF)) (va_cwS 5 hts gN_act_L_call rfl rfl rfl (by decide +kernel) ⟨(Nat.le_of_ble_eq_true rfl), (Nat.le_of_ble_eq_true rfl)⟩) rfl rfl (Nat.le_of_ble_eq_true rfl) ⟨(Nat.le_of_ble_eq_true rfl), (Nat.le_of_ble_eq_true rfl)⟩ dL_act_213 (Nat.le_of_ble_eq_true rfl) (Nat.le_of_ble_eq_true rfl) ?_
  refine KX_step (fun H locs ls hl => lv_goto (tgt := 233) hx hb dL_act_216 (by decide)) ?_
  exact kr _ _ _ _ (Nat.le_of_ble_eq_true rfl) (Nat.le_of_ble_eq_true rfl) dL_act_233
set_option maxHeartbeats 4000000 in
set_option maxRecDepth 100000 in
theorem act_196o {p : Program} {l : Launch} {e : Env} {s : State} {m : MethodId} {args : Array Value} {below : List Frame} {meth : Method} {c : Code} {D : va_G} {cs : Nat → ClassId} {A : Nat → Prop} {Q : State → Prop} {ca : Nat → Nat → Nat} (hfl : l.stackTraces = false) {k k2 : KC} {n N : Nat} {r : Int32} (hn : n < 2 ^ 31) (hN : N ≤ 30) (hF : ∀ cv, QR cv k → QR (k_X5_set cv 2 (nI (n / 16 / 2 % 61))).2.2 k2 ∧ aX (k_X5_set cv 2 (nI (n / 16 / 2 % 61))) = r) (hp : n / 16 % 2 = 1) (hE : kE p s m args meth c D cs yL_act wsN_act cL_act 4 (some .int) A) (kr : ∀ (lv : List (Nat × Value)) (pc cells slots : Nat), cells ≤ 4 → slots ≤ 24 → decode cL_act pc = .ok (.ireturn, 1) → KX p l e RM_act s m args below meth c D A 4 Q (f_1 k2) (w_1 cs ca) lv [.int r] pc cells slots) : KX p l e RM_act s m args below meth c D A 4 Q (f_1 k) (w_1 cs ca) [(3, .int (nI N)), (2, .int (nI (n / 16))), (0, .ref (ca 0 0)), (1, .int (nI n))] [] 196 1 6 := by
  obtain ⟨hx, hb, hr, hlocks, hml, hown, hts, hK, hA, hG, hnm⟩ := id hE
  have hown : s.vm.findClass RL = some m.cls := hown
  refine KX_step (fun H locs ls hl => lv_iload_n hx hb dL_act_196 rfl (lv_at hl 1 rfl)) ?_
  refine KX_step (fun H locs ls hl => lv_iconst (v := 2) hx hb dL_act_197 (by decide)) ?_
  refine KX_step (st1 := [.int (nI ((n / 16) % 2))]) (fun H locs ls hl K => lv_irem hx hb dL_act_198 (by decide) (by rw [show ((nI (n / 16)) - (nI (n / 16)) / 2 * 2 : Int32) = (nI ((n / 16) % 2)) from nI_mod (a := n / 16) (b := 2) (by omega) (by omega) (by omega)]; exact K)) ?_
  refine KX_if (fun H locs ls hl => lv_if_ne (tgt := 219) hx hb dL_act_199 (by decide)) (fun _ => ?_) (fun q => absurd q (nI_ne1 hp))
  refine KX_step (fun H locs ls hl => lv_aload_n hx hb dL_act_219 rfl (lv_at hl 2 rfl)) ?_
  refine KX_step (fun H locs ls hl => lv_bipush (v := 13) hx hb dL_act_220 (by decide)) ?_
  refine KX_step (fun H locs ls hl => lv_iconst (v := 2) hx hb dL_act_222 (by decide)) ?_
  refine KX_step (fun H locs ls hl => lv_iload_n hx hb dL_act_223 rfl (lv_at hl 1 rfl)) ?_
  refine KX_step (fun H locs ls hl => lv_iconst (v := 2) hx hb dL_act_224 (by decide)) ?_
  refine KX_step (st1 := [.int (nI ((n / 16) / 2)), .int 2, .int 13, .ref (ca 0 0)]) (fun H locs ls hl K => lv_idiv hx hb dL_act_225 (by decide) (by rw [show ((nI (n / 16)) / 2 : Int32) = (nI ((n / 16) / 2)) from nI_div (a := n / 16) (b := 2) (by omega) (by omega) (by omega)]; exact K)) ?_
  refine KX_step (fun H locs ls hl => lv_bipush (v := 61) hx hb dL_act_226 (by decide)) ?_
  refine KX_step (st1 := [.int (nI (((n / 16) / 2) % 61)), .int 2, .int 13, .ref (ca 0 0)]) (fun H locs ls hl K => lv_irem hx hb dL_act_228 (by decide) (by rw [show ((nI ((n / 16) / 2)) - (nI ((n / 16) / 2)) / 61 * 61 : Int32) = (nI (((n / 16) / 2) % 61)) from nI_mod (a := (n / 16) / 2) (b := 61) (by omega) (by omega) (by omega)]; exact K)) ?_
  refine KX_step (fun H locs ls hl => lv_iconst (v := 0) hx hb dL_act_229 (by decide)) ?_
  refine KX_call (cells2 := 2) (slots2 := 12) (st0 := [.int 0, .int (nI (((n / 16) / 2) % 61)), .int 2, .int 13, .ref (ca 0 0)]) (rest := []) hE rfl (sp1 (q_call_13 l hfl D cs ca 2 (nI (((n / 16) / 2) % 61)) 0 hF)) (va_cwS 5 hts gN_act_L_call rfl rfl rfl (by decide +kernel) ⟨(Nat.le_of_ble_eq_true rfl), (Nat.le_of_ble_eq_true rfl)⟩) rfl rfl (Nat.le_of_ble_eq_true rfl) ⟨(Nat.le_of_ble_eq_true rfl), (Nat.le_of_ble_eq_true rfl)⟩ dL_act_230 (Nat.le_of_ble_eq_true rfl) (Nat.le_of_ble_eq_true rfl) ?_
  exact kr _ _ _ _ (Nat.le_of_ble_eq_true rfl) (Nat.le_of_ble_eq_true rfl) dL_act_233
set_option maxHeartbeats 4000000 in
set_option maxRecDepth 100000 in
theorem act_234a {p : Program} {l : Launch} {e : Env} {s : State} {m : MethodId} {args : Array Value} {below : List Frame} {meth : Method} {c : Code} {D : va_G} {cs : Nat → ClassId} {A : Nat → Prop} {Q : State → Prop} {ca : Nat → Nat → Nat} (hfl : l.stackTraces = false) {k k2 : KC} {n N : Nat} {r : Int32} (hn : n < 2 ^ 31) (hN : N ≤ 30) {tt : Nat} (hT : ∀ cv, QR cv k → QR (k_X5_about cv 2).2.2 k ∧ aX (k_X5_about cv 2) = (nI tt)) (htt : tt < 2) (hr : r = -1) (hk : k2 = k) (hE : kE p s m args meth c D cs yL_act wsN_act cL_act 4 (some .int) A) (kr : ∀ (lv : List (Nat × Value)) (pc cells slots : Nat), cells ≤ 4 → slots ≤ 24 → decode cL_act pc = .ok (.ireturn, 1) → KX p l e RM_act s m args below meth c D A 4 Q (f_1 k2) (w_1 cs ca) lv [.int r] pc cells slots) : KX p l e RM_act s m args below meth c D A 4 Q (f_1 k) (w_1 cs ca) [(3, .int (nI N)), (2, .int (nI (n / 16))), (0, .ref (ca 0 0)), (1, .int (nI n))] [] 234 1 6 := by
  subst hr
  subst hk
  obtain ⟨hx, hb, hr, hlocks, hml, hown, hts, hK, hA, hG, hnm⟩ := id hE
  have hown : s.vm.findClass RL = some m.cls := hown
  refine KX_step (fun H locs ls hl => lv_aload_n hx hb dL_act_234 rfl (lv_at hl 2 rfl)) ?_
  refine KX_step (fun H locs ls hl => lv_iconst (v := 2) hx hb dL_act_235 (by decide)) ?_
  refine KX_step (fun H locs ls hl => lv_iconst (v := 2) hx hb dL_act_236 (by decide)) ?_
  refine KX_step (fun H locs ls hl => lv_iconst (v := 0) hx hb dL_act_237 (by decide)) ?_
  refine KX_step (fun H locs ls hl => lv_iconst (v := 0) hx hb dL_act_238 (by decide)) ?_
  refine KX_call (cells2 := 2) (slots2 := 12) (st0 := [.int 0, .int 0, .int 2, .int 2, .ref (ca 0 0)]) (rest := []) hE rfl (sp1 (q_call_2 l hfl D cs ca 2 0 0 hT)) (va_cwS 5 hts gN_act_L_call rfl rfl rfl (by decide +kernel) ⟨(Nat.le_of_ble_eq_true rfl), (Nat.le_of_ble_eq_true rfl)⟩) rfl rfl (Nat.le_of_ble_eq_true rfl) ⟨(Nat.le_of_ble_eq_true rfl), (Nat.le_of_ble_eq_true rfl)⟩ dL_act_239 (Nat.le_of_ble_eq_true rfl) (Nat.le_of_ble_eq_true rfl) ?_
  refine KX_step (fun H locs ls hl => lv_iconst (v := 2) hx hb dL_act_242 (by decide)) ?_
  refine KX_if (fun H locs ls hl => lv_icmp_ge (tgt := 250) hx hb dL_act_243 (by decide)) (fun q => absurd q (nI_ge (b := 2) htt (by omega))) (fun _ => ?_)
  refine KX_step (fun H locs ls hl => lv_iconst (v := (-1)) hx hb dL_act_246 (by decide)) ?_
  refine KX_step (fun H locs ls hl => lv_goto (tgt := 259) hx hb dL_act_247 (by decide)) ?_
  exact kr _ _ _ _ (Nat.le_of_ble_eq_true rfl) (Nat.le_of_ble_eq_true rfl) dL_act_259
set_option maxHeartbeats 4000000 in
set_option maxRecDepth 100000 in
theorem act_234b {p : Program} {l : Launch} {e : Env} {s : State} {m : MethodId} {args : Array Value} {below : List Frame} {meth : Method} {c : Code} {D : va_G} {cs : Nat → ClassId} {A : Nat → Prop} {Q : State → Prop} {ca : Nat → Nat → Nat} (hfl : l.stackTraces = false) {k k2 : KC} {n N : Nat} {r : Int32} (hn : n < 2 ^ 31) (hN : N ≤ 30) {tt : Nat} (hT : ∀ cv, QR cv k → QR (k_X5_about cv 2).2.2 k ∧ aX (k_X5_about cv 2) = (nI tt)) (htt : 2 ≤ tt) (htt2 : tt < 2 ^ 31) (hF : ∀ cv, QR cv k → QR (k_X5_undo cv).2.2 k2 ∧ aX (k_X5_undo cv) = r) (hE : kE p s m args meth c D cs yL_act wsN_act cL_act 4 (some .int) A) (kr : ∀ (lv : List (Nat × Value)) (pc cells slots : Nat), cells ≤ 4 → slots ≤ 24 → decode cL_act pc = .ok (.ireturn, 1) → KX p l e RM_act s m args below meth c D A 4 Q (f_1 k2) (w_1 cs ca) lv [.int r] pc cells slots) : KX p l e RM_act s m args below meth c D A 4 Q (f_1 k) (w_1 cs ca) [(3, .int (nI N)), (2, .int (nI (n / 16))), (0, .ref (ca 0 0)), (1, .int (nI n))] [] 234 1 6 := by
  obtain ⟨hx, hb, hr, hlocks, hml, hown, hts, hK, hA, hG, hnm⟩ := id hE
  have hown : s.vm.findClass RL = some m.cls := hown
  refine KX_step (fun H locs ls hl => lv_aload_n hx hb dL_act_234 rfl (lv_at hl 2 rfl)) ?_
  refine KX_step (fun H locs ls hl => lv_iconst (v := 2) hx hb dL_act_235 (by decide)) ?_
  refine KX_step (fun H locs ls hl => lv_iconst (v := 2) hx hb dL_act_236 (by decide)) ?_
  refine KX_step (fun H locs ls hl => lv_iconst (v := 0) hx hb dL_act_237 (by decide)) ?_
  refine KX_step (fun H locs ls hl => lv_iconst (v := 0) hx hb dL_act_238 (by decide)) ?_
  refine KX_call (cells2 := 2) (slots2 := 12) (st0 := [.int 0, .int 0, .int 2, .int 2, .ref (ca 0 0)]) (rest := []) hE rfl (sp1 (q_call_2 l hfl D cs ca 2 0 0 hT)) (va_cwS 5 hts gN_act_L_call rfl rfl rfl (by decide +kernel) ⟨(Nat.le_of_ble_eq_true rfl), (Nat.le_of_ble_eq_true rfl)⟩) rfl rfl (Nat.le_of_ble_eq_true rfl) ⟨(Nat.le_of_ble_eq_true rfl), (Nat.le_of_ble_eq_true rfl)⟩ dL_act_239 (Nat.le_of_ble_eq_true rfl) (Nat.le_of_ble_eq_true rfl) ?_
  refine KX_step (fun H locs ls hl => lv_iconst (v := 2) hx hb dL_act_242 (by decide)) ?_
  refine KX_if (fun H locs ls hl => lv_icmp_ge (tgt := 250) hx hb dL_act_243 (by decide)) (fun _ => ?_) (fun q => absurd (nI_le (a := 2) htt (by omega)) q)
  refine KX_step (fun H locs ls hl => lv_aload_n hx hb dL_act_250 rfl (lv_at hl 2 rfl)) ?_
  refine KX_step (fun H locs ls hl => lv_bipush (v := 14) hx hb dL_act_251 (by decide)) ?_
  refine KX_step (fun H locs ls hl => lv_iconst (v := 0) hx hb dL_act_253 (by decide)) ?_
  refine KX_step (fun H locs ls hl => lv_iconst (v := 0) hx hb dL_act_254 (by decide)) ?_
  refine KX_step (fun H locs ls hl => lv_iconst (v := 0) hx hb dL_act_255 (by decide)) ?_
  refine KX_call (cells2 := 3) (slots2 := 18) (st0 := [.int 0, .int 0, .int 0, .int 14, .ref (ca 0 0)]) (rest := []) hE rfl (sp1 (q_call_14 l hfl D cs ca 0 0 0 hF)) (va_cwS 5 hts gN_act_L_call rfl rfl rfl (by decide +kernel) ⟨(Nat.le_of_ble_eq_true rfl), (Nat.le_of_ble_eq_true rfl)⟩) rfl rfl (Nat.le_of_ble_eq_true rfl) ⟨(Nat.le_of_ble_eq_true rfl), (Nat.le_of_ble_eq_true rfl)⟩ dL_act_256 (Nat.le_of_ble_eq_true rfl) (Nat.le_of_ble_eq_true rfl) ?_
  exact kr _ _ _ _ (Nat.le_of_ble_eq_true rfl) (Nat.le_of_ble_eq_true rfl) dL_act_259
set_option maxHeartbeats 4000000 in
set_option maxRecDepth 100000 in
theorem act_260e {p : Program} {l : Launch} {e : Env} {s : State} {m : MethodId} {args : Array Value} {below : List Frame} {meth : Method} {c : Code} {D : va_G} {cs : Nat → ClassId} {A : Nat → Prop} {Q : State → Prop} {ca : Nat → Nat → Nat} (hfl : l.stackTraces = false) {k k2 : KC} {n N : Nat} {r : Int32} (hn : n < 2 ^ 31) (hN : N ≤ 30) (hF : ∀ cv, QR cv k → QR (k_X5_save cv (nI (n / 16 / 2 % 2))).2.2 k2 ∧ aX (k_X5_save cv (nI (n / 16 / 2 % 2))) = r) (hp : n / 16 % 2 = 0) (hE : kE p s m args meth c D cs yL_act wsN_act cL_act 4 (some .int) A) (kr : ∀ (lv : List (Nat × Value)) (pc cells slots : Nat), cells ≤ 4 → slots ≤ 24 → decode cL_act pc = .ok (.ireturn, 1) → KX p l e RM_act s m args below meth c D A 4 Q (f_1 k2) (w_1 cs ca) lv [.int r] pc cells slots) : KX p l e RM_act s m args below meth c D A 4 Q (f_1 k) (w_1 cs ca) [(3, .int (nI N)), (2, .int (nI (n / 16))), (0, .ref (ca 0 0)), (1, .int (nI n))] [] 260 1 6 := by
  obtain ⟨hx, hb, hr, hlocks, hml, hown, hts, hK, hA, hG, hnm⟩ := id hE
  have hown : s.vm.findClass RL = some m.cls := hown
  refine KX_step (fun H locs ls hl => lv_iload_n hx hb dL_act_260 rfl (lv_at hl 1 rfl)) ?_
  refine KX_step (fun H locs ls hl => lv_iconst (v := 2) hx hb dL_act_261 (by decide)) ?_
  refine KX_step (st1 := [.int (nI ((n / 16) % 2))]) (fun H locs ls hl K => lv_irem hx hb dL_act_262 (by decide) (by rw [show ((nI (n / 16)) - (nI (n / 16)) / 2 * 2 : Int32) = (nI ((n / 16) % 2)) from nI_mod (a := n / 16) (b := 2) (by omega) (by omega) (by omega)]; exact K)) ?_
  refine KX_if (fun H locs ls hl => lv_if_ne (tgt := 282) hx hb dL_act_263 (by decide)) (fun q => absurd (congrArg nI hp) q) (fun _ => ?_)
  refine KX_step (fun H locs ls hl => lv_aload_n hx hb dL_act_266 rfl (lv_at hl 2 rfl)) ?_
  refine KX_step (fun H locs ls hl => lv_bipush (v := 19) hx hb dL_act_267 (by decide)) ?_
  refine KX_step (fun H locs ls hl => lv_iload_n hx hb dL_act_269 rfl (lv_at hl 1 rfl)) ?_
  refine KX_step (fun H locs ls hl => lv_iconst (v := 2) hx hb dL_act_270 (by decide)) ?_
  refine KX_step (st1 := [.int (nI ((n / 16) / 2)), .int 19, .ref (ca 0 0)]) (fun H locs ls hl K => lv_idiv hx hb dL_act_271 (by decide) (by rw [show ((nI (n / 16)) / 2 : Int32) = (nI ((n / 16) / 2)) from nI_div (a := n / 16) (b := 2) (by omega) (by omega) (by omega)]; exact K)) ?_
  refine KX_step (fun H locs ls hl => lv_iconst (v := 2) hx hb dL_act_272 (by decide)) ?_
  refine KX_step (st1 := [.int (nI (((n / 16) / 2) % 2)), .int 19, .ref (ca 0 0)]) (fun H locs ls hl K => lv_irem hx hb dL_act_273 (by decide) (by rw [show ((nI ((n / 16) / 2)) - (nI ((n / 16) / 2)) / 2 * 2 : Int32) = (nI (((n / 16) / 2) % 2)) from nI_mod (a := (n / 16) / 2) (b := 2) (by omega) (by omega) (by omega)]; exact K)) ?_
  refine KX_step (fun H locs ls hl => lv_iconst (v := 0) hx hb dL_act_274 (by decide)) ?_
  refine KX_step (fun H locs ls hl => lv_iconst (v := 0) hx hb dL_act_275 (by decide)) ?_
  refine KX_call (cells2 := 2) (slots2 := 12) (st0 := [.int 0, .int 0, .int (nI (((n / 16) / 2) % 2)), .int 19, .ref (ca 0 0)]) (rest := []) hE rfl (sp1 (q_call_19 l hfl D cs ca (nI (((n / 16) / 2) % 2)) 0 0 hF)) (va_cwS 5 hts gN_act_L_call rfl rfl rfl (by decide +kernel) ⟨(Nat.le_of_ble_eq_true rfl), (Nat.le_of_ble_eq_true rfl)⟩) rfl rfl (Nat.le_of_ble_eq_true rfl) ⟨(Nat.le_of_ble_eq_true rfl), (Nat.le_of_ble_eq_true rfl)⟩ dL_act_276 (Nat.le_of_ble_eq_true rfl) (Nat.le_of_ble_eq_true rfl) ?_
  refine KX_step (fun H locs ls hl => lv_goto (tgt := 295) hx hb dL_act_279 (by decide)) ?_
  exact kr _ _ _ _ (Nat.le_of_ble_eq_true rfl) (Nat.le_of_ble_eq_true rfl) dL_act_295
set_option maxHeartbeats 4000000 in
set_option maxRecDepth 100000 in
theorem act_260o {p : Program} {l : Launch} {e : Env} {s : State} {m : MethodId} {args : Array Value} {below : List Frame} {meth : Method} {c : Code} {D : va_G} {cs : Nat → ClassId} {A : Nat → Prop} {Q : State → Prop} {ca : Nat → Nat → Nat} (hfl : l.stackTraces = false) {k k2 : KC} {n N : Nat} {r : Int32} (hn : n < 2 ^ 31) (hN : N ≤ 30) (hF : ∀ cv, QR cv k → QR (k_X5_restore cv (nI (n / 16 / 2 % 2))).2.2 k2 ∧ aX (k_X5_restore cv (nI (n / 16 / 2 % 2))) = r) (hp : n / 16 % 2 = 1) (hE : kE p s m args meth c D cs yL_act wsN_act cL_act 4 (some .int) A) (kr : ∀ (lv : List (Nat × Value)) (pc cells slots : Nat), cells ≤ 4 → slots ≤ 24 → decode cL_act pc = .ok (.ireturn, 1) → KX p l e RM_act s m args below meth c D A 4 Q (f_1 k2) (w_1 cs ca) lv [.int r] pc cells slots) : KX p l e RM_act s m args below meth c D A 4 Q (f_1 k) (w_1 cs ca) [(3, .int (nI N)), (2, .int (nI (n / 16))), (0, .ref (ca 0 0)), (1, .int (nI n))] [] 260 1 6 := by
  obtain ⟨hx, hb, hr, hlocks, hml, hown, hts, hK, hA, hG, hnm⟩ := id hE
  have hown : s.vm.findClass RL = some m.cls := hown
  refine KX_step (fun H locs ls hl => lv_iload_n hx hb dL_act_260 rfl (lv_at hl 1 rfl)) ?_
  refine KX_step (fun H locs ls hl => lv_iconst (v := 2) hx hb dL_act_261 (by decide)) ?_
  refine KX_step (st1 := [.int (nI ((n / 16) % 2))]) (fun H locs ls hl K => lv_irem hx hb dL_act_262 (by decide) (by rw [show ((nI (n / 16)) - (nI (n / 16)) / 2 * 2 : Int32) = (nI ((n / 16) % 2)) from nI_mod (a := n / 16) (b := 2) (by omega) (by omega) (by omega)]; exact K)) ?_
  refine KX_if (fun H locs ls hl => lv_if_ne (tgt := 282) hx hb dL_act_263 (by decide)) (fun _ => ?_) (fun q => absurd q (nI_ne1 hp))
  refine KX_step (fun H locs ls hl => lv_aload_n hx hb dL_act_282 rfl (lv_at hl 2 rfl)) ?_
  refine KX_step (fun H locs ls hl => lv_bipush (v := 20) hx hb dL_act_283 (by decide)) ?_
  refine KX_step (fun H locs ls hl => lv_iload_n hx hb dL_act_285 rfl (lv_at hl 1 rfl)) ?_
  refine KX_step (fun H locs ls hl => lv_iconst (v := 2) hx hb dL_act_286 (by decide)) ?_
  refine KX_step (st1 := [.int (nI ((n / 16) / 2)), .int 20, .ref (ca 0 0)]) (fun H locs ls hl K => lv_idiv hx hb dL_act_287 (by decide) (by rw [show ((nI (n / 16)) / 2 : Int32) = (nI ((n / 16) / 2)) from nI_div (a := n / 16) (b := 2) (by omega) (by omega) (by omega)]; exact K)) ?_
  refine KX_step (fun H locs ls hl => lv_iconst (v := 2) hx hb dL_act_288 (by decide)) ?_
  refine KX_step (st1 := [.int (nI (((n / 16) / 2) % 2)), .int 20, .ref (ca 0 0)]) (fun H locs ls hl K => lv_irem hx hb dL_act_289 (by decide) (by rw [show ((nI ((n / 16) / 2)) - (nI ((n / 16) / 2)) / 2 * 2 : Int32) = (nI (((n / 16) / 2) % 2)) from nI_mod (a := (n / 16) / 2) (b := 2) (by omega) (by omega) (by omega)]; exact K)) ?_
  refine KX_step (fun H locs ls hl => lv_iconst (v := 0) hx hb dL_act_290 (by decide)) ?_
  refine KX_step (fun H locs ls hl => lv_iconst (v := 0) hx hb dL_act_291 (by decide)) ?_
  refine KX_call (cells2 := 2) (slots2 := 12) (st0 := [.int 0, .int 0, .int (nI (((n / 16) / 2) % 2)), .int 20, .ref (ca 0 0)]) (rest := []) hE rfl (sp1 (q_call_20 l hfl D cs ca (nI (((n / 16) / 2) % 2)) 0 0 hF)) (va_cwS 5 hts gN_act_L_call rfl rfl rfl (by decide +kernel) ⟨(Nat.le_of_ble_eq_true rfl), (Nat.le_of_ble_eq_true rfl)⟩) rfl rfl (Nat.le_of_ble_eq_true rfl) ⟨(Nat.le_of_ble_eq_true rfl), (Nat.le_of_ble_eq_true rfl)⟩ dL_act_292 (Nat.le_of_ble_eq_true rfl) (Nat.le_of_ble_eq_true rfl) ?_
  exact kr _ _ _ _ (Nat.le_of_ble_eq_true rfl) (Nat.le_of_ble_eq_true rfl) dL_act_295
set_option maxHeartbeats 4000000 in
set_option maxRecDepth 100000 in
theorem act_296 {p : Program} {l : Launch} {e : Env} {s : State} {m : MethodId} {args : Array Value} {below : List Frame} {meth : Method} {c : Code} {D : va_G} {cs : Nat → ClassId} {A : Nat → Prop} {Q : State → Prop} {ca : Nat → Nat → Nat} (hfl : l.stackTraces = false) {k k2 : KC} {n N : Nat} {r : Int32} (hn : n < 2 ^ 31) (hN : N ≤ 30) (hF : ∀ cv, QR cv k → QR (k_X5_ticks cv (nI (1 + n / 16 % 12))).2.2 k2 ∧ aX (k_X5_ticks cv (nI (1 + n / 16 % 12))) = r) (hE : kE p s m args meth c D cs yL_act wsN_act cL_act 4 (some .int) A) (kr : ∀ (lv : List (Nat × Value)) (pc cells slots : Nat), cells ≤ 4 → slots ≤ 24 → decode cL_act pc = .ok (.ireturn, 1) → KX p l e RM_act s m args below meth c D A 4 Q (f_1 k2) (w_1 cs ca) lv [.int r] pc cells slots) : KX p l e RM_act s m args below meth c D A 4 Q (f_1 k) (w_1 cs ca) [(3, .int (nI N)), (2, .int (nI (n / 16))), (0, .ref (ca 0 0)), (1, .int (nI n))] [] 296 1 6 := by
  obtain ⟨hx, hb, hr, hlocks, hml, hown, hts, hK, hA, hG, hnm⟩ := id hE
  have hown : s.vm.findClass RL = some m.cls := hown
  refine KX_step (fun H locs ls hl => lv_aload_n hx hb dL_act_296 rfl (lv_at hl 2 rfl)) ?_
  refine KX_step (fun H locs ls hl => lv_bipush (v := 12) hx hb dL_act_297 (by decide)) ?_
  refine KX_step (fun H locs ls hl => lv_iconst (v := 1) hx hb dL_act_299 (by decide)) ?_
  refine KX_step (fun H locs ls hl => lv_iload_n hx hb dL_act_300 rfl (lv_at hl 1 rfl)) ?_
  refine KX_step (fun H locs ls hl => lv_bipush (v := 12) hx hb dL_act_301 (by decide)) ?_
  refine KX_step (st1 := [.int (nI ((n / 16) % 12)), .int 1, .int 12, .ref (ca 0 0)]) (fun H locs ls hl K => lv_irem hx hb dL_act_303 (by decide) (by rw [show ((nI (n / 16)) - (nI (n / 16)) / 12 * 12 : Int32) = (nI ((n / 16) % 12)) from nI_mod (a := n / 16) (b := 12) (by omega) (by omega) (by omega)]; exact K)) ?_
  refine KX_step (st1 := [.int (nI (1 + ((n / 16) % 12))), .int 12, .ref (ca 0 0)]) (fun H locs ls hl K => lv_iadd hx hb dL_act_304 (by rw [show (1 + (nI ((n / 16) % 12)) : Int32) = (nI (1 + ((n / 16) % 12))) from nI_add (1) ((n / 16) % 12)]; exact K)) ?_
  refine KX_step (fun H locs ls hl => lv_iconst (v := 0) hx hb dL_act_305 (by decide)) ?_
  refine KX_step (fun H locs ls hl => lv_iconst (v := 0) hx hb dL_act_306 (by decide)) ?_
  refine KX_call (cells2 := 2) (slots2 := 12) (st0 := [.int 0, .int 0, .int (nI (1 + ((n / 16) % 12))), .int 12, .ref (ca 0 0)]) (rest := []) hE rfl (sp1 (q_call_12 l hfl D cs ca (nI (1 + ((n / 16) % 12))) 0 0 hF)) (va_cwS 5 hts gN_act_L_call rfl rfl rfl (by decide +kernel) ⟨(Nat.le_of_ble_eq_true rfl), (Nat.le_of_ble_eq_true rfl)⟩) rfl rfl (Nat.le_of_ble_eq_true rfl) ⟨(Nat.le_of_ble_eq_true rfl), (Nat.le_of_ble_eq_true rfl)⟩ dL_act_307 (Nat.le_of_ble_eq_true rfl) (Nat.le_of_ble_eq_true rfl) ?_
  exact kr _ _ _ _ (Nat.le_of_ble_eq_true rfl) (Nat.le_of_ble_eq_true rfl) dL_act_310
