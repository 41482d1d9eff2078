/-! p29: the least speed. -/
abbrev RM_least : Room := { frames := 10, cells := 100, slots := 600, locals := 245 }
set_option maxHeartbeats 4000000 in
set_option maxRecDepth 100000 in
theorem least_l {p : Program} {l : Launch} {e : Env} {s : State} {m : MethodId} {args : Array Value} {below : List Frame} {meth : Method} {c : Code} {D : va_G} {cs : Nat → ClassId} {A : Nat → Prop} {Q : State → Prop} {ca cb : Nat → Nat → Nat} (hfl : l.stackTraces = false) {k : KC} {n tp x12 : Nat} {z : Int32} (hn : n < 2 ^ 31) (hx12 : x12 ≤ 60) (h12 : k.1 12 = nI x12) (hz : P_least k.1 (1 + n % 60) z) (htp : tp ≤ 3) (hyes : ∀ j, j ≤ 3 → nI j = z → (itS (1 + n % 60) (va_up k.1 12 (nI j))) 10 = k.1 10) (hnot : ∀ j, j ≤ tp → ¬ nI j = z → ¬ (itS (1 + n % 60) (va_up k.1 12 (nI j))) 10 = k.1 10) (hE : kE p s m args meth c D cs yL_least wsN_least cL_least 10 (some .boolean) A) (kr : ∀ t, t ≤ 14 → ∀ (lv : List (Nat × Value)) (pc cells slots : Nat), cells ≤ 100 → slots ≤ 600 → decode cL_least pc = .ok (.ireturn, 1) → KX p l e RM_least s m args below meth c D A 10 Q (f_2 (trm t k) (trm t k)) (w_2 cs ca cb) lv [.int 1] pc cells slots) : KX p l e RM_least s m args below meth c D A 10 Q (fun u => ∃ t, t ≤ 14 ∧ f_2 (trm t k) (trm t k) u) (w_2 cs ca cb) [(8, .int 0), (7, .int 1), (6, .int (nI tp)), (5, .int (k.1 10)), (4, .int z), (3, .int (nI (1 + n % 60))), (0, .ref (ca 0 0)), (1, .ref (cb 0 0)), (2, .int (nI n))] [] 49 10 60 := by
  obtain ⟨hx, hb, hr, hlocks, hml, hown, hts, hK, hA, hG, hnm⟩ := id hE
  have hown : s.vm.findClass RL = some m.cls := hown
  have L : ∀ i j, j + i = tp + 1 → KX p l e RM_least s m args below meth c D A 10 Q (fun u => ∃ t, t ≤ 14 ∧ f_2 (trm t k) (trm t k) u) (w_2 cs ca cb) [(8, .int (nI j)), (7, .int 1), (6, .int (nI tp)), (5, .int (k.1 10)), (4, .int z), (3, .int (nI (1 + n % 60))), (0, .ref (ca 0 0)), (1, .ref (cb 0 0)), (2, .int (nI n))] [] 49 (10 + 20 * j) (60 + 120 * j) := by
    intro i
    induction i with
    | zero =>
      intro j hj
      have hj : j = tp + 1 := by omega
      subst hj
      refine KX_ex (fun t => ?_)
      refine KX_fact (F := t ≤ 14) (fun u hu => hu.1) (fun ht => ?_)
      refine KX_imp (Φ2 := f_2 (trm t k) (trm t k)) (fun u hu => hu.2) ?_
      refine KX_step (fun H locs ls hl => lv_iload hx hb dL_least_49 (lv_at hl 0 rfl)) ?_
      refine KX_step (fun H locs ls hl => lv_iload hx hb dL_least_51 (lv_at hl 2 rfl)) ?_
      refine KX_if (fun H locs ls hl => lv_icmp_gt (tgt := 188) hx hb dL_least_53 (by decide)) (fun _ => ?_) (fun q => absurd (nI_lt (by omega) (by omega)) q)
      refine KX_step (fun H locs ls hl => lv_iload hx hb dL_least_188 (lv_at hl 1 rfl)) ?_
      refine KX_if (fun H locs ls hl => lv_if_eq (tgt := 225) hx hb dL_least_190 (by decide)) (fun q => absurd q n10) (fun _ => ?_)
      refine KX_step (fun H locs ls hl => lv_aload_n hx hb dL_least_193 rfl (lv_at hl 6 rfl)) ?_
      refine KX_step (fun H locs ls hl => lv_iconst (v := 2) hx hb dL_least_194 (by decide)) ?_
      refine KX_step (fun H locs ls hl => lv_bipush (v := 10) hx hb dL_least_195 (by decide)) ?_
      refine KX_step (fun H locs ls hl => lv_iconst (v := 0) hx hb dL_least_197 (by decide)) ?_
      refine KX_step (fun H locs ls hl => lv_iconst (v := 0) hx hb dL_least_198 (by decide)) ?_
      refine KX_call (cells2 := 10 + 20 * (tp + 1) + 1) (slots2 := 60 + 120 * (tp + 1) + 6) (st0 := [.int 0, .int 0, .int 10, .int 2, .ref (ca 0 0)]) (rest := []) hE rfl (sp2a (q_call_2 l hfl D cs ca 10 0 0 (F_about (c := trm t k) (i := 10) (by omega)))) (va_cwS 5 hts gN_least_L_call rfl rfl rfl (by decide +kernel) ⟨(Nat.le_of_ble_eq_true rfl), (Nat.le_of_ble_eq_true rfl)⟩) rfl rfl (Nat.le_of_ble_eq_true rfl) ⟨(show 10 + 20 * (tp + 1) + 1 ≤ 100 by omega), (show 60 + 120 * (tp + 1) + 6 ≤ 600 by omega)⟩ dL_least_199 (by omega) (by omega) ?_
      refine KX_step (fun H locs ls hl => lv_iload hx hb dL_least_202 (lv_at hl 3 rfl)) ?_
      refine KX_if (fun H locs ls hl => lv_icmp_ne (tgt := 225) hx hb dL_least_204 (by decide)) (fun q => absurd rfl q) (fun _ => ?_)
      refine KX_step (fun H locs ls hl => lv_aload_n hx hb dL_least_207 rfl (lv_at hl 6 rfl)) ?_
      refine KX_step (fun H locs ls hl => lv_bipush (v := 17) hx hb dL_least_208 (by decide)) ?_
      refine KX_step (fun H locs ls hl => lv_iload_n hx hb dL_least_210 rfl (lv_at hl 5 rfl)) ?_
      refine KX_step (fun H locs ls hl => lv_iconst (v := 0) hx hb dL_least_211 (by decide)) ?_
      refine KX_step (fun H locs ls hl => lv_iconst (v := 0) hx hb dL_least_212 (by decide)) ?_
      refine KX_call (cells2 := 10 + 20 * (tp + 1) + 2) (slots2 := 60 + 120 * (tp + 1) + 12) (st0 := [.int 0, .int 0, .int (nI (1 + n % 60)), .int 17, .ref (ca 0 0)]) (rest := []) hE rfl (sp2a (q_call_17 l hfl D cs ca (nI (1 + n % 60)) 0 0 (R_least2 hz (by omega) (by omega) (c := trm t k) rfl))) (va_cwS 5 hts gN_least_L_call rfl rfl rfl (by decide +kernel) ⟨(Nat.le_of_ble_eq_true rfl), (Nat.le_of_ble_eq_true rfl)⟩) rfl rfl (Nat.le_of_ble_eq_true rfl) ⟨(show 10 + 20 * (tp + 1) + 1 + 1 ≤ 100 by omega), (show 60 + 120 * (tp + 1) + 6 + 6 ≤ 600 by omega)⟩ dL_least_213 (by omega) (by omega) ?_
      refine KX_step (fun H locs ls hl => lv_iload hx hb dL_least_216 (lv_at hl 4 rfl)) ?_
      refine KX_if (fun H locs ls hl => lv_icmp_ne (tgt := 225) hx hb dL_least_218 (by decide)) (fun q => absurd rfl q) (fun _ => ?_)
      refine KX_step (fun H locs ls hl => lv_iconst (v := 1) hx hb dL_least_221 (by decide)) ?_
      refine KX_step (fun H locs ls hl => lv_goto (tgt := 226) hx hb dL_least_222 (by decide)) ?_
      exact kr t ht _ _ _ _ (by omega) (by omega) dL_least_226
    | succ i ih =>
      intro j hj
      have hj3 : j ≤ 3 := by omega
      refine KX_ex (fun t => ?_)
      refine KX_fact (F := t ≤ 14) (fun u hu => hu.1) (fun ht => ?_)
      refine KX_imp (Φ2 := f_2 (trm t k) (trm t k)) (fun u hu => hu.2) ?_
      have hdb := dpt_b (1 + n % 60)
      refine KX_step (fun H locs ls hl => lv_iload hx hb dL_least_49 (lv_at hl 0 rfl)) ?_
      refine KX_step (fun H locs ls hl => lv_iload hx hb dL_least_51 (lv_at hl 2 rfl)) ?_
      refine KX_if (fun H locs ls hl => lv_icmp_gt (tgt := 188) hx hb dL_least_53 (by decide)) (fun q => absurd q (nI_nlt (by omega) (by omega))) (fun _ => ?_)
      refine KX_step (fun H locs ls hl => lv_iload hx hb dL_least_56 (lv_at hl 1 rfl)) ?_
      refine KX_if (fun H locs ls hl => lv_if_eq (tgt := 188) hx hb dL_least_58 (by decide)) (fun q => absurd q n10) (fun _ => ?_)
      refine KX_step (fun H locs ls hl => lv_aload_n hx hb dL_least_61 rfl (lv_at hl 6 rfl)) ?_
      refine KX_step (fun H locs ls hl => lv_bipush (v := 13) hx hb dL_least_62 (by decide)) ?_
      refine KX_step (fun H locs ls hl => lv_iconst (v := 0) hx hb dL_least_64 (by decide)) ?_
      refine KX_step (fun H locs ls hl => lv_iload hx hb dL_least_65 (lv_at hl 0 rfl)) ?_
      refine KX_step (fun H locs ls hl => lv_iconst (v := 0) hx hb dL_least_67 (by decide)) ?_
      refine KX_call (cells2 := 10 + 20 * j + 1) (slots2 := 60 + 120 * j + 6) (st0 := [.int 0, .int (nI j), .int 0, .int 13, .ref (ca 0 0)]) (rest := []) hE rfl (sp2a (q_call_13 l hfl D cs ca 0 (nI j) 0 (fun cv hq => (Q_set (w := 0) (v := j) hq (Or.inl ⟨rfl, by omega⟩)).2.imp id (fun q => q.trans h12)))) (va_cwS 5 hts gN_least_L_call rfl rfl rfl (by decide +kernel) ⟨(Nat.le_of_ble_eq_true rfl), (Nat.le_of_ble_eq_true rfl)⟩) rfl rfl (Nat.le_of_ble_eq_true rfl) ⟨(show 10 + 20 * j + 1 ≤ 100 by omega), (show 60 + 120 * j + 6 ≤ 600 by omega)⟩ dL_least_68 (by omega) (by omega) ?_
      refine KX_store (lv1 := [(9, .int (nI x12)), (8, .int (nI j)), (7, .int 1), (6, .int (nI tp)), (5, .int (k.1 10)), (4, .int z), (3, .int (nI (1 + n % 60))), (0, .ref (ca 0 0)), (1, .ref (cb 0 0)), (2, .int (nI n))]) (fun H locs ls hl K => lv_istore hx hb dL_least_71 hl (by decide) rfl K) ?_
      refine KX_step (fun H locs ls hl => lv_iload hx hb dL_least_73 (lv_at hl 0 rfl)) ?_
      refine KX_if (fun H locs ls hl => lv_if_lt (tgt := 179) hx hb dL_least_75 (by decide)) (fun q => absurd q (nI_pos (by omega))) (fun _ => ?_)
      refine KX_step (fun H locs ls hl => lv_aload_n hx hb dL_least_78 rfl (lv_at hl 8 rfl)) ?_
      refine KX_step (fun H locs ls hl => lv_bipush (v := 13) hx hb dL_least_79 (by decide)) ?_
      refine KX_step (fun H locs ls hl => lv_iconst (v := 0) hx hb dL_least_81 (by decide)) ?_
      refine KX_step (fun H locs ls hl => lv_iload hx hb dL_least_82 (lv_at hl 1 rfl)) ?_
      refine KX_step (fun H locs ls hl => lv_iconst (v := 0) hx hb dL_least_84 (by decide)) ?_
      refine KX_call (cells2 := 10 + 20 * j + 2) (slots2 := 60 + 120 * j + 12) (st0 := [.int 0, .int (nI j), .int 0, .int 13, .ref (cb 0 0)]) (rest := []) hE rfl (sp2b (q_call_13 l hfl D cs cb 0 (nI j) 0 (fun cv hq => (Q_set (w := 0) (v := j) hq (Or.inl ⟨rfl, by omega⟩)).2.imp id (fun q => q.trans h12)))) (va_cwS 5 hts gN_least_L_call rfl rfl rfl (by decide +kernel) ⟨(Nat.le_of_ble_eq_true rfl), (Nat.le_of_ble_eq_true rfl)⟩) rfl rfl (Nat.le_of_ble_eq_true rfl) ⟨(show 10 + 20 * j + 1 + 1 ≤ 100 by omega), (show 60 + 120 * j + 6 + 6 ≤ 600 by omega)⟩ dL_least_85 (by omega) (by omega) ?_
      refine KX_step (fun H locs ls hl => lv_iload hx hb dL_least_88 (lv_at hl 0 rfl)) ?_
      refine KX_if (fun H locs ls hl => lv_icmp_ne (tgt := 179) hx hb dL_least_90 (by decide)) (fun q => absurd rfl q) (fun _ => ?_)
      refine KX_step (fun H locs ls hl => lv_aload_n hx hb dL_least_93 rfl (lv_at hl 7 rfl)) ?_
      refine KX_step (fun H locs ls hl => lv_aload_n hx hb dL_least_94 rfl (lv_at hl 8 rfl)) ?_
      refine KX_step (fun H locs ls hl => lv_iload_n hx hb dL_least_95 rfl (lv_at hl 6 rfl)) ?_
      refine KX_call (cells2 := 10 + 20 * j + 6) (slots2 := 60 + 120 * j + 36) (st0 := [.int (nI (1 + n % 60)), .ref (cb 0 0), .ref (ca 0 0)]) (rest := []) hE rfl (sp2 (c_waits l hfl D cs ca cb (k := psh (trm t k) (va_up k.1 12 (nI j))) (n := 1 + n % 60) (by omega) (by omega))) (va_cwS 3 hts gN_least_L_waits rfl rfl rfl (by decide +kernel) ⟨(Nat.le_of_ble_eq_true rfl), (Nat.le_of_ble_eq_true rfl)⟩) rfl rfl (Nat.le_of_ble_eq_true rfl) ⟨(show 10 + 20 * j + 2 + 4 ≤ 100 by omega), (show 60 + 120 * j + 12 + 24 ≤ 600 by omega)⟩ dL_least_96 (by omega) (by omega) ?_
      refine KX_if (fun H locs ls hl => lv_if_eq (tgt := 179) hx hb dL_least_99 (by decide)) (fun q => absurd q n10) (fun _ => ?_)
      refine KX_step (fun H locs ls hl => lv_aload_n hx hb dL_least_102 rfl (lv_at hl 7 rfl)) ?_
      refine KX_step (fun H locs ls hl => lv_iconst (v := 2) hx hb dL_least_103 (by decide)) ?_
      refine KX_step (fun H locs ls hl => lv_bipush (v := 10) hx hb dL_least_104 (by decide)) ?_
      refine KX_step (fun H locs ls hl => lv_iconst (v := 0) hx hb dL_least_106 (by decide)) ?_
      refine KX_step (fun H locs ls hl => lv_iconst (v := 0) hx hb dL_least_107 (by decide)) ?_
      refine KX_call (cells2 := 10 + 20 * j + 7) (slots2 := 60 + 120 * j + 42) (st0 := [.int 0, .int 0, .int 10, .int 2, .ref (ca 0 0)]) (rest := []) hE rfl (sp2a (q_call_2 l hfl D cs ca 10 0 0 (fun cv hq => (F_about (i := 10) (by omega) cv hq).imp id (fun q => q.trans (congrFun (wtk_1 (c := psh (trm t k) (va_up k.1 12 (nI j))) (n := 1 + n % 60) (by omega)) 10))))) (va_cwS 5 hts gN_least_L_call rfl rfl rfl (by decide +kernel) ⟨(Nat.le_of_ble_eq_true rfl), (Nat.le_of_ble_eq_true rfl)⟩) rfl rfl (Nat.le_of_ble_eq_true rfl) ⟨(show 10 + 20 * j + 6 + 1 ≤ 100 by omega), (show 60 + 120 * j + 36 + 6 ≤ 600 by omega)⟩ dL_least_108 (by omega) (by omega) ?_
      refine KX_step (fun H locs ls hl => lv_iload hx hb dL_least_111 (lv_at hl 4 rfl)) ?_
      by_cases hjz : nI j = z
      · have hok := hyes j hj3 hjz
        refine KX_if (fun H locs ls hl => lv_icmp_ne (tgt := 120) hx hb dL_least_113 (by decide)) (fun q => absurd hok q) (fun _ => ?_)
        refine KX_step (fun H locs ls hl => lv_iconst (v := 1) hx hb dL_least_116 (by decide)) ?_
        refine KX_step (fun H locs ls hl => lv_goto (tgt := 121) hx hb dL_least_117 (by decide)) ?_
        refine KX_step (fun H locs ls hl => lv_iload hx hb dL_least_121 (lv_at hl 1 rfl)) ?_
        refine KX_step (fun H locs ls hl => lv_iload hx hb dL_least_123 (lv_at hl 5 rfl)) ?_
        refine KX_if (fun H locs ls hl => lv_icmp_ne (tgt := 132) hx hb dL_least_125 (by decide)) (fun q => absurd hjz q) (fun _ => ?_)
        refine KX_step (fun H locs ls hl => lv_iconst (v := 1) hx hb dL_least_128 (by decide)) ?_
        refine KX_step (fun H locs ls hl => lv_goto (tgt := 133) hx hb dL_least_129 (by decide)) ?_
        refine KX_if (fun H locs ls hl => lv_icmp_ne (tgt := 179) hx hb dL_least_133 (by decide)) (fun q => absurd rfl q) (fun _ => ?_)
        refine KX_step (fun H locs ls hl => lv_aload_n hx hb dL_least_136 rfl (lv_at hl 7 rfl)) ?_
        refine KX_step (fun H locs ls hl => lv_aload_n hx hb dL_least_137 rfl (lv_at hl 8 rfl)) ?_
        refine KX_step (fun H locs ls hl => lv_iload_n hx hb dL_least_138 rfl (lv_at hl 6 rfl)) ?_
        refine KX_call (cells2 := 10 + 20 * j + 11) (slots2 := 60 + 120 * j + 66) (st0 := [.int (nI (1 + n % 60)), .ref (cb 0 0), .ref (ca 0 0)]) (rest := []) hE rfl (sp2 (c_undoes2 l hfl D cs ca cb (k := psh (trm t k) (va_up k.1 12 (nI j))) (n := 1 + n % 60) (by omega) (by omega))) (va_cwS 3 hts gN_least_L_undoes rfl rfl rfl (by decide +kernel) ⟨(Nat.le_of_ble_eq_true rfl), (Nat.le_of_ble_eq_true rfl)⟩) rfl rfl (Nat.le_of_ble_eq_true rfl) ⟨(show 10 + 20 * j + 7 + 4 ≤ 100 by omega), (show 60 + 120 * j + 42 + 24 ≤ 600 by omega)⟩ dL_least_139 (by omega) (by omega) ?_
        refine KX_if (fun H locs ls hl => lv_if_eq (tgt := 179) hx hb dL_least_142 (by decide)) (fun q => absurd q n10) (fun _ => ?_)
        refine KX_step (fun H locs ls hl => lv_aload_n hx hb dL_least_145 rfl (lv_at hl 7 rfl)) ?_
        refine KX_step (fun H locs ls hl => lv_bipush (v := 14) hx hb dL_least_146 (by decide)) ?_
        refine KX_step (fun H locs ls hl => lv_iconst (v := 0) hx hb dL_least_148 (by decide)) ?_
        refine KX_step (fun H locs ls hl => lv_iconst (v := 0) hx hb dL_least_149 (by decide)) ?_
        refine KX_step (fun H locs ls hl => lv_iconst (v := 0) hx hb dL_least_150 (by decide)) ?_
        refine KX_call (cells2 := 10 + 20 * j + 12) (slots2 := 60 + 120 * j + 72) (st0 := [.int 0, .int 0, .int 0, .int 14, .ref (ca 0 0)]) (rest := []) hE rfl (sp2a (q_call_14 l hfl D cs ca 0 0 0 (F_undo_t (by omega)))) (va_cwS 5 hts gN_least_L_call rfl rfl rfl (by decide +kernel) ⟨(Nat.le_of_ble_eq_true rfl), (Nat.le_of_ble_eq_true rfl)⟩) rfl rfl (Nat.le_of_ble_eq_true rfl) ⟨(show 10 + 20 * j + 11 + 1 ≤ 100 by omega), (show 60 + 120 * j + 66 + 6 ≤ 600 by omega)⟩ dL_least_151 (by omega) (by omega) ?_
        refine KX_call (cells2 := 10 + 20 * j + 12) (slots2 := 60 + 120 * j + 72) (st0 := [.int (nI ((trm (dpt (1 + n % 60)) (psh (trm t k) (va_up k.1 12 (nI j)))).2.1.1 - 1))]) (rest := []) hE rfl (sp0 (c_thrown l D cs (n := (trm (dpt (1 + n % 60)) (psh (trm t k) (va_up k.1 12 (nI j)))).2.1.1 - 1) trm_lt)) (va_cwS 1 hts gN_least_L_thrown rfl rfl rfl (by decide +kernel) ⟨(Nat.le_of_ble_eq_true rfl), (Nat.le_of_ble_eq_true rfl)⟩) rfl rfl (Nat.le_of_ble_eq_true rfl) ⟨(show 10 + 20 * j + 12 + 0 ≤ 100 by omega), (show 60 + 120 * j + 72 + 0 ≤ 600 by omega)⟩ dL_least_154 (by omega) (by omega) ?_
        refine KX_if (fun H locs ls hl => lv_if_ne (tgt := 179) hx hb dL_least_157 (by decide)) (fun q => absurd rfl q) (fun _ => ?_)
        refine KX_step (fun H locs ls hl => lv_aload_n hx hb dL_least_160 rfl (lv_at hl 8 rfl)) ?_
        refine KX_step (fun H locs ls hl => lv_bipush (v := 14) hx hb dL_least_161 (by decide)) ?_
        refine KX_step (fun H locs ls hl => lv_iconst (v := 0) hx hb dL_least_163 (by decide)) ?_
        refine KX_step (fun H locs ls hl => lv_iconst (v := 0) hx hb dL_least_164 (by decide)) ?_
        refine KX_step (fun H locs ls hl => lv_iconst (v := 0) hx hb dL_least_165 (by decide)) ?_
        refine KX_call (cells2 := 10 + 20 * j + 13) (slots2 := 60 + 120 * j + 78) (st0 := [.int 0, .int 0, .int 0, .int 14, .ref (cb 0 0)]) (rest := []) hE rfl (sp2b (q_call_14 l hfl D cs cb 0 0 0 (F_undo_t (by omega)))) (va_cwS 5 hts gN_least_L_call rfl rfl rfl (by decide +kernel) ⟨(Nat.le_of_ble_eq_true rfl), (Nat.le_of_ble_eq_true rfl)⟩) rfl rfl (Nat.le_of_ble_eq_true rfl) ⟨(show 10 + 20 * j + 12 + 1 ≤ 100 by omega), (show 60 + 120 * j + 72 + 6 ≤ 600 by omega)⟩ dL_least_166 (by omega) (by omega) ?_
        refine KX_call (cells2 := 10 + 20 * j + 13) (slots2 := 60 + 120 * j + 78) (st0 := [.int (nI ((trm (dpt (1 + n % 60)) (psh (trm t k) (va_up k.1 12 (nI j)))).2.1.1 - 1))]) (rest := []) hE rfl (sp0 (c_thrown l D cs (n := (trm (dpt (1 + n % 60)) (psh (trm t k) (va_up k.1 12 (nI j)))).2.1.1 - 1) trm_lt)) (va_cwS 1 hts gN_least_L_thrown rfl rfl rfl (by decide +kernel) ⟨(Nat.le_of_ble_eq_true rfl), (Nat.le_of_ble_eq_true rfl)⟩) rfl rfl (Nat.le_of_ble_eq_true rfl) ⟨(show 10 + 20 * j + 13 + 0 ≤ 100 by omega), (show 60 + 120 * j + 78 + 0 ≤ 600 by omega)⟩ dL_least_169 (by omega) (by omega) ?_
        refine KX_if (fun H locs ls hl => lv_if_ne (tgt := 179) hx hb dL_least_172 (by decide)) (fun q => absurd rfl q) (fun _ => ?_)
        refine KX_step (fun H locs ls hl => lv_iconst (v := 1) hx hb dL_least_175 (by decide)) ?_
        refine KX_step (fun H locs ls hl => lv_goto (tgt := 180) hx hb dL_least_176 (by decide)) ?_
        refine KX_store (lv1 := [(7, .int 1), (9, .int (nI x12)), (8, .int (nI j)), (6, .int (nI tp)), (5, .int (k.1 10)), (4, .int z), (3, .int (nI (1 + n % 60))), (0, .ref (ca 0 0)), (1, .ref (cb 0 0)), (2, .int (nI n))]) (fun H locs ls hl K => lv_istore hx hb dL_least_180 hl (by decide) rfl K) ?_
        refine KX_store (lv1 := [(8, .int (nI (j + 1))), (7, .int 1), (9, .int (nI x12)), (6, .int (nI tp)), (5, .int (k.1 10)), (4, .int z), (3, .int (nI (1 + n % 60))), (0, .ref (ca 0 0)), (1, .ref (cb 0 0)), (2, .int (nI n))]) (fun H locs ls hl K => lv_iinc (k := 2) (lv' := [(8, .int (nI (j + 1))), (7, .int 1), (9, .int (nI x12)), (6, .int (nI tp)), (5, .int (k.1 10)), (4, .int z), (3, .int (nI (1 + n % 60))), (0, .ref (ca 0 0)), (1, .ref (cb 0 0)), (2, .int (nI n))]) hx hb dL_least_182 hl rfl (nI_1 _) (by decide) rfl K) ?_
        refine KX_step (fun H locs ls hl => lv_goto (tgt := 49) hx hb dL_least_185 (by decide)) ?_
        refine KX_sub (lv1 := [(8, .int (nI (j + 1))), (7, .int 1), (6, .int (nI tp)), (5, .int (k.1 10)), (4, .int z), (3, .int (nI (1 + n % 60))), (0, .ref (ca 0 0)), (1, .ref (cb 0 0)), (2, .int (nI n))]) [0, 1, 3, 4, 5, 6, 7, 8, 9] rfl ?_
        refine KX_imp (Φ2 := fun u => ∃ t, t ≤ 14 ∧ f_2 (trm t k) (trm t k) u) (fun u hu => ⟨max (dpt (1 + n % 60) + 1) t, by omega, by rw [← trm_trm]; exact hu⟩) ?_
        exact KX_wid (by omega) (by omega) (ih (j + 1) (by omega))
      · have hno := hnot j (by omega) hjz
        refine KX_if (fun H locs ls hl => lv_icmp_ne (tgt := 120) hx hb dL_least_113 (by decide)) (fun _ => ?_) (fun q => absurd q hno)
        refine KX_step (fun H locs ls hl => lv_iconst (v := 0) hx hb dL_least_120 (by decide)) ?_
        refine KX_step (fun H locs ls hl => lv_iload hx hb dL_least_121 (lv_at hl 1 rfl)) ?_
        refine KX_step (fun H locs ls hl => lv_iload hx hb dL_least_123 (lv_at hl 5 rfl)) ?_
        refine KX_if (fun H locs ls hl => lv_icmp_ne (tgt := 132) hx hb dL_least_125 (by decide)) (fun _ => ?_) (fun q => absurd q hjz)
        refine KX_step (fun H locs ls hl => lv_iconst (v := 0) hx hb dL_least_132 (by decide)) ?_
        refine KX_if (fun H locs ls hl => lv_icmp_ne (tgt := 179) hx hb dL_least_133 (by decide)) (fun q => absurd rfl q) (fun _ => ?_)
        refine KX_step (fun H locs ls hl => lv_aload_n hx hb dL_least_136 rfl (lv_at hl 7 rfl)) ?_
        refine KX_step (fun H locs ls hl => lv_aload_n hx hb dL_least_137 rfl (lv_at hl 8 rfl)) ?_
        refine KX_step (fun H locs ls hl => lv_iload_n hx hb dL_least_138 rfl (lv_at hl 6 rfl)) ?_
        refine KX_call (cells2 := 10 + 20 * j + 11) (slots2 := 60 + 120 * j + 66) (st0 := [.int (nI (1 + n % 60)), .ref (cb 0 0), .ref (ca 0 0)]) (rest := []) hE rfl (sp2 (c_undoes2 l hfl D cs ca cb (k := psh (trm t k) (va_up k.1 12 (nI j))) (n := 1 + n % 60) (by omega) (by omega))) (va_cwS 3 hts gN_least_L_undoes rfl rfl rfl (by decide +kernel) ⟨(Nat.le_of_ble_eq_true rfl), (Nat.le_of_ble_eq_true rfl)⟩) rfl rfl (Nat.le_of_ble_eq_true rfl) ⟨(show 10 + 20 * j + 7 + 4 ≤ 100 by omega), (show 60 + 120 * j + 42 + 24 ≤ 600 by omega)⟩ dL_least_139 (by omega) (by omega) ?_
        refine KX_if (fun H locs ls hl => lv_if_eq (tgt := 179) hx hb dL_least_142 (by decide)) (fun q => absurd q n10) (fun _ => ?_)
        refine KX_step (fun H locs ls hl => lv_aload_n hx hb dL_least_145 rfl (lv_at hl 7 rfl)) ?_
        refine KX_step (fun H locs ls hl => lv_bipush (v := 14) hx hb dL_least_146 (by decide)) ?_
        refine KX_step (fun H locs ls hl => lv_iconst (v := 0) hx hb dL_least_148 (by decide)) ?_
        refine KX_step (fun H locs ls hl => lv_iconst (v := 0) hx hb dL_least_149 (by decide)) ?_
        refine KX_step (fun H locs ls hl => lv_iconst (v := 0) hx hb dL_least_150 (by decide)) ?_
        refine KX_call (cells2 := 10 + 20 * j + 12) (slots2 := 60 + 120 * j + 72) (st0 := [.int 0, .int 0, .int 0, .int 14, .ref (ca 0 0)]) (rest := []) hE rfl (sp2a (q_call_14 l hfl D cs ca 0 0 0 (F_undo_t (by omega)))) (va_cwS 5 hts gN_least_L_call rfl rfl rfl (by decide +kernel) ⟨(Nat.le_of_ble_eq_true rfl), (Nat.le_of_ble_eq_true rfl)⟩) rfl rfl (Nat.le_of_ble_eq_true rfl) ⟨(show 10 + 20 * j + 11 + 1 ≤ 100 by omega), (show 60 + 120 * j + 66 + 6 ≤ 600 by omega)⟩ dL_least_151 (by omega) (by omega) ?_
        refine KX_call (cells2 := 10 + 20 * j + 12) (slots2 := 60 + 120 * j + 72) (st0 := [.int (nI ((trm (dpt (1 + n % 60)) (psh (trm t k) (va_up k.1 12 (nI j)))).2.1.1 - 1))]) (rest := []) hE rfl (sp0 (c_thrown l D cs (n := (trm (dpt (1 + n % 60)) (psh (trm t k) (va_up k.1 12 (nI j)))).2.1.1 - 1) trm_lt)) (va_cwS 1 hts gN_least_L_thrown rfl rfl rfl (by decide +kernel) ⟨(Nat.le_of_ble_eq_true rfl), (Nat.le_of_ble_eq_true rfl)⟩) rfl rfl (Nat.le_of_ble_eq_true rfl) ⟨(show 10 + 20 * j + 12 + 0 ≤ 100 by omega), (show 60 + 120 * j + 72 + 0 ≤ 600 by omega)⟩ dL_least_154 (by omega) (by omega) ?_
        refine KX_if (fun H locs ls hl => lv_if_ne (tgt := 179) hx hb dL_least_157 (by decide)) (fun q => absurd rfl q) (fun _ => ?_)
        refine KX_step (fun H locs ls hl => lv_aload_n hx hb dL_least_160 rfl (lv_at hl 8 rfl)) ?_
        refine KX_step (fun H locs ls hl => lv_bipush (v := 14) hx hb dL_least_161 (by decide)) ?_
        refine KX_step (fun H locs ls hl => lv_iconst (v := 0) hx hb dL_least_163 (by decide)) ?_
        refine KX_step (fun H locs ls hl => lv_iconst (v := 0) hx hb dL_least_164 (by decide)) ?_
        refine KX_step (fun H locs ls hl => lv_iconst (v := 0) hx hb dL_least_165 (by decide)) ?_
        refine KX_call (cells2 := 10 + 20 * j + 13) (slots2 := 60 + 120 * j + 78) (st0 := [.int 0, .int 0, .int 0, .int 14, .ref (cb 0 0)]) (rest := []) hE rfl (sp2b (q_call_14 l hfl D cs cb 0 0 0 (F_undo_t (by omega)))) (va_cwS 5 hts gN_least_L_call rfl rfl rfl (by decide +kernel) ⟨(Nat.le_of_ble_eq_true rfl), (Nat.le_of_ble_eq_true rfl)⟩) rfl rfl (Nat.le_of_ble_eq_true rfl) ⟨(show 10 + 20 * j + 12 + 1 ≤ 100 by omega), (show 60 + 120 * j + 72 + 6 ≤ 600 by omega)⟩ dL_least_166 (by omega) (by omega) ?_
        refine KX_call (cells2 := 10 + 20 * j + 13) (slots2 := 60 + 120 * j + 78) (st0 := [.int (nI ((trm (dpt (1 + n % 60)) (psh (trm t k) (va_up k.1 12 (nI j)))).2.1.1 - 1))]) (rest := []) hE rfl (sp0 (c_thrown l D cs (n := (trm (dpt (1 + n % 60)) (psh (trm t k) (va_up k.1 12 (nI j)))).2.1.1 - 1) trm_lt)) (va_cwS 1 hts gN_least_L_thrown rfl rfl rfl (by decide +kernel) ⟨(Nat.le_of_ble_eq_true rfl), (Nat.le_of_ble_eq_true rfl)⟩) rfl rfl (Nat.le_of_ble_eq_true rfl) ⟨(show 10 + 20 * j + 13 + 0 ≤ 100 by omega), (show 60 + 120 * j + 78 + 0 ≤ 600 by omega)⟩ dL_least_169 (by omega) (by omega) ?_
        refine KX_if (fun H locs ls hl => lv_if_ne (tgt := 179) hx hb dL_least_172 (by decide)) (fun q => absurd rfl q) (fun _ => ?_)
        refine KX_step (fun H locs ls hl => lv_iconst (v := 1) hx hb dL_least_175 (by decide)) ?_
        refine KX_step (fun H locs ls hl => lv_goto (tgt := 180) hx hb dL_least_176 (by decide)) ?_
        refine KX_store (lv1 := [(7, .int 1), (9, .int (nI x12)), (8, .int (nI j)), (6, .int (nI tp)), (5, .int (k.1 10)), (4, .int z), (3, .int (nI (1 + n % 60))), (0, .ref (ca 0 0)), (1, .ref (cb 0 0)), (2, .int (nI n))]) (fun H locs ls hl K => lv_istore hx hb dL_least_180 hl (by decide) rfl K) ?_
        refine KX_store (lv1 := [(8, .int (nI (j + 1))), (7, .int 1), (9, .int (nI x12)), (6, .int (nI tp)), (5, .int (k.1 10)), (4, .int z), (3, .int (nI (1 + n % 60))), (0, .ref (ca 0 0)), (1, .ref (cb 0 0)), (2, .int (nI n))]) (fun H locs ls hl K => lv_iinc (k := 2) (lv' := [(8, .int (nI (j + 1))), (7, .int 1), (9, .int (nI x12)), (6, .int (nI tp)), (5, .int (k.1 10)), (4, .int z), (3, .int (nI (1 + n % 60))), (0, .ref (ca 0 0)), (1, .ref (cb 0 0)), (2, .int (nI n))]) hx hb dL_least_182 hl rfl (nI_1 _) (by decide) rfl K) ?_
        refine KX_step (fun H locs ls hl => lv_goto (tgt := 49) hx hb dL_least_185 (by decide)) ?_
        refine KX_sub (lv1 := [(8, .int (nI (j + 1))), (7, .int 1), (6, .int (nI tp)), (5, .int (k.1 10)), (4, .int z), (3, .int (nI (1 + n % 60))), (0, .ref (ca 0 0)), (1, .ref (cb 0 0)), (2, .int (nI n))]) [0, 1, 3, 4, 5, 6, 7, 8, 9] rfl ?_
        refine KX_imp (Φ2 := fun u => ∃ t, t ≤ 14 ∧ f_2 (trm t k) (trm t k) u) (fun u hu => ⟨max (dpt (1 + n % 60) + 1) t, by omega, by rw [← trm_trm]; exact hu⟩) ?_
        exact KX_wid (by omega) (by omega) (ih (j + 1) (by omega))
  exact L (tp + 1) 0 (by omega)
set_option maxHeartbeats 4000000 in
set_option maxRecDepth 100000 in
theorem least_w {p : Program} {l : Launch} {e : Env} {s : State} {m : MethodId} {args : Array Value} {below : List Frame} {meth : Method} {c : Code} {D : va_G} {cs : Nat → ClassId} {A : Nat → Prop} {Q : State → Prop} {ca cb : Nat → Nat → Nat} (hfl : l.stackTraces = false) {k : KC} {n x12 : Nat} {z : Int32} (hn : n < 2 ^ 31) (hx12 : x12 ≤ 60) (h12 : k.1 12 = nI x12) (hz : P_least k.1 (1 + n % 60) z) (hE : kE p s m args meth c D cs yL_least wsN_least cL_least 10 (some .boolean) A) (kr : ∀ t, t ≤ 14 → ∀ (lv : List (Nat × Value)) (pc cells slots : Nat), cells ≤ 100 → slots ≤ 600 → decode cL_least pc = .ok (.ireturn, 1) → KX p l e RM_least s m args below meth c D A 10 Q (f_2 (trm t k) (trm t k)) (w_2 cs ca cb) lv [.int 1] pc cells slots) : KX p l e RM_least s m args below meth c D A 10 Q (f_2 k k) (w_2 cs ca cb) [(0, .ref (ca 0 0)), (1, .ref (cb 0 0)), (2, .int (nI n))] [] 0 0 0 := by
  obtain ⟨hx, hb, hr, hlocks, hml, hown, hts, hK, hA, hG, hnm⟩ := id hE
  have hown : s.vm.findClass RL = some m.cls := hown
  refine KX_step (fun H locs ls hl => lv_iconst (v := 1) hx hb dL_least_0 (by decide)) ?_
  refine KX_step (fun H locs ls hl => lv_iload_n hx hb dL_least_1 rfl (lv_at hl 2 rfl)) ?_
  refine KX_step (fun H locs ls hl => lv_bipush (v := 60) hx hb dL_least_2 (by decide)) ?_
  refine KX_step (st1 := [.int (nI (n % 60)), .int 1]) (fun H locs ls hl K => lv_irem hx hb dL_least_4 (by decide) (by rw [show ((nI n) - (nI n) / 60 * 60 : Int32) = (nI (n % 60)) from nI_mod (a := n) (b := 60) (by omega) (by omega) (by omega)]; exact K)) ?_
  refine KX_step (st1 := [.int (nI (1 + (n % 60)))]) (fun H locs ls hl K => lv_iadd hx hb dL_least_5 (by rw [show (1 + (nI (n % 60)) : Int32) = (nI (1 + (n % 60))) from nI_add (1) (n % 60)]; exact K)) ?_
  refine KX_store (lv1 := [(3, .int (nI (1 + (n % 60)))), (0, .ref (ca 0 0)), (1, .ref (cb 0 0)), (2, .int (nI n))]) (fun H locs ls hl K => lv_istore_n hx hb dL_least_6 rfl hl (by decide) rfl K) ?_
  refine KX_step (fun H locs ls hl => lv_aload_n hx hb dL_least_7 rfl (lv_at hl 1 rfl)) ?_
  refine KX_step (fun H locs ls hl => lv_bipush (v := 17) hx hb dL_least_8 (by decide)) ?_
  refine KX_step (fun H locs ls hl => lv_iload_n hx hb dL_least_10 rfl (lv_at hl 0 rfl)) ?_
  refine KX_step (fun H locs ls hl => lv_iconst (v := 0) hx hb dL_least_11 (by decide)) ?_
  refine KX_step (fun H locs ls hl => lv_iconst (v := 0) hx hb dL_least_12 (by decide)) ?_
  refine KX_call (cells2 := 1) (slots2 := 6) (st0 := [.int 0, .int 0, .int (nI (1 + (n % 60))), .int 17, .ref (ca 0 0)]) (rest := []) hE rfl (sp2a (q_call_17 l hfl D cs ca (nI (1 + (n % 60))) 0 0 (R_least2 hz (by omega) (by omega) (c := k) rfl))) (va_cwS 5 hts gN_least_L_call rfl rfl rfl (by decide +kernel) ⟨(Nat.le_of_ble_eq_true rfl), (Nat.le_of_ble_eq_true rfl)⟩) rfl rfl (Nat.le_of_ble_eq_true rfl) ⟨(Nat.le_of_ble_eq_true rfl), (Nat.le_of_ble_eq_true rfl)⟩ dL_least_13 (Nat.le_of_ble_eq_true rfl) (Nat.le_of_ble_eq_true rfl) ?_
  refine KX_store (lv1 := [(4, .int z), (3, .int (nI (1 + (n % 60)))), (0, .ref (ca 0 0)), (1, .ref (cb 0 0)), (2, .int (nI n))]) (fun H locs ls hl K => lv_istore hx hb dL_least_16 hl (by decide) rfl K) ?_
  refine KX_step (fun H locs ls hl => lv_aload_n hx hb dL_least_18 rfl (lv_at hl 2 rfl)) ?_
  refine KX_step (fun H locs ls hl => lv_iconst (v := 2) hx hb dL_least_19 (by decide)) ?_
  refine KX_step (fun H locs ls hl => lv_bipush (v := 10) hx hb dL_least_20 (by decide)) ?_
  refine KX_step (fun H locs ls hl => lv_iconst (v := 0) hx hb dL_least_22 (by decide)) ?_
  refine KX_step (fun H locs ls hl => lv_iconst (v := 0) hx hb dL_least_23 (by decide)) ?_
  refine KX_call (cells2 := 2) (slots2 := 12) (st0 := [.int 0, .int 0, .int 10, .int 2, .ref (ca 0 0)]) (rest := []) hE rfl (sp2a (q_call_2 l hfl D cs ca 10 0 0 (F_about (c := k) (i := 10) (by omega)))) (va_cwS 5 hts gN_least_L_call rfl rfl rfl (by decide +kernel) ⟨(Nat.le_of_ble_eq_true rfl), (Nat.le_of_ble_eq_true rfl)⟩) rfl rfl (Nat.le_of_ble_eq_true rfl) ⟨(Nat.le_of_ble_eq_true rfl), (Nat.le_of_ble_eq_true rfl)⟩ dL_least_24 (Nat.le_of_ble_eq_true rfl) (Nat.le_of_ble_eq_true rfl) ?_
  refine KX_store (lv1 := [(5, .int (k.1 10)), (4, .int z), (3, .int (nI (1 + (n % 60)))), (0, .ref (ca 0 0)), (1, .ref (cb 0 0)), (2, .int (nI n))]) (fun H locs ls hl K => lv_istore hx hb dL_least_27 hl (by decide) rfl K) ?_
  refine KX_step (fun H locs ls hl => lv_iload hx hb dL_least_29 (lv_at hl 1 rfl)) ?_
  refine KX_step (fun H locs ls hl => lv_iconst (v := (-1)) hx hb dL_least_31 (by decide)) ?_
  rcases hz with ⟨u, u1, u2, u3, u4⟩ | ⟨u1, u2⟩
  · subst u2
    have hz : P_least k.1 (1 + n % 60) (nI u) := Or.inl ⟨u, u1, rfl, u3, u4⟩
    refine KX_if (fun H locs ls hl => lv_icmp_ne (tgt := 39) hx hb dL_least_32 (by decide)) (fun _ => ?_) (fun q => absurd q (nI_nm (by omega)))
    refine KX_step (fun H locs ls hl => lv_iload hx hb dL_least_39 (lv_at hl 1 rfl)) ?_
    refine KX_store (lv1 := [(6, .int (nI u)), (5, .int (k.1 10)), (4, .int (nI u)), (3, .int (nI (1 + (n % 60)))), (0, .ref (ca 0 0)), (1, .ref (cb 0 0)), (2, .int (nI n))]) (fun H locs ls hl K => lv_istore hx hb dL_least_41 hl (by decide) rfl K) ?_
    refine KX_step (fun H locs ls hl => lv_iconst (v := 1) hx hb dL_least_43 (by decide)) ?_
    refine KX_store (lv1 := [(7, .int 1), (6, .int (nI u)), (5, .int (k.1 10)), (4, .int (nI u)), (3, .int (nI (1 + (n % 60)))), (0, .ref (ca 0 0)), (1, .ref (cb 0 0)), (2, .int (nI n))]) (fun H locs ls hl K => lv_istore hx hb dL_least_44 hl (by decide) rfl K) ?_
    refine KX_step (fun H locs ls hl => lv_iconst (v := 0) hx hb dL_least_46 (by decide)) ?_
    refine KX_store (lv1 := [(8, .int 0), (7, .int 1), (6, .int (nI u)), (5, .int (k.1 10)), (4, .int (nI u)), (3, .int (nI (1 + (n % 60)))), (0, .ref (ca 0 0)), (1, .ref (cb 0 0)), (2, .int (nI n))]) (fun H locs ls hl K => lv_istore hx hb dL_least_47 hl (by decide) rfl K) ?_
    refine KX_sub (lv1 := [(8, .int 0), (7, .int 1), (6, .int (nI u)), (5, .int (k.1 10)), (4, .int (nI u)), (3, .int (nI (1 + (n % 60)))), (0, .ref (ca 0 0)), (1, .ref (cb 0 0)), (2, .int (nI n))]) [0, 1, 2, 3, 4, 5, 6, 7, 8] rfl ?_
    refine KX_wid (cells2 := 10) (slots2 := 60) (by omega) (by omega) ?_
    refine KX_imp (Φ2 := fun u => ∃ t, t ≤ 14 ∧ f_2 (trm t k) (trm t k) u) (fun v hv => ⟨0, by omega, by rw [trm_0 hv.1.2]; exact hv⟩) ?_
    exact least_l (tp := u) hfl hn hx12 h12 hz (by omega) (fun j h1 h2 => by rw [(nI_eq (by omega) (by omega)).mp h2]; exact u3) (fun j h1 h2 => u4 j (Nat.lt_of_le_of_ne h1 (fun q => h2 (congrArg nI q)))) hE kr
  · subst u1
    have hz : P_least k.1 (1 + n % 60) (-1) := Or.inr ⟨rfl, u2⟩
    refine KX_if (fun H locs ls hl => lv_icmp_ne (tgt := 39) hx hb dL_least_32 (by decide)) (fun q => absurd rfl q) (fun _ => ?_)
    refine KX_step (fun H locs ls hl => lv_iconst (v := 3) hx hb dL_least_35 (by decide)) ?_
    refine KX_step (fun H locs ls hl => lv_goto (tgt := 41) hx hb dL_least_36 (by decide)) ?_
    refine KX_store (lv1 := [(6, .int 3), (5, .int (k.1 10)), (4, .int (-1)), (3, .int (nI (1 + (n % 60)))), (0, .ref (ca 0 0)), (1, .ref (cb 0 0)), (2, .int (nI n))]) (fun H locs ls hl K => lv_istore hx hb dL_least_41 hl (by decide) rfl K) ?_
    refine KX_step (fun H locs ls hl => lv_iconst (v := 1) hx hb dL_least_43 (by decide)) ?_
    refine KX_store (lv1 := [(7, .int 1), (6, .int 3), (5, .int (k.1 10)), (4, .int (-1)), (3, .int (nI (1 + (n % 60)))), (0, .ref (ca 0 0)), (1, .ref (cb 0 0)), (2, .int (nI n))]) (fun H locs ls hl K => lv_istore hx hb dL_least_44 hl (by decide) rfl K) ?_
    refine KX_step (fun H locs ls hl => lv_iconst (v := 0) hx hb dL_least_46 (by decide)) ?_
    refine KX_store (lv1 := [(8, .int 0), (7, .int 1), (6, .int 3), (5, .int (k.1 10)), (4, .int (-1)), (3, .int (nI (1 + (n % 60)))), (0, .ref (ca 0 0)), (1, .ref (cb 0 0)), (2, .int (nI n))]) (fun H locs ls hl K => lv_istore hx hb dL_least_47 hl (by decide) rfl K) ?_
    refine KX_sub (lv1 := [(8, .int 0), (7, .int 1), (6, .int 3), (5, .int (k.1 10)), (4, .int (-1)), (3, .int (nI (1 + (n % 60)))), (0, .ref (ca 0 0)), (1, .ref (cb 0 0)), (2, .int (nI n))]) [0, 1, 2, 3, 4, 5, 6, 7, 8] rfl ?_
    refine KX_wid (cells2 := 10) (slots2 := 60) (by omega) (by omega) ?_
    refine KX_imp (Φ2 := fun u => ∃ t, t ≤ 14 ∧ f_2 (trm t k) (trm t k) u) (fun v hv => ⟨0, by omega, by rw [trm_0 hv.1.2]; exact hv⟩) ?_
    exact least_l (tp := 3) hfl hn hx12 h12 hz (by omega) (fun j h1 h2 => absurd h2 (nI_nm (by omega))) (fun j h1 h2 => u2 j h1) hE kr
theorem c_least (l : Launch) (hfl : l.stackTraces = false) (D : va_G) (cs : Nat → ClassId) (ca cb : Nat → Nat → Nat) {k : KC} {n : Nat} (hn : n < 2 ^ 31) : ∀ v, f_2 k k v → kQ l yL_least wsN_least RM_least 100 600 D cs [.ref (ca 0 0), .ref (cb 0 0), .int (nI n)] (w_2 cs ca cb v) 1 (fun u => ∃ t, t ≤ 14 ∧ f_2 (trm t k) (trm t k) u) (w_2 cs ca cb) := by
  intro v hv
  obtain ⟨z, hz, -⟩ := R_least hv.1 (v := 1 + n % 60) (by omega) (by omega)
  obtain ⟨N, M, hRC, -⟩ := QR_R hv.1
  obtain ⟨a12, ha12, h12⟩ := hRC.2.1.2.2.2.1
  exact kQ_of (U := CV × CV) (Φ := f_2 k k) (wc := w_2 cs ca cb) (cc := cL_least) (maxL := 10) (ret := some .boolean) (by decide) rfl (Nat.le_of_ble_eq_true rfl) (fun p e s m below meth c A hE => least_w hfl hn (x12 := a12) (by omega) h12 hz hE (fun t ht lv pc cells slots h1 h2 hd => KX_ret (r := 1) (Φ1 := fun u => ∃ t, t ≤ 14 ∧ f_2 (trm t k) (trm t k) u) (w1 := w_2 cs ca cb) hE rfl rfl (fun u hu => ⟨u, ⟨t, ht, hu⟩, List.Perm.refl _⟩) h1 h2 hd)) v hv
