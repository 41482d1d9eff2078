/-! p29: the law's rounds. -/
set_option maxHeartbeats 4000000 in
set_option maxRecDepth 100000 in
theorem law_l {p : Program} {l : Launch} {e : Env} {s : State} {m : MethodId} {below : List Frame} {meth : Method} {c : Code} {D : va_G} {cs : Nat → ClassId} {Q : State → Prop} {ca cb : Nat → Nat → Nat} {b L : Nat} {xs : Nat → Int32} {y : MethodName} {rt : Option FieldType} (hfl : l.stackTraces = false) (hE : kE p s m #[Value.ref b] meth c D cs y lw_tbl cL_law 8 rt (lwA s)) (ho : RL = y.cls) (hL : L ≤ 260) (hX : va_X b L xs s s.heap) (hbl : b < s.heap.size) {tn : Nat} (htn : tn ≤ 34) (kr : ∀ i, i ≤ 34 → ∀ (lv : List (Nat × Value)) (pc cells slots : Nat), cells ≤ 663680 → slots ≤ 7110428 → decode cL_law pc = .ok (.ireturn, 1) → KX p l e room_1 s m #[Value.ref b] below meth c D (lwA s) 8 Q (fun u : CV × CV => ∃ k, CI (12 * i) k ∧ f_2 k k u) (w_2 cs ca cb) lv [.int 1] pc cells slots) : ∀ x i, i + x = tn → KX p l e room_1 s m #[Value.ref b] below meth c D (lwA s) 8 Q (fun u : CV × CV => ∃ k, CI (12 * i) k ∧ f_2 k k u) (w_2 cs ca cb) [(5, .int (nI i)), (4, .int 1), (3, .int (nI tn)), (2, .ref (cb 0 0)), (1, .ref (ca 0 0)), (0, .ref b)] [] 34 (1000 + 2000 * i) (20000 + 12000 * i) := by
  obtain ⟨hx, hb, hr, hlocks, hml, hown, hts, hK, hA, hG, hnm⟩ := id hE
  have hown : s.vm.findClass RL = some m.cls := by rw [ho]; exact hown
  have hbA : ¬ lwA s b := Nat.not_le.mpr hbl
  have hBB : BIG = 1000000 := rfl
  intro x
  induction x with
  | zero =>
    intro i hi
    have hi : i = tn := by omega
    subst hi
    refine KX_step (fun H locs ls hl => lv_iload hx hb dL_law_34 (lv_at hl 0 rfl)) ?_
    refine KX_step (fun H locs ls hl => lv_iload_n hx hb dL_law_36 rfl (lv_at hl 2 rfl)) ?_
    refine KX_if (fun H locs ls hl => lv_icmp_ge (tgt := 191) hx hb dL_law_37 (by decide)) (fun _ => ?_) (fun q => absurd (nI_le (Nat.le_refl _) (by omega)) q)
    refine KX_step (fun H locs ls hl => lv_iload hx hb dL_law_191 (lv_at hl 1 rfl)) ?_
    exact kr i (by omega) _ _ _ _ (by omega) (by omega) dL_law_193
  | succ x ih =>
    intro i hi
    refine KX_ex (fun k => ?_)
    refine KX_fact (F := CI (12 * i) k ∧ ∃ cv, QR cv k) (fun u hu => ⟨hu.1, u.1, hu.2.1⟩) (fun hf => ?_)
    obtain ⟨hc, cv0, hq⟩ := hf
    refine KX_imp (Φ2 := f_2 k k) (fun u hu => hu.2) ?_
    obtain ⟨nx, hnx, ex⟩ := cell_n L xs (1 + i)
    obtain ⟨r, k2, hc2, hact⟩ := c_act l hfl D cs hq hnx (by omega) hc
    refine KX_step (fun H locs ls hl => lv_iload hx hb dL_law_34 (lv_at hl 0 rfl)) ?_
    refine KX_step (fun H locs ls hl => lv_iload_n hx hb dL_law_36 rfl (lv_at hl 2 rfl)) ?_
    refine KX_if (fun H locs ls hl => lv_icmp_ge (tgt := 191) hx hb dL_law_37 (by decide)) (fun q => absurd q (nI_ge (by omega) (by omega))) (fun _ => ?_)
    refine KX_step (fun H locs ls hl => lv_iload hx hb dL_law_40 (lv_at hl 1 rfl)) ?_
    refine KX_if (fun H locs ls hl => lv_if_eq (tgt := 191) hx hb dL_law_42 (by decide)) (fun q => absurd q n10) (fun _ => ?_)
    refine KX_step (fun H locs ls hl => lv_aload_n hx hb dL_law_45 rfl (lv_at hl 5 rfl)) ?_
    refine KX_step (fun H locs ls hl => lv_iconst (v := 1) hx hb dL_law_46 (by decide)) ?_
    refine KX_step (fun H locs ls hl => lv_iload hx hb dL_law_47 (lv_at hl 0 rfl)) ?_
    refine KX_step (st1 := [.int (nI (1 + i)), .ref b]) (fun H locs ls hl K => lv_iadd hx hb dL_law_49 (by rw [show (1 + (nI i) : Int32) = (nI (1 + i)) from nI_add (1) (i)]; exact K)) ?_
    refine KX_cell (j := 1 + i) hE ho hX hbl hbA (c_cell l D cs hL (by omega)) ex (va_cwS 2 hts gN_law_L_cell rfl rfl rfl (by decide +kernel) ⟨(Nat.le_of_ble_eq_true rfl), (Nat.le_of_ble_eq_true rfl)⟩) (Nat.le_of_ble_eq_true rfl) ⟨(show 1000 + 2000 * i + 0 ≤ 663680 by omega), (show 20000 + 12000 * i + 0 ≤ 7110428 by omega)⟩ dL_law_50 ?_
    refine KX_store (lv1 := [(6, .int (nI nx)), (5, .int (nI i)), (4, .int 1), (3, .int (nI tn)), (2, .ref (cb 0 0)), (1, .ref (ca 0 0)), (0, .ref b)]) (fun H locs ls hl K => lv_istore hx hb dL_law_53 hl (by decide) rfl K) ?_
    refine KX_step (fun H locs ls hl => lv_aload_n hx hb dL_law_55 rfl (lv_at hl 5 rfl)) ?_
    refine KX_step (fun H locs ls hl => lv_iload hx hb dL_law_56 (lv_at hl 0 rfl)) ?_
    refine KX_call (cells2 := 1000 + 2000 * i + 4) (slots2 := 20000 + 12000 * i + 24) (st0 := [.int (nI nx), .ref (ca 0 0)]) (rest := []) hE ho (sp2a (hact ca)) (va_cwS 2 hts gN_law_L_act rfl rfl rfl (by decide +kernel) ⟨(Nat.le_of_ble_eq_true rfl), (Nat.le_of_ble_eq_true rfl)⟩) rfl rfl (Nat.le_of_ble_eq_true rfl) ⟨(show 1000 + 2000 * i + 4 ≤ 663680 by omega), (show 20000 + 12000 * i + 24 ≤ 7110428 by omega)⟩ dL_law_58 (by omega) (by omega) ?_
    refine KX_store (lv1 := [(7, .int r), (6, .int (nI nx)), (5, .int (nI i)), (4, .int 1), (3, .int (nI tn)), (2, .ref (cb 0 0)), (1, .ref (ca 0 0)), (0, .ref b)]) (fun H locs ls hl K => lv_istore hx hb dL_law_61 hl (by decide) rfl K) ?_
    refine KX_step (fun H locs ls hl => lv_aload_n hx hb dL_law_63 rfl (lv_at hl 5 rfl)) ?_
    refine KX_step (fun H locs ls hl => lv_iload hx hb dL_law_64 (lv_at hl 1 rfl)) ?_
    refine KX_step (fun H locs ls hl => lv_ldc (v := 100000) hx hb hown (hts (.constant RL 196 100000) (by decide +kernel)) dL_law_66) ?_
    refine KX_step (st1 := [.int (nI (nx % 100000)), .ref (cb 0 0)]) (fun H locs ls hl K => lv_irem hx hb dL_law_68 (by decide) (by rw [show ((nI nx) - (nI nx) / 100000 * 100000 : Int32) = (nI (nx % 100000)) from nI_mod (a := nx) (b := 100000) (by omega) (by omega) (by omega)]; exact K)) ?_
    refine KX_call (cells2 := 1000 + 2000 * i + 44) (slots2 := 20000 + 12000 * i + 264) (st0 := [.int (nI (nx % 100000)), .ref (cb 0 0)]) (rest := []) hE ho (sp2b (c_refuses l hfl D cs cb (k := k) (n := nx % 100000) (by omega))) (va_cwS 2 hts gN_law_L_refuses rfl rfl rfl (by decide +kernel) ⟨(Nat.le_of_ble_eq_true rfl), (Nat.le_of_ble_eq_true rfl)⟩) rfl rfl (Nat.le_of_ble_eq_true rfl) ⟨(show 1000 + 2000 * i + 4 + 40 ≤ 663680 by omega), (show 20000 + 12000 * i + 24 + 240 ≤ 7110428 by omega)⟩ dL_law_69 (by omega) (by omega) ?_
    refine KX_if (fun H locs ls hl => lv_if_eq (tgt := 182) hx hb dL_law_72 (by decide)) (fun q => absurd q n10) (fun _ => ?_)
    refine KX_step (fun H locs ls hl => lv_aload_n hx hb dL_law_75 rfl (lv_at hl 5 rfl)) ?_
    refine KX_step (fun H locs ls hl => lv_iload hx hb dL_law_76 (lv_at hl 1 rfl)) ?_
    refine KX_call (cells2 := 1000 + 2000 * i + 48) (slots2 := 20000 + 12000 * i + 288) (st0 := [.int (nI nx), .ref (cb 0 0)]) (rest := []) hE ho (sp2b (hact cb)) (va_cwS 2 hts gN_law_L_act rfl rfl rfl (by decide +kernel) ⟨(Nat.le_of_ble_eq_true rfl), (Nat.le_of_ble_eq_true rfl)⟩) rfl rfl (Nat.le_of_ble_eq_true rfl) ⟨(show 1000 + 2000 * i + 44 + 4 ≤ 663680 by omega), (show 20000 + 12000 * i + 264 + 24 ≤ 7110428 by omega)⟩ dL_law_78 (by omega) (by omega) ?_
    refine KX_step (fun H locs ls hl => lv_iload hx hb dL_law_81 (lv_at hl 0 rfl)) ?_
    refine KX_if (fun H locs ls hl => lv_icmp_ne (tgt := 182) hx hb dL_law_83 (by decide)) (fun q => absurd rfl q) (fun _ => ?_)
    refine KX_step (fun H locs ls hl => lv_aload_n hx hb dL_law_86 rfl (lv_at hl 5 rfl)) ?_
    refine KX_step (fun H locs ls hl => lv_iload hx hb dL_law_87 (lv_at hl 1 rfl)) ?_
    refine KX_step (fun H locs ls hl => lv_sipush (v := 1000) hx hb dL_law_89 (by decide)) ?_
    refine KX_step (st1 := [.int (nI (nx % 1000)), .ref (cb 0 0)]) (fun H locs ls hl K => lv_irem hx hb dL_law_92 (by decide) (by rw [show ((nI nx) - (nI nx) / 1000 * 1000 : Int32) = (nI (nx % 1000)) from nI_mod (a := nx) (b := 1000) (by omega) (by omega) (by omega)]; exact K)) ?_
    refine KX_call (cells2 := 1000 + 2000 * i + 88) (slots2 := 20000 + 12000 * i + 528) (st0 := [.int (nI (nx % 1000)), .ref (cb 0 0)]) (rest := []) hE ho (sp2b (c_refuses l hfl D cs cb (k := k2) (n := nx % 1000) (by omega))) (va_cwS 2 hts gN_law_L_refuses rfl rfl rfl (by decide +kernel) ⟨(Nat.le_of_ble_eq_true rfl), (Nat.le_of_ble_eq_true rfl)⟩) rfl rfl (Nat.le_of_ble_eq_true rfl) ⟨(show 1000 + 2000 * i + 48 + 40 ≤ 663680 by omega), (show 20000 + 12000 * i + 288 + 240 ≤ 7110428 by omega)⟩ dL_law_93 (by omega) (by omega) ?_
    refine KX_if (fun H locs ls hl => lv_if_eq (tgt := 182) hx hb dL_law_96 (by decide)) (fun q => absurd q n10) (fun _ => ?_)
    refine KX_step (fun H locs ls hl => lv_aload_n hx hb dL_law_99 rfl (lv_at hl 6 rfl)) ?_
    refine KX_step (fun H locs ls hl => lv_aload_n hx hb dL_law_100 rfl (lv_at hl 5 rfl)) ?_
    refine KX_step (fun H locs ls hl => lv_iload hx hb dL_law_101 (lv_at hl 1 rfl)) ?_
    refine KX_step (fun H locs ls hl => lv_sipush (v := 5000) hx hb dL_law_103 (by decide)) ?_
    refine KX_step (st1 := [.int (nI (nx % 5000)), .ref (cb 0 0), .ref (ca 0 0)]) (fun H locs ls hl K => lv_irem hx hb dL_law_106 (by decide) (by rw [show ((nI nx) - (nI nx) / 5000 * 5000 : Int32) = (nI (nx % 5000)) from nI_mod (a := nx) (b := 5000) (by omega) (by omega) (by omega)]; exact K)) ?_
    refine KX_call (cells2 := 1000 + 2000 * i + 488) (slots2 := 20000 + 12000 * i + 2928) (st0 := [.int (nI (nx % 5000)), .ref (cb 0 0), .ref (ca 0 0)]) (rest := []) hE ho (sp2 (c_alike l hfl D cs ca cb (k := k2) (n := nx % 5000) (by omega))) (va_cwS 3 hts gN_law_L_alike rfl rfl rfl (by decide +kernel) ⟨(Nat.le_of_ble_eq_true rfl), (Nat.le_of_ble_eq_true rfl)⟩) rfl rfl (Nat.le_of_ble_eq_true rfl) ⟨(show 1000 + 2000 * i + 88 + 400 ≤ 663680 by omega), (show 20000 + 12000 * i + 528 + 2400 ≤ 7110428 by omega)⟩ dL_law_107 (by omega) (by omega) ?_
    refine KX_if (fun H locs ls hl => lv_if_eq (tgt := 182) hx hb dL_law_110 (by decide)) (fun q => absurd q n10) (fun _ => ?_)
    refine KX_step (fun H locs ls hl => lv_iload hx hb dL_law_113 (lv_at hl 2 rfl)) ?_
    refine KX_step (fun H locs ls hl => lv_iconst (v := 2) hx hb dL_law_115 (by decide)) ?_
    refine KX_step (st1 := [.int (nI (i % 2))]) (fun H locs ls hl K => lv_irem hx hb dL_law_116 (by decide) (by rw [show ((nI i) - (nI i) / 2 * 2 : Int32) = (nI (i % 2)) from nI_mod (a := i) (b := 2) (by omega) (by omega) (by omega)]; exact K)) ?_
    have J : KX p l e room_1 s m #[Value.ref b] below meth c D (lwA s) 8 Q (f_2 k2 k2) (w_2 cs ca cb) [(7, .int r), (6, .int (nI nx)), (5, .int (nI i)), (4, .int 1), (3, .int (nI tn)), (2, .ref (cb 0 0)), (1, .ref (ca 0 0)), (0, .ref b)] [] 145 (1000 + 2000 * i + 1688) (20000 + 12000 * i + 10128) := by
      refine KX_step (fun H locs ls hl => lv_aload_n hx hb dL_law_145 rfl (lv_at hl 6 rfl)) ?_
      refine KX_step (fun H locs ls hl => lv_aload_n hx hb dL_law_146 rfl (lv_at hl 5 rfl)) ?_
      refine KX_step (fun H locs ls hl => lv_iload hx hb dL_law_147 (lv_at hl 1 rfl)) ?_
      refine KX_step (fun H locs ls hl => lv_bipush (v := 7) hx hb dL_law_149 (by decide)) ?_
      refine KX_step (st1 := [.int (nI (nx / 7)), .ref (cb 0 0), .ref (ca 0 0)]) (fun H locs ls hl K => lv_idiv hx hb dL_law_151 (by decide) (by rw [show ((nI nx) / 7 : Int32) = (nI (nx / 7)) from nI_div (a := nx) (b := 7) (by omega) (by omega) (by omega)]; exact K)) ?_
      refine KX_call (cells2 := 1000 + 2000 * i + 1888) (slots2 := 20000 + 12000 * i + 11328) (st0 := [.int (nI (nx / 7)), .ref (cb 0 0), .ref (ca 0 0)]) (rest := []) hE ho (sp2x (c_goes l hfl D cs ca cb (k := k2) (n := nx / 7) (T := 12 * i + 12) (by omega) hc2.1 (by omega))) (va_cwS 3 hts gN_law_L_goes rfl rfl rfl (by decide +kernel) ⟨(Nat.le_of_ble_eq_true rfl), (Nat.le_of_ble_eq_true rfl)⟩) rfl rfl (Nat.le_of_ble_eq_true rfl) ⟨(show 1000 + 2000 * i + 1688 + 200 ≤ 663680 by omega), (show 20000 + 12000 * i + 10128 + 1200 ≤ 7110428 by omega)⟩ dL_law_152 (by omega) (by omega) ?_
      refine KX_if (fun H locs ls hl => lv_if_eq (tgt := 182) hx hb dL_law_155 (by decide)) (fun q => absurd q n10) (fun _ => ?_)
      refine KX_step (fun H locs ls hl => lv_iload hx hb dL_law_158 (lv_at hl 2 rfl)) ?_
      refine KX_step (fun H locs ls hl => lv_iconst (v := 3) hx hb dL_law_160 (by decide)) ?_
      refine KX_step (st1 := [.int (nI (i % 3))]) (fun H locs ls hl K => lv_irem hx hb dL_law_161 (by decide) (by rw [show ((nI i) - (nI i) / 3 * 3 : Int32) = (nI (i % 3)) from nI_mod (a := i) (b := 3) (by omega) (by omega) (by omega)]; exact K)) ?_
      refine KX_ex (fun t => ?_)
      refine KX_fact (F := t ≤ 14) (fun u hu => hu.1) (fun ht => ?_)
      refine KX_imp (Φ2 := f_2 (trm t k2) (trm t k2)) (fun u hu => hu.2) ?_
      by_cases h3 : i % 3 = 0
      · refine KX_if (fun H locs ls hl => lv_if_gt (tgt := 178) hx hb dL_law_162 (by decide)) (fun q => absurd q (by rw [h3]; decide)) (fun _ => ?_)
        refine KX_step (fun H locs ls hl => lv_aload_n hx hb dL_law_165 rfl (lv_at hl 6 rfl)) ?_
        refine KX_step (fun H locs ls hl => lv_aload_n hx hb dL_law_166 rfl (lv_at hl 5 rfl)) ?_
        refine KX_step (fun H locs ls hl => lv_iload hx hb dL_law_167 (lv_at hl 1 rfl)) ?_
        refine KX_step (fun H locs ls hl => lv_bipush (v := 11) hx hb dL_law_169 (by decide)) ?_
        refine KX_step (st1 := [.int (nI (nx / 11)), .ref (cb 0 0), .ref (ca 0 0)]) (fun H locs ls hl K => lv_idiv hx hb dL_law_171 (by decide) (by rw [show ((nI nx) / 11 : Int32) = (nI (nx / 11)) from nI_div (a := nx) (b := 11) (by omega) (by omega) (by omega)]; exact K)) ?_
        refine KX_call (cells2 := 1000 + 2000 * i + 1988) (slots2 := 20000 + 12000 * i + 11928) (st0 := [.int (nI (nx / 11)), .ref (cb 0 0), .ref (ca 0 0)]) (rest := []) hE ho (sp2x (c_least l hfl D cs ca cb (k := trm t k2) (n := nx / 11) (by omega))) (va_cwS 3 hts gN_law_L_least rfl rfl rfl (by decide +kernel) ⟨(Nat.le_of_ble_eq_true rfl), (Nat.le_of_ble_eq_true rfl)⟩) rfl rfl (Nat.le_of_ble_eq_true rfl) ⟨(show 1000 + 2000 * i + 1888 + 100 ≤ 663680 by omega), (show 20000 + 12000 * i + 11328 + 600 ≤ 7110428 by omega)⟩ dL_law_172 (by omega) (by omega) ?_
        refine KX_if (fun H locs ls hl => lv_if_eq (tgt := 182) hx hb dL_law_175 (by decide)) (fun q => absurd q n10) (fun _ => ?_)
        refine KX_step (fun H locs ls hl => lv_iconst (v := 1) hx hb dL_law_178 (by decide)) ?_
        refine KX_step (fun H locs ls hl => lv_goto (tgt := 183) hx hb dL_law_179 (by decide)) ?_
        refine KX_store (lv1 := [(4, .int 1), (7, .int r), (6, .int (nI nx)), (5, .int (nI i)), (3, .int (nI tn)), (2, .ref (cb 0 0)), (1, .ref (ca 0 0)), (0, .ref b)]) (fun H locs ls hl K => lv_istore hx hb dL_law_183 hl (by decide) rfl K) ?_
        refine KX_store (lv1 := [(5, .int (nI (i + 1))), (4, .int 1), (7, .int r), (6, .int (nI nx)), (3, .int (nI tn)), (2, .ref (cb 0 0)), (1, .ref (ca 0 0)), (0, .ref b)]) (fun H locs ls hl K => lv_iinc (k := 3) (lv' := [(5, .int (nI (i + 1))), (4, .int 1), (7, .int r), (6, .int (nI nx)), (3, .int (nI tn)), (2, .ref (cb 0 0)), (1, .ref (ca 0 0)), (0, .ref b)]) hx hb dL_law_185 hl rfl (nI_1 _) (by decide) rfl K) ?_
        refine KX_step (fun H locs ls hl => lv_goto (tgt := 34) hx hb dL_law_188 (by decide)) ?_
        refine KX_sub (lv1 := [(5, .int (nI (i + 1))), (4, .int 1), (3, .int (nI tn)), (2, .ref (cb 0 0)), (1, .ref (ca 0 0)), (0, .ref b)]) [0, 1, 4, 5, 6, 7] rfl ?_
        refine KX_imp (Φ2 := fun u : CV × CV => ∃ k, CI (12 * (i + 1)) k ∧ f_2 k k u) (fun u hu => ?_) ?_
        · obtain ⟨t2, ht2, hu⟩ := hu
          exact ⟨_, CI_mono (by omega) (CI_trm (CI_trm hc2)), hu⟩
        exact KX_wid (by omega) (by omega) (ih (i + 1) (by omega))
      · refine KX_if (fun H locs ls hl => lv_if_gt (tgt := 178) hx hb dL_law_162 (by decide)) (fun _ => ?_) (fun q => absurd (nI_lt (a := 0) (by omega) (by omega)) q)
        refine KX_step (fun H locs ls hl => lv_iconst (v := 1) hx hb dL_law_178 (by decide)) ?_
        refine KX_step (fun H locs ls hl => lv_goto (tgt := 183) hx hb dL_law_179 (by decide)) ?_
        refine KX_store (lv1 := [(4, .int 1), (7, .int r), (6, .int (nI nx)), (5, .int (nI i)), (3, .int (nI tn)), (2, .ref (cb 0 0)), (1, .ref (ca 0 0)), (0, .ref b)]) (fun H locs ls hl K => lv_istore hx hb dL_law_183 hl (by decide) rfl K) ?_
        refine KX_store (lv1 := [(5, .int (nI (i + 1))), (4, .int 1), (7, .int r), (6, .int (nI nx)), (3, .int (nI tn)), (2, .ref (cb 0 0)), (1, .ref (ca 0 0)), (0, .ref b)]) (fun H locs ls hl K => lv_iinc (k := 3) (lv' := [(5, .int (nI (i + 1))), (4, .int 1), (7, .int r), (6, .int (nI nx)), (3, .int (nI tn)), (2, .ref (cb 0 0)), (1, .ref (ca 0 0)), (0, .ref b)]) hx hb dL_law_185 hl rfl (nI_1 _) (by decide) rfl K) ?_
        refine KX_step (fun H locs ls hl => lv_goto (tgt := 34) hx hb dL_law_188 (by decide)) ?_
        refine KX_sub (lv1 := [(5, .int (nI (i + 1))), (4, .int 1), (3, .int (nI tn)), (2, .ref (cb 0 0)), (1, .ref (ca 0 0)), (0, .ref b)]) [0, 1, 4, 5, 6, 7] rfl ?_
        refine KX_imp (Φ2 := fun u : CV × CV => ∃ k, CI (12 * (i + 1)) k ∧ f_2 k k u) (fun u hu => ⟨_, CI_mono (by omega) (CI_trm hc2), hu⟩) ?_
        exact KX_wid (by omega) (by omega) (ih (i + 1) (by omega))
    rcases Nat.mod_two_eq_zero_or_one i with hp | hp
    · refine KX_if (fun H locs ls hl => lv_if_ne (tgt := 134) hx hb dL_law_117 (by decide)) (fun q => absurd (congrArg nI hp) q) (fun _ => ?_)
      refine KX_step (fun H locs ls hl => lv_aload_n hx hb dL_law_120 rfl (lv_at hl 6 rfl)) ?_
      refine KX_step (fun H locs ls hl => lv_iload hx hb dL_law_121 (lv_at hl 1 rfl)) ?_
      refine KX_step (fun H locs ls hl => lv_iconst (v := 3) hx hb dL_law_123 (by decide)) ?_
      refine KX_step (st1 := [.int (nI (nx / 3)), .ref (ca 0 0)]) (fun H locs ls hl K => lv_idiv hx hb dL_law_124 (by decide) (by rw [show ((nI nx) / 3 : Int32) = (nI (nx / 3)) from nI_div (a := nx) (b := 3) (by omega) (by omega) (by omega)]; exact K)) ?_
      refine KX_call (cells2 := 1000 + 2000 * i + 1688) (slots2 := 20000 + 12000 * i + 10128) (st0 := [.int (nI (nx / 3)), .ref (ca 0 0)]) (rest := []) hE ho (sp2a (c_holds l hfl D cs ca (k := k2) (n := nx / 3) (T := 12 * i + 12) (by omega) (by omega) hc2.1)) (va_cwS 2 hts gN_law_L_holds rfl rfl rfl (by decide +kernel) ⟨(Nat.le_of_ble_eq_true rfl), (Nat.le_of_ble_eq_true rfl)⟩) rfl rfl (Nat.le_of_ble_eq_true rfl) ⟨(show 1000 + 2000 * i + 488 + 1200 ≤ 663680 by omega), (show 20000 + 12000 * i + 2928 + 7200 ≤ 7110428 by omega)⟩ dL_law_125 (by omega) (by omega) ?_
      refine KX_if (fun H locs ls hl => lv_if_eq (tgt := 182) hx hb dL_law_128 (by decide)) (fun q => absurd q n10) (fun _ => ?_)
      refine KX_step (fun H locs ls hl => lv_goto (tgt := 145) hx hb dL_law_131 (by decide)) ?_
      exact KX_wid (by omega) (by omega) J
    · refine KX_if (fun H locs ls hl => lv_if_ne (tgt := 134) hx hb dL_law_117 (by decide)) (fun _ => ?_) (fun q => absurd q (nI_ne1 hp))
      refine KX_step (fun H locs ls hl => lv_aload_n hx hb dL_law_134 rfl (lv_at hl 5 rfl)) ?_
      refine KX_step (fun H locs ls hl => lv_iload hx hb dL_law_135 (lv_at hl 1 rfl)) ?_
      refine KX_step (fun H locs ls hl => lv_iconst (v := 3) hx hb dL_law_137 (by decide)) ?_
      refine KX_step (st1 := [.int (nI (nx / 3)), .ref (cb 0 0)]) (fun H locs ls hl K => lv_idiv hx hb dL_law_138 (by decide) (by rw [show ((nI nx) / 3 : Int32) = (nI (nx / 3)) from nI_div (a := nx) (b := 3) (by omega) (by omega) (by omega)]; exact K)) ?_
      refine KX_call (cells2 := 1000 + 2000 * i + 1688) (slots2 := 20000 + 12000 * i + 10128) (st0 := [.int (nI (nx / 3)), .ref (cb 0 0)]) (rest := []) hE ho (sp2b (c_holds l hfl D cs cb (k := k2) (n := nx / 3) (T := 12 * i + 12) (by omega) (by omega) hc2.1)) (va_cwS 2 hts gN_law_L_holds rfl rfl rfl (by decide +kernel) ⟨(Nat.le_of_ble_eq_true rfl), (Nat.le_of_ble_eq_true rfl)⟩) rfl rfl (Nat.le_of_ble_eq_true rfl) ⟨(show 1000 + 2000 * i + 488 + 1200 ≤ 663680 by omega), (show 20000 + 12000 * i + 2928 + 7200 ≤ 7110428 by omega)⟩ dL_law_139 (by omega) (by omega) ?_
      refine KX_if (fun H locs ls hl => lv_if_eq (tgt := 182) hx hb dL_law_142 (by decide)) (fun q => absurd q n10) (fun _ => ?_)
      exact KX_wid (by omega) (by omega) J
set_option maxHeartbeats 4000000 in
set_option maxRecDepth 100000 in
theorem law_k {p : Program} {l : Launch} {e : Env} {s : State} {m : MethodId} {below : List Frame} {meth : Method} {c : Code} {D : va_G} {cs : Nat → ClassId} {Q : State → Prop} {ca cb : Nat → Nat → Nat} {b L : Nat} {xs : Nat → Int32} {y : MethodName} {rt : Option FieldType} (hfl : l.stackTraces = false) (hE : kE p s m #[Value.ref b] meth c D cs y lw_tbl cL_law 8 rt (lwA s)) (ho : RL = y.cls) (hL : L ≤ 260) (hX : va_X b L xs s s.heap) (hbl : b < s.heap.size) (kr : ∀ i, i ≤ 34 → ∀ (lv : List (Nat × Value)) (pc cells slots : Nat), cells ≤ 663680 → slots ≤ 7110428 → decode cL_law pc = .ok (.ireturn, 1) → KX p l e room_1 s m #[Value.ref b] below meth c D (lwA s) 8 Q (fun u : CV × CV => ∃ k, CI (12 * i) k ∧ f_2 k k u) (w_2 cs ca cb) lv [.int 1] pc cells slots) : KX p l e room_1 s m #[Value.ref b] below meth c D (lwA s) 8 Q (fun u : CV × CV => ∃ k, CI (12 * 0) k ∧ f_2 k k u) (w_2 cs ca cb) [(2, .ref (cb 0 0)), (1, .ref (ca 0 0)), (0, .ref b)] [] 16 900 19000 := by
  obtain ⟨hx, hb, hr, hlocks, hml, hown, hts, hK, hA, hG, hnm⟩ := id hE
  have hown : s.vm.findClass RL = some m.cls := by rw [ho]; exact hown
  have hbA : ¬ lwA s b := Nat.not_le.mpr hbl
  obtain ⟨nx, hnx, ex⟩ := cell_n L xs 0
  refine KX_step (fun H locs ls hl => lv_bipush (v := 14) hx hb dL_law_16 (by decide)) ?_
  refine KX_step (fun H locs ls hl => lv_aload_n hx hb dL_law_18 rfl (lv_at hl 2 rfl)) ?_
  refine KX_step (fun H locs ls hl => lv_iconst (v := 0) hx hb dL_law_19 (by decide)) ?_
  refine KX_cell (j := 0) hE ho hX hbl hbA (c_cell l D cs hL (by omega)) ex (va_cwS 2 hts gN_law_L_cell rfl rfl rfl (by decide +kernel) ⟨(Nat.le_of_ble_eq_true rfl), (Nat.le_of_ble_eq_true rfl)⟩) (Nat.le_of_ble_eq_true rfl) ⟨(show 900 + 0 ≤ 663680 by omega), (show 19000 + 0 ≤ 7110428 by omega)⟩ dL_law_20 ?_
  refine KX_step (fun H locs ls hl => lv_bipush (v := 21) hx hb dL_law_23 (by decide)) ?_
  refine KX_step (st1 := [.int (nI (nx % 21)), .int 14]) (fun H locs ls hl K => lv_irem hx hb dL_law_25 (by decide) (by rw [show ((nI nx) - (nI nx) / 21 * 21 : Int32) = (nI (nx % 21)) from nI_mod (a := nx) (b := 21) (by omega) (by omega) (by omega)]; exact K)) ?_
  refine KX_step (st1 := [.int (nI (14 + (nx % 21)))]) (fun H locs ls hl K => lv_iadd hx hb dL_law_26 (by rw [show (14 + (nI (nx % 21)) : Int32) = (nI (14 + (nx % 21))) from nI_add (14) (nx % 21)]; exact K)) ?_
  refine KX_store (lv1 := [(3, .int (nI (14 + (nx % 21)))), (2, .ref (cb 0 0)), (1, .ref (ca 0 0)), (0, .ref b)]) (fun H locs ls hl K => lv_istore_n hx hb dL_law_27 rfl hl (by decide) rfl K) ?_
  refine KX_step (fun H locs ls hl => lv_iconst (v := 1) hx hb dL_law_28 (by decide)) ?_
  refine KX_store (lv1 := [(4, .int 1), (3, .int (nI (14 + (nx % 21)))), (2, .ref (cb 0 0)), (1, .ref (ca 0 0)), (0, .ref b)]) (fun H locs ls hl K => lv_istore hx hb dL_law_29 hl (by decide) rfl K) ?_
  refine KX_step (fun H locs ls hl => lv_iconst (v := 0) hx hb dL_law_31 (by decide)) ?_
  refine KX_store (lv1 := [(5, .int 0), (4, .int 1), (3, .int (nI (14 + (nx % 21)))), (2, .ref (cb 0 0)), (1, .ref (ca 0 0)), (0, .ref b)]) (fun H locs ls hl K => lv_istore hx hb dL_law_32 hl (by decide) rfl K) ?_
  refine KX_sub (lv1 := [(5, .int 0), (4, .int 1), (3, .int (nI (14 + (nx % 21)))), (2, .ref (cb 0 0)), (1, .ref (ca 0 0)), (0, .ref b)]) [0, 1, 2, 3, 4, 5] rfl ?_
  exact KX_wid (by omega) (by omega) (law_l (tn := 14 + nx % 21) hfl hE ho hL hX hbl (by omega) kr (14 + nx % 21) 0 (by omega))
