/-! p29: a pipe sounds when that was told. -/
set_option maxHeartbeats 4000000 in
set_option maxRecDepth 100000 in
theorem goes_w {p : Program} {l : Launch} {e : Env} {s : State} {m : MethodId} {args : Array Value} {below : List Frame} {meth : Method} {c : Code} {D : va_G} {cs : Nat → ClassId} {A : Nat → Prop} {Q : State → Prop} {ca cb : Nat → Nat → Nat} (hfl : l.stackTraces = false) {k : KC} {n M : Nat} (m0 : k.1 1 = nI M) (hM : M ≤ 12) {o : OV} {T : Nat} {z : Int32} (hn : n < 2 ^ 31) (hR : RF o k.1) (he : EI T k.1) (hT : T + 100 ≤ BIG) (hz : P_snd k.1 (n % 6) z) (hsv : ∀ cv, QR cv k → QR (k_X5_soundsIn cv (nI (n % 6))).2.2 k ∧ aX (k_X5_soundsIn cv (nI (n % 6))) = z) (hE : kE p s m args meth c D cs yL_goes wsN_goes cL_goes 14 (some .boolean) A) (kr : ∀ t, t ≤ 14 → ∀ (lv : List (Nat × Value)) (pc cells slots : Nat), cells ≤ 200 → slots ≤ 1200 → decode cL_goes pc = .ok (.ireturn, 1) → KX p l e RM_goes s m args below meth c D A 14 Q (f_2 (trm t k) (trm t k)) (w_2 cs ca cb) lv [.int 1] pc cells slots) : KX p l e RM_goes s m args below meth c D A 14 Q (f_2 k k) (w_2 cs ca cb) [(0, .ref (ca 0 0)), (1, .ref (cb 0 0)), (2, .int (nI n))] [] 0 0 0 := by
  obtain ⟨hx, hb, hr, hlocks, hml, hown, hts, hK, hA, hG, hnm⟩ := id hE
  have hown : s.vm.findClass RL = some m.cls := hown
  have hBB : BIG = 1000000 := rfl
  have ht0 := he.1.2
  refine KX_step (fun H locs ls hl => lv_iload_n hx hb dL_goes_0 rfl (lv_at hl 2 rfl)) ?_
  refine KX_step (fun H locs ls hl => lv_bipush (v := 6) hx hb dL_goes_1 (by decide)) ?_
  refine KX_step (st1 := [.int (nI (n % 6))]) (fun H locs ls hl K => lv_irem hx hb dL_goes_3 (by decide) (by rw [show ((nI n) - (nI n) / 6 * 6 : Int32) = (nI (n % 6)) from nI_mod (a := n) (b := 6) (by omega) (by omega) (by omega)]; exact K)) ?_
  refine KX_store (lv1 := [(3, .int (nI (n % 6))), (0, .ref (ca 0 0)), (1, .ref (cb 0 0)), (2, .int (nI n))]) (fun H locs ls hl K => lv_istore_n hx hb dL_goes_4 rfl hl (by decide) rfl K) ?_
  refine KX_step (fun H locs ls hl => lv_aload_n hx hb dL_goes_5 rfl (lv_at hl 1 rfl)) ?_
  refine KX_step (fun H locs ls hl => lv_iconst (v := 5) hx hb dL_goes_6 (by decide)) ?_
  refine KX_step (fun H locs ls hl => lv_iload_n hx hb dL_goes_7 rfl (lv_at hl 0 rfl)) ?_
  refine KX_step (fun H locs ls hl => lv_iconst (v := 3) hx hb dL_goes_8 (by decide)) ?_
  refine KX_step (fun H locs ls hl => lv_iconst (v := 0) hx hb dL_goes_9 (by decide)) ?_
  refine KX_call (cells2 := 1) (slots2 := 6) (st0 := [.int 0, .int 3, .int (nI (n % 6)), .int 5, .ref (ca 0 0)]) (rest := []) hE rfl (sp2a (q_call_5 l hfl D cs ca (nI (n % 6)) 3 0 (fun cv hq => (F_pipe (c := k) (p := n % 6) (w := 3) (by omega) (by omega) cv hq).imp id (fun q => q.trans ((vp_3 (by omega)).trans (he.2.2.2.2.2.1.1 (n % 6) (by omega)).1))))) (va_cwS 5 hts gN_goes_L_call rfl rfl rfl (by decide +kernel) ⟨(Nat.le_of_ble_eq_true rfl), (Nat.le_of_ble_eq_true rfl)⟩) rfl rfl (Nat.le_of_ble_eq_true rfl) ⟨(Nat.le_of_ble_eq_true rfl), (Nat.le_of_ble_eq_true rfl)⟩ dL_goes_10 (Nat.le_of_ble_eq_true rfl) (Nat.le_of_ble_eq_true rfl) ?_
  refine KX_store (lv1 := [(4, .int (nI (gA k.1 (25 + n % 6)))), (3, .int (nI (n % 6))), (0, .ref (ca 0 0)), (1, .ref (cb 0 0)), (2, .int (nI n))]) (fun H locs ls hl K => lv_istore hx hb dL_goes_13 hl (by decide) rfl K) ?_
  refine KX_step (fun H locs ls hl => lv_aload_n hx hb dL_goes_15 rfl (lv_at hl 2 rfl)) ?_
  refine KX_step (fun H locs ls hl => lv_bipush (v := 16) hx hb dL_goes_16 (by decide)) ?_
  refine KX_step (fun H locs ls hl => lv_iload_n hx hb dL_goes_18 rfl (lv_at hl 1 rfl)) ?_
  refine KX_step (fun H locs ls hl => lv_iconst (v := 0) hx hb dL_goes_19 (by decide)) ?_
  refine KX_step (fun H locs ls hl => lv_iconst (v := 0) hx hb dL_goes_20 (by decide)) ?_
  refine KX_call (cells2 := 2) (slots2 := 12) (st0 := [.int 0, .int 0, .int (nI (n % 6)), .int 16, .ref (ca 0 0)]) (rest := []) hE rfl (sp2a (q_call_16 l hfl D cs ca (nI (n % 6)) 0 0 hsv)) (va_cwS 5 hts gN_goes_L_call rfl rfl rfl (by decide +kernel) ⟨(Nat.le_of_ble_eq_true rfl), (Nat.le_of_ble_eq_true rfl)⟩) rfl rfl (Nat.le_of_ble_eq_true rfl) ⟨(Nat.le_of_ble_eq_true rfl), (Nat.le_of_ble_eq_true rfl)⟩ dL_goes_21 (Nat.le_of_ble_eq_true rfl) (Nat.le_of_ble_eq_true rfl) ?_
  refine KX_store (lv1 := [(5, .int z), (4, .int (nI (gA k.1 (25 + n % 6)))), (3, .int (nI (n % 6))), (0, .ref (ca 0 0)), (1, .ref (cb 0 0)), (2, .int (nI n))]) (fun H locs ls hl K => lv_istore hx hb dL_goes_24 hl (by decide) rfl K) ?_
  refine KX_step (fun H locs ls hl => lv_iload hx hb dL_goes_26 (lv_at hl 0 rfl)) ?_
  refine KX_step (fun H locs ls hl => lv_iconst (v := (-1)) hx hb dL_goes_28 (by decide)) ?_
  have hp6 : n % 6 < 6 := by omega
  rcases hz with ⟨u, u1, u2, u3, u4, u5⟩ | ⟨u1, u2⟩
  · subst u3
    obtain ⟨e1, -, e3, e4⟩ := EI_it hR he u (by omega)
    have hw1 : (wtk k u).1 = itS u k.1 := wtk_1 (by omega)
    have hn1 := (e1.2.2.2.2.2.1.1 (n % 6) hp6)
    have hg2 := e1.1.2
    have hlt := EI_last hR he (m := u) (p := n % 6) (by omega) u1 hp6 ((snd_bt hp6).mp u4)
    refine KX_if (fun H locs ls hl => lv_icmp_ne (tgt := 37) hx hb dL_goes_29 (by decide)) (fun _ => ?_) (fun q => absurd q (nI_nm (by omega)))
    refine KX_step (fun H locs ls hl => lv_iload hx hb dL_goes_37 (lv_at hl 0 rfl)) ?_
    refine KX_store (lv1 := [(6, .int (nI u)), (5, .int (nI u)), (4, .int (nI (gA k.1 (25 + n % 6)))), (3, .int (nI (n % 6))), (0, .ref (ca 0 0)), (1, .ref (cb 0 0)), (2, .int (nI n))]) (fun H locs ls hl K => lv_istore hx hb dL_goes_39 hl (by decide) rfl K) ?_
    refine KX_step (fun H locs ls hl => lv_aload_n hx hb dL_goes_41 rfl (lv_at hl 4 rfl)) ?_
    refine KX_step (fun H locs ls hl => lv_iconst (v := 2) hx hb dL_goes_42 (by decide)) ?_
    refine KX_step (fun H locs ls hl => lv_bipush (v := 9) hx hb dL_goes_43 (by decide)) ?_
    refine KX_step (fun H locs ls hl => lv_iconst (v := 0) hx hb dL_goes_45 (by decide)) ?_
    refine KX_step (fun H locs ls hl => lv_iconst (v := 0) hx hb dL_goes_46 (by decide)) ?_
    refine KX_call (cells2 := 3) (slots2 := 18) (st0 := [.int 0, .int 0, .int 9, .int 2, .ref (ca 0 0)]) (rest := []) hE rfl (sp2a (q_call_2 l hfl D cs ca 9 0 0 (F_about (c := k) (i := 9) (by omega)))) (va_cwS 5 hts gN_goes_L_call rfl rfl rfl (by decide +kernel) ⟨(Nat.le_of_ble_eq_true rfl), (Nat.le_of_ble_eq_true rfl)⟩) rfl rfl (Nat.le_of_ble_eq_true rfl) ⟨(Nat.le_of_ble_eq_true rfl), (Nat.le_of_ble_eq_true rfl)⟩ dL_goes_47 (Nat.le_of_ble_eq_true rfl) (Nat.le_of_ble_eq_true rfl) ?_
    refine KX_store (lv1 := [(7, .int (k.1 9)), (6, .int (nI u)), (5, .int (nI u)), (4, .int (nI (gA k.1 (25 + n % 6)))), (3, .int (nI (n % 6))), (0, .ref (ca 0 0)), (1, .ref (cb 0 0)), (2, .int (nI n))]) (fun H locs ls hl K => lv_istore hx hb dL_goes_50 hl (by decide) rfl K) ?_
    refine KX_step (fun H locs ls hl => lv_aload_n hx hb dL_goes_52 rfl (lv_at hl 5 rfl)) ?_
    refine KX_step (fun H locs ls hl => lv_aload_n hx hb dL_goes_53 rfl (lv_at hl 6 rfl)) ?_
    refine KX_step (fun H locs ls hl => lv_iload hx hb dL_goes_54 (lv_at hl 1 rfl)) ?_
    refine KX_call (cells2 := 7) (slots2 := 42) (st0 := [.int (nI u), .ref (cb 0 0), .ref (ca 0 0)]) (rest := []) hE rfl (sp2 (c_waits l hfl D cs ca cb (k := k) (n := u) (by omega) (by omega))) (va_cwS 3 hts gN_goes_L_waits rfl rfl rfl (by decide +kernel) ⟨(Nat.le_of_ble_eq_true rfl), (Nat.le_of_ble_eq_true rfl)⟩) rfl rfl (Nat.le_of_ble_eq_true rfl) ⟨(Nat.le_of_ble_eq_true rfl), (Nat.le_of_ble_eq_true rfl)⟩ dL_goes_56 (Nat.le_of_ble_eq_true rfl) (Nat.le_of_ble_eq_true rfl) ?_
    refine KX_if (fun H locs ls hl => lv_if_eq (tgt := 131) hx hb dL_goes_59 (by decide)) (fun q => absurd q n10) (fun _ => ?_)
    refine KX_step (fun H locs ls hl => lv_aload_n hx hb dL_goes_62 rfl (lv_at hl 5 rfl)) ?_
    refine KX_step (fun H locs ls hl => lv_iconst (v := 5) hx hb dL_goes_63 (by decide)) ?_
    refine KX_step (fun H locs ls hl => lv_iload_n hx hb dL_goes_64 rfl (lv_at hl 4 rfl)) ?_
    refine KX_step (fun H locs ls hl => lv_iconst (v := 3) hx hb dL_goes_65 (by decide)) ?_
    refine KX_step (fun H locs ls hl => lv_iconst (v := 0) hx hb dL_goes_66 (by decide)) ?_
    refine KX_call (cells2 := 8) (slots2 := 48) (st0 := [.int 0, .int 3, .int (nI (n % 6)), .int 5, .ref (ca 0 0)]) (rest := []) hE rfl (sp2a (q_call_5 l hfl D cs ca (nI (n % 6)) 3 0 (fun cv hq => (F_pipe (c := wtk k u) (p := n % 6) (w := 3) (by omega) (by omega) cv hq).imp id (fun q => q.trans ((vp_3 (by omega)).trans ((congrFun hw1 (25 + n % 6)).trans hn1.1)))))) (va_cwS 5 hts gN_goes_L_call rfl rfl rfl (by decide +kernel) ⟨(Nat.le_of_ble_eq_true rfl), (Nat.le_of_ble_eq_true rfl)⟩) rfl rfl (Nat.le_of_ble_eq_true rfl) ⟨(Nat.le_of_ble_eq_true rfl), (Nat.le_of_ble_eq_true rfl)⟩ dL_goes_67 (Nat.le_of_ble_eq_true rfl) (Nat.le_of_ble_eq_true rfl) ?_
    refine KX_step (fun H locs ls hl => lv_iload hx hb dL_goes_70 (lv_at hl 3 rfl)) ?_
    refine KX_if (fun H locs ls hl => lv_icmp_le (tgt := 79) hx hb dL_goes_72 (by decide)) (fun q => absurd q (nI_ge hlt (by omega))) (fun _ => ?_)
    refine KX_step (fun H locs ls hl => lv_iconst (v := 1) hx hb dL_goes_75 (by decide)) ?_
    refine KX_step (fun H locs ls hl => lv_goto (tgt := 80) hx hb dL_goes_76 (by decide)) ?_
    refine KX_step (fun H locs ls hl => lv_iload hx hb dL_goes_80 (lv_at hl 2 rfl)) ?_
    refine KX_step (fun H locs ls hl => lv_iconst (v := (-1)) hx hb dL_goes_82 (by decide)) ?_
    refine KX_if (fun H locs ls hl => lv_icmp_eq (tgt := 90) hx hb dL_goes_83 (by decide)) (fun q => absurd q (nI_nm (by omega))) (fun _ => ?_)
    refine KX_step (fun H locs ls hl => lv_iconst (v := 1) hx hb dL_goes_86 (by decide)) ?_
    refine KX_step (fun H locs ls hl => lv_goto (tgt := 91) hx hb dL_goes_87 (by decide)) ?_
    refine KX_if (fun H locs ls hl => lv_icmp_ne (tgt := 131) hx hb dL_goes_91 (by decide)) (fun q => absurd rfl q) (fun _ => ?_)
    refine KX_step (fun H locs ls hl => lv_iload hx hb dL_goes_94 (lv_at hl 2 rfl)) ?_
    refine KX_step (fun H locs ls hl => lv_iconst (v := (-1)) hx hb dL_goes_96 (by decide)) ?_
    refine KX_if (fun H locs ls hl => lv_icmp_eq (tgt := 117) hx hb dL_goes_97 (by decide)) (fun q => absurd q (nI_nm (by omega))) (fun _ => ?_)
    refine KX_step (fun H locs ls hl => lv_aload_n hx hb dL_goes_100 rfl (lv_at hl 5 rfl)) ?_
    refine KX_step (fun H locs ls hl => lv_iconst (v := 2) hx hb dL_goes_101 (by decide)) ?_
    refine KX_step (fun H locs ls hl => lv_bipush (v := 7) hx hb dL_goes_102 (by decide)) ?_
    refine KX_step (fun H locs ls hl => lv_iconst (v := 0) hx hb dL_goes_104 (by decide)) ?_
    refine KX_step (fun H locs ls hl => lv_iconst (v := 0) hx hb dL_goes_105 (by decide)) ?_
    refine KX_call (cells2 := 9) (slots2 := 54) (st0 := [.int 0, .int 0, .int 7, .int 2, .ref (ca 0 0)]) (rest := []) hE rfl (sp2a (q_call_2 l hfl D cs ca 7 0 0 (fun cv hq => (F_about (c := wtk k u) (i := 7) (by omega) cv hq).imp id (fun q => q.trans (congrFun hw1 7))))) (va_cwS 5 hts gN_goes_L_call rfl rfl rfl (by decide +kernel) ⟨(Nat.le_of_ble_eq_true rfl), (Nat.le_of_ble_eq_true rfl)⟩) rfl rfl (Nat.le_of_ble_eq_true rfl) ⟨(Nat.le_of_ble_eq_true rfl), (Nat.le_of_ble_eq_true rfl)⟩ dL_goes_106 (Nat.le_of_ble_eq_true rfl) (Nat.le_of_ble_eq_true rfl) ?_
    refine KX_step (fun H locs ls hl => lv_iload_n hx hb dL_goes_109 rfl (lv_at hl 4 rfl)) ?_
    refine KX_step (fun H locs ls hl => lv_ishr hx hb dL_goes_110) ?_
    refine KX_step (fun H locs ls hl => lv_iconst (v := 1) hx hb dL_goes_111 (by decide)) ?_
    refine KX_step (st1 := [.int 1]) (fun H locs ls hl K => lv_iand hx hb dL_goes_112 (by rw [show ((((itS u k.1) 7) >>> ((nI (n % 6)) &&& 31)) &&& 1 : Int32) = 1 from u4]; exact K)) ?_
    refine KX_step (fun H locs ls hl => lv_iconst (v := 1) hx hb dL_goes_113 (by decide)) ?_
    refine KX_if (fun H locs ls hl => lv_icmp_ne (tgt := 131) hx hb dL_goes_114 (by decide)) (fun q => absurd rfl q) (fun _ => ?_)
    refine KX_step (fun H locs ls hl => lv_aload_n hx hb dL_goes_117 rfl (lv_at hl 5 rfl)) ?_
    refine KX_step (fun H locs ls hl => lv_aload_n hx hb dL_goes_118 rfl (lv_at hl 6 rfl)) ?_
    refine KX_step (fun H locs ls hl => lv_iload hx hb dL_goes_119 (lv_at hl 1 rfl)) ?_
    refine KX_call (cells2 := 13) (slots2 := 78) (st0 := [.int (nI u), .ref (cb 0 0), .ref (ca 0 0)]) (rest := []) hE rfl (sp2 (c_undoes2 l hfl D cs ca cb (k := k) (n := u) (by omega) (by omega))) (va_cwS 3 hts gN_goes_L_undoes rfl rfl rfl (by decide +kernel) ⟨(Nat.le_of_ble_eq_true rfl), (Nat.le_of_ble_eq_true rfl)⟩) rfl rfl (Nat.le_of_ble_eq_true rfl) ⟨(Nat.le_of_ble_eq_true rfl), (Nat.le_of_ble_eq_true rfl)⟩ dL_goes_121 (Nat.le_of_ble_eq_true rfl) (Nat.le_of_ble_eq_true rfl) ?_
    refine KX_if (fun H locs ls hl => lv_if_eq (tgt := 131) hx hb dL_goes_124 (by decide)) (fun q => absurd q n10) (fun _ => ?_)
    refine KX_step (fun H locs ls hl => lv_iconst (v := 1) hx hb dL_goes_127 (by decide)) ?_
    refine KX_step (fun H locs ls hl => lv_goto (tgt := 132) hx hb dL_goes_128 (by decide)) ?_
    refine KX_store (lv1 := [(8, .int 1), (7, .int (k.1 9)), (6, .int (nI u)), (5, .int (nI u)), (4, .int (nI (gA k.1 (25 + n % 6)))), (3, .int (nI (n % 6))), (0, .ref (ca 0 0)), (1, .ref (cb 0 0)), (2, .int (nI n))]) (fun H locs ls hl K => lv_istore hx hb dL_goes_132 hl (by decide) rfl K) ?_
    refine KX_step (fun H locs ls hl => lv_iload hx hb dL_goes_134 (lv_at hl 2 rfl)) ?_
    refine KX_step (fun H locs ls hl => lv_iconst (v := 1) hx hb dL_goes_136 (by decide)) ?_
    by_cases hg1 : u = 1
    · refine KX_if (fun H locs ls hl => lv_icmp_le (tgt := 189) hx hb dL_goes_137 (by decide)) (fun _ => ?_) (fun q => absurd (by rw [hg1]; decide) q)
      refine KX_sub (lv1 := [(8, .int 1), (7, .int (k.1 9)), (0, .ref (ca 0 0)), (1, .ref (cb 0 0)), (2, .int (nI n))]) [0, 1, 6, 7, 8] rfl ?_
      have hd1 := dpt_b u
      exact KX_wid (by omega) (by omega) (goes_2 hfl m0 hM (by omega) hR he hT hE kr)
    · obtain ⟨f1, -, f3, f4⟩ := EI_it hR he (u - 1) (by omega)
      have hne := f4 (n % 6) hp6 (fun w h1 h2 => by cases hb9 : bt ((itS w k.1) 7) (n % 6); rfl; exact absurd ((snd_bt hp6).mpr hb9) (u5 w h1 (by omega)))
      have hw2 : (wtk (trm (dpt u) k) (u - 1)).1 = itS (u - 1) k.1 := wtk_1 (c := trm (dpt u) k) (by omega)
      refine KX_if (fun H locs ls hl => lv_icmp_le (tgt := 189) hx hb dL_goes_137 (by decide)) (fun q => absurd q (nI_ge (a := 1) (b := u) (by omega) (by omega))) (fun _ => ?_)
      refine KX_step (fun H locs ls hl => lv_iload hx hb dL_goes_140 (lv_at hl 0 rfl)) ?_
      refine KX_if (fun H locs ls hl => lv_if_eq (tgt := 189) hx hb dL_goes_142 (by decide)) (fun q => absurd q n10) (fun _ => ?_)
      refine KX_step (fun H locs ls hl => lv_aload_n hx hb dL_goes_145 rfl (lv_at hl 6 rfl)) ?_
      refine KX_step (fun H locs ls hl => lv_aload_n hx hb dL_goes_146 rfl (lv_at hl 7 rfl)) ?_
      refine KX_step (fun H locs ls hl => lv_iload hx hb dL_goes_147 (lv_at hl 2 rfl)) ?_
      refine KX_step (fun H locs ls hl => lv_iconst (v := 1) hx hb dL_goes_149 (by decide)) ?_
      refine KX_step (st1 := [.int (nI (u - 1)), .ref (cb 0 0), .ref (ca 0 0)]) (fun H locs ls hl K => lv_isub hx hb dL_goes_150 (by rw [show ((nI u) - 1 : Int32) = (nI (u - 1)) from nI_sub (a := u) (b := 1) (by omega)]; exact K)) ?_
      refine KX_call (cells2 := 17) (slots2 := 102) (st0 := [.int (nI (u - 1)), .ref (cb 0 0), .ref (ca 0 0)]) (rest := []) hE rfl (sp2 (c_waits l hfl D cs ca cb (k := trm (dpt u) k) (n := u - 1) (by omega) (by omega))) (va_cwS 3 hts gN_goes_L_waits rfl rfl rfl (by decide +kernel) ⟨(Nat.le_of_ble_eq_true rfl), (Nat.le_of_ble_eq_true rfl)⟩) rfl rfl (Nat.le_of_ble_eq_true rfl) ⟨(Nat.le_of_ble_eq_true rfl), (Nat.le_of_ble_eq_true rfl)⟩ dL_goes_151 (Nat.le_of_ble_eq_true rfl) (Nat.le_of_ble_eq_true rfl) ?_
      refine KX_if (fun H locs ls hl => lv_if_eq (tgt := 186) hx hb dL_goes_154 (by decide)) (fun q => absurd q n10) (fun _ => ?_)
      refine KX_step (fun H locs ls hl => lv_aload_n hx hb dL_goes_157 rfl (lv_at hl 6 rfl)) ?_
      refine KX_step (fun H locs ls hl => lv_iconst (v := 5) hx hb dL_goes_158 (by decide)) ?_
      refine KX_step (fun H locs ls hl => lv_iload_n hx hb dL_goes_159 rfl (lv_at hl 5 rfl)) ?_
      refine KX_step (fun H locs ls hl => lv_iconst (v := 3) hx hb dL_goes_160 (by decide)) ?_
      refine KX_step (fun H locs ls hl => lv_iconst (v := 0) hx hb dL_goes_161 (by decide)) ?_
      refine KX_call (cells2 := 18) (slots2 := 108) (st0 := [.int 0, .int 3, .int (nI (n % 6)), .int 5, .ref (ca 0 0)]) (rest := []) hE rfl (sp2a (q_call_5 l hfl D cs ca (nI (n % 6)) 3 0 (fun cv hq => (F_pipe (c := wtk (trm (dpt u) k) (u - 1)) (p := n % 6) (w := 3) (by omega) (by omega) cv hq).imp id (fun q => q.trans ((vp_3 (by omega)).trans ((congrFun hw2 (25 + n % 6)).trans (((f1.2.2.2.2.2.1.1 (n % 6) hp6).1).trans (congrArg nI hne)))))))) (va_cwS 5 hts gN_goes_L_call rfl rfl rfl (by decide +kernel) ⟨(Nat.le_of_ble_eq_true rfl), (Nat.le_of_ble_eq_true rfl)⟩) rfl rfl (Nat.le_of_ble_eq_true rfl) ⟨(Nat.le_of_ble_eq_true rfl), (Nat.le_of_ble_eq_true rfl)⟩ dL_goes_162 (Nat.le_of_ble_eq_true rfl) (Nat.le_of_ble_eq_true rfl) ?_
      refine KX_step (fun H locs ls hl => lv_iload hx hb dL_goes_165 (lv_at hl 4 rfl)) ?_
      refine KX_if (fun H locs ls hl => lv_icmp_ne (tgt := 186) hx hb dL_goes_167 (by decide)) (fun q => absurd rfl q) (fun _ => ?_)
      refine KX_step (fun H locs ls hl => lv_aload_n hx hb dL_goes_170 rfl (lv_at hl 6 rfl)) ?_
      refine KX_step (fun H locs ls hl => lv_aload_n hx hb dL_goes_171 rfl (lv_at hl 7 rfl)) ?_
      refine KX_step (fun H locs ls hl => lv_iload hx hb dL_goes_172 (lv_at hl 2 rfl)) ?_
      refine KX_step (fun H locs ls hl => lv_iconst (v := 1) hx hb dL_goes_174 (by decide)) ?_
      refine KX_step (st1 := [.int (nI (u - 1)), .ref (cb 0 0), .ref (ca 0 0)]) (fun H locs ls hl K => lv_isub hx hb dL_goes_175 (by rw [show ((nI u) - 1 : Int32) = (nI (u - 1)) from nI_sub (a := u) (b := 1) (by omega)]; exact K)) ?_
      refine KX_call (cells2 := 22) (slots2 := 132) (st0 := [.int (nI (u - 1)), .ref (cb 0 0), .ref (ca 0 0)]) (rest := []) hE rfl (sp2 (c_undoes2 l hfl D cs ca cb (k := trm (dpt u) k) (n := u - 1) (by omega) (by omega))) (va_cwS 3 hts gN_goes_L_undoes rfl rfl rfl (by decide +kernel) ⟨(Nat.le_of_ble_eq_true rfl), (Nat.le_of_ble_eq_true rfl)⟩) rfl rfl (Nat.le_of_ble_eq_true rfl) ⟨(Nat.le_of_ble_eq_true rfl), (Nat.le_of_ble_eq_true rfl)⟩ dL_goes_176 (Nat.le_of_ble_eq_true rfl) (Nat.le_of_ble_eq_true rfl) ?_
      refine KX_if (fun H locs ls hl => lv_if_eq (tgt := 186) hx hb dL_goes_179 (by decide)) (fun q => absurd q n10) (fun _ => ?_)
      refine KX_step (fun H locs ls hl => lv_iconst (v := 1) hx hb dL_goes_182 (by decide)) ?_
      refine KX_step (fun H locs ls hl => lv_goto (tgt := 187) hx hb dL_goes_183 (by decide)) ?_
      refine KX_store (lv1 := [(8, .int 1), (7, .int (k.1 9)), (6, .int (nI u)), (5, .int (nI u)), (4, .int (nI (gA k.1 (25 + n % 6)))), (3, .int (nI (n % 6))), (0, .ref (ca 0 0)), (1, .ref (cb 0 0)), (2, .int (nI n))]) (fun H locs ls hl K => lv_istore hx hb dL_goes_187 hl (by decide) rfl K) ?_
      refine KX_sub (lv1 := [(8, .int 1), (7, .int (k.1 9)), (0, .ref (ca 0 0)), (1, .ref (cb 0 0)), (2, .int (nI n))]) [0, 1, 6, 7, 8] rfl ?_
      have hd1 := dpt_b u
      have hd2 := dpt_b (u - 1)
      refine KX_imp (Φ2 := f_2 (trm (max (dpt (u - 1)) (dpt u)) k) (trm (max (dpt (u - 1)) (dpt u)) k)) (fun v hv => by rw [← trm_trm]; exact hv) ?_
      exact KX_wid (by omega) (by omega) (goes_2 hfl m0 hM (by omega) hR he hT hE kr)
  · subst u1
    obtain ⟨e1, -, e3, e4⟩ := EI_it hR he 100 (by omega)
    have hw1 : (wtk k 100).1 = itS 100 k.1 := wtk_1 (by omega)
    have hn1 := (e1.2.2.2.2.2.1.1 (n % 6) hp6)
    have hg2 := e1.1.2
    have heq := e4 (n % 6) hp6 (fun w h1 h2 => by cases hb9 : bt ((itS w k.1) 7) (n % 6); rfl; exact absurd ((snd_bt hp6).mpr hb9) (u2 w h1 h2))
    refine KX_if (fun H locs ls hl => lv_icmp_ne (tgt := 37) hx hb dL_goes_29 (by decide)) (fun q => absurd rfl q) (fun _ => ?_)
    refine KX_step (fun H locs ls hl => lv_bipush (v := (nI 100)) hx hb dL_goes_32 (by decide)) ?_
    refine KX_step (fun H locs ls hl => lv_goto (tgt := 39) hx hb dL_goes_34 (by decide)) ?_
    refine KX_store (lv1 := [(6, .int (nI 100)), (5, .int (-1)), (4, .int (nI (gA k.1 (25 + n % 6)))), (3, .int (nI (n % 6))), (0, .ref (ca 0 0)), (1, .ref (cb 0 0)), (2, .int (nI n))]) (fun H locs ls hl K => lv_istore hx hb dL_goes_39 hl (by decide) rfl K) ?_
    refine KX_step (fun H locs ls hl => lv_aload_n hx hb dL_goes_41 rfl (lv_at hl 4 rfl)) ?_
    refine KX_step (fun H locs ls hl => lv_iconst (v := 2) hx hb dL_goes_42 (by decide)) ?_
    refine KX_step (fun H locs ls hl => lv_bipush (v := 9) hx hb dL_goes_43 (by decide)) ?_
    refine KX_step (fun H locs ls hl => lv_iconst (v := 0) hx hb dL_goes_45 (by decide)) ?_
    refine KX_step (fun H locs ls hl => lv_iconst (v := 0) hx hb dL_goes_46 (by decide)) ?_
    refine KX_call (cells2 := 3) (slots2 := 18) (st0 := [.int 0, .int 0, .int 9, .int 2, .ref (ca 0 0)]) (rest := []) hE rfl (sp2a (q_call_2 l hfl D cs ca 9 0 0 (F_about (c := k) (i := 9) (by omega)))) (va_cwS 5 hts gN_goes_L_call rfl rfl rfl (by decide +kernel) ⟨(Nat.le_of_ble_eq_true rfl), (Nat.le_of_ble_eq_true rfl)⟩) rfl rfl (Nat.le_of_ble_eq_true rfl) ⟨(Nat.le_of_ble_eq_true rfl), (Nat.le_of_ble_eq_true rfl)⟩ dL_goes_47 (Nat.le_of_ble_eq_true rfl) (Nat.le_of_ble_eq_true rfl) ?_
    refine KX_store (lv1 := [(7, .int (k.1 9)), (6, .int (nI 100)), (5, .int (-1)), (4, .int (nI (gA k.1 (25 + n % 6)))), (3, .int (nI (n % 6))), (0, .ref (ca 0 0)), (1, .ref (cb 0 0)), (2, .int (nI n))]) (fun H locs ls hl K => lv_istore hx hb dL_goes_50 hl (by decide) rfl K) ?_
    refine KX_step (fun H locs ls hl => lv_aload_n hx hb dL_goes_52 rfl (lv_at hl 5 rfl)) ?_
    refine KX_step (fun H locs ls hl => lv_aload_n hx hb dL_goes_53 rfl (lv_at hl 6 rfl)) ?_
    refine KX_step (fun H locs ls hl => lv_iload hx hb dL_goes_54 (lv_at hl 1 rfl)) ?_
    refine KX_call (cells2 := 7) (slots2 := 42) (st0 := [.int (nI 100), .ref (cb 0 0), .ref (ca 0 0)]) (rest := []) hE rfl (sp2 (c_waits l hfl D cs ca cb (k := k) (n := 100) (by omega) (by omega))) (va_cwS 3 hts gN_goes_L_waits rfl rfl rfl (by decide +kernel) ⟨(Nat.le_of_ble_eq_true rfl), (Nat.le_of_ble_eq_true rfl)⟩) rfl rfl (Nat.le_of_ble_eq_true rfl) ⟨(Nat.le_of_ble_eq_true rfl), (Nat.le_of_ble_eq_true rfl)⟩ dL_goes_56 (Nat.le_of_ble_eq_true rfl) (Nat.le_of_ble_eq_true rfl) ?_
    refine KX_if (fun H locs ls hl => lv_if_eq (tgt := 131) hx hb dL_goes_59 (by decide)) (fun q => absurd q n10) (fun _ => ?_)
    refine KX_step (fun H locs ls hl => lv_aload_n hx hb dL_goes_62 rfl (lv_at hl 5 rfl)) ?_
    refine KX_step (fun H locs ls hl => lv_iconst (v := 5) hx hb dL_goes_63 (by decide)) ?_
    refine KX_step (fun H locs ls hl => lv_iload_n hx hb dL_goes_64 rfl (lv_at hl 4 rfl)) ?_
    refine KX_step (fun H locs ls hl => lv_iconst (v := 3) hx hb dL_goes_65 (by decide)) ?_
    refine KX_step (fun H locs ls hl => lv_iconst (v := 0) hx hb dL_goes_66 (by decide)) ?_
    refine KX_call (cells2 := 8) (slots2 := 48) (st0 := [.int 0, .int 3, .int (nI (n % 6)), .int 5, .ref (ca 0 0)]) (rest := []) hE rfl (sp2a (q_call_5 l hfl D cs ca (nI (n % 6)) 3 0 (fun cv hq => (F_pipe (c := wtk k 100) (p := n % 6) (w := 3) (by omega) (by omega) cv hq).imp id (fun q => q.trans ((vp_3 (by omega)).trans ((congrFun hw1 (25 + n % 6)).trans hn1.1)))))) (va_cwS 5 hts gN_goes_L_call rfl rfl rfl (by decide +kernel) ⟨(Nat.le_of_ble_eq_true rfl), (Nat.le_of_ble_eq_true rfl)⟩) rfl rfl (Nat.le_of_ble_eq_true rfl) ⟨(Nat.le_of_ble_eq_true rfl), (Nat.le_of_ble_eq_true rfl)⟩ dL_goes_67 (Nat.le_of_ble_eq_true rfl) (Nat.le_of_ble_eq_true rfl) ?_
    refine KX_step (fun H locs ls hl => lv_iload hx hb dL_goes_70 (lv_at hl 3 rfl)) ?_
    refine KX_if (fun H locs ls hl => lv_icmp_le (tgt := 79) hx hb dL_goes_72 (by decide)) (fun _ => ?_) (fun q => absurd (nI_le (Nat.le_of_eq heq) (by omega)) q)
    refine KX_step (fun H locs ls hl => lv_iconst (v := 0) hx hb dL_goes_79 (by decide)) ?_
    refine KX_step (fun H locs ls hl => lv_iload hx hb dL_goes_80 (lv_at hl 2 rfl)) ?_
    refine KX_step (fun H locs ls hl => lv_iconst (v := (-1)) hx hb dL_goes_82 (by decide)) ?_
    refine KX_if (fun H locs ls hl => lv_icmp_eq (tgt := 90) hx hb dL_goes_83 (by decide)) (fun _ => ?_) (fun q => absurd rfl q)
    refine KX_step (fun H locs ls hl => lv_iconst (v := 0) hx hb dL_goes_90 (by decide)) ?_
    refine KX_if (fun H locs ls hl => lv_icmp_ne (tgt := 131) hx hb dL_goes_91 (by decide)) (fun q => absurd rfl q) (fun _ => ?_)
    refine KX_step (fun H locs ls hl => lv_iload hx hb dL_goes_94 (lv_at hl 2 rfl)) ?_
    refine KX_step (fun H locs ls hl => lv_iconst (v := (-1)) hx hb dL_goes_96 (by decide)) ?_
    refine KX_if (fun H locs ls hl => lv_icmp_eq (tgt := 117) hx hb dL_goes_97 (by decide)) (fun _ => ?_) (fun q => absurd rfl q)
    refine KX_step (fun H locs ls hl => lv_aload_n hx hb dL_goes_117 rfl (lv_at hl 5 rfl)) ?_
    refine KX_step (fun H locs ls hl => lv_aload_n hx hb dL_goes_118 rfl (lv_at hl 6 rfl)) ?_
    refine KX_step (fun H locs ls hl => lv_iload hx hb dL_goes_119 (lv_at hl 1 rfl)) ?_
    refine KX_call (cells2 := 12) (slots2 := 72) (st0 := [.int (nI 100), .ref (cb 0 0), .ref (ca 0 0)]) (rest := []) hE rfl (sp2 (c_undoes2 l hfl D cs ca cb (k := k) (n := 100) (by omega) (by omega))) (va_cwS 3 hts gN_goes_L_undoes rfl rfl rfl (by decide +kernel) ⟨(Nat.le_of_ble_eq_true rfl), (Nat.le_of_ble_eq_true rfl)⟩) rfl rfl (Nat.le_of_ble_eq_true rfl) ⟨(Nat.le_of_ble_eq_true rfl), (Nat.le_of_ble_eq_true rfl)⟩ dL_goes_121 (Nat.le_of_ble_eq_true rfl) (Nat.le_of_ble_eq_true rfl) ?_
    refine KX_if (fun H locs ls hl => lv_if_eq (tgt := 131) hx hb dL_goes_124 (by decide)) (fun q => absurd q n10) (fun _ => ?_)
    refine KX_step (fun H locs ls hl => lv_iconst (v := 1) hx hb dL_goes_127 (by decide)) ?_
    refine KX_step (fun H locs ls hl => lv_goto (tgt := 132) hx hb dL_goes_128 (by decide)) ?_
    refine KX_store (lv1 := [(8, .int 1), (7, .int (k.1 9)), (6, .int (nI 100)), (5, .int (-1)), (4, .int (nI (gA k.1 (25 + n % 6)))), (3, .int (nI (n % 6))), (0, .ref (ca 0 0)), (1, .ref (cb 0 0)), (2, .int (nI n))]) (fun H locs ls hl K => lv_istore hx hb dL_goes_132 hl (by decide) rfl K) ?_
    refine KX_step (fun H locs ls hl => lv_iload hx hb dL_goes_134 (lv_at hl 2 rfl)) ?_
    refine KX_step (fun H locs ls hl => lv_iconst (v := 1) hx hb dL_goes_136 (by decide)) ?_
    obtain ⟨f1, -, f3, f4⟩ := EI_it hR he (100 - 1) (by omega)
    have hne := f4 (n % 6) hp6 (fun w h1 h2 => by cases hb9 : bt ((itS w k.1) 7) (n % 6); rfl; exact absurd ((snd_bt hp6).mpr hb9) (u2 w h1 (by omega)))
    have hw2 : (wtk (trm (dpt 100) k) (100 - 1)).1 = itS (100 - 1) k.1 := wtk_1 (c := trm (dpt 100) k) (by omega)
    refine KX_if (fun H locs ls hl => lv_icmp_le (tgt := 189) hx hb dL_goes_137 (by decide)) (fun q => absurd q (by decide)) (fun _ => ?_)
    refine KX_step (fun H locs ls hl => lv_iload hx hb dL_goes_140 (lv_at hl 0 rfl)) ?_
    refine KX_if (fun H locs ls hl => lv_if_eq (tgt := 189) hx hb dL_goes_142 (by decide)) (fun q => absurd q n10) (fun _ => ?_)
    refine KX_step (fun H locs ls hl => lv_aload_n hx hb dL_goes_145 rfl (lv_at hl 6 rfl)) ?_
    refine KX_step (fun H locs ls hl => lv_aload_n hx hb dL_goes_146 rfl (lv_at hl 7 rfl)) ?_
    refine KX_step (fun H locs ls hl => lv_iload hx hb dL_goes_147 (lv_at hl 2 rfl)) ?_
    refine KX_step (fun H locs ls hl => lv_iconst (v := 1) hx hb dL_goes_149 (by decide)) ?_
    refine KX_step (st1 := [.int (nI (100 - 1)), .ref (cb 0 0), .ref (ca 0 0)]) (fun H locs ls hl K => lv_isub hx hb dL_goes_150 (by rw [show ((nI 100) - 1 : Int32) = (nI (100 - 1)) from nI_sub (a := 100) (b := 1) (by omega)]; exact K)) ?_
    refine KX_call (cells2 := 16) (slots2 := 96) (st0 := [.int (nI (100 - 1)), .ref (cb 0 0), .ref (ca 0 0)]) (rest := []) hE rfl (sp2 (c_waits l hfl D cs ca cb (k := trm (dpt 100) k) (n := 100 - 1) (by omega) (by omega))) (va_cwS 3 hts gN_goes_L_waits rfl rfl rfl (by decide +kernel) ⟨(Nat.le_of_ble_eq_true rfl), (Nat.le_of_ble_eq_true rfl)⟩) rfl rfl (Nat.le_of_ble_eq_true rfl) ⟨(Nat.le_of_ble_eq_true rfl), (Nat.le_of_ble_eq_true rfl)⟩ dL_goes_151 (Nat.le_of_ble_eq_true rfl) (Nat.le_of_ble_eq_true rfl) ?_
    refine KX_if (fun H locs ls hl => lv_if_eq (tgt := 186) hx hb dL_goes_154 (by decide)) (fun q => absurd q n10) (fun _ => ?_)
    refine KX_step (fun H locs ls hl => lv_aload_n hx hb dL_goes_157 rfl (lv_at hl 6 rfl)) ?_
    refine KX_step (fun H locs ls hl => lv_iconst (v := 5) hx hb dL_goes_158 (by decide)) ?_
    refine KX_step (fun H locs ls hl => lv_iload_n hx hb dL_goes_159 rfl (lv_at hl 5 rfl)) ?_
    refine KX_step (fun H locs ls hl => lv_iconst (v := 3) hx hb dL_goes_160 (by decide)) ?_
    refine KX_step (fun H locs ls hl => lv_iconst (v := 0) hx hb dL_goes_161 (by decide)) ?_
    refine KX_call (cells2 := 17) (slots2 := 102) (st0 := [.int 0, .int 3, .int (nI (n % 6)), .int 5, .ref (ca 0 0)]) (rest := []) hE rfl (sp2a (q_call_5 l hfl D cs ca (nI (n % 6)) 3 0 (fun cv hq => (F_pipe (c := wtk (trm (dpt 100) k) (100 - 1)) (p := n % 6) (w := 3) (by omega) (by omega) cv hq).imp id (fun q => q.trans ((vp_3 (by omega)).trans ((congrFun hw2 (25 + n % 6)).trans (((f1.2.2.2.2.2.1.1 (n % 6) hp6).1).trans (congrArg nI hne)))))))) (va_cwS 5 hts gN_goes_L_call rfl rfl rfl (by decide +kernel) ⟨(Nat.le_of_ble_eq_true rfl), (Nat.le_of_ble_eq_true rfl)⟩) rfl rfl (Nat.le_of_ble_eq_true rfl) ⟨(Nat.le_of_ble_eq_true rfl), (Nat.le_of_ble_eq_true rfl)⟩ dL_goes_162 (Nat.le_of_ble_eq_true rfl) (Nat.le_of_ble_eq_true rfl) ?_
    refine KX_step (fun H locs ls hl => lv_iload hx hb dL_goes_165 (lv_at hl 4 rfl)) ?_
    refine KX_if (fun H locs ls hl => lv_icmp_ne (tgt := 186) hx hb dL_goes_167 (by decide)) (fun q => absurd rfl q) (fun _ => ?_)
    refine KX_step (fun H locs ls hl => lv_aload_n hx hb dL_goes_170 rfl (lv_at hl 6 rfl)) ?_
    refine KX_step (fun H locs ls hl => lv_aload_n hx hb dL_goes_171 rfl (lv_at hl 7 rfl)) ?_
    refine KX_step (fun H locs ls hl => lv_iload hx hb dL_goes_172 (lv_at hl 2 rfl)) ?_
    refine KX_step (fun H locs ls hl => lv_iconst (v := 1) hx hb dL_goes_174 (by decide)) ?_
    refine KX_step (st1 := [.int (nI (100 - 1)), .ref (cb 0 0), .ref (ca 0 0)]) (fun H locs ls hl K => lv_isub hx hb dL_goes_175 (by rw [show ((nI 100) - 1 : Int32) = (nI (100 - 1)) from nI_sub (a := 100) (b := 1) (by omega)]; exact K)) ?_
    refine KX_call (cells2 := 21) (slots2 := 126) (st0 := [.int (nI (100 - 1)), .ref (cb 0 0), .ref (ca 0 0)]) (rest := []) hE rfl (sp2 (c_undoes2 l hfl D cs ca cb (k := trm (dpt 100) k) (n := 100 - 1) (by omega) (by omega))) (va_cwS 3 hts gN_goes_L_undoes rfl rfl rfl (by decide +kernel) ⟨(Nat.le_of_ble_eq_true rfl), (Nat.le_of_ble_eq_true rfl)⟩) rfl rfl (Nat.le_of_ble_eq_true rfl) ⟨(Nat.le_of_ble_eq_true rfl), (Nat.le_of_ble_eq_true rfl)⟩ dL_goes_176 (Nat.le_of_ble_eq_true rfl) (Nat.le_of_ble_eq_true rfl) ?_
    refine KX_if (fun H locs ls hl => lv_if_eq (tgt := 186) hx hb dL_goes_179 (by decide)) (fun q => absurd q n10) (fun _ => ?_)
    refine KX_step (fun H locs ls hl => lv_iconst (v := 1) hx hb dL_goes_182 (by decide)) ?_
    refine KX_step (fun H locs ls hl => lv_goto (tgt := 187) hx hb dL_goes_183 (by decide)) ?_
    refine KX_store (lv1 := [(8, .int 1), (7, .int (k.1 9)), (6, .int (nI 100)), (5, .int (-1)), (4, .int (nI (gA k.1 (25 + n % 6)))), (3, .int (nI (n % 6))), (0, .ref (ca 0 0)), (1, .ref (cb 0 0)), (2, .int (nI n))]) (fun H locs ls hl K => lv_istore hx hb dL_goes_187 hl (by decide) rfl K) ?_
    refine KX_sub (lv1 := [(8, .int 1), (7, .int (k.1 9)), (0, .ref (ca 0 0)), (1, .ref (cb 0 0)), (2, .int (nI n))]) [0, 1, 6, 7, 8] rfl ?_
    have hd1 := dpt_b 100
    have hd2 := dpt_b (100 - 1)
    refine KX_imp (Φ2 := f_2 (trm (max (dpt (100 - 1)) (dpt 100)) k) (trm (max (dpt (100 - 1)) (dpt 100)) k)) (fun v hv => by rw [← trm_trm]; exact hv) ?_
    exact KX_wid (by omega) (by omega) (goes_2 hfl m0 hM (by omega) hR he hT hE kr)
theorem c_goes (l : Launch) (hfl : l.stackTraces = false) (D : va_G) (cs : Nat → ClassId) (ca cb : Nat → Nat → Nat) {k : KC} {n T : Nat} (hn : n < 2 ^ 31) (he : EI T k.1) (hT : T + 100 ≤ BIG) : ∀ v, f_2 k k v → kQ l yL_goes wsN_goes RM_goes 200 1200 D cs [.ref (ca 0 0), .ref (cb 0 0), .int (nI n)] (w_2 cs ca cb v) 1 (fun u => ∃ t, t ≤ 14 ∧ f_2 (trm t k) (trm t k) u) (w_2 cs ca cb) := by
  intro v hv
  obtain ⟨z, hz, hsv⟩ := R_sounds hv.1 (p := n % 6) (by omega)
  obtain ⟨M, hM, m0, -⟩ := RF_M (QR_R hv.1)
  exact kQ_of (U := CV × CV) (Φ := f_2 k k) (wc := w_2 cs ca cb) (cc := cL_goes) (maxL := 14) (ret := some .boolean) (by decide) rfl (Nat.le_of_ble_eq_true rfl) (fun p e s m below meth c A hE => goes_w hfl m0 hM hn (QR_R hv.1) he hT hz hsv hE (fun t ht lv pc cells slots h1 h2 hd => KX_ret (r := 1) (Φ1 := fun u => ∃ t, t ≤ 14 ∧ f_2 (trm t k) (trm t k) u) (w1 := w_2 cs ca cb) hE rfl rfl (fun u hu => ⟨u, ⟨t, ht, hu⟩, List.Perm.refl _⟩) h1 h2 hd)) v hv
