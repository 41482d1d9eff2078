/-! p29: what holds of an organ. -/
abbrev RM_holds : Room := { frames := 10, cells := 1200, slots := 7200, locals := 239 }
def mad (r : KR) : Nat → Nat
  | 0 => 0
  | j + 1 => gA r (37 + 4 * j + 3)
abbrev lnS (r : KR) : Nat → Nat := fun i => gA r (37 + 4 * i + 2)
abbrev cvS (r : KR) (N : Nat) : Nat → Nat := fun q => fb_ct (fun b => cvs r N q b) 24
theorem cov_1 {r : KR} {N k i : Nat} (hv : PV r k) (hk : k < N) (hi : i < gA r (37 + 4 * k + 2)) : cvs r N (gA r (37 + 4 * k)) ((gA r (37 + 4 * k + 1) + i) % 24) = true := by
  obtain ⟨p1, p2, p3, p4, -⟩ := hv
  refine cvs_t.mpr ⟨k, hk, ?_⟩
  unfold cv ov
  rw [decide_eq_true rfl, Bool.true_and]
  exact decide_eq_true (by omega)
theorem mad_lt {r : KR} {N V : Nat} (h : LV r N V) {j : Nat} (hj : j < N) : mad r j < gA r (37 + 4 * j + 3) := by
  cases j with
  | zero => exact (h.1 0 hj).2.1
  | succ j => exact h.2 j (j + 1) (by omega) hj
theorem mad_b {r : KR} {N V : Nat} (h : LV r N V) {j : Nat} (hj : j ≤ N) : mad r j ≤ V := by
  cases j with
  | zero => exact Nat.zero_le _
  | succ j => exact (h.1 j (by omega)).2.2
theorem i_sum {a b c : Int32} (x y : Nat) (h1 : a = nI x) (h2 : b = nI y) (h3 : c = nI (x + y)) : a + b = c := by rw [h1, h2, h3]; exact nI_add x y
set_option maxHeartbeats 4000000 in
set_option maxRecDepth 100000 in
theorem holds_4 {p : Program} {l : Launch} {e : Env} {s : State} {m : MethodId} {args : Array Value} {below : List Frame} {meth : Method} {c : Code} {D : va_G} {cs : Nat → ClassId} {A : Nat → Prop} {Q : State → Prop} {ca : Nat → Nat → Nat} (hfl : l.stackTraces = false) {k : KC} {o : OV} {N M n cb VV w6 T2 a : Nat} (hRC : RC o k.1 N M) (hn : n < 2 ^ 31) (h3 : k.1 3 = nI cb) (hcb : cb < 24) (v5 : k.1 5 = nI VV) (hVV : VV < 2 ^ 30) (hLV : LV k.1 N VV) (t2 : k.1 2 = nI T2) (hT2 : T2 < 2 ^ 30) (hW : ∀ j, j < M → ∃ w, w ≤ T2 ∧ k.1 (157 + 5 * j + 4) = nI w) (w6e : k.1 6 = nI w6) (hw6 : w6 ≤ 60) (hNS : ∀ q, q < 6 → k.1 (25 + q) = nI (gA k.1 (25 + q))) (hLS : ∀ q, q < 6 → k.1 (31 + q) = nI (gA k.1 (31 + q))) (h9 : k.1 9 = nI (fb_sm (fun q => gA k.1 (25 + q)) 6)) (h10 : k.1 10 = nI (fb_sm (fun q => gA k.1 (31 + q)) 6)) (hB8 : k.1 7 &&& (k.1 8 ^^^ -1) = 0) (hfu : P_full k.1 a) (hfv : ∀ cv, QR cv k → k_X5_fullest cv = nI a) (hrm : ∀ q, q < 6 → ∃ z, P_room k.1 q (1 + n % 6) z ∧ ∀ cv, QR cv k → QR (k_X5_room cv (nI q) (nI (1 + n % 6))).2.2 k ∧ aX (k_X5_room cv (nI q) (nI (1 + n % 6))) = z) (hE : kE p s m args meth c D cs yL_holds wsN_holds cL_holds 19 (some .boolean) A) (kr : ∀ (lv : List (Nat × Value)) (pc cells slots : Nat), cells ≤ 1200 → slots ≤ 7200 → decode cL_holds pc = .ok (.ireturn, 1) → KX p l e RM_holds s m args below meth c D A 19 Q (f_1 k) (w_1 cs ca) lv [.int 1] pc cells slots) : KX p l e RM_holds s m args below meth c D A 19 Q (f_1 k) (w_1 cs ca) [(14, .int (nI (fb_sm (cvS k.1 N) 6))), (13, .int (nI (fb_sm (ctp k.1 N) 6))), (12, .int (nI (fb_sm (fun q => gA k.1 (31 + q)) 6))), (11, .int (nI (fb_sm (fun q => gA k.1 (25 + q)) 6))), (10, .int (nI (fb_sm (ctb k.1) 24))), (9, .int 1), (6, .int (nI (fb_sm (lnS k.1) N))), (8, .int (nI a)), (5, .int (nI VV)), (4, .int (nI cb)), (3, .int (nI M)), (2, .int (nI N)), (0, .ref (ca 0 0)), (1, .int (nI n))] [] 691 1000 6000 := by
  obtain ⟨hx, hb, hr, hlocks, hml, hown, hts, hK, hA, hG, hnm⟩ := id hE
  have hown : s.vm.findClass RL = some m.cls := hown
  obtain ⟨⟨n0, hN, -⟩, ⟨m0, hM, -⟩, -, hv, hdj, hC9, -, hqv⟩ := id hRC.1
  obtain ⟨hfa, hfb⟩ := id hfu
  have hg0 : gA k.1 0 = N := RF_gN hRC
  have hs0 := len_eq N hv hdj
  have hs1 : fb_sm (ctb k.1) 24 = fb_sm (lnS k.1) N := (ctb_sum hRC).trans hs0
  have hs2 : fb_sm (cvS k.1 N) 6 = fb_sm (lnS k.1) N := hs0
  have hs3 : fb_sm (lnS k.1) N = lenS k.1 N := hs0.symm
  have hs4 : fb_sm (ctp k.1 N) 6 = N := ctp_sum hv
  refine KX_step (fun H locs ls hl => lv_iload hx hb dL_holds_691 (lv_at hl 5 rfl)) ?_
  refine KX_if (fun H locs ls hl => lv_if_eq (tgt := 806) hx hb dL_holds_693 (by decide)) (fun q => absurd q n10) (fun _ => ?_)
  refine KX_step (fun H locs ls hl => lv_iload hx hb dL_holds_696 (lv_at hl 4 rfl)) ?_
  refine KX_step (fun H locs ls hl => lv_iload hx hb dL_holds_698 (lv_at hl 6 rfl)) ?_
  refine KX_if (fun H locs ls hl => lv_icmp_ne (tgt := 806) hx hb dL_holds_700 (by decide)) (fun q => absurd (congrArg nI hs1) q) (fun _ => ?_)
  refine KX_step (fun H locs ls hl => lv_iload hx hb dL_holds_703 (lv_at hl 0 rfl)) ?_
  refine KX_step (fun H locs ls hl => lv_iload hx hb dL_holds_705 (lv_at hl 6 rfl)) ?_
  refine KX_if (fun H locs ls hl => lv_icmp_ne (tgt := 806) hx hb dL_holds_707 (by decide)) (fun q => absurd (congrArg nI hs2) q) (fun _ => ?_)
  refine KX_step (fun H locs ls hl => lv_iload hx hb dL_holds_710 (lv_at hl 6 rfl)) ?_
  refine KX_step (fun H locs ls hl => lv_aload_n hx hb dL_holds_712 rfl (lv_at hl 12 rfl)) ?_
  refine KX_step (fun H locs ls hl => lv_bipush (v := 7) hx hb dL_holds_713 (by decide)) ?_
  refine KX_step (fun H locs ls hl => lv_iconst (v := 0) hx hb dL_holds_715 (by decide)) ?_
  refine KX_step (fun H locs ls hl => lv_iconst (v := 0) hx hb dL_holds_716 (by decide)) ?_
  refine KX_step (fun H locs ls hl => lv_iconst (v := 0) hx hb dL_holds_717 (by decide)) ?_
  refine KX_call (cells2 := 1001) (slots2 := 6006) (st0 := [.int 0, .int 0, .int 0, .int 7, .ref (ca 0 0), .int (nI (fb_sm (lnS k.1) N))]) (rest := [.int (nI (fb_sm (lnS k.1) N))]) hE rfl (sp1 (q_call_7 l hfl D cs ca 0 0 0 (fun cv hq => (F_cov (w := 0) (by omega) cv hq).imp id (fun z => z.trans (by rw [hg0]))))) (va_cwS 5 hts gN_holds_L_call rfl rfl rfl (by decide +kernel) ⟨(Nat.le_of_ble_eq_true rfl), (Nat.le_of_ble_eq_true rfl)⟩) rfl rfl (Nat.le_of_ble_eq_true rfl) ⟨(Nat.le_of_ble_eq_true rfl), (Nat.le_of_ble_eq_true rfl)⟩ dL_holds_718 (Nat.le_of_ble_eq_true rfl) (Nat.le_of_ble_eq_true rfl) ?_
  refine KX_if (fun H locs ls hl => lv_icmp_ne (tgt := 806) hx hb dL_holds_721 (by decide)) (fun q => absurd (congrArg nI hs3) q) (fun _ => ?_)
  refine KX_step (fun H locs ls hl => lv_iload hx hb dL_holds_724 (lv_at hl 6 rfl)) ?_
  refine KX_step (fun H locs ls hl => lv_aload_n hx hb dL_holds_726 rfl (lv_at hl 12 rfl)) ?_
  refine KX_step (fun H locs ls hl => lv_bipush (v := 7) hx hb dL_holds_727 (by decide)) ?_
  refine KX_step (fun H locs ls hl => lv_iconst (v := 1) hx hb dL_holds_729 (by decide)) ?_
  refine KX_step (fun H locs ls hl => lv_iconst (v := 0) hx hb dL_holds_730 (by decide)) ?_
  refine KX_step (fun H locs ls hl => lv_iconst (v := 0) hx hb dL_holds_731 (by decide)) ?_
  refine KX_call (cells2 := 1002) (slots2 := 6012) (st0 := [.int 0, .int 0, .int 1, .int 7, .ref (ca 0 0), .int (nI (fb_sm (lnS k.1) N))]) (rest := [.int (nI (fb_sm (lnS k.1) N))]) hE rfl (sp1 (q_call_7 l hfl D cs ca 1 0 0 (fun cv hq => (F_cov (w := 1) (by omega) cv hq).imp id (fun z => z.trans (by rw [hg0]))))) (va_cwS 5 hts gN_holds_L_call rfl rfl rfl (by decide +kernel) ⟨(Nat.le_of_ble_eq_true rfl), (Nat.le_of_ble_eq_true rfl)⟩) rfl rfl (Nat.le_of_ble_eq_true rfl) ⟨(Nat.le_of_ble_eq_true rfl), (Nat.le_of_ble_eq_true rfl)⟩ dL_holds_732 (Nat.le_of_ble_eq_true rfl) (Nat.le_of_ble_eq_true rfl) ?_
  refine KX_if (fun H locs ls hl => lv_icmp_ne (tgt := 806) hx hb dL_holds_735 (by decide)) (fun q => absurd (congrArg nI hs3) q) (fun _ => ?_)
  refine KX_step (fun H locs ls hl => lv_iload hx hb dL_holds_738 (lv_at hl 1 rfl)) ?_
  refine KX_step (fun H locs ls hl => lv_iload_n hx hb dL_holds_740 rfl (lv_at hl 11 rfl)) ?_
  refine KX_if (fun H locs ls hl => lv_icmp_ne (tgt := 806) hx hb dL_holds_741 (by decide)) (fun q => absurd (congrArg nI hs4) q) (fun _ => ?_)
  refine KX_step (fun H locs ls hl => lv_iload hx hb dL_holds_744 (lv_at hl 3 rfl)) ?_
  refine KX_step (fun H locs ls hl => lv_aload_n hx hb dL_holds_746 rfl (lv_at hl 12 rfl)) ?_
  refine KX_step (fun H locs ls hl => lv_iconst (v := 2) hx hb dL_holds_747 (by decide)) ?_
  refine KX_step (fun H locs ls hl => lv_bipush (v := 9) hx hb dL_holds_748 (by decide)) ?_
  refine KX_step (fun H locs ls hl => lv_iconst (v := 0) hx hb dL_holds_750 (by decide)) ?_
  refine KX_step (fun H locs ls hl => lv_iconst (v := 0) hx hb dL_holds_751 (by decide)) ?_
  refine KX_call (cells2 := 1003) (slots2 := 6018) (st0 := [.int 0, .int 0, .int 9, .int 2, .ref (ca 0 0), .int (nI (fb_sm (fun q => gA k.1 (25 + q)) 6))]) (rest := [.int (nI (fb_sm (fun q => gA k.1 (25 + q)) 6))]) hE rfl (sp1 (q_call_2 l hfl D cs ca 9 0 0 (fun cv hq => (F_about (i := 9) (by omega) cv hq).imp id (fun z => z.trans h9)))) (va_cwS 5 hts gN_holds_L_call rfl rfl rfl (by decide +kernel) ⟨(Nat.le_of_ble_eq_true rfl), (Nat.le_of_ble_eq_true rfl)⟩) rfl rfl (Nat.le_of_ble_eq_true rfl) ⟨(Nat.le_of_ble_eq_true rfl), (Nat.le_of_ble_eq_true rfl)⟩ dL_holds_752 (Nat.le_of_ble_eq_true rfl) (Nat.le_of_ble_eq_true rfl) ?_
  refine KX_if (fun H locs ls hl => lv_icmp_ne (tgt := 806) hx hb dL_holds_755 (by decide)) (fun q => absurd rfl q) (fun _ => ?_)
  refine KX_step (fun H locs ls hl => lv_iload hx hb dL_holds_758 (lv_at hl 2 rfl)) ?_
  refine KX_step (fun H locs ls hl => lv_aload_n hx hb dL_holds_760 rfl (lv_at hl 12 rfl)) ?_
  refine KX_step (fun H locs ls hl => lv_iconst (v := 2) hx hb dL_holds_761 (by decide)) ?_
  refine KX_step (fun H locs ls hl => lv_bipush (v := 10) hx hb dL_holds_762 (by decide)) ?_
  refine KX_step (fun H locs ls hl => lv_iconst (v := 0) hx hb dL_holds_764 (by decide)) ?_
  refine KX_step (fun H locs ls hl => lv_iconst (v := 0) hx hb dL_holds_765 (by decide)) ?_
  refine KX_call (cells2 := 1004) (slots2 := 6024) (st0 := [.int 0, .int 0, .int 10, .int 2, .ref (ca 0 0), .int (nI (fb_sm (fun q => gA k.1 (31 + q)) 6))]) (rest := [.int (nI (fb_sm (fun q => gA k.1 (31 + q)) 6))]) hE rfl (sp1 (q_call_2 l hfl D cs ca 10 0 0 (fun cv hq => (F_about (i := 10) (by omega) cv hq).imp id (fun z => z.trans h10)))) (va_cwS 5 hts gN_holds_L_call rfl rfl rfl (by decide +kernel) ⟨(Nat.le_of_ble_eq_true rfl), (Nat.le_of_ble_eq_true rfl)⟩) rfl rfl (Nat.le_of_ble_eq_true rfl) ⟨(Nat.le_of_ble_eq_true rfl), (Nat.le_of_ble_eq_true rfl)⟩ dL_holds_766 (Nat.le_of_ble_eq_true rfl) (Nat.le_of_ble_eq_true rfl) ?_
  refine KX_if (fun H locs ls hl => lv_icmp_ne (tgt := 806) hx hb dL_holds_769 (by decide)) (fun q => absurd rfl q) (fun _ => ?_)
  refine KX_step (fun H locs ls hl => lv_aload_n hx hb dL_holds_772 rfl (lv_at hl 12 rfl)) ?_
  refine KX_step (fun H locs ls hl => lv_iconst (v := 2) hx hb dL_holds_773 (by decide)) ?_
  refine KX_step (fun H locs ls hl => lv_bipush (v := 7) hx hb dL_holds_774 (by decide)) ?_
  refine KX_step (fun H locs ls hl => lv_iconst (v := 0) hx hb dL_holds_776 (by decide)) ?_
  refine KX_step (fun H locs ls hl => lv_iconst (v := 0) hx hb dL_holds_777 (by decide)) ?_
  refine KX_call (cells2 := 1005) (slots2 := 6030) (st0 := [.int 0, .int 0, .int 7, .int 2, .ref (ca 0 0)]) (rest := []) hE rfl (sp1 (q_call_2 l hfl D cs ca 7 0 0 (F_about (i := 7) (by omega)))) (va_cwS 5 hts gN_holds_L_call rfl rfl rfl (by decide +kernel) ⟨(Nat.le_of_ble_eq_true rfl), (Nat.le_of_ble_eq_true rfl)⟩) rfl rfl (Nat.le_of_ble_eq_true rfl) ⟨(Nat.le_of_ble_eq_true rfl), (Nat.le_of_ble_eq_true rfl)⟩ dL_holds_778 (Nat.le_of_ble_eq_true rfl) (Nat.le_of_ble_eq_true rfl) ?_
  refine KX_step (fun H locs ls hl => lv_aload_n hx hb dL_holds_781 rfl (lv_at hl 12 rfl)) ?_
  refine KX_step (fun H locs ls hl => lv_iconst (v := 2) hx hb dL_holds_782 (by decide)) ?_
  refine KX_step (fun H locs ls hl => lv_bipush (v := 8) hx hb dL_holds_783 (by decide)) ?_
  refine KX_step (fun H locs ls hl => lv_iconst (v := 0) hx hb dL_holds_785 (by decide)) ?_
  refine KX_step (fun H locs ls hl => lv_iconst (v := 0) hx hb dL_holds_786 (by decide)) ?_
  refine KX_call (cells2 := 1006) (slots2 := 6036) (st0 := [.int 0, .int 0, .int 8, .int 2, .ref (ca 0 0), .int (k.1 7)]) (rest := [.int (k.1 7)]) hE rfl (sp1 (q_call_2 l hfl D cs ca 8 0 0 (F_about (i := 8) (by omega)))) (va_cwS 5 hts gN_holds_L_call rfl rfl rfl (by decide +kernel) ⟨(Nat.le_of_ble_eq_true rfl), (Nat.le_of_ble_eq_true rfl)⟩) rfl rfl (Nat.le_of_ble_eq_true rfl) ⟨(Nat.le_of_ble_eq_true rfl), (Nat.le_of_ble_eq_true rfl)⟩ dL_holds_787 (Nat.le_of_ble_eq_true rfl) (Nat.le_of_ble_eq_true rfl) ?_
  refine KX_step (fun H locs ls hl => lv_iconst (v := (-1)) hx hb dL_holds_790 (by decide)) ?_
  refine KX_step (fun H locs ls hl => lv_ixor hx hb dL_holds_791) ?_
  refine KX_step (fun H locs ls hl => lv_iand hx hb dL_holds_792) ?_
  refine KX_if (fun H locs ls hl => lv_if_ne (tgt := 806) hx hb dL_holds_793 (by decide)) (fun q => absurd hB8 q) (fun _ => ?_)
  refine KX_step (fun H locs ls hl => lv_iload_n hx hb dL_holds_796 rfl (lv_at hl 11 rfl)) ?_
  refine KX_step (fun H locs ls hl => lv_iload hx hb dL_holds_797 (lv_at hl 8 rfl)) ?_
  refine KX_if (fun H locs ls hl => lv_icmp_gt (tgt := 806) hx hb dL_holds_799 (by decide)) (fun q => absurd q (nI_nlt (a := VV) (b := N) (LV_N hLV) (by omega))) (fun _ => ?_)
  refine KX_step (fun H locs ls hl => lv_iconst (v := 1) hx hb dL_holds_802 (by decide)) ?_
  refine KX_step (fun H locs ls hl => lv_goto (tgt := 807) hx hb dL_holds_803 (by decide)) ?_
  exact kr _ _ _ _ (Nat.le_of_ble_eq_true rfl) (Nat.le_of_ble_eq_true rfl) dL_holds_807
set_option maxHeartbeats 4000000 in
set_option maxRecDepth 100000 in
theorem holds_3 {p : Program} {l : Launch} {e : Env} {s : State} {m : MethodId} {args : Array Value} {below : List Frame} {meth : Method} {c : Code} {D : va_G} {cs : Nat → ClassId} {A : Nat → Prop} {Q : State → Prop} {ca : Nat → Nat → Nat} (hfl : l.stackTraces = false) {k : KC} {o : OV} {N M n cb VV w6 T2 a : Nat} (hRC : RC o k.1 N M) (hn : n < 2 ^ 31) (h3 : k.1 3 = nI cb) (hcb : cb < 24) (v5 : k.1 5 = nI VV) (hVV : VV < 2 ^ 30) (hLV : LV k.1 N VV) (t2 : k.1 2 = nI T2) (hT2 : T2 < 2 ^ 30) (hW : ∀ j, j < M → ∃ w, w ≤ T2 ∧ k.1 (157 + 5 * j + 4) = nI w) (w6e : k.1 6 = nI w6) (hw6 : w6 ≤ 60) (hNS : ∀ q, q < 6 → k.1 (25 + q) = nI (gA k.1 (25 + q))) (hLS : ∀ q, q < 6 → k.1 (31 + q) = nI (gA k.1 (31 + q))) (h9 : k.1 9 = nI (fb_sm (fun q => gA k.1 (25 + q)) 6)) (h10 : k.1 10 = nI (fb_sm (fun q => gA k.1 (31 + q)) 6)) (hB8 : k.1 7 &&& (k.1 8 ^^^ -1) = 0) (hfu : P_full k.1 a) (hfv : ∀ cv, QR cv k → k_X5_fullest cv = nI a) (hrm : ∀ q, q < 6 → ∃ z, P_room k.1 q (1 + n % 6) z ∧ ∀ cv, QR cv k → QR (k_X5_room cv (nI q) (nI (1 + n % 6))).2.2 k ∧ aX (k_X5_room cv (nI q) (nI (1 + n % 6))) = z) (hE : kE p s m args meth c D cs yL_holds wsN_holds cL_holds 19 (some .boolean) A) (kr : ∀ (lv : List (Nat × Value)) (pc cells slots : Nat), cells ≤ 1200 → slots ≤ 7200 → decode cL_holds pc = .ok (.ireturn, 1) → KX p l e RM_holds s m args below meth c D A 19 Q (f_1 k) (w_1 cs ca) lv [.int 1] pc cells slots) : KX p l e RM_holds s m args below meth c D A 19 Q (f_1 k) (w_1 cs ca) [(14, .int (nI (fb_sm (cvS k.1 N) 6))), (13, .int (nI (fb_sm (ctp k.1 N) 6))), (12, .int (nI (fb_sm (fun q => gA k.1 (31 + q)) 6))), (11, .int (nI (fb_sm (fun q => gA k.1 (25 + q)) 6))), (10, .int (nI (fb_sm (ctb k.1) 24))), (9, .int 1), (6, .int (nI (fb_sm (lnS k.1) N))), (8, .int (nI a)), (5, .int (nI VV)), (4, .int (nI cb)), (3, .int (nI M)), (2, .int (nI N)), (0, .ref (ca 0 0)), (1, .int (nI n))] [] 583 900 5400 := by
  obtain ⟨hx, hb, hr, hlocks, hml, hown, hts, hK, hA, hG, hnm⟩ := id hE
  have hown : s.vm.findClass RL = some m.cls := hown
  obtain ⟨⟨n0, hN, -⟩, ⟨m0, hM, -⟩, -, hv, hdj, hC9, -, hqv⟩ := id hRC.1
  obtain ⟨hfa, hfb⟩ := id hfu
  have hg0 : gA k.1 0 = N := RF_gN hRC
  have L : ∀ i j, j + i = M → KX p l e RM_holds s m args below meth c D A 19 Q (f_1 k) (w_1 cs ca) [(16, .int (nI j)), (14, .int (nI (fb_sm (cvS k.1 N) 6))), (13, .int (nI (fb_sm (ctp k.1 N) 6))), (12, .int (nI (fb_sm (fun q => gA k.1 (31 + q)) 6))), (11, .int (nI (fb_sm (fun q => gA k.1 (25 + q)) 6))), (10, .int (nI (fb_sm (ctb k.1) 24))), (9, .int 1), (6, .int (nI (fb_sm (lnS k.1) N))), (8, .int (nI a)), (5, .int (nI VV)), (4, .int (nI cb)), (3, .int (nI M)), (2, .int (nI N)), (0, .ref (ca 0 0)), (1, .int (nI n))] [] 586 (900 + 5 * j) (5400 + 30 * j) := by
    intro i
    induction i with
    | zero =>
      intro j hj
      have hj : j = M := by omega
      subst hj
      refine KX_step (fun H locs ls hl => lv_iload hx hb dL_holds_586 (lv_at hl 0 rfl)) ?_
      refine KX_step (fun H locs ls hl => lv_iload_n hx hb dL_holds_588 rfl (lv_at hl 11 rfl)) ?_
      refine KX_if (fun H locs ls hl => lv_icmp_ge (tgt := 691) hx hb dL_holds_589 (by decide)) (fun _ => ?_) (fun q => absurd (nI_le (Nat.le_refl _) (by omega)) q)
      refine KX_sub (lv1 := [(14, .int (nI (fb_sm (cvS k.1 N) 6))), (13, .int (nI (fb_sm (ctp k.1 N) 6))), (12, .int (nI (fb_sm (fun q => gA k.1 (31 + q)) 6))), (11, .int (nI (fb_sm (fun q => gA k.1 (25 + q)) 6))), (10, .int (nI (fb_sm (ctb k.1) 24))), (9, .int 1), (6, .int (nI (fb_sm (lnS k.1) N))), (8, .int (nI a)), (5, .int (nI VV)), (4, .int (nI cb)), (3, .int (nI j)), (2, .int (nI N)), (0, .ref (ca 0 0)), (1, .int (nI n))]) [1, 2, 3, 4, 5, 6, 7, 8, 9, 10, 11, 12, 13, 14] rfl ?_
      refine KX_wid (cells2 := 1000) (slots2 := 6000) (by omega) (by omega) ?_
      exact holds_4 hfl hRC hn h3 hcb v5 hVV hLV t2 hT2 hW w6e hw6 hNS hLS h9 h10 hB8 hfu hfv hrm hE kr
    | succ i ih =>
      intro j hj
      have hjM : j < M := by omega
      obtain ⟨q1, q2, q3, q4, q5, q6, q7⟩ := hqv j hjM
      obtain ⟨ww, hw1, hw2⟩ := hW j hjM
      rcases q7 with ⟨q7, q8⟩ | ⟨q7, q8⟩
      · refine KX_step (fun H locs ls hl => lv_iload hx hb dL_holds_586 (lv_at hl 0 rfl)) ?_
        refine KX_step (fun H locs ls hl => lv_iload_n hx hb dL_holds_588 rfl (lv_at hl 11 rfl)) ?_
        refine KX_if (fun H locs ls hl => lv_icmp_ge (tgt := 691) hx hb dL_holds_589 (by decide)) (fun q => absurd q (nI_ge (by omega) (by omega))) (fun _ => ?_)
        refine KX_step (fun H locs ls hl => lv_iload hx hb dL_holds_592 (lv_at hl 6 rfl)) ?_
        refine KX_if (fun H locs ls hl => lv_if_eq (tgt := 691) hx hb dL_holds_594 (by decide)) (fun q => absurd q n10) (fun _ => ?_)
        refine KX_step (fun H locs ls hl => lv_aload_n hx hb dL_holds_597 rfl (lv_at hl 13 rfl)) ?_
        refine KX_step (fun H locs ls hl => lv_iconst (v := 4) hx hb dL_holds_598 (by decide)) ?_
        refine KX_step (fun H locs ls hl => lv_iload hx hb dL_holds_599 (lv_at hl 0 rfl)) ?_
        refine KX_step (fun H locs ls hl => lv_iconst (v := 3) hx hb dL_holds_601 (by decide)) ?_
        refine KX_step (fun H locs ls hl => lv_iconst (v := 0) hx hb dL_holds_602 (by decide)) ?_
        refine KX_call (cells2 := 900 + 5 * j + 1) (slots2 := 5400 + 30 * j + 6) (st0 := [.int 0, .int 3, .int (nI j), .int 4, .ref (ca 0 0)]) (rest := []) hE rfl (sp1 (q_call_4 l hfl D cs ca (nI j) 3 0 (fun cv hq => (F_order (k := j) (w := 3) m0 hM hjM (by omega) cv hq).imp id (fun z => z.trans q6)))) (va_cwS 5 hts gN_holds_L_call rfl rfl rfl (by decide +kernel) ⟨(Nat.le_of_ble_eq_true rfl), (Nat.le_of_ble_eq_true rfl)⟩) rfl rfl (Nat.le_of_ble_eq_true rfl) ⟨(show 900 + 5 * j + 1 ≤ 1200 by omega), (show 5400 + 30 * j + 6 ≤ 7200 by omega)⟩ dL_holds_603 (by omega) (by omega) ?_
        refine KX_store (lv1 := [(17, .int (nI (gA k.1 (157 + 5 * j + 3)))), (16, .int (nI j)), (14, .int (nI (fb_sm (cvS k.1 N) 6))), (13, .int (nI (fb_sm (ctp k.1 N) 6))), (12, .int (nI (fb_sm (fun q => gA k.1 (31 + q)) 6))), (11, .int (nI (fb_sm (fun q => gA k.1 (25 + q)) 6))), (10, .int (nI (fb_sm (ctb k.1) 24))), (9, .int 1), (6, .int (nI (fb_sm (lnS k.1) N))), (8, .int (nI a)), (5, .int (nI VV)), (4, .int (nI cb)), (3, .int (nI M)), (2, .int (nI N)), (0, .ref (ca 0 0)), (1, .int (nI n))]) (fun H locs ls hl K => lv_istore hx hb dL_holds_606 hl (by decide) rfl K) ?_
        refine KX_step (fun H locs ls hl => lv_iload hx hb dL_holds_608 (lv_at hl 0 rfl)) ?_
        refine KX_if (fun H locs ls hl => lv_if_le (tgt := 617) hx hb dL_holds_610 (by decide)) (fun q => absurd q (nI_nle (by omega) (by omega))) (fun _ => ?_)
        refine KX_step (fun H locs ls hl => lv_iconst (v := 1) hx hb dL_holds_613 (by decide)) ?_
        refine KX_step (fun H locs ls hl => lv_goto (tgt := 618) hx hb dL_holds_614 (by decide)) ?_
        refine KX_step (fun H locs ls hl => lv_aload_n hx hb dL_holds_618 rfl (lv_at hl 14 rfl)) ?_
        refine KX_step (fun H locs ls hl => lv_iconst (v := 4) hx hb dL_holds_619 (by decide)) ?_
        refine KX_step (fun H locs ls hl => lv_iload hx hb dL_holds_620 (lv_at hl 1 rfl)) ?_
        refine KX_step (fun H locs ls hl => lv_iconst (v := 0) hx hb dL_holds_622 (by decide)) ?_
        refine KX_step (fun H locs ls hl => lv_iconst (v := 0) hx hb dL_holds_623 (by decide)) ?_
        refine KX_call (cells2 := 900 + 5 * j + 2) (slots2 := 5400 + 30 * j + 12) (st0 := [.int 0, .int 0, .int (nI j), .int 4, .ref (ca 0 0), .int 1]) (rest := [.int 1]) hE rfl (sp1 (q_call_4 l hfl D cs ca (nI j) 0 0 (fun cv hq => (F_order (k := j) (w := 0) m0 hM hjM (by omega) cv hq).imp id (fun z => z.trans q7)))) (va_cwS 5 hts gN_holds_L_call rfl rfl rfl (by decide +kernel) ⟨(Nat.le_of_ble_eq_true rfl), (Nat.le_of_ble_eq_true rfl)⟩) rfl rfl (Nat.le_of_ble_eq_true rfl) ⟨(show 900 + 5 * j + 1 + 1 ≤ 1200 by omega), (show 5400 + 30 * j + 6 + 6 ≤ 7200 by omega)⟩ dL_holds_624 (by omega) (by omega) ?_
        refine KX_step (fun H locs ls hl => lv_iconst (v := 1) hx hb dL_holds_627 (by decide)) ?_
        refine KX_if (fun H locs ls hl => lv_icmp_ne (tgt := 635) hx hb dL_holds_628 (by decide)) (fun q => absurd rfl q) (fun _ => ?_)
        refine KX_step (fun H locs ls hl => lv_iconst (v := 1) hx hb dL_holds_631 (by decide)) ?_
        refine KX_step (fun H locs ls hl => lv_goto (tgt := 636) hx hb dL_holds_632 (by decide)) ?_
        refine KX_if (fun H locs ls hl => lv_icmp_ne (tgt := 682) hx hb dL_holds_636 (by decide)) (fun q => absurd rfl q) (fun _ => ?_)
        refine KX_step (fun H locs ls hl => lv_iload hx hb dL_holds_639 (lv_at hl 0 rfl)) ?_
        refine KX_step (fun H locs ls hl => lv_bipush (v := 6) hx hb dL_holds_641 (by decide)) ?_
        refine KX_if (fun H locs ls hl => lv_icmp_gt (tgt := 682) hx hb dL_holds_643 (by decide)) (fun q => absurd q (nI_nlt (a := 6) (by omega) (by omega))) (fun _ => ?_)
        refine KX_step (fun H locs ls hl => lv_aload_n hx hb dL_holds_646 rfl (lv_at hl 14 rfl)) ?_
        refine KX_step (fun H locs ls hl => lv_iconst (v := 4) hx hb dL_holds_647 (by decide)) ?_
        refine KX_step (fun H locs ls hl => lv_iload hx hb dL_holds_648 (lv_at hl 1 rfl)) ?_
        refine KX_step (fun H locs ls hl => lv_iconst (v := 4) hx hb dL_holds_650 (by decide)) ?_
        refine KX_step (fun H locs ls hl => lv_iconst (v := 0) hx hb dL_holds_651 (by decide)) ?_
        refine KX_call (cells2 := 900 + 5 * j + 3) (slots2 := 5400 + 30 * j + 18) (st0 := [.int 0, .int 4, .int (nI j), .int 4, .ref (ca 0 0)]) (rest := []) hE rfl (sp1 (q_call_4 l hfl D cs ca (nI j) 4 0 (fun cv hq => (F_order (k := j) (w := 4) m0 hM hjM (by omega) cv hq).imp id (fun z => z.trans hw2)))) (va_cwS 5 hts gN_holds_L_call rfl rfl rfl (by decide +kernel) ⟨(Nat.le_of_ble_eq_true rfl), (Nat.le_of_ble_eq_true rfl)⟩) rfl rfl (Nat.le_of_ble_eq_true rfl) ⟨(show 900 + 5 * j + 2 + 1 ≤ 1200 by omega), (show 5400 + 30 * j + 12 + 6 ≤ 7200 by omega)⟩ dL_holds_652 (by omega) (by omega) ?_
        refine KX_if (fun H locs ls hl => lv_if_lt (tgt := 682) hx hb dL_holds_655 (by decide)) (fun q => absurd q (nI_pos (by omega))) (fun _ => ?_)
        refine KX_step (fun H locs ls hl => lv_aload_n hx hb dL_holds_658 rfl (lv_at hl 14 rfl)) ?_
        refine KX_step (fun H locs ls hl => lv_iconst (v := 4) hx hb dL_holds_659 (by decide)) ?_
        refine KX_step (fun H locs ls hl => lv_iload hx hb dL_holds_660 (lv_at hl 1 rfl)) ?_
        refine KX_step (fun H locs ls hl => lv_iconst (v := 4) hx hb dL_holds_662 (by decide)) ?_
        refine KX_step (fun H locs ls hl => lv_iconst (v := 0) hx hb dL_holds_663 (by decide)) ?_
        refine KX_call (cells2 := 900 + 5 * j + 4) (slots2 := 5400 + 30 * j + 24) (st0 := [.int 0, .int 4, .int (nI j), .int 4, .ref (ca 0 0)]) (rest := []) hE rfl (sp1 (q_call_4 l hfl D cs ca (nI j) 4 0 (fun cv hq => (F_order (k := j) (w := 4) m0 hM hjM (by omega) cv hq).imp id (fun z => z.trans hw2)))) (va_cwS 5 hts gN_holds_L_call rfl rfl rfl (by decide +kernel) ⟨(Nat.le_of_ble_eq_true rfl), (Nat.le_of_ble_eq_true rfl)⟩) rfl rfl (Nat.le_of_ble_eq_true rfl) ⟨(show 900 + 5 * j + 3 + 1 ≤ 1200 by omega), (show 5400 + 30 * j + 18 + 6 ≤ 7200 by omega)⟩ dL_holds_664 (by omega) (by omega) ?_
        refine KX_step (fun H locs ls hl => lv_aload_n hx hb dL_holds_667 rfl (lv_at hl 14 rfl)) ?_
        refine KX_step (fun H locs ls hl => lv_iconst (v := 2) hx hb dL_holds_668 (by decide)) ?_
        refine KX_step (fun H locs ls hl => lv_iconst (v := 2) hx hb dL_holds_669 (by decide)) ?_
        refine KX_step (fun H locs ls hl => lv_iconst (v := 0) hx hb dL_holds_670 (by decide)) ?_
        refine KX_step (fun H locs ls hl => lv_iconst (v := 0) hx hb dL_holds_671 (by decide)) ?_
        refine KX_call (cells2 := 900 + 5 * j + 5) (slots2 := 5400 + 30 * j + 30) (st0 := [.int 0, .int 0, .int 2, .int 2, .ref (ca 0 0), .int (nI ww)]) (rest := [.int (nI ww)]) hE rfl (sp1 (q_call_2 l hfl D cs ca 2 0 0 (fun cv hq => (F_about (i := 2) (by omega) cv hq).imp id (fun z => z.trans t2)))) (va_cwS 5 hts gN_holds_L_call rfl rfl rfl (by decide +kernel) ⟨(Nat.le_of_ble_eq_true rfl), (Nat.le_of_ble_eq_true rfl)⟩) rfl rfl (Nat.le_of_ble_eq_true rfl) ⟨(show 900 + 5 * j + 4 + 1 ≤ 1200 by omega), (show 5400 + 30 * j + 24 + 6 ≤ 7200 by omega)⟩ dL_holds_672 (by omega) (by omega) ?_
        refine KX_if (fun H locs ls hl => lv_icmp_gt (tgt := 682) hx hb dL_holds_675 (by decide)) (fun q => absurd q (nI_nlt hw1 (by omega))) (fun _ => ?_)
        refine KX_step (fun H locs ls hl => lv_iconst (v := 1) hx hb dL_holds_678 (by decide)) ?_
        refine KX_step (fun H locs ls hl => lv_goto (tgt := 683) hx hb dL_holds_679 (by decide)) ?_
        refine KX_store (lv1 := [(9, .int 1), (17, .int (nI (gA k.1 (157 + 5 * j + 3)))), (16, .int (nI j)), (14, .int (nI (fb_sm (cvS k.1 N) 6))), (13, .int (nI (fb_sm (ctp k.1 N) 6))), (12, .int (nI (fb_sm (fun q => gA k.1 (31 + q)) 6))), (11, .int (nI (fb_sm (fun q => gA k.1 (25 + q)) 6))), (10, .int (nI (fb_sm (ctb k.1) 24))), (6, .int (nI (fb_sm (lnS k.1) N))), (8, .int (nI a)), (5, .int (nI VV)), (4, .int (nI cb)), (3, .int (nI M)), (2, .int (nI N)), (0, .ref (ca 0 0)), (1, .int (nI n))]) (fun H locs ls hl K => lv_istore hx hb dL_holds_683 hl (by decide) rfl K) ?_
        refine KX_store (lv1 := [(16, .int (nI (j + 1))), (9, .int 1), (17, .int (nI (gA k.1 (157 + 5 * j + 3)))), (14, .int (nI (fb_sm (cvS k.1 N) 6))), (13, .int (nI (fb_sm (ctp k.1 N) 6))), (12, .int (nI (fb_sm (fun q => gA k.1 (31 + q)) 6))), (11, .int (nI (fb_sm (fun q => gA k.1 (25 + q)) 6))), (10, .int (nI (fb_sm (ctb k.1) 24))), (6, .int (nI (fb_sm (lnS k.1) N))), (8, .int (nI a)), (5, .int (nI VV)), (4, .int (nI cb)), (3, .int (nI M)), (2, .int (nI N)), (0, .ref (ca 0 0)), (1, .int (nI n))]) (fun H locs ls hl K => lv_iinc (k := 2) (lv' := [(16, .int (nI (j + 1))), (9, .int 1), (17, .int (nI (gA k.1 (157 + 5 * j + 3)))), (14, .int (nI (fb_sm (cvS k.1 N) 6))), (13, .int (nI (fb_sm (ctp k.1 N) 6))), (12, .int (nI (fb_sm (fun q => gA k.1 (31 + q)) 6))), (11, .int (nI (fb_sm (fun q => gA k.1 (25 + q)) 6))), (10, .int (nI (fb_sm (ctb k.1) 24))), (6, .int (nI (fb_sm (lnS k.1) N))), (8, .int (nI a)), (5, .int (nI VV)), (4, .int (nI cb)), (3, .int (nI M)), (2, .int (nI N)), (0, .ref (ca 0 0)), (1, .int (nI n))]) hx hb dL_holds_685 hl rfl (nI_1 _) (by decide) rfl K) ?_
        refine KX_step (fun H locs ls hl => lv_goto (tgt := 586) hx hb dL_holds_688 (by decide)) ?_
        refine KX_sub (lv1 := [(16, .int (nI (j + 1))), (14, .int (nI (fb_sm (cvS k.1 N) 6))), (13, .int (nI (fb_sm (ctp k.1 N) 6))), (12, .int (nI (fb_sm (fun q => gA k.1 (31 + q)) 6))), (11, .int (nI (fb_sm (fun q => gA k.1 (25 + q)) 6))), (10, .int (nI (fb_sm (ctb k.1) 24))), (9, .int 1), (6, .int (nI (fb_sm (lnS k.1) N))), (8, .int (nI a)), (5, .int (nI VV)), (4, .int (nI cb)), (3, .int (nI M)), (2, .int (nI N)), (0, .ref (ca 0 0)), (1, .int (nI n))]) [0, 3, 4, 5, 6, 7, 1, 8, 9, 10, 11, 12, 13, 14, 15] rfl ?_
        exact KX_wid (by omega) (by omega) (ih (j + 1) (by omega))
      · refine KX_step (fun H locs ls hl => lv_iload hx hb dL_holds_586 (lv_at hl 0 rfl)) ?_
        refine KX_step (fun H locs ls hl => lv_iload_n hx hb dL_holds_588 rfl (lv_at hl 11 rfl)) ?_
        refine KX_if (fun H locs ls hl => lv_icmp_ge (tgt := 691) hx hb dL_holds_589 (by decide)) (fun q => absurd q (nI_ge (by omega) (by omega))) (fun _ => ?_)
        refine KX_step (fun H locs ls hl => lv_iload hx hb dL_holds_592 (lv_at hl 6 rfl)) ?_
        refine KX_if (fun H locs ls hl => lv_if_eq (tgt := 691) hx hb dL_holds_594 (by decide)) (fun q => absurd q n10) (fun _ => ?_)
        refine KX_step (fun H locs ls hl => lv_aload_n hx hb dL_holds_597 rfl (lv_at hl 13 rfl)) ?_
        refine KX_step (fun H locs ls hl => lv_iconst (v := 4) hx hb dL_holds_598 (by decide)) ?_
        refine KX_step (fun H locs ls hl => lv_iload hx hb dL_holds_599 (lv_at hl 0 rfl)) ?_
        refine KX_step (fun H locs ls hl => lv_iconst (v := 3) hx hb dL_holds_601 (by decide)) ?_
        refine KX_step (fun H locs ls hl => lv_iconst (v := 0) hx hb dL_holds_602 (by decide)) ?_
        refine KX_call (cells2 := 900 + 5 * j + 1) (slots2 := 5400 + 30 * j + 6) (st0 := [.int 0, .int 3, .int (nI j), .int 4, .ref (ca 0 0)]) (rest := []) hE rfl (sp1 (q_call_4 l hfl D cs ca (nI j) 3 0 (fun cv hq => (F_order (k := j) (w := 3) m0 hM hjM (by omega) cv hq).imp id (fun z => z.trans q6)))) (va_cwS 5 hts gN_holds_L_call rfl rfl rfl (by decide +kernel) ⟨(Nat.le_of_ble_eq_true rfl), (Nat.le_of_ble_eq_true rfl)⟩) rfl rfl (Nat.le_of_ble_eq_true rfl) ⟨(show 900 + 5 * j + 1 ≤ 1200 by omega), (show 5400 + 30 * j + 6 ≤ 7200 by omega)⟩ dL_holds_603 (by omega) (by omega) ?_
        refine KX_store (lv1 := [(17, .int (nI (gA k.1 (157 + 5 * j + 3)))), (16, .int (nI j)), (14, .int (nI (fb_sm (cvS k.1 N) 6))), (13, .int (nI (fb_sm (ctp k.1 N) 6))), (12, .int (nI (fb_sm (fun q => gA k.1 (31 + q)) 6))), (11, .int (nI (fb_sm (fun q => gA k.1 (25 + q)) 6))), (10, .int (nI (fb_sm (ctb k.1) 24))), (9, .int 1), (6, .int (nI (fb_sm (lnS k.1) N))), (8, .int (nI a)), (5, .int (nI VV)), (4, .int (nI cb)), (3, .int (nI M)), (2, .int (nI N)), (0, .ref (ca 0 0)), (1, .int (nI n))]) (fun H locs ls hl K => lv_istore hx hb dL_holds_606 hl (by decide) rfl K) ?_
        refine KX_step (fun H locs ls hl => lv_iload hx hb dL_holds_608 (lv_at hl 0 rfl)) ?_
        refine KX_if (fun H locs ls hl => lv_if_le (tgt := 617) hx hb dL_holds_610 (by decide)) (fun _ => ?_) (fun q => absurd (by rw [q8]; decide) q)
        refine KX_step (fun H locs ls hl => lv_iconst (v := 0) hx hb dL_holds_617 (by decide)) ?_
        refine KX_step (fun H locs ls hl => lv_aload_n hx hb dL_holds_618 rfl (lv_at hl 14 rfl)) ?_
        refine KX_step (fun H locs ls hl => lv_iconst (v := 4) hx hb dL_holds_619 (by decide)) ?_
        refine KX_step (fun H locs ls hl => lv_iload hx hb dL_holds_620 (lv_at hl 1 rfl)) ?_
        refine KX_step (fun H locs ls hl => lv_iconst (v := 0) hx hb dL_holds_622 (by decide)) ?_
        refine KX_step (fun H locs ls hl => lv_iconst (v := 0) hx hb dL_holds_623 (by decide)) ?_
        refine KX_call (cells2 := 900 + 5 * j + 2) (slots2 := 5400 + 30 * j + 12) (st0 := [.int 0, .int 0, .int (nI j), .int 4, .ref (ca 0 0), .int 0]) (rest := [.int 0]) hE rfl (sp1 (q_call_4 l hfl D cs ca (nI j) 0 0 (fun cv hq => (F_order (k := j) (w := 0) m0 hM hjM (by omega) cv hq).imp id (fun z => z.trans q7)))) (va_cwS 5 hts gN_holds_L_call rfl rfl rfl (by decide +kernel) ⟨(Nat.le_of_ble_eq_true rfl), (Nat.le_of_ble_eq_true rfl)⟩) rfl rfl (Nat.le_of_ble_eq_true rfl) ⟨(show 900 + 5 * j + 1 + 1 ≤ 1200 by omega), (show 5400 + 30 * j + 6 + 6 ≤ 7200 by omega)⟩ dL_holds_624 (by omega) (by omega) ?_
        refine KX_step (fun H locs ls hl => lv_iconst (v := 1) hx hb dL_holds_627 (by decide)) ?_
        refine KX_if (fun H locs ls hl => lv_icmp_ne (tgt := 635) hx hb dL_holds_628 (by decide)) (fun _ => ?_) (fun q => absurd q (by decide))
        refine KX_step (fun H locs ls hl => lv_iconst (v := 0) hx hb dL_holds_635 (by decide)) ?_
        refine KX_if (fun H locs ls hl => lv_icmp_ne (tgt := 682) hx hb dL_holds_636 (by decide)) (fun q => absurd rfl q) (fun _ => ?_)
        refine KX_step (fun H locs ls hl => lv_iload hx hb dL_holds_639 (lv_at hl 0 rfl)) ?_
        refine KX_step (fun H locs ls hl => lv_bipush (v := 6) hx hb dL_holds_641 (by decide)) ?_
        refine KX_if (fun H locs ls hl => lv_icmp_gt (tgt := 682) hx hb dL_holds_643 (by decide)) (fun q => absurd q (nI_nlt (a := 6) (by omega) (by omega))) (fun _ => ?_)
        refine KX_step (fun H locs ls hl => lv_aload_n hx hb dL_holds_646 rfl (lv_at hl 14 rfl)) ?_
        refine KX_step (fun H locs ls hl => lv_iconst (v := 4) hx hb dL_holds_647 (by decide)) ?_
        refine KX_step (fun H locs ls hl => lv_iload hx hb dL_holds_648 (lv_at hl 1 rfl)) ?_
        refine KX_step (fun H locs ls hl => lv_iconst (v := 4) hx hb dL_holds_650 (by decide)) ?_
        refine KX_step (fun H locs ls hl => lv_iconst (v := 0) hx hb dL_holds_651 (by decide)) ?_
        refine KX_call (cells2 := 900 + 5 * j + 3) (slots2 := 5400 + 30 * j + 18) (st0 := [.int 0, .int 4, .int (nI j), .int 4, .ref (ca 0 0)]) (rest := []) hE rfl (sp1 (q_call_4 l hfl D cs ca (nI j) 4 0 (fun cv hq => (F_order (k := j) (w := 4) m0 hM hjM (by omega) cv hq).imp id (fun z => z.trans hw2)))) (va_cwS 5 hts gN_holds_L_call rfl rfl rfl (by decide +kernel) ⟨(Nat.le_of_ble_eq_true rfl), (Nat.le_of_ble_eq_true rfl)⟩) rfl rfl (Nat.le_of_ble_eq_true rfl) ⟨(show 900 + 5 * j + 2 + 1 ≤ 1200 by omega), (show 5400 + 30 * j + 12 + 6 ≤ 7200 by omega)⟩ dL_holds_652 (by omega) (by omega) ?_
        refine KX_if (fun H locs ls hl => lv_if_lt (tgt := 682) hx hb dL_holds_655 (by decide)) (fun q => absurd q (nI_pos (by omega))) (fun _ => ?_)
        refine KX_step (fun H locs ls hl => lv_aload_n hx hb dL_holds_658 rfl (lv_at hl 14 rfl)) ?_
        refine KX_step (fun H locs ls hl => lv_iconst (v := 4) hx hb dL_holds_659 (by decide)) ?_
        refine KX_step (fun H locs ls hl => lv_iload hx hb dL_holds_660 (lv_at hl 1 rfl)) ?_
        refine KX_step (fun H locs ls hl => lv_iconst (v := 4) hx hb dL_holds_662 (by decide)) ?_
        refine KX_step (fun H locs ls hl => lv_iconst (v := 0) hx hb dL_holds_663 (by decide)) ?_
        refine KX_call (cells2 := 900 + 5 * j + 4) (slots2 := 5400 + 30 * j + 24) (st0 := [.int 0, .int 4, .int (nI j), .int 4, .ref (ca 0 0)]) (rest := []) hE rfl (sp1 (q_call_4 l hfl D cs ca (nI j) 4 0 (fun cv hq => (F_order (k := j) (w := 4) m0 hM hjM (by omega) cv hq).imp id (fun z => z.trans hw2)))) (va_cwS 5 hts gN_holds_L_call rfl rfl rfl (by decide +kernel) ⟨(Nat.le_of_ble_eq_true rfl), (Nat.le_of_ble_eq_true rfl)⟩) rfl rfl (Nat.le_of_ble_eq_true rfl) ⟨(show 900 + 5 * j + 3 + 1 ≤ 1200 by omega), (show 5400 + 30 * j + 18 + 6 ≤ 7200 by omega)⟩ dL_holds_664 (by omega) (by omega) ?_
        refine KX_step (fun H locs ls hl => lv_aload_n hx hb dL_holds_667 rfl (lv_at hl 14 rfl)) ?_
        refine KX_step (fun H locs ls hl => lv_iconst (v := 2) hx hb dL_holds_668 (by decide)) ?_
        refine KX_step (fun H locs ls hl => lv_iconst (v := 2) hx hb dL_holds_669 (by decide)) ?_
        refine KX_step (fun H locs ls hl => lv_iconst (v := 0) hx hb dL_holds_670 (by decide)) ?_
        refine KX_step (fun H locs ls hl => lv_iconst (v := 0) hx hb dL_holds_671 (by decide)) ?_
        refine KX_call (cells2 := 900 + 5 * j + 5) (slots2 := 5400 + 30 * j + 30) (st0 := [.int 0, .int 0, .int 2, .int 2, .ref (ca 0 0), .int (nI ww)]) (rest := [.int (nI ww)]) hE rfl (sp1 (q_call_2 l hfl D cs ca 2 0 0 (fun cv hq => (F_about (i := 2) (by omega) cv hq).imp id (fun z => z.trans t2)))) (va_cwS 5 hts gN_holds_L_call rfl rfl rfl (by decide +kernel) ⟨(Nat.le_of_ble_eq_true rfl), (Nat.le_of_ble_eq_true rfl)⟩) rfl rfl (Nat.le_of_ble_eq_true rfl) ⟨(show 900 + 5 * j + 4 + 1 ≤ 1200 by omega), (show 5400 + 30 * j + 24 + 6 ≤ 7200 by omega)⟩ dL_holds_672 (by omega) (by omega) ?_
        refine KX_if (fun H locs ls hl => lv_icmp_gt (tgt := 682) hx hb dL_holds_675 (by decide)) (fun q => absurd q (nI_nlt hw1 (by omega))) (fun _ => ?_)
        refine KX_step (fun H locs ls hl => lv_iconst (v := 1) hx hb dL_holds_678 (by decide)) ?_
        refine KX_step (fun H locs ls hl => lv_goto (tgt := 683) hx hb dL_holds_679 (by decide)) ?_
        refine KX_store (lv1 := [(9, .int 1), (17, .int (nI (gA k.1 (157 + 5 * j + 3)))), (16, .int (nI j)), (14, .int (nI (fb_sm (cvS k.1 N) 6))), (13, .int (nI (fb_sm (ctp k.1 N) 6))), (12, .int (nI (fb_sm (fun q => gA k.1 (31 + q)) 6))), (11, .int (nI (fb_sm (fun q => gA k.1 (25 + q)) 6))), (10, .int (nI (fb_sm (ctb k.1) 24))), (6, .int (nI (fb_sm (lnS k.1) N))), (8, .int (nI a)), (5, .int (nI VV)), (4, .int (nI cb)), (3, .int (nI M)), (2, .int (nI N)), (0, .ref (ca 0 0)), (1, .int (nI n))]) (fun H locs ls hl K => lv_istore hx hb dL_holds_683 hl (by decide) rfl K) ?_
        refine KX_store (lv1 := [(16, .int (nI (j + 1))), (9, .int 1), (17, .int (nI (gA k.1 (157 + 5 * j + 3)))), (14, .int (nI (fb_sm (cvS k.1 N) 6))), (13, .int (nI (fb_sm (ctp k.1 N) 6))), (12, .int (nI (fb_sm (fun q => gA k.1 (31 + q)) 6))), (11, .int (nI (fb_sm (fun q => gA k.1 (25 + q)) 6))), (10, .int (nI (fb_sm (ctb k.1) 24))), (6, .int (nI (fb_sm (lnS k.1) N))), (8, .int (nI a)), (5, .int (nI VV)), (4, .int (nI cb)), (3, .int (nI M)), (2, .int (nI N)), (0, .ref (ca 0 0)), (1, .int (nI n))]) (fun H locs ls hl K => lv_iinc (k := 2) (lv' := [(16, .int (nI (j + 1))), (9, .int 1), (17, .int (nI (gA k.1 (157 + 5 * j + 3)))), (14, .int (nI (fb_sm (cvS k.1 N) 6))), (13, .int (nI (fb_sm (ctp k.1 N) 6))), (12, .int (nI (fb_sm (fun q => gA k.1 (31 + q)) 6))), (11, .int (nI (fb_sm (fun q => gA k.1 (25 + q)) 6))), (10, .int (nI (fb_sm (ctb k.1) 24))), (6, .int (nI (fb_sm (lnS k.1) N))), (8, .int (nI a)), (5, .int (nI VV)), (4, .int (nI cb)), (3, .int (nI M)), (2, .int (nI N)), (0, .ref (ca 0 0)), (1, .int (nI n))]) hx hb dL_holds_685 hl rfl (nI_1 _) (by decide) rfl K) ?_
        refine KX_step (fun H locs ls hl => lv_goto (tgt := 586) hx hb dL_holds_688 (by decide)) ?_
        refine KX_sub (lv1 := [(16, .int (nI (j + 1))), (14, .int (nI (fb_sm (cvS k.1 N) 6))), (13, .int (nI (fb_sm (ctp k.1 N) 6))), (12, .int (nI (fb_sm (fun q => gA k.1 (31 + q)) 6))), (11, .int (nI (fb_sm (fun q => gA k.1 (25 + q)) 6))), (10, .int (nI (fb_sm (ctb k.1) 24))), (9, .int 1), (6, .int (nI (fb_sm (lnS k.1) N))), (8, .int (nI a)), (5, .int (nI VV)), (4, .int (nI cb)), (3, .int (nI M)), (2, .int (nI N)), (0, .ref (ca 0 0)), (1, .int (nI n))]) [0, 3, 4, 5, 6, 7, 1, 8, 9, 10, 11, 12, 13, 14, 15] rfl ?_
        exact KX_wid (by omega) (by omega) (ih (j + 1) (by omega))
  refine KX_step (fun H locs ls hl => lv_iconst (v := 0) hx hb dL_holds_583 (by decide)) ?_
  refine KX_store (lv1 := [(16, .int 0), (14, .int (nI (fb_sm (cvS k.1 N) 6))), (13, .int (nI (fb_sm (ctp k.1 N) 6))), (12, .int (nI (fb_sm (fun q => gA k.1 (31 + q)) 6))), (11, .int (nI (fb_sm (fun q => gA k.1 (25 + q)) 6))), (10, .int (nI (fb_sm (ctb k.1) 24))), (9, .int 1), (6, .int (nI (fb_sm (lnS k.1) N))), (8, .int (nI a)), (5, .int (nI VV)), (4, .int (nI cb)), (3, .int (nI M)), (2, .int (nI N)), (0, .ref (ca 0 0)), (1, .int (nI n))]) (fun H locs ls hl K => lv_istore hx hb dL_holds_584 hl (by decide) rfl K) ?_
  refine KX_sub (lv1 := [(16, .int 0), (14, .int (nI (fb_sm (cvS k.1 N) 6))), (13, .int (nI (fb_sm (ctp k.1 N) 6))), (12, .int (nI (fb_sm (fun q => gA k.1 (31 + q)) 6))), (11, .int (nI (fb_sm (fun q => gA k.1 (25 + q)) 6))), (10, .int (nI (fb_sm (ctb k.1) 24))), (9, .int 1), (6, .int (nI (fb_sm (lnS k.1) N))), (8, .int (nI a)), (5, .int (nI VV)), (4, .int (nI cb)), (3, .int (nI M)), (2, .int (nI N)), (0, .ref (ca 0 0)), (1, .int (nI n))]) [0, 1, 2, 3, 4, 5, 6, 7, 8, 9, 10, 11, 12, 13, 14] rfl ?_
  exact L M 0 (by omega)
set_option maxHeartbeats 4000000 in
set_option maxRecDepth 100000 in
theorem holds_2 {p : Program} {l : Launch} {e : Env} {s : State} {m : MethodId} {args : Array Value} {below : List Frame} {meth : Method} {c : Code} {D : va_G} {cs : Nat → ClassId} {A : Nat → Prop} {Q : State → Prop} {ca : Nat → Nat → Nat} (hfl : l.stackTraces = false) {k : KC} {o : OV} {N M n cb VV w6 T2 a : Nat} (hRC : RC o k.1 N M) (hn : n < 2 ^ 31) (h3 : k.1 3 = nI cb) (hcb : cb < 24) (v5 : k.1 5 = nI VV) (hVV : VV < 2 ^ 30) (hLV : LV k.1 N VV) (t2 : k.1 2 = nI T2) (hT2 : T2 < 2 ^ 30) (hW : ∀ j, j < M → ∃ w, w ≤ T2 ∧ k.1 (157 + 5 * j + 4) = nI w) (w6e : k.1 6 = nI w6) (hw6 : w6 ≤ 60) (hNS : ∀ q, q < 6 → k.1 (25 + q) = nI (gA k.1 (25 + q))) (hLS : ∀ q, q < 6 → k.1 (31 + q) = nI (gA k.1 (31 + q))) (h9 : k.1 9 = nI (fb_sm (fun q => gA k.1 (25 + q)) 6)) (h10 : k.1 10 = nI (fb_sm (fun q => gA k.1 (31 + q)) 6)) (hB8 : k.1 7 &&& (k.1 8 ^^^ -1) = 0) (hfu : P_full k.1 a) (hfv : ∀ cv, QR cv k → k_X5_fullest cv = nI a) (hrm : ∀ q, q < 6 → ∃ z, P_room k.1 q (1 + n % 6) z ∧ ∀ cv, QR cv k → QR (k_X5_room cv (nI q) (nI (1 + n % 6))).2.2 k ∧ aX (k_X5_room cv (nI q) (nI (1 + n % 6))) = z) (hE : kE p s m args meth c D cs yL_holds wsN_holds cL_holds 19 (some .boolean) A) (kr : ∀ (lv : List (Nat × Value)) (pc cells slots : Nat), cells ≤ 1200 → slots ≤ 7200 → decode cL_holds pc = .ok (.ireturn, 1) → KX p l e RM_holds s m args below meth c D A 19 Q (f_1 k) (w_1 cs ca) lv [.int 1] pc cells slots) : KX p l e RM_holds s m args below meth c D A 19 Q (f_1 k) (w_1 cs ca) [(10, .int (nI (fb_sm (ctb k.1) 24))), (9, .int 1), (6, .int (nI (fb_sm (lnS k.1) N))), (8, .int (nI a)), (5, .int (nI VV)), (4, .int (nI cb)), (3, .int (nI M)), (2, .int (nI N)), (0, .ref (ca 0 0)), (1, .int (nI n))] [] 357 600 3600 := by
  obtain ⟨hx, hb, hr, hlocks, hml, hown, hts, hK, hA, hG, hnm⟩ := id hE
  have hown : s.vm.findClass RL = some m.cls := hown
  obtain ⟨⟨n0, hN, -⟩, ⟨m0, hM, -⟩, -, hv, hdj, hC9, -, hqv⟩ := id hRC.1
  obtain ⟨hfa, hfb⟩ := id hfu
  have hg0 : gA k.1 0 = N := RF_gN hRC
  have L : ∀ i j, j + i = 6 → KX p l e RM_holds s m args below meth c D A 19 Q (f_1 k) (w_1 cs ca) [(16, .int (nI j)), (15, .int (k_X6_chordAt k.1 (nI cb))), (14, .int (nI (fb_sm (cvS k.1 N) j))), (13, .int (nI (fb_sm (ctp k.1 N) j))), (12, .int (nI (fb_sm (fun q => gA k.1 (31 + q)) j))), (11, .int (nI (fb_sm (fun q => gA k.1 (25 + q)) j))), (10, .int (nI (fb_sm (ctb k.1) 24))), (9, .int 1), (6, .int (nI (fb_sm (lnS k.1) N))), (8, .int (nI a)), (5, .int (nI VV)), (4, .int (nI cb)), (3, .int (nI M)), (2, .int (nI N)), (0, .ref (ca 0 0)), (1, .int (nI n))] [] 384 (700 + 20 * j) (4200 + 120 * j) := by
    intro i
    induction i with
    | zero =>
      intro j hj
      have hj : j = 6 := by omega
      subst hj
      refine KX_step (fun H locs ls hl => lv_iload hx hb dL_holds_384 (lv_at hl 0 rfl)) ?_
      refine KX_step (fun H locs ls hl => lv_bipush (v := 6) hx hb dL_holds_386 (by decide)) ?_
      refine KX_if (fun H locs ls hl => lv_icmp_ge (tgt := 583) hx hb dL_holds_388 (by decide)) (fun _ => ?_) (fun q => absurd (by decide) q)
      refine KX_sub (lv1 := [(14, .int (nI (fb_sm (cvS k.1 N) 6))), (13, .int (nI (fb_sm (ctp k.1 N) 6))), (12, .int (nI (fb_sm (fun q => gA k.1 (31 + q)) 6))), (11, .int (nI (fb_sm (fun q => gA k.1 (25 + q)) 6))), (10, .int (nI (fb_sm (ctb k.1) 24))), (9, .int 1), (6, .int (nI (fb_sm (lnS k.1) N))), (8, .int (nI a)), (5, .int (nI VV)), (4, .int (nI cb)), (3, .int (nI M)), (2, .int (nI N)), (0, .ref (ca 0 0)), (1, .int (nI n))]) [2, 3, 4, 5, 6, 7, 8, 9, 10, 11, 12, 13, 14, 15] rfl ?_
      refine KX_wid (cells2 := 900) (slots2 := 5400) (by omega) (by omega) ?_
      exact holds_3 hfl hRC hn h3 hcb v5 hVV hLV t2 hT2 hW w6e hw6 hNS hLS h9 h10 hB8 hfu hfv hrm hE kr
    | succ i ih =>
      intro j hj
      have hj6 : j < 6 := by omega
      obtain ⟨z, hz1, hz2⟩ := hrm j hj6
      refine KX_step (fun H locs ls hl => lv_iload hx hb dL_holds_384 (lv_at hl 0 rfl)) ?_
      refine KX_step (fun H locs ls hl => lv_bipush (v := 6) hx hb dL_holds_386 (by decide)) ?_
      refine KX_if (fun H locs ls hl => lv_icmp_ge (tgt := 583) hx hb dL_holds_388 (by decide)) (fun q => absurd q (nI_ge (b := 6) (by omega) (by omega))) (fun _ => ?_)
      refine KX_step (fun H locs ls hl => lv_iload hx hb dL_holds_391 (lv_at hl 7 rfl)) ?_
      refine KX_if (fun H locs ls hl => lv_if_eq (tgt := 583) hx hb dL_holds_393 (by decide)) (fun q => absurd q n10) (fun _ => ?_)
      refine KX_step (fun H locs ls hl => lv_iload hx hb dL_holds_396 (lv_at hl 3 rfl)) ?_
      refine KX_step (fun H locs ls hl => lv_aload_n hx hb dL_holds_398 rfl (lv_at hl 14 rfl)) ?_
      refine KX_step (fun H locs ls hl => lv_iconst (v := 5) hx hb dL_holds_399 (by decide)) ?_
      refine KX_step (fun H locs ls hl => lv_iload hx hb dL_holds_400 (lv_at hl 0 rfl)) ?_
      refine KX_step (fun H locs ls hl => lv_iconst (v := 0) hx hb dL_holds_402 (by decide)) ?_
      refine KX_step (fun H locs ls hl => lv_iconst (v := 0) hx hb dL_holds_403 (by decide)) ?_
      refine KX_call (cells2 := 700 + 20 * j + 1) (slots2 := 4200 + 120 * j + 6) (st0 := [.int 0, .int 0, .int (nI j), .int 5, .ref (ca 0 0), .int (nI (fb_sm (ctp k.1 N) j))]) (rest := [.int (nI (fb_sm (ctp k.1 N) j))]) hE rfl (sp1 (q_call_5 l hfl D cs ca (nI j) 0 0 (fun cv hq => (F_pipe (p := j) (w := 0) hj6 (by omega) cv hq).imp id (fun z => z.trans (pgs_E n0 hN hv hj6))))) (va_cwS 5 hts gN_holds_L_call rfl rfl rfl (by decide +kernel) ⟨(Nat.le_of_ble_eq_true rfl), (Nat.le_of_ble_eq_true rfl)⟩) rfl rfl (Nat.le_of_ble_eq_true rfl) ⟨(show 700 + 20 * j + 1 ≤ 1200 by omega), (show 4200 + 120 * j + 6 ≤ 7200 by omega)⟩ dL_holds_404 (by omega) (by omega) ?_
      refine KX_step (st1 := [.int (nI (fb_sm (ctp k.1 N) (j + 1)))]) (fun H locs ls hl K => lv_iadd hx hb dL_holds_407 (by rw [show ((nI (fb_sm (ctp k.1 N) j)) + (nI (ctp k.1 N j)) : Int32) = (nI (fb_sm (ctp k.1 N) (j + 1))) from nI_add _ _]; exact K)) ?_
      refine KX_store (lv1 := [(13, .int (nI (fb_sm (ctp k.1 N) (j + 1)))), (16, .int (nI j)), (15, .int (k_X6_chordAt k.1 (nI cb))), (14, .int (nI (fb_sm (cvS k.1 N) j))), (12, .int (nI (fb_sm (fun q => gA k.1 (31 + q)) j))), (11, .int (nI (fb_sm (fun q => gA k.1 (25 + q)) j))), (10, .int (nI (fb_sm (ctb k.1) 24))), (9, .int 1), (6, .int (nI (fb_sm (lnS k.1) N))), (8, .int (nI a)), (5, .int (nI VV)), (4, .int (nI cb)), (3, .int (nI M)), (2, .int (nI N)), (0, .ref (ca 0 0)), (1, .int (nI n))]) (fun H locs ls hl K => lv_istore hx hb dL_holds_408 hl (by decide) rfl K) ?_
      refine KX_step (fun H locs ls hl => lv_iload hx hb dL_holds_410 (lv_at hl 3 rfl)) ?_
      refine KX_step (fun H locs ls hl => lv_aload_n hx hb dL_holds_412 rfl (lv_at hl 14 rfl)) ?_
      refine KX_step (fun H locs ls hl => lv_iconst (v := 5) hx hb dL_holds_413 (by decide)) ?_
      refine KX_step (fun H locs ls hl => lv_iload hx hb dL_holds_414 (lv_at hl 1 rfl)) ?_
      refine KX_step (fun H locs ls hl => lv_iconst (v := 1) hx hb dL_holds_416 (by decide)) ?_
      refine KX_step (fun H locs ls hl => lv_iconst (v := 0) hx hb dL_holds_417 (by decide)) ?_
      refine KX_call (cells2 := 700 + 20 * j + 2) (slots2 := 4200 + 120 * j + 12) (st0 := [.int 0, .int 1, .int (nI j), .int 5, .ref (ca 0 0), .int (nI (fb_sm (cvS k.1 N) j))]) (rest := [.int (nI (fb_sm (cvS k.1 N) j))]) hE rfl (sp1 (q_call_5 l hfl D cs ca (nI j) 1 0 (fun cv hq => (F_pipe (p := j) (w := 1) hj6 (by omega) cv hq).imp id (fun z => z.trans (vp_1 n0 hN hv hj6))))) (va_cwS 5 hts gN_holds_L_call rfl rfl rfl (by decide +kernel) ⟨(Nat.le_of_ble_eq_true rfl), (Nat.le_of_ble_eq_true rfl)⟩) rfl rfl (Nat.le_of_ble_eq_true rfl) ⟨(show 700 + 20 * j + 1 + 1 ≤ 1200 by omega), (show 4200 + 120 * j + 6 + 6 ≤ 7200 by omega)⟩ dL_holds_418 (by omega) (by omega) ?_
      refine KX_step (st1 := [.int (nI (fb_sm (cvS k.1 N) (j + 1)))]) (fun H locs ls hl K => lv_iadd hx hb dL_holds_421 (by rw [show ((nI (fb_sm (cvS k.1 N) j)) + (nI (cvS k.1 N j)) : Int32) = (nI (fb_sm (cvS k.1 N) (j + 1))) from nI_add _ _]; exact K)) ?_
      refine KX_store (lv1 := [(14, .int (nI (fb_sm (cvS k.1 N) (j + 1)))), (13, .int (nI (fb_sm (ctp k.1 N) (j + 1)))), (16, .int (nI j)), (15, .int (k_X6_chordAt k.1 (nI cb))), (12, .int (nI (fb_sm (fun q => gA k.1 (31 + q)) j))), (11, .int (nI (fb_sm (fun q => gA k.1 (25 + q)) j))), (10, .int (nI (fb_sm (ctb k.1) 24))), (9, .int 1), (6, .int (nI (fb_sm (lnS k.1) N))), (8, .int (nI a)), (5, .int (nI VV)), (4, .int (nI cb)), (3, .int (nI M)), (2, .int (nI N)), (0, .ref (ca 0 0)), (1, .int (nI n))]) (fun H locs ls hl K => lv_istore hx hb dL_holds_422 hl (by decide) rfl K) ?_
      refine KX_step (fun H locs ls hl => lv_iload hx hb dL_holds_424 (lv_at hl 5 rfl)) ?_
      refine KX_step (fun H locs ls hl => lv_aload_n hx hb dL_holds_426 rfl (lv_at hl 14 rfl)) ?_
      refine KX_step (fun H locs ls hl => lv_iconst (v := 5) hx hb dL_holds_427 (by decide)) ?_
      refine KX_step (fun H locs ls hl => lv_iload hx hb dL_holds_428 (lv_at hl 2 rfl)) ?_
      refine KX_step (fun H locs ls hl => lv_iconst (v := 3) hx hb dL_holds_430 (by decide)) ?_
      refine KX_step (fun H locs ls hl => lv_iconst (v := 0) hx hb dL_holds_431 (by decide)) ?_
      refine KX_call (cells2 := 700 + 20 * j + 3) (slots2 := 4200 + 120 * j + 18) (st0 := [.int 0, .int 3, .int (nI j), .int 5, .ref (ca 0 0), .int (nI (fb_sm (fun q => gA k.1 (25 + q)) j))]) (rest := [.int (nI (fb_sm (fun q => gA k.1 (25 + q)) j))]) hE rfl (sp1 (q_call_5 l hfl D cs ca (nI j) 3 0 (fun cv hq => (F_pipe (p := j) (w := 3) hj6 (by omega) cv hq).imp id (fun z => z.trans ((vp_3 hj6).trans (hNS j hj6)))))) (va_cwS 5 hts gN_holds_L_call rfl rfl rfl (by decide +kernel) ⟨(Nat.le_of_ble_eq_true rfl), (Nat.le_of_ble_eq_true rfl)⟩) rfl rfl (Nat.le_of_ble_eq_true rfl) ⟨(show 700 + 20 * j + 2 + 1 ≤ 1200 by omega), (show 4200 + 120 * j + 12 + 6 ≤ 7200 by omega)⟩ dL_holds_432 (by omega) (by omega) ?_
      refine KX_step (st1 := [.int (nI (fb_sm (fun q => gA k.1 (25 + q)) (j + 1)))]) (fun H locs ls hl K => lv_iadd hx hb dL_holds_435 (by rw [show ((nI (fb_sm (fun q => gA k.1 (25 + q)) j)) + (nI (gA k.1 (25 + j))) : Int32) = (nI (fb_sm (fun q => gA k.1 (25 + q)) (j + 1))) from nI_add _ _]; exact K)) ?_
      refine KX_store (lv1 := [(11, .int (nI (fb_sm (fun q => gA k.1 (25 + q)) (j + 1)))), (14, .int (nI (fb_sm (cvS k.1 N) (j + 1)))), (13, .int (nI (fb_sm (ctp k.1 N) (j + 1)))), (16, .int (nI j)), (15, .int (k_X6_chordAt k.1 (nI cb))), (12, .int (nI (fb_sm (fun q => gA k.1 (31 + q)) j))), (10, .int (nI (fb_sm (ctb k.1) 24))), (9, .int 1), (6, .int (nI (fb_sm (lnS k.1) N))), (8, .int (nI a)), (5, .int (nI VV)), (4, .int (nI cb)), (3, .int (nI M)), (2, .int (nI N)), (0, .ref (ca 0 0)), (1, .int (nI n))]) (fun H locs ls hl K => lv_istore hx hb dL_holds_436 hl (by decide) rfl K) ?_
      refine KX_step (fun H locs ls hl => lv_iload hx hb dL_holds_438 (lv_at hl 5 rfl)) ?_
      refine KX_step (fun H locs ls hl => lv_aload_n hx hb dL_holds_440 rfl (lv_at hl 14 rfl)) ?_
      refine KX_step (fun H locs ls hl => lv_iconst (v := 5) hx hb dL_holds_441 (by decide)) ?_
      refine KX_step (fun H locs ls hl => lv_iload hx hb dL_holds_442 (lv_at hl 3 rfl)) ?_
      refine KX_step (fun H locs ls hl => lv_iconst (v := 4) hx hb dL_holds_444 (by decide)) ?_
      refine KX_step (fun H locs ls hl => lv_iconst (v := 0) hx hb dL_holds_445 (by decide)) ?_
      refine KX_call (cells2 := 700 + 20 * j + 4) (slots2 := 4200 + 120 * j + 24) (st0 := [.int 0, .int 4, .int (nI j), .int 5, .ref (ca 0 0), .int (nI (fb_sm (fun q => gA k.1 (31 + q)) j))]) (rest := [.int (nI (fb_sm (fun q => gA k.1 (31 + q)) j))]) hE rfl (sp1 (q_call_5 l hfl D cs ca (nI j) 4 0 (fun cv hq => (F_pipe (p := j) (w := 4) hj6 (by omega) cv hq).imp id (fun z => z.trans ((vp_4 hj6).trans (hLS j hj6)))))) (va_cwS 5 hts gN_holds_L_call rfl rfl rfl (by decide +kernel) ⟨(Nat.le_of_ble_eq_true rfl), (Nat.le_of_ble_eq_true rfl)⟩) rfl rfl (Nat.le_of_ble_eq_true rfl) ⟨(show 700 + 20 * j + 3 + 1 ≤ 1200 by omega), (show 4200 + 120 * j + 18 + 6 ≤ 7200 by omega)⟩ dL_holds_446 (by omega) (by omega) ?_
      refine KX_step (st1 := [.int (nI (fb_sm (fun q => gA k.1 (31 + q)) (j + 1)))]) (fun H locs ls hl K => lv_iadd hx hb dL_holds_449 (by rw [show ((nI (fb_sm (fun q => gA k.1 (31 + q)) j)) + (nI (gA k.1 (31 + j))) : Int32) = (nI (fb_sm (fun q => gA k.1 (31 + q)) (j + 1))) from nI_add _ _]; exact K)) ?_
      refine KX_store (lv1 := [(12, .int (nI (fb_sm (fun q => gA k.1 (31 + q)) (j + 1)))), (11, .int (nI (fb_sm (fun q => gA k.1 (25 + q)) (j + 1)))), (14, .int (nI (fb_sm (cvS k.1 N) (j + 1)))), (13, .int (nI (fb_sm (ctp k.1 N) (j + 1)))), (16, .int (nI j)), (15, .int (k_X6_chordAt k.1 (nI cb))), (10, .int (nI (fb_sm (ctb k.1) 24))), (9, .int 1), (6, .int (nI (fb_sm (lnS k.1) N))), (8, .int (nI a)), (5, .int (nI VV)), (4, .int (nI cb)), (3, .int (nI M)), (2, .int (nI N)), (0, .ref (ca 0 0)), (1, .int (nI n))]) (fun H locs ls hl K => lv_istore hx hb dL_holds_450 hl (by decide) rfl K) ?_
      refine KX_step (fun H locs ls hl => lv_iconst (v := 1) hx hb dL_holds_452 (by decide)) ?_
      refine KX_step (fun H locs ls hl => lv_iload_n hx hb dL_holds_453 rfl (lv_at hl 15 rfl)) ?_
      refine KX_step (fun H locs ls hl => lv_bipush (v := 6) hx hb dL_holds_454 (by decide)) ?_
      refine KX_step (st1 := [.int (nI (n % 6)), .int 1]) (fun H locs ls hl K => lv_irem hx hb dL_holds_456 (by decide) (by rw [show ((nI n) - (nI n) / 6 * 6 : Int32) = (nI (n % 6)) from nI_mod (a := n) (b := 6) (by omega) (by omega) (by omega)]; exact K)) ?_
      refine KX_step (st1 := [.int (nI (1 + (n % 6)))]) (fun H locs ls hl K => lv_iadd hx hb dL_holds_457 (by rw [show (1 + (nI (n % 6)) : Int32) = (nI (1 + (n % 6))) from nI_add (1) (n % 6)]; exact K)) ?_
      refine KX_store (lv1 := [(17, .int (nI (1 + (n % 6)))), (12, .int (nI (fb_sm (fun q => gA k.1 (31 + q)) (j + 1)))), (11, .int (nI (fb_sm (fun q => gA k.1 (25 + q)) (j + 1)))), (14, .int (nI (fb_sm (cvS k.1 N) (j + 1)))), (13, .int (nI (fb_sm (ctp k.1 N) (j + 1)))), (16, .int (nI j)), (15, .int (k_X6_chordAt k.1 (nI cb))), (10, .int (nI (fb_sm (ctb k.1) 24))), (9, .int 1), (6, .int (nI (fb_sm (lnS k.1) N))), (8, .int (nI a)), (5, .int (nI VV)), (4, .int (nI cb)), (3, .int (nI M)), (2, .int (nI N)), (0, .ref (ca 0 0)), (1, .int (nI n))]) (fun H locs ls hl K => lv_istore hx hb dL_holds_458 hl (by decide) rfl K) ?_
      refine KX_step (fun H locs ls hl => lv_aload_n hx hb dL_holds_460 rfl (lv_at hl 15 rfl)) ?_
      refine KX_step (fun H locs ls hl => lv_bipush (v := 18) hx hb dL_holds_461 (by decide)) ?_
      refine KX_step (fun H locs ls hl => lv_iload hx hb dL_holds_463 (lv_at hl 5 rfl)) ?_
      refine KX_step (fun H locs ls hl => lv_iload hx hb dL_holds_465 (lv_at hl 0 rfl)) ?_
      refine KX_step (fun H locs ls hl => lv_iconst (v := 0) hx hb dL_holds_467 (by decide)) ?_
      refine KX_call (cells2 := 700 + 20 * j + 5) (slots2 := 4200 + 120 * j + 30) (st0 := [.int 0, .int (nI (1 + (n % 6))), .int (nI j), .int 18, .ref (ca 0 0)]) (rest := []) hE rfl (sp1 (q_call_18 l hfl D cs ca (nI j) (nI (1 + (n % 6))) 0 hz2)) (va_cwS 5 hts gN_holds_L_call rfl rfl rfl (by decide +kernel) ⟨(Nat.le_of_ble_eq_true rfl), (Nat.le_of_ble_eq_true rfl)⟩) rfl rfl (Nat.le_of_ble_eq_true rfl) ⟨(show 700 + 20 * j + 4 + 1 ≤ 1200 by omega), (show 4200 + 120 * j + 24 + 6 ≤ 7200 by omega)⟩ dL_holds_468 (by omega) (by omega) ?_
      refine KX_store (lv1 := [(18, .int z), (17, .int (nI (1 + (n % 6)))), (12, .int (nI (fb_sm (fun q => gA k.1 (31 + q)) (j + 1)))), (11, .int (nI (fb_sm (fun q => gA k.1 (25 + q)) (j + 1)))), (14, .int (nI (fb_sm (cvS k.1 N) (j + 1)))), (13, .int (nI (fb_sm (ctp k.1 N) (j + 1)))), (16, .int (nI j)), (15, .int (k_X6_chordAt k.1 (nI cb))), (10, .int (nI (fb_sm (ctb k.1) 24))), (9, .int 1), (6, .int (nI (fb_sm (lnS k.1) N))), (8, .int (nI a)), (5, .int (nI VV)), (4, .int (nI cb)), (3, .int (nI M)), (2, .int (nI N)), (0, .ref (ca 0 0)), (1, .int (nI n))]) (fun H locs ls hl K => lv_istore hx hb dL_holds_471 hl (by decide) rfl K) ?_
      refine KX_step (fun H locs ls hl => lv_aload_n hx hb dL_holds_473 rfl (lv_at hl 16 rfl)) ?_
      refine KX_step (fun H locs ls hl => lv_iconst (v := 5) hx hb dL_holds_474 (by decide)) ?_
      refine KX_step (fun H locs ls hl => lv_iload hx hb dL_holds_475 (lv_at hl 6 rfl)) ?_
      refine KX_step (fun H locs ls hl => lv_iconst (v := 2) hx hb dL_holds_477 (by decide)) ?_
      refine KX_step (fun H locs ls hl => lv_iconst (v := 0) hx hb dL_holds_478 (by decide)) ?_
      refine KX_call (cells2 := 700 + 20 * j + 6) (slots2 := 4200 + 120 * j + 36) (st0 := [.int 0, .int 2, .int (nI j), .int 5, .ref (ca 0 0)]) (rest := []) hE rfl (sp1 (q_call_5 l hfl D cs ca (nI j) 2 0 (fun cv hq => (F_pipe (p := j) (w := 2) hj6 (by omega) cv hq).imp id (fun z => z.trans (vp_2 n0 hN hv h3 hcb hj6))))) (va_cwS 5 hts gN_holds_L_call rfl rfl rfl (by decide +kernel) ⟨(Nat.le_of_ble_eq_true rfl), (Nat.le_of_ble_eq_true rfl)⟩) rfl rfl (Nat.le_of_ble_eq_true rfl) ⟨(show 700 + 20 * j + 5 + 1 ≤ 1200 by omega), (show 4200 + 120 * j + 30 + 6 ≤ 7200 by omega)⟩ dL_holds_479 (by omega) (by omega) ?_
      refine KX_step (fun H locs ls hl => lv_iload hx hb dL_holds_482 (lv_at hl 7 rfl)) ?_
      refine KX_step (fun H locs ls hl => lv_iload hx hb dL_holds_484 (lv_at hl 6 rfl)) ?_
      refine KX_step (fun H locs ls hl => lv_ishr hx hb dL_holds_486) ?_
      refine KX_step (fun H locs ls hl => lv_iconst (v := 1) hx hb dL_holds_487 (by decide)) ?_
      refine KX_step (st1 := [.int (b2 (cvs k.1 N j cb)), .int (b2 (cvs k.1 N j cb))]) (fun H locs ls hl K => lv_iand hx hb dL_holds_488 (by rw [show (((k_X6_chordAt k.1 (nI cb)) >>> ((nI j) &&& 31)) &&& 1 : Int32) = (b2 (cvs k.1 N j cb)) from ch_p hRC hcb hj6]; exact K)) ?_
      refine KX_if (fun H locs ls hl => lv_icmp_ne (tgt := 574) hx hb dL_holds_489 (by decide)) (fun q => absurd rfl q) (fun _ => ?_)
      unfold P_room at hz1
      rw [hg0] at hz1
      rcases hz1 with ⟨b, hb1, hb2, hb3, hb4⟩ | ⟨hb1, hb2⟩
      · subst hb2
        refine KX_step (fun H locs ls hl => lv_iload hx hb dL_holds_492 (lv_at hl 0 rfl)) ?_
        refine KX_step (fun H locs ls hl => lv_iconst (v := (-1)) hx hb dL_holds_494 (by decide)) ?_
        refine KX_if (fun H locs ls hl => lv_icmp_ne (tgt := 513) hx hb dL_holds_495 (by decide)) (fun _ => ?_) (fun q => absurd q (nI_nm (by omega)))
        refine KX_step (fun H locs ls hl => lv_iload hx hb dL_holds_513 (lv_at hl 0 rfl)) ?_
        refine KX_if (fun H locs ls hl => lv_if_lt (tgt := 574) hx hb dL_holds_515 (by decide)) (fun q => absurd q (nI_pos (by omega))) (fun _ => ?_)
        refine KX_step (fun H locs ls hl => lv_iload hx hb dL_holds_518 (lv_at hl 0 rfl)) ?_
        refine KX_step (fun H locs ls hl => lv_bipush (v := 24) hx hb dL_holds_520 (by decide)) ?_
        refine KX_if (fun H locs ls hl => lv_icmp_ge (tgt := 574) hx hb dL_holds_522 (by decide)) (fun q => absurd q (nI_ge (b := 24) (by omega) (by omega))) (fun _ => ?_)
        refine KX_step (fun H locs ls hl => lv_iload hx hb dL_holds_525 (lv_at hl 0 rfl)) ?_
        refine KX_step (fun H locs ls hl => lv_iconst (v := (-1)) hx hb dL_holds_527 (by decide)) ?_
        refine KX_if (fun H locs ls hl => lv_icmp_eq (tgt := 544) hx hb dL_holds_528 (by decide)) (fun q => absurd q (nI_nm (by omega))) (fun _ => ?_)
        refine KX_step (fun H locs ls hl => lv_aload_n hx hb dL_holds_531 rfl (lv_at hl 16 rfl)) ?_
        refine KX_step (fun H locs ls hl => lv_iload hx hb dL_holds_532 (lv_at hl 6 rfl)) ?_
        refine KX_step (fun H locs ls hl => lv_iload hx hb dL_holds_534 (lv_at hl 0 rfl)) ?_
        refine KX_step (fun H locs ls hl => lv_iload hx hb dL_holds_536 (lv_at hl 1 rfl)) ?_
        refine KX_call (cells2 := 700 + 20 * j + 12) (slots2 := 4200 + 120 * j + 72) (st0 := [.int (nI (1 + (n % 6))), .int (nI b), .int (nI j), .ref (ca 0 0)]) (rest := []) hE rfl (sp1 (show k1 l yL_isFree wsN_isFree RM_isFree 6 36 D cs ca [.ref (ca 0 0), .int (nI j), .int (nI b), .int (nI (1 + (n % 6)))] 1 k k from (show b2 (!tkn k.1 N j b (1 + n % 6)) = 1 by rw [hb3]; rfl) ▸ c_isFree l hfl D cs ca hRC hj6 hb1 (by omega))) (va_cwS 4 hts gN_holds_L_isFree rfl rfl rfl (by decide +kernel) ⟨(Nat.le_of_ble_eq_true rfl), (Nat.le_of_ble_eq_true rfl)⟩) rfl rfl (Nat.le_of_ble_eq_true rfl) ⟨(show 700 + 20 * j + 6 + 6 ≤ 1200 by omega), (show 4200 + 120 * j + 36 + 36 ≤ 7200 by omega)⟩ dL_holds_538 (by omega) (by omega) ?_
        refine KX_if (fun H locs ls hl => lv_if_eq (tgt := 574) hx hb dL_holds_541 (by decide)) (fun q => absurd q n10) (fun _ => ?_)
        by_cases hb0 : b = 0
        · refine KX_step (fun H locs ls hl => lv_iload hx hb dL_holds_544 (lv_at hl 0 rfl)) ?_
          refine KX_if (fun H locs ls hl => lv_if_eq (tgt := 570) hx hb dL_holds_546 (by decide)) (fun _ => ?_) (fun q => absurd (congrArg nI hb0) q)
          refine KX_step (fun H locs ls hl => lv_iconst (v := 1) hx hb dL_holds_570 (by decide)) ?_
          refine KX_step (fun H locs ls hl => lv_goto (tgt := 575) hx hb dL_holds_571 (by decide)) ?_
          refine KX_store (lv1 := [(9, .int 1), (18, .int (nI b)), (17, .int (nI (1 + (n % 6)))), (12, .int (nI (fb_sm (fun q => gA k.1 (31 + q)) (j + 1)))), (11, .int (nI (fb_sm (fun q => gA k.1 (25 + q)) (j + 1)))), (14, .int (nI (fb_sm (cvS k.1 N) (j + 1)))), (13, .int (nI (fb_sm (ctp k.1 N) (j + 1)))), (16, .int (nI j)), (15, .int (k_X6_chordAt k.1 (nI cb))), (10, .int (nI (fb_sm (ctb k.1) 24))), (6, .int (nI (fb_sm (lnS k.1) N))), (8, .int (nI a)), (5, .int (nI VV)), (4, .int (nI cb)), (3, .int (nI M)), (2, .int (nI N)), (0, .ref (ca 0 0)), (1, .int (nI n))]) (fun H locs ls hl K => lv_istore hx hb dL_holds_575 hl (by decide) rfl K) ?_
          refine KX_store (lv1 := [(16, .int (nI (j + 1))), (9, .int 1), (18, .int (nI b)), (17, .int (nI (1 + (n % 6)))), (12, .int (nI (fb_sm (fun q => gA k.1 (31 + q)) (j + 1)))), (11, .int (nI (fb_sm (fun q => gA k.1 (25 + q)) (j + 1)))), (14, .int (nI (fb_sm (cvS k.1 N) (j + 1)))), (13, .int (nI (fb_sm (ctp k.1 N) (j + 1)))), (15, .int (k_X6_chordAt k.1 (nI cb))), (10, .int (nI (fb_sm (ctb k.1) 24))), (6, .int (nI (fb_sm (lnS k.1) N))), (8, .int (nI a)), (5, .int (nI VV)), (4, .int (nI cb)), (3, .int (nI M)), (2, .int (nI N)), (0, .ref (ca 0 0)), (1, .int (nI n))]) (fun H locs ls hl K => lv_iinc (k := 7) (lv' := [(16, .int (nI (j + 1))), (9, .int 1), (18, .int (nI b)), (17, .int (nI (1 + (n % 6)))), (12, .int (nI (fb_sm (fun q => gA k.1 (31 + q)) (j + 1)))), (11, .int (nI (fb_sm (fun q => gA k.1 (25 + q)) (j + 1)))), (14, .int (nI (fb_sm (cvS k.1 N) (j + 1)))), (13, .int (nI (fb_sm (ctp k.1 N) (j + 1)))), (15, .int (k_X6_chordAt k.1 (nI cb))), (10, .int (nI (fb_sm (ctb k.1) 24))), (6, .int (nI (fb_sm (lnS k.1) N))), (8, .int (nI a)), (5, .int (nI VV)), (4, .int (nI cb)), (3, .int (nI M)), (2, .int (nI N)), (0, .ref (ca 0 0)), (1, .int (nI n))]) hx hb dL_holds_577 hl rfl (nI_1 _) (by decide) rfl K) ?_
          refine KX_step (fun H locs ls hl => lv_goto (tgt := 384) hx hb dL_holds_580 (by decide)) ?_
          refine KX_sub (lv1 := [(16, .int (nI (j + 1))), (15, .int (k_X6_chordAt k.1 (nI cb))), (14, .int (nI (fb_sm (cvS k.1 N) (j + 1)))), (13, .int (nI (fb_sm (ctp k.1 N) (j + 1)))), (12, .int (nI (fb_sm (fun q => gA k.1 (31 + q)) (j + 1)))), (11, .int (nI (fb_sm (fun q => gA k.1 (25 + q)) (j + 1)))), (10, .int (nI (fb_sm (ctb k.1) 24))), (9, .int 1), (6, .int (nI (fb_sm (lnS k.1) N))), (8, .int (nI a)), (5, .int (nI VV)), (4, .int (nI cb)), (3, .int (nI M)), (2, .int (nI N)), (0, .ref (ca 0 0)), (1, .int (nI n))]) [0, 8, 6, 7, 4, 5, 9, 1, 10, 11, 12, 13, 14, 15, 16, 17] rfl ?_
          exact KX_wid (by omega) (by omega) (ih (j + 1) (by omega))
        · refine KX_step (fun H locs ls hl => lv_iload hx hb dL_holds_544 (lv_at hl 0 rfl)) ?_
          refine KX_if (fun H locs ls hl => lv_if_eq (tgt := 570) hx hb dL_holds_546 (by decide)) (fun q => absurd q (nI_ne0 (by omega) (by omega))) (fun _ => ?_)
          refine KX_step (fun H locs ls hl => lv_iload hx hb dL_holds_549 (lv_at hl 0 rfl)) ?_
          refine KX_step (fun H locs ls hl => lv_iconst (v := (-1)) hx hb dL_holds_551 (by decide)) ?_
          refine KX_if (fun H locs ls hl => lv_icmp_eq (tgt := 570) hx hb dL_holds_552 (by decide)) (fun q => absurd q (nI_nm (by omega))) (fun _ => ?_)
          refine KX_step (fun H locs ls hl => lv_aload_n hx hb dL_holds_555 rfl (lv_at hl 16 rfl)) ?_
          refine KX_step (fun H locs ls hl => lv_iload hx hb dL_holds_556 (lv_at hl 6 rfl)) ?_
          refine KX_step (fun H locs ls hl => lv_iload_n hx hb dL_holds_558 rfl (lv_at hl 17 rfl)) ?_
          refine KX_step (fun H locs ls hl => lv_iload hx hb dL_holds_559 (lv_at hl 0 rfl)) ?_
          refine KX_step (st1 := [.int (nI (n % b)), .int (nI j), .ref (ca 0 0)]) (fun H locs ls hl K => lv_irem hx hb dL_holds_561 (nI_ne0 (by omega) (by omega)) (by rw [show ((nI n) - (nI n) / (nI b) * (nI b) : Int32) = (nI (n % b)) from nI_mod (a := n) (b := b) (by omega) (by omega) (by omega)]; exact K)) ?_
          refine KX_step (fun H locs ls hl => lv_iload hx hb dL_holds_562 (lv_at hl 1 rfl)) ?_
          refine KX_call (cells2 := 700 + 20 * j + 18) (slots2 := 4200 + 120 * j + 108) (st0 := [.int (nI (1 + (n % 6))), .int (nI (n % b)), .int (nI j), .ref (ca 0 0)]) (rest := []) hE rfl (sp1 (show k1 l yL_isFree wsN_isFree RM_isFree 6 36 D cs ca [.ref (ca 0 0), .int (nI j), .int (nI (n % b)), .int (nI (1 + (n % 6)))] 0 k k from (show b2 (!tkn k.1 N j (n % b) (1 + n % 6)) = 0 by rw [hb4 _ (Nat.mod_lt _ (by omega))]; rfl) ▸ c_isFree l hfl D cs ca hRC hj6 (by have := Nat.mod_lt n (show 0 < b by omega); omega) (by omega))) (va_cwS 4 hts gN_holds_L_isFree rfl rfl rfl (by decide +kernel) ⟨(Nat.le_of_ble_eq_true rfl), (Nat.le_of_ble_eq_true rfl)⟩) rfl rfl (Nat.le_of_ble_eq_true rfl) ⟨(show 700 + 20 * j + 12 + 6 ≤ 1200 by omega), (show 4200 + 120 * j + 72 + 36 ≤ 7200 by omega)⟩ dL_holds_564 (by omega) (by omega) ?_
          refine KX_if (fun H locs ls hl => lv_if_ne (tgt := 574) hx hb dL_holds_567 (by decide)) (fun q => absurd p00 q) (fun _ => ?_)
          refine KX_step (fun H locs ls hl => lv_iconst (v := 1) hx hb dL_holds_570 (by decide)) ?_
          refine KX_step (fun H locs ls hl => lv_goto (tgt := 575) hx hb dL_holds_571 (by decide)) ?_
          refine KX_store (lv1 := [(9, .int 1), (18, .int (nI b)), (17, .int (nI (1 + (n % 6)))), (12, .int (nI (fb_sm (fun q => gA k.1 (31 + q)) (j + 1)))), (11, .int (nI (fb_sm (fun q => gA k.1 (25 + q)) (j + 1)))), (14, .int (nI (fb_sm (cvS k.1 N) (j + 1)))), (13, .int (nI (fb_sm (ctp k.1 N) (j + 1)))), (16, .int (nI j)), (15, .int (k_X6_chordAt k.1 (nI cb))), (10, .int (nI (fb_sm (ctb k.1) 24))), (6, .int (nI (fb_sm (lnS k.1) N))), (8, .int (nI a)), (5, .int (nI VV)), (4, .int (nI cb)), (3, .int (nI M)), (2, .int (nI N)), (0, .ref (ca 0 0)), (1, .int (nI n))]) (fun H locs ls hl K => lv_istore hx hb dL_holds_575 hl (by decide) rfl K) ?_
          refine KX_store (lv1 := [(16, .int (nI (j + 1))), (9, .int 1), (18, .int (nI b)), (17, .int (nI (1 + (n % 6)))), (12, .int (nI (fb_sm (fun q => gA k.1 (31 + q)) (j + 1)))), (11, .int (nI (fb_sm (fun q => gA k.1 (25 + q)) (j + 1)))), (14, .int (nI (fb_sm (cvS k.1 N) (j + 1)))), (13, .int (nI (fb_sm (ctp k.1 N) (j + 1)))), (15, .int (k_X6_chordAt k.1 (nI cb))), (10, .int (nI (fb_sm (ctb k.1) 24))), (6, .int (nI (fb_sm (lnS k.1) N))), (8, .int (nI a)), (5, .int (nI VV)), (4, .int (nI cb)), (3, .int (nI M)), (2, .int (nI N)), (0, .ref (ca 0 0)), (1, .int (nI n))]) (fun H locs ls hl K => lv_iinc (k := 7) (lv' := [(16, .int (nI (j + 1))), (9, .int 1), (18, .int (nI b)), (17, .int (nI (1 + (n % 6)))), (12, .int (nI (fb_sm (fun q => gA k.1 (31 + q)) (j + 1)))), (11, .int (nI (fb_sm (fun q => gA k.1 (25 + q)) (j + 1)))), (14, .int (nI (fb_sm (cvS k.1 N) (j + 1)))), (13, .int (nI (fb_sm (ctp k.1 N) (j + 1)))), (15, .int (k_X6_chordAt k.1 (nI cb))), (10, .int (nI (fb_sm (ctb k.1) 24))), (6, .int (nI (fb_sm (lnS k.1) N))), (8, .int (nI a)), (5, .int (nI VV)), (4, .int (nI cb)), (3, .int (nI M)), (2, .int (nI N)), (0, .ref (ca 0 0)), (1, .int (nI n))]) hx hb dL_holds_577 hl rfl (nI_1 _) (by decide) rfl K) ?_
          refine KX_step (fun H locs ls hl => lv_goto (tgt := 384) hx hb dL_holds_580 (by decide)) ?_
          refine KX_sub (lv1 := [(16, .int (nI (j + 1))), (15, .int (k_X6_chordAt k.1 (nI cb))), (14, .int (nI (fb_sm (cvS k.1 N) (j + 1)))), (13, .int (nI (fb_sm (ctp k.1 N) (j + 1)))), (12, .int (nI (fb_sm (fun q => gA k.1 (31 + q)) (j + 1)))), (11, .int (nI (fb_sm (fun q => gA k.1 (25 + q)) (j + 1)))), (10, .int (nI (fb_sm (ctb k.1) 24))), (9, .int 1), (6, .int (nI (fb_sm (lnS k.1) N))), (8, .int (nI a)), (5, .int (nI VV)), (4, .int (nI cb)), (3, .int (nI M)), (2, .int (nI N)), (0, .ref (ca 0 0)), (1, .int (nI n))]) [0, 8, 6, 7, 4, 5, 9, 1, 10, 11, 12, 13, 14, 15, 16, 17] rfl ?_
          exact KX_wid (by omega) (by omega) (ih (j + 1) (by omega))
      · subst hb1
        have hct : 0 < cvS k.1 N j := by
          have ht := hb2 0 (by omega)
          refine fb_ct_pos.mpr ?_
          by_cases hx : ∀ i, i < 1 + n % 6 → cvs k.1 N j ((0 + i) % 24) = false
          · rw [tkn_f.mpr hx] at ht; cases ht
          · obtain ⟨i, hi⟩ := Classical.not_forall.mp hx
            obtain ⟨hi1, hi2⟩ := Classical.not_imp.mp hi
            exact ⟨(0 + i) % 24, by omega, by cases hcc : cvs k.1 N j ((0 + i) % 24) <;> simp_all⟩
        have hcl : fb_ct (fun b => cvs k.1 N j b) 24 ≤ 24 := fb_ct_le _ _
        refine KX_step (fun H locs ls hl => lv_iload hx hb dL_holds_492 (lv_at hl 0 rfl)) ?_
        refine KX_step (fun H locs ls hl => lv_iconst (v := (-1)) hx hb dL_holds_494 (by decide)) ?_
        refine KX_if (fun H locs ls hl => lv_icmp_ne (tgt := 513) hx hb dL_holds_495 (by decide)) (fun q => absurd rfl q) (fun _ => ?_)
        refine KX_step (fun H locs ls hl => lv_aload_n hx hb dL_holds_498 rfl (lv_at hl 16 rfl)) ?_
        refine KX_step (fun H locs ls hl => lv_iconst (v := 5) hx hb dL_holds_499 (by decide)) ?_
        refine KX_step (fun H locs ls hl => lv_iload hx hb dL_holds_500 (lv_at hl 6 rfl)) ?_
        refine KX_step (fun H locs ls hl => lv_iconst (v := 1) hx hb dL_holds_502 (by decide)) ?_
        refine KX_step (fun H locs ls hl => lv_iconst (v := 0) hx hb dL_holds_503 (by decide)) ?_
        refine KX_call (cells2 := 700 + 20 * j + 7) (slots2 := 4200 + 120 * j + 42) (st0 := [.int 0, .int 1, .int (nI j), .int 5, .ref (ca 0 0)]) (rest := []) hE rfl (sp1 (q_call_5 l hfl D cs ca (nI j) 1 0 (fun cv hq => (F_pipe (p := j) (w := 1) hj6 (by omega) cv hq).imp id (fun z => z.trans (vp_1 n0 hN hv hj6))))) (va_cwS 5 hts gN_holds_L_call rfl rfl rfl (by decide +kernel) ⟨(Nat.le_of_ble_eq_true rfl), (Nat.le_of_ble_eq_true rfl)⟩) rfl rfl (Nat.le_of_ble_eq_true rfl) ⟨(show 700 + 20 * j + 6 + 1 ≤ 1200 by omega), (show 4200 + 120 * j + 36 + 6 ≤ 7200 by omega)⟩ dL_holds_504 (by omega) (by omega) ?_
        refine KX_if (fun H locs ls hl => lv_if_le (tgt := 574) hx hb dL_holds_507 (by decide)) (fun q => absurd q (nI_nle hct (by omega))) (fun _ => ?_)
        refine KX_step (fun H locs ls hl => lv_goto (tgt := 525) hx hb dL_holds_510 (by decide)) ?_
        refine KX_step (fun H locs ls hl => lv_iload hx hb dL_holds_525 (lv_at hl 0 rfl)) ?_
        refine KX_step (fun H locs ls hl => lv_iconst (v := (-1)) hx hb dL_holds_527 (by decide)) ?_
        refine KX_if (fun H locs ls hl => lv_icmp_eq (tgt := 544) hx hb dL_holds_528 (by decide)) (fun _ => ?_) (fun q => absurd rfl q)
        refine KX_step (fun H locs ls hl => lv_iload hx hb dL_holds_544 (lv_at hl 0 rfl)) ?_
        refine KX_if (fun H locs ls hl => lv_if_eq (tgt := 570) hx hb dL_holds_546 (by decide)) (fun q => absurd q (by decide)) (fun _ => ?_)
        refine KX_step (fun H locs ls hl => lv_iload hx hb dL_holds_549 (lv_at hl 0 rfl)) ?_
        refine KX_step (fun H locs ls hl => lv_iconst (v := (-1)) hx hb dL_holds_551 (by decide)) ?_
        refine KX_if (fun H locs ls hl => lv_icmp_eq (tgt := 570) hx hb dL_holds_552 (by decide)) (fun _ => ?_) (fun q => absurd rfl q)
        refine KX_step (fun H locs ls hl => lv_iconst (v := 1) hx hb dL_holds_570 (by decide)) ?_
        refine KX_step (fun H locs ls hl => lv_goto (tgt := 575) hx hb dL_holds_571 (by decide)) ?_
        refine KX_store (lv1 := [(9, .int 1), (18, .int (-1)), (17, .int (nI (1 + (n % 6)))), (12, .int (nI (fb_sm (fun q => gA k.1 (31 + q)) (j + 1)))), (11, .int (nI (fb_sm (fun q => gA k.1 (25 + q)) (j + 1)))), (14, .int (nI (fb_sm (cvS k.1 N) (j + 1)))), (13, .int (nI (fb_sm (ctp k.1 N) (j + 1)))), (16, .int (nI j)), (15, .int (k_X6_chordAt k.1 (nI cb))), (10, .int (nI (fb_sm (ctb k.1) 24))), (6, .int (nI (fb_sm (lnS k.1) N))), (8, .int (nI a)), (5, .int (nI VV)), (4, .int (nI cb)), (3, .int (nI M)), (2, .int (nI N)), (0, .ref (ca 0 0)), (1, .int (nI n))]) (fun H locs ls hl K => lv_istore hx hb dL_holds_575 hl (by decide) rfl K) ?_
        refine KX_store (lv1 := [(16, .int (nI (j + 1))), (9, .int 1), (18, .int (-1)), (17, .int (nI (1 + (n % 6)))), (12, .int (nI (fb_sm (fun q => gA k.1 (31 + q)) (j + 1)))), (11, .int (nI (fb_sm (fun q => gA k.1 (25 + q)) (j + 1)))), (14, .int (nI (fb_sm (cvS k.1 N) (j + 1)))), (13, .int (nI (fb_sm (ctp k.1 N) (j + 1)))), (15, .int (k_X6_chordAt k.1 (nI cb))), (10, .int (nI (fb_sm (ctb k.1) 24))), (6, .int (nI (fb_sm (lnS k.1) N))), (8, .int (nI a)), (5, .int (nI VV)), (4, .int (nI cb)), (3, .int (nI M)), (2, .int (nI N)), (0, .ref (ca 0 0)), (1, .int (nI n))]) (fun H locs ls hl K => lv_iinc (k := 7) (lv' := [(16, .int (nI (j + 1))), (9, .int 1), (18, .int (-1)), (17, .int (nI (1 + (n % 6)))), (12, .int (nI (fb_sm (fun q => gA k.1 (31 + q)) (j + 1)))), (11, .int (nI (fb_sm (fun q => gA k.1 (25 + q)) (j + 1)))), (14, .int (nI (fb_sm (cvS k.1 N) (j + 1)))), (13, .int (nI (fb_sm (ctp k.1 N) (j + 1)))), (15, .int (k_X6_chordAt k.1 (nI cb))), (10, .int (nI (fb_sm (ctb k.1) 24))), (6, .int (nI (fb_sm (lnS k.1) N))), (8, .int (nI a)), (5, .int (nI VV)), (4, .int (nI cb)), (3, .int (nI M)), (2, .int (nI N)), (0, .ref (ca 0 0)), (1, .int (nI n))]) hx hb dL_holds_577 hl rfl (nI_1 _) (by decide) rfl K) ?_
        refine KX_step (fun H locs ls hl => lv_goto (tgt := 384) hx hb dL_holds_580 (by decide)) ?_
        refine KX_sub (lv1 := [(16, .int (nI (j + 1))), (15, .int (k_X6_chordAt k.1 (nI cb))), (14, .int (nI (fb_sm (cvS k.1 N) (j + 1)))), (13, .int (nI (fb_sm (ctp k.1 N) (j + 1)))), (12, .int (nI (fb_sm (fun q => gA k.1 (31 + q)) (j + 1)))), (11, .int (nI (fb_sm (fun q => gA k.1 (25 + q)) (j + 1)))), (10, .int (nI (fb_sm (ctb k.1) 24))), (9, .int 1), (6, .int (nI (fb_sm (lnS k.1) N))), (8, .int (nI a)), (5, .int (nI VV)), (4, .int (nI cb)), (3, .int (nI M)), (2, .int (nI N)), (0, .ref (ca 0 0)), (1, .int (nI n))]) [0, 8, 6, 7, 4, 5, 9, 1, 10, 11, 12, 13, 14, 15, 16, 17] rfl ?_
        exact KX_wid (by omega) (by omega) (ih (j + 1) (by omega))
  refine KX_step (fun H locs ls hl => lv_iconst (v := 0) hx hb dL_holds_357 (by decide)) ?_
  refine KX_store (lv1 := [(11, .int 0), (10, .int (nI (fb_sm (ctb k.1) 24))), (9, .int 1), (6, .int (nI (fb_sm (lnS k.1) N))), (8, .int (nI a)), (5, .int (nI VV)), (4, .int (nI cb)), (3, .int (nI M)), (2, .int (nI N)), (0, .ref (ca 0 0)), (1, .int (nI n))]) (fun H locs ls hl K => lv_istore hx hb dL_holds_358 hl (by decide) rfl K) ?_
  refine KX_step (fun H locs ls hl => lv_iconst (v := 0) hx hb dL_holds_360 (by decide)) ?_
  refine KX_store (lv1 := [(12, .int 0), (11, .int 0), (10, .int (nI (fb_sm (ctb k.1) 24))), (9, .int 1), (6, .int (nI (fb_sm (lnS k.1) N))), (8, .int (nI a)), (5, .int (nI VV)), (4, .int (nI cb)), (3, .int (nI M)), (2, .int (nI N)), (0, .ref (ca 0 0)), (1, .int (nI n))]) (fun H locs ls hl K => lv_istore hx hb dL_holds_361 hl (by decide) rfl K) ?_
  refine KX_step (fun H locs ls hl => lv_iconst (v := 0) hx hb dL_holds_363 (by decide)) ?_
  refine KX_store (lv1 := [(13, .int 0), (12, .int 0), (11, .int 0), (10, .int (nI (fb_sm (ctb k.1) 24))), (9, .int 1), (6, .int (nI (fb_sm (lnS k.1) N))), (8, .int (nI a)), (5, .int (nI VV)), (4, .int (nI cb)), (3, .int (nI M)), (2, .int (nI N)), (0, .ref (ca 0 0)), (1, .int (nI n))]) (fun H locs ls hl K => lv_istore hx hb dL_holds_364 hl (by decide) rfl K) ?_
  refine KX_step (fun H locs ls hl => lv_iconst (v := 0) hx hb dL_holds_366 (by decide)) ?_
  refine KX_store (lv1 := [(14, .int 0), (13, .int 0), (12, .int 0), (11, .int 0), (10, .int (nI (fb_sm (ctb k.1) 24))), (9, .int 1), (6, .int (nI (fb_sm (lnS k.1) N))), (8, .int (nI a)), (5, .int (nI VV)), (4, .int (nI cb)), (3, .int (nI M)), (2, .int (nI N)), (0, .ref (ca 0 0)), (1, .int (nI n))]) (fun H locs ls hl K => lv_istore hx hb dL_holds_367 hl (by decide) rfl K) ?_
  refine KX_step (fun H locs ls hl => lv_aload_n hx hb dL_holds_369 rfl (lv_at hl 12 rfl)) ?_
  refine KX_step (fun H locs ls hl => lv_bipush (v := 6) hx hb dL_holds_370 (by decide)) ?_
  refine KX_step (fun H locs ls hl => lv_iload hx hb dL_holds_372 (lv_at hl 9 rfl)) ?_
  refine KX_step (fun H locs ls hl => lv_iconst (v := 0) hx hb dL_holds_374 (by decide)) ?_
  refine KX_step (fun H locs ls hl => lv_iconst (v := 0) hx hb dL_holds_375 (by decide)) ?_
  refine KX_call (cells2 := 601) (slots2 := 3606) (st0 := [.int 0, .int 0, .int (nI cb), .int 6, .ref (ca 0 0)]) (rest := []) hE rfl (sp1 (q_call_6 l hfl D cs ca (nI cb) 0 0 (F_chord (b := cb) hcb))) (va_cwS 5 hts gN_holds_L_call rfl rfl rfl (by decide +kernel) ⟨(Nat.le_of_ble_eq_true rfl), (Nat.le_of_ble_eq_true rfl)⟩) rfl rfl (Nat.le_of_ble_eq_true rfl) ⟨(Nat.le_of_ble_eq_true rfl), (Nat.le_of_ble_eq_true rfl)⟩ dL_holds_376 (Nat.le_of_ble_eq_true rfl) (Nat.le_of_ble_eq_true rfl) ?_
  refine KX_store (lv1 := [(15, .int (k_X6_chordAt k.1 (nI cb))), (14, .int 0), (13, .int 0), (12, .int 0), (11, .int 0), (10, .int (nI (fb_sm (ctb k.1) 24))), (9, .int 1), (6, .int (nI (fb_sm (lnS k.1) N))), (8, .int (nI a)), (5, .int (nI VV)), (4, .int (nI cb)), (3, .int (nI M)), (2, .int (nI N)), (0, .ref (ca 0 0)), (1, .int (nI n))]) (fun H locs ls hl K => lv_istore hx hb dL_holds_379 hl (by decide) rfl K) ?_
  refine KX_step (fun H locs ls hl => lv_iconst (v := 0) hx hb dL_holds_381 (by decide)) ?_
  refine KX_store (lv1 := [(16, .int 0), (15, .int (k_X6_chordAt k.1 (nI cb))), (14, .int 0), (13, .int 0), (12, .int 0), (11, .int 0), (10, .int (nI (fb_sm (ctb k.1) 24))), (9, .int 1), (6, .int (nI (fb_sm (lnS k.1) N))), (8, .int (nI a)), (5, .int (nI VV)), (4, .int (nI cb)), (3, .int (nI M)), (2, .int (nI N)), (0, .ref (ca 0 0)), (1, .int (nI n))]) (fun H locs ls hl K => lv_istore hx hb dL_holds_382 hl (by decide) rfl K) ?_
  refine KX_sub (lv1 := [(16, .int 0), (15, .int (k_X6_chordAt k.1 (nI cb))), (14, .int 0), (13, .int 0), (12, .int 0), (11, .int 0), (10, .int (nI (fb_sm (ctb k.1) 24))), (9, .int 1), (6, .int (nI (fb_sm (lnS k.1) N))), (8, .int (nI a)), (5, .int (nI VV)), (4, .int (nI cb)), (3, .int (nI M)), (2, .int (nI N)), (0, .ref (ca 0 0)), (1, .int (nI n))]) [0, 1, 2, 3, 4, 5, 6, 7, 8, 9, 10, 11, 12, 13, 14, 15] rfl ?_
  exact KX_wid (by omega) (by omega) (L 6 0 (by omega))
set_option maxHeartbeats 4000000 in
set_option maxRecDepth 100000 in
theorem holds_1 {p : Program} {l : Launch} {e : Env} {s : State} {m : MethodId} {args : Array Value} {below : List Frame} {meth : Method} {c : Code} {D : va_G} {cs : Nat → ClassId} {A : Nat → Prop} {Q : State → Prop} {ca : Nat → Nat → Nat} (hfl : l.stackTraces = false) {k : KC} {o : OV} {N M n cb VV w6 T2 a : Nat} (hRC : RC o k.1 N M) (hn : n < 2 ^ 31) (h3 : k.1 3 = nI cb) (hcb : cb < 24) (v5 : k.1 5 = nI VV) (hVV : VV < 2 ^ 30) (hLV : LV k.1 N VV) (t2 : k.1 2 = nI T2) (hT2 : T2 < 2 ^ 30) (hW : ∀ j, j < M → ∃ w, w ≤ T2 ∧ k.1 (157 + 5 * j + 4) = nI w) (w6e : k.1 6 = nI w6) (hw6 : w6 ≤ 60) (hNS : ∀ q, q < 6 → k.1 (25 + q) = nI (gA k.1 (25 + q))) (hLS : ∀ q, q < 6 → k.1 (31 + q) = nI (gA k.1 (31 + q))) (h9 : k.1 9 = nI (fb_sm (fun q => gA k.1 (25 + q)) 6)) (h10 : k.1 10 = nI (fb_sm (fun q => gA k.1 (31 + q)) 6)) (hB8 : k.1 7 &&& (k.1 8 ^^^ -1) = 0) (hfu : P_full k.1 a) (hfv : ∀ cv, QR cv k → k_X5_fullest cv = nI a) (hrm : ∀ q, q < 6 → ∃ z, P_room k.1 q (1 + n % 6) z ∧ ∀ cv, QR cv k → QR (k_X5_room cv (nI q) (nI (1 + n % 6))).2.2 k ∧ aX (k_X5_room cv (nI q) (nI (1 + n % 6))) = z) (hE : kE p s m args meth c D cs yL_holds wsN_holds cL_holds 19 (some .boolean) A) (kr : ∀ (lv : List (Nat × Value)) (pc cells slots : Nat), cells ≤ 1200 → slots ≤ 7200 → decode cL_holds pc = .ok (.ireturn, 1) → KX p l e RM_holds s m args below meth c D A 19 Q (f_1 k) (w_1 cs ca) lv [.int 1] pc cells slots) : KX p l e RM_holds s m args below meth c D A 19 Q (f_1 k) (w_1 cs ca) [(9, .int 1), (6, .int (nI (fb_sm (lnS k.1) N))), (8, .int (nI a)), (5, .int (nI VV)), (4, .int (nI cb)), (3, .int (nI M)), (2, .int (nI N)), (0, .ref (ca 0 0)), (1, .int (nI n))] [] 268 400 2400 := by
  obtain ⟨hx, hb, hr, hlocks, hml, hown, hts, hK, hA, hG, hnm⟩ := id hE
  have hown : s.vm.findClass RL = some m.cls := hown
  obtain ⟨⟨n0, hN, -⟩, ⟨m0, hM, -⟩, -, hv, hdj, hC9, -, hqv⟩ := id hRC.1
  obtain ⟨hfa, hfb⟩ := id hfu
  have hg0 : gA k.1 0 = N := RF_gN hRC
  have L : ∀ i j, j + i = 24 → KX p l e RM_holds s m args below meth c D A 19 Q (f_1 k) (w_1 cs ca) [(11, .int (nI j)), (10, .int (nI (fb_sm (ctb k.1) j))), (9, .int 1), (6, .int (nI (fb_sm (lnS k.1) N))), (8, .int (nI a)), (5, .int (nI VV)), (4, .int (nI cb)), (3, .int (nI M)), (2, .int (nI N)), (0, .ref (ca 0 0)), (1, .int (nI n))] [] 274 (400 + 2 * j) (2400 + 12 * j) := by
    intro i
    induction i with
    | zero =>
      intro j hj
      have hj : j = 24 := by omega
      subst hj
      refine KX_step (fun H locs ls hl => lv_iload hx hb dL_holds_274 (lv_at hl 0 rfl)) ?_
      refine KX_step (fun H locs ls hl => lv_bipush (v := 24) hx hb dL_holds_276 (by decide)) ?_
      refine KX_if (fun H locs ls hl => lv_icmp_ge (tgt := 357) hx hb dL_holds_278 (by decide)) (fun _ => ?_) (fun q => absurd (by decide) q)
      refine KX_sub (lv1 := [(10, .int (nI (fb_sm (ctb k.1) 24))), (9, .int 1), (6, .int (nI (fb_sm (lnS k.1) N))), (8, .int (nI a)), (5, .int (nI VV)), (4, .int (nI cb)), (3, .int (nI M)), (2, .int (nI N)), (0, .ref (ca 0 0)), (1, .int (nI n))]) [1, 2, 3, 4, 5, 6, 7, 8, 9, 10] rfl ?_
      refine KX_wid (cells2 := 600) (slots2 := 3600) (by omega) (by omega) ?_
      exact holds_2 hfl hRC hn h3 hcb v5 hVV hLV t2 hT2 hW w6e hw6 hNS hLS h9 h10 hB8 hfu hfv hrm hE kr
    | succ i ih =>
      intro j hj
      have hjb : j < 24 := by omega
      have l1 : ctb k.1 j ≤ 6 := fb_ct_le _ _
      have l2 : ctb k.1 a ≤ 6 := fb_ct_le _ _
      refine KX_step (fun H locs ls hl => lv_iload hx hb dL_holds_274 (lv_at hl 0 rfl)) ?_
      refine KX_step (fun H locs ls hl => lv_bipush (v := 24) hx hb dL_holds_276 (by decide)) ?_
      refine KX_if (fun H locs ls hl => lv_icmp_ge (tgt := 357) hx hb dL_holds_278 (by decide)) (fun q => absurd q (nI_ge (b := 24) (by omega) (by omega))) (fun _ => ?_)
      refine KX_step (fun H locs ls hl => lv_iload hx hb dL_holds_281 (lv_at hl 2 rfl)) ?_
      refine KX_if (fun H locs ls hl => lv_if_eq (tgt := 357) hx hb dL_holds_283 (by decide)) (fun q => absurd q n10) (fun _ => ?_)
      refine KX_step (fun H locs ls hl => lv_aload_n hx hb dL_holds_286 rfl (lv_at hl 9 rfl)) ?_
      refine KX_step (fun H locs ls hl => lv_bipush (v := 6) hx hb dL_holds_287 (by decide)) ?_
      refine KX_step (fun H locs ls hl => lv_iload hx hb dL_holds_289 (lv_at hl 0 rfl)) ?_
      refine KX_step (fun H locs ls hl => lv_iconst (v := 0) hx hb dL_holds_291 (by decide)) ?_
      refine KX_step (fun H locs ls hl => lv_iconst (v := 0) hx hb dL_holds_292 (by decide)) ?_
      refine KX_call (cells2 := 400 + 2 * j + 1) (slots2 := 2400 + 12 * j + 6) (st0 := [.int 0, .int 0, .int (nI j), .int 6, .ref (ca 0 0)]) (rest := []) hE rfl (sp1 (q_call_6 l hfl D cs ca (nI j) 0 0 (F_chord (b := j) hjb))) (va_cwS 5 hts gN_holds_L_call rfl rfl rfl (by decide +kernel) ⟨(Nat.le_of_ble_eq_true rfl), (Nat.le_of_ble_eq_true rfl)⟩) rfl rfl (Nat.le_of_ble_eq_true rfl) ⟨(show 400 + 2 * j + 1 ≤ 1200 by omega), (show 2400 + 12 * j + 6 ≤ 7200 by omega)⟩ dL_holds_293 (by omega) (by omega) ?_
      refine KX_call (cells2 := 400 + 2 * j + 1) (slots2 := 2400 + 12 * j + 6) (st0 := [.int (k_X6_chordAt k.1 (nI j))]) (rest := []) hE rfl (sp0 (show kQ l yL_bits wsL_bits RM_bits 0 0 D cs [.int (k_X6_chordAt k.1 (nI j))] [] (nI (ctb k.1 j)) (fun _ : Unit => True) (fun _ => []) from ch_n hRC hjb ▸ c_bits l D cs _)) (va_cwS 1 hts gN_holds_L_bits rfl rfl rfl (by decide +kernel) ⟨(Nat.le_of_ble_eq_true rfl), (Nat.le_of_ble_eq_true rfl)⟩) rfl rfl (Nat.le_of_ble_eq_true rfl) ⟨(show 400 + 2 * j + 1 + 0 ≤ 1200 by omega), (show 2400 + 12 * j + 6 + 0 ≤ 7200 by omega)⟩ dL_holds_296 (by omega) (by omega) ?_
      refine KX_store (lv1 := [(12, .int (nI (ctb k.1 j))), (11, .int (nI j)), (10, .int (nI (fb_sm (ctb k.1) j))), (9, .int 1), (6, .int (nI (fb_sm (lnS k.1) N))), (8, .int (nI a)), (5, .int (nI VV)), (4, .int (nI cb)), (3, .int (nI M)), (2, .int (nI N)), (0, .ref (ca 0 0)), (1, .int (nI n))]) (fun H locs ls hl K => lv_istore hx hb dL_holds_299 hl (by decide) rfl K) ?_
      refine KX_step (fun H locs ls hl => lv_aload_n hx hb dL_holds_301 rfl (lv_at hl 10 rfl)) ?_
      refine KX_step (fun H locs ls hl => lv_bipush (v := 6) hx hb dL_holds_302 (by decide)) ?_
      refine KX_step (fun H locs ls hl => lv_iload hx hb dL_holds_304 (lv_at hl 5 rfl)) ?_
      refine KX_step (fun H locs ls hl => lv_iconst (v := 0) hx hb dL_holds_306 (by decide)) ?_
      refine KX_step (fun H locs ls hl => lv_iconst (v := 0) hx hb dL_holds_307 (by decide)) ?_
      refine KX_call (cells2 := 400 + 2 * j + 2) (slots2 := 2400 + 12 * j + 12) (st0 := [.int 0, .int 0, .int (nI a), .int 6, .ref (ca 0 0)]) (rest := []) hE rfl (sp1 (q_call_6 l hfl D cs ca (nI a) 0 0 (F_chord (b := a) hfa))) (va_cwS 5 hts gN_holds_L_call rfl rfl rfl (by decide +kernel) ⟨(Nat.le_of_ble_eq_true rfl), (Nat.le_of_ble_eq_true rfl)⟩) rfl rfl (Nat.le_of_ble_eq_true rfl) ⟨(show 400 + 2 * j + 1 + 1 ≤ 1200 by omega), (show 2400 + 12 * j + 6 + 6 ≤ 7200 by omega)⟩ dL_holds_308 (by omega) (by omega) ?_
      refine KX_call (cells2 := 400 + 2 * j + 2) (slots2 := 2400 + 12 * j + 12) (st0 := [.int (k_X6_chordAt k.1 (nI a))]) (rest := []) hE rfl (sp0 (show kQ l yL_bits wsL_bits RM_bits 0 0 D cs [.int (k_X6_chordAt k.1 (nI a))] [] (nI (ctb k.1 a)) (fun _ : Unit => True) (fun _ => []) from ch_n hRC hfa ▸ c_bits l D cs _)) (va_cwS 1 hts gN_holds_L_bits rfl rfl rfl (by decide +kernel) ⟨(Nat.le_of_ble_eq_true rfl), (Nat.le_of_ble_eq_true rfl)⟩) rfl rfl (Nat.le_of_ble_eq_true rfl) ⟨(show 400 + 2 * j + 2 + 0 ≤ 1200 by omega), (show 2400 + 12 * j + 12 + 0 ≤ 7200 by omega)⟩ dL_holds_311 (by omega) (by omega) ?_
      refine KX_store (lv1 := [(13, .int (nI (ctb k.1 a))), (12, .int (nI (ctb k.1 j))), (11, .int (nI j)), (10, .int (nI (fb_sm (ctb k.1) j))), (9, .int 1), (6, .int (nI (fb_sm (lnS k.1) N))), (8, .int (nI a)), (5, .int (nI VV)), (4, .int (nI cb)), (3, .int (nI M)), (2, .int (nI N)), (0, .ref (ca 0 0)), (1, .int (nI n))]) (fun H locs ls hl K => lv_istore hx hb dL_holds_314 hl (by decide) rfl K) ?_
      refine KX_step (fun H locs ls hl => lv_iload hx hb dL_holds_316 (lv_at hl 3 rfl)) ?_
      refine KX_step (fun H locs ls hl => lv_iload hx hb dL_holds_318 (lv_at hl 1 rfl)) ?_
      refine KX_step (st1 := [.int (nI (fb_sm (ctb k.1) (j + 1)))]) (fun H locs ls hl K => lv_iadd hx hb dL_holds_320 (by rw [show ((nI (fb_sm (ctb k.1) j)) + (nI (ctb k.1 j)) : Int32) = (nI (fb_sm (ctb k.1) (j + 1))) from nI_add _ _]; exact K)) ?_
      refine KX_store (lv1 := [(10, .int (nI (fb_sm (ctb k.1) (j + 1)))), (13, .int (nI (ctb k.1 a))), (12, .int (nI (ctb k.1 j))), (11, .int (nI j)), (9, .int 1), (6, .int (nI (fb_sm (lnS k.1) N))), (8, .int (nI a)), (5, .int (nI VV)), (4, .int (nI cb)), (3, .int (nI M)), (2, .int (nI N)), (0, .ref (ca 0 0)), (1, .int (nI n))]) (fun H locs ls hl K => lv_istore hx hb dL_holds_321 hl (by decide) rfl K) ?_
      refine KX_step (fun H locs ls hl => lv_iload hx hb dL_holds_323 (lv_at hl 2 rfl)) ?_
      refine KX_step (fun H locs ls hl => lv_iload hx hb dL_holds_325 (lv_at hl 1 rfl)) ?_
      rcases hfb j hjb with hlt | ⟨heq, hle⟩
      · refine KX_if (fun H locs ls hl => lv_icmp_lt (tgt := 344) hx hb dL_holds_327 (by decide)) (fun _ => ?_) (fun q => absurd (nI_lt hlt (by omega)) q)
        refine KX_step (fun H locs ls hl => lv_iconst (v := 1) hx hb dL_holds_344 (by decide)) ?_
        refine KX_step (fun H locs ls hl => lv_goto (tgt := 349) hx hb dL_holds_345 (by decide)) ?_
        refine KX_store (lv1 := [(9, .int 1), (10, .int (nI (fb_sm (ctb k.1) (j + 1)))), (13, .int (nI (ctb k.1 a))), (12, .int (nI (ctb k.1 j))), (11, .int (nI j)), (6, .int (nI (fb_sm (lnS k.1) N))), (8, .int (nI a)), (5, .int (nI VV)), (4, .int (nI cb)), (3, .int (nI M)), (2, .int (nI N)), (0, .ref (ca 0 0)), (1, .int (nI n))]) (fun H locs ls hl K => lv_istore hx hb dL_holds_349 hl (by decide) rfl K) ?_
        refine KX_store (lv1 := [(11, .int (nI (j + 1))), (9, .int 1), (10, .int (nI (fb_sm (ctb k.1) (j + 1)))), (13, .int (nI (ctb k.1 a))), (12, .int (nI (ctb k.1 j))), (6, .int (nI (fb_sm (lnS k.1) N))), (8, .int (nI a)), (5, .int (nI VV)), (4, .int (nI cb)), (3, .int (nI M)), (2, .int (nI N)), (0, .ref (ca 0 0)), (1, .int (nI n))]) (fun H locs ls hl K => lv_iinc (k := 4) (lv' := [(11, .int (nI (j + 1))), (9, .int 1), (10, .int (nI (fb_sm (ctb k.1) (j + 1)))), (13, .int (nI (ctb k.1 a))), (12, .int (nI (ctb k.1 j))), (6, .int (nI (fb_sm (lnS k.1) N))), (8, .int (nI a)), (5, .int (nI VV)), (4, .int (nI cb)), (3, .int (nI M)), (2, .int (nI N)), (0, .ref (ca 0 0)), (1, .int (nI n))]) hx hb dL_holds_351 hl rfl (nI_1 _) (by decide) rfl K) ?_
        refine KX_step (fun H locs ls hl => lv_goto (tgt := 274) hx hb dL_holds_354 (by decide)) ?_
        refine KX_sub (lv1 := [(11, .int (nI (j + 1))), (10, .int (nI (fb_sm (ctb k.1) (j + 1)))), (9, .int 1), (6, .int (nI (fb_sm (lnS k.1) N))), (8, .int (nI a)), (5, .int (nI VV)), (4, .int (nI cb)), (3, .int (nI M)), (2, .int (nI N)), (0, .ref (ca 0 0)), (1, .int (nI n))]) [0, 2, 1, 5, 6, 7, 8, 9, 10, 11, 12] rfl ?_
        exact KX_wid (by omega) (by omega) (ih (j + 1) (by omega))
      · refine KX_if (fun H locs ls hl => lv_icmp_lt (tgt := 344) hx hb dL_holds_327 (by decide)) (fun q => absurd q (nI_nlt (by omega) (by omega))) (fun _ => ?_)
        refine KX_step (fun H locs ls hl => lv_iload hx hb dL_holds_330 (lv_at hl 2 rfl)) ?_
        refine KX_step (fun H locs ls hl => lv_iload hx hb dL_holds_332 (lv_at hl 1 rfl)) ?_
        refine KX_if (fun H locs ls hl => lv_icmp_ne (tgt := 348) hx hb dL_holds_334 (by decide)) (fun q => absurd (congrArg nI heq) q) (fun _ => ?_)
        refine KX_step (fun H locs ls hl => lv_iload hx hb dL_holds_337 (lv_at hl 3 rfl)) ?_
        refine KX_step (fun H locs ls hl => lv_iload hx hb dL_holds_339 (lv_at hl 6 rfl)) ?_
        refine KX_if (fun H locs ls hl => lv_icmp_lt (tgt := 348) hx hb dL_holds_341 (by decide)) (fun q => absurd q (nI_nlt (by omega) (by omega))) (fun _ => ?_)
        refine KX_step (fun H locs ls hl => lv_iconst (v := 1) hx hb dL_holds_344 (by decide)) ?_
        refine KX_step (fun H locs ls hl => lv_goto (tgt := 349) hx hb dL_holds_345 (by decide)) ?_
        refine KX_store (lv1 := [(9, .int 1), (10, .int (nI (fb_sm (ctb k.1) (j + 1)))), (13, .int (nI (ctb k.1 a))), (12, .int (nI (ctb k.1 j))), (11, .int (nI j)), (6, .int (nI (fb_sm (lnS k.1) N))), (8, .int (nI a)), (5, .int (nI VV)), (4, .int (nI cb)), (3, .int (nI M)), (2, .int (nI N)), (0, .ref (ca 0 0)), (1, .int (nI n))]) (fun H locs ls hl K => lv_istore hx hb dL_holds_349 hl (by decide) rfl K) ?_
        refine KX_store (lv1 := [(11, .int (nI (j + 1))), (9, .int 1), (10, .int (nI (fb_sm (ctb k.1) (j + 1)))), (13, .int (nI (ctb k.1 a))), (12, .int (nI (ctb k.1 j))), (6, .int (nI (fb_sm (lnS k.1) N))), (8, .int (nI a)), (5, .int (nI VV)), (4, .int (nI cb)), (3, .int (nI M)), (2, .int (nI N)), (0, .ref (ca 0 0)), (1, .int (nI n))]) (fun H locs ls hl K => lv_iinc (k := 4) (lv' := [(11, .int (nI (j + 1))), (9, .int 1), (10, .int (nI (fb_sm (ctb k.1) (j + 1)))), (13, .int (nI (ctb k.1 a))), (12, .int (nI (ctb k.1 j))), (6, .int (nI (fb_sm (lnS k.1) N))), (8, .int (nI a)), (5, .int (nI VV)), (4, .int (nI cb)), (3, .int (nI M)), (2, .int (nI N)), (0, .ref (ca 0 0)), (1, .int (nI n))]) hx hb dL_holds_351 hl rfl (nI_1 _) (by decide) rfl K) ?_
        refine KX_step (fun H locs ls hl => lv_goto (tgt := 274) hx hb dL_holds_354 (by decide)) ?_
        refine KX_sub (lv1 := [(11, .int (nI (j + 1))), (10, .int (nI (fb_sm (ctb k.1) (j + 1)))), (9, .int 1), (6, .int (nI (fb_sm (lnS k.1) N))), (8, .int (nI a)), (5, .int (nI VV)), (4, .int (nI cb)), (3, .int (nI M)), (2, .int (nI N)), (0, .ref (ca 0 0)), (1, .int (nI n))]) [0, 2, 1, 5, 6, 7, 8, 9, 10, 11, 12] rfl ?_
        exact KX_wid (by omega) (by omega) (ih (j + 1) (by omega))
  refine KX_step (fun H locs ls hl => lv_iconst (v := 0) hx hb dL_holds_268 (by decide)) ?_
  refine KX_store (lv1 := [(10, .int 0), (9, .int 1), (6, .int (nI (fb_sm (lnS k.1) N))), (8, .int (nI a)), (5, .int (nI VV)), (4, .int (nI cb)), (3, .int (nI M)), (2, .int (nI N)), (0, .ref (ca 0 0)), (1, .int (nI n))]) (fun H locs ls hl K => lv_istore hx hb dL_holds_269 hl (by decide) rfl K) ?_
  refine KX_step (fun H locs ls hl => lv_iconst (v := 0) hx hb dL_holds_271 (by decide)) ?_
  refine KX_store (lv1 := [(11, .int 0), (10, .int 0), (9, .int 1), (6, .int (nI (fb_sm (lnS k.1) N))), (8, .int (nI a)), (5, .int (nI VV)), (4, .int (nI cb)), (3, .int (nI M)), (2, .int (nI N)), (0, .ref (ca 0 0)), (1, .int (nI n))]) (fun H locs ls hl K => lv_istore hx hb dL_holds_272 hl (by decide) rfl K) ?_
  refine KX_sub (lv1 := [(11, .int 0), (10, .int 0), (9, .int 1), (6, .int (nI (fb_sm (lnS k.1) N))), (8, .int (nI a)), (5, .int (nI VV)), (4, .int (nI cb)), (3, .int (nI M)), (2, .int (nI N)), (0, .ref (ca 0 0)), (1, .int (nI n))]) [0, 1, 2, 3, 4, 5, 6, 7, 8, 9, 10] rfl ?_
  exact KX_wid (by omega) (by omega) (L 24 0 (by omega))
set_option maxHeartbeats 4000000 in
set_option maxRecDepth 100000 in
theorem holds_0 {p : Program} {l : Launch} {e : Env} {s : State} {m : MethodId} {args : Array Value} {below : List Frame} {meth : Method} {c : Code} {D : va_G} {cs : Nat → ClassId} {A : Nat → Prop} {Q : State → Prop} {ca : Nat → Nat → Nat} (hfl : l.stackTraces = false) {k : KC} {o : OV} {N M n cb VV w6 T2 a : Nat} (hRC : RC o k.1 N M) (hn : n < 2 ^ 31) (h3 : k.1 3 = nI cb) (hcb : cb < 24) (v5 : k.1 5 = nI VV) (hVV : VV < 2 ^ 30) (hLV : LV k.1 N VV) (t2 : k.1 2 = nI T2) (hT2 : T2 < 2 ^ 30) (hW : ∀ j, j < M → ∃ w, w ≤ T2 ∧ k.1 (157 + 5 * j + 4) = nI w) (w6e : k.1 6 = nI w6) (hw6 : w6 ≤ 60) (hNS : ∀ q, q < 6 → k.1 (25 + q) = nI (gA k.1 (25 + q))) (hLS : ∀ q, q < 6 → k.1 (31 + q) = nI (gA k.1 (31 + q))) (h9 : k.1 9 = nI (fb_sm (fun q => gA k.1 (25 + q)) 6)) (h10 : k.1 10 = nI (fb_sm (fun q => gA k.1 (31 + q)) 6)) (hB8 : k.1 7 &&& (k.1 8 ^^^ -1) = 0) (hfu : P_full k.1 a) (hfv : ∀ cv, QR cv k → k_X5_fullest cv = nI a) (hrm : ∀ q, q < 6 → ∃ z, P_room k.1 q (1 + n % 6) z ∧ ∀ cv, QR cv k → QR (k_X5_room cv (nI q) (nI (1 + n % 6))).2.2 k ∧ aX (k_X5_room cv (nI q) (nI (1 + n % 6))) = z) (hE : kE p s m args meth c D cs yL_holds wsN_holds cL_holds 19 (some .boolean) A) (kr : ∀ (lv : List (Nat × Value)) (pc cells slots : Nat), cells ≤ 1200 → slots ≤ 7200 → decode cL_holds pc = .ok (.ireturn, 1) → KX p l e RM_holds s m args below meth c D A 19 Q (f_1 k) (w_1 cs ca) lv [.int 1] pc cells slots) : KX p l e RM_holds s m args below meth c D A 19 Q (f_1 k) (w_1 cs ca) [(10, .int 0), (9, .int 1), (7, .int 0), (6, .int 0), (8, .int (nI a)), (5, .int (nI VV)), (4, .int (nI cb)), (3, .int (nI M)), (2, .int (nI N)), (0, .ref (ca 0 0)), (1, .int (nI n))] [] 110 10 60 := by
  obtain ⟨hx, hb, hr, hlocks, hml, hown, hts, hK, hA, hG, hnm⟩ := id hE
  have hown : s.vm.findClass RL = some m.cls := hown
  obtain ⟨⟨n0, hN, -⟩, ⟨m0, hM, -⟩, -, hv, hdj, hC9, -, hqv⟩ := id hRC.1
  obtain ⟨hfa, hfb⟩ := id hfu
  have hg0 : gA k.1 0 = N := RF_gN hRC
  have L : ∀ i j, j + i = N → KX p l e RM_holds s m args below meth c D A 19 Q (f_1 k) (w_1 cs ca) [(10, .int (nI j)), (9, .int 1), (7, .int (nI (mad k.1 j))), (6, .int (nI (fb_sm (lnS k.1) j))), (8, .int (nI a)), (5, .int (nI VV)), (4, .int (nI cb)), (3, .int (nI M)), (2, .int (nI N)), (0, .ref (ca 0 0)), (1, .int (nI n))] [] 110 (10 + 10 * j) (60 + 60 * j) := by
    intro i
    induction i with
    | zero =>
      intro j hj
      have hj : j = N := by omega
      subst hj
      refine KX_step (fun H locs ls hl => lv_iload hx hb dL_holds_110 (lv_at hl 0 rfl)) ?_
      refine KX_step (fun H locs ls hl => lv_iload_n hx hb dL_holds_112 rfl (lv_at hl 8 rfl)) ?_
      refine KX_if (fun H locs ls hl => lv_icmp_ge (tgt := 268) hx hb dL_holds_113 (by decide)) (fun _ => ?_) (fun q => absurd (nI_le (Nat.le_refl _) (by omega)) q)
      refine KX_sub (lv1 := [(9, .int 1), (6, .int (nI (fb_sm (lnS k.1) j))), (8, .int (nI a)), (5, .int (nI VV)), (4, .int (nI cb)), (3, .int (nI M)), (2, .int (nI j)), (0, .ref (ca 0 0)), (1, .int (nI n))]) [1, 3, 4, 5, 6, 7, 8, 9, 10] rfl ?_
      refine KX_wid (cells2 := 400) (slots2 := 2400) (by omega) (by omega) ?_
      exact holds_1 hfl hRC hn h3 hcb v5 hVV hLV t2 hT2 hW w6e hw6 hNS hLS h9 h10 hB8 hfu hfv hrm hE kr
    | succ i ih =>
      intro j hj
      have hjN : j < N := by omega
      obtain ⟨p1, p2, p3, p4, -⟩ := id (hv j hjN)
      have hmd := mad_lt hLV hjN
      have hvb := (hLV.1 j hjN).2.2
      refine KX_step (fun H locs ls hl => lv_iload hx hb dL_holds_110 (lv_at hl 0 rfl)) ?_
      refine KX_step (fun H locs ls hl => lv_iload_n hx hb dL_holds_112 rfl (lv_at hl 8 rfl)) ?_
      refine KX_if (fun H locs ls hl => lv_icmp_ge (tgt := 268) hx hb dL_holds_113 (by decide)) (fun q => absurd q (nI_ge (by omega) (by omega))) (fun _ => ?_)
      refine KX_step (fun H locs ls hl => lv_iload hx hb dL_holds_116 (lv_at hl 1 rfl)) ?_
      refine KX_if (fun H locs ls hl => lv_if_eq (tgt := 268) hx hb dL_holds_118 (by decide)) (fun q => absurd q n10) (fun _ => ?_)
      refine KX_step (fun H locs ls hl => lv_aload_n hx hb dL_holds_121 rfl (lv_at hl 9 rfl)) ?_
      refine KX_step (fun H locs ls hl => lv_iconst (v := 3) hx hb dL_holds_122 (by decide)) ?_
      refine KX_step (fun H locs ls hl => lv_iload hx hb dL_holds_123 (lv_at hl 0 rfl)) ?_
      refine KX_step (fun H locs ls hl => lv_iconst (v := 0) hx hb dL_holds_125 (by decide)) ?_
      refine KX_step (fun H locs ls hl => lv_iconst (v := 0) hx hb dL_holds_126 (by decide)) ?_
      refine KX_call (cells2 := 10 + 10 * j + 1) (slots2 := 60 + 60 * j + 6) (st0 := [.int 0, .int 0, .int (nI j), .int 3, .ref (ca 0 0)]) (rest := []) hE rfl (sp1 (q_call_3 l hfl D cs ca (nI j) 0 0 (fun cv hq => (F_peg (k := j) (w := 0) n0 hN hjN (by omega) cv hq).imp id (fun z => z.trans (hv j hjN).2.2.2.2.1)))) (va_cwS 5 hts gN_holds_L_call rfl rfl rfl (by decide +kernel) ⟨(Nat.le_of_ble_eq_true rfl), (Nat.le_of_ble_eq_true rfl)⟩) rfl rfl (Nat.le_of_ble_eq_true rfl) ⟨(show 10 + 10 * j + 1 ≤ 1200 by omega), (show 60 + 60 * j + 6 ≤ 7200 by omega)⟩ dL_holds_127 (by omega) (by omega) ?_
      refine KX_store (lv1 := [(11, .int (nI (gA k.1 (37 + 4 * j)))), (10, .int (nI j)), (9, .int 1), (7, .int (nI (mad k.1 j))), (6, .int (nI (fb_sm (lnS k.1) j))), (8, .int (nI a)), (5, .int (nI VV)), (4, .int (nI cb)), (3, .int (nI M)), (2, .int (nI N)), (0, .ref (ca 0 0)), (1, .int (nI n))]) (fun H locs ls hl K => lv_istore hx hb dL_holds_130 hl (by decide) rfl K) ?_
      refine KX_step (fun H locs ls hl => lv_aload_n hx hb dL_holds_132 rfl (lv_at hl 10 rfl)) ?_
      refine KX_step (fun H locs ls hl => lv_iconst (v := 3) hx hb dL_holds_133 (by decide)) ?_
      refine KX_step (fun H locs ls hl => lv_iload hx hb dL_holds_134 (lv_at hl 1 rfl)) ?_
      refine KX_step (fun H locs ls hl => lv_iconst (v := 1) hx hb dL_holds_136 (by decide)) ?_
      refine KX_step (fun H locs ls hl => lv_iconst (v := 0) hx hb dL_holds_137 (by decide)) ?_
      refine KX_call (cells2 := 10 + 10 * j + 2) (slots2 := 60 + 60 * j + 12) (st0 := [.int 0, .int 1, .int (nI j), .int 3, .ref (ca 0 0)]) (rest := []) hE rfl (sp1 (q_call_3 l hfl D cs ca (nI j) 1 0 (fun cv hq => (F_peg (k := j) (w := 1) n0 hN hjN (by omega) cv hq).imp id (fun z => z.trans (hv j hjN).2.2.2.2.2.1)))) (va_cwS 5 hts gN_holds_L_call rfl rfl rfl (by decide +kernel) ⟨(Nat.le_of_ble_eq_true rfl), (Nat.le_of_ble_eq_true rfl)⟩) rfl rfl (Nat.le_of_ble_eq_true rfl) ⟨(show 10 + 10 * j + 1 + 1 ≤ 1200 by omega), (show 60 + 60 * j + 6 + 6 ≤ 7200 by omega)⟩ dL_holds_138 (by omega) (by omega) ?_
      refine KX_store (lv1 := [(12, .int (nI (gA k.1 (37 + 4 * j + 1)))), (11, .int (nI (gA k.1 (37 + 4 * j)))), (10, .int (nI j)), (9, .int 1), (7, .int (nI (mad k.1 j))), (6, .int (nI (fb_sm (lnS k.1) j))), (8, .int (nI a)), (5, .int (nI VV)), (4, .int (nI cb)), (3, .int (nI M)), (2, .int (nI N)), (0, .ref (ca 0 0)), (1, .int (nI n))]) (fun H locs ls hl K => lv_istore hx hb dL_holds_141 hl (by decide) rfl K) ?_
      refine KX_step (fun H locs ls hl => lv_aload_n hx hb dL_holds_143 rfl (lv_at hl 11 rfl)) ?_
      refine KX_step (fun H locs ls hl => lv_iconst (v := 3) hx hb dL_holds_144 (by decide)) ?_
      refine KX_step (fun H locs ls hl => lv_iload hx hb dL_holds_145 (lv_at hl 2 rfl)) ?_
      refine KX_step (fun H locs ls hl => lv_iconst (v := 2) hx hb dL_holds_147 (by decide)) ?_
      refine KX_step (fun H locs ls hl => lv_iconst (v := 0) hx hb dL_holds_148 (by decide)) ?_
      refine KX_call (cells2 := 10 + 10 * j + 3) (slots2 := 60 + 60 * j + 18) (st0 := [.int 0, .int 2, .int (nI j), .int 3, .ref (ca 0 0)]) (rest := []) hE rfl (sp1 (q_call_3 l hfl D cs ca (nI j) 2 0 (fun cv hq => (F_peg (k := j) (w := 2) n0 hN hjN (by omega) cv hq).imp id (fun z => z.trans (hv j hjN).2.2.2.2.2.2)))) (va_cwS 5 hts gN_holds_L_call rfl rfl rfl (by decide +kernel) ⟨(Nat.le_of_ble_eq_true rfl), (Nat.le_of_ble_eq_true rfl)⟩) rfl rfl (Nat.le_of_ble_eq_true rfl) ⟨(show 10 + 10 * j + 2 + 1 ≤ 1200 by omega), (show 60 + 60 * j + 12 + 6 ≤ 7200 by omega)⟩ dL_holds_149 (by omega) (by omega) ?_
      refine KX_store (lv1 := [(13, .int (nI (gA k.1 (37 + 4 * j + 2)))), (12, .int (nI (gA k.1 (37 + 4 * j + 1)))), (11, .int (nI (gA k.1 (37 + 4 * j)))), (10, .int (nI j)), (9, .int 1), (7, .int (nI (mad k.1 j))), (6, .int (nI (fb_sm (lnS k.1) j))), (8, .int (nI a)), (5, .int (nI VV)), (4, .int (nI cb)), (3, .int (nI M)), (2, .int (nI N)), (0, .ref (ca 0 0)), (1, .int (nI n))]) (fun H locs ls hl K => lv_istore hx hb dL_holds_152 hl (by decide) rfl K) ?_
      refine KX_step (fun H locs ls hl => lv_aload_n hx hb dL_holds_154 rfl (lv_at hl 12 rfl)) ?_
      refine KX_step (fun H locs ls hl => lv_iconst (v := 3) hx hb dL_holds_155 (by decide)) ?_
      refine KX_step (fun H locs ls hl => lv_iload hx hb dL_holds_156 (lv_at hl 3 rfl)) ?_
      refine KX_step (fun H locs ls hl => lv_iconst (v := 3) hx hb dL_holds_158 (by decide)) ?_
      refine KX_step (fun H locs ls hl => lv_iconst (v := 0) hx hb dL_holds_159 (by decide)) ?_
      refine KX_call (cells2 := 10 + 10 * j + 4) (slots2 := 60 + 60 * j + 24) (st0 := [.int 0, .int 3, .int (nI j), .int 3, .ref (ca 0 0)]) (rest := []) hE rfl (sp1 (q_call_3 l hfl D cs ca (nI j) 3 0 (fun cv hq => (F_peg (k := j) (w := 3) n0 hN hjN (by omega) cv hq).imp id (fun z => z.trans (hLV.1 j hjN).1)))) (va_cwS 5 hts gN_holds_L_call rfl rfl rfl (by decide +kernel) ⟨(Nat.le_of_ble_eq_true rfl), (Nat.le_of_ble_eq_true rfl)⟩) rfl rfl (Nat.le_of_ble_eq_true rfl) ⟨(show 10 + 10 * j + 3 + 1 ≤ 1200 by omega), (show 60 + 60 * j + 18 + 6 ≤ 7200 by omega)⟩ dL_holds_160 (by omega) (by omega) ?_
      refine KX_store (lv1 := [(14, .int (nI (gA k.1 (37 + 4 * j + 3)))), (13, .int (nI (gA k.1 (37 + 4 * j + 2)))), (12, .int (nI (gA k.1 (37 + 4 * j + 1)))), (11, .int (nI (gA k.1 (37 + 4 * j)))), (10, .int (nI j)), (9, .int 1), (7, .int (nI (mad k.1 j))), (6, .int (nI (fb_sm (lnS k.1) j))), (8, .int (nI a)), (5, .int (nI VV)), (4, .int (nI cb)), (3, .int (nI M)), (2, .int (nI N)), (0, .ref (ca 0 0)), (1, .int (nI n))]) (fun H locs ls hl K => lv_istore hx hb dL_holds_163 hl (by decide) rfl K) ?_
      refine KX_step (fun H locs ls hl => lv_iload hx hb dL_holds_165 (lv_at hl 7 rfl)) ?_
      refine KX_step (fun H locs ls hl => lv_iload hx hb dL_holds_167 (lv_at hl 1 rfl)) ?_
      refine KX_step (st1 := [.int (nI (fb_sm (lnS k.1) (j + 1)))]) (fun H locs ls hl K => lv_iadd hx hb dL_holds_169 (by rw [show ((nI (fb_sm (lnS k.1) j)) + (nI (gA k.1 (37 + 4 * j + 2))) : Int32) = (nI (fb_sm (lnS k.1) (j + 1))) from nI_add _ _]; exact K)) ?_
      refine KX_store (lv1 := [(6, .int (nI (fb_sm (lnS k.1) (j + 1)))), (14, .int (nI (gA k.1 (37 + 4 * j + 3)))), (13, .int (nI (gA k.1 (37 + 4 * j + 2)))), (12, .int (nI (gA k.1 (37 + 4 * j + 1)))), (11, .int (nI (gA k.1 (37 + 4 * j)))), (10, .int (nI j)), (9, .int 1), (7, .int (nI (mad k.1 j))), (8, .int (nI a)), (5, .int (nI VV)), (4, .int (nI cb)), (3, .int (nI M)), (2, .int (nI N)), (0, .ref (ca 0 0)), (1, .int (nI n))]) (fun H locs ls hl K => lv_istore hx hb dL_holds_170 hl (by decide) rfl K) ?_
      refine KX_step (fun H locs ls hl => lv_iload hx hb dL_holds_172 (lv_at hl 2 rfl)) ?_
      refine KX_if (fun H locs ls hl => lv_if_le (tgt := 202) hx hb dL_holds_174 (by decide)) (fun q => absurd q (nI_nle (by omega) (by omega))) (fun _ => ?_)
      refine KX_step (fun H locs ls hl => lv_iload hx hb dL_holds_177 (lv_at hl 2 rfl)) ?_
      refine KX_step (fun H locs ls hl => lv_bipush (v := 6) hx hb dL_holds_179 (by decide)) ?_
      refine KX_if (fun H locs ls hl => lv_icmp_gt (tgt := 202) hx hb dL_holds_181 (by decide)) (fun q => absurd q (nI_nlt (a := 6) (by omega) (by omega))) (fun _ => ?_)
      refine KX_step (fun H locs ls hl => lv_iload hx hb dL_holds_184 (lv_at hl 1 rfl)) ?_
      refine KX_step (fun H locs ls hl => lv_iload hx hb dL_holds_186 (lv_at hl 7 rfl)) ?_
      refine KX_if (fun H locs ls hl => lv_icmp_le (tgt := 202) hx hb dL_holds_188 (by decide)) (fun q => absurd q (nI_ge hmd (by omega))) (fun _ => ?_)
      refine KX_step (fun H locs ls hl => lv_iload hx hb dL_holds_191 (lv_at hl 1 rfl)) ?_
      refine KX_step (fun H locs ls hl => lv_iload hx hb dL_holds_193 (lv_at hl 9 rfl)) ?_
      refine KX_if (fun H locs ls hl => lv_icmp_gt (tgt := 202) hx hb dL_holds_195 (by decide)) (fun q => absurd q (nI_nlt hvb (by omega))) (fun _ => ?_)
      refine KX_step (fun H locs ls hl => lv_iconst (v := 1) hx hb dL_holds_198 (by decide)) ?_
      refine KX_step (fun H locs ls hl => lv_goto (tgt := 203) hx hb dL_holds_199 (by decide)) ?_
      refine KX_store (lv1 := [(9, .int 1), (6, .int (nI (fb_sm (lnS k.1) (j + 1)))), (14, .int (nI (gA k.1 (37 + 4 * j + 3)))), (13, .int (nI (gA k.1 (37 + 4 * j + 2)))), (12, .int (nI (gA k.1 (37 + 4 * j + 1)))), (11, .int (nI (gA k.1 (37 + 4 * j)))), (10, .int (nI j)), (7, .int (nI (mad k.1 j))), (8, .int (nI a)), (5, .int (nI VV)), (4, .int (nI cb)), (3, .int (nI M)), (2, .int (nI N)), (0, .ref (ca 0 0)), (1, .int (nI n))]) (fun H locs ls hl K => lv_istore hx hb dL_holds_203 hl (by decide) rfl K) ?_
      refine KX_step (fun H locs ls hl => lv_iload hx hb dL_holds_205 (lv_at hl 2 rfl)) ?_
      refine KX_store (lv1 := [(7, .int (nI (gA k.1 (37 + 4 * j + 3)))), (9, .int 1), (6, .int (nI (fb_sm (lnS k.1) (j + 1)))), (14, .int (nI (gA k.1 (37 + 4 * j + 3)))), (13, .int (nI (gA k.1 (37 + 4 * j + 2)))), (12, .int (nI (gA k.1 (37 + 4 * j + 1)))), (11, .int (nI (gA k.1 (37 + 4 * j)))), (10, .int (nI j)), (8, .int (nI a)), (5, .int (nI VV)), (4, .int (nI cb)), (3, .int (nI M)), (2, .int (nI N)), (0, .ref (ca 0 0)), (1, .int (nI n))]) (fun H locs ls hl K => lv_istore hx hb dL_holds_207 hl (by decide) rfl K) ?_
      refine KX_step (fun H locs ls hl => lv_iconst (v := 0) hx hb dL_holds_209 (by decide)) ?_
      refine KX_store (lv1 := [(15, .int 0), (7, .int (nI (gA k.1 (37 + 4 * j + 3)))), (9, .int 1), (6, .int (nI (fb_sm (lnS k.1) (j + 1)))), (14, .int (nI (gA k.1 (37 + 4 * j + 3)))), (13, .int (nI (gA k.1 (37 + 4 * j + 2)))), (12, .int (nI (gA k.1 (37 + 4 * j + 1)))), (11, .int (nI (gA k.1 (37 + 4 * j)))), (10, .int (nI j)), (8, .int (nI a)), (5, .int (nI VV)), (4, .int (nI cb)), (3, .int (nI M)), (2, .int (nI N)), (0, .ref (ca 0 0)), (1, .int (nI n))]) (fun H locs ls hl K => lv_istore hx hb dL_holds_210 hl (by decide) rfl K) ?_
      have LI : ∀ x i2, i2 + x = gA k.1 (37 + 4 * j + 2) → KX p l e RM_holds s m args below meth c D A 19 Q (f_1 k) (w_1 cs ca) [(15, .int (nI i2)), (9, .int 1), (7, .int (nI (gA k.1 (37 + 4 * j + 3)))), (6, .int (nI (fb_sm (lnS k.1) (j + 1)))), (14, .int (nI (gA k.1 (37 + 4 * j + 3)))), (13, .int (nI (gA k.1 (37 + 4 * j + 2)))), (12, .int (nI (gA k.1 (37 + 4 * j + 1)))), (11, .int (nI (gA k.1 (37 + 4 * j)))), (10, .int (nI j)), (8, .int (nI a)), (5, .int (nI VV)), (4, .int (nI cb)), (3, .int (nI M)), (2, .int (nI N)), (0, .ref (ca 0 0)), (1, .int (nI n))] [] 212 (10 + 10 * j + 4 + i2) (60 + 60 * j + 24 + 6 * i2) := by
        intro x
        induction x with
        | zero =>
          intro i2 hi2
          have hi2 : i2 = gA k.1 (37 + 4 * j + 2) := by omega
          refine KX_step (fun H locs ls hl => lv_iload hx hb dL_holds_212 (lv_at hl 0 rfl)) ?_
          refine KX_step (fun H locs ls hl => lv_iload hx hb dL_holds_214 (lv_at hl 5 rfl)) ?_
          refine KX_if (fun H locs ls hl => lv_icmp_ge (tgt := 262) hx hb dL_holds_216 (by decide)) (fun _ => ?_) (fun q => absurd (nI_le (by omega) (by omega)) q)
          refine KX_store (lv1 := [(10, .int (nI (j + 1))), (15, .int (nI i2)), (9, .int 1), (7, .int (nI (gA k.1 (37 + 4 * j + 3)))), (6, .int (nI (fb_sm (lnS k.1) (j + 1)))), (14, .int (nI (gA k.1 (37 + 4 * j + 3)))), (13, .int (nI (gA k.1 (37 + 4 * j + 2)))), (12, .int (nI (gA k.1 (37 + 4 * j + 1)))), (11, .int (nI (gA k.1 (37 + 4 * j)))), (8, .int (nI a)), (5, .int (nI VV)), (4, .int (nI cb)), (3, .int (nI M)), (2, .int (nI N)), (0, .ref (ca 0 0)), (1, .int (nI n))]) (fun H locs ls hl K => lv_iinc (k := 8) (lv' := [(10, .int (nI (j + 1))), (15, .int (nI i2)), (9, .int 1), (7, .int (nI (gA k.1 (37 + 4 * j + 3)))), (6, .int (nI (fb_sm (lnS k.1) (j + 1)))), (14, .int (nI (gA k.1 (37 + 4 * j + 3)))), (13, .int (nI (gA k.1 (37 + 4 * j + 2)))), (12, .int (nI (gA k.1 (37 + 4 * j + 1)))), (11, .int (nI (gA k.1 (37 + 4 * j)))), (8, .int (nI a)), (5, .int (nI VV)), (4, .int (nI cb)), (3, .int (nI M)), (2, .int (nI N)), (0, .ref (ca 0 0)), (1, .int (nI n))]) hx hb dL_holds_262 hl rfl (nI_1 _) (by decide) rfl K) ?_
          refine KX_step (fun H locs ls hl => lv_goto (tgt := 110) hx hb dL_holds_265 (by decide)) ?_
          refine KX_sub (lv1 := [(10, .int (nI (j + 1))), (9, .int 1), (7, .int (nI (gA k.1 (37 + 4 * j + 3)))), (6, .int (nI (fb_sm (lnS k.1) (j + 1)))), (8, .int (nI a)), (5, .int (nI VV)), (4, .int (nI cb)), (3, .int (nI M)), (2, .int (nI N)), (0, .ref (ca 0 0)), (1, .int (nI n))]) [0, 2, 3, 4, 9, 10, 11, 12, 13, 14, 15] rfl ?_
          exact KX_wid (by omega) (by omega) (ih (j + 1) (by omega))
        | succ x ihx =>
          intro i2 hi2
          refine KX_step (fun H locs ls hl => lv_iload hx hb dL_holds_212 (lv_at hl 0 rfl)) ?_
          refine KX_step (fun H locs ls hl => lv_iload hx hb dL_holds_214 (lv_at hl 5 rfl)) ?_
          refine KX_if (fun H locs ls hl => lv_icmp_ge (tgt := 262) hx hb dL_holds_216 (by decide)) (fun q => absurd q (nI_ge (by omega) (by omega))) (fun _ => ?_)
          refine KX_step (fun H locs ls hl => lv_iload hx hb dL_holds_219 (lv_at hl 1 rfl)) ?_
          refine KX_if (fun H locs ls hl => lv_if_eq (tgt := 262) hx hb dL_holds_221 (by decide)) (fun q => absurd q n10) (fun _ => ?_)
          refine KX_step (fun H locs ls hl => lv_aload_n hx hb dL_holds_224 rfl (lv_at hl 14 rfl)) ?_
          refine KX_step (fun H locs ls hl => lv_bipush (v := 6) hx hb dL_holds_225 (by decide)) ?_
          refine KX_step (fun H locs ls hl => lv_iload hx hb dL_holds_227 (lv_at hl 6 rfl)) ?_
          refine KX_step (fun H locs ls hl => lv_iload hx hb dL_holds_229 (lv_at hl 0 rfl)) ?_
          refine KX_step (st1 := [.int (nI ((gA k.1 (37 + 4 * j + 1)) + i2)), .int 6, .ref (ca 0 0)]) (fun H locs ls hl K => lv_iadd hx hb dL_holds_231 (by rw [show ((nI (gA k.1 (37 + 4 * j + 1))) + (nI i2) : Int32) = (nI ((gA k.1 (37 + 4 * j + 1)) + i2)) from nI_add (gA k.1 (37 + 4 * j + 1)) (i2)]; exact K)) ?_
          refine KX_step (fun H locs ls hl => lv_bipush (v := 24) hx hb dL_holds_232 (by decide)) ?_
          refine KX_step (st1 := [.int (nI (((gA k.1 (37 + 4 * j + 1)) + i2) % 24)), .int 6, .ref (ca 0 0)]) (fun H locs ls hl K => lv_irem hx hb dL_holds_234 (by decide) (by rw [show ((nI ((gA k.1 (37 + 4 * j + 1)) + i2)) - (nI ((gA k.1 (37 + 4 * j + 1)) + i2)) / 24 * 24 : Int32) = (nI (((gA k.1 (37 + 4 * j + 1)) + i2) % 24)) from nI_mod (a := (gA k.1 (37 + 4 * j + 1)) + i2) (b := 24) (by omega) (by omega) (by omega)]; exact K)) ?_
          refine KX_step (fun H locs ls hl => lv_iconst (v := 0) hx hb dL_holds_235 (by decide)) ?_
          refine KX_step (fun H locs ls hl => lv_iconst (v := 0) hx hb dL_holds_236 (by decide)) ?_
          refine KX_call (cells2 := 10 + 10 * j + 4 + i2 + 1) (slots2 := 60 + 60 * j + 24 + 6 * i2 + 6) (st0 := [.int 0, .int 0, .int (nI (((gA k.1 (37 + 4 * j + 1)) + i2) % 24)), .int 6, .ref (ca 0 0)]) (rest := []) hE rfl (sp1 (q_call_6 l hfl D cs ca (nI (((gA k.1 (37 + 4 * j + 1)) + i2) % 24)) 0 0 (F_chord (b := ((gA k.1 (37 + 4 * j + 1)) + i2) % 24) (by omega)))) (va_cwS 5 hts gN_holds_L_call rfl rfl rfl (by decide +kernel) ⟨(Nat.le_of_ble_eq_true rfl), (Nat.le_of_ble_eq_true rfl)⟩) rfl rfl (Nat.le_of_ble_eq_true rfl) ⟨(show 10 + 10 * j + 4 + i2 + 1 ≤ 1200 by omega), (show 60 + 60 * j + 24 + 6 * i2 + 6 ≤ 7200 by omega)⟩ dL_holds_237 (by omega) (by omega) ?_
          refine KX_step (fun H locs ls hl => lv_iload hx hb dL_holds_240 (lv_at hl 7 rfl)) ?_
          refine KX_step (fun H locs ls hl => lv_ishr hx hb dL_holds_242) ?_
          refine KX_step (fun H locs ls hl => lv_iconst (v := 1) hx hb dL_holds_243 (by decide)) ?_
          refine KX_step (st1 := [.int 1]) (fun H locs ls hl K => lv_iand hx hb dL_holds_244 (by rw [show (((k_X6_chordAt k.1 (nI (((gA k.1 (37 + 4 * j + 1)) + i2) % 24))) >>> ((nI (gA k.1 (37 + 4 * j))) &&& 31)) &&& 1 : Int32) = 1 from (ch_p hRC (by omega) p1).trans (by rw [cov_1 (hv j hjN) hjN (by omega)]; rfl)]; exact K)) ?_
          refine KX_step (fun H locs ls hl => lv_iconst (v := 1) hx hb dL_holds_245 (by decide)) ?_
          refine KX_if (fun H locs ls hl => lv_icmp_ne (tgt := 253) hx hb dL_holds_246 (by decide)) (fun q => absurd rfl q) (fun _ => ?_)
          refine KX_step (fun H locs ls hl => lv_iconst (v := 1) hx hb dL_holds_249 (by decide)) ?_
          refine KX_step (fun H locs ls hl => lv_goto (tgt := 254) hx hb dL_holds_250 (by decide)) ?_
          refine KX_store (lv1 := [(9, .int 1), (15, .int (nI i2)), (7, .int (nI (gA k.1 (37 + 4 * j + 3)))), (6, .int (nI (fb_sm (lnS k.1) (j + 1)))), (14, .int (nI (gA k.1 (37 + 4 * j + 3)))), (13, .int (nI (gA k.1 (37 + 4 * j + 2)))), (12, .int (nI (gA k.1 (37 + 4 * j + 1)))), (11, .int (nI (gA k.1 (37 + 4 * j)))), (10, .int (nI j)), (8, .int (nI a)), (5, .int (nI VV)), (4, .int (nI cb)), (3, .int (nI M)), (2, .int (nI N)), (0, .ref (ca 0 0)), (1, .int (nI n))]) (fun H locs ls hl K => lv_istore hx hb dL_holds_254 hl (by decide) rfl K) ?_
          refine KX_store (lv1 := [(15, .int (nI (i2 + 1))), (9, .int 1), (7, .int (nI (gA k.1 (37 + 4 * j + 3)))), (6, .int (nI (fb_sm (lnS k.1) (j + 1)))), (14, .int (nI (gA k.1 (37 + 4 * j + 3)))), (13, .int (nI (gA k.1 (37 + 4 * j + 2)))), (12, .int (nI (gA k.1 (37 + 4 * j + 1)))), (11, .int (nI (gA k.1 (37 + 4 * j)))), (10, .int (nI j)), (8, .int (nI a)), (5, .int (nI VV)), (4, .int (nI cb)), (3, .int (nI M)), (2, .int (nI N)), (0, .ref (ca 0 0)), (1, .int (nI n))]) (fun H locs ls hl K => lv_iinc (k := 1) (lv' := [(15, .int (nI (i2 + 1))), (9, .int 1), (7, .int (nI (gA k.1 (37 + 4 * j + 3)))), (6, .int (nI (fb_sm (lnS k.1) (j + 1)))), (14, .int (nI (gA k.1 (37 + 4 * j + 3)))), (13, .int (nI (gA k.1 (37 + 4 * j + 2)))), (12, .int (nI (gA k.1 (37 + 4 * j + 1)))), (11, .int (nI (gA k.1 (37 + 4 * j)))), (10, .int (nI j)), (8, .int (nI a)), (5, .int (nI VV)), (4, .int (nI cb)), (3, .int (nI M)), (2, .int (nI N)), (0, .ref (ca 0 0)), (1, .int (nI n))]) hx hb dL_holds_256 hl rfl (nI_1 _) (by decide) rfl K) ?_
          refine KX_step (fun H locs ls hl => lv_goto (tgt := 212) hx hb dL_holds_259 (by decide)) ?_
          refine KX_sub (lv1 := [(15, .int (nI (i2 + 1))), (9, .int 1), (7, .int (nI (gA k.1 (37 + 4 * j + 3)))), (6, .int (nI (fb_sm (lnS k.1) (j + 1)))), (14, .int (nI (gA k.1 (37 + 4 * j + 3)))), (13, .int (nI (gA k.1 (37 + 4 * j + 2)))), (12, .int (nI (gA k.1 (37 + 4 * j + 1)))), (11, .int (nI (gA k.1 (37 + 4 * j)))), (10, .int (nI j)), (8, .int (nI a)), (5, .int (nI VV)), (4, .int (nI cb)), (3, .int (nI M)), (2, .int (nI N)), (0, .ref (ca 0 0)), (1, .int (nI n))]) [0, 1, 2, 3, 4, 5, 6, 7, 8, 9, 10, 11, 12, 13, 14, 15] rfl ?_
          exact KX_wid (by omega) (by omega) (ihx (i2 + 1) (by omega))
      refine KX_sub (lv1 := [(15, .int 0), (9, .int 1), (7, .int (nI (gA k.1 (37 + 4 * j + 3)))), (6, .int (nI (fb_sm (lnS k.1) (j + 1)))), (14, .int (nI (gA k.1 (37 + 4 * j + 3)))), (13, .int (nI (gA k.1 (37 + 4 * j + 2)))), (12, .int (nI (gA k.1 (37 + 4 * j + 1)))), (11, .int (nI (gA k.1 (37 + 4 * j)))), (10, .int (nI j)), (8, .int (nI a)), (5, .int (nI VV)), (4, .int (nI cb)), (3, .int (nI M)), (2, .int (nI N)), (0, .ref (ca 0 0)), (1, .int (nI n))]) [0, 2, 1, 3, 4, 5, 6, 7, 8, 9, 10, 11, 12, 13, 14, 15] rfl ?_
      exact KX_wid (by omega) (by omega) (LI (gA k.1 (37 + 4 * j + 2)) 0 (by omega))
  refine KX_sub (lv1 := [(10, .int 0), (9, .int 1), (7, .int 0), (6, .int 0), (8, .int (nI a)), (5, .int (nI VV)), (4, .int (nI cb)), (3, .int (nI M)), (2, .int (nI N)), (0, .ref (ca 0 0)), (1, .int (nI n))]) [0, 1, 2, 3, 4, 5, 6, 7, 8, 9, 10] rfl ?_
  exact KX_wid (by omega) (by omega) (L N 0 (by omega))
set_option maxHeartbeats 4000000 in
set_option maxRecDepth 100000 in
theorem holds_w {p : Program} {l : Launch} {e : Env} {s : State} {m : MethodId} {args : Array Value} {below : List Frame} {meth : Method} {c : Code} {D : va_G} {cs : Nat → ClassId} {A : Nat → Prop} {Q : State → Prop} {ca : Nat → Nat → Nat} (hfl : l.stackTraces = false) {k : KC} {o : OV} {N M n cb VV w6 T2 a : Nat} (hRC : RC o k.1 N M) (hn : n < 2 ^ 31) (h3 : k.1 3 = nI cb) (hcb : cb < 24) (v5 : k.1 5 = nI VV) (hVV : VV < 2 ^ 30) (hLV : LV k.1 N VV) (t2 : k.1 2 = nI T2) (hT2 : T2 < 2 ^ 30) (hW : ∀ j, j < M → ∃ w, w ≤ T2 ∧ k.1 (157 + 5 * j + 4) = nI w) (w6e : k.1 6 = nI w6) (hw6 : w6 ≤ 60) (hNS : ∀ q, q < 6 → k.1 (25 + q) = nI (gA k.1 (25 + q))) (hLS : ∀ q, q < 6 → k.1 (31 + q) = nI (gA k.1 (31 + q))) (h9 : k.1 9 = nI (fb_sm (fun q => gA k.1 (25 + q)) 6)) (h10 : k.1 10 = nI (fb_sm (fun q => gA k.1 (31 + q)) 6)) (hB8 : k.1 7 &&& (k.1 8 ^^^ -1) = 0) (hfu : P_full k.1 a) (hfv : ∀ cv, QR cv k → k_X5_fullest cv = nI a) (hrm : ∀ q, q < 6 → ∃ z, P_room k.1 q (1 + n % 6) z ∧ ∀ cv, QR cv k → QR (k_X5_room cv (nI q) (nI (1 + n % 6))).2.2 k ∧ aX (k_X5_room cv (nI q) (nI (1 + n % 6))) = z) (hE : kE p s m args meth c D cs yL_holds wsN_holds cL_holds 19 (some .boolean) A) (kr : ∀ (lv : List (Nat × Value)) (pc cells slots : Nat), cells ≤ 1200 → slots ≤ 7200 → decode cL_holds pc = .ok (.ireturn, 1) → KX p l e RM_holds s m args below meth c D A 19 Q (f_1 k) (w_1 cs ca) lv [.int 1] pc cells slots) : KX p l e RM_holds s m args below meth c D A 19 Q (f_1 k) (w_1 cs ca) [(0, .ref (ca 0 0)), (1, .int (nI n))] [] 0 0 0 := by
  obtain ⟨hx, hb, hr, hlocks, hml, hown, hts, hK, hA, hG, hnm⟩ := id hE
  have hown : s.vm.findClass RL = some m.cls := hown
  obtain ⟨⟨n0, hN, -⟩, ⟨m0, hM, -⟩, -, hv, hdj, hC9, -, hqv⟩ := id hRC.1
  obtain ⟨hfa, hfb⟩ := id hfu
  have hg0 : gA k.1 0 = N := RF_gN hRC
  refine KX_step (fun H locs ls hl => lv_aload_n hx hb dL_holds_0 rfl (lv_at hl 0 rfl)) ?_
  refine KX_step (fun H locs ls hl => lv_iconst (v := 2) hx hb dL_holds_1 (by decide)) ?_
  refine KX_step (fun H locs ls hl => lv_iconst (v := 0) hx hb dL_holds_2 (by decide)) ?_
  refine KX_step (fun H locs ls hl => lv_iconst (v := 0) hx hb dL_holds_3 (by decide)) ?_
  refine KX_step (fun H locs ls hl => lv_iconst (v := 0) hx hb dL_holds_4 (by decide)) ?_
  refine KX_call (cells2 := 1) (slots2 := 6) (st0 := [.int 0, .int 0, .int 0, .int 2, .ref (ca 0 0)]) (rest := []) hE rfl (sp1 (q_call_2 l hfl D cs ca 0 0 0 (fun cv hq => (F_about (i := 0) (by omega) cv hq).imp id (fun z => z.trans n0)))) (va_cwS 5 hts gN_holds_L_call rfl rfl rfl (by decide +kernel) ⟨(Nat.le_of_ble_eq_true rfl), (Nat.le_of_ble_eq_true rfl)⟩) rfl rfl (Nat.le_of_ble_eq_true rfl) ⟨(Nat.le_of_ble_eq_true rfl), (Nat.le_of_ble_eq_true rfl)⟩ dL_holds_5 (Nat.le_of_ble_eq_true rfl) (Nat.le_of_ble_eq_true rfl) ?_
  refine KX_store (lv1 := [(2, .int (nI N)), (0, .ref (ca 0 0)), (1, .int (nI n))]) (fun H locs ls hl K => lv_istore_n hx hb dL_holds_8 rfl hl (by decide) rfl K) ?_
  refine KX_step (fun H locs ls hl => lv_aload_n hx hb dL_holds_9 rfl (lv_at hl 1 rfl)) ?_
  refine KX_step (fun H locs ls hl => lv_iconst (v := 2) hx hb dL_holds_10 (by decide)) ?_
  refine KX_step (fun H locs ls hl => lv_iconst (v := 1) hx hb dL_holds_11 (by decide)) ?_
  refine KX_step (fun H locs ls hl => lv_iconst (v := 0) hx hb dL_holds_12 (by decide)) ?_
  refine KX_step (fun H locs ls hl => lv_iconst (v := 0) hx hb dL_holds_13 (by decide)) ?_
  refine KX_call (cells2 := 2) (slots2 := 12) (st0 := [.int 0, .int 0, .int 1, .int 2, .ref (ca 0 0)]) (rest := []) hE rfl (sp1 (q_call_2 l hfl D cs ca 1 0 0 (fun cv hq => (F_about (i := 1) (by omega) cv hq).imp id (fun z => z.trans m0)))) (va_cwS 5 hts gN_holds_L_call rfl rfl rfl (by decide +kernel) ⟨(Nat.le_of_ble_eq_true rfl), (Nat.le_of_ble_eq_true rfl)⟩) rfl rfl (Nat.le_of_ble_eq_true rfl) ⟨(Nat.le_of_ble_eq_true rfl), (Nat.le_of_ble_eq_true rfl)⟩ dL_holds_14 (Nat.le_of_ble_eq_true rfl) (Nat.le_of_ble_eq_true rfl) ?_
  refine KX_store (lv1 := [(3, .int (nI M)), (2, .int (nI N)), (0, .ref (ca 0 0)), (1, .int (nI n))]) (fun H locs ls hl K => lv_istore_n hx hb dL_holds_17 rfl hl (by decide) rfl K) ?_
  refine KX_step (fun H locs ls hl => lv_aload_n hx hb dL_holds_18 rfl (lv_at hl 2 rfl)) ?_
  refine KX_step (fun H locs ls hl => lv_iconst (v := 2) hx hb dL_holds_19 (by decide)) ?_
  refine KX_step (fun H locs ls hl => lv_iconst (v := 3) hx hb dL_holds_20 (by decide)) ?_
  refine KX_step (fun H locs ls hl => lv_iconst (v := 0) hx hb dL_holds_21 (by decide)) ?_
  refine KX_step (fun H locs ls hl => lv_iconst (v := 0) hx hb dL_holds_22 (by decide)) ?_
  refine KX_call (cells2 := 3) (slots2 := 18) (st0 := [.int 0, .int 0, .int 3, .int 2, .ref (ca 0 0)]) (rest := []) hE rfl (sp1 (q_call_2 l hfl D cs ca 3 0 0 (fun cv hq => (F_about (i := 3) (by omega) cv hq).imp id (fun z => z.trans h3)))) (va_cwS 5 hts gN_holds_L_call rfl rfl rfl (by decide +kernel) ⟨(Nat.le_of_ble_eq_true rfl), (Nat.le_of_ble_eq_true rfl)⟩) rfl rfl (Nat.le_of_ble_eq_true rfl) ⟨(Nat.le_of_ble_eq_true rfl), (Nat.le_of_ble_eq_true rfl)⟩ dL_holds_23 (Nat.le_of_ble_eq_true rfl) (Nat.le_of_ble_eq_true rfl) ?_
  refine KX_store (lv1 := [(4, .int (nI cb)), (3, .int (nI M)), (2, .int (nI N)), (0, .ref (ca 0 0)), (1, .int (nI n))]) (fun H locs ls hl K => lv_istore hx hb dL_holds_26 hl (by decide) rfl K) ?_
  refine KX_step (fun H locs ls hl => lv_aload_n hx hb dL_holds_28 rfl (lv_at hl 3 rfl)) ?_
  refine KX_step (fun H locs ls hl => lv_iconst (v := 2) hx hb dL_holds_29 (by decide)) ?_
  refine KX_step (fun H locs ls hl => lv_iconst (v := 5) hx hb dL_holds_30 (by decide)) ?_
  refine KX_step (fun H locs ls hl => lv_iconst (v := 0) hx hb dL_holds_31 (by decide)) ?_
  refine KX_step (fun H locs ls hl => lv_iconst (v := 0) hx hb dL_holds_32 (by decide)) ?_
  refine KX_call (cells2 := 4) (slots2 := 24) (st0 := [.int 0, .int 0, .int 5, .int 2, .ref (ca 0 0)]) (rest := []) hE rfl (sp1 (q_call_2 l hfl D cs ca 5 0 0 (fun cv hq => (F_about (i := 5) (by omega) cv hq).imp id (fun z => z.trans v5)))) (va_cwS 5 hts gN_holds_L_call rfl rfl rfl (by decide +kernel) ⟨(Nat.le_of_ble_eq_true rfl), (Nat.le_of_ble_eq_true rfl)⟩) rfl rfl (Nat.le_of_ble_eq_true rfl) ⟨(Nat.le_of_ble_eq_true rfl), (Nat.le_of_ble_eq_true rfl)⟩ dL_holds_33 (Nat.le_of_ble_eq_true rfl) (Nat.le_of_ble_eq_true rfl) ?_
  refine KX_store (lv1 := [(5, .int (nI VV)), (4, .int (nI cb)), (3, .int (nI M)), (2, .int (nI N)), (0, .ref (ca 0 0)), (1, .int (nI n))]) (fun H locs ls hl K => lv_istore hx hb dL_holds_36 hl (by decide) rfl K) ?_
  refine KX_step (fun H locs ls hl => lv_iconst (v := 0) hx hb dL_holds_38 (by decide)) ?_
  refine KX_store (lv1 := [(6, .int 0), (5, .int (nI VV)), (4, .int (nI cb)), (3, .int (nI M)), (2, .int (nI N)), (0, .ref (ca 0 0)), (1, .int (nI n))]) (fun H locs ls hl K => lv_istore hx hb dL_holds_39 hl (by decide) rfl K) ?_
  refine KX_step (fun H locs ls hl => lv_iconst (v := 0) hx hb dL_holds_41 (by decide)) ?_
  refine KX_store (lv1 := [(7, .int 0), (6, .int 0), (5, .int (nI VV)), (4, .int (nI cb)), (3, .int (nI M)), (2, .int (nI N)), (0, .ref (ca 0 0)), (1, .int (nI n))]) (fun H locs ls hl K => lv_istore hx hb dL_holds_42 hl (by decide) rfl K) ?_
  refine KX_step (fun H locs ls hl => lv_aload_n hx hb dL_holds_44 rfl (lv_at hl 6 rfl)) ?_
  refine KX_callV (b := ca 0 0) (cells2 := 4) (slots2 := 24) (st0 := [.ref (ca 0 0)]) (rest := []) (As := []) hE rfl (sv1 hfv) (cwV 0 hts gN_holds_X5_fullest rfl rfl rfl (by decide +kernel) ⟨(Nat.le_of_ble_eq_true rfl), (Nat.le_of_ble_eq_true rfl)⟩) rfl rfl (Nat.le_of_ble_eq_true rfl) ⟨(Nat.le_of_ble_eq_true rfl), (Nat.le_of_ble_eq_true rfl)⟩ dL_holds_45 (Nat.le_of_ble_eq_true rfl) (Nat.le_of_ble_eq_true rfl) ?_
  refine KX_store (lv1 := [(8, .int (nI a)), (7, .int 0), (6, .int 0), (5, .int (nI VV)), (4, .int (nI cb)), (3, .int (nI M)), (2, .int (nI N)), (0, .ref (ca 0 0)), (1, .int (nI n))]) (fun H locs ls hl K => lv_istore hx hb dL_holds_48 hl (by decide) rfl K) ?_
  refine KX_step (fun H locs ls hl => lv_iload_n hx hb dL_holds_50 rfl (lv_at hl 6 rfl)) ?_
  refine KX_step (fun H locs ls hl => lv_bipush (v := 30) hx hb dL_holds_51 (by decide)) ?_
  refine KX_if (fun H locs ls hl => lv_icmp_gt (tgt := 104) hx hb dL_holds_53 (by decide)) (fun q => absurd q (nI_nlt (a := 30) hN (by omega))) (fun _ => ?_)
  refine KX_step (fun H locs ls hl => lv_iload_n hx hb dL_holds_56 rfl (lv_at hl 5 rfl)) ?_
  refine KX_step (fun H locs ls hl => lv_bipush (v := 12) hx hb dL_holds_57 (by decide)) ?_
  refine KX_if (fun H locs ls hl => lv_icmp_gt (tgt := 104) hx hb dL_holds_59 (by decide)) (fun q => absurd q (nI_nlt (a := 12) hM (by omega))) (fun _ => ?_)
  refine KX_step (fun H locs ls hl => lv_iload hx hb dL_holds_62 (lv_at hl 4 rfl)) ?_
  refine KX_if (fun H locs ls hl => lv_if_lt (tgt := 104) hx hb dL_holds_64 (by decide)) (fun q => absurd q (nI_pos (by omega))) (fun _ => ?_)
  refine KX_step (fun H locs ls hl => lv_iload hx hb dL_holds_67 (lv_at hl 4 rfl)) ?_
  refine KX_step (fun H locs ls hl => lv_bipush (v := 24) hx hb dL_holds_69 (by decide)) ?_
  refine KX_if (fun H locs ls hl => lv_icmp_ge (tgt := 104) hx hb dL_holds_71 (by decide)) (fun q => absurd q (nI_ge (b := 24) hcb (by omega))) (fun _ => ?_)
  refine KX_step (fun H locs ls hl => lv_aload_n hx hb dL_holds_74 rfl (lv_at hl 7 rfl)) ?_
  refine KX_step (fun H locs ls hl => lv_iconst (v := 2) hx hb dL_holds_75 (by decide)) ?_
  refine KX_step (fun H locs ls hl => lv_bipush (v := 6) hx hb dL_holds_76 (by decide)) ?_
  refine KX_step (fun H locs ls hl => lv_iconst (v := 0) hx hb dL_holds_78 (by decide)) ?_
  refine KX_step (fun H locs ls hl => lv_iconst (v := 0) hx hb dL_holds_79 (by decide)) ?_
  refine KX_call (cells2 := 5) (slots2 := 30) (st0 := [.int 0, .int 0, .int 6, .int 2, .ref (ca 0 0)]) (rest := []) hE rfl (sp1 (q_call_2 l hfl D cs ca 6 0 0 (fun cv hq => (F_about (i := 6) (by omega) cv hq).imp id (fun z => z.trans w6e)))) (va_cwS 5 hts gN_holds_L_call rfl rfl rfl (by decide +kernel) ⟨(Nat.le_of_ble_eq_true rfl), (Nat.le_of_ble_eq_true rfl)⟩) rfl rfl (Nat.le_of_ble_eq_true rfl) ⟨(Nat.le_of_ble_eq_true rfl), (Nat.le_of_ble_eq_true rfl)⟩ dL_holds_80 (Nat.le_of_ble_eq_true rfl) (Nat.le_of_ble_eq_true rfl) ?_
  refine KX_if (fun H locs ls hl => lv_if_lt (tgt := 104) hx hb dL_holds_83 (by decide)) (fun q => absurd q (nI_pos (by omega))) (fun _ => ?_)
  refine KX_step (fun H locs ls hl => lv_aload_n hx hb dL_holds_86 rfl (lv_at hl 7 rfl)) ?_
  refine KX_step (fun H locs ls hl => lv_iconst (v := 2) hx hb dL_holds_87 (by decide)) ?_
  refine KX_step (fun H locs ls hl => lv_bipush (v := 6) hx hb dL_holds_88 (by decide)) ?_
  refine KX_step (fun H locs ls hl => lv_iconst (v := 0) hx hb dL_holds_90 (by decide)) ?_
  refine KX_step (fun H locs ls hl => lv_iconst (v := 0) hx hb dL_holds_91 (by decide)) ?_
  refine KX_call (cells2 := 6) (slots2 := 36) (st0 := [.int 0, .int 0, .int 6, .int 2, .ref (ca 0 0)]) (rest := []) hE rfl (sp1 (q_call_2 l hfl D cs ca 6 0 0 (fun cv hq => (F_about (i := 6) (by omega) cv hq).imp id (fun z => z.trans w6e)))) (va_cwS 5 hts gN_holds_L_call rfl rfl rfl (by decide +kernel) ⟨(Nat.le_of_ble_eq_true rfl), (Nat.le_of_ble_eq_true rfl)⟩) rfl rfl (Nat.le_of_ble_eq_true rfl) ⟨(Nat.le_of_ble_eq_true rfl), (Nat.le_of_ble_eq_true rfl)⟩ dL_holds_92 (Nat.le_of_ble_eq_true rfl) (Nat.le_of_ble_eq_true rfl) ?_
  refine KX_step (fun H locs ls hl => lv_bipush (v := 60) hx hb dL_holds_95 (by decide)) ?_
  refine KX_if (fun H locs ls hl => lv_icmp_gt (tgt := 104) hx hb dL_holds_97 (by decide)) (fun q => absurd q (nI_nlt (a := 60) hw6 (by omega))) (fun _ => ?_)
  refine KX_step (fun H locs ls hl => lv_iconst (v := 1) hx hb dL_holds_100 (by decide)) ?_
  refine KX_step (fun H locs ls hl => lv_goto (tgt := 105) hx hb dL_holds_101 (by decide)) ?_
  refine KX_store (lv1 := [(9, .int 1), (8, .int (nI a)), (7, .int 0), (6, .int 0), (5, .int (nI VV)), (4, .int (nI cb)), (3, .int (nI M)), (2, .int (nI N)), (0, .ref (ca 0 0)), (1, .int (nI n))]) (fun H locs ls hl K => lv_istore hx hb dL_holds_105 hl (by decide) rfl K) ?_
  refine KX_step (fun H locs ls hl => lv_iconst (v := 0) hx hb dL_holds_107 (by decide)) ?_
  refine KX_store (lv1 := [(10, .int 0), (9, .int 1), (8, .int (nI a)), (7, .int 0), (6, .int 0), (5, .int (nI VV)), (4, .int (nI cb)), (3, .int (nI M)), (2, .int (nI N)), (0, .ref (ca 0 0)), (1, .int (nI n))]) (fun H locs ls hl K => lv_istore hx hb dL_holds_108 hl (by decide) rfl K) ?_
  refine KX_sub (lv1 := [(10, .int 0), (9, .int 1), (7, .int 0), (6, .int 0), (8, .int (nI a)), (5, .int (nI VV)), (4, .int (nI cb)), (3, .int (nI M)), (2, .int (nI N)), (0, .ref (ca 0 0)), (1, .int (nI n))]) [0, 1, 3, 4, 2, 5, 6, 7, 8, 9, 10] rfl ?_
  exact KX_wid (cells2 := 10) (slots2 := 60) (by omega) (by omega) (holds_0 hfl hRC hn h3 hcb v5 hVV hLV t2 hT2 hW w6e hw6 hNS hLS h9 h10 hB8 hfu hfv hrm hE kr)
theorem c_holds (l : Launch) (hfl : l.stackTraces = false) (D : va_G) (cs : Nat → ClassId) (ca : Nat → Nat → Nat) {k : KC} {n T : Nat} (hn : n < 2 ^ 31) (hT : T ≤ BIG) (he : EI T k.1) : k1 l yL_holds wsN_holds RM_holds 1200 7200 D cs ca [.ref (ca 0 0), .int (nI n)] 1 k k := by
  intro v hv
  have hBB : BIG = 1000000 := rfl
  obtain ⟨N, M, hRC, -⟩ := QR_R hv
  obtain ⟨a, hfu, hfv⟩ := R_full hv
  obtain ⟨⟨t1, t2⟩, ⟨v1, v2, v3⟩, hl, hw, ⟨w6, hw6, w6e⟩, hn9, hl9, hb⟩ := he
  obtain ⟨cb, hcb, h3⟩ := hRC.2.2.2.2.2.2.2.2.2.2.2
  rw [RF_gN hRC] at hl
  rw [RC_gM hRC] at hw
  refine kQ_of (U := CV) (Φ := f_1 k) (wc := w_1 cs ca) (cc := cL_holds) (maxL := 19) (ret := some .boolean) (by decide) rfl (Nat.le_of_ble_eq_true rfl) (fun p e s m below meth c A hE => ?_) v hv
  exact holds_w hfl hRC hn h3 hcb v1 (by omega) hl t1 (by omega) hw w6e hw6 (fun q hq => (hn9.1 q hq).1) (fun q hq => (hl9.1 q hq).1) hn9.2 hl9.2 hb hfu hfv (fun q hq => R_room hv hq (by omega) (by omega)) hE (fun lv pc cells slots h1 h2 hd => KX_ret (r := 1) (Φ1 := f_1 k) (w1 := w_1 cs ca) hE rfl rfl (fun u hu => ⟨u, hu, List.Perm.refl _⟩) h1 h2 hd)
