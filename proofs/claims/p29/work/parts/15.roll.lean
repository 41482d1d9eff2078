theorem nar_all : ∀ k : Nat, k < 256 → narrow .char (.int (Int32.ofNat k)) = .int (Int32.ofNat k) := by decide +kernel
theorem nar_c {x : Int32} (h : 0 ≤ x.toInt ∧ x.toInt ≤ 255) : narrow .char (.int x) = .int x := by
  rw [i_nat h.1]
  exact nar_all _ (by omega)
theorem vnar_c {x : Int32} (h : 0 ≤ x.toInt ∧ x.toInt ≤ 255) : vp_nar .char x = x := by
  unfold vp_nar
  rw [nar_c h]
set_option maxHeartbeats 4000000 in
set_option maxRecDepth 100000 in
theorem c_X2_isFull (l : Launch) (D : va_G) (cs : Nat → ClassId) (ra : Nat → Nat) (r : RV)  : kI l yX2_isFull wsX2_isFull { frames := 0, cells := 0, slots := 0, locals := 0 } 0 0 D cs [.ref (ra 0)] (rl_W cs ra r) (k_X2_isFull r) (rl_W cs ra r) := by
  generalize hres : k_X2_isFull r = res
  refine kI_of (cc := cX2_isFull) (maxL := 1) (ret := (some .boolean)) (by decide) rfl (Nat.le_of_ble_eq_true rfl) ?_
  intro p e s m below meth c A ls H locs hE hS hP hD hl
  obtain ⟨hx, hb, hr, hlocks, hml, hown, hts, hK, hA, hG, hnm⟩ := id hE
  have hown : s.vm.findClass RX2 = some m.cls := hown
  have hl : lv_has ls 1 [(0, .ref (ra 0))] := hl
  have hinX2 : ∀ w ∈ wsX20, w ∈ wsX2_isFull := by decide +kernel
  have lk_0 := hts (.fieldLink RX2 15 "OrganPegs$Roll" "length" "I") (by decide +kernel)
  unfold k_X2_isFull at hres
  refine lv_aload_n hx hb dX2_isFull_0 rfl (lv_at hl 0 rfl) ?_
  refine va_get (D := D) (ci := 2) (v := .int (r.1 0)) (C := RX2) (T := TX2) (N := 8) hx hb hts hinX2 hown hK hP 0 rfl rfl 1 (by decide) lk_0 (fun _ h9 => h9) rfl dX2_isFull_1 ?_
  refine lv_bipush (v := 120) hx hb dX2_isFull_4 (by decide) ?_
  refine lv_icmp_lt (tgt := 13) hx hb dX2_isFull_6 (by decide) (fun c_6 => ?_) (fun c_6 => ?_)
  · skip
    have c_6 : ((r.1 0) < 120) := c_6
    rw [if_pos c_6] at hres
    refine lv_iconst (v := 0) hx hb dX2_isFull_13 (by decide) ?_
    subst hres
    exact kI_ret hE hS hP hD rfl rfl (Nat.le_of_ble_eq_true rfl) (Nat.le_of_ble_eq_true rfl) dX2_isFull_14
  · skip
    have c_6 : ¬ ((r.1 0) < 120) := c_6
    rw [if_neg c_6] at hres
    refine lv_iconst (v := 1) hx hb dX2_isFull_9 (by decide) ?_
    refine lv_goto (tgt := 14) hx hb dX2_isFull_10 (by decide) ?_
    subst hres
    exact kI_ret hE hS hP hD rfl rfl (Nat.le_of_ble_eq_true rfl) (Nat.le_of_ble_eq_true rfl) dX2_isFull_14
set_option maxHeartbeats 4000000 in
set_option maxRecDepth 100000 in
theorem c_X2_addCharacter (l : Launch) (D : va_G) (cs : Nat → ClassId) (ra : Nat → Nat) (r : RV) (vc : Int32) (hc : 0 ≤ vc.toInt ∧ vc.toInt ≤ 255) : kI l yX2_addCharacter wsX2_addCharacter { frames := 0, cells := 0, slots := 0, locals := 0 } 0 0 D cs [.ref (ra 0), .int vc] (rl_W cs ra r) (k_X2_addCharacter r vc).1 (rl_W cs ra ((k_X2_addCharacter r vc).2)) := by
  generalize hres : k_X2_addCharacter r vc = res
  refine kI_of (cc := cX2_addCharacter) (maxL := 2) (ret := (some .int)) (by decide) rfl (Nat.le_of_ble_eq_true rfl) ?_
  intro p e s m below meth c A ls H locs hE hS hP hD hl
  obtain ⟨hx, hb, hr, hlocks, hml, hown, hts, hK, hA, hG, hnm⟩ := id hE
  have hown : s.vm.findClass RX2 = some m.cls := hown
  have hl : lv_has ls 2 [(0, .ref (ra 0)), (1, .int vc)] := hl
  have hinX2 : ∀ w ∈ wsX20, w ∈ wsX2_addCharacter := by decide +kernel
  have lk_0 := hts (.fieldLink RX2 15 "OrganPegs$Roll" "length" "I") (by decide +kernel)
  have lk_1 := hts (.fieldLink RX2 9 "OrganPegs$Roll" "text" "[C") (by decide +kernel)
  unfold k_X2_addCharacter at hres
  refine lv_aload_n hx hb dX2_addCharacter_0 rfl (lv_at hl 0 rfl) ?_
  refine va_get (D := D) (ci := 2) (v := .int (r.1 0)) (C := RX2) (T := TX2) (N := 8) hx hb hts hinX2 hown hK hP 0 rfl rfl 1 (by decide) lk_0 (fun _ h9 => h9) rfl dX2_addCharacter_1 ?_
  refine lv_if_lt (tgt := 36) hx hb dX2_addCharacter_4 (by decide) (fun c_4 => ?_) (fun c_4 => ?_)
  · skip
    have c_4 : ((r.1 0) < 0) := c_4
    rw [if_pos c_4] at hres
    refine lv_aload_n hx hb dX2_addCharacter_36 rfl (lv_at hl 0 rfl) ?_
    refine va_get (D := D) (ci := 2) (v := .int (r.1 0)) (C := RX2) (T := TX2) (N := 8) hx hb hts hinX2 hown hK hP 0 rfl rfl 1 (by decide) lk_0 (fun _ h9 => h9) rfl dX2_addCharacter_37 ?_
    subst hres
    exact kI_ret hE hS hP hD rfl rfl (Nat.le_of_ble_eq_true rfl) (Nat.le_of_ble_eq_true rfl) dX2_addCharacter_40
  · skip
    have c_4 : ¬ ((r.1 0) < 0) := c_4
    rw [if_neg c_4] at hres
    refine lv_aload_n hx hb dX2_addCharacter_7 rfl (lv_at hl 0 rfl) ?_
    refine va_get (D := D) (ci := 2) (v := .int (r.1 0)) (C := RX2) (T := TX2) (N := 8) hx hb hts hinX2 hown hK hP 0 rfl rfl 1 (by decide) lk_0 (fun _ h9 => h9) rfl dX2_addCharacter_8 ?_
    refine lv_bipush (v := 120) hx hb dX2_addCharacter_11 (by decide) ?_
    refine lv_icmp_ge (tgt := 36) hx hb dX2_addCharacter_13 (by decide) (fun c_13 => ?_) (fun c_13 => ?_)
    · skip
      have c_13 : (120 ≤ (r.1 0)) := c_13
      rw [if_pos c_13] at hres
      refine lv_aload_n hx hb dX2_addCharacter_36 rfl (lv_at hl 0 rfl) ?_
      refine va_get (D := D) (ci := 2) (v := .int (r.1 0)) (C := RX2) (T := TX2) (N := 8) hx hb hts hinX2 hown hK hP 0 rfl rfl 1 (by decide) lk_0 (fun _ h9 => h9) rfl dX2_addCharacter_37 ?_
      subst hres
      exact kI_ret hE hS hP hD rfl rfl (Nat.le_of_ble_eq_true rfl) (Nat.le_of_ble_eq_true rfl) dX2_addCharacter_40
    · skip
      have c_13 : ¬ (120 ≤ (r.1 0)) := c_13
      rw [if_neg c_13] at hres
      refine lv_aload_n hx hb dX2_addCharacter_16 rfl (lv_at hl 0 rfl) ?_
      refine va_get (D := D) (ci := 2) (v := .ref (ra 1)) (C := RX2) (T := TX2) (N := 8) hx hb hts hinX2 hown hK hP 0 rfl rfl 0 (by decide) lk_1 (fun _ h9 => h9) rfl dX2_addCharacter_17 ?_
      refine lv_aload_n hx hb dX2_addCharacter_20 rfl (lv_at hl 0 rfl) ?_
      refine va_get (D := D) (ci := 2) (v := .int (r.1 0)) (C := RX2) (T := TX2) (N := 8) hx hb hts hinX2 hown hK hP 0 rfl rfl 1 (by decide) lk_0 (fun _ h9 => h9) rfl dX2_addCharacter_21 ?_
      refine lv_iload_n hx hb dX2_addCharacter_24 rfl (lv_at hl 1 rfl) ?_
      refine k_cast hx hb hK hP hD hS 1 1 (k := (r.1 0).toNatClampNeg) rfl rfl (ix_in rfl c_4 c_13) rfl (vnar_c hc) dX2_addCharacter_25 (fun H locs hP hD hS => ?_)
      have hP : va_P D vwCl (rl_W cs ra (r_t r (va_up r.2 ((r.1 0).toNatClampNeg) vc))) H := hP
      have hD : va_D A (rl_W cs ra (r_t r (va_up r.2 ((r.1 0).toNatClampNeg) vc))) := hD
      refine lv_aload_n hx hb dX2_addCharacter_26 rfl (lv_at hl 0 rfl) ?_
      refine lv_dup hx hb dX2_addCharacter_27 rfl ?_
      refine va_get (D := D) (ci := 2) (v := .int (r.1 0)) (C := RX2) (T := TX2) (N := 8) hx hb hts hinX2 hown hK hP 0 rfl rfl 1 (by decide) lk_0 (fun _ h9 => h9) rfl dX2_addCharacter_28 ?_
      refine lv_iconst (v := 1) hx hb dX2_addCharacter_31 (by decide) ?_
      refine lv_iadd hx hb dX2_addCharacter_32 ?_
      refine va_put (D := D) (ci := 2) (v := .int ((r.1 0) + 1)) (ty := .int) (C := RX2) (T := TX2) (N := 8) hx hb hts hinX2 tyX2 tyX2_ok nmX2 hown hK hP hD hS 0 rfl rfl 1 (by decide) lk_0 (fun _ h9 => h9) rfl (by decide +kernel) rfl rfl (Nat.le_of_ble_eq_true rfl) dX2_addCharacter_33 (fun H locs hP hD hS => ?_)
      have hP : va_P D vwCl (rl_W cs ra (r_t (r_s r 0 ((r.1 0) + 1)) (va_up r.2 ((r.1 0).toNatClampNeg) vc))) H := hP
      have hD : va_D A (rl_W cs ra (r_t (r_s r 0 ((r.1 0) + 1)) (va_up r.2 ((r.1 0).toNatClampNeg) vc))) := hD
      refine lv_aload_n hx hb dX2_addCharacter_36 rfl (lv_at hl 0 rfl) ?_
      refine va_get (D := D) (ci := 2) (v := .int ((r.1 0) + 1)) (C := RX2) (T := TX2) (N := 8) hx hb hts hinX2 hown hK hP 0 rfl rfl 1 (by decide) lk_0 (fun _ h9 => h9) rfl dX2_addCharacter_37 ?_
      subst hres
      exact kI_ret hE hS hP hD rfl rfl (Nat.le_of_ble_eq_true rfl) (Nat.le_of_ble_eq_true rfl) dX2_addCharacter_40
set_option maxHeartbeats 4000000 in
set_option maxRecDepth 100000 in
theorem c_X2_here (l : Launch) (D : va_G) (cs : Nat → ClassId) (ra : Nat → Nat) (r : RV) (hR : RT r) : kI l yX2_here wsX2_here { frames := 0, cells := 0, slots := 0, locals := 0 } 0 0 D cs [.ref (ra 0)] (rl_W cs ra r) (k_X2_here r) (rl_W cs ra r) := by
  generalize hres : k_X2_here r = res
  refine kI_of (cc := cX2_here) (maxL := 1) (ret := (some .char)) (by decide) rfl (Nat.le_of_ble_eq_true rfl) ?_
  intro p e s m below meth c A ls H locs hE hS hP hD hl
  obtain ⟨hx, hb, hr, hlocks, hml, hown, hts, hK, hA, hG, hnm⟩ := id hE
  have hown : s.vm.findClass RX2 = some m.cls := hown
  have hl : lv_has ls 1 [(0, .ref (ra 0))] := hl
  have hinX2 : ∀ w ∈ wsX20, w ∈ wsX2_here := by decide +kernel
  have lk_0 := hts (.fieldLink RX2 30 "OrganPegs$Roll" "position" "I") (by decide +kernel)
  have lk_1 := hts (.fieldLink RX2 15 "OrganPegs$Roll" "length" "I") (by decide +kernel)
  have lk_2 := hts (.fieldLink RX2 9 "OrganPegs$Roll" "text" "[C") (by decide +kernel)
  unfold k_X2_here at hres
  refine lv_aload_n hx hb dX2_here_0 rfl (lv_at hl 0 rfl) ?_
  refine va_get (D := D) (ci := 2) (v := .int (r.1 1)) (C := RX2) (T := TX2) (N := 8) hx hb hts hinX2 hown hK hP 0 rfl rfl 2 (by decide) lk_0 (fun _ h9 => h9) rfl dX2_here_1 ?_
  refine lv_if_lt (tgt := 39) hx hb dX2_here_4 (by decide) (fun c_4 => ?_) (fun c_4 => ?_)
  · skip
    have c_4 : ((r.1 1) < 0) := c_4
    rw [if_pos c_4] at hres
    refine lv_iconst (v := 0) hx hb dX2_here_39 (by decide) ?_
    subst hres
    exact kI_ret hE hS hP hD rfl rfl (Nat.le_of_ble_eq_true rfl) (Nat.le_of_ble_eq_true rfl) dX2_here_40
  · skip
    have c_4 : ¬ ((r.1 1) < 0) := c_4
    rw [if_neg c_4] at hres
    refine lv_aload_n hx hb dX2_here_7 rfl (lv_at hl 0 rfl) ?_
    refine va_get (D := D) (ci := 2) (v := .int (r.1 1)) (C := RX2) (T := TX2) (N := 8) hx hb hts hinX2 hown hK hP 0 rfl rfl 2 (by decide) lk_0 (fun _ h9 => h9) rfl dX2_here_8 ?_
    refine lv_aload_n hx hb dX2_here_11 rfl (lv_at hl 0 rfl) ?_
    refine va_get (D := D) (ci := 2) (v := .int (r.1 0)) (C := RX2) (T := TX2) (N := 8) hx hb hts hinX2 hown hK hP 0 rfl rfl 1 (by decide) lk_1 (fun _ h9 => h9) rfl dX2_here_12 ?_
    refine lv_icmp_ge (tgt := 39) hx hb dX2_here_15 (by decide) (fun c_15 => ?_) (fun c_15 => ?_)
    · skip
      have c_15 : ((r.1 0) ≤ (r.1 1)) := c_15
      rw [if_pos c_15] at hres
      refine lv_iconst (v := 0) hx hb dX2_here_39 (by decide) ?_
      subst hres
      exact kI_ret hE hS hP hD rfl rfl (Nat.le_of_ble_eq_true rfl) (Nat.le_of_ble_eq_true rfl) dX2_here_40
    · skip
      have c_15 : ¬ ((r.1 0) ≤ (r.1 1)) := c_15
      rw [if_neg c_15] at hres
      refine lv_aload_n hx hb dX2_here_18 rfl (lv_at hl 0 rfl) ?_
      refine va_get (D := D) (ci := 2) (v := .int (r.1 1)) (C := RX2) (T := TX2) (N := 8) hx hb hts hinX2 hown hK hP 0 rfl rfl 2 (by decide) lk_0 (fun _ h9 => h9) rfl dX2_here_19 ?_
      refine lv_bipush (v := 120) hx hb dX2_here_22 (by decide) ?_
      refine lv_icmp_ge (tgt := 39) hx hb dX2_here_24 (by decide) (fun c_24 => ?_) (fun c_24 => ?_)
      · skip
        have c_24 : (120 ≤ (r.1 1)) := c_24
        rw [if_pos c_24] at hres
        refine lv_iconst (v := 0) hx hb dX2_here_39 (by decide) ?_
        subst hres
        exact kI_ret hE hS hP hD rfl rfl (Nat.le_of_ble_eq_true rfl) (Nat.le_of_ble_eq_true rfl) dX2_here_40
      · skip
        have c_24 : ¬ (120 ≤ (r.1 1)) := c_24
        rw [if_neg c_24] at hres
        refine lv_aload_n hx hb dX2_here_27 rfl (lv_at hl 0 rfl) ?_
        refine va_get (D := D) (ci := 2) (v := .ref (ra 1)) (C := RX2) (T := TX2) (N := 8) hx hb hts hinX2 hown hK hP 0 rfl rfl 0 (by decide) lk_2 (fun _ h9 => h9) rfl dX2_here_28 ?_
        refine lv_aload_n hx hb dX2_here_31 rfl (lv_at hl 0 rfl) ?_
        refine va_get (D := D) (ci := 2) (v := .int (r.1 1)) (C := RX2) (T := TX2) (N := 8) hx hb hts hinX2 hown hK hP 0 rfl rfl 2 (by decide) lk_0 (fun _ h9 => h9) rfl dX2_here_32 ?_
        refine k_cald hx hb hK hP 1 1 (v := (r.2 ((r.1 1).toNatClampNeg))) rfl rfl (ix_in rfl c_4 c_24) rfl dX2_here_35 ?_
        refine lv_goto (tgt := 40) hx hb dX2_here_36 (by decide) ?_
        subst hres
        exact kI_ret hE hS hP hD (nar_c (hR _)) rfl (Nat.le_of_ble_eq_true rfl) (Nat.le_of_ble_eq_true rfl) dX2_here_40
set_option maxHeartbeats 4000000 in
set_option maxRecDepth 100000 in
theorem c_X2_rewind (l : Launch) (D : va_G) (cs : Nat → ClassId) (ra : Nat → Nat) (r : RV) (hR : RT r) : kV l yX2_rewind wsX2_rewind { frames := 1, cells := 0, slots := 0, locals := 20 } 0 0 D cs [.ref (ra 0)] (rl_W cs ra r) (fun (_ : Unit) => True) (fun _ => rl_W cs ra (k_X2_rewind r)) := by
  generalize hres : k_X2_rewind r = res
  refine kV_of (cc := cX2_rewind) (maxL := 1) (ret := none) (by decide) rfl (Nat.le_of_ble_eq_true rfl) ?_
  intro p e s m below meth c A ls H locs hE hS hP hD hl
  obtain ⟨hx, hb, hr, hlocks, hml, hown, hts, hK, hA, hG, hnm⟩ := id hE
  have hown : s.vm.findClass RX2 = some m.cls := hown
  have hl : lv_has ls 1 [(0, .ref (ra 0))] := hl
  have hinX2 : ∀ w ∈ wsX20, w ∈ wsX2_rewind := by decide +kernel
  have lk_0 := hts (.fieldLink RX2 30 "OrganPegs$Roll" "position" "I") (by decide +kernel)
  have lk_1 := hts (.fieldLink RX2 26 "OrganPegs$Roll" "wrong" "Z") (by decide +kernel)
  unfold k_X2_rewind at hres
  refine lv_aload_n hx hb dX2_rewind_0 rfl (lv_at hl 0 rfl) ?_
  refine lv_iconst (v := 0) hx hb dX2_rewind_1 (by decide) ?_
  refine va_put (D := D) (ci := 2) (v := .int 0) (ty := .int) (C := RX2) (T := TX2) (N := 8) hx hb hts hinX2 tyX2 tyX2_ok nmX2 hown hK hP hD hS 0 rfl rfl 2 (by decide) lk_0 (fun _ h9 => h9) rfl (by decide +kernel) rfl rfl (Nat.le_of_ble_eq_true rfl) dX2_rewind_2 (fun H locs hP hD hS => ?_)
  have hP : va_P D vwCl (rl_W cs ra (r_s r 1 0)) H := hP
  have hD : va_D A (rl_W cs ra (r_s r 1 0)) := hD
  refine lv_aload_n hx hb dX2_rewind_5 rfl (lv_at hl 0 rfl) ?_
  refine lv_aload_n hx hb dX2_rewind_6 rfl (lv_at hl 0 rfl) ?_
  have hP : va_P D vwCl ((rl_W cs ra (r_s r 1 0)) ++ []) H := k_nP hP
  have hD : va_D A ((rl_W cs ra (r_s r 1 0)) ++ []) := k_nD hD
  have hc_7 := c_X2_here l D cs ra (r_s r 1 0)  hR
  refine kI_call (wc := (rl_W cs ra (r_s r 1 0))) (wr := []) (w1 := rl_W cs ra (r_s r 1 0)) (r := (k_X2_here (r_s r 1 0))) hE hP hD hS (k_rV (rest := [.ref (ra 0)]) (As := []) hE rfl (hc_7 H.size) (cwV 0 hts gX2_rewind_X2_here rfl rfl rfl (by decide +kernel) ⟨Nat.le_of_ble_eq_true rfl, Nat.le_of_ble_eq_true rfl⟩) hP hD hS (ci := 2) (q0 := 0) rfl rfl rfl hl rfl (Nat.le_of_ble_eq_true rfl) ⟨Nat.le_of_ble_eq_true rfl, Nat.le_of_ble_eq_true rfl⟩ dX2_rewind_7) (fun H locs hP hD hS => ?_)
  have hP := k_uP hP
  have hD := k_uD hD
  have hP : va_P D vwCl (rl_W cs ra (r_s r 1 0)) H := hP
  have hD : va_D A (rl_W cs ra (r_s r 1 0)) := hD
  refine lv_bipush (v := 79) hx hb dX2_rewind_10 (by decide) ?_
  refine lv_icmp_eq (tgt := 19) hx hb dX2_rewind_12 (by decide) (fun c_12 => ?_) (fun c_12 => ?_)
  · skip
    have c_12 : ((k_X2_here (r_s r 1 0)) = 79) := c_12
    rw [if_pos c_12] at hres
    refine lv_iconst (v := 0) hx hb dX2_rewind_19 (by decide) ?_
    refine va_put (D := D) (ci := 2) (v := .int 0) (ty := .boolean) (C := RX2) (T := TX2) (N := 8) hx hb hts hinX2 tyX2 tyX2_ok nmX2 hown hK hP hD hS 0 rfl rfl 3 (by decide) lk_1 (fun _ h9 => h9) rfl (by decide +kernel) rfl rfl (Nat.le_of_ble_eq_true rfl) dX2_rewind_20 (fun H locs hP hD hS => ?_)
    have hP : va_P D vwCl (rl_W cs ra (r_s (r_s r 1 0) 2 0)) H := hP
    have hD : va_D A (rl_W cs ra (r_s (r_s r 1 0) 2 0)) := hD
    refine lv_aload_n hx hb dX2_rewind_23 rfl (lv_at hl 0 rfl) ?_
    refine va_get (D := D) (ci := 2) (v := .int 0) (C := RX2) (T := TX2) (N := 8) hx hb hts hinX2 hown hK hP 0 rfl rfl 3 (by decide) lk_1 (fun _ h9 => h9) rfl dX2_rewind_24 ?_
    refine lv_if_ne (tgt := 40) hx hb dX2_rewind_27 (by decide) (fun c_27 => ?_) (fun c_27 => ?_)
    · skip
      exact absurd c_27 (by decide)
    · skip
      have c_27 : ((0 : Int32) = 0) := c_27
      refine lv_aload_n hx hb dX2_rewind_30 rfl (lv_at hl 0 rfl) ?_
      refine lv_dup hx hb dX2_rewind_31 rfl ?_
      refine va_get (D := D) (ci := 2) (v := .int 0) (C := RX2) (T := TX2) (N := 8) hx hb hts hinX2 hown hK hP 0 rfl rfl 2 (by decide) lk_0 (fun _ h9 => h9) rfl dX2_rewind_32 ?_
      refine lv_iconst (v := 1) hx hb dX2_rewind_35 (by decide) ?_
      refine lv_iadd hx hb dX2_rewind_36 ?_
      refine va_put (D := D) (ci := 2) (v := .int (0 + 1 : Int32)) (ty := .int) (C := RX2) (T := TX2) (N := 8) hx hb hts hinX2 tyX2 tyX2_ok nmX2 hown hK hP hD hS 0 rfl rfl 2 (by decide) lk_0 (fun _ h9 => h9) rfl (by decide +kernel) rfl rfl (Nat.le_of_ble_eq_true rfl) dX2_rewind_37 (fun H locs hP hD hS => ?_)
      have hP : va_P D vwCl (rl_W cs ra (r_s (r_s r 1 (0 + 1 : Int32)) 2 0)) H := hP
      have hD : va_D A (rl_W cs ra (r_s (r_s r 1 (0 + 1 : Int32)) 2 0)) := hD
      subst hres
      exact kV_ret () hE hS hP hD trivial (Nat.le_of_ble_eq_true rfl) (Nat.le_of_ble_eq_true rfl) dX2_rewind_40
  · skip
    have c_12 : ¬ ((k_X2_here (r_s r 1 0)) = 79) := c_12
    rw [if_neg c_12] at hres
    refine lv_iconst (v := 1) hx hb dX2_rewind_15 (by decide) ?_
    refine lv_goto (tgt := 20) hx hb dX2_rewind_16 (by decide) ?_
    refine va_put (D := D) (ci := 2) (v := .int 1) (ty := .boolean) (C := RX2) (T := TX2) (N := 8) hx hb hts hinX2 tyX2 tyX2_ok nmX2 hown hK hP hD hS 0 rfl rfl 3 (by decide) lk_1 (fun _ h9 => h9) rfl (by decide +kernel) rfl rfl (Nat.le_of_ble_eq_true rfl) dX2_rewind_20 (fun H locs hP hD hS => ?_)
    have hP : va_P D vwCl (rl_W cs ra (r_s (r_s r 1 0) 2 1)) H := hP
    have hD : va_D A (rl_W cs ra (r_s (r_s r 1 0) 2 1)) := hD
    refine lv_aload_n hx hb dX2_rewind_23 rfl (lv_at hl 0 rfl) ?_
    refine va_get (D := D) (ci := 2) (v := .int 1) (C := RX2) (T := TX2) (N := 8) hx hb hts hinX2 hown hK hP 0 rfl rfl 3 (by decide) lk_1 (fun _ h9 => h9) rfl dX2_rewind_24 ?_
    refine lv_if_ne (tgt := 40) hx hb dX2_rewind_27 (by decide) (fun c_27 => ?_) (fun c_27 => ?_)
    · skip
      have c_27 : ¬ ((1 : Int32) = 0) := c_27
      subst hres
      exact kV_ret () hE hS hP hD trivial (Nat.le_of_ble_eq_true rfl) (Nat.le_of_ble_eq_true rfl) dX2_rewind_40
    · skip
      exact absurd c_27 (by decide)
set_option maxHeartbeats 4000000 in
set_option maxRecDepth 100000 in
theorem c_X2_digit (l : Launch) (D : va_G) (cs : Nat → ClassId) (ra : Nat → Nat) (r : RV) (low : Int32) (high : Int32) (hR : RT r) : kI l yX2_digit wsX2_digit { frames := 1, cells := 0, slots := 0, locals := 20 } 0 0 D cs [.ref (ra 0), .int low, .int high] (rl_W cs ra r) (k_X2_digit r low high).1 (rl_W cs ra ((k_X2_digit r low high).2)) := by
  generalize hres : k_X2_digit r low high = res
  refine kI_of (cc := cX2_digit) (maxL := 4) (ret := (some .int)) (by decide) rfl (Nat.le_of_ble_eq_true rfl) ?_
  intro p e s m below meth c A ls H locs hE hS hP hD hl
  obtain ⟨hx, hb, hr, hlocks, hml, hown, hts, hK, hA, hG, hnm⟩ := id hE
  have hown : s.vm.findClass RX2 = some m.cls := hown
  have hl : lv_has ls 4 [(0, .ref (ra 0)), (1, .int low), (2, .int high)] := hl
  have hinX2 : ∀ w ∈ wsX20, w ∈ wsX2_digit := by decide +kernel
  have lk_0 := hts (.fieldLink RX2 26 "OrganPegs$Roll" "wrong" "Z") (by decide +kernel)
  have lk_1 := hts (.fieldLink RX2 30 "OrganPegs$Roll" "position" "I") (by decide +kernel)
  unfold k_X2_digit at hres
  refine lv_aload_n hx hb dX2_digit_0 rfl (lv_at hl 0 rfl) ?_
  have hP : va_P D vwCl ((rl_W cs ra r) ++ []) H := k_nP hP
  have hD : va_D A ((rl_W cs ra r) ++ []) := k_nD hD
  have hc_1 := c_X2_here l D cs ra r  (by assumption)
  refine kI_call (wc := (rl_W cs ra r)) (wr := []) (w1 := rl_W cs ra r) (r := (k_X2_here r)) hE hP hD hS (k_rV (rest := []) (As := []) hE rfl (hc_1 H.size) (cwV 0 hts gX2_digit_X2_here rfl rfl rfl (by decide +kernel) ⟨Nat.le_of_ble_eq_true rfl, Nat.le_of_ble_eq_true rfl⟩) hP hD hS (ci := 2) (q0 := 0) rfl rfl rfl hl rfl (Nat.le_of_ble_eq_true rfl) ⟨Nat.le_of_ble_eq_true rfl, Nat.le_of_ble_eq_true rfl⟩ dX2_digit_1) (fun H locs hP hD hS => ?_)
  have hP := k_uP hP
  have hD := k_uD hD
  have hP : va_P D vwCl (rl_W cs ra r) H := hP
  have hD : va_D A (rl_W cs ra r) := hD
  refine lv_bipush (v := 48) hx hb dX2_digit_4 (by decide) ?_
  refine lv_isub hx hb dX2_digit_6 ?_
  refine lv_istore_n (lv' := [(3, .int ((k_X2_here r) - 48)), (0, .ref (ra 0)), (1, .int low), (2, .int high)]) hx hb dX2_digit_7 rfl hl (by decide) rfl (fun ls hl => ?_)
  refine lv_aload_n hx hb dX2_digit_8 rfl (lv_at hl 1 rfl) ?_
  refine va_get (D := D) (ci := 2) (v := .int (r.1 2)) (C := RX2) (T := TX2) (N := 8) hx hb hts hinX2 hown hK hP 0 rfl rfl 3 (by decide) lk_0 (fun _ h9 => h9) rfl dX2_digit_9 ?_
  refine lv_if_ne (tgt := 25) hx hb dX2_digit_12 (by decide) (fun c_12 => ?_) (fun c_12 => ?_)
  · skip
    have c_12 : ¬ ((r.1 2) = 0) := c_12
    rw [if_neg c_12] at hres
    refine lv_aload_n hx hb dX2_digit_25 rfl (lv_at hl 1 rfl) ?_
    refine lv_iconst (v := 1) hx hb dX2_digit_26 (by decide) ?_
    refine va_put (D := D) (ci := 2) (v := .int 1) (ty := .boolean) (C := RX2) (T := TX2) (N := 8) hx hb hts hinX2 tyX2 tyX2_ok nmX2 hown hK hP hD hS 0 rfl rfl 3 (by decide) lk_0 (fun _ h9 => h9) rfl (by decide +kernel) rfl rfl (Nat.le_of_ble_eq_true rfl) dX2_digit_27 (fun H locs hP hD hS => ?_)
    have hP : va_P D vwCl (rl_W cs ra (r_s r 2 1)) H := hP
    have hD : va_D A (rl_W cs ra (r_s r 2 1)) := hD
    refine lv_iconst (v := 0) hx hb dX2_digit_30 (by decide) ?_
    subst hres
    exact kI_ret hE hS hP hD rfl rfl (Nat.le_of_ble_eq_true rfl) (Nat.le_of_ble_eq_true rfl) dX2_digit_31
  · skip
    have c_12 : ((r.1 2) = 0) := c_12
    rw [if_pos c_12] at hres
    refine lv_iload_n hx hb dX2_digit_15 rfl (lv_at hl 0 rfl) ?_
    refine lv_iload_n hx hb dX2_digit_16 rfl (lv_at hl 2 rfl) ?_
    refine lv_icmp_lt (tgt := 25) hx hb dX2_digit_17 (by decide) (fun c_17 => ?_) (fun c_17 => ?_)
    · skip
      have c_17 : (((k_X2_here r) - 48) < low) := c_17
      rw [if_pos c_17] at hres
      refine lv_aload_n hx hb dX2_digit_25 rfl (lv_at hl 1 rfl) ?_
      refine lv_iconst (v := 1) hx hb dX2_digit_26 (by decide) ?_
      refine va_put (D := D) (ci := 2) (v := .int 1) (ty := .boolean) (C := RX2) (T := TX2) (N := 8) hx hb hts hinX2 tyX2 tyX2_ok nmX2 hown hK hP hD hS 0 rfl rfl 3 (by decide) lk_0 (fun _ h9 => h9) rfl (by decide +kernel) rfl rfl (Nat.le_of_ble_eq_true rfl) dX2_digit_27 (fun H locs hP hD hS => ?_)
      have hP : va_P D vwCl (rl_W cs ra (r_s r 2 1)) H := hP
      have hD : va_D A (rl_W cs ra (r_s r 2 1)) := hD
      refine lv_iconst (v := 0) hx hb dX2_digit_30 (by decide) ?_
      subst hres
      exact kI_ret hE hS hP hD rfl rfl (Nat.le_of_ble_eq_true rfl) (Nat.le_of_ble_eq_true rfl) dX2_digit_31
    · skip
      have c_17 : ¬ (((k_X2_here r) - 48) < low) := c_17
      rw [if_neg c_17] at hres
      refine lv_iload_n hx hb dX2_digit_20 rfl (lv_at hl 0 rfl) ?_
      refine lv_iload_n hx hb dX2_digit_21 rfl (lv_at hl 3 rfl) ?_
      refine lv_icmp_le (tgt := 32) hx hb dX2_digit_22 (by decide) (fun c_22 => ?_) (fun c_22 => ?_)
      · skip
        have c_22 : (((k_X2_here r) - 48) ≤ high) := c_22
        rw [if_pos c_22] at hres
        refine lv_aload_n hx hb dX2_digit_32 rfl (lv_at hl 1 rfl) ?_
        refine lv_dup hx hb dX2_digit_33 rfl ?_
        refine va_get (D := D) (ci := 2) (v := .int (r.1 1)) (C := RX2) (T := TX2) (N := 8) hx hb hts hinX2 hown hK hP 0 rfl rfl 2 (by decide) lk_1 (fun _ h9 => h9) rfl dX2_digit_34 ?_
        refine lv_iconst (v := 1) hx hb dX2_digit_37 (by decide) ?_
        refine lv_iadd hx hb dX2_digit_38 ?_
        refine va_put (D := D) (ci := 2) (v := .int ((r.1 1) + 1)) (ty := .int) (C := RX2) (T := TX2) (N := 8) hx hb hts hinX2 tyX2 tyX2_ok nmX2 hown hK hP hD hS 0 rfl rfl 2 (by decide) lk_1 (fun _ h9 => h9) rfl (by decide +kernel) rfl rfl (Nat.le_of_ble_eq_true rfl) dX2_digit_39 (fun H locs hP hD hS => ?_)
        have hP : va_P D vwCl (rl_W cs ra (r_s r 1 ((r.1 1) + 1))) H := hP
        have hD : va_D A (rl_W cs ra (r_s r 1 ((r.1 1) + 1))) := hD
        refine lv_iload_n hx hb dX2_digit_42 rfl (lv_at hl 0 rfl) ?_
        subst hres
        exact kI_ret hE hS hP hD rfl rfl (Nat.le_of_ble_eq_true rfl) (Nat.le_of_ble_eq_true rfl) dX2_digit_43
      · skip
        have c_22 : ¬ (((k_X2_here r) - 48) ≤ high) := c_22
        rw [if_neg c_22] at hres
        refine lv_aload_n hx hb dX2_digit_25 rfl (lv_at hl 1 rfl) ?_
        refine lv_iconst (v := 1) hx hb dX2_digit_26 (by decide) ?_
        refine va_put (D := D) (ci := 2) (v := .int 1) (ty := .boolean) (C := RX2) (T := TX2) (N := 8) hx hb hts hinX2 tyX2 tyX2_ok nmX2 hown hK hP hD hS 0 rfl rfl 3 (by decide) lk_0 (fun _ h9 => h9) rfl (by decide +kernel) rfl rfl (Nat.le_of_ble_eq_true rfl) dX2_digit_27 (fun H locs hP hD hS => ?_)
        have hP : va_P D vwCl (rl_W cs ra (r_s r 2 1)) H := hP
        have hD : va_D A (rl_W cs ra (r_s r 2 1)) := hD
        refine lv_iconst (v := 0) hx hb dX2_digit_30 (by decide) ?_
        subst hres
        exact kI_ret hE hS hP hD rfl rfl (Nat.le_of_ble_eq_true rfl) (Nat.le_of_ble_eq_true rfl) dX2_digit_31
set_option maxHeartbeats 4000000 in
set_option maxRecDepth 100000 in
theorem c_X2_twoDigits (l : Launch) (D : va_G) (cs : Nat → ClassId) (ra : Nat → Nat) (r : RV) (low : Int32) (high : Int32) (hR : RT r) : kI l yX2_twoDigits wsX2_twoDigits { frames := 2, cells := 0, slots := 0, locals := 43 } 0 0 D cs [.ref (ra 0), .int low, .int high] (rl_W cs ra r) (k_X2_twoDigits r low high).1 (rl_W cs ra ((k_X2_twoDigits r low high).2)) := by
  generalize hres : k_X2_twoDigits r low high = res
  refine kI_of (cc := cX2_twoDigits) (maxL := 6) (ret := (some .int)) (by decide) rfl (Nat.le_of_ble_eq_true rfl) ?_
  intro p e s m below meth c A ls H locs hE hS hP hD hl
  obtain ⟨hx, hb, hr, hlocks, hml, hown, hts, hK, hA, hG, hnm⟩ := id hE
  have hown : s.vm.findClass RX2 = some m.cls := hown
  have hl : lv_has ls 6 [(0, .ref (ra 0)), (1, .int low), (2, .int high)] := hl
  unfold k_X2_twoDigits at hres
  refine lv_aload_n hx hb dX2_twoDigits_0 rfl (lv_at hl 0 rfl) ?_
  refine lv_iload_n hx hb dX2_twoDigits_1 rfl (lv_at hl 1 rfl) ?_
  refine lv_bipush (v := 10) hx hb dX2_twoDigits_2 (by decide) ?_
  refine lv_idiv hx hb dX2_twoDigits_4 (by decide) ?_
  refine lv_iload_n hx hb dX2_twoDigits_5 rfl (lv_at hl 2 rfl) ?_
  refine lv_bipush (v := 10) hx hb dX2_twoDigits_6 (by decide) ?_
  refine lv_idiv hx hb dX2_twoDigits_8 (by decide) ?_
  have hP : va_P D vwCl ((rl_W cs ra r) ++ []) H := k_nP hP
  have hD : va_D A ((rl_W cs ra r) ++ []) := k_nD hD
  have hc_9 := c_X2_digit l D cs ra r (low / 10) (high / 10) hR
  obtain ⟨r_9, o_9, e_9⟩ : ∃ r9 o9, (k_X2_digit r (low / 10) (high / 10)) = (r9, o9) := ⟨_, _, rfl⟩
  rw [e_9] at hc_9 hres
  dsimp only at hc_9 hres
  refine kI_call (wc := (rl_W cs ra r)) (wr := []) (w1 := rl_W cs ra o_9) (r := r_9) hE hP hD hS (k_rV (rest := []) (As := [.int (low / 10), .int (high / 10)]) hE rfl (hc_9 H.size) (cwV 2 hts gX2_twoDigits_X2_digit rfl rfl rfl (by decide +kernel) ⟨Nat.le_of_ble_eq_true rfl, Nat.le_of_ble_eq_true rfl⟩) hP hD hS (ci := 2) (q0 := 0) rfl rfl rfl hl rfl (Nat.le_of_ble_eq_true rfl) ⟨Nat.le_of_ble_eq_true rfl, Nat.le_of_ble_eq_true rfl⟩ dX2_twoDigits_9) (fun H locs hP hD hS => ?_)
  have hP := k_uP hP
  have hD := k_uD hD
  have hP : va_P D vwCl (rl_W cs ra o_9) H := hP
  have hD : va_D A (rl_W cs ra o_9) := hD
  refine lv_istore_n (lv' := [(3, .int r_9), (0, .ref (ra 0)), (1, .int low), (2, .int high)]) hx hb dX2_twoDigits_12 rfl hl (by decide) rfl (fun ls hl => ?_)
  refine lv_iload_n hx hb dX2_twoDigits_13 rfl (lv_at hl 0 rfl) ?_
  refine lv_iload_n hx hb dX2_twoDigits_14 rfl (lv_at hl 2 rfl) ?_
  refine lv_bipush (v := 10) hx hb dX2_twoDigits_15 (by decide) ?_
  refine lv_idiv hx hb dX2_twoDigits_17 (by decide) ?_
  refine lv_icmp_ne (tgt := 28) hx hb dX2_twoDigits_18 (by decide) (fun c_18 => ?_) (fun c_18 => ?_)
  · skip
    have c_18 : ¬ (r_9 = (low / 10)) := c_18
    rw [if_neg c_18] at hres
    refine lv_iconst (v := 0) hx hb dX2_twoDigits_28 (by decide) ?_
    refine lv_istore (lv' := [(4, .int 0), (3, .int r_9), (0, .ref (ra 0)), (1, .int low), (2, .int high)]) hx hb dX2_twoDigits_29 hl (by decide) rfl (fun ls hl => ?_)
    refine lv_iload_n hx hb dX2_twoDigits_31 rfl (lv_at hl 1 rfl) ?_
    refine lv_iload_n hx hb dX2_twoDigits_32 rfl (lv_at hl 4 rfl) ?_
    refine lv_bipush (v := 10) hx hb dX2_twoDigits_33 (by decide) ?_
    refine lv_idiv hx hb dX2_twoDigits_35 (by decide) ?_
    refine lv_icmp_ne (tgt := 46) hx hb dX2_twoDigits_36 (by decide) (fun c_36 => ?_) (fun c_36 => ?_)
    · skip
      have c_36 : ¬ (r_9 = (high / 10)) := c_36
      rw [if_neg c_36] at hres
      refine lv_bipush (v := 9) hx hb dX2_twoDigits_46 (by decide) ?_
      refine lv_istore (lv' := [(5, .int 9), (4, .int 0), (3, .int r_9), (0, .ref (ra 0)), (1, .int low), (2, .int high)]) hx hb dX2_twoDigits_48 hl (by decide) rfl (fun ls hl => ?_)
      refine lv_bipush (v := 10) hx hb dX2_twoDigits_50 (by decide) ?_
      refine lv_iload_n hx hb dX2_twoDigits_52 rfl (lv_at hl 2 rfl) ?_
      refine lv_imul hx hb dX2_twoDigits_53 ?_
      refine lv_aload_n hx hb dX2_twoDigits_54 rfl (lv_at hl 3 rfl) ?_
      refine lv_iload hx hb dX2_twoDigits_55 (lv_at hl 1 rfl) ?_
      refine lv_iload hx hb dX2_twoDigits_57 (lv_at hl 0 rfl) ?_
      have hP : va_P D vwCl ((rl_W cs ra o_9) ++ []) H := k_nP hP
      have hD : va_D A ((rl_W cs ra o_9) ++ []) := k_nD hD
      have hc_59 := c_X2_digit l D cs ra o_9 0 9 (RT_digitE e_9 hR)
      obtain ⟨r_59, o_59, e_59⟩ : ∃ r9 o9, (k_X2_digit o_9 0 9) = (r9, o9) := ⟨_, _, rfl⟩
      rw [e_59] at hc_59 hres
      dsimp only at hc_59 hres
      refine kI_call (wc := (rl_W cs ra o_9)) (wr := []) (w1 := rl_W cs ra o_59) (r := r_59) hE hP hD hS (k_rV (rest := [.int (10 * r_9)]) (As := [.int 0, .int 9]) hE rfl (hc_59 H.size) (cwV 2 hts gX2_twoDigits_X2_digit rfl rfl rfl (by decide +kernel) ⟨Nat.le_of_ble_eq_true rfl, Nat.le_of_ble_eq_true rfl⟩) hP hD hS (ci := 2) (q0 := 0) rfl rfl rfl hl rfl (Nat.le_of_ble_eq_true rfl) ⟨Nat.le_of_ble_eq_true rfl, Nat.le_of_ble_eq_true rfl⟩ dX2_twoDigits_59) (fun H locs hP hD hS => ?_)
      have hP := k_uP hP
      have hD := k_uD hD
      have hP : va_P D vwCl (rl_W cs ra o_59) H := hP
      have hD : va_D A (rl_W cs ra o_59) := hD
      refine lv_iadd hx hb dX2_twoDigits_62 ?_
      subst hres
      exact kI_ret hE hS hP hD rfl rfl (Nat.le_of_ble_eq_true rfl) (Nat.le_of_ble_eq_true rfl) dX2_twoDigits_63
    · skip
      have c_36 : (r_9 = (high / 10)) := c_36
      rw [if_pos c_36] at hres
      refine lv_iload_n hx hb dX2_twoDigits_39 rfl (lv_at hl 4 rfl) ?_
      refine lv_bipush (v := 10) hx hb dX2_twoDigits_40 (by decide) ?_
      refine lv_irem hx hb dX2_twoDigits_42 (by decide) ?_
      refine lv_goto (tgt := 48) hx hb dX2_twoDigits_43 (by decide) ?_
      refine lv_istore (lv' := [(5, .int (high - high / 10 * 10)), (4, .int 0), (3, .int r_9), (0, .ref (ra 0)), (1, .int low), (2, .int high)]) hx hb dX2_twoDigits_48 hl (by decide) rfl (fun ls hl => ?_)
      refine lv_bipush (v := 10) hx hb dX2_twoDigits_50 (by decide) ?_
      refine lv_iload_n hx hb dX2_twoDigits_52 rfl (lv_at hl 2 rfl) ?_
      refine lv_imul hx hb dX2_twoDigits_53 ?_
      refine lv_aload_n hx hb dX2_twoDigits_54 rfl (lv_at hl 3 rfl) ?_
      refine lv_iload hx hb dX2_twoDigits_55 (lv_at hl 1 rfl) ?_
      refine lv_iload hx hb dX2_twoDigits_57 (lv_at hl 0 rfl) ?_
      have hP : va_P D vwCl ((rl_W cs ra o_9) ++ []) H := k_nP hP
      have hD : va_D A ((rl_W cs ra o_9) ++ []) := k_nD hD
      have hc_59 := c_X2_digit l D cs ra o_9 0 (high - high / 10 * 10) (RT_digitE e_9 hR)
      obtain ⟨r_59, o_59, e_59⟩ : ∃ r9 o9, (k_X2_digit o_9 0 (high - high / 10 * 10)) = (r9, o9) := ⟨_, _, rfl⟩
      rw [e_59] at hc_59 hres
      dsimp only at hc_59 hres
      refine kI_call (wc := (rl_W cs ra o_9)) (wr := []) (w1 := rl_W cs ra o_59) (r := r_59) hE hP hD hS (k_rV (rest := [.int (10 * r_9)]) (As := [.int 0, .int (high - high / 10 * 10)]) hE rfl (hc_59 H.size) (cwV 2 hts gX2_twoDigits_X2_digit rfl rfl rfl (by decide +kernel) ⟨Nat.le_of_ble_eq_true rfl, Nat.le_of_ble_eq_true rfl⟩) hP hD hS (ci := 2) (q0 := 0) rfl rfl rfl hl rfl (Nat.le_of_ble_eq_true rfl) ⟨Nat.le_of_ble_eq_true rfl, Nat.le_of_ble_eq_true rfl⟩ dX2_twoDigits_59) (fun H locs hP hD hS => ?_)
      have hP := k_uP hP
      have hD := k_uD hD
      have hP : va_P D vwCl (rl_W cs ra o_59) H := hP
      have hD : va_D A (rl_W cs ra o_59) := hD
      refine lv_iadd hx hb dX2_twoDigits_62 ?_
      subst hres
      exact kI_ret hE hS hP hD rfl rfl (Nat.le_of_ble_eq_true rfl) (Nat.le_of_ble_eq_true rfl) dX2_twoDigits_63
  · skip
    have c_18 : (r_9 = (low / 10)) := c_18
    rw [if_pos c_18] at hres
    refine lv_iload_n hx hb dX2_twoDigits_21 rfl (lv_at hl 2 rfl) ?_
    refine lv_bipush (v := 10) hx hb dX2_twoDigits_22 (by decide) ?_
    refine lv_irem hx hb dX2_twoDigits_24 (by decide) ?_
    refine lv_goto (tgt := 29) hx hb dX2_twoDigits_25 (by decide) ?_
    refine lv_istore (lv' := [(4, .int (low - low / 10 * 10)), (3, .int r_9), (0, .ref (ra 0)), (1, .int low), (2, .int high)]) hx hb dX2_twoDigits_29 hl (by decide) rfl (fun ls hl => ?_)
    refine lv_iload_n hx hb dX2_twoDigits_31 rfl (lv_at hl 1 rfl) ?_
    refine lv_iload_n hx hb dX2_twoDigits_32 rfl (lv_at hl 4 rfl) ?_
    refine lv_bipush (v := 10) hx hb dX2_twoDigits_33 (by decide) ?_
    refine lv_idiv hx hb dX2_twoDigits_35 (by decide) ?_
    refine lv_icmp_ne (tgt := 46) hx hb dX2_twoDigits_36 (by decide) (fun c_36 => ?_) (fun c_36 => ?_)
    · skip
      have c_36 : ¬ (r_9 = (high / 10)) := c_36
      rw [if_neg c_36] at hres
      refine lv_bipush (v := 9) hx hb dX2_twoDigits_46 (by decide) ?_
      refine lv_istore (lv' := [(5, .int 9), (4, .int (low - low / 10 * 10)), (3, .int r_9), (0, .ref (ra 0)), (1, .int low), (2, .int high)]) hx hb dX2_twoDigits_48 hl (by decide) rfl (fun ls hl => ?_)
      refine lv_bipush (v := 10) hx hb dX2_twoDigits_50 (by decide) ?_
      refine lv_iload_n hx hb dX2_twoDigits_52 rfl (lv_at hl 2 rfl) ?_
      refine lv_imul hx hb dX2_twoDigits_53 ?_
      refine lv_aload_n hx hb dX2_twoDigits_54 rfl (lv_at hl 3 rfl) ?_
      refine lv_iload hx hb dX2_twoDigits_55 (lv_at hl 1 rfl) ?_
      refine lv_iload hx hb dX2_twoDigits_57 (lv_at hl 0 rfl) ?_
      have hP : va_P D vwCl ((rl_W cs ra o_9) ++ []) H := k_nP hP
      have hD : va_D A ((rl_W cs ra o_9) ++ []) := k_nD hD
      have hc_59 := c_X2_digit l D cs ra o_9 (low - low / 10 * 10) 9 (RT_digitE e_9 hR)
      obtain ⟨r_59, o_59, e_59⟩ : ∃ r9 o9, (k_X2_digit o_9 (low - low / 10 * 10) 9) = (r9, o9) := ⟨_, _, rfl⟩
      rw [e_59] at hc_59 hres
      dsimp only at hc_59 hres
      refine kI_call (wc := (rl_W cs ra o_9)) (wr := []) (w1 := rl_W cs ra o_59) (r := r_59) hE hP hD hS (k_rV (rest := [.int (10 * r_9)]) (As := [.int (low - low / 10 * 10), .int 9]) hE rfl (hc_59 H.size) (cwV 2 hts gX2_twoDigits_X2_digit rfl rfl rfl (by decide +kernel) ⟨Nat.le_of_ble_eq_true rfl, Nat.le_of_ble_eq_true rfl⟩) hP hD hS (ci := 2) (q0 := 0) rfl rfl rfl hl rfl (Nat.le_of_ble_eq_true rfl) ⟨Nat.le_of_ble_eq_true rfl, Nat.le_of_ble_eq_true rfl⟩ dX2_twoDigits_59) (fun H locs hP hD hS => ?_)
      have hP := k_uP hP
      have hD := k_uD hD
      have hP : va_P D vwCl (rl_W cs ra o_59) H := hP
      have hD : va_D A (rl_W cs ra o_59) := hD
      refine lv_iadd hx hb dX2_twoDigits_62 ?_
      subst hres
      exact kI_ret hE hS hP hD rfl rfl (Nat.le_of_ble_eq_true rfl) (Nat.le_of_ble_eq_true rfl) dX2_twoDigits_63
    · skip
      have c_36 : (r_9 = (high / 10)) := c_36
      rw [if_pos c_36] at hres
      refine lv_iload_n hx hb dX2_twoDigits_39 rfl (lv_at hl 4 rfl) ?_
      refine lv_bipush (v := 10) hx hb dX2_twoDigits_40 (by decide) ?_
      refine lv_irem hx hb dX2_twoDigits_42 (by decide) ?_
      refine lv_goto (tgt := 48) hx hb dX2_twoDigits_43 (by decide) ?_
      refine lv_istore (lv' := [(5, .int (high - high / 10 * 10)), (4, .int (low - low / 10 * 10)), (3, .int r_9), (0, .ref (ra 0)), (1, .int low), (2, .int high)]) hx hb dX2_twoDigits_48 hl (by decide) rfl (fun ls hl => ?_)
      refine lv_bipush (v := 10) hx hb dX2_twoDigits_50 (by decide) ?_
      refine lv_iload_n hx hb dX2_twoDigits_52 rfl (lv_at hl 2 rfl) ?_
      refine lv_imul hx hb dX2_twoDigits_53 ?_
      refine lv_aload_n hx hb dX2_twoDigits_54 rfl (lv_at hl 3 rfl) ?_
      refine lv_iload hx hb dX2_twoDigits_55 (lv_at hl 1 rfl) ?_
      refine lv_iload hx hb dX2_twoDigits_57 (lv_at hl 0 rfl) ?_
      have hP : va_P D vwCl ((rl_W cs ra o_9) ++ []) H := k_nP hP
      have hD : va_D A ((rl_W cs ra o_9) ++ []) := k_nD hD
      have hc_59 := c_X2_digit l D cs ra o_9 (low - low / 10 * 10) (high - high / 10 * 10) (RT_digitE e_9 hR)
      obtain ⟨r_59, o_59, e_59⟩ : ∃ r9 o9, (k_X2_digit o_9 (low - low / 10 * 10) (high - high / 10 * 10)) = (r9, o9) := ⟨_, _, rfl⟩
      rw [e_59] at hc_59 hres
      dsimp only at hc_59 hres
      refine kI_call (wc := (rl_W cs ra o_9)) (wr := []) (w1 := rl_W cs ra o_59) (r := r_59) hE hP hD hS (k_rV (rest := [.int (10 * r_9)]) (As := [.int (low - low / 10 * 10), .int (high - high / 10 * 10)]) hE rfl (hc_59 H.size) (cwV 2 hts gX2_twoDigits_X2_digit rfl rfl rfl (by decide +kernel) ⟨Nat.le_of_ble_eq_true rfl, Nat.le_of_ble_eq_true rfl⟩) hP hD hS (ci := 2) (q0 := 0) rfl rfl rfl hl rfl (Nat.le_of_ble_eq_true rfl) ⟨Nat.le_of_ble_eq_true rfl, Nat.le_of_ble_eq_true rfl⟩ dX2_twoDigits_59) (fun H locs hP hD hS => ?_)
      have hP := k_uP hP
      have hD := k_uD hD
      have hP : va_P D vwCl (rl_W cs ra o_59) H := hP
      have hD : va_D A (rl_W cs ra o_59) := hD
      refine lv_iadd hx hb dX2_twoDigits_62 ?_
      subst hres
      exact kI_ret hE hS hP hD rfl rfl (Nat.le_of_ble_eq_true rfl) (Nat.le_of_ble_eq_true rfl) dX2_twoDigits_63
set_option maxHeartbeats 4000000 in
set_option maxRecDepth 100000 in
theorem c_X2_readNumbers (l : Launch) (D : va_G) (cs : Nat → ClassId) (ra : Nat → Nat) (r : RV) (hR : RT r) : kV l yX2_readNumbers wsX2_readNumbers { frames := 3, cells := 0, slots := 0, locals := 68 } 0 0 D cs [.ref (ra 0)] (rl_W cs ra r) (fun (_ : Unit) => True) (fun _ => rl_W cs ra (k_X2_readNumbers r)) := by
  generalize hres : k_X2_readNumbers r = res
  refine kV_of (cc := cX2_readNumbers) (maxL := 1) (ret := none) (by decide) rfl (Nat.le_of_ble_eq_true rfl) ?_
  intro p e s m below meth c A ls H locs hE hS hP hD hl
  obtain ⟨hx, hb, hr, hlocks, hml, hown, hts, hK, hA, hG, hnm⟩ := id hE
  have hown : s.vm.findClass RX2 = some m.cls := hown
  have hl : lv_has ls 1 [(0, .ref (ra 0))] := hl
  have hinX2 : ∀ w ∈ wsX20, w ∈ wsX2_readNumbers := by decide +kernel
  have lk_0 := hts (.fieldLink RX2 37 "OrganPegs$Roll" "letter" "C") (by decide +kernel)
  have lk_1 := hts (.fieldLink RX2 48 "OrganPegs$Roll" "first" "I") (by decide +kernel)
  have lk_2 := hts (.fieldLink RX2 54 "OrganPegs$Roll" "second" "I") (by decide +kernel)
  have lk_3 := hts (.fieldLink RX2 57 "OrganPegs$Roll" "third" "I") (by decide +kernel)
  have lk_4 := hts (.fieldLink RX2 30 "OrganPegs$Roll" "position" "I") (by decide +kernel)
  have lk_5 := hts (.fieldLink RX2 26 "OrganPegs$Roll" "wrong" "Z") (by decide +kernel)
  unfold k_X2_readNumbers at hres
  refine lv_aload_n hx hb dX2_readNumbers_0 rfl (lv_at hl 0 rfl) ?_
  refine va_get (D := D) (ci := 2) (v := .int (r.1 3)) (C := RX2) (T := TX2) (N := 8) hx hb hts hinX2 hown hK hP 0 rfl rfl 4 (by decide) lk_0 (fun _ h9 => h9) rfl dX2_readNumbers_1 ?_
  by_cases c_4_99 : (r.1 3) = 99
  · skip
    rw [if_pos c_4_99] at hres
    refine lv_lookup (tgt := 153) (off := 149) hx hb dX2_readNumbers_4 (by decide) (by rw [c_4_99]; rfl) (by decide) ?_
    refine lv_aload_n hx hb dX2_readNumbers_153 rfl (lv_at hl 0 rfl) ?_
    refine lv_aload_n hx hb dX2_readNumbers_154 rfl (lv_at hl 0 rfl) ?_
    refine lv_iconst (v := 0) hx hb dX2_readNumbers_155 (by decide) ?_
    refine lv_bipush (v := 11) hx hb dX2_readNumbers_156 (by decide) ?_
    have hP : va_P D vwCl ((rl_W cs ra r) ++ []) H := k_nP hP
    have hD : va_D A ((rl_W cs ra r) ++ []) := k_nD hD
    have hc_158 := c_X2_twoDigits l D cs ra r 0 11 (hR)
    obtain ⟨r_158, o_158, e_158⟩ : ∃ r9 o9, (k_X2_twoDigits r 0 11) = (r9, o9) := ⟨_, _, rfl⟩
    rw [e_158] at hc_158 hres
    dsimp only at hc_158 hres
    refine kI_call (wc := (rl_W cs ra r)) (wr := []) (w1 := rl_W cs ra o_158) (r := r_158) hE hP hD hS (k_rV (rest := [.ref (ra 0)]) (As := [.int 0, .int 11]) hE rfl (hc_158 H.size) (cwV 2 hts gX2_readNumbers_X2_twoDigits rfl rfl rfl (by decide +kernel) ⟨Nat.le_of_ble_eq_true rfl, Nat.le_of_ble_eq_true rfl⟩) hP hD hS (ci := 2) (q0 := 0) rfl rfl rfl hl rfl (Nat.le_of_ble_eq_true rfl) ⟨Nat.le_of_ble_eq_true rfl, Nat.le_of_ble_eq_true rfl⟩ dX2_readNumbers_158) (fun H locs hP hD hS => ?_)
    have hP := k_uP hP
    have hD := k_uD hD
    have hP : va_P D vwCl (rl_W cs ra o_158) H := hP
    have hD : va_D A (rl_W cs ra o_158) := hD
    refine va_put (D := D) (ci := 2) (v := .int r_158) (ty := .int) (C := RX2) (T := TX2) (N := 8) hx hb hts hinX2 tyX2 tyX2_ok nmX2 hown hK hP hD hS 0 rfl rfl 5 (by decide) lk_1 (fun _ h9 => h9) rfl (by decide +kernel) rfl rfl (Nat.le_of_ble_eq_true rfl) dX2_readNumbers_161 (fun H locs hP hD hS => ?_)
    have hP : va_P D vwCl (rl_W cs ra (r_s o_158 4 r_158)) H := hP
    have hD : va_D A (rl_W cs ra (r_s o_158 4 r_158)) := hD
    refine lv_goto (tgt := 182) hx hb dX2_readNumbers_164 (by decide) ?_
    subst hres
    exact kV_ret () hE hS hP hD trivial (Nat.le_of_ble_eq_true rfl) (Nat.le_of_ble_eq_true rfl) dX2_readNumbers_182
  · skip
    rw [if_neg c_4_99] at hres
    by_cases c_4_108 : (r.1 3) = 108
    · skip
      rw [if_pos c_4_108] at hres
      refine lv_lookup (tgt := 91) (off := 87) hx hb dX2_readNumbers_4 (by decide) (by rw [c_4_108]; rfl) (by decide) ?_
      refine lv_aload_n hx hb dX2_readNumbers_91 rfl (lv_at hl 0 rfl) ?_
      refine lv_aload_n hx hb dX2_readNumbers_92 rfl (lv_at hl 0 rfl) ?_
      refine lv_iconst (v := 0) hx hb dX2_readNumbers_93 (by decide) ?_
      refine lv_iconst (v := 5) hx hb dX2_readNumbers_94 (by decide) ?_
      have hP : va_P D vwCl ((rl_W cs ra r) ++ []) H := k_nP hP
      have hD : va_D A ((rl_W cs ra r) ++ []) := k_nD hD
      have hc_95 := c_X2_digit l D cs ra r 0 5 (hR)
      obtain ⟨r_95, o_95, e_95⟩ : ∃ r9 o9, (k_X2_digit r 0 5) = (r9, o9) := ⟨_, _, rfl⟩
      rw [e_95] at hc_95 hres
      dsimp only at hc_95 hres
      refine kI_call (wc := (rl_W cs ra r)) (wr := []) (w1 := rl_W cs ra o_95) (r := r_95) hE hP hD hS (k_rV (rest := [.ref (ra 0)]) (As := [.int 0, .int 5]) hE rfl (hc_95 H.size) (cwV 2 hts gX2_readNumbers_X2_digit rfl rfl rfl (by decide +kernel) ⟨Nat.le_of_ble_eq_true rfl, Nat.le_of_ble_eq_true rfl⟩) hP hD hS (ci := 2) (q0 := 0) rfl rfl rfl hl rfl (Nat.le_of_ble_eq_true rfl) ⟨Nat.le_of_ble_eq_true rfl, Nat.le_of_ble_eq_true rfl⟩ dX2_readNumbers_95) (fun H locs hP hD hS => ?_)
      have hP := k_uP hP
      have hD := k_uD hD
      have hP : va_P D vwCl (rl_W cs ra o_95) H := hP
      have hD : va_D A (rl_W cs ra o_95) := hD
      refine va_put (D := D) (ci := 2) (v := .int r_95) (ty := .int) (C := RX2) (T := TX2) (N := 8) hx hb hts hinX2 tyX2 tyX2_ok nmX2 hown hK hP hD hS 0 rfl rfl 5 (by decide) lk_1 (fun _ h9 => h9) rfl (by decide +kernel) rfl rfl (Nat.le_of_ble_eq_true rfl) dX2_readNumbers_98 (fun H locs hP hD hS => ?_)
      have hP : va_P D vwCl (rl_W cs ra (r_s o_95 4 r_95)) H := hP
      have hD : va_D A (rl_W cs ra (r_s o_95 4 r_95)) := hD
      refine lv_aload_n hx hb dX2_readNumbers_101 rfl (lv_at hl 0 rfl) ?_
      refine lv_aload_n hx hb dX2_readNumbers_102 rfl (lv_at hl 0 rfl) ?_
      refine lv_iconst (v := 0) hx hb dX2_readNumbers_103 (by decide) ?_
      refine lv_bipush (v := 23) hx hb dX2_readNumbers_104 (by decide) ?_
      have hP : va_P D vwCl ((rl_W cs ra (r_s o_95 4 r_95)) ++ []) H := k_nP hP
      have hD : va_D A ((rl_W cs ra (r_s o_95 4 r_95)) ++ []) := k_nD hD
      have hc_106 := c_X2_twoDigits l D cs ra (r_s o_95 4 r_95) 0 23 (show RT o_95 from RT_digitE e_95 hR)
      obtain ⟨r_106, o_106, e_106⟩ : ∃ r9 o9, (k_X2_twoDigits (r_s o_95 4 r_95) 0 23) = (r9, o9) := ⟨_, _, rfl⟩
      rw [e_106] at hc_106 hres
      dsimp only at hc_106 hres
      refine kI_call (wc := (rl_W cs ra (r_s o_95 4 r_95))) (wr := []) (w1 := rl_W cs ra o_106) (r := r_106) hE hP hD hS (k_rV (rest := [.ref (ra 0)]) (As := [.int 0, .int 23]) hE rfl (hc_106 H.size) (cwV 2 hts gX2_readNumbers_X2_twoDigits rfl rfl rfl (by decide +kernel) ⟨Nat.le_of_ble_eq_true rfl, Nat.le_of_ble_eq_true rfl⟩) hP hD hS (ci := 2) (q0 := 0) rfl rfl rfl hl rfl (Nat.le_of_ble_eq_true rfl) ⟨Nat.le_of_ble_eq_true rfl, Nat.le_of_ble_eq_true rfl⟩ dX2_readNumbers_106) (fun H locs hP hD hS => ?_)
      have hP := k_uP hP
      have hD := k_uD hD
      have hP : va_P D vwCl (rl_W cs ra o_106) H := hP
      have hD : va_D A (rl_W cs ra o_106) := hD
      refine va_put (D := D) (ci := 2) (v := .int r_106) (ty := .int) (C := RX2) (T := TX2) (N := 8) hx hb hts hinX2 tyX2 tyX2_ok nmX2 hown hK hP hD hS 0 rfl rfl 6 (by decide) lk_2 (fun _ h9 => h9) rfl (by decide +kernel) rfl rfl (Nat.le_of_ble_eq_true rfl) dX2_readNumbers_109 (fun H locs hP hD hS => ?_)
      have hP : va_P D vwCl (rl_W cs ra (r_s o_106 5 r_106)) H := hP
      have hD : va_D A (rl_W cs ra (r_s o_106 5 r_106)) := hD
      refine lv_goto (tgt := 182) hx hb dX2_readNumbers_112 (by decide) ?_
      subst hres
      exact kV_ret () hE hS hP hD trivial (Nat.le_of_ble_eq_true rfl) (Nat.le_of_ble_eq_true rfl) dX2_readNumbers_182
    · skip
      rw [if_neg c_4_108] at hres
      by_cases c_4_112 : (r.1 3) = 112
      · skip
        rw [if_pos c_4_112] at hres
        refine lv_lookup (tgt := 56) (off := 52) hx hb dX2_readNumbers_4 (by decide) (by rw [c_4_112]; rfl) (by decide) ?_
        refine lv_aload_n hx hb dX2_readNumbers_56 rfl (lv_at hl 0 rfl) ?_
        refine lv_aload_n hx hb dX2_readNumbers_57 rfl (lv_at hl 0 rfl) ?_
        refine lv_iconst (v := 0) hx hb dX2_readNumbers_58 (by decide) ?_
        refine lv_iconst (v := 5) hx hb dX2_readNumbers_59 (by decide) ?_
        have hP : va_P D vwCl ((rl_W cs ra r) ++ []) H := k_nP hP
        have hD : va_D A ((rl_W cs ra r) ++ []) := k_nD hD
        have hc_60 := c_X2_digit l D cs ra r 0 5 (hR)
        obtain ⟨r_60, o_60, e_60⟩ : ∃ r9 o9, (k_X2_digit r 0 5) = (r9, o9) := ⟨_, _, rfl⟩
        rw [e_60] at hc_60 hres
        dsimp only at hc_60 hres
        refine kI_call (wc := (rl_W cs ra r)) (wr := []) (w1 := rl_W cs ra o_60) (r := r_60) hE hP hD hS (k_rV (rest := [.ref (ra 0)]) (As := [.int 0, .int 5]) hE rfl (hc_60 H.size) (cwV 2 hts gX2_readNumbers_X2_digit rfl rfl rfl (by decide +kernel) ⟨Nat.le_of_ble_eq_true rfl, Nat.le_of_ble_eq_true rfl⟩) hP hD hS (ci := 2) (q0 := 0) rfl rfl rfl hl rfl (Nat.le_of_ble_eq_true rfl) ⟨Nat.le_of_ble_eq_true rfl, Nat.le_of_ble_eq_true rfl⟩ dX2_readNumbers_60) (fun H locs hP hD hS => ?_)
        have hP := k_uP hP
        have hD := k_uD hD
        have hP : va_P D vwCl (rl_W cs ra o_60) H := hP
        have hD : va_D A (rl_W cs ra o_60) := hD
        refine va_put (D := D) (ci := 2) (v := .int r_60) (ty := .int) (C := RX2) (T := TX2) (N := 8) hx hb hts hinX2 tyX2 tyX2_ok nmX2 hown hK hP hD hS 0 rfl rfl 5 (by decide) lk_1 (fun _ h9 => h9) rfl (by decide +kernel) rfl rfl (Nat.le_of_ble_eq_true rfl) dX2_readNumbers_63 (fun H locs hP hD hS => ?_)
        have hP : va_P D vwCl (rl_W cs ra (r_s o_60 4 r_60)) H := hP
        have hD : va_D A (rl_W cs ra (r_s o_60 4 r_60)) := hD
        refine lv_aload_n hx hb dX2_readNumbers_66 rfl (lv_at hl 0 rfl) ?_
        refine lv_aload_n hx hb dX2_readNumbers_67 rfl (lv_at hl 0 rfl) ?_
        refine lv_iconst (v := 0) hx hb dX2_readNumbers_68 (by decide) ?_
        refine lv_bipush (v := 23) hx hb dX2_readNumbers_69 (by decide) ?_
        have hP : va_P D vwCl ((rl_W cs ra (r_s o_60 4 r_60)) ++ []) H := k_nP hP
        have hD : va_D A ((rl_W cs ra (r_s o_60 4 r_60)) ++ []) := k_nD hD
        have hc_71 := c_X2_twoDigits l D cs ra (r_s o_60 4 r_60) 0 23 (show RT o_60 from RT_digitE e_60 hR)
        obtain ⟨r_71, o_71, e_71⟩ : ∃ r9 o9, (k_X2_twoDigits (r_s o_60 4 r_60) 0 23) = (r9, o9) := ⟨_, _, rfl⟩
        rw [e_71] at hc_71 hres
        dsimp only at hc_71 hres
        refine kI_call (wc := (rl_W cs ra (r_s o_60 4 r_60))) (wr := []) (w1 := rl_W cs ra o_71) (r := r_71) hE hP hD hS (k_rV (rest := [.ref (ra 0)]) (As := [.int 0, .int 23]) hE rfl (hc_71 H.size) (cwV 2 hts gX2_readNumbers_X2_twoDigits rfl rfl rfl (by decide +kernel) ⟨Nat.le_of_ble_eq_true rfl, Nat.le_of_ble_eq_true rfl⟩) hP hD hS (ci := 2) (q0 := 0) rfl rfl rfl hl rfl (Nat.le_of_ble_eq_true rfl) ⟨Nat.le_of_ble_eq_true rfl, Nat.le_of_ble_eq_true rfl⟩ dX2_readNumbers_71) (fun H locs hP hD hS => ?_)
        have hP := k_uP hP
        have hD := k_uD hD
        have hP : va_P D vwCl (rl_W cs ra o_71) H := hP
        have hD : va_D A (rl_W cs ra o_71) := hD
        refine va_put (D := D) (ci := 2) (v := .int r_71) (ty := .int) (C := RX2) (T := TX2) (N := 8) hx hb hts hinX2 tyX2 tyX2_ok nmX2 hown hK hP hD hS 0 rfl rfl 6 (by decide) lk_2 (fun _ h9 => h9) rfl (by decide +kernel) rfl rfl (Nat.le_of_ble_eq_true rfl) dX2_readNumbers_74 (fun H locs hP hD hS => ?_)
        have hP : va_P D vwCl (rl_W cs ra (r_s o_71 5 r_71)) H := hP
        have hD : va_D A (rl_W cs ra (r_s o_71 5 r_71)) := hD
        refine lv_aload_n hx hb dX2_readNumbers_77 rfl (lv_at hl 0 rfl) ?_
        refine lv_aload_n hx hb dX2_readNumbers_78 rfl (lv_at hl 0 rfl) ?_
        refine lv_iconst (v := 1) hx hb dX2_readNumbers_79 (by decide) ?_
        refine lv_bipush (v := 6) hx hb dX2_readNumbers_80 (by decide) ?_
        have hP : va_P D vwCl ((rl_W cs ra (r_s o_71 5 r_71)) ++ []) H := k_nP hP
        have hD : va_D A ((rl_W cs ra (r_s o_71 5 r_71)) ++ []) := k_nD hD
        have hc_82 := c_X2_digit l D cs ra (r_s o_71 5 r_71) 1 6 (show RT o_71 from RT_twoE e_71 (show RT o_60 from RT_digitE e_60 hR))
        obtain ⟨r_82, o_82, e_82⟩ : ∃ r9 o9, (k_X2_digit (r_s o_71 5 r_71) 1 6) = (r9, o9) := ⟨_, _, rfl⟩
        rw [e_82] at hc_82 hres
        dsimp only at hc_82 hres
        refine kI_call (wc := (rl_W cs ra (r_s o_71 5 r_71))) (wr := []) (w1 := rl_W cs ra o_82) (r := r_82) hE hP hD hS (k_rV (rest := [.ref (ra 0)]) (As := [.int 1, .int 6]) hE rfl (hc_82 H.size) (cwV 2 hts gX2_readNumbers_X2_digit rfl rfl rfl (by decide +kernel) ⟨Nat.le_of_ble_eq_true rfl, Nat.le_of_ble_eq_true rfl⟩) hP hD hS (ci := 2) (q0 := 0) rfl rfl rfl hl rfl (Nat.le_of_ble_eq_true rfl) ⟨Nat.le_of_ble_eq_true rfl, Nat.le_of_ble_eq_true rfl⟩ dX2_readNumbers_82) (fun H locs hP hD hS => ?_)
        have hP := k_uP hP
        have hD := k_uD hD
        have hP : va_P D vwCl (rl_W cs ra o_82) H := hP
        have hD : va_D A (rl_W cs ra o_82) := hD
        refine va_put (D := D) (ci := 2) (v := .int r_82) (ty := .int) (C := RX2) (T := TX2) (N := 8) hx hb hts hinX2 tyX2 tyX2_ok nmX2 hown hK hP hD hS 0 rfl rfl 7 (by decide) lk_3 (fun _ h9 => h9) rfl (by decide +kernel) rfl rfl (Nat.le_of_ble_eq_true rfl) dX2_readNumbers_85 (fun H locs hP hD hS => ?_)
        have hP : va_P D vwCl (rl_W cs ra (r_s o_82 6 r_82)) H := hP
        have hD : va_D A (rl_W cs ra (r_s o_82 6 r_82)) := hD
        refine lv_goto (tgt := 182) hx hb dX2_readNumbers_88 (by decide) ?_
        subst hres
        exact kV_ret () hE hS hP hD trivial (Nat.le_of_ble_eq_true rfl) (Nat.le_of_ble_eq_true rfl) dX2_readNumbers_182
      · skip
        rw [if_neg c_4_112] at hres
        by_cases c_4_116 : (r.1 3) = 116
        · skip
          rw [if_pos c_4_116] at hres
          refine lv_lookup (tgt := 139) (off := 135) hx hb dX2_readNumbers_4 (by decide) (by rw [c_4_116]; rfl) (by decide) ?_
          refine lv_aload_n hx hb dX2_readNumbers_139 rfl (lv_at hl 0 rfl) ?_
          refine lv_aload_n hx hb dX2_readNumbers_140 rfl (lv_at hl 0 rfl) ?_
          refine lv_iconst (v := 1) hx hb dX2_readNumbers_141 (by decide) ?_
          refine lv_bipush (v := 99) hx hb dX2_readNumbers_142 (by decide) ?_
          have hP : va_P D vwCl ((rl_W cs ra r) ++ []) H := k_nP hP
          have hD : va_D A ((rl_W cs ra r) ++ []) := k_nD hD
          have hc_144 := c_X2_twoDigits l D cs ra r 1 99 (hR)
          obtain ⟨r_144, o_144, e_144⟩ : ∃ r9 o9, (k_X2_twoDigits r 1 99) = (r9, o9) := ⟨_, _, rfl⟩
          rw [e_144] at hc_144 hres
          dsimp only at hc_144 hres
          refine kI_call (wc := (rl_W cs ra r)) (wr := []) (w1 := rl_W cs ra o_144) (r := r_144) hE hP hD hS (k_rV (rest := [.ref (ra 0)]) (As := [.int 1, .int 99]) hE rfl (hc_144 H.size) (cwV 2 hts gX2_readNumbers_X2_twoDigits rfl rfl rfl (by decide +kernel) ⟨Nat.le_of_ble_eq_true rfl, Nat.le_of_ble_eq_true rfl⟩) hP hD hS (ci := 2) (q0 := 0) rfl rfl rfl hl rfl (Nat.le_of_ble_eq_true rfl) ⟨Nat.le_of_ble_eq_true rfl, Nat.le_of_ble_eq_true rfl⟩ dX2_readNumbers_144) (fun H locs hP hD hS => ?_)
          have hP := k_uP hP
          have hD := k_uD hD
          have hP : va_P D vwCl (rl_W cs ra o_144) H := hP
          have hD : va_D A (rl_W cs ra o_144) := hD
          refine va_put (D := D) (ci := 2) (v := .int r_144) (ty := .int) (C := RX2) (T := TX2) (N := 8) hx hb hts hinX2 tyX2 tyX2_ok nmX2 hown hK hP hD hS 0 rfl rfl 5 (by decide) lk_1 (fun _ h9 => h9) rfl (by decide +kernel) rfl rfl (Nat.le_of_ble_eq_true rfl) dX2_readNumbers_147 (fun H locs hP hD hS => ?_)
          have hP : va_P D vwCl (rl_W cs ra (r_s o_144 4 r_144)) H := hP
          have hD : va_D A (rl_W cs ra (r_s o_144 4 r_144)) := hD
          refine lv_goto (tgt := 182) hx hb dX2_readNumbers_150 (by decide) ?_
          subst hres
          exact kV_ret () hE hS hP hD trivial (Nat.le_of_ble_eq_true rfl) (Nat.le_of_ble_eq_true rfl) dX2_readNumbers_182
        · skip
          rw [if_neg c_4_116] at hres
          by_cases c_4_118 : (r.1 3) = 118
          · skip
            rw [if_pos c_4_118] at hres
            refine lv_lookup (tgt := 115) (off := 111) hx hb dX2_readNumbers_4 (by decide) (by rw [c_4_118]; rfl) (by decide) ?_
            refine lv_aload_n hx hb dX2_readNumbers_115 rfl (lv_at hl 0 rfl) ?_
            refine lv_aload_n hx hb dX2_readNumbers_116 rfl (lv_at hl 0 rfl) ?_
            refine lv_iconst (v := 0) hx hb dX2_readNumbers_117 (by decide) ?_
            refine lv_iconst (v := 2) hx hb dX2_readNumbers_118 (by decide) ?_
            have hP : va_P D vwCl ((rl_W cs ra r) ++ []) H := k_nP hP
            have hD : va_D A ((rl_W cs ra r) ++ []) := k_nD hD
            have hc_119 := c_X2_digit l D cs ra r 0 2 (hR)
            obtain ⟨r_119, o_119, e_119⟩ : ∃ r9 o9, (k_X2_digit r 0 2) = (r9, o9) := ⟨_, _, rfl⟩
            rw [e_119] at hc_119 hres
            dsimp only at hc_119 hres
            refine kI_call (wc := (rl_W cs ra r)) (wr := []) (w1 := rl_W cs ra o_119) (r := r_119) hE hP hD hS (k_rV (rest := [.ref (ra 0)]) (As := [.int 0, .int 2]) hE rfl (hc_119 H.size) (cwV 2 hts gX2_readNumbers_X2_digit rfl rfl rfl (by decide +kernel) ⟨Nat.le_of_ble_eq_true rfl, Nat.le_of_ble_eq_true rfl⟩) hP hD hS (ci := 2) (q0 := 0) rfl rfl rfl hl rfl (Nat.le_of_ble_eq_true rfl) ⟨Nat.le_of_ble_eq_true rfl, Nat.le_of_ble_eq_true rfl⟩ dX2_readNumbers_119) (fun H locs hP hD hS => ?_)
            have hP := k_uP hP
            have hD := k_uD hD
            have hP : va_P D vwCl (rl_W cs ra o_119) H := hP
            have hD : va_D A (rl_W cs ra o_119) := hD
            refine va_put (D := D) (ci := 2) (v := .int r_119) (ty := .int) (C := RX2) (T := TX2) (N := 8) hx hb hts hinX2 tyX2 tyX2_ok nmX2 hown hK hP hD hS 0 rfl rfl 5 (by decide) lk_1 (fun _ h9 => h9) rfl (by decide +kernel) rfl rfl (Nat.le_of_ble_eq_true rfl) dX2_readNumbers_122 (fun H locs hP hD hS => ?_)
            have hP : va_P D vwCl (rl_W cs ra (r_s o_119 4 r_119)) H := hP
            have hD : va_D A (rl_W cs ra (r_s o_119 4 r_119)) := hD
            refine lv_aload_n hx hb dX2_readNumbers_125 rfl (lv_at hl 0 rfl) ?_
            refine lv_aload_n hx hb dX2_readNumbers_126 rfl (lv_at hl 0 rfl) ?_
            refine lv_iconst (v := 0) hx hb dX2_readNumbers_127 (by decide) ?_
            refine lv_bipush (v := 60) hx hb dX2_readNumbers_128 (by decide) ?_
            have hP : va_P D vwCl ((rl_W cs ra (r_s o_119 4 r_119)) ++ []) H := k_nP hP
            have hD : va_D A ((rl_W cs ra (r_s o_119 4 r_119)) ++ []) := k_nD hD
            have hc_130 := c_X2_twoDigits l D cs ra (r_s o_119 4 r_119) 0 60 (show RT o_119 from RT_digitE e_119 hR)
            obtain ⟨r_130, o_130, e_130⟩ : ∃ r9 o9, (k_X2_twoDigits (r_s o_119 4 r_119) 0 60) = (r9, o9) := ⟨_, _, rfl⟩
            rw [e_130] at hc_130 hres
            dsimp only at hc_130 hres
            refine kI_call (wc := (rl_W cs ra (r_s o_119 4 r_119))) (wr := []) (w1 := rl_W cs ra o_130) (r := r_130) hE hP hD hS (k_rV (rest := [.ref (ra 0)]) (As := [.int 0, .int 60]) hE rfl (hc_130 H.size) (cwV 2 hts gX2_readNumbers_X2_twoDigits rfl rfl rfl (by decide +kernel) ⟨Nat.le_of_ble_eq_true rfl, Nat.le_of_ble_eq_true rfl⟩) hP hD hS (ci := 2) (q0 := 0) rfl rfl rfl hl rfl (Nat.le_of_ble_eq_true rfl) ⟨Nat.le_of_ble_eq_true rfl, Nat.le_of_ble_eq_true rfl⟩ dX2_readNumbers_130) (fun H locs hP hD hS => ?_)
            have hP := k_uP hP
            have hD := k_uD hD
            have hP : va_P D vwCl (rl_W cs ra o_130) H := hP
            have hD : va_D A (rl_W cs ra o_130) := hD
            refine va_put (D := D) (ci := 2) (v := .int r_130) (ty := .int) (C := RX2) (T := TX2) (N := 8) hx hb hts hinX2 tyX2 tyX2_ok nmX2 hown hK hP hD hS 0 rfl rfl 6 (by decide) lk_2 (fun _ h9 => h9) rfl (by decide +kernel) rfl rfl (Nat.le_of_ble_eq_true rfl) dX2_readNumbers_133 (fun H locs hP hD hS => ?_)
            have hP : va_P D vwCl (rl_W cs ra (r_s o_130 5 r_130)) H := hP
            have hD : va_D A (rl_W cs ra (r_s o_130 5 r_130)) := hD
            refine lv_goto (tgt := 182) hx hb dX2_readNumbers_136 (by decide) ?_
            subst hres
            exact kV_ret () hE hS hP hD trivial (Nat.le_of_ble_eq_true rfl) (Nat.le_of_ble_eq_true rfl) dX2_readNumbers_182
          · skip
            rw [if_neg c_4_118] at hres
            refine lv_lookup (tgt := 167) (off := 163) hx hb dX2_readNumbers_4 (by decide) ((lv_osw c_4_99 rfl).trans ((lv_osw c_4_108 rfl).trans ((lv_osw c_4_112 rfl).trans ((lv_osw c_4_116 rfl).trans ((lv_osw c_4_118 rfl).trans rfl))))) (by decide) ?_
            refine lv_aload_n hx hb dX2_readNumbers_167 rfl (lv_at hl 0 rfl) ?_
            refine lv_dup hx hb dX2_readNumbers_168 rfl ?_
            refine va_get (D := D) (ci := 2) (v := .int (r.1 1)) (C := RX2) (T := TX2) (N := 8) hx hb hts hinX2 hown hK hP 0 rfl rfl 2 (by decide) lk_4 (fun _ h9 => h9) rfl dX2_readNumbers_169 ?_
            refine lv_iconst (v := 1) hx hb dX2_readNumbers_172 (by decide) ?_
            refine lv_isub hx hb dX2_readNumbers_173 ?_
            refine va_put (D := D) (ci := 2) (v := .int ((r.1 1) - 1)) (ty := .int) (C := RX2) (T := TX2) (N := 8) hx hb hts hinX2 tyX2 tyX2_ok nmX2 hown hK hP hD hS 0 rfl rfl 2 (by decide) lk_4 (fun _ h9 => h9) rfl (by decide +kernel) rfl rfl (Nat.le_of_ble_eq_true rfl) dX2_readNumbers_174 (fun H locs hP hD hS => ?_)
            have hP : va_P D vwCl (rl_W cs ra (r_s r 1 ((r.1 1) - 1))) H := hP
            have hD : va_D A (rl_W cs ra (r_s r 1 ((r.1 1) - 1))) := hD
            refine lv_aload_n hx hb dX2_readNumbers_177 rfl (lv_at hl 0 rfl) ?_
            refine lv_iconst (v := 1) hx hb dX2_readNumbers_178 (by decide) ?_
            refine va_put (D := D) (ci := 2) (v := .int 1) (ty := .boolean) (C := RX2) (T := TX2) (N := 8) hx hb hts hinX2 tyX2 tyX2_ok nmX2 hown hK hP hD hS 0 rfl rfl 3 (by decide) lk_5 (fun _ h9 => h9) rfl (by decide +kernel) rfl rfl (Nat.le_of_ble_eq_true rfl) dX2_readNumbers_179 (fun H locs hP hD hS => ?_)
            have hP : va_P D vwCl (rl_W cs ra (r_s (r_s r 1 ((r.1 1) - 1)) 2 1)) H := hP
            have hD : va_D A (rl_W cs ra (r_s (r_s r 1 ((r.1 1) - 1)) 2 1)) := hD
            subst hres
            exact kV_ret () hE hS hP hD trivial (Nat.le_of_ble_eq_true rfl) (Nat.le_of_ble_eq_true rfl) dX2_readNumbers_182
set_option maxHeartbeats 4000000 in
set_option maxRecDepth 100000 in
theorem c_X2_readCommand (l : Launch) (D : va_G) (cs : Nat → ClassId) (ra : Nat → Nat) (r : RV) (hR : RT r) : kI l yX2_readCommand wsX2_readCommand { frames := 4, cells := 0, slots := 0, locals := 88 } 0 0 D cs [.ref (ra 0)] (rl_W cs ra r) (k_X2_readCommand r).1 (rl_W cs ra ((k_X2_readCommand r).2)) := by
  generalize hres : k_X2_readCommand r = res
  refine kI_of (cc := cX2_readCommand) (maxL := 1) (ret := (some .boolean)) (by decide) rfl (Nat.le_of_ble_eq_true rfl) ?_
  intro p e s m below meth c A ls H locs hE hS hP hD hl
  obtain ⟨hx, hb, hr, hlocks, hml, hown, hts, hK, hA, hG, hnm⟩ := id hE
  have hown : s.vm.findClass RX2 = some m.cls := hown
  have hl : lv_has ls 1 [(0, .ref (ra 0))] := hl
  have hinX2 : ∀ w ∈ wsX20, w ∈ wsX2_readCommand := by decide +kernel
  have lk_0 := hts (.fieldLink RX2 26 "OrganPegs$Roll" "wrong" "Z") (by decide +kernel)
  have lk_1 := hts (.fieldLink RX2 30 "OrganPegs$Roll" "position" "I") (by decide +kernel)
  have lk_2 := hts (.fieldLink RX2 15 "OrganPegs$Roll" "length" "I") (by decide +kernel)
  have lk_3 := hts (.fieldLink RX2 37 "OrganPegs$Roll" "letter" "C") (by decide +kernel)
  unfold k_X2_readCommand at hres
  refine lv_aload_n hx hb dX2_readCommand_0 rfl (lv_at hl 0 rfl) ?_
  refine va_get (D := D) (ci := 2) (v := .int (r.1 2)) (C := RX2) (T := TX2) (N := 8) hx hb hts hinX2 hown hK hP 0 rfl rfl 3 (by decide) lk_0 (fun _ h9 => h9) rfl dX2_readCommand_1 ?_
  refine lv_if_ne (tgt := 18) hx hb dX2_readCommand_4 (by decide) (fun c_4 => ?_) (fun c_4 => ?_)
  · skip
    have c_4 : ¬ ((r.1 2) = 0) := c_4
    rw [if_neg c_4] at hres
    refine lv_iconst (v := 0) hx hb dX2_readCommand_18 (by decide) ?_
    subst hres
    exact kI_ret hE hS hP hD rfl rfl (Nat.le_of_ble_eq_true rfl) (Nat.le_of_ble_eq_true rfl) dX2_readCommand_19
  · skip
    have c_4 : ((r.1 2) = 0) := c_4
    rw [if_pos c_4] at hres
    refine lv_aload_n hx hb dX2_readCommand_7 rfl (lv_at hl 0 rfl) ?_
    refine va_get (D := D) (ci := 2) (v := .int (r.1 1)) (C := RX2) (T := TX2) (N := 8) hx hb hts hinX2 hown hK hP 0 rfl rfl 2 (by decide) lk_1 (fun _ h9 => h9) rfl dX2_readCommand_8 ?_
    refine lv_aload_n hx hb dX2_readCommand_11 rfl (lv_at hl 0 rfl) ?_
    refine va_get (D := D) (ci := 2) (v := .int (r.1 0)) (C := RX2) (T := TX2) (N := 8) hx hb hts hinX2 hown hK hP 0 rfl rfl 1 (by decide) lk_2 (fun _ h9 => h9) rfl dX2_readCommand_12 ?_
    refine lv_icmp_lt (tgt := 20) hx hb dX2_readCommand_15 (by decide) (fun c_15 => ?_) (fun c_15 => ?_)
    · skip
      have c_15 : ((r.1 1) < (r.1 0)) := c_15
      rw [if_pos c_15] at hres
      refine lv_aload_n hx hb dX2_readCommand_20 rfl (lv_at hl 0 rfl) ?_
      refine lv_aload_n hx hb dX2_readCommand_21 rfl (lv_at hl 0 rfl) ?_
      have hP : va_P D vwCl ((rl_W cs ra r) ++ []) H := k_nP hP
      have hD : va_D A ((rl_W cs ra r) ++ []) := k_nD hD
      have hc_22 := c_X2_here l D cs ra r  hR
      refine kI_call (wc := (rl_W cs ra r)) (wr := []) (w1 := rl_W cs ra r) (r := (k_X2_here r)) hE hP hD hS (k_rV (rest := [.ref (ra 0)]) (As := []) hE rfl (hc_22 H.size) (cwV 0 hts gX2_readCommand_X2_here rfl rfl rfl (by decide +kernel) ⟨Nat.le_of_ble_eq_true rfl, Nat.le_of_ble_eq_true rfl⟩) hP hD hS (ci := 2) (q0 := 0) rfl rfl rfl hl rfl (Nat.le_of_ble_eq_true rfl) ⟨Nat.le_of_ble_eq_true rfl, Nat.le_of_ble_eq_true rfl⟩ dX2_readCommand_22) (fun H locs hP hD hS => ?_)
      have hP := k_uP hP
      have hD := k_uD hD
      have hP : va_P D vwCl (rl_W cs ra r) H := hP
      have hD : va_D A (rl_W cs ra r) := hD
      refine va_put (D := D) (ci := 2) (v := .int (k_X2_here r)) (ty := .char) (C := RX2) (T := TX2) (N := 8) hx hb hts hinX2 tyX2 tyX2_ok nmX2 hown hK hP hD hS 0 rfl rfl 4 (by decide) lk_3 (fun _ h9 => h9) rfl (by decide +kernel) (nar_c (here_b hR)) (fit_c (here_b hR)) (Nat.le_of_ble_eq_true rfl) dX2_readCommand_25 (fun H locs hP hD hS => ?_)
      have hP : va_P D vwCl (rl_W cs ra (r_s r 3 (k_X2_here r))) H := hP
      have hD : va_D A (rl_W cs ra (r_s r 3 (k_X2_here r))) := hD
      refine lv_aload_n hx hb dX2_readCommand_28 rfl (lv_at hl 0 rfl) ?_
      refine lv_dup hx hb dX2_readCommand_29 rfl ?_
      refine va_get (D := D) (ci := 2) (v := .int (r.1 1)) (C := RX2) (T := TX2) (N := 8) hx hb hts hinX2 hown hK hP 0 rfl rfl 2 (by decide) lk_1 (fun _ h9 => h9) rfl dX2_readCommand_30 ?_
      refine lv_iconst (v := 1) hx hb dX2_readCommand_33 (by decide) ?_
      refine lv_iadd hx hb dX2_readCommand_34 ?_
      refine va_put (D := D) (ci := 2) (v := .int ((r.1 1) + 1)) (ty := .int) (C := RX2) (T := TX2) (N := 8) hx hb hts hinX2 tyX2 tyX2_ok nmX2 hown hK hP hD hS 0 rfl rfl 2 (by decide) lk_1 (fun _ h9 => h9) rfl (by decide +kernel) rfl rfl (Nat.le_of_ble_eq_true rfl) dX2_readCommand_35 (fun H locs hP hD hS => ?_)
      have hP : va_P D vwCl (rl_W cs ra (r_s (r_s r 1 ((r.1 1) + 1)) 3 (k_X2_here r))) H := hP
      have hD : va_D A (rl_W cs ra (r_s (r_s r 1 ((r.1 1) + 1)) 3 (k_X2_here r))) := hD
      refine lv_aload_n hx hb dX2_readCommand_38 rfl (lv_at hl 0 rfl) ?_
      have hP : va_P D vwCl ((rl_W cs ra (r_s (r_s r 1 ((r.1 1) + 1)) 3 (k_X2_here r))) ++ []) H := k_nP hP
      have hD : va_D A ((rl_W cs ra (r_s (r_s r 1 ((r.1 1) + 1)) 3 (k_X2_here r))) ++ []) := k_nD hD
      have hc_39 := c_X2_readNumbers l D cs ra (r_s (r_s r 1 ((r.1 1) + 1)) 3 (k_X2_here r))  hR
      refine kV_call (wc := (rl_W cs ra (r_s (r_s r 1 ((r.1 1) + 1)) 3 (k_X2_here r)))) (wr := []) (w1 := fun _ => rl_W cs ra (k_X2_readNumbers (r_s (r_s r 1 ((r.1 1) + 1)) 3 (k_X2_here r)))) hE hP hD hS (k_rV (rest := []) (As := []) hE rfl (hc_39 H.size) (cwV 0 hts gX2_readCommand_X2_readNumbers rfl rfl rfl (by decide +kernel) ⟨Nat.le_of_ble_eq_true rfl, Nat.le_of_ble_eq_true rfl⟩) hP hD hS (ci := 2) (q0 := 0) rfl rfl rfl hl rfl (Nat.le_of_ble_eq_true rfl) ⟨Nat.le_of_ble_eq_true rfl, Nat.le_of_ble_eq_true rfl⟩ dX2_readCommand_39) (fun _ H locs _ hP hD hS => ?_)
      have hP := k_uP hP
      have hD := k_uD hD
      have hP : va_P D vwCl (rl_W cs ra (k_X2_readNumbers (r_s (r_s r 1 ((r.1 1) + 1)) 3 (k_X2_here r)))) H := hP
      have hD : va_D A (rl_W cs ra (k_X2_readNumbers (r_s (r_s r 1 ((r.1 1) + 1)) 3 (k_X2_here r)))) := hD
      refine lv_aload_n hx hb dX2_readCommand_42 rfl (lv_at hl 0 rfl) ?_
      refine va_get (D := D) (ci := 2) (v := .int ((k_X2_readNumbers (r_s (r_s r 1 ((r.1 1) + 1)) 3 (k_X2_here r))).1 2)) (C := RX2) (T := TX2) (N := 8) hx hb hts hinX2 hown hK hP 0 rfl rfl 3 (by decide) lk_0 (fun _ h9 => h9) rfl dX2_readCommand_43 ?_
      refine lv_if_ne (tgt := 53) hx hb dX2_readCommand_46 (by decide) (fun c_46 => ?_) (fun c_46 => ?_)
      · skip
        have c_46 : ¬ (((k_X2_readNumbers (r_s (r_s r 1 ((r.1 1) + 1)) 3 (k_X2_here r))).1 2) = 0) := c_46
        rw [if_neg c_46] at hres
        refine lv_iconst (v := 0) hx hb dX2_readCommand_53 (by decide) ?_
        subst hres
        exact kI_ret hE hS hP hD rfl rfl (Nat.le_of_ble_eq_true rfl) (Nat.le_of_ble_eq_true rfl) dX2_readCommand_54
      · skip
        have c_46 : (((k_X2_readNumbers (r_s (r_s r 1 ((r.1 1) + 1)) 3 (k_X2_here r))).1 2) = 0) := c_46
        rw [if_pos c_46] at hres
        refine lv_iconst (v := 1) hx hb dX2_readCommand_49 (by decide) ?_
        refine lv_goto (tgt := 54) hx hb dX2_readCommand_50 (by decide) ?_
        subst hres
        exact kI_ret hE hS hP hD rfl rfl (Nat.le_of_ble_eq_true rfl) (Nat.le_of_ble_eq_true rfl) dX2_readCommand_54
    · skip
      have c_15 : ¬ ((r.1 1) < (r.1 0)) := c_15
      rw [if_neg c_15] at hres
      refine lv_iconst (v := 0) hx hb dX2_readCommand_18 (by decide) ?_
      subst hres
      exact kI_ret hE hS hP hD rfl rfl (Nat.le_of_ble_eq_true rfl) (Nat.le_of_ble_eq_true rfl) dX2_readCommand_19
set_option maxHeartbeats 4000000 in
set_option maxRecDepth 100000 in
theorem c_X2_firstWrong (l : Launch) (D : va_G) (cs : Nat → ClassId) (ra : Nat → Nat) (r : RV) (hR : RT r) : kI l yX2_firstWrong wsX2_firstWrong { frames := 5, cells := 0, slots := 0, locals := 108 } 0 0 D cs [.ref (ra 0)] (rl_W cs ra r) (k_X2_firstWrong r).1 (rl_W cs ra ((k_X2_firstWrong r).2)) := by
  generalize hres : k_X2_firstWrong r = res
  refine kI_of (cc := cX2_firstWrong) (maxL := 2) (ret := (some .int)) (by decide) rfl (Nat.le_of_ble_eq_true rfl) ?_
  intro p e s m below meth c A ls H locs hE hS hP hD hl
  obtain ⟨hx, hb, hr, hlocks, hml, hown, hts, hK, hA, hG, hnm⟩ := id hE
  have hown : s.vm.findClass RX2 = some m.cls := hown
  have hl : lv_has ls 2 [(0, .ref (ra 0))] := hl
  have hinX2 : ∀ w ∈ wsX20, w ∈ wsX2_firstWrong := by decide +kernel
  have lk_0 := hts (.fieldLink RX2 26 "OrganPegs$Roll" "wrong" "Z") (by decide +kernel)
  have lk_1 := hts (.fieldLink RX2 30 "OrganPegs$Roll" "position" "I") (by decide +kernel)
  have L6 : ∀ (n : Nat) (k : Int32) (rr : RV) (j : Nat) (hi : k = nI j) (hj : j + n = 121) (hj2 : j ≤ 120) (hR : RT rr) (H : Heap) (locs : List Loc) (ls : Array Slot), va_S A s.heap H locs → va_P D vwCl (rl_W cs ra rr) H → va_D A (rl_W cs ra rr) → lv_has ls 2 [(0, .ref (ra 0)), (1, .int k)] → k_X2_firstWrong_L6 r n k rr = res → W p l e { frames := 5, cells := 0, slots := 0, locals := 108 } s m ([.ref (ra 0)]).toArray below meth c H locs 0 0 (MQ below (va_Qi (fun (r' : Int32) (_ : Unit) => r' = res.1) (kB D (fun _ => rl_W cs ra res.2) A) A) ([.ref (ra 0)]).toArray s 0 0 A) (F0 m 6 ls []) := by
    intro n
    induction n with
    | zero =>
      intro k rr j hi hj hj2 hR H locs ls hS hP hD hl hres
      exact absurd hj2 (by omega)
    | succ n ih =>
      intro k rr j hi hj hj2 hR H locs ls hS hP hD hl hres
      unfold k_X2_firstWrong_L6 at hres
      refine lv_iload_n hx hb dX2_firstWrong_6 rfl (lv_at hl 1 rfl) ?_
      refine lv_bipush (v := 120) hx hb dX2_firstWrong_7 (by decide) ?_
      refine lv_icmp_ge (tgt := 25) hx hb dX2_firstWrong_9 (by decide) (fun c_9 => ?_) (fun c_9 => ?_)
      · skip
        have c_9 : (120 ≤ k) := c_9
        rw [if_pos c_9] at hres
        refine lv_aload_n hx hb dX2_firstWrong_25 rfl (lv_at hl 0 rfl) ?_
        refine va_get (D := D) (ci := 2) (v := .int (rr.1 2)) (C := RX2) (T := TX2) (N := 8) hx hb hts hinX2 hown hK hP 0 rfl rfl 3 (by decide) lk_0 (fun _ h9 => h9) rfl dX2_firstWrong_26 ?_
        refine lv_if_eq (tgt := 39) hx hb dX2_firstWrong_29 (by decide) (fun c_29 => ?_) (fun c_29 => ?_)
        · skip
          have c_29 : ((rr.1 2) = 0) := c_29
          rw [if_pos c_29] at hres
          refine lv_iconst (v := (-1)) hx hb dX2_firstWrong_39 (by decide) ?_
          subst hres
          exact kI_ret hE hS hP hD rfl rfl (Nat.le_of_ble_eq_true rfl) (Nat.le_of_ble_eq_true rfl) dX2_firstWrong_40
        · skip
          have c_29 : ¬ ((rr.1 2) = 0) := c_29
          rw [if_neg c_29] at hres
          refine lv_aload_n hx hb dX2_firstWrong_32 rfl (lv_at hl 0 rfl) ?_
          refine va_get (D := D) (ci := 2) (v := .int (rr.1 1)) (C := RX2) (T := TX2) (N := 8) hx hb hts hinX2 hown hK hP 0 rfl rfl 2 (by decide) lk_1 (fun _ h9 => h9) rfl dX2_firstWrong_33 ?_
          refine lv_goto (tgt := 40) hx hb dX2_firstWrong_36 (by decide) ?_
          subst hres
          exact kI_ret hE hS hP hD rfl rfl (Nat.le_of_ble_eq_true rfl) (Nat.le_of_ble_eq_true rfl) dX2_firstWrong_40
      · skip
        have c_9 : ¬ (120 ≤ k) := c_9
        rw [if_neg c_9] at hres
        refine lv_aload_n hx hb dX2_firstWrong_12 rfl (lv_at hl 0 rfl) ?_
        have hP : va_P D vwCl ((rl_W cs ra rr) ++ []) H := k_nP hP
        have hD : va_D A ((rl_W cs ra rr) ++ []) := k_nD hD
        have hc_13 := c_X2_readCommand l D cs ra rr  hR
        obtain ⟨r_13, o_13, e_13⟩ : ∃ r9 o9, (k_X2_readCommand rr) = (r9, o9) := ⟨_, _, rfl⟩
        rw [e_13] at hc_13 hres
        dsimp only at hc_13 hres
        refine kI_call (wc := (rl_W cs ra rr)) (wr := []) (w1 := rl_W cs ra o_13) (r := r_13) hE hP hD hS (k_rV (rest := []) (As := []) hE rfl (hc_13 H.size) (cwV 0 hts gX2_firstWrong_X2_readCommand rfl rfl rfl (by decide +kernel) ⟨Nat.le_of_ble_eq_true rfl, Nat.le_of_ble_eq_true rfl⟩) hP hD hS (ci := 2) (q0 := 0) rfl rfl rfl hl rfl (Nat.le_of_ble_eq_true rfl) ⟨Nat.le_of_ble_eq_true rfl, Nat.le_of_ble_eq_true rfl⟩ dX2_firstWrong_13) (fun H locs hP hD hS => ?_)
        have hP := k_uP hP
        have hD := k_uD hD
        have hP : va_P D vwCl (rl_W cs ra o_13) H := hP
        have hD : va_D A (rl_W cs ra o_13) := hD
        refine lv_if_eq (tgt := 25) hx hb dX2_firstWrong_16 (by decide) (fun c_16 => ?_) (fun c_16 => ?_)
        · skip
          have c_16 : (r_13 = 0) := c_16
          rw [if_pos c_16] at hres
          refine lv_aload_n hx hb dX2_firstWrong_25 rfl (lv_at hl 0 rfl) ?_
          refine va_get (D := D) (ci := 2) (v := .int (o_13.1 2)) (C := RX2) (T := TX2) (N := 8) hx hb hts hinX2 hown hK hP 0 rfl rfl 3 (by decide) lk_0 (fun _ h9 => h9) rfl dX2_firstWrong_26 ?_
          refine lv_if_eq (tgt := 39) hx hb dX2_firstWrong_29 (by decide) (fun c_29 => ?_) (fun c_29 => ?_)
          · skip
            have c_29 : ((o_13.1 2) = 0) := c_29
            rw [if_pos c_29] at hres
            refine lv_iconst (v := (-1)) hx hb dX2_firstWrong_39 (by decide) ?_
            subst hres
            exact kI_ret hE hS hP hD rfl rfl (Nat.le_of_ble_eq_true rfl) (Nat.le_of_ble_eq_true rfl) dX2_firstWrong_40
          · skip
            have c_29 : ¬ ((o_13.1 2) = 0) := c_29
            rw [if_neg c_29] at hres
            refine lv_aload_n hx hb dX2_firstWrong_32 rfl (lv_at hl 0 rfl) ?_
            refine va_get (D := D) (ci := 2) (v := .int (o_13.1 1)) (C := RX2) (T := TX2) (N := 8) hx hb hts hinX2 hown hK hP 0 rfl rfl 2 (by decide) lk_1 (fun _ h9 => h9) rfl dX2_firstWrong_33 ?_
            refine lv_goto (tgt := 40) hx hb dX2_firstWrong_36 (by decide) ?_
            subst hres
            exact kI_ret hE hS hP hD rfl rfl (Nat.le_of_ble_eq_true rfl) (Nat.le_of_ble_eq_true rfl) dX2_firstWrong_40
        · skip
          have c_16 : ¬ (r_13 = 0) := c_16
          rw [if_neg c_16] at hres
          refine lv_iinc (v := (k + 1)) (lv' := [(1, .int (k + 1)), (0, .ref (ra 0))]) hx hb dX2_firstWrong_19 hl (k := 1) rfl (by rfl) (by decide) rfl (fun ls hl => ?_)
          refine lv_goto (tgt := 6) hx hb dX2_firstWrong_22 (by decide) ?_
          exact ih (k + 1) o_13 (j + 1) (by rw [hi, nI_1]) (by omega) (nI_lts hi (by omega) (by decide) c_9) (RT_cmdE e_13 hR) _ _ _ hS hP hD (lv_sub hl [1, 0] rfl) hres
  unfold k_X2_firstWrong at hres
  refine lv_aload_n hx hb dX2_firstWrong_0 rfl (lv_at hl 0 rfl) ?_
  have hP : va_P D vwCl ((rl_W cs ra r) ++ []) H := k_nP hP
  have hD : va_D A ((rl_W cs ra r) ++ []) := k_nD hD
  have hc_1 := c_X2_rewind l D cs ra r  hR
  refine kV_call (wc := (rl_W cs ra r)) (wr := []) (w1 := fun _ => rl_W cs ra (k_X2_rewind r)) hE hP hD hS (k_rV (rest := []) (As := []) hE rfl (hc_1 H.size) (cwV 0 hts gX2_firstWrong_X2_rewind rfl rfl rfl (by decide +kernel) ⟨Nat.le_of_ble_eq_true rfl, Nat.le_of_ble_eq_true rfl⟩) hP hD hS (ci := 2) (q0 := 0) rfl rfl rfl hl rfl (Nat.le_of_ble_eq_true rfl) ⟨Nat.le_of_ble_eq_true rfl, Nat.le_of_ble_eq_true rfl⟩ dX2_firstWrong_1) (fun _ H locs _ hP hD hS => ?_)
  have hP := k_uP hP
  have hD := k_uD hD
  have hP : va_P D vwCl (rl_W cs ra (k_X2_rewind r)) H := hP
  have hD : va_D A (rl_W cs ra (k_X2_rewind r)) := hD
  refine lv_iconst (v := 0) hx hb dX2_firstWrong_4 (by decide) ?_
  refine lv_istore_n (lv' := [(1, .int 0), (0, .ref (ra 0))]) hx hb dX2_firstWrong_5 rfl hl (by decide) rfl (fun ls hl => ?_)
  exact L6 121 0 (k_X2_rewind r) 0 (nI_0.symm) (rfl) (Nat.zero_le _) (RT_rew hR) _ _ _ hS hP hD (lv_sub hl [1, 0] rfl) hres
