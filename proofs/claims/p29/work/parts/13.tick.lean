set_option maxHeartbeats 4000000 in
set_option maxRecDepth 100000 in
theorem c_X1_turnCrank (l : Launch) (D : va_G) (cs : Nat → ClassId) (ad : Nat → Nat) (o : OV)  : kV l yX1_turnCrank wsX1_turnCrank { frames := 0, cells := 0, slots := 0, locals := 0 } 0 0 D cs [.ref (ad 0)] (og_W cs ad o) (fun (_ : Unit) => True) (fun _ => og_W cs ad (k_X1_turnCrank o)) := by
  generalize hres : k_X1_turnCrank o = res
  refine kV_of (cc := cX1_turnCrank) (maxL := 1) (ret := none) (by decide) rfl (Nat.le_of_ble_eq_true rfl) ?_
  intro p e s m below meth c A ls H locs hE hS hP hD hl
  obtain ⟨hx, hb, hr, hlocks, hml, hown, hts, hK, hA, hG, hnm⟩ := id hE
  have hown : s.vm.findClass RX1 = some m.cls := hown
  have hl : lv_has ls 1 [(0, .ref (ad 0))] := hl
  have hinX1 : ∀ w ∈ wsX10, w ∈ wsX1_turnCrank := by decide +kernel
  have lk_0 := hts (.fieldLink RX1 51 "OrganPegs$Organ" "comb" "I") (by decide +kernel)
  have lk_1 := hts (.fieldLink RX1 33 "OrganPegs$Organ" "settings" "[I") (by decide +kernel)
  have lk_2 := hts (.fieldLink RX1 54 "OrganPegs$Organ" "turns" "I") (by decide +kernel)
  unfold k_X1_turnCrank at hres
  refine lv_aload_n hx hb dX1_turnCrank_0 rfl (lv_at hl 0 rfl) ?_
  refine lv_dup hx hb dX1_turnCrank_1 rfl ?_
  refine va_get (D := D) (ci := 1) (v := .int (o.1 1)) (C := RX1) (T := TX1) (N := 17) hx hb hts hinX1 hown hK hP 0 rfl rfl 7 (by decide) lk_0 (fun _ h9 => h9) rfl dX1_turnCrank_2 ?_
  refine lv_aload_n hx hb dX1_turnCrank_5 rfl (lv_at hl 0 rfl) ?_
  refine va_get (D := D) (ci := 1) (v := .ref (ad 8)) (C := RX1) (T := TX1) (N := 17) hx hb hts hinX1 hown hK hP 0 rfl rfl 5 (by decide) lk_1 (fun _ h9 => h9) rfl dX1_turnCrank_6 ?_
  refine lv_iconst (v := 0) hx hb dX1_turnCrank_9 (by decide) ?_
  refine k_iald hx hb hK hP 8 0 (v := ((o.2.2 5) 0)) rfl rfl (k_inl rfl) rfl dX1_turnCrank_10 ?_
  refine lv_iadd hx hb dX1_turnCrank_11 ?_
  refine va_put (D := D) (ci := 1) (v := .int ((o.1 1) + ((o.2.2 5) 0))) (ty := .int) (C := RX1) (T := TX1) (N := 17) hx hb hts hinX1 tyX1 tyX1_ok nmX1 hown hK hP hD hS 0 rfl rfl 7 (by decide) lk_0 (fun _ h9 => h9) rfl (by decide +kernel) rfl rfl (Nat.le_of_ble_eq_true rfl) dX1_turnCrank_12 (fun H locs hP hD hS => ?_)
  have hP : va_P D vwCl (og_W cs ad (o_s o 1 ((o.1 1) + ((o.2.2 5) 0)))) H := hP
  have hD : va_D A (og_W cs ad (o_s o 1 ((o.1 1) + ((o.2.2 5) 0)))) := hD
  refine lv_aload_n hx hb dX1_turnCrank_15 rfl (lv_at hl 0 rfl) ?_
  refine va_get (D := D) (ci := 1) (v := .int ((o.1 1) + ((o.2.2 5) 0))) (C := RX1) (T := TX1) (N := 17) hx hb hts hinX1 hown hK hP 0 rfl rfl 7 (by decide) lk_0 (fun _ h9 => h9) rfl dX1_turnCrank_16 ?_
  refine lv_bipush (v := 24) hx hb dX1_turnCrank_19 (by decide) ?_
  refine lv_icmp_lt (tgt := 45) hx hb dX1_turnCrank_21 (by decide) (fun c_21 => ?_) (fun c_21 => ?_)
  · skip
    have c_21 : (((o.1 1) + ((o.2.2 5) 0)) < 24) := c_21
    rw [if_pos c_21] at hres
    subst hres
    exact kV_ret () hE hS hP hD trivial (Nat.le_of_ble_eq_true rfl) (Nat.le_of_ble_eq_true rfl) dX1_turnCrank_45
  · skip
    have c_21 : ¬ (((o.1 1) + ((o.2.2 5) 0)) < 24) := c_21
    rw [if_neg c_21] at hres
    refine lv_aload_n hx hb dX1_turnCrank_24 rfl (lv_at hl 0 rfl) ?_
    refine lv_dup hx hb dX1_turnCrank_25 rfl ?_
    refine va_get (D := D) (ci := 1) (v := .int ((o.1 1) + ((o.2.2 5) 0))) (C := RX1) (T := TX1) (N := 17) hx hb hts hinX1 hown hK hP 0 rfl rfl 7 (by decide) lk_0 (fun _ h9 => h9) rfl dX1_turnCrank_26 ?_
    refine lv_bipush (v := 24) hx hb dX1_turnCrank_29 (by decide) ?_
    refine lv_isub hx hb dX1_turnCrank_31 ?_
    refine va_put (D := D) (ci := 1) (v := .int (((o.1 1) + ((o.2.2 5) 0)) - 24)) (ty := .int) (C := RX1) (T := TX1) (N := 17) hx hb hts hinX1 tyX1 tyX1_ok nmX1 hown hK hP hD hS 0 rfl rfl 7 (by decide) lk_0 (fun _ h9 => h9) rfl (by decide +kernel) rfl rfl (Nat.le_of_ble_eq_true rfl) dX1_turnCrank_32 (fun H locs hP hD hS => ?_)
    have hP : va_P D vwCl (og_W cs ad (o_s o 1 (((o.1 1) + ((o.2.2 5) 0)) - 24))) H := hP
    have hD : va_D A (og_W cs ad (o_s o 1 (((o.1 1) + ((o.2.2 5) 0)) - 24))) := hD
    refine lv_aload_n hx hb dX1_turnCrank_35 rfl (lv_at hl 0 rfl) ?_
    refine lv_dup hx hb dX1_turnCrank_36 rfl ?_
    refine va_get (D := D) (ci := 1) (v := .int (o.1 2)) (C := RX1) (T := TX1) (N := 17) hx hb hts hinX1 hown hK hP 0 rfl rfl 8 (by decide) lk_2 (fun _ h9 => h9) rfl dX1_turnCrank_37 ?_
    refine lv_iconst (v := 1) hx hb dX1_turnCrank_40 (by decide) ?_
    refine lv_iadd hx hb dX1_turnCrank_41 ?_
    refine va_put (D := D) (ci := 1) (v := .int ((o.1 2) + 1)) (ty := .int) (C := RX1) (T := TX1) (N := 17) hx hb hts hinX1 tyX1 tyX1_ok nmX1 hown hK hP hD hS 0 rfl rfl 8 (by decide) lk_2 (fun _ h9 => h9) rfl (by decide +kernel) rfl rfl (Nat.le_of_ble_eq_true rfl) dX1_turnCrank_42 (fun H locs hP hD hS => ?_)
    have hP : va_P D vwCl (og_W cs ad (o_s (o_s o 1 (((o.1 1) + ((o.2.2 5) 0)) - 24)) 2 ((o.1 2) + 1))) H := hP
    have hD : va_D A (og_W cs ad (o_s (o_s o 1 (((o.1 1) + ((o.2.2 5) 0)) - 24)) 2 ((o.1 2) + 1))) := hD
    subst hres
    exact kV_ret () hE hS hP hD trivial (Nat.le_of_ble_eq_true rfl) (Nat.le_of_ble_eq_true rfl) dX1_turnCrank_45
set_option maxHeartbeats 4000000 in
set_option maxRecDepth 100000 in
theorem c_X1_placePeg (l : Launch) (D : va_G) (cs : Nat → ClassId) (ad : Nat → Nat) (o : OV) (vk : Int32) : kI l yX1_placePeg wsX1_placePeg { frames := 2, cells := 0, slots := 0, locals := 45 } 0 0 D cs [.ref (ad 0), .int vk] (og_W cs ad o) (k_X1_placePeg o vk).1 (og_W cs ad ((k_X1_placePeg o vk).2)) := by
  generalize hres : k_X1_placePeg o vk = res
  refine kI_of (cc := cX1_placePeg) (maxL := 7) (ret := (some .boolean)) (by decide) rfl (Nat.le_of_ble_eq_true rfl) ?_
  intro p e s m below meth c A ls H locs hE hS hP hD hl
  obtain ⟨hx, hb, hr, hlocks, hml, hown, hts, hK, hA, hG, hnm⟩ := id hE
  have hown : s.vm.findClass RX1 = some m.cls := hown
  have hl : lv_has ls 7 [(0, .ref (ad 0)), (1, .int vk)] := hl
  have hinX1 : ∀ w ∈ wsX10, w ∈ wsX1_placePeg := by decide +kernel
  have lk_0 := hts (.fieldLink RX1 20 "OrganPegs$Organ" "orders" "LOrganPegs$Table;") (by decide +kernel)
  have lk_1 := hts (.initialized RX5) (by decide +kernel)
  have lk_2 := hts (.static yX5_span) (by decide +kernel)
  have lk_3 := hts (.static yX5_isPipe) (by decide +kernel)
  have lk_4 := hts (.fieldLink RX1 16 "OrganPegs$Organ" "pegs" "LOrganPegs$Table;") (by decide +kernel)
  have lk_5 := hts (.fieldLink RX1 23 "OrganPegs$Organ" "covers" "[I") (by decide +kernel)
  have lk_6 := hts (.fieldLink RX1 57 "OrganPegs$Organ" "version" "I") (by decide +kernel)
  unfold k_X1_placePeg at hres
  refine lv_aload_n hx hb dX1_placePeg_0 rfl (lv_at hl 0 rfl) ?_
  refine va_get (D := D) (ci := 1) (v := .ref (ad 2)) (C := RX1) (T := TX1) (N := 17) hx hb hts hinX1 hown hK hP 0 rfl rfl 1 (by decide) lk_0 (fun _ h9 => h9) rfl dX1_placePeg_1 ?_
  refine lv_iload_n hx hb dX1_placePeg_4 rfl (lv_at hl 1 rfl) ?_
  refine lv_iconst (v := 1) hx hb dX1_placePeg_5 (by decide) ?_
  have hP : va_P D vwCl ((tb_W cs (ad 2) (ad 4) 5 12 60 (g_ot o)) ++ (og_rO cs ad o)) H := og_cOP hP
  have hD : va_D A ((tb_W cs (ad 2) (ad 4) 5 12 60 (g_ot o)) ++ (og_rO cs ad o)) := og_cOD hD
  have hc_6 := c_X4_at l D cs (ad 2) (ad 4) 5 12 60 (g_ot o) vk 1 (Or.inr ⟨rfl, rfl, rfl⟩)
  refine kI_call (wc := (tb_W cs (ad 2) (ad 4) 5 12 60 (g_ot o))) (wr := (og_rO cs ad o)) (w1 := tb_W cs (ad 2) (ad 4) 5 12 60 (g_ot o)) (r := (k_X4_at 5 12 (g_ot o) vk 1)) hE hP hD hS (k_rV (rest := []) (As := [.int vk, .int 1]) hE rfl (hc_6 H.size) (cwV 2 hts gX1_placePeg_X4_at rfl rfl rfl (by decide +kernel) ⟨Nat.le_of_ble_eq_true rfl, Nat.le_of_ble_eq_true rfl⟩) hP hD hS (ci := 4) (q0 := 0) rfl rfl rfl hl rfl (Nat.le_of_ble_eq_true rfl) ⟨Nat.le_of_ble_eq_true rfl, Nat.le_of_ble_eq_true rfl⟩ dX1_placePeg_6) (fun H locs hP hD hS => ?_)
  have hP := og_bOP hP
  have hD := og_bOD hD
  have hP : va_P D vwCl (og_W cs ad o) H := hP
  have hD : va_D A (og_W cs ad o) := hD
  refine lv_istore_n (lv' := [(2, .int (k_X4_at 5 12 (g_ot o) vk 1)), (0, .ref (ad 0)), (1, .int vk)]) hx hb dX1_placePeg_9 rfl hl (by decide) rfl (fun ls hl => ?_)
  refine lv_aload_n hx hb dX1_placePeg_10 rfl (lv_at hl 1 rfl) ?_
  refine va_get (D := D) (ci := 1) (v := .ref (ad 2)) (C := RX1) (T := TX1) (N := 17) hx hb hts hinX1 hown hK hP 0 rfl rfl 1 (by decide) lk_0 (fun _ h9 => h9) rfl dX1_placePeg_11 ?_
  refine lv_iload_n hx hb dX1_placePeg_14 rfl (lv_at hl 2 rfl) ?_
  refine lv_iconst (v := 2) hx hb dX1_placePeg_15 (by decide) ?_
  have hP : va_P D vwCl ((tb_W cs (ad 2) (ad 4) 5 12 60 (g_ot o)) ++ (og_rO cs ad o)) H := og_cOP hP
  have hD : va_D A ((tb_W cs (ad 2) (ad 4) 5 12 60 (g_ot o)) ++ (og_rO cs ad o)) := og_cOD hD
  have hc_16 := c_X4_at l D cs (ad 2) (ad 4) 5 12 60 (g_ot o) vk 2 (Or.inr ⟨rfl, rfl, rfl⟩)
  refine kI_call (wc := (tb_W cs (ad 2) (ad 4) 5 12 60 (g_ot o))) (wr := (og_rO cs ad o)) (w1 := tb_W cs (ad 2) (ad 4) 5 12 60 (g_ot o)) (r := (k_X4_at 5 12 (g_ot o) vk 2)) hE hP hD hS (k_rV (rest := []) (As := [.int vk, .int 2]) hE rfl (hc_16 H.size) (cwV 2 hts gX1_placePeg_X4_at rfl rfl rfl (by decide +kernel) ⟨Nat.le_of_ble_eq_true rfl, Nat.le_of_ble_eq_true rfl⟩) hP hD hS (ci := 4) (q0 := 0) rfl rfl rfl hl rfl (Nat.le_of_ble_eq_true rfl) ⟨Nat.le_of_ble_eq_true rfl, Nat.le_of_ble_eq_true rfl⟩ dX1_placePeg_16) (fun H locs hP hD hS => ?_)
  have hP := og_bOP hP
  have hD := og_bOD hD
  have hP : va_P D vwCl (og_W cs ad o) H := hP
  have hD : va_D A (og_W cs ad o) := hD
  refine lv_istore_n (lv' := [(3, .int (k_X4_at 5 12 (g_ot o) vk 2)), (2, .int (k_X4_at 5 12 (g_ot o) vk 1)), (0, .ref (ad 0)), (1, .int vk)]) hx hb dX1_placePeg_19 rfl hl (by decide) rfl (fun ls hl => ?_)
  refine lv_aload_n hx hb dX1_placePeg_20 rfl (lv_at hl 2 rfl) ?_
  refine va_get (D := D) (ci := 1) (v := .ref (ad 2)) (C := RX1) (T := TX1) (N := 17) hx hb hts hinX1 hown hK hP 0 rfl rfl 1 (by decide) lk_0 (fun _ h9 => h9) rfl dX1_placePeg_21 ?_
  refine lv_iload_n hx hb dX1_placePeg_24 rfl (lv_at hl 3 rfl) ?_
  refine lv_iconst (v := 3) hx hb dX1_placePeg_25 (by decide) ?_
  have hP : va_P D vwCl ((tb_W cs (ad 2) (ad 4) 5 12 60 (g_ot o)) ++ (og_rO cs ad o)) H := og_cOP hP
  have hD : va_D A ((tb_W cs (ad 2) (ad 4) 5 12 60 (g_ot o)) ++ (og_rO cs ad o)) := og_cOD hD
  have hc_26 := c_X4_at l D cs (ad 2) (ad 4) 5 12 60 (g_ot o) vk 3 (Or.inr ⟨rfl, rfl, rfl⟩)
  refine kI_call (wc := (tb_W cs (ad 2) (ad 4) 5 12 60 (g_ot o))) (wr := (og_rO cs ad o)) (w1 := tb_W cs (ad 2) (ad 4) 5 12 60 (g_ot o)) (r := (k_X4_at 5 12 (g_ot o) vk 3)) hE hP hD hS (k_rV (rest := []) (As := [.int vk, .int 3]) hE rfl (hc_26 H.size) (cwV 2 hts gX1_placePeg_X4_at rfl rfl rfl (by decide +kernel) ⟨Nat.le_of_ble_eq_true rfl, Nat.le_of_ble_eq_true rfl⟩) hP hD hS (ci := 4) (q0 := 0) rfl rfl rfl hl rfl (Nat.le_of_ble_eq_true rfl) ⟨Nat.le_of_ble_eq_true rfl, Nat.le_of_ble_eq_true rfl⟩ dX1_placePeg_26) (fun H locs hP hD hS => ?_)
  have hP := og_bOP hP
  have hD := og_bOD hD
  have hP : va_P D vwCl (og_W cs ad o) H := hP
  have hD : va_D A (og_W cs ad o) := hD
  refine lv_istore (lv' := [(4, .int (k_X4_at 5 12 (g_ot o) vk 3)), (3, .int (k_X4_at 5 12 (g_ot o) vk 2)), (2, .int (k_X4_at 5 12 (g_ot o) vk 1)), (0, .ref (ad 0)), (1, .int vk)]) hx hb dX1_placePeg_29 hl (by decide) rfl (fun ls hl => ?_)
  refine lv_iload_n hx hb dX1_placePeg_31 rfl (lv_at hl 1 rfl) ?_
  refine lv_iload hx hb dX1_placePeg_32 (lv_at hl 0 rfl) ?_
  have hP : va_P D vwCl ([] ++ (og_W cs ad o)) H := hP
  have hD : va_D A ([] ++ (og_W cs ad o)) := hD
  have hc_34 := c_X5_span l D cs (k_X4_at 5 12 (g_ot o) vk 2) (k_X4_at 5 12 (g_ot o) vk 3)
  refine kI_call (wc := []) (wr := (og_W cs ad o)) (w1 := []) (r := (k_X5_span (k_X4_at 5 12 (g_ot o) vk 2) (k_X4_at 5 12 (g_ot o) vk 3))) hE hP hD hS (k_rSN (rest := []) (As := [.int (k_X4_at 5 12 (g_ot o) vk 2), .int (k_X4_at 5 12 (g_ot o) vk 3)]) hE rfl (hc_34 H.size) ⟨va_cnB 2 hts gX1_placePeg_X5_span_n109 rfl rfl rfl (hG.1.2.1 _ _ _ _ nm_X1_109) lk_1 (by decide +kernel) ⟨Nat.le_of_ble_eq_true rfl, Nat.le_of_ble_eq_true rfl⟩, lk_2, trivial⟩ hP hD hS rfl hl rfl (Nat.le_of_ble_eq_true rfl) ⟨Nat.le_of_ble_eq_true rfl, Nat.le_of_ble_eq_true rfl⟩ dX1_placePeg_34) (fun H locs hP hD hS => ?_)
  have hP : va_P D vwCl (og_W cs ad o) H := hP
  have hD : va_D A (og_W cs ad o) := hD
  refine lv_istore (lv' := [(5, .int (k_X5_span (k_X4_at 5 12 (g_ot o) vk 2) (k_X4_at 5 12 (g_ot o) vk 3))), (4, .int (k_X4_at 5 12 (g_ot o) vk 3)), (3, .int (k_X4_at 5 12 (g_ot o) vk 2)), (2, .int (k_X4_at 5 12 (g_ot o) vk 1)), (0, .ref (ad 0)), (1, .int vk)]) hx hb dX1_placePeg_37 hl (by decide) rfl (fun ls hl => ?_)
  refine lv_iload_n hx hb dX1_placePeg_39 rfl (lv_at hl 3 rfl) ?_
  have hP : va_P D vwCl ([] ++ (og_W cs ad o)) H := hP
  have hD : va_D A ([] ++ (og_W cs ad o)) := hD
  have hc_40 := c_X5_isPipe l D cs (k_X4_at 5 12 (g_ot o) vk 1)
  refine kI_call (wc := []) (wr := (og_W cs ad o)) (w1 := []) (r := (k_X5_isPipe (k_X4_at 5 12 (g_ot o) vk 1))) hE hP hD hS (k_rSN (rest := []) (As := [.int (k_X4_at 5 12 (g_ot o) vk 1)]) hE rfl (hc_40 H.size) ⟨va_cnB 1 hts gX1_placePeg_X5_isPipe_n86 rfl rfl rfl (hG.1.2.1 _ _ _ _ nm_X1_86) lk_1 (by decide +kernel) ⟨Nat.le_of_ble_eq_true rfl, Nat.le_of_ble_eq_true rfl⟩, lk_3, trivial⟩ hP hD hS rfl hl rfl (Nat.le_of_ble_eq_true rfl) ⟨Nat.le_of_ble_eq_true rfl, Nat.le_of_ble_eq_true rfl⟩ dX1_placePeg_40) (fun H locs hP hD hS => ?_)
  have hP : va_P D vwCl (og_W cs ad o) H := hP
  have hD : va_D A (og_W cs ad o) := hD
  refine lv_if_eq (tgt := 66) hx hb dX1_placePeg_43 (by decide) (fun c_43 => ?_) (fun c_43 => ?_)
  · skip
    have c_43 : ((k_X5_isPipe (k_X4_at 5 12 (g_ot o) vk 1)) = 0) := c_43
    rw [if_pos c_43] at hres
    refine lv_iconst (v := 0) hx hb dX1_placePeg_66 (by decide) ?_
    subst hres
    exact kI_ret hE hS hP hD rfl rfl (Nat.le_of_ble_eq_true rfl) (Nat.le_of_ble_eq_true rfl) dX1_placePeg_67
  · skip
    have c_43 : ¬ ((k_X5_isPipe (k_X4_at 5 12 (g_ot o) vk 1)) = 0) := c_43
    rw [if_neg c_43] at hres
    refine lv_aload_n hx hb dX1_placePeg_46 rfl (lv_at hl 4 rfl) ?_
    refine lv_iload_n hx hb dX1_placePeg_47 rfl (lv_at hl 3 rfl) ?_
    refine lv_iload hx hb dX1_placePeg_48 (lv_at hl 0 rfl) ?_
    have hP : va_P D vwCl ((og_W cs ad o) ++ []) H := k_nP hP
    have hD : va_D A ((og_W cs ad o) ++ []) := k_nD hD
    have hc_50 := c_X1_isFree l D cs ad o (k_X4_at 5 12 (g_ot o) vk 1) (k_X5_span (k_X4_at 5 12 (g_ot o) vk 2) (k_X4_at 5 12 (g_ot o) vk 3))
    refine kI_call (wc := (og_W cs ad o)) (wr := []) (w1 := og_W cs ad o) (r := (k_X1_isFree o (k_X4_at 5 12 (g_ot o) vk 1) (k_X5_span (k_X4_at 5 12 (g_ot o) vk 2) (k_X4_at 5 12 (g_ot o) vk 3)))) hE hP hD hS (k_rV (rest := []) (As := [.int (k_X4_at 5 12 (g_ot o) vk 1), .int (k_X5_span (k_X4_at 5 12 (g_ot o) vk 2) (k_X4_at 5 12 (g_ot o) vk 3))]) hE rfl (hc_50 H.size) (cwV 2 hts gX1_placePeg_X1_isFree rfl rfl rfl (by decide +kernel) ⟨Nat.le_of_ble_eq_true rfl, Nat.le_of_ble_eq_true rfl⟩) hP hD hS (ci := 1) (q0 := 0) rfl rfl rfl hl rfl (Nat.le_of_ble_eq_true rfl) ⟨Nat.le_of_ble_eq_true rfl, Nat.le_of_ble_eq_true rfl⟩ dX1_placePeg_50) (fun H locs hP hD hS => ?_)
    have hP := k_uP hP
    have hD := k_uD hD
    have hP : va_P D vwCl (og_W cs ad o) H := hP
    have hD : va_D A (og_W cs ad o) := hD
    refine lv_if_eq (tgt := 66) hx hb dX1_placePeg_53 (by decide) (fun c_53 => ?_) (fun c_53 => ?_)
    · skip
      have c_53 : ((k_X1_isFree o (k_X4_at 5 12 (g_ot o) vk 1) (k_X5_span (k_X4_at 5 12 (g_ot o) vk 2) (k_X4_at 5 12 (g_ot o) vk 3))) = 0) := c_53
      rw [if_pos c_53] at hres
      refine lv_iconst (v := 0) hx hb dX1_placePeg_66 (by decide) ?_
      subst hres
      exact kI_ret hE hS hP hD rfl rfl (Nat.le_of_ble_eq_true rfl) (Nat.le_of_ble_eq_true rfl) dX1_placePeg_67
    · skip
      have c_53 : ¬ ((k_X1_isFree o (k_X4_at 5 12 (g_ot o) vk 1) (k_X5_span (k_X4_at 5 12 (g_ot o) vk 2) (k_X4_at 5 12 (g_ot o) vk 3))) = 0) := c_53
      rw [if_neg c_53] at hres
      refine lv_aload_n hx hb dX1_placePeg_56 rfl (lv_at hl 4 rfl) ?_
      refine va_get (D := D) (ci := 1) (v := .ref (ad 1)) (C := RX1) (T := TX1) (N := 17) hx hb hts hinX1 hown hK hP 0 rfl rfl 0 (by decide) lk_4 (fun _ h9 => h9) rfl dX1_placePeg_57 ?_
      have hP : va_P D vwCl ((tb_W cs (ad 1) (ad 3) 4 30 120 (g_pt o)) ++ (og_rP cs ad o)) H := og_cPP hP
      have hD : va_D A ((tb_W cs (ad 1) (ad 3) 4 30 120 (g_pt o)) ++ (og_rP cs ad o)) := og_cPD hD
      have hc_60 := c_X4_isFull l D cs (ad 1) (ad 3) 4 30 120 (g_pt o)
      refine kI_call (wc := (tb_W cs (ad 1) (ad 3) 4 30 120 (g_pt o))) (wr := (og_rP cs ad o)) (w1 := tb_W cs (ad 1) (ad 3) 4 30 120 (g_pt o)) (r := (k_X4_isFull 4 30 (g_pt o))) hE hP hD hS (k_rV (rest := []) (As := []) hE rfl (hc_60 H.size) (cwV 0 hts gX1_placePeg_X4_isFull rfl rfl rfl (by decide +kernel) ⟨Nat.le_of_ble_eq_true rfl, Nat.le_of_ble_eq_true rfl⟩) hP hD hS (ci := 4) (q0 := 0) rfl rfl rfl hl rfl (Nat.le_of_ble_eq_true rfl) ⟨Nat.le_of_ble_eq_true rfl, Nat.le_of_ble_eq_true rfl⟩ dX1_placePeg_60) (fun H locs hP hD hS => ?_)
      have hP := og_bPP hP
      have hD := og_bPD hD
      have hP : va_P D vwCl (og_W cs ad o) H := hP
      have hD : va_D A (og_W cs ad o) := hD
      refine lv_if_eq (tgt := 68) hx hb dX1_placePeg_63 (by decide) (fun c_63 => ?_) (fun c_63 => ?_)
      · skip
        have c_63 : ((k_X4_isFull 4 30 (g_pt o)) = 0) := c_63
        rw [if_pos c_63] at hres
        refine lv_aload_n hx hb dX1_placePeg_68 rfl (lv_at hl 4 rfl) ?_
        refine va_get (D := D) (ci := 1) (v := .ref (ad 5)) (C := RX1) (T := TX1) (N := 17) hx hb hts hinX1 hown hK hP 0 rfl rfl 2 (by decide) lk_5 (fun _ h9 => h9) rfl dX1_placePeg_69 ?_
        refine lv_iload_n hx hb dX1_placePeg_72 rfl (lv_at hl 3 rfl) ?_
        refine lv_dup2_11 hx hb dX1_placePeg_73 rfl rfl ?_
        refine k_iald hx hb hK hP 5 0 (v := ((o.2.2 2) ((k_X4_at 5 12 (g_ot o) vk 1).toNatClampNeg))) rfl rfl (pipe_in c_43) rfl dX1_placePeg_74 ?_
        refine lv_iload hx hb dX1_placePeg_75 (lv_at hl 0 rfl) ?_
        refine lv_ior hx hb dX1_placePeg_77 ?_
        refine k_iast hx hb hK hP hD hS 5 0 (k := (k_X4_at 5 12 (g_ot o) vk 1).toNatClampNeg) rfl rfl (pipe_in c_43) rfl dX1_placePeg_78 (fun H locs hP hD hS => ?_)
        have hP : va_P D vwCl (og_W cs ad (o_r o 2 (va_up (o.2.2 2) ((k_X4_at 5 12 (g_ot o) vk 1).toNatClampNeg) (((o.2.2 2) ((k_X4_at 5 12 (g_ot o) vk 1).toNatClampNeg)) ||| (k_X5_span (k_X4_at 5 12 (g_ot o) vk 2) (k_X4_at 5 12 (g_ot o) vk 3)))))) H := hP
        have hD : va_D A (og_W cs ad (o_r o 2 (va_up (o.2.2 2) ((k_X4_at 5 12 (g_ot o) vk 1).toNatClampNeg) (((o.2.2 2) ((k_X4_at 5 12 (g_ot o) vk 1).toNatClampNeg)) ||| (k_X5_span (k_X4_at 5 12 (g_ot o) vk 2) (k_X4_at 5 12 (g_ot o) vk 3)))))) := hD
        refine lv_aload_n hx hb dX1_placePeg_79 rfl (lv_at hl 4 rfl) ?_
        refine va_get (D := D) (ci := 1) (v := .ref (ad 1)) (C := RX1) (T := TX1) (N := 17) hx hb hts hinX1 hown hK hP 0 rfl rfl 0 (by decide) lk_4 (fun _ h9 => h9) rfl dX1_placePeg_80 ?_
        have hP : va_P D vwCl ((tb_W cs (ad 1) (ad 3) 4 30 120 (g_pt o)) ++ (og_rP cs ad (o_r o 2 (va_up (o.2.2 2) ((k_X4_at 5 12 (g_ot o) vk 1).toNatClampNeg) (((o.2.2 2) ((k_X4_at 5 12 (g_ot o) vk 1).toNatClampNeg)) ||| (k_X5_span (k_X4_at 5 12 (g_ot o) vk 2) (k_X4_at 5 12 (g_ot o) vk 3))))))) H := og_cPP hP
        have hD : va_D A ((tb_W cs (ad 1) (ad 3) 4 30 120 (g_pt o)) ++ (og_rP cs ad (o_r o 2 (va_up (o.2.2 2) ((k_X4_at 5 12 (g_ot o) vk 1).toNatClampNeg) (((o.2.2 2) ((k_X4_at 5 12 (g_ot o) vk 1).toNatClampNeg)) ||| (k_X5_span (k_X4_at 5 12 (g_ot o) vk 2) (k_X4_at 5 12 (g_ot o) vk 3))))))) := og_cPD hD
        have hc_83 := c_X4_addLine l D cs (ad 1) (ad 3) 4 30 120 (g_pt o)
        obtain ⟨r_83, o_83, e_83⟩ : ∃ r9 o9, (k_X4_addLine 4 30 (g_pt o)) = (r9, o9) := ⟨_, _, rfl⟩
        rw [e_83] at hc_83 hres
        dsimp only at hc_83 hres
        refine kI_call (wc := (tb_W cs (ad 1) (ad 3) 4 30 120 (g_pt o))) (wr := (og_rP cs ad (o_r o 2 (va_up (o.2.2 2) ((k_X4_at 5 12 (g_ot o) vk 1).toNatClampNeg) (((o.2.2 2) ((k_X4_at 5 12 (g_ot o) vk 1).toNatClampNeg)) ||| (k_X5_span (k_X4_at 5 12 (g_ot o) vk 2) (k_X4_at 5 12 (g_ot o) vk 3))))))) (w1 := tb_W cs (ad 1) (ad 3) 4 30 120 o_83) (r := r_83) hE hP hD hS (k_rV (rest := []) (As := []) hE rfl (hc_83 H.size) (cwV 0 hts gX1_placePeg_X4_addLine rfl rfl rfl (by decide +kernel) ⟨Nat.le_of_ble_eq_true rfl, Nat.le_of_ble_eq_true rfl⟩) hP hD hS (ci := 4) (q0 := 0) rfl rfl rfl hl rfl (Nat.le_of_ble_eq_true rfl) ⟨Nat.le_of_ble_eq_true rfl, Nat.le_of_ble_eq_true rfl⟩ dX1_placePeg_83) (fun H locs hP hD hS => ?_)
        have hP := og_bPP hP
        have hD := og_bPD hD
        have hP : va_P D vwCl (og_W cs ad (o_pt (o_r o 2 (va_up (o.2.2 2) ((k_X4_at 5 12 (g_ot o) vk 1).toNatClampNeg) (((o.2.2 2) ((k_X4_at 5 12 (g_ot o) vk 1).toNatClampNeg)) ||| (k_X5_span (k_X4_at 5 12 (g_ot o) vk 2) (k_X4_at 5 12 (g_ot o) vk 3))))) o_83)) H := hP
        have hD : va_D A (og_W cs ad (o_pt (o_r o 2 (va_up (o.2.2 2) ((k_X4_at 5 12 (g_ot o) vk 1).toNatClampNeg) (((o.2.2 2) ((k_X4_at 5 12 (g_ot o) vk 1).toNatClampNeg)) ||| (k_X5_span (k_X4_at 5 12 (g_ot o) vk 2) (k_X4_at 5 12 (g_ot o) vk 3))))) o_83)) := hD
        refine lv_istore (lv' := [(6, .int r_83), (5, .int (k_X5_span (k_X4_at 5 12 (g_ot o) vk 2) (k_X4_at 5 12 (g_ot o) vk 3))), (4, .int (k_X4_at 5 12 (g_ot o) vk 3)), (3, .int (k_X4_at 5 12 (g_ot o) vk 2)), (2, .int (k_X4_at 5 12 (g_ot o) vk 1)), (0, .ref (ad 0)), (1, .int vk)]) hx hb dX1_placePeg_86 hl (by decide) rfl (fun ls hl => ?_)
        refine lv_aload_n hx hb dX1_placePeg_88 rfl (lv_at hl 5 rfl) ?_
        refine va_get (D := D) (ci := 1) (v := .ref (ad 1)) (C := RX1) (T := TX1) (N := 17) hx hb hts hinX1 hown hK hP 0 rfl rfl 0 (by decide) lk_4 (fun _ h9 => h9) rfl dX1_placePeg_89 ?_
        refine lv_iload hx hb dX1_placePeg_92 (lv_at hl 0 rfl) ?_
        refine lv_iconst (v := 0) hx hb dX1_placePeg_94 (by decide) ?_
        refine lv_iload_n hx hb dX1_placePeg_95 rfl (lv_at hl 4 rfl) ?_
        have hP : va_P D vwCl ((tb_W cs (ad 1) (ad 3) 4 30 120 o_83) ++ (og_rP cs ad (o_pt (o_r o 2 (va_up (o.2.2 2) ((k_X4_at 5 12 (g_ot o) vk 1).toNatClampNeg) (((o.2.2 2) ((k_X4_at 5 12 (g_ot o) vk 1).toNatClampNeg)) ||| (k_X5_span (k_X4_at 5 12 (g_ot o) vk 2) (k_X4_at 5 12 (g_ot o) vk 3))))) o_83))) H := og_cPP hP
        have hD : va_D A ((tb_W cs (ad 1) (ad 3) 4 30 120 o_83) ++ (og_rP cs ad (o_pt (o_r o 2 (va_up (o.2.2 2) ((k_X4_at 5 12 (g_ot o) vk 1).toNatClampNeg) (((o.2.2 2) ((k_X4_at 5 12 (g_ot o) vk 1).toNatClampNeg)) ||| (k_X5_span (k_X4_at 5 12 (g_ot o) vk 2) (k_X4_at 5 12 (g_ot o) vk 3))))) o_83))) := og_cPD hD
        have hc_96 := c_X4_write l D cs (ad 1) (ad 3) 4 30 120 o_83 r_83 0 (k_X4_at 5 12 (g_ot o) vk 1) (Or.inl ⟨rfl, rfl, rfl⟩)
        refine kV_call (wc := (tb_W cs (ad 1) (ad 3) 4 30 120 o_83)) (wr := (og_rP cs ad (o_pt (o_r o 2 (va_up (o.2.2 2) ((k_X4_at 5 12 (g_ot o) vk 1).toNatClampNeg) (((o.2.2 2) ((k_X4_at 5 12 (g_ot o) vk 1).toNatClampNeg)) ||| (k_X5_span (k_X4_at 5 12 (g_ot o) vk 2) (k_X4_at 5 12 (g_ot o) vk 3))))) o_83))) (w1 := fun _ => tb_W cs (ad 1) (ad 3) 4 30 120 (k_X4_write 4 30 o_83 r_83 0 (k_X4_at 5 12 (g_ot o) vk 1))) hE hP hD hS (k_rV (rest := []) (As := [.int r_83, .int 0, .int (k_X4_at 5 12 (g_ot o) vk 1)]) hE rfl (hc_96 H.size) (cwV 3 hts gX1_placePeg_X4_write rfl rfl rfl (by decide +kernel) ⟨Nat.le_of_ble_eq_true rfl, Nat.le_of_ble_eq_true rfl⟩) hP hD hS (ci := 4) (q0 := 0) rfl rfl rfl hl rfl (Nat.le_of_ble_eq_true rfl) ⟨Nat.le_of_ble_eq_true rfl, Nat.le_of_ble_eq_true rfl⟩ dX1_placePeg_96) (fun _ H locs _ hP hD hS => ?_)
        have hP := og_bPP hP
        have hD := og_bPD hD
        have hP : va_P D vwCl (og_W cs ad (o_pt (o_r o 2 (va_up (o.2.2 2) ((k_X4_at 5 12 (g_ot o) vk 1).toNatClampNeg) (((o.2.2 2) ((k_X4_at 5 12 (g_ot o) vk 1).toNatClampNeg)) ||| (k_X5_span (k_X4_at 5 12 (g_ot o) vk 2) (k_X4_at 5 12 (g_ot o) vk 3))))) (k_X4_write 4 30 o_83 r_83 0 (k_X4_at 5 12 (g_ot o) vk 1)))) H := hP
        have hD : va_D A (og_W cs ad (o_pt (o_r o 2 (va_up (o.2.2 2) ((k_X4_at 5 12 (g_ot o) vk 1).toNatClampNeg) (((o.2.2 2) ((k_X4_at 5 12 (g_ot o) vk 1).toNatClampNeg)) ||| (k_X5_span (k_X4_at 5 12 (g_ot o) vk 2) (k_X4_at 5 12 (g_ot o) vk 3))))) (k_X4_write 4 30 o_83 r_83 0 (k_X4_at 5 12 (g_ot o) vk 1)))) := hD
        refine lv_aload_n hx hb dX1_placePeg_99 rfl (lv_at hl 5 rfl) ?_
        refine va_get (D := D) (ci := 1) (v := .ref (ad 1)) (C := RX1) (T := TX1) (N := 17) hx hb hts hinX1 hown hK hP 0 rfl rfl 0 (by decide) lk_4 (fun _ h9 => h9) rfl dX1_placePeg_100 ?_
        refine lv_iload hx hb dX1_placePeg_103 (lv_at hl 0 rfl) ?_
        refine lv_iconst (v := 1) hx hb dX1_placePeg_105 (by decide) ?_
        refine lv_iload_n hx hb dX1_placePeg_106 rfl (lv_at hl 3 rfl) ?_
        have hP : va_P D vwCl ((tb_W cs (ad 1) (ad 3) 4 30 120 (k_X4_write 4 30 o_83 r_83 0 (k_X4_at 5 12 (g_ot o) vk 1))) ++ (og_rP cs ad (o_pt (o_r o 2 (va_up (o.2.2 2) ((k_X4_at 5 12 (g_ot o) vk 1).toNatClampNeg) (((o.2.2 2) ((k_X4_at 5 12 (g_ot o) vk 1).toNatClampNeg)) ||| (k_X5_span (k_X4_at 5 12 (g_ot o) vk 2) (k_X4_at 5 12 (g_ot o) vk 3))))) (k_X4_write 4 30 o_83 r_83 0 (k_X4_at 5 12 (g_ot o) vk 1))))) H := og_cPP hP
        have hD : va_D A ((tb_W cs (ad 1) (ad 3) 4 30 120 (k_X4_write 4 30 o_83 r_83 0 (k_X4_at 5 12 (g_ot o) vk 1))) ++ (og_rP cs ad (o_pt (o_r o 2 (va_up (o.2.2 2) ((k_X4_at 5 12 (g_ot o) vk 1).toNatClampNeg) (((o.2.2 2) ((k_X4_at 5 12 (g_ot o) vk 1).toNatClampNeg)) ||| (k_X5_span (k_X4_at 5 12 (g_ot o) vk 2) (k_X4_at 5 12 (g_ot o) vk 3))))) (k_X4_write 4 30 o_83 r_83 0 (k_X4_at 5 12 (g_ot o) vk 1))))) := og_cPD hD
        have hc_107 := c_X4_write l D cs (ad 1) (ad 3) 4 30 120 (k_X4_write 4 30 o_83 r_83 0 (k_X4_at 5 12 (g_ot o) vk 1)) r_83 1 (k_X4_at 5 12 (g_ot o) vk 2) (Or.inl ⟨rfl, rfl, rfl⟩)
        refine kV_call (wc := (tb_W cs (ad 1) (ad 3) 4 30 120 (k_X4_write 4 30 o_83 r_83 0 (k_X4_at 5 12 (g_ot o) vk 1)))) (wr := (og_rP cs ad (o_pt (o_r o 2 (va_up (o.2.2 2) ((k_X4_at 5 12 (g_ot o) vk 1).toNatClampNeg) (((o.2.2 2) ((k_X4_at 5 12 (g_ot o) vk 1).toNatClampNeg)) ||| (k_X5_span (k_X4_at 5 12 (g_ot o) vk 2) (k_X4_at 5 12 (g_ot o) vk 3))))) (k_X4_write 4 30 o_83 r_83 0 (k_X4_at 5 12 (g_ot o) vk 1))))) (w1 := fun _ => tb_W cs (ad 1) (ad 3) 4 30 120 (k_X4_write 4 30 (k_X4_write 4 30 o_83 r_83 0 (k_X4_at 5 12 (g_ot o) vk 1)) r_83 1 (k_X4_at 5 12 (g_ot o) vk 2))) hE hP hD hS (k_rV (rest := []) (As := [.int r_83, .int 1, .int (k_X4_at 5 12 (g_ot o) vk 2)]) hE rfl (hc_107 H.size) (cwV 3 hts gX1_placePeg_X4_write rfl rfl rfl (by decide +kernel) ⟨Nat.le_of_ble_eq_true rfl, Nat.le_of_ble_eq_true rfl⟩) hP hD hS (ci := 4) (q0 := 0) rfl rfl rfl hl rfl (Nat.le_of_ble_eq_true rfl) ⟨Nat.le_of_ble_eq_true rfl, Nat.le_of_ble_eq_true rfl⟩ dX1_placePeg_107) (fun _ H locs _ hP hD hS => ?_)
        have hP := og_bPP hP
        have hD := og_bPD hD
        have hP : va_P D vwCl (og_W cs ad (o_pt (o_r o 2 (va_up (o.2.2 2) ((k_X4_at 5 12 (g_ot o) vk 1).toNatClampNeg) (((o.2.2 2) ((k_X4_at 5 12 (g_ot o) vk 1).toNatClampNeg)) ||| (k_X5_span (k_X4_at 5 12 (g_ot o) vk 2) (k_X4_at 5 12 (g_ot o) vk 3))))) (k_X4_write 4 30 (k_X4_write 4 30 o_83 r_83 0 (k_X4_at 5 12 (g_ot o) vk 1)) r_83 1 (k_X4_at 5 12 (g_ot o) vk 2)))) H := hP
        have hD : va_D A (og_W cs ad (o_pt (o_r o 2 (va_up (o.2.2 2) ((k_X4_at 5 12 (g_ot o) vk 1).toNatClampNeg) (((o.2.2 2) ((k_X4_at 5 12 (g_ot o) vk 1).toNatClampNeg)) ||| (k_X5_span (k_X4_at 5 12 (g_ot o) vk 2) (k_X4_at 5 12 (g_ot o) vk 3))))) (k_X4_write 4 30 (k_X4_write 4 30 o_83 r_83 0 (k_X4_at 5 12 (g_ot o) vk 1)) r_83 1 (k_X4_at 5 12 (g_ot o) vk 2)))) := hD
        refine lv_aload_n hx hb dX1_placePeg_110 rfl (lv_at hl 5 rfl) ?_
        refine va_get (D := D) (ci := 1) (v := .ref (ad 1)) (C := RX1) (T := TX1) (N := 17) hx hb hts hinX1 hown hK hP 0 rfl rfl 0 (by decide) lk_4 (fun _ h9 => h9) rfl dX1_placePeg_111 ?_
        refine lv_iload hx hb dX1_placePeg_114 (lv_at hl 0 rfl) ?_
        refine lv_iconst (v := 2) hx hb dX1_placePeg_116 (by decide) ?_
        refine lv_iload hx hb dX1_placePeg_117 (lv_at hl 2 rfl) ?_
        have hP : va_P D vwCl ((tb_W cs (ad 1) (ad 3) 4 30 120 (k_X4_write 4 30 (k_X4_write 4 30 o_83 r_83 0 (k_X4_at 5 12 (g_ot o) vk 1)) r_83 1 (k_X4_at 5 12 (g_ot o) vk 2))) ++ (og_rP cs ad (o_pt (o_r o 2 (va_up (o.2.2 2) ((k_X4_at 5 12 (g_ot o) vk 1).toNatClampNeg) (((o.2.2 2) ((k_X4_at 5 12 (g_ot o) vk 1).toNatClampNeg)) ||| (k_X5_span (k_X4_at 5 12 (g_ot o) vk 2) (k_X4_at 5 12 (g_ot o) vk 3))))) (k_X4_write 4 30 (k_X4_write 4 30 o_83 r_83 0 (k_X4_at 5 12 (g_ot o) vk 1)) r_83 1 (k_X4_at 5 12 (g_ot o) vk 2))))) H := og_cPP hP
        have hD : va_D A ((tb_W cs (ad 1) (ad 3) 4 30 120 (k_X4_write 4 30 (k_X4_write 4 30 o_83 r_83 0 (k_X4_at 5 12 (g_ot o) vk 1)) r_83 1 (k_X4_at 5 12 (g_ot o) vk 2))) ++ (og_rP cs ad (o_pt (o_r o 2 (va_up (o.2.2 2) ((k_X4_at 5 12 (g_ot o) vk 1).toNatClampNeg) (((o.2.2 2) ((k_X4_at 5 12 (g_ot o) vk 1).toNatClampNeg)) ||| (k_X5_span (k_X4_at 5 12 (g_ot o) vk 2) (k_X4_at 5 12 (g_ot o) vk 3))))) (k_X4_write 4 30 (k_X4_write 4 30 o_83 r_83 0 (k_X4_at 5 12 (g_ot o) vk 1)) r_83 1 (k_X4_at 5 12 (g_ot o) vk 2))))) := og_cPD hD
        have hc_119 := c_X4_write l D cs (ad 1) (ad 3) 4 30 120 (k_X4_write 4 30 (k_X4_write 4 30 o_83 r_83 0 (k_X4_at 5 12 (g_ot o) vk 1)) r_83 1 (k_X4_at 5 12 (g_ot o) vk 2)) r_83 2 (k_X4_at 5 12 (g_ot o) vk 3) (Or.inl ⟨rfl, rfl, rfl⟩)
        refine kV_call (wc := (tb_W cs (ad 1) (ad 3) 4 30 120 (k_X4_write 4 30 (k_X4_write 4 30 o_83 r_83 0 (k_X4_at 5 12 (g_ot o) vk 1)) r_83 1 (k_X4_at 5 12 (g_ot o) vk 2)))) (wr := (og_rP cs ad (o_pt (o_r o 2 (va_up (o.2.2 2) ((k_X4_at 5 12 (g_ot o) vk 1).toNatClampNeg) (((o.2.2 2) ((k_X4_at 5 12 (g_ot o) vk 1).toNatClampNeg)) ||| (k_X5_span (k_X4_at 5 12 (g_ot o) vk 2) (k_X4_at 5 12 (g_ot o) vk 3))))) (k_X4_write 4 30 (k_X4_write 4 30 o_83 r_83 0 (k_X4_at 5 12 (g_ot o) vk 1)) r_83 1 (k_X4_at 5 12 (g_ot o) vk 2))))) (w1 := fun _ => tb_W cs (ad 1) (ad 3) 4 30 120 (k_X4_write 4 30 (k_X4_write 4 30 (k_X4_write 4 30 o_83 r_83 0 (k_X4_at 5 12 (g_ot o) vk 1)) r_83 1 (k_X4_at 5 12 (g_ot o) vk 2)) r_83 2 (k_X4_at 5 12 (g_ot o) vk 3))) hE hP hD hS (k_rV (rest := []) (As := [.int r_83, .int 2, .int (k_X4_at 5 12 (g_ot o) vk 3)]) hE rfl (hc_119 H.size) (cwV 3 hts gX1_placePeg_X4_write rfl rfl rfl (by decide +kernel) ⟨Nat.le_of_ble_eq_true rfl, Nat.le_of_ble_eq_true rfl⟩) hP hD hS (ci := 4) (q0 := 0) rfl rfl rfl hl rfl (Nat.le_of_ble_eq_true rfl) ⟨Nat.le_of_ble_eq_true rfl, Nat.le_of_ble_eq_true rfl⟩ dX1_placePeg_119) (fun _ H locs _ hP hD hS => ?_)
        have hP := og_bPP hP
        have hD := og_bPD hD
        have hP : va_P D vwCl (og_W cs ad (o_pt (o_r o 2 (va_up (o.2.2 2) ((k_X4_at 5 12 (g_ot o) vk 1).toNatClampNeg) (((o.2.2 2) ((k_X4_at 5 12 (g_ot o) vk 1).toNatClampNeg)) ||| (k_X5_span (k_X4_at 5 12 (g_ot o) vk 2) (k_X4_at 5 12 (g_ot o) vk 3))))) (k_X4_write 4 30 (k_X4_write 4 30 (k_X4_write 4 30 o_83 r_83 0 (k_X4_at 5 12 (g_ot o) vk 1)) r_83 1 (k_X4_at 5 12 (g_ot o) vk 2)) r_83 2 (k_X4_at 5 12 (g_ot o) vk 3)))) H := hP
        have hD : va_D A (og_W cs ad (o_pt (o_r o 2 (va_up (o.2.2 2) ((k_X4_at 5 12 (g_ot o) vk 1).toNatClampNeg) (((o.2.2 2) ((k_X4_at 5 12 (g_ot o) vk 1).toNatClampNeg)) ||| (k_X5_span (k_X4_at 5 12 (g_ot o) vk 2) (k_X4_at 5 12 (g_ot o) vk 3))))) (k_X4_write 4 30 (k_X4_write 4 30 (k_X4_write 4 30 o_83 r_83 0 (k_X4_at 5 12 (g_ot o) vk 1)) r_83 1 (k_X4_at 5 12 (g_ot o) vk 2)) r_83 2 (k_X4_at 5 12 (g_ot o) vk 3)))) := hD
        refine lv_aload_n hx hb dX1_placePeg_122 rfl (lv_at hl 5 rfl) ?_
        refine va_get (D := D) (ci := 1) (v := .ref (ad 1)) (C := RX1) (T := TX1) (N := 17) hx hb hts hinX1 hown hK hP 0 rfl rfl 0 (by decide) lk_4 (fun _ h9 => h9) rfl dX1_placePeg_123 ?_
        refine lv_iload hx hb dX1_placePeg_126 (lv_at hl 0 rfl) ?_
        refine lv_iconst (v := 3) hx hb dX1_placePeg_128 (by decide) ?_
        refine lv_aload_n hx hb dX1_placePeg_129 rfl (lv_at hl 5 rfl) ?_
        refine va_get (D := D) (ci := 1) (v := .int (o.1 3)) (C := RX1) (T := TX1) (N := 17) hx hb hts hinX1 hown hK hP 0 rfl rfl 9 (by decide) lk_6 (fun _ h9 => h9) rfl dX1_placePeg_130 ?_
        refine lv_iconst (v := 1) hx hb dX1_placePeg_133 (by decide) ?_
        refine lv_iadd hx hb dX1_placePeg_134 ?_
        have hP : va_P D vwCl ((tb_W cs (ad 1) (ad 3) 4 30 120 (k_X4_write 4 30 (k_X4_write 4 30 (k_X4_write 4 30 o_83 r_83 0 (k_X4_at 5 12 (g_ot o) vk 1)) r_83 1 (k_X4_at 5 12 (g_ot o) vk 2)) r_83 2 (k_X4_at 5 12 (g_ot o) vk 3))) ++ (og_rP cs ad (o_pt (o_r o 2 (va_up (o.2.2 2) ((k_X4_at 5 12 (g_ot o) vk 1).toNatClampNeg) (((o.2.2 2) ((k_X4_at 5 12 (g_ot o) vk 1).toNatClampNeg)) ||| (k_X5_span (k_X4_at 5 12 (g_ot o) vk 2) (k_X4_at 5 12 (g_ot o) vk 3))))) (k_X4_write 4 30 (k_X4_write 4 30 (k_X4_write 4 30 o_83 r_83 0 (k_X4_at 5 12 (g_ot o) vk 1)) r_83 1 (k_X4_at 5 12 (g_ot o) vk 2)) r_83 2 (k_X4_at 5 12 (g_ot o) vk 3))))) H := og_cPP hP
        have hD : va_D A ((tb_W cs (ad 1) (ad 3) 4 30 120 (k_X4_write 4 30 (k_X4_write 4 30 (k_X4_write 4 30 o_83 r_83 0 (k_X4_at 5 12 (g_ot o) vk 1)) r_83 1 (k_X4_at 5 12 (g_ot o) vk 2)) r_83 2 (k_X4_at 5 12 (g_ot o) vk 3))) ++ (og_rP cs ad (o_pt (o_r o 2 (va_up (o.2.2 2) ((k_X4_at 5 12 (g_ot o) vk 1).toNatClampNeg) (((o.2.2 2) ((k_X4_at 5 12 (g_ot o) vk 1).toNatClampNeg)) ||| (k_X5_span (k_X4_at 5 12 (g_ot o) vk 2) (k_X4_at 5 12 (g_ot o) vk 3))))) (k_X4_write 4 30 (k_X4_write 4 30 (k_X4_write 4 30 o_83 r_83 0 (k_X4_at 5 12 (g_ot o) vk 1)) r_83 1 (k_X4_at 5 12 (g_ot o) vk 2)) r_83 2 (k_X4_at 5 12 (g_ot o) vk 3))))) := og_cPD hD
        have hc_135 := c_X4_write l D cs (ad 1) (ad 3) 4 30 120 (k_X4_write 4 30 (k_X4_write 4 30 (k_X4_write 4 30 o_83 r_83 0 (k_X4_at 5 12 (g_ot o) vk 1)) r_83 1 (k_X4_at 5 12 (g_ot o) vk 2)) r_83 2 (k_X4_at 5 12 (g_ot o) vk 3)) r_83 3 ((o.1 3) + 1) (Or.inl ⟨rfl, rfl, rfl⟩)
        refine kV_call (wc := (tb_W cs (ad 1) (ad 3) 4 30 120 (k_X4_write 4 30 (k_X4_write 4 30 (k_X4_write 4 30 o_83 r_83 0 (k_X4_at 5 12 (g_ot o) vk 1)) r_83 1 (k_X4_at 5 12 (g_ot o) vk 2)) r_83 2 (k_X4_at 5 12 (g_ot o) vk 3)))) (wr := (og_rP cs ad (o_pt (o_r o 2 (va_up (o.2.2 2) ((k_X4_at 5 12 (g_ot o) vk 1).toNatClampNeg) (((o.2.2 2) ((k_X4_at 5 12 (g_ot o) vk 1).toNatClampNeg)) ||| (k_X5_span (k_X4_at 5 12 (g_ot o) vk 2) (k_X4_at 5 12 (g_ot o) vk 3))))) (k_X4_write 4 30 (k_X4_write 4 30 (k_X4_write 4 30 o_83 r_83 0 (k_X4_at 5 12 (g_ot o) vk 1)) r_83 1 (k_X4_at 5 12 (g_ot o) vk 2)) r_83 2 (k_X4_at 5 12 (g_ot o) vk 3))))) (w1 := fun _ => tb_W cs (ad 1) (ad 3) 4 30 120 (k_X4_write 4 30 (k_X4_write 4 30 (k_X4_write 4 30 (k_X4_write 4 30 o_83 r_83 0 (k_X4_at 5 12 (g_ot o) vk 1)) r_83 1 (k_X4_at 5 12 (g_ot o) vk 2)) r_83 2 (k_X4_at 5 12 (g_ot o) vk 3)) r_83 3 ((o.1 3) + 1))) hE hP hD hS (k_rV (rest := []) (As := [.int r_83, .int 3, .int ((o.1 3) + 1)]) hE rfl (hc_135 H.size) (cwV 3 hts gX1_placePeg_X4_write rfl rfl rfl (by decide +kernel) ⟨Nat.le_of_ble_eq_true rfl, Nat.le_of_ble_eq_true rfl⟩) hP hD hS (ci := 4) (q0 := 0) rfl rfl rfl hl rfl (Nat.le_of_ble_eq_true rfl) ⟨Nat.le_of_ble_eq_true rfl, Nat.le_of_ble_eq_true rfl⟩ dX1_placePeg_135) (fun _ H locs _ hP hD hS => ?_)
        have hP := og_bPP hP
        have hD := og_bPD hD
        have hP : va_P D vwCl (og_W cs ad (o_pt (o_r o 2 (va_up (o.2.2 2) ((k_X4_at 5 12 (g_ot o) vk 1).toNatClampNeg) (((o.2.2 2) ((k_X4_at 5 12 (g_ot o) vk 1).toNatClampNeg)) ||| (k_X5_span (k_X4_at 5 12 (g_ot o) vk 2) (k_X4_at 5 12 (g_ot o) vk 3))))) (k_X4_write 4 30 (k_X4_write 4 30 (k_X4_write 4 30 (k_X4_write 4 30 o_83 r_83 0 (k_X4_at 5 12 (g_ot o) vk 1)) r_83 1 (k_X4_at 5 12 (g_ot o) vk 2)) r_83 2 (k_X4_at 5 12 (g_ot o) vk 3)) r_83 3 ((o.1 3) + 1)))) H := hP
        have hD : va_D A (og_W cs ad (o_pt (o_r o 2 (va_up (o.2.2 2) ((k_X4_at 5 12 (g_ot o) vk 1).toNatClampNeg) (((o.2.2 2) ((k_X4_at 5 12 (g_ot o) vk 1).toNatClampNeg)) ||| (k_X5_span (k_X4_at 5 12 (g_ot o) vk 2) (k_X4_at 5 12 (g_ot o) vk 3))))) (k_X4_write 4 30 (k_X4_write 4 30 (k_X4_write 4 30 (k_X4_write 4 30 o_83 r_83 0 (k_X4_at 5 12 (g_ot o) vk 1)) r_83 1 (k_X4_at 5 12 (g_ot o) vk 2)) r_83 2 (k_X4_at 5 12 (g_ot o) vk 3)) r_83 3 ((o.1 3) + 1)))) := hD
        refine lv_iconst (v := 1) hx hb dX1_placePeg_138 (by decide) ?_
        subst hres
        exact kI_ret hE hS hP hD rfl rfl (Nat.le_of_ble_eq_true rfl) (Nat.le_of_ble_eq_true rfl) dX1_placePeg_139
      · skip
        have c_63 : ¬ ((k_X4_isFull 4 30 (g_pt o)) = 0) := c_63
        rw [if_neg c_63] at hres
        refine lv_iconst (v := 0) hx hb dX1_placePeg_66 (by decide) ?_
        subst hres
        exact kI_ret hE hS hP hD rfl rfl (Nat.le_of_ble_eq_true rfl) (Nat.le_of_ble_eq_true rfl) dX1_placePeg_67
set_option maxHeartbeats 4000000 in
set_option maxRecDepth 100000 in
theorem c_X1_takePeg (l : Launch) (D : va_G) (cs : Nat → ClassId) (ad : Nat → Nat) (o : OV) (vk : Int32) (hO : OI o) : kI l yX1_takePeg wsX1_takePeg { frames := 2, cells := 0, slots := 0, locals := 82 } 0 0 D cs [.ref (ad 0), .int vk] (og_W cs ad o) (k_X1_takePeg o vk).1 (og_W cs ad ((k_X1_takePeg o vk).2)) := by
  generalize hres : k_X1_takePeg o vk = res
  refine kI_of (cc := cX1_takePeg) (maxL := 5) (ret := (some .boolean)) (by decide) rfl (Nat.le_of_ble_eq_true rfl) ?_
  intro p e s m below meth c A ls H locs hE hS hP hD hl
  obtain ⟨hx, hb, hr, hlocks, hml, hown, hts, hK, hA, hG, hnm⟩ := id hE
  have hown : s.vm.findClass RX1 = some m.cls := hown
  have hl : lv_has ls 5 [(0, .ref (ad 0)), (1, .int vk)] := hl
  have hinX1 : ∀ w ∈ wsX10, w ∈ wsX1_takePeg := by decide +kernel
  have hinX4 : ∀ w ∈ wsX40, w ∈ wsX1_takePeg := by decide +kernel
  have lk_0 := hts (.fieldLink RX1 16 "OrganPegs$Organ" "pegs" "LOrganPegs$Table;") (by decide +kernel)
  have lk_1 := hts (.initialized RX5) (by decide +kernel)
  have lk_2 := hts (.static yX5_isPipe) (by decide +kernel)
  have lk_3 := hts (.fieldLink RX1 23 "OrganPegs$Organ" "covers" "[I") (by decide +kernel)
  have lk_4 := hts (.static yX5_span) (by decide +kernel)
  have lk_5 := hts (.fieldLink RX1 20 "OrganPegs$Organ" "orders" "LOrganPegs$Table;") (by decide +kernel)
  obtain ⟨hO1, hO2, hO3, hO4⟩ := id hO
  have hLn : (o.1 10).toInt = (((o.1 10).toInt.toNat : Nat) : Int) := (Int.toNat_of_nonneg hO1).symm
  have L23 : ∀ (n : Nat) (k : Int32) (j : Nat) (hi : k = nI j) (hj : j + n = 31) (hj2 : j ≤ (o.1 10).toInt.toNat) (H : Heap) (locs : List Loc) (ls : Array Slot), va_S A s.heap H locs → va_P D vwCl (og_W cs ad o) H → va_D A (og_W cs ad o) → lv_has ls 5 [(0, .ref (ad 0)), (1, .int vk), (2, .int (k_X4_at 5 12 (g_ot o) vk 1)), (3, .int (k_X4_at 5 12 (g_ot o) vk 2)), (4, .int k)] → k_X1_takePeg_L23 o vk n k = res → W p l e { frames := 2, cells := 0, slots := 0, locals := 82 } s m ([.ref (ad 0), .int vk]).toArray below meth c H locs 0 0 (MQ below (va_Qi (fun (r' : Int32) (_ : Unit) => r' = res.1) (kB D (fun _ => og_W cs ad res.2) A) A) ([.ref (ad 0), .int vk]).toArray s 0 0 A) (F0 m 23 ls []) := by
    intro n
    induction n with
    | zero =>
      intro k j hi hj hj2 H locs ls hS hP hD hl hres
      exact absurd hj2 (by omega)
    | succ n ih =>
      intro k j hi hj hj2 H locs ls hS hP hD hl hres
      unfold k_X1_takePeg_L23 at hres
      refine lv_iload hx hb dX1_takePeg_23 (lv_at hl 4 rfl) ?_
      refine lv_aload_n hx hb dX1_takePeg_25 rfl (lv_at hl 0 rfl) ?_
      refine va_get (D := D) (ci := 1) (v := .ref (ad 1)) (C := RX1) (T := TX1) (N := 17) hx hb hts hinX1 hown hK hP 0 rfl rfl 0 (by decide) lk_0 (fun _ h9 => h9) rfl dX1_takePeg_26 ?_
      refine va_getN (D := D) (ci := 4) (v := .int (o.1 10)) (C := RX4) (T := TX4) (N := 4) hx hb hts hinX4 hown hK hP 1 rfl rfl 3 (by decide) (va_Nw.use rfl (hG.1.1 _ _ _ _ _ _ nf_X1_79)) (fun _ h9 => h9) rfl dX1_takePeg_29 ?_
      refine lv_icmp_ge (tgt := 112) hx hb dX1_takePeg_32 (by decide) (fun c_32 => ?_) (fun c_32 => ?_)
      · skip
        have c_32 : ((o.1 10) ≤ k) := c_32
        rw [if_pos c_32] at hres
        refine lv_iconst (v := 0) hx hb dX1_takePeg_112 (by decide) ?_
        subst hres
        exact kI_ret hE hS hP hD rfl rfl (Nat.le_of_ble_eq_true rfl) (Nat.le_of_ble_eq_true rfl) dX1_takePeg_113
      · skip
        have c_32 : ¬ ((o.1 10) ≤ k) := c_32
        rw [if_neg c_32] at hres
        refine lv_iload_n hx hb dX1_takePeg_35 rfl (lv_at hl 2 rfl) ?_
        have hP : va_P D vwCl ([] ++ (og_W cs ad o)) H := hP
        have hD : va_D A ([] ++ (og_W cs ad o)) := hD
        have hc_36 := c_X5_isPipe l D cs (k_X4_at 5 12 (g_ot o) vk 1)
        refine kI_call (wc := []) (wr := (og_W cs ad o)) (w1 := []) (r := (k_X5_isPipe (k_X4_at 5 12 (g_ot o) vk 1))) hE hP hD hS (k_rSN (rest := []) (As := [.int (k_X4_at 5 12 (g_ot o) vk 1)]) hE rfl (hc_36 H.size) ⟨va_cnB 1 hts gX1_takePeg_X5_isPipe_n86 rfl rfl rfl (hG.1.2.1 _ _ _ _ nm_X1_86) lk_1 (by decide +kernel) ⟨Nat.le_of_ble_eq_true rfl, Nat.le_of_ble_eq_true rfl⟩, lk_2, trivial⟩ hP hD hS rfl hl rfl (Nat.le_of_ble_eq_true rfl) ⟨Nat.le_of_ble_eq_true rfl, Nat.le_of_ble_eq_true rfl⟩ dX1_takePeg_36) (fun H locs hP hD hS => ?_)
        have hP : va_P D vwCl (og_W cs ad o) H := hP
        have hD : va_D A (og_W cs ad o) := hD
        refine lv_if_eq (tgt := 112) hx hb dX1_takePeg_39 (by decide) (fun c_39 => ?_) (fun c_39 => ?_)
        · skip
          have c_39 : ((k_X5_isPipe (k_X4_at 5 12 (g_ot o) vk 1)) = 0) := c_39
          rw [if_pos c_39] at hres
          refine lv_iconst (v := 0) hx hb dX1_takePeg_112 (by decide) ?_
          subst hres
          exact kI_ret hE hS hP hD rfl rfl (Nat.le_of_ble_eq_true rfl) (Nat.le_of_ble_eq_true rfl) dX1_takePeg_113
        · skip
          have c_39 : ¬ ((k_X5_isPipe (k_X4_at 5 12 (g_ot o) vk 1)) = 0) := c_39
          rw [if_neg c_39] at hres
          refine lv_aload_n hx hb dX1_takePeg_42 rfl (lv_at hl 0 rfl) ?_
          refine va_get (D := D) (ci := 1) (v := .ref (ad 1)) (C := RX1) (T := TX1) (N := 17) hx hb hts hinX1 hown hK hP 0 rfl rfl 0 (by decide) lk_0 (fun _ h9 => h9) rfl dX1_takePeg_43 ?_
          refine lv_iload hx hb dX1_takePeg_46 (lv_at hl 4 rfl) ?_
          refine lv_iconst (v := 0) hx hb dX1_takePeg_48 (by decide) ?_
          have hP : va_P D vwCl ((tb_W cs (ad 1) (ad 3) 4 30 120 (g_pt o)) ++ (og_rP cs ad o)) H := og_cPP hP
          have hD : va_D A ((tb_W cs (ad 1) (ad 3) 4 30 120 (g_pt o)) ++ (og_rP cs ad o)) := og_cPD hD
          have hc_49 := c_X4_at l D cs (ad 1) (ad 3) 4 30 120 (g_pt o) k 0 (Or.inl ⟨rfl, rfl, rfl⟩)
          refine kI_call (wc := (tb_W cs (ad 1) (ad 3) 4 30 120 (g_pt o))) (wr := (og_rP cs ad o)) (w1 := tb_W cs (ad 1) (ad 3) 4 30 120 (g_pt o)) (r := (k_X4_at 4 30 (g_pt o) k 0)) hE hP hD hS (k_rV (rest := []) (As := [.int k, .int 0]) hE rfl (hc_49 H.size) (cwV 2 hts gX1_takePeg_X4_at rfl rfl rfl (by decide +kernel) ⟨Nat.le_of_ble_eq_true rfl, Nat.le_of_ble_eq_true rfl⟩) hP hD hS (ci := 4) (q0 := 0) rfl rfl rfl hl rfl (Nat.le_of_ble_eq_true rfl) ⟨Nat.le_of_ble_eq_true rfl, Nat.le_of_ble_eq_true rfl⟩ dX1_takePeg_49) (fun H locs hP hD hS => ?_)
          have hP := og_bPP hP
          have hD := og_bPD hD
          have hP : va_P D vwCl (og_W cs ad o) H := hP
          have hD : va_D A (og_W cs ad o) := hD
          refine lv_iload_n hx hb dX1_takePeg_52 rfl (lv_at hl 2 rfl) ?_
          refine lv_icmp_ne (tgt := 106) hx hb dX1_takePeg_53 (by decide) (fun c_53 => ?_) (fun c_53 => ?_)
          · skip
            have c_53 : ¬ ((k_X4_at 4 30 (g_pt o) k 0) = (k_X4_at 5 12 (g_ot o) vk 1)) := c_53
            rw [if_neg c_53] at hres
            refine lv_iinc (v := (k + 1)) (lv' := [(4, .int (k + 1)), (0, .ref (ad 0)), (1, .int vk), (2, .int (k_X4_at 5 12 (g_ot o) vk 1)), (3, .int (k_X4_at 5 12 (g_ot o) vk 2))]) hx hb dX1_takePeg_106 hl (k := 4) rfl (by rfl) (by decide) rfl (fun ls hl => ?_)
            refine lv_goto (tgt := 23) hx hb dX1_takePeg_109 (by decide) ?_
            exact ih (k + 1) (j + 1) (by rw [hi, nI_1]) (by omega) (nI_ltv hi (by omega) hLn c_32) _ _ _ hS hP hD (lv_sub hl [1, 2, 3, 4, 0] rfl) hres
          · skip
            have c_53 : ((k_X4_at 4 30 (g_pt o) k 0) = (k_X4_at 5 12 (g_ot o) vk 1)) := c_53
            rw [if_pos c_53] at hres
            refine lv_aload_n hx hb dX1_takePeg_56 rfl (lv_at hl 0 rfl) ?_
            refine va_get (D := D) (ci := 1) (v := .ref (ad 1)) (C := RX1) (T := TX1) (N := 17) hx hb hts hinX1 hown hK hP 0 rfl rfl 0 (by decide) lk_0 (fun _ h9 => h9) rfl dX1_takePeg_57 ?_
            refine lv_iload hx hb dX1_takePeg_60 (lv_at hl 4 rfl) ?_
            refine lv_iconst (v := 1) hx hb dX1_takePeg_62 (by decide) ?_
            have hP : va_P D vwCl ((tb_W cs (ad 1) (ad 3) 4 30 120 (g_pt o)) ++ (og_rP cs ad o)) H := og_cPP hP
            have hD : va_D A ((tb_W cs (ad 1) (ad 3) 4 30 120 (g_pt o)) ++ (og_rP cs ad o)) := og_cPD hD
            have hc_63 := c_X4_at l D cs (ad 1) (ad 3) 4 30 120 (g_pt o) k 1 (Or.inl ⟨rfl, rfl, rfl⟩)
            refine kI_call (wc := (tb_W cs (ad 1) (ad 3) 4 30 120 (g_pt o))) (wr := (og_rP cs ad o)) (w1 := tb_W cs (ad 1) (ad 3) 4 30 120 (g_pt o)) (r := (k_X4_at 4 30 (g_pt o) k 1)) hE hP hD hS (k_rV (rest := []) (As := [.int k, .int 1]) hE rfl (hc_63 H.size) (cwV 2 hts gX1_takePeg_X4_at rfl rfl rfl (by decide +kernel) ⟨Nat.le_of_ble_eq_true rfl, Nat.le_of_ble_eq_true rfl⟩) hP hD hS (ci := 4) (q0 := 0) rfl rfl rfl hl rfl (Nat.le_of_ble_eq_true rfl) ⟨Nat.le_of_ble_eq_true rfl, Nat.le_of_ble_eq_true rfl⟩ dX1_takePeg_63) (fun H locs hP hD hS => ?_)
            have hP := og_bPP hP
            have hD := og_bPD hD
            have hP : va_P D vwCl (og_W cs ad o) H := hP
            have hD : va_D A (og_W cs ad o) := hD
            refine lv_iload_n hx hb dX1_takePeg_66 rfl (lv_at hl 3 rfl) ?_
            refine lv_icmp_ne (tgt := 106) hx hb dX1_takePeg_67 (by decide) (fun c_67 => ?_) (fun c_67 => ?_)
            · skip
              have c_67 : ¬ ((k_X4_at 4 30 (g_pt o) k 1) = (k_X4_at 5 12 (g_ot o) vk 2)) := c_67
              rw [if_neg c_67] at hres
              refine lv_iinc (v := (k + 1)) (lv' := [(4, .int (k + 1)), (0, .ref (ad 0)), (1, .int vk), (2, .int (k_X4_at 5 12 (g_ot o) vk 1)), (3, .int (k_X4_at 5 12 (g_ot o) vk 2))]) hx hb dX1_takePeg_106 hl (k := 4) rfl (by rfl) (by decide) rfl (fun ls hl => ?_)
              refine lv_goto (tgt := 23) hx hb dX1_takePeg_109 (by decide) ?_
              exact ih (k + 1) (j + 1) (by rw [hi, nI_1]) (by omega) (nI_ltv hi (by omega) hLn c_32) _ _ _ hS hP hD (lv_sub hl [1, 2, 3, 4, 0] rfl) hres
            · skip
              have c_67 : ((k_X4_at 4 30 (g_pt o) k 1) = (k_X4_at 5 12 (g_ot o) vk 2)) := c_67
              rw [if_pos c_67] at hres
              refine lv_aload_n hx hb dX1_takePeg_70 rfl (lv_at hl 0 rfl) ?_
              refine va_get (D := D) (ci := 1) (v := .ref (ad 5)) (C := RX1) (T := TX1) (N := 17) hx hb hts hinX1 hown hK hP 0 rfl rfl 2 (by decide) lk_3 (fun _ h9 => h9) rfl dX1_takePeg_71 ?_
              refine lv_iload_n hx hb dX1_takePeg_74 rfl (lv_at hl 2 rfl) ?_
              refine lv_dup2_11 hx hb dX1_takePeg_75 rfl rfl ?_
              refine k_iald hx hb hK hP 5 0 (v := ((o.2.2 2) ((k_X4_at 5 12 (g_ot o) vk 1).toNatClampNeg))) rfl rfl (pipe_in c_39) rfl dX1_takePeg_76 ?_
              refine lv_iload_n hx hb dX1_takePeg_77 rfl (lv_at hl 3 rfl) ?_
              refine lv_aload_n hx hb dX1_takePeg_78 rfl (lv_at hl 0 rfl) ?_
              refine va_get (D := D) (ci := 1) (v := .ref (ad 1)) (C := RX1) (T := TX1) (N := 17) hx hb hts hinX1 hown hK hP 0 rfl rfl 0 (by decide) lk_0 (fun _ h9 => h9) rfl dX1_takePeg_79 ?_
              refine lv_iload hx hb dX1_takePeg_82 (lv_at hl 4 rfl) ?_
              refine lv_iconst (v := 2) hx hb dX1_takePeg_84 (by decide) ?_
              have hP : va_P D vwCl ((tb_W cs (ad 1) (ad 3) 4 30 120 (g_pt o)) ++ (og_rP cs ad o)) H := og_cPP hP
              have hD : va_D A ((tb_W cs (ad 1) (ad 3) 4 30 120 (g_pt o)) ++ (og_rP cs ad o)) := og_cPD hD
              have hc_85 := c_X4_at l D cs (ad 1) (ad 3) 4 30 120 (g_pt o) k 2 (Or.inl ⟨rfl, rfl, rfl⟩)
              refine kI_call (wc := (tb_W cs (ad 1) (ad 3) 4 30 120 (g_pt o))) (wr := (og_rP cs ad o)) (w1 := tb_W cs (ad 1) (ad 3) 4 30 120 (g_pt o)) (r := (k_X4_at 4 30 (g_pt o) k 2)) hE hP hD hS (k_rV (rest := [.int (k_X4_at 5 12 (g_ot o) vk 2), .int ((o.2.2 2) ((k_X4_at 5 12 (g_ot o) vk 1).toNatClampNeg)), .int (k_X4_at 5 12 (g_ot o) vk 1), .ref (ad 5)]) (As := [.int k, .int 2]) hE rfl (hc_85 H.size) (cwV 2 hts gX1_takePeg_X4_at rfl rfl rfl (by decide +kernel) ⟨Nat.le_of_ble_eq_true rfl, Nat.le_of_ble_eq_true rfl⟩) hP hD hS (ci := 4) (q0 := 0) rfl rfl rfl hl rfl (Nat.le_of_ble_eq_true rfl) ⟨Nat.le_of_ble_eq_true rfl, Nat.le_of_ble_eq_true rfl⟩ dX1_takePeg_85) (fun H locs hP hD hS => ?_)
              have hP := og_bPP hP
              have hD := og_bPD hD
              have hP : va_P D vwCl (og_W cs ad o) H := hP
              have hD : va_D A (og_W cs ad o) := hD
              have hP : va_P D vwCl ([] ++ (og_W cs ad o)) H := hP
              have hD : va_D A ([] ++ (og_W cs ad o)) := hD
              have hc_88 := c_X5_span l D cs (k_X4_at 5 12 (g_ot o) vk 2) (k_X4_at 4 30 (g_pt o) k 2)
              refine kI_call (wc := []) (wr := (og_W cs ad o)) (w1 := []) (r := (k_X5_span (k_X4_at 5 12 (g_ot o) vk 2) (k_X4_at 4 30 (g_pt o) k 2))) hE hP hD hS (k_rSN (rest := [.int ((o.2.2 2) ((k_X4_at 5 12 (g_ot o) vk 1).toNatClampNeg)), .int (k_X4_at 5 12 (g_ot o) vk 1), .ref (ad 5)]) (As := [.int (k_X4_at 5 12 (g_ot o) vk 2), .int (k_X4_at 4 30 (g_pt o) k 2)]) hE rfl (hc_88 H.size) ⟨va_cnB 2 hts gX1_takePeg_X5_span_n109 rfl rfl rfl (hG.1.2.1 _ _ _ _ nm_X1_109) lk_1 (by decide +kernel) ⟨Nat.le_of_ble_eq_true rfl, Nat.le_of_ble_eq_true rfl⟩, lk_4, trivial⟩ hP hD hS rfl hl rfl (Nat.le_of_ble_eq_true rfl) ⟨Nat.le_of_ble_eq_true rfl, Nat.le_of_ble_eq_true rfl⟩ dX1_takePeg_88) (fun H locs hP hD hS => ?_)
              have hP : va_P D vwCl (og_W cs ad o) H := hP
              have hD : va_D A (og_W cs ad o) := hD
              refine lv_iconst (v := (-1)) hx hb dX1_takePeg_91 (by decide) ?_
              refine lv_ixor hx hb dX1_takePeg_92 ?_
              refine lv_iand hx hb dX1_takePeg_93 ?_
              refine k_iast hx hb hK hP hD hS 5 0 (k := (k_X4_at 5 12 (g_ot o) vk 1).toNatClampNeg) rfl rfl (pipe_in c_39) rfl dX1_takePeg_94 (fun H locs hP hD hS => ?_)
              have hP : va_P D vwCl (og_W cs ad (o_r o 2 (va_up (o.2.2 2) ((k_X4_at 5 12 (g_ot o) vk 1).toNatClampNeg) (((o.2.2 2) ((k_X4_at 5 12 (g_ot o) vk 1).toNatClampNeg)) &&& ((k_X5_span (k_X4_at 5 12 (g_ot o) vk 2) (k_X4_at 4 30 (g_pt o) k 2)) ^^^ (-1)))))) H := hP
              have hD : va_D A (og_W cs ad (o_r o 2 (va_up (o.2.2 2) ((k_X4_at 5 12 (g_ot o) vk 1).toNatClampNeg) (((o.2.2 2) ((k_X4_at 5 12 (g_ot o) vk 1).toNatClampNeg)) &&& ((k_X5_span (k_X4_at 5 12 (g_ot o) vk 2) (k_X4_at 4 30 (g_pt o) k 2)) ^^^ (-1)))))) := hD
              refine lv_aload_n hx hb dX1_takePeg_95 rfl (lv_at hl 0 rfl) ?_
              refine va_get (D := D) (ci := 1) (v := .ref (ad 1)) (C := RX1) (T := TX1) (N := 17) hx hb hts hinX1 hown hK hP 0 rfl rfl 0 (by decide) lk_0 (fun _ h9 => h9) rfl dX1_takePeg_96 ?_
              refine lv_iload hx hb dX1_takePeg_99 (lv_at hl 4 rfl) ?_
              have hP : va_P D vwCl ((tb_W cs (ad 1) (ad 3) 4 30 120 (g_pt o)) ++ (og_rP cs ad (o_r o 2 (va_up (o.2.2 2) ((k_X4_at 5 12 (g_ot o) vk 1).toNatClampNeg) (((o.2.2 2) ((k_X4_at 5 12 (g_ot o) vk 1).toNatClampNeg)) &&& ((k_X5_span (k_X4_at 5 12 (g_ot o) vk 2) (k_X4_at 4 30 (g_pt o) k 2)) ^^^ (-1))))))) H := og_cPP hP
              have hD : va_D A ((tb_W cs (ad 1) (ad 3) 4 30 120 (g_pt o)) ++ (og_rP cs ad (o_r o 2 (va_up (o.2.2 2) ((k_X4_at 5 12 (g_ot o) vk 1).toNatClampNeg) (((o.2.2 2) ((k_X4_at 5 12 (g_ot o) vk 1).toNatClampNeg)) &&& ((k_X5_span (k_X4_at 5 12 (g_ot o) vk 2) (k_X4_at 4 30 (g_pt o) k 2)) ^^^ (-1))))))) := og_cPD hD
              have hc_101 := c_X4_removeLine l D cs (ad 1) (ad 3) 4 30 120 (g_pt o) k (Or.inl ⟨rfl, rfl, rfl⟩) hO.p
              refine kV_call (wc := (tb_W cs (ad 1) (ad 3) 4 30 120 (g_pt o))) (wr := (og_rP cs ad (o_r o 2 (va_up (o.2.2 2) ((k_X4_at 5 12 (g_ot o) vk 1).toNatClampNeg) (((o.2.2 2) ((k_X4_at 5 12 (g_ot o) vk 1).toNatClampNeg)) &&& ((k_X5_span (k_X4_at 5 12 (g_ot o) vk 2) (k_X4_at 4 30 (g_pt o) k 2)) ^^^ (-1))))))) (w1 := fun _ => tb_W cs (ad 1) (ad 3) 4 30 120 (k_X4_removeLine 4 30 (g_pt o) k)) hE hP hD hS (k_rV (rest := []) (As := [.int k]) hE rfl (hc_101 H.size) (cwV 1 hts gX1_takePeg_X4_removeLine rfl rfl rfl (by decide +kernel) ⟨Nat.le_of_ble_eq_true rfl, Nat.le_of_ble_eq_true rfl⟩) hP hD hS (ci := 4) (q0 := 0) rfl rfl rfl hl rfl (Nat.le_of_ble_eq_true rfl) ⟨Nat.le_of_ble_eq_true rfl, Nat.le_of_ble_eq_true rfl⟩ dX1_takePeg_101) (fun _ H locs _ hP hD hS => ?_)
              have hP := og_bPP hP
              have hD := og_bPD hD
              have hP : va_P D vwCl (og_W cs ad (o_pt (o_r o 2 (va_up (o.2.2 2) ((k_X4_at 5 12 (g_ot o) vk 1).toNatClampNeg) (((o.2.2 2) ((k_X4_at 5 12 (g_ot o) vk 1).toNatClampNeg)) &&& ((k_X5_span (k_X4_at 5 12 (g_ot o) vk 2) (k_X4_at 4 30 (g_pt o) k 2)) ^^^ (-1))))) (k_X4_removeLine 4 30 (g_pt o) k))) H := hP
              have hD : va_D A (og_W cs ad (o_pt (o_r o 2 (va_up (o.2.2 2) ((k_X4_at 5 12 (g_ot o) vk 1).toNatClampNeg) (((o.2.2 2) ((k_X4_at 5 12 (g_ot o) vk 1).toNatClampNeg)) &&& ((k_X5_span (k_X4_at 5 12 (g_ot o) vk 2) (k_X4_at 4 30 (g_pt o) k 2)) ^^^ (-1))))) (k_X4_removeLine 4 30 (g_pt o) k))) := hD
              refine lv_iconst (v := 1) hx hb dX1_takePeg_104 (by decide) ?_
              subst hres
              exact kI_ret hE hS hP hD rfl rfl (Nat.le_of_ble_eq_true rfl) (Nat.le_of_ble_eq_true rfl) dX1_takePeg_105
  unfold k_X1_takePeg at hres
  refine lv_aload_n hx hb dX1_takePeg_0 rfl (lv_at hl 0 rfl) ?_
  refine va_get (D := D) (ci := 1) (v := .ref (ad 2)) (C := RX1) (T := TX1) (N := 17) hx hb hts hinX1 hown hK hP 0 rfl rfl 1 (by decide) lk_5 (fun _ h9 => h9) rfl dX1_takePeg_1 ?_
  refine lv_iload_n hx hb dX1_takePeg_4 rfl (lv_at hl 1 rfl) ?_
  refine lv_iconst (v := 1) hx hb dX1_takePeg_5 (by decide) ?_
  have hP : va_P D vwCl ((tb_W cs (ad 2) (ad 4) 5 12 60 (g_ot o)) ++ (og_rO cs ad o)) H := og_cOP hP
  have hD : va_D A ((tb_W cs (ad 2) (ad 4) 5 12 60 (g_ot o)) ++ (og_rO cs ad o)) := og_cOD hD
  have hc_6 := c_X4_at l D cs (ad 2) (ad 4) 5 12 60 (g_ot o) vk 1 (Or.inr ⟨rfl, rfl, rfl⟩)
  refine kI_call (wc := (tb_W cs (ad 2) (ad 4) 5 12 60 (g_ot o))) (wr := (og_rO cs ad o)) (w1 := tb_W cs (ad 2) (ad 4) 5 12 60 (g_ot o)) (r := (k_X4_at 5 12 (g_ot o) vk 1)) hE hP hD hS (k_rV (rest := []) (As := [.int vk, .int 1]) hE rfl (hc_6 H.size) (cwV 2 hts gX1_takePeg_X4_at rfl rfl rfl (by decide +kernel) ⟨Nat.le_of_ble_eq_true rfl, Nat.le_of_ble_eq_true rfl⟩) hP hD hS (ci := 4) (q0 := 0) rfl rfl rfl hl rfl (Nat.le_of_ble_eq_true rfl) ⟨Nat.le_of_ble_eq_true rfl, Nat.le_of_ble_eq_true rfl⟩ dX1_takePeg_6) (fun H locs hP hD hS => ?_)
  have hP := og_bOP hP
  have hD := og_bOD hD
  have hP : va_P D vwCl (og_W cs ad o) H := hP
  have hD : va_D A (og_W cs ad o) := hD
  refine lv_istore_n (lv' := [(2, .int (k_X4_at 5 12 (g_ot o) vk 1)), (0, .ref (ad 0)), (1, .int vk)]) hx hb dX1_takePeg_9 rfl hl (by decide) rfl (fun ls hl => ?_)
  refine lv_aload_n hx hb dX1_takePeg_10 rfl (lv_at hl 1 rfl) ?_
  refine va_get (D := D) (ci := 1) (v := .ref (ad 2)) (C := RX1) (T := TX1) (N := 17) hx hb hts hinX1 hown hK hP 0 rfl rfl 1 (by decide) lk_5 (fun _ h9 => h9) rfl dX1_takePeg_11 ?_
  refine lv_iload_n hx hb dX1_takePeg_14 rfl (lv_at hl 2 rfl) ?_
  refine lv_iconst (v := 2) hx hb dX1_takePeg_15 (by decide) ?_
  have hP : va_P D vwCl ((tb_W cs (ad 2) (ad 4) 5 12 60 (g_ot o)) ++ (og_rO cs ad o)) H := og_cOP hP
  have hD : va_D A ((tb_W cs (ad 2) (ad 4) 5 12 60 (g_ot o)) ++ (og_rO cs ad o)) := og_cOD hD
  have hc_16 := c_X4_at l D cs (ad 2) (ad 4) 5 12 60 (g_ot o) vk 2 (Or.inr ⟨rfl, rfl, rfl⟩)
  refine kI_call (wc := (tb_W cs (ad 2) (ad 4) 5 12 60 (g_ot o))) (wr := (og_rO cs ad o)) (w1 := tb_W cs (ad 2) (ad 4) 5 12 60 (g_ot o)) (r := (k_X4_at 5 12 (g_ot o) vk 2)) hE hP hD hS (k_rV (rest := []) (As := [.int vk, .int 2]) hE rfl (hc_16 H.size) (cwV 2 hts gX1_takePeg_X4_at rfl rfl rfl (by decide +kernel) ⟨Nat.le_of_ble_eq_true rfl, Nat.le_of_ble_eq_true rfl⟩) hP hD hS (ci := 4) (q0 := 0) rfl rfl rfl hl rfl (Nat.le_of_ble_eq_true rfl) ⟨Nat.le_of_ble_eq_true rfl, Nat.le_of_ble_eq_true rfl⟩ dX1_takePeg_16) (fun H locs hP hD hS => ?_)
  have hP := og_bOP hP
  have hD := og_bOD hD
  have hP : va_P D vwCl (og_W cs ad o) H := hP
  have hD : va_D A (og_W cs ad o) := hD
  refine lv_istore_n (lv' := [(3, .int (k_X4_at 5 12 (g_ot o) vk 2)), (2, .int (k_X4_at 5 12 (g_ot o) vk 1)), (0, .ref (ad 0)), (1, .int vk)]) hx hb dX1_takePeg_19 rfl hl (by decide) rfl (fun ls hl => ?_)
  refine lv_iconst (v := 0) hx hb dX1_takePeg_20 (by decide) ?_
  refine lv_istore (lv' := [(4, .int 0), (3, .int (k_X4_at 5 12 (g_ot o) vk 2)), (2, .int (k_X4_at 5 12 (g_ot o) vk 1)), (0, .ref (ad 0)), (1, .int vk)]) hx hb dX1_takePeg_21 hl (by decide) rfl (fun ls hl => ?_)
  exact L23 31 0 0 (nI_0.symm) (rfl) (Nat.zero_le _) _ _ _ hS hP hD (lv_sub hl [3, 4, 2, 1, 0] rfl) hres
set_option maxHeartbeats 4000000 in
set_option maxRecDepth 100000 in
theorem c_X1_lookAtOrders (l : Launch) (D : va_G) (cs : Nat → ClassId) (ad : Nat → Nat) (o : OV) (hO : OI o) : kV l yX1_lookAtOrders wsX1_lookAtOrders { frames := 4, cells := 0, slots := 0, locals := 106 } 0 0 D cs [.ref (ad 0)] (og_W cs ad o) (fun (_ : Unit) => True) (fun _ => og_W cs ad (k_X1_lookAtOrders o)) := by
  generalize hres : k_X1_lookAtOrders o = res
  refine kV_of (cc := cX1_lookAtOrders) (maxL := 4) (ret := none) (by decide) rfl (Nat.le_of_ble_eq_true rfl) ?_
  intro p e s m below meth c A ls H locs hE hS hP hD hl
  obtain ⟨hx, hb, hr, hlocks, hml, hown, hts, hK, hA, hG, hnm⟩ := id hE
  have hown : s.vm.findClass RX1 = some m.cls := hown
  have hl : lv_has ls 4 [(0, .ref (ad 0))] := hl
  have hinX1 : ∀ w ∈ wsX10, w ∈ wsX1_lookAtOrders := by decide +kernel
  have hinX4 : ∀ w ∈ wsX40, w ∈ wsX1_lookAtOrders := by decide +kernel
  have lk_0 := hts (.fieldLink RX1 76 "OrganPegs$Organ" "voids" "I") (by decide +kernel)
  have lk_1 := hts (.fieldLink RX1 57 "OrganPegs$Organ" "version" "I") (by decide +kernel)
  have lk_2 := hts (.fieldLink RX1 20 "OrganPegs$Organ" "orders" "LOrganPegs$Table;") (by decide +kernel)
  obtain ⟨hO1, hO2, hO3, hO4⟩ := id hO
  have L10 : ∀ (n : Nat) (k : Int32) (lft : Int32) (ow : OV)  (h0 : 0 ≤ lft.toInt) (hn : lft.toInt < n) (hO : OI ow) (H : Heap) (locs : List Loc) (ls : Array Slot), va_S A s.heap H locs → va_P D vwCl (og_W cs ad ow) H → va_D A (og_W cs ad ow) → lv_has ls 4 [(0, .ref (ad 0)), (1, .int k), (2, .int lft)] → k_X1_lookAtOrders_L10 o n k lft ow = res → W p l e { frames := 4, cells := 0, slots := 0, locals := 106 } s m ([.ref (ad 0)]).toArray below meth c H locs 0 0 (MQ below (va_Qv (fun (_ : Unit) => True) (kB D (fun _ => og_W cs ad res) A) A) ([.ref (ad 0)]).toArray s 0 0 A) (F0 m 10 ls []) := by
    intro n
    induction n with
    | zero =>
      intro k lft ow h0 hn hO H locs ls hS hP hD hl hres
      exact absurd hn (by omega)
    | succ n ih =>
      intro k lft ow h0 hn hO H locs ls hS hP hD hl hres
      unfold k_X1_lookAtOrders_L10 at hres
      refine lv_iload_n hx hb dX1_lookAtOrders_10 rfl (lv_at hl 2 rfl) ?_
      refine lv_if_le (tgt := 109) hx hb dX1_lookAtOrders_11 (by decide) (fun c_11 => ?_) (fun c_11 => ?_)
      · skip
        have c_11 : (lft ≤ 0) := c_11
        rw [if_pos c_11] at hres
        subst hres
        exact kV_ret () hE hS hP hD trivial (Nat.le_of_ble_eq_true rfl) (Nat.le_of_ble_eq_true rfl) dX1_lookAtOrders_109
      · skip
        have c_11 : ¬ (lft ≤ 0) := c_11
        rw [if_neg c_11] at hres
        refine lv_aload_n hx hb dX1_lookAtOrders_14 rfl (lv_at hl 0 rfl) ?_
        refine lv_iload_n hx hb dX1_lookAtOrders_15 rfl (lv_at hl 1 rfl) ?_
        have hP : va_P D vwCl ((og_W cs ad ow) ++ []) H := k_nP hP
        have hD : va_D A ((og_W cs ad ow) ++ []) := k_nD hD
        have hc_16 := c_X1_goesOnWaiting l D cs ad ow k
        refine kI_call (wc := (og_W cs ad ow)) (wr := []) (w1 := og_W cs ad ow) (r := (k_X1_goesOnWaiting ow k)) hE hP hD hS (k_rV (rest := []) (As := [.int k]) hE rfl (hc_16 H.size) (cwV 1 hts gX1_lookAtOrders_X1_goesOnWaiting rfl rfl rfl (by decide +kernel) ⟨Nat.le_of_ble_eq_true rfl, Nat.le_of_ble_eq_true rfl⟩) hP hD hS (ci := 1) (q0 := 0) rfl rfl rfl hl rfl (Nat.le_of_ble_eq_true rfl) ⟨Nat.le_of_ble_eq_true rfl, Nat.le_of_ble_eq_true rfl⟩ dX1_lookAtOrders_16) (fun H locs hP hD hS => ?_)
        have hP := k_uP hP
        have hD := k_uD hD
        have hP : va_P D vwCl (og_W cs ad ow) H := hP
        have hD : va_D A (og_W cs ad ow) := hD
        refine lv_if_eq (tgt := 48) hx hb dX1_lookAtOrders_19 (by decide) (fun c_19 => ?_) (fun c_19 => ?_)
        · skip
          have c_19 : ((k_X1_goesOnWaiting ow k) = 0) := c_19
          rw [if_pos c_19] at hres
          refine lv_aload_n hx hb dX1_lookAtOrders_48 rfl (lv_at hl 0 rfl) ?_
          refine lv_iload_n hx hb dX1_lookAtOrders_49 rfl (lv_at hl 1 rfl) ?_
          have hP : va_P D vwCl ((og_W cs ad ow) ++ []) H := k_nP hP
          have hD : va_D A ((og_W cs ad ow) ++ []) := k_nD hD
          have hc_50 := c_X1_isPut l D cs ad ow k
          refine kI_call (wc := (og_W cs ad ow)) (wr := []) (w1 := og_W cs ad ow) (r := (k_X1_isPut ow k)) hE hP hD hS (k_rV (rest := []) (As := [.int k]) hE rfl (hc_50 H.size) (cwV 1 hts gX1_lookAtOrders_X1_isPut rfl rfl rfl (by decide +kernel) ⟨Nat.le_of_ble_eq_true rfl, Nat.le_of_ble_eq_true rfl⟩) hP hD hS (ci := 1) (q0 := 0) rfl rfl rfl hl rfl (Nat.le_of_ble_eq_true rfl) ⟨Nat.le_of_ble_eq_true rfl, Nat.le_of_ble_eq_true rfl⟩ dX1_lookAtOrders_50) (fun H locs hP hD hS => ?_)
          have hP := k_uP hP
          have hD := k_uD hD
          have hP : va_P D vwCl (og_W cs ad ow) H := hP
          have hD : va_D A (og_W cs ad ow) := hD
          refine lv_if_eq (tgt := 64) hx hb dX1_lookAtOrders_53 (by decide) (fun c_53 => ?_) (fun c_53 => ?_)
          · skip
            have c_53 : ((k_X1_isPut ow k) = 0) := c_53
            rw [if_pos c_53] at hres
            refine lv_aload_n hx hb dX1_lookAtOrders_64 rfl (lv_at hl 0 rfl) ?_
            refine lv_iload_n hx hb dX1_lookAtOrders_65 rfl (lv_at hl 1 rfl) ?_
            have hP : va_P D vwCl ((og_W cs ad ow) ++ []) H := k_nP hP
            have hD : va_D A ((og_W cs ad ow) ++ []) := k_nD hD
            have hc_66 := c_X1_takePeg l D cs ad ow k hO
            obtain ⟨r_66, o_66, e_66⟩ : ∃ r9 o9, (k_X1_takePeg ow k) = (r9, o9) := ⟨_, _, rfl⟩
            rw [e_66] at hc_66 hres
            dsimp only at hc_66 hres
            refine kI_call (wc := (og_W cs ad ow)) (wr := []) (w1 := og_W cs ad o_66) (r := r_66) hE hP hD hS (k_rV (rest := []) (As := [.int k]) hE rfl (hc_66 H.size) (cwV 1 hts gX1_lookAtOrders_X1_takePeg rfl rfl rfl (by decide +kernel) ⟨Nat.le_of_ble_eq_true rfl, Nat.le_of_ble_eq_true rfl⟩) hP hD hS (ci := 1) (q0 := 0) rfl rfl rfl hl rfl (Nat.le_of_ble_eq_true rfl) ⟨Nat.le_of_ble_eq_true rfl, Nat.le_of_ble_eq_true rfl⟩ dX1_lookAtOrders_66) (fun H locs hP hD hS => ?_)
            have hP := k_uP hP
            have hD := k_uD hD
            have hP : va_P D vwCl (og_W cs ad o_66) H := hP
            have hD : va_D A (og_W cs ad o_66) := hD
            refine lv_istore_n (lv' := [(3, .int r_66), (0, .ref (ad 0)), (1, .int k), (2, .int lft)]) hx hb dX1_lookAtOrders_69 rfl hl (by decide) rfl (fun ls hl => ?_)
            refine lv_iload_n hx hb dX1_lookAtOrders_70 rfl (lv_at hl 0 rfl) ?_
            refine lv_if_eq (tgt := 87) hx hb dX1_lookAtOrders_71 (by decide) (fun c_71 => ?_) (fun c_71 => ?_)
            · skip
              have c_71 : (r_66 = 0) := c_71
              rw [if_pos c_71] at hres
              refine lv_aload_n hx hb dX1_lookAtOrders_87 rfl (lv_at hl 1 rfl) ?_
              refine lv_dup hx hb dX1_lookAtOrders_88 rfl ?_
              refine va_get (D := D) (ci := 1) (v := .int (o_66.1 8)) (C := RX1) (T := TX1) (N := 17) hx hb hts hinX1 hown hK hP 0 rfl rfl 15 (by decide) lk_0 (fun _ h9 => h9) rfl dX1_lookAtOrders_89 ?_
              refine lv_iconst (v := 1) hx hb dX1_lookAtOrders_92 (by decide) ?_
              refine lv_iadd hx hb dX1_lookAtOrders_93 ?_
              refine va_put (D := D) (ci := 1) (v := .int ((o_66.1 8) + 1)) (ty := .int) (C := RX1) (T := TX1) (N := 17) hx hb hts hinX1 tyX1 tyX1_ok nmX1 hown hK hP hD hS 0 rfl rfl 15 (by decide) lk_0 (fun _ h9 => h9) rfl (by decide +kernel) rfl rfl (Nat.le_of_ble_eq_true rfl) dX1_lookAtOrders_94 (fun H locs hP hD hS => ?_)
              have hP : va_P D vwCl (og_W cs ad (o_s o_66 8 ((o_66.1 8) + 1))) H := hP
              have hD : va_D A (og_W cs ad (o_s o_66 8 ((o_66.1 8) + 1))) := hD
              refine lv_aload_n hx hb dX1_lookAtOrders_97 rfl (lv_at hl 1 rfl) ?_
              refine lv_iload_n hx hb dX1_lookAtOrders_98 rfl (lv_at hl 2 rfl) ?_
              have hP : va_P D vwCl ((og_W cs ad (o_s o_66 8 ((o_66.1 8) + 1))) ++ []) H := k_nP hP
              have hD : va_D A ((og_W cs ad (o_s o_66 8 ((o_66.1 8) + 1))) ++ []) := k_nD hD
              have hc_99 := c_X1_dropOrder l D cs ad (o_s o_66 8 ((o_66.1 8) + 1)) k (by first | exact (show OI o_58 from OI_placeE e_58 hO) | exact (show OI o_66 from OI_takeE e_66 hO))
              obtain ⟨r_99, o_99, e_99⟩ : ∃ r9 o9, (k_X1_dropOrder (o_s o_66 8 ((o_66.1 8) + 1)) k) = (r9, o9) := ⟨_, _, rfl⟩
              rw [e_99] at hc_99 hres
              dsimp only at hc_99 hres
              refine kI_call (wc := (og_W cs ad (o_s o_66 8 ((o_66.1 8) + 1)))) (wr := []) (w1 := og_W cs ad o_99) (r := r_99) hE hP hD hS (k_rV (rest := []) (As := [.int k]) hE rfl (hc_99 H.size) (cwV 1 hts gX1_lookAtOrders_X1_dropOrder rfl rfl rfl (by decide +kernel) ⟨Nat.le_of_ble_eq_true rfl, Nat.le_of_ble_eq_true rfl⟩) hP hD hS (ci := 1) (q0 := 0) rfl rfl rfl hl rfl (Nat.le_of_ble_eq_true rfl) ⟨Nat.le_of_ble_eq_true rfl, Nat.le_of_ble_eq_true rfl⟩ dX1_lookAtOrders_99) (fun H locs hP hD hS => ?_)
              have hP := k_uP hP
              have hD := k_uD hD
              have hP : va_P D vwCl (og_W cs ad o_99) H := hP
              have hD : va_D A (og_W cs ad o_99) := hD
              refine lv_pop hx hb dX1_lookAtOrders_102 rfl ?_
              refine lv_iinc (v := (lft + (-1))) (lv' := [(2, .int (lft + (-1))), (3, .int r_66), (0, .ref (ad 0)), (1, .int k)]) hx hb dX1_lookAtOrders_103 hl (k := 3) rfl (by rfl) (by decide) rfl (fun ls hl => ?_)
              refine lv_goto (tgt := 10) hx hb dX1_lookAtOrders_106 (by decide) ?_
              exact ih k (lft + (-1)) o_99 (by have := i_dec c_11; omega) (by have := i_dec c_11; omega) (by first | exact OI_ot hO (TI_write hO.q) | exact OI_dropE e_99 (show OI o_58 from OI_placeE e_58 hO) | exact OI_dropE e_99 (show OI o_66 from OI_takeE e_66 hO)) _ _ _ hS hP hD (lv_sub hl [2, 3, 0] rfl) hres
            · skip
              have c_71 : ¬ (r_66 = 0) := c_71
              rw [if_neg c_71] at hres
              refine lv_aload_n hx hb dX1_lookAtOrders_74 rfl (lv_at hl 1 rfl) ?_
              refine lv_dup hx hb dX1_lookAtOrders_75 rfl ?_
              refine va_get (D := D) (ci := 1) (v := .int (o_66.1 3)) (C := RX1) (T := TX1) (N := 17) hx hb hts hinX1 hown hK hP 0 rfl rfl 9 (by decide) lk_1 (fun _ h9 => h9) rfl dX1_lookAtOrders_76 ?_
              refine lv_iconst (v := 1) hx hb dX1_lookAtOrders_79 (by decide) ?_
              refine lv_iadd hx hb dX1_lookAtOrders_80 ?_
              refine va_put (D := D) (ci := 1) (v := .int ((o_66.1 3) + 1)) (ty := .int) (C := RX1) (T := TX1) (N := 17) hx hb hts hinX1 tyX1 tyX1_ok nmX1 hown hK hP hD hS 0 rfl rfl 9 (by decide) lk_1 (fun _ h9 => h9) rfl (by decide +kernel) rfl rfl (Nat.le_of_ble_eq_true rfl) dX1_lookAtOrders_81 (fun H locs hP hD hS => ?_)
              have hP : va_P D vwCl (og_W cs ad (o_s o_66 3 ((o_66.1 3) + 1))) H := hP
              have hD : va_D A (og_W cs ad (o_s o_66 3 ((o_66.1 3) + 1))) := hD
              refine lv_goto (tgt := 97) hx hb dX1_lookAtOrders_84 (by decide) ?_
              refine lv_aload_n hx hb dX1_lookAtOrders_97 rfl (lv_at hl 1 rfl) ?_
              refine lv_iload_n hx hb dX1_lookAtOrders_98 rfl (lv_at hl 2 rfl) ?_
              have hP : va_P D vwCl ((og_W cs ad (o_s o_66 3 ((o_66.1 3) + 1))) ++ []) H := k_nP hP
              have hD : va_D A ((og_W cs ad (o_s o_66 3 ((o_66.1 3) + 1))) ++ []) := k_nD hD
              have hc_99 := c_X1_dropOrder l D cs ad (o_s o_66 3 ((o_66.1 3) + 1)) k (by first | exact (show OI o_58 from OI_placeE e_58 hO) | exact (show OI o_66 from OI_takeE e_66 hO))
              obtain ⟨r_99, o_99, e_99⟩ : ∃ r9 o9, (k_X1_dropOrder (o_s o_66 3 ((o_66.1 3) + 1)) k) = (r9, o9) := ⟨_, _, rfl⟩
              rw [e_99] at hc_99 hres
              dsimp only at hc_99 hres
              refine kI_call (wc := (og_W cs ad (o_s o_66 3 ((o_66.1 3) + 1)))) (wr := []) (w1 := og_W cs ad o_99) (r := r_99) hE hP hD hS (k_rV (rest := []) (As := [.int k]) hE rfl (hc_99 H.size) (cwV 1 hts gX1_lookAtOrders_X1_dropOrder rfl rfl rfl (by decide +kernel) ⟨Nat.le_of_ble_eq_true rfl, Nat.le_of_ble_eq_true rfl⟩) hP hD hS (ci := 1) (q0 := 0) rfl rfl rfl hl rfl (Nat.le_of_ble_eq_true rfl) ⟨Nat.le_of_ble_eq_true rfl, Nat.le_of_ble_eq_true rfl⟩ dX1_lookAtOrders_99) (fun H locs hP hD hS => ?_)
              have hP := k_uP hP
              have hD := k_uD hD
              have hP : va_P D vwCl (og_W cs ad o_99) H := hP
              have hD : va_D A (og_W cs ad o_99) := hD
              refine lv_pop hx hb dX1_lookAtOrders_102 rfl ?_
              refine lv_iinc (v := (lft + (-1))) (lv' := [(2, .int (lft + (-1))), (3, .int r_66), (0, .ref (ad 0)), (1, .int k)]) hx hb dX1_lookAtOrders_103 hl (k := 3) rfl (by rfl) (by decide) rfl (fun ls hl => ?_)
              refine lv_goto (tgt := 10) hx hb dX1_lookAtOrders_106 (by decide) ?_
              exact ih k (lft + (-1)) o_99 (by have := i_dec c_11; omega) (by have := i_dec c_11; omega) (by first | exact OI_ot hO (TI_write hO.q) | exact OI_dropE e_99 (show OI o_58 from OI_placeE e_58 hO) | exact OI_dropE e_99 (show OI o_66 from OI_takeE e_66 hO)) _ _ _ hS hP hD (lv_sub hl [2, 3, 0] rfl) hres
          · skip
            have c_53 : ¬ ((k_X1_isPut ow k) = 0) := c_53
            rw [if_neg c_53] at hres
            refine lv_aload_n hx hb dX1_lookAtOrders_56 rfl (lv_at hl 0 rfl) ?_
            refine lv_iload_n hx hb dX1_lookAtOrders_57 rfl (lv_at hl 1 rfl) ?_
            have hP : va_P D vwCl ((og_W cs ad ow) ++ []) H := k_nP hP
            have hD : va_D A ((og_W cs ad ow) ++ []) := k_nD hD
            have hc_58 := c_X1_placePeg l D cs ad ow k
            obtain ⟨r_58, o_58, e_58⟩ : ∃ r9 o9, (k_X1_placePeg ow k) = (r9, o9) := ⟨_, _, rfl⟩
            rw [e_58] at hc_58 hres
            dsimp only at hc_58 hres
            refine kI_call (wc := (og_W cs ad ow)) (wr := []) (w1 := og_W cs ad o_58) (r := r_58) hE hP hD hS (k_rV (rest := []) (As := [.int k]) hE rfl (hc_58 H.size) (cwV 1 hts gX1_lookAtOrders_X1_placePeg rfl rfl rfl (by decide +kernel) ⟨Nat.le_of_ble_eq_true rfl, Nat.le_of_ble_eq_true rfl⟩) hP hD hS (ci := 1) (q0 := 0) rfl rfl rfl hl rfl (Nat.le_of_ble_eq_true rfl) ⟨Nat.le_of_ble_eq_true rfl, Nat.le_of_ble_eq_true rfl⟩ dX1_lookAtOrders_58) (fun H locs hP hD hS => ?_)
            have hP := k_uP hP
            have hD := k_uD hD
            have hP : va_P D vwCl (og_W cs ad o_58) H := hP
            have hD : va_D A (og_W cs ad o_58) := hD
            refine lv_goto (tgt := 69) hx hb dX1_lookAtOrders_61 (by decide) ?_
            refine lv_istore_n (lv' := [(3, .int r_58), (0, .ref (ad 0)), (1, .int k), (2, .int lft)]) hx hb dX1_lookAtOrders_69 rfl hl (by decide) rfl (fun ls hl => ?_)
            refine lv_iload_n hx hb dX1_lookAtOrders_70 rfl (lv_at hl 0 rfl) ?_
            refine lv_if_eq (tgt := 87) hx hb dX1_lookAtOrders_71 (by decide) (fun c_71 => ?_) (fun c_71 => ?_)
            · skip
              have c_71 : (r_58 = 0) := c_71
              rw [if_pos c_71] at hres
              refine lv_aload_n hx hb dX1_lookAtOrders_87 rfl (lv_at hl 1 rfl) ?_
              refine lv_dup hx hb dX1_lookAtOrders_88 rfl ?_
              refine va_get (D := D) (ci := 1) (v := .int (o_58.1 8)) (C := RX1) (T := TX1) (N := 17) hx hb hts hinX1 hown hK hP 0 rfl rfl 15 (by decide) lk_0 (fun _ h9 => h9) rfl dX1_lookAtOrders_89 ?_
              refine lv_iconst (v := 1) hx hb dX1_lookAtOrders_92 (by decide) ?_
              refine lv_iadd hx hb dX1_lookAtOrders_93 ?_
              refine va_put (D := D) (ci := 1) (v := .int ((o_58.1 8) + 1)) (ty := .int) (C := RX1) (T := TX1) (N := 17) hx hb hts hinX1 tyX1 tyX1_ok nmX1 hown hK hP hD hS 0 rfl rfl 15 (by decide) lk_0 (fun _ h9 => h9) rfl (by decide +kernel) rfl rfl (Nat.le_of_ble_eq_true rfl) dX1_lookAtOrders_94 (fun H locs hP hD hS => ?_)
              have hP : va_P D vwCl (og_W cs ad (o_s o_58 8 ((o_58.1 8) + 1))) H := hP
              have hD : va_D A (og_W cs ad (o_s o_58 8 ((o_58.1 8) + 1))) := hD
              refine lv_aload_n hx hb dX1_lookAtOrders_97 rfl (lv_at hl 1 rfl) ?_
              refine lv_iload_n hx hb dX1_lookAtOrders_98 rfl (lv_at hl 2 rfl) ?_
              have hP : va_P D vwCl ((og_W cs ad (o_s o_58 8 ((o_58.1 8) + 1))) ++ []) H := k_nP hP
              have hD : va_D A ((og_W cs ad (o_s o_58 8 ((o_58.1 8) + 1))) ++ []) := k_nD hD
              have hc_99 := c_X1_dropOrder l D cs ad (o_s o_58 8 ((o_58.1 8) + 1)) k (by first | exact (show OI o_58 from OI_placeE e_58 hO) | exact (show OI o_66 from OI_takeE e_66 hO))
              obtain ⟨r_99, o_99, e_99⟩ : ∃ r9 o9, (k_X1_dropOrder (o_s o_58 8 ((o_58.1 8) + 1)) k) = (r9, o9) := ⟨_, _, rfl⟩
              rw [e_99] at hc_99 hres
              dsimp only at hc_99 hres
              refine kI_call (wc := (og_W cs ad (o_s o_58 8 ((o_58.1 8) + 1)))) (wr := []) (w1 := og_W cs ad o_99) (r := r_99) hE hP hD hS (k_rV (rest := []) (As := [.int k]) hE rfl (hc_99 H.size) (cwV 1 hts gX1_lookAtOrders_X1_dropOrder rfl rfl rfl (by decide +kernel) ⟨Nat.le_of_ble_eq_true rfl, Nat.le_of_ble_eq_true rfl⟩) hP hD hS (ci := 1) (q0 := 0) rfl rfl rfl hl rfl (Nat.le_of_ble_eq_true rfl) ⟨Nat.le_of_ble_eq_true rfl, Nat.le_of_ble_eq_true rfl⟩ dX1_lookAtOrders_99) (fun H locs hP hD hS => ?_)
              have hP := k_uP hP
              have hD := k_uD hD
              have hP : va_P D vwCl (og_W cs ad o_99) H := hP
              have hD : va_D A (og_W cs ad o_99) := hD
              refine lv_pop hx hb dX1_lookAtOrders_102 rfl ?_
              refine lv_iinc (v := (lft + (-1))) (lv' := [(2, .int (lft + (-1))), (3, .int r_58), (0, .ref (ad 0)), (1, .int k)]) hx hb dX1_lookAtOrders_103 hl (k := 3) rfl (by rfl) (by decide) rfl (fun ls hl => ?_)
              refine lv_goto (tgt := 10) hx hb dX1_lookAtOrders_106 (by decide) ?_
              exact ih k (lft + (-1)) o_99 (by have := i_dec c_11; omega) (by have := i_dec c_11; omega) (by first | exact OI_ot hO (TI_write hO.q) | exact OI_dropE e_99 (show OI o_58 from OI_placeE e_58 hO) | exact OI_dropE e_99 (show OI o_66 from OI_takeE e_66 hO)) _ _ _ hS hP hD (lv_sub hl [2, 3, 0] rfl) hres
            · skip
              have c_71 : ¬ (r_58 = 0) := c_71
              rw [if_neg c_71] at hres
              refine lv_aload_n hx hb dX1_lookAtOrders_74 rfl (lv_at hl 1 rfl) ?_
              refine lv_dup hx hb dX1_lookAtOrders_75 rfl ?_
              refine va_get (D := D) (ci := 1) (v := .int (o_58.1 3)) (C := RX1) (T := TX1) (N := 17) hx hb hts hinX1 hown hK hP 0 rfl rfl 9 (by decide) lk_1 (fun _ h9 => h9) rfl dX1_lookAtOrders_76 ?_
              refine lv_iconst (v := 1) hx hb dX1_lookAtOrders_79 (by decide) ?_
              refine lv_iadd hx hb dX1_lookAtOrders_80 ?_
              refine va_put (D := D) (ci := 1) (v := .int ((o_58.1 3) + 1)) (ty := .int) (C := RX1) (T := TX1) (N := 17) hx hb hts hinX1 tyX1 tyX1_ok nmX1 hown hK hP hD hS 0 rfl rfl 9 (by decide) lk_1 (fun _ h9 => h9) rfl (by decide +kernel) rfl rfl (Nat.le_of_ble_eq_true rfl) dX1_lookAtOrders_81 (fun H locs hP hD hS => ?_)
              have hP : va_P D vwCl (og_W cs ad (o_s o_58 3 ((o_58.1 3) + 1))) H := hP
              have hD : va_D A (og_W cs ad (o_s o_58 3 ((o_58.1 3) + 1))) := hD
              refine lv_goto (tgt := 97) hx hb dX1_lookAtOrders_84 (by decide) ?_
              refine lv_aload_n hx hb dX1_lookAtOrders_97 rfl (lv_at hl 1 rfl) ?_
              refine lv_iload_n hx hb dX1_lookAtOrders_98 rfl (lv_at hl 2 rfl) ?_
              have hP : va_P D vwCl ((og_W cs ad (o_s o_58 3 ((o_58.1 3) + 1))) ++ []) H := k_nP hP
              have hD : va_D A ((og_W cs ad (o_s o_58 3 ((o_58.1 3) + 1))) ++ []) := k_nD hD
              have hc_99 := c_X1_dropOrder l D cs ad (o_s o_58 3 ((o_58.1 3) + 1)) k (by first | exact (show OI o_58 from OI_placeE e_58 hO) | exact (show OI o_66 from OI_takeE e_66 hO))
              obtain ⟨r_99, o_99, e_99⟩ : ∃ r9 o9, (k_X1_dropOrder (o_s o_58 3 ((o_58.1 3) + 1)) k) = (r9, o9) := ⟨_, _, rfl⟩
              rw [e_99] at hc_99 hres
              dsimp only at hc_99 hres
              refine kI_call (wc := (og_W cs ad (o_s o_58 3 ((o_58.1 3) + 1)))) (wr := []) (w1 := og_W cs ad o_99) (r := r_99) hE hP hD hS (k_rV (rest := []) (As := [.int k]) hE rfl (hc_99 H.size) (cwV 1 hts gX1_lookAtOrders_X1_dropOrder rfl rfl rfl (by decide +kernel) ⟨Nat.le_of_ble_eq_true rfl, Nat.le_of_ble_eq_true rfl⟩) hP hD hS (ci := 1) (q0 := 0) rfl rfl rfl hl rfl (Nat.le_of_ble_eq_true rfl) ⟨Nat.le_of_ble_eq_true rfl, Nat.le_of_ble_eq_true rfl⟩ dX1_lookAtOrders_99) (fun H locs hP hD hS => ?_)
              have hP := k_uP hP
              have hD := k_uD hD
              have hP : va_P D vwCl (og_W cs ad o_99) H := hP
              have hD : va_D A (og_W cs ad o_99) := hD
              refine lv_pop hx hb dX1_lookAtOrders_102 rfl ?_
              refine lv_iinc (v := (lft + (-1))) (lv' := [(2, .int (lft + (-1))), (3, .int r_58), (0, .ref (ad 0)), (1, .int k)]) hx hb dX1_lookAtOrders_103 hl (k := 3) rfl (by rfl) (by decide) rfl (fun ls hl => ?_)
              refine lv_goto (tgt := 10) hx hb dX1_lookAtOrders_106 (by decide) ?_
              exact ih k (lft + (-1)) o_99 (by have := i_dec c_11; omega) (by have := i_dec c_11; omega) (by first | exact OI_ot hO (TI_write hO.q) | exact OI_dropE e_99 (show OI o_58 from OI_placeE e_58 hO) | exact OI_dropE e_99 (show OI o_66 from OI_takeE e_66 hO)) _ _ _ hS hP hD (lv_sub hl [2, 3, 0] rfl) hres
        · skip
          have c_19 : ¬ ((k_X1_goesOnWaiting ow k) = 0) := c_19
          rw [if_neg c_19] at hres
          refine lv_aload_n hx hb dX1_lookAtOrders_22 rfl (lv_at hl 0 rfl) ?_
          refine va_get (D := D) (ci := 1) (v := .ref (ad 2)) (C := RX1) (T := TX1) (N := 17) hx hb hts hinX1 hown hK hP 0 rfl rfl 1 (by decide) lk_2 (fun _ h9 => h9) rfl dX1_lookAtOrders_23 ?_
          refine lv_iload_n hx hb dX1_lookAtOrders_26 rfl (lv_at hl 1 rfl) ?_
          refine lv_iconst (v := 4) hx hb dX1_lookAtOrders_27 (by decide) ?_
          refine lv_aload_n hx hb dX1_lookAtOrders_28 rfl (lv_at hl 0 rfl) ?_
          refine va_get (D := D) (ci := 1) (v := .ref (ad 2)) (C := RX1) (T := TX1) (N := 17) hx hb hts hinX1 hown hK hP 0 rfl rfl 1 (by decide) lk_2 (fun _ h9 => h9) rfl dX1_lookAtOrders_29 ?_
          refine lv_iload_n hx hb dX1_lookAtOrders_32 rfl (lv_at hl 1 rfl) ?_
          refine lv_iconst (v := 4) hx hb dX1_lookAtOrders_33 (by decide) ?_
          have hP : va_P D vwCl ((tb_W cs (ad 2) (ad 4) 5 12 60 (g_ot ow)) ++ (og_rO cs ad ow)) H := og_cOP hP
          have hD : va_D A ((tb_W cs (ad 2) (ad 4) 5 12 60 (g_ot ow)) ++ (og_rO cs ad ow)) := og_cOD hD
          have hc_34 := c_X4_at l D cs (ad 2) (ad 4) 5 12 60 (g_ot ow) k 4 (Or.inr ⟨rfl, rfl, rfl⟩)
          refine kI_call (wc := (tb_W cs (ad 2) (ad 4) 5 12 60 (g_ot ow))) (wr := (og_rO cs ad ow)) (w1 := tb_W cs (ad 2) (ad 4) 5 12 60 (g_ot ow)) (r := (k_X4_at 5 12 (g_ot ow) k 4)) hE hP hD hS (k_rV (rest := [.int 4, .int k, .ref (ad 2)]) (As := [.int k, .int 4]) hE rfl (hc_34 H.size) (cwV 2 hts gX1_lookAtOrders_X4_at rfl rfl rfl (by decide +kernel) ⟨Nat.le_of_ble_eq_true rfl, Nat.le_of_ble_eq_true rfl⟩) hP hD hS (ci := 4) (q0 := 0) rfl rfl rfl hl rfl (Nat.le_of_ble_eq_true rfl) ⟨Nat.le_of_ble_eq_true rfl, Nat.le_of_ble_eq_true rfl⟩ dX1_lookAtOrders_34) (fun H locs hP hD hS => ?_)
          have hP := og_bOP hP
          have hD := og_bOD hD
          have hP : va_P D vwCl (og_W cs ad ow) H := hP
          have hD : va_D A (og_W cs ad ow) := hD
          refine lv_iconst (v := 1) hx hb dX1_lookAtOrders_37 (by decide) ?_
          refine lv_iadd hx hb dX1_lookAtOrders_38 ?_
          have hP : va_P D vwCl ((tb_W cs (ad 2) (ad 4) 5 12 60 (g_ot ow)) ++ (og_rO cs ad ow)) H := og_cOP hP
          have hD : va_D A ((tb_W cs (ad 2) (ad 4) 5 12 60 (g_ot ow)) ++ (og_rO cs ad ow)) := og_cOD hD
          have hc_39 := c_X4_write l D cs (ad 2) (ad 4) 5 12 60 (g_ot ow) k 4 ((k_X4_at 5 12 (g_ot ow) k 4) + 1) (Or.inr ⟨rfl, rfl, rfl⟩)
          refine kV_call (wc := (tb_W cs (ad 2) (ad 4) 5 12 60 (g_ot ow))) (wr := (og_rO cs ad ow)) (w1 := fun _ => tb_W cs (ad 2) (ad 4) 5 12 60 (k_X4_write 5 12 (g_ot ow) k 4 ((k_X4_at 5 12 (g_ot ow) k 4) + 1))) hE hP hD hS (k_rV (rest := []) (As := [.int k, .int 4, .int ((k_X4_at 5 12 (g_ot ow) k 4) + 1)]) hE rfl (hc_39 H.size) (cwV 3 hts gX1_lookAtOrders_X4_write rfl rfl rfl (by decide +kernel) ⟨Nat.le_of_ble_eq_true rfl, Nat.le_of_ble_eq_true rfl⟩) hP hD hS (ci := 4) (q0 := 0) rfl rfl rfl hl rfl (Nat.le_of_ble_eq_true rfl) ⟨Nat.le_of_ble_eq_true rfl, Nat.le_of_ble_eq_true rfl⟩ dX1_lookAtOrders_39) (fun _ H locs _ hP hD hS => ?_)
          have hP := og_bOP hP
          have hD := og_bOD hD
          have hP : va_P D vwCl (og_W cs ad (o_ot ow (k_X4_write 5 12 (g_ot ow) k 4 ((k_X4_at 5 12 (g_ot ow) k 4) + 1)))) H := hP
          have hD : va_D A (og_W cs ad (o_ot ow (k_X4_write 5 12 (g_ot ow) k 4 ((k_X4_at 5 12 (g_ot ow) k 4) + 1)))) := hD
          refine lv_iinc (v := (k + 1)) (lv' := [(1, .int (k + 1)), (0, .ref (ad 0)), (2, .int lft)]) hx hb dX1_lookAtOrders_42 hl (k := 1) rfl (by rfl) (by decide) rfl (fun ls hl => ?_)
          refine lv_goto (tgt := 103) hx hb dX1_lookAtOrders_45 (by decide) ?_
          refine lv_iinc (v := (lft + (-1))) (lv' := [(2, .int (lft + (-1))), (1, .int (k + 1)), (0, .ref (ad 0))]) hx hb dX1_lookAtOrders_103 hl (k := 2) rfl (by rfl) (by decide) rfl (fun ls hl => ?_)
          refine lv_goto (tgt := 10) hx hb dX1_lookAtOrders_106 (by decide) ?_
          exact ih (k + 1) (lft + (-1)) (o_ot ow (k_X4_write 5 12 (g_ot ow) k 4 ((k_X4_at 5 12 (g_ot ow) k 4) + 1))) (by have := i_dec c_11; omega) (by have := i_dec c_11; omega) (by first | exact OI_ot hO (TI_write hO.q) | exact OI_dropE e_99 (show OI o_58 from OI_placeE e_58 hO) | exact OI_dropE e_99 (show OI o_66 from OI_takeE e_66 hO)) _ _ _ hS hP hD (lv_sub hl [2, 1, 0] rfl) hres
  unfold k_X1_lookAtOrders at hres
  refine lv_iconst (v := 0) hx hb dX1_lookAtOrders_0 (by decide) ?_
  refine lv_istore_n (lv' := [(1, .int 0), (0, .ref (ad 0))]) hx hb dX1_lookAtOrders_1 rfl hl (by decide) rfl (fun ls hl => ?_)
  refine lv_aload_n hx hb dX1_lookAtOrders_2 rfl (lv_at hl 1 rfl) ?_
  refine va_get (D := D) (ci := 1) (v := .ref (ad 2)) (C := RX1) (T := TX1) (N := 17) hx hb hts hinX1 hown hK hP 0 rfl rfl 1 (by decide) lk_2 (fun _ h9 => h9) rfl dX1_lookAtOrders_3 ?_
  refine va_getN (D := D) (ci := 4) (v := .int (o.1 11)) (C := RX4) (T := TX4) (N := 4) hx hb hts hinX4 hown hK hP 3 rfl rfl 3 (by decide) (va_Nw.use rfl (hG.1.1 _ _ _ _ _ _ nf_X1_79)) (fun _ h9 => h9) rfl dX1_lookAtOrders_6 ?_
  refine lv_istore_n (lv' := [(2, .int (o.1 11)), (1, .int 0), (0, .ref (ad 0))]) hx hb dX1_lookAtOrders_9 rfl hl (by decide) rfl (fun ls hl => ?_)
  exact L10 13 0 (o.1 11) o (hO3) (by omega) (hO) _ _ _ hS hP hD (lv_sub hl [2, 1, 0] rfl) hres
set_option maxHeartbeats 4000000 in
set_option maxRecDepth 100000 in
theorem c_X1_blowPipes (l : Launch) (D : va_G) (cs : Nat → ClassId) (ad : Nat → Nat) (o : OV)  : kV l yX1_blowPipes wsX1_blowPipes { frames := 2, cells := 0, slots := 0, locals := 45 } 0 0 D cs [.ref (ad 0)] (og_W cs ad o) (fun (_ : Unit) => True) (fun _ => og_W cs ad (k_X1_blowPipes o)) := by
  generalize hres : k_X1_blowPipes o = res
  refine kV_of (cc := cX1_blowPipes) (maxL := 3) (ret := none) (by decide) rfl (Nat.le_of_ble_eq_true rfl) ?_
  intro p e s m below meth c A ls H locs hE hS hP hD hl
  obtain ⟨hx, hb, hr, hlocks, hml, hown, hts, hK, hA, hG, hnm⟩ := id hE
  have hown : s.vm.findClass RX1 = some m.cls := hown
  have hl : lv_has ls 3 [(0, .ref (ad 0))] := hl
  have hinX1 : ∀ w ∈ wsX10, w ∈ wsX1_blowPipes := by decide +kernel
  have lk_0 := hts (.fieldLink RX1 63 "OrganPegs$Organ" "past" "J") (by decide +kernel)
  have lk_1 := hts (.fieldLink RX1 33 "OrganPegs$Organ" "settings" "[I") (by decide +kernel)
  have lk_2 := hts (.fieldLink RX1 67 "OrganPegs$Organ" "heard" "I") (by decide +kernel)
  have lk_3 := hts (.fieldLink RX1 51 "OrganPegs$Organ" "comb" "I") (by decide +kernel)
  have lk_4 := hts (.fieldLink RX1 60 "OrganPegs$Organ" "wind" "I") (by decide +kernel)
  have lk_5 := hts (.fieldLink RX1 73 "OrganPegs$Organ" "lacks" "I") (by decide +kernel)
  have lk_6 := hts (.fieldLink RX1 30 "OrganPegs$Organ" "pipeLacks" "[I") (by decide +kernel)
  have lk_7 := hts (.fieldLink RX1 70 "OrganPegs$Organ" "notes" "I") (by decide +kernel)
  have lk_8 := hts (.fieldLink RX1 27 "OrganPegs$Organ" "pipeNotes" "[I") (by decide +kernel)
  have L4 : ∀ (n : Nat) (i : Int32) (acc : Int32) (ow : OV) (j : Nat) (hi : i = nI j) (hj : j + n = 7) (hj2 : j ≤ 6) (H : Heap) (locs : List Loc) (ls : Array Slot), va_S A s.heap H locs → va_P D vwCl (og_W cs ad ow) H → va_D A (og_W cs ad ow) → lv_has ls 3 [(0, .ref (ad 0)), (1, .int acc), (2, .int i)] → k_X1_blowPipes_L4 o n i acc ow = res → W p l e { frames := 2, cells := 0, slots := 0, locals := 45 } s m ([.ref (ad 0)]).toArray below meth c H locs 0 0 (MQ below (va_Qv (fun (_ : Unit) => True) (kB D (fun _ => og_W cs ad res) A) A) ([.ref (ad 0)]).toArray s 0 0 A) (F0 m 4 ls []) := by
    intro n
    induction n with
    | zero =>
      intro i acc ow j hi hj hj2 H locs ls hS hP hD hl hres
      exact absurd hj2 (by omega)
    | succ n ih =>
      intro i acc ow j hi hj hj2 H locs ls hS hP hD hl hres
      unfold k_X1_blowPipes_L4 at hres
      refine lv_iload_n hx hb dX1_blowPipes_4 rfl (lv_at hl 2 rfl) ?_
      refine lv_bipush (v := 6) hx hb dX1_blowPipes_5 (by decide) ?_
      refine lv_icmp_ge (tgt := 94) hx hb dX1_blowPipes_7 (by decide) (fun c_7 => ?_) (fun c_7 => ?_)
      · skip
        have c_7 : (6 ≤ i) := c_7
        rw [if_pos c_7] at hres
        refine lv_aload_n hx hb dX1_blowPipes_94 rfl (lv_at hl 0 rfl) ?_
        refine lv_aload_n hx hb dX1_blowPipes_95 rfl (lv_at hl 0 rfl) ?_
        refine va_get (D := D) (ci := 1) (v := .long ow.2.1) (C := RX1) (T := TX1) (N := 17) hx hb hts hinX1 hown hK hP 0 rfl rfl 11 (by decide) lk_0 (fun _ h9 => h9) rfl dX1_blowPipes_96 ?_
        refine lv_bipush (v := 6) hx hb dX1_blowPipes_99 (by decide) ?_
        refine lv_lshl hx hb dX1_blowPipes_101 rfl ?_
        refine lv_iload_n hx hb dX1_blowPipes_102 rfl (lv_at hl 1 rfl) ?_
        refine lv_i2l hx hb dX1_blowPipes_103 rfl ?_
        refine lv_lor hx hb dX1_blowPipes_104 ?_
        refine va_put (D := D) (ci := 1) (v := .long ((x_lshl ow.2.1 6) ||| (acc.toInt64))) (ty := .long) (C := RX1) (T := TX1) (N := 17) hx hb hts hinX1 tyX1 tyX1_ok nmX1 hown hK hP hD hS 0 rfl rfl 11 (by decide) lk_0 (fun _ h9 => h9) rfl (by decide +kernel) rfl rfl (Nat.le_of_ble_eq_true rfl) dX1_blowPipes_105 (fun H locs hP hD hS => ?_)
        have hP : va_P D vwCl (og_W cs ad (o_p ow ((x_lshl ow.2.1 6) ||| (acc.toInt64)))) H := hP
        have hD : va_D A (og_W cs ad (o_p ow ((x_lshl ow.2.1 6) ||| (acc.toInt64)))) := hD
        refine lv_aload_n hx hb dX1_blowPipes_108 rfl (lv_at hl 0 rfl) ?_
        refine lv_iload_n hx hb dX1_blowPipes_109 rfl (lv_at hl 1 rfl) ?_
        refine lv_aload_n hx hb dX1_blowPipes_110 rfl (lv_at hl 0 rfl) ?_
        refine lv_aload_n hx hb dX1_blowPipes_111 rfl (lv_at hl 0 rfl) ?_
        refine va_get (D := D) (ci := 1) (v := .ref (ad 8)) (C := RX1) (T := TX1) (N := 17) hx hb hts hinX1 hown hK hP 0 rfl rfl 5 (by decide) lk_1 (fun _ h9 => h9) rfl dX1_blowPipes_112 ?_
        refine lv_iconst (v := 1) hx hb dX1_blowPipes_115 (by decide) ?_
        refine k_iald hx hb hK hP 8 0 (v := ((ow.2.2 5) 1)) rfl rfl (k_inl rfl) rfl dX1_blowPipes_116 ?_
        have hP : va_P D vwCl ((og_W cs ad (o_p ow ((x_lshl ow.2.1 6) ||| (acc.toInt64)))) ++ []) H := k_nP hP
        have hD : va_D A ((og_W cs ad (o_p ow ((x_lshl ow.2.1 6) ||| (acc.toInt64)))) ++ []) := k_nD hD
        have hc_117 := c_X1_soundedAgo l D cs ad (o_p ow ((x_lshl ow.2.1 6) ||| (acc.toInt64))) ((ow.2.2 5) 1)
        refine kI_call (wc := (og_W cs ad (o_p ow ((x_lshl ow.2.1 6) ||| (acc.toInt64))))) (wr := []) (w1 := og_W cs ad (o_p ow ((x_lshl ow.2.1 6) ||| (acc.toInt64)))) (r := (k_X1_soundedAgo (o_p ow ((x_lshl ow.2.1 6) ||| (acc.toInt64))) ((ow.2.2 5) 1))) hE hP hD hS (k_rV (rest := [.int acc, .ref (ad 0)]) (As := [.int ((ow.2.2 5) 1)]) hE rfl (hc_117 H.size) (cwV 1 hts gX1_blowPipes_X1_soundedAgo rfl rfl rfl (by decide +kernel) ⟨Nat.le_of_ble_eq_true rfl, Nat.le_of_ble_eq_true rfl⟩) hP hD hS (ci := 1) (q0 := 0) rfl rfl rfl hl rfl (Nat.le_of_ble_eq_true rfl) ⟨Nat.le_of_ble_eq_true rfl, Nat.le_of_ble_eq_true rfl⟩ dX1_blowPipes_117) (fun H locs hP hD hS => ?_)
        have hP := k_uP hP
        have hD := k_uD hD
        have hP : va_P D vwCl (og_W cs ad (o_p ow ((x_lshl ow.2.1 6) ||| (acc.toInt64)))) H := hP
        have hD : va_D A (og_W cs ad (o_p ow ((x_lshl ow.2.1 6) ||| (acc.toInt64)))) := hD
        refine lv_ior hx hb dX1_blowPipes_120 ?_
        refine va_put (D := D) (ci := 1) (v := .int (acc ||| (k_X1_soundedAgo (o_p ow ((x_lshl ow.2.1 6) ||| (acc.toInt64))) ((ow.2.2 5) 1)))) (ty := .int) (C := RX1) (T := TX1) (N := 17) hx hb hts hinX1 tyX1 tyX1_ok nmX1 hown hK hP hD hS 0 rfl rfl 12 (by decide) lk_2 (fun _ h9 => h9) rfl (by decide +kernel) rfl rfl (Nat.le_of_ble_eq_true rfl) dX1_blowPipes_121 (fun H locs hP hD hS => ?_)
        have hP : va_P D vwCl (og_W cs ad (o_p (o_s ow 5 (acc ||| (k_X1_soundedAgo (o_p ow ((x_lshl ow.2.1 6) ||| (acc.toInt64))) ((ow.2.2 5) 1)))) ((x_lshl ow.2.1 6) ||| (acc.toInt64)))) H := hP
        have hD : va_D A (og_W cs ad (o_p (o_s ow 5 (acc ||| (k_X1_soundedAgo (o_p ow ((x_lshl ow.2.1 6) ||| (acc.toInt64))) ((ow.2.2 5) 1)))) ((x_lshl ow.2.1 6) ||| (acc.toInt64)))) := hD
        subst hres
        exact kV_ret () hE hS hP hD trivial (Nat.le_of_ble_eq_true rfl) (Nat.le_of_ble_eq_true rfl) dX1_blowPipes_124
      · skip
        have c_7 : ¬ (6 ≤ i) := c_7
        rw [if_neg c_7] at hres
        refine lv_aload_n hx hb dX1_blowPipes_10 rfl (lv_at hl 0 rfl) ?_
        refine lv_iload_n hx hb dX1_blowPipes_11 rfl (lv_at hl 2 rfl) ?_
        refine lv_aload_n hx hb dX1_blowPipes_12 rfl (lv_at hl 0 rfl) ?_
        refine va_get (D := D) (ci := 1) (v := .int (ow.1 1)) (C := RX1) (T := TX1) (N := 17) hx hb hts hinX1 hown hK hP 0 rfl rfl 7 (by decide) lk_3 (fun _ h9 => h9) rfl dX1_blowPipes_13 ?_
        have hP : va_P D vwCl ((og_W cs ad ow) ++ []) H := k_nP hP
        have hD : va_D A ((og_W cs ad ow) ++ []) := k_nD hD
        have hc_16 := c_X1_isOpen l D cs ad ow i (ow.1 1)
        refine kI_call (wc := (og_W cs ad ow)) (wr := []) (w1 := og_W cs ad ow) (r := (k_X1_isOpen ow i (ow.1 1))) hE hP hD hS (k_rV (rest := []) (As := [.int i, .int (ow.1 1)]) hE rfl (hc_16 H.size) (cwV 2 hts gX1_blowPipes_X1_isOpen rfl rfl rfl (by decide +kernel) ⟨Nat.le_of_ble_eq_true rfl, Nat.le_of_ble_eq_true rfl⟩) hP hD hS (ci := 1) (q0 := 0) rfl rfl rfl hl rfl (Nat.le_of_ble_eq_true rfl) ⟨Nat.le_of_ble_eq_true rfl, Nat.le_of_ble_eq_true rfl⟩ dX1_blowPipes_16) (fun H locs hP hD hS => ?_)
        have hP := k_uP hP
        have hD := k_uD hD
        have hP : va_P D vwCl (og_W cs ad ow) H := hP
        have hD : va_D A (og_W cs ad ow) := hD
        refine lv_if_eq (tgt := 88) hx hb dX1_blowPipes_19 (by decide) (fun c_19 => ?_) (fun c_19 => ?_)
        · skip
          have c_19 : ((k_X1_isOpen ow i (ow.1 1)) = 0) := c_19
          rw [if_pos c_19] at hres
          refine lv_iinc (v := (i + 1)) (lv' := [(2, .int (i + 1)), (0, .ref (ad 0)), (1, .int acc)]) hx hb dX1_blowPipes_88 hl (k := 2) rfl (by rfl) (by decide) rfl (fun ls hl => ?_)
          refine lv_goto (tgt := 4) hx hb dX1_blowPipes_91 (by decide) ?_
          exact ih (i + 1) acc ow (j + 1) (by rw [hi, nI_1]) (by omega) (nI_lts hi (by omega) (by decide) c_7) _ _ _ hS hP hD (lv_sub hl [1, 2, 0] rfl) hres
        · skip
          have c_19 : ¬ ((k_X1_isOpen ow i (ow.1 1)) = 0) := c_19
          rw [if_neg c_19] at hres
          refine lv_aload_n hx hb dX1_blowPipes_22 rfl (lv_at hl 0 rfl) ?_
          refine va_get (D := D) (ci := 1) (v := .int (ow.1 4)) (C := RX1) (T := TX1) (N := 17) hx hb hts hinX1 hown hK hP 0 rfl rfl 10 (by decide) lk_4 (fun _ h9 => h9) rfl dX1_blowPipes_23 ?_
          refine lv_if_le (tgt := 68) hx hb dX1_blowPipes_26 (by decide) (fun c_26 => ?_) (fun c_26 => ?_)
          · skip
            have c_26 : ((ow.1 4) ≤ 0) := c_26
            rw [if_pos c_26] at hres
            refine lv_aload_n hx hb dX1_blowPipes_68 rfl (lv_at hl 0 rfl) ?_
            refine lv_dup hx hb dX1_blowPipes_69 rfl ?_
            refine va_get (D := D) (ci := 1) (v := .int (ow.1 7)) (C := RX1) (T := TX1) (N := 17) hx hb hts hinX1 hown hK hP 0 rfl rfl 14 (by decide) lk_5 (fun _ h9 => h9) rfl dX1_blowPipes_70 ?_
            refine lv_iconst (v := 1) hx hb dX1_blowPipes_73 (by decide) ?_
            refine lv_iadd hx hb dX1_blowPipes_74 ?_
            refine va_put (D := D) (ci := 1) (v := .int ((ow.1 7) + 1)) (ty := .int) (C := RX1) (T := TX1) (N := 17) hx hb hts hinX1 tyX1 tyX1_ok nmX1 hown hK hP hD hS 0 rfl rfl 14 (by decide) lk_5 (fun _ h9 => h9) rfl (by decide +kernel) rfl rfl (Nat.le_of_ble_eq_true rfl) dX1_blowPipes_75 (fun H locs hP hD hS => ?_)
            have hP : va_P D vwCl (og_W cs ad (o_s ow 7 ((ow.1 7) + 1))) H := hP
            have hD : va_D A (og_W cs ad (o_s ow 7 ((ow.1 7) + 1))) := hD
            refine lv_aload_n hx hb dX1_blowPipes_78 rfl (lv_at hl 0 rfl) ?_
            refine va_get (D := D) (ci := 1) (v := .ref (ad 7)) (C := RX1) (T := TX1) (N := 17) hx hb hts hinX1 hown hK hP 0 rfl rfl 4 (by decide) lk_6 (fun _ h9 => h9) rfl dX1_blowPipes_79 ?_
            refine lv_iload_n hx hb dX1_blowPipes_82 rfl (lv_at hl 2 rfl) ?_
            refine lv_dup2_11 hx hb dX1_blowPipes_83 rfl rfl ?_
            refine k_iald hx hb hK hP 7 0 (v := ((ow.2.2 4) i.toNatClampNeg)) rfl rfl (by rw [hi]; exact vp_in_nI (by have := nI_lts (N := 6) hi (by omega) (by decide) c_7; omega) (by decide)) rfl dX1_blowPipes_84 ?_
            refine lv_iconst (v := 1) hx hb dX1_blowPipes_85 (by decide) ?_
            refine lv_iadd hx hb dX1_blowPipes_86 ?_
            refine k_iast hx hb hK hP hD hS 7 0 (k := i.toNatClampNeg) rfl rfl (by rw [hi]; exact vp_in_nI (by have := nI_lts (N := 6) hi (by omega) (by decide) c_7; omega) (by decide)) rfl dX1_blowPipes_87 (fun H locs hP hD hS => ?_)
            have hP : va_P D vwCl (og_W cs ad (o_r (o_s ow 7 ((ow.1 7) + 1)) 4 (va_up (ow.2.2 4) i.toNatClampNeg (((ow.2.2 4) i.toNatClampNeg) + 1)))) H := hP
            have hD : va_D A (og_W cs ad (o_r (o_s ow 7 ((ow.1 7) + 1)) 4 (va_up (ow.2.2 4) i.toNatClampNeg (((ow.2.2 4) i.toNatClampNeg) + 1)))) := hD
            refine lv_iinc (v := (i + 1)) (lv' := [(2, .int (i + 1)), (0, .ref (ad 0)), (1, .int acc)]) hx hb dX1_blowPipes_88 hl (k := 2) rfl (by rfl) (by decide) rfl (fun ls hl => ?_)
            refine lv_goto (tgt := 4) hx hb dX1_blowPipes_91 (by decide) ?_
            exact ih (i + 1) acc (o_r (o_s ow 7 ((ow.1 7) + 1)) 4 (va_up (ow.2.2 4) i.toNatClampNeg (((ow.2.2 4) i.toNatClampNeg) + 1))) (j + 1) (by rw [hi, nI_1]) (by omega) (nI_lts hi (by omega) (by decide) c_7) _ _ _ hS hP hD (lv_sub hl [1, 2, 0] rfl) hres
          · skip
            have c_26 : ¬ ((ow.1 4) ≤ 0) := c_26
            rw [if_neg c_26] at hres
            refine lv_aload_n hx hb dX1_blowPipes_29 rfl (lv_at hl 0 rfl) ?_
            refine lv_dup hx hb dX1_blowPipes_30 rfl ?_
            refine va_get (D := D) (ci := 1) (v := .int (ow.1 4)) (C := RX1) (T := TX1) (N := 17) hx hb hts hinX1 hown hK hP 0 rfl rfl 10 (by decide) lk_4 (fun _ h9 => h9) rfl dX1_blowPipes_31 ?_
            refine lv_iconst (v := 1) hx hb dX1_blowPipes_34 (by decide) ?_
            refine lv_isub hx hb dX1_blowPipes_35 ?_
            refine va_put (D := D) (ci := 1) (v := .int ((ow.1 4) - 1)) (ty := .int) (C := RX1) (T := TX1) (N := 17) hx hb hts hinX1 tyX1 tyX1_ok nmX1 hown hK hP hD hS 0 rfl rfl 10 (by decide) lk_4 (fun _ h9 => h9) rfl (by decide +kernel) rfl rfl (Nat.le_of_ble_eq_true rfl) dX1_blowPipes_36 (fun H locs hP hD hS => ?_)
            have hP : va_P D vwCl (og_W cs ad (o_s ow 4 ((ow.1 4) - 1))) H := hP
            have hD : va_D A (og_W cs ad (o_s ow 4 ((ow.1 4) - 1))) := hD
            refine lv_aload_n hx hb dX1_blowPipes_39 rfl (lv_at hl 0 rfl) ?_
            refine lv_dup hx hb dX1_blowPipes_40 rfl ?_
            refine va_get (D := D) (ci := 1) (v := .int (ow.1 6)) (C := RX1) (T := TX1) (N := 17) hx hb hts hinX1 hown hK hP 0 rfl rfl 13 (by decide) lk_7 (fun _ h9 => h9) rfl dX1_blowPipes_41 ?_
            refine lv_iconst (v := 1) hx hb dX1_blowPipes_44 (by decide) ?_
            refine lv_iadd hx hb dX1_blowPipes_45 ?_
            refine va_put (D := D) (ci := 1) (v := .int ((ow.1 6) + 1)) (ty := .int) (C := RX1) (T := TX1) (N := 17) hx hb hts hinX1 tyX1 tyX1_ok nmX1 hown hK hP hD hS 0 rfl rfl 13 (by decide) lk_7 (fun _ h9 => h9) rfl (by decide +kernel) rfl rfl (Nat.le_of_ble_eq_true rfl) dX1_blowPipes_46 (fun H locs hP hD hS => ?_)
            have hP : va_P D vwCl (og_W cs ad (o_s (o_s ow 4 ((ow.1 4) - 1)) 6 ((ow.1 6) + 1))) H := hP
            have hD : va_D A (og_W cs ad (o_s (o_s ow 4 ((ow.1 4) - 1)) 6 ((ow.1 6) + 1))) := hD
            refine lv_aload_n hx hb dX1_blowPipes_49 rfl (lv_at hl 0 rfl) ?_
            refine va_get (D := D) (ci := 1) (v := .ref (ad 6)) (C := RX1) (T := TX1) (N := 17) hx hb hts hinX1 hown hK hP 0 rfl rfl 3 (by decide) lk_8 (fun _ h9 => h9) rfl dX1_blowPipes_50 ?_
            refine lv_iload_n hx hb dX1_blowPipes_53 rfl (lv_at hl 2 rfl) ?_
            refine lv_dup2_11 hx hb dX1_blowPipes_54 rfl rfl ?_
            refine k_iald hx hb hK hP 6 0 (v := ((ow.2.2 3) i.toNatClampNeg)) rfl rfl (by rw [hi]; exact vp_in_nI (by have := nI_lts (N := 6) hi (by omega) (by decide) c_7; omega) (by decide)) rfl dX1_blowPipes_55 ?_
            refine lv_iconst (v := 1) hx hb dX1_blowPipes_56 (by decide) ?_
            refine lv_iadd hx hb dX1_blowPipes_57 ?_
            refine k_iast hx hb hK hP hD hS 6 0 (k := i.toNatClampNeg) rfl rfl (by rw [hi]; exact vp_in_nI (by have := nI_lts (N := 6) hi (by omega) (by decide) c_7; omega) (by decide)) rfl dX1_blowPipes_58 (fun H locs hP hD hS => ?_)
            have hP : va_P D vwCl (og_W cs ad (o_r (o_s (o_s ow 4 ((ow.1 4) - 1)) 6 ((ow.1 6) + 1)) 3 (va_up (ow.2.2 3) i.toNatClampNeg (((ow.2.2 3) i.toNatClampNeg) + 1)))) H := hP
            have hD : va_D A (og_W cs ad (o_r (o_s (o_s ow 4 ((ow.1 4) - 1)) 6 ((ow.1 6) + 1)) 3 (va_up (ow.2.2 3) i.toNatClampNeg (((ow.2.2 3) i.toNatClampNeg) + 1)))) := hD
            refine lv_iload_n hx hb dX1_blowPipes_59 rfl (lv_at hl 1 rfl) ?_
            refine lv_iconst (v := 1) hx hb dX1_blowPipes_60 (by decide) ?_
            refine lv_iload_n hx hb dX1_blowPipes_61 rfl (lv_at hl 2 rfl) ?_
            refine lv_ishl hx hb dX1_blowPipes_62 ?_
            refine lv_ior hx hb dX1_blowPipes_63 ?_
            refine lv_istore_n (lv' := [(1, .int (acc ||| ((1 : Int32) <<< (i &&& 31)))), (0, .ref (ad 0)), (2, .int i)]) hx hb dX1_blowPipes_64 rfl hl (by decide) rfl (fun ls hl => ?_)
            refine lv_goto (tgt := 88) hx hb dX1_blowPipes_65 (by decide) ?_
            refine lv_iinc (v := (i + 1)) (lv' := [(2, .int (i + 1)), (1, .int (acc ||| ((1 : Int32) <<< (i &&& 31)))), (0, .ref (ad 0))]) hx hb dX1_blowPipes_88 hl (k := 2) rfl (by rfl) (by decide) rfl (fun ls hl => ?_)
            refine lv_goto (tgt := 4) hx hb dX1_blowPipes_91 (by decide) ?_
            exact ih (i + 1) (acc ||| ((1 : Int32) <<< (i &&& 31))) (o_r (o_s (o_s ow 4 ((ow.1 4) - 1)) 6 ((ow.1 6) + 1)) 3 (va_up (ow.2.2 3) i.toNatClampNeg (((ow.2.2 3) i.toNatClampNeg) + 1))) (j + 1) (by rw [hi, nI_1]) (by omega) (nI_lts hi (by omega) (by decide) c_7) _ _ _ hS hP hD (lv_sub hl [2, 1, 0] rfl) hres
  unfold k_X1_blowPipes at hres
  refine lv_iconst (v := 0) hx hb dX1_blowPipes_0 (by decide) ?_
  refine lv_istore_n (lv' := [(1, .int 0), (0, .ref (ad 0))]) hx hb dX1_blowPipes_1 rfl hl (by decide) rfl (fun ls hl => ?_)
  refine lv_iconst (v := 0) hx hb dX1_blowPipes_2 (by decide) ?_
  refine lv_istore_n (lv' := [(2, .int 0), (1, .int 0), (0, .ref (ad 0))]) hx hb dX1_blowPipes_3 rfl hl (by decide) rfl (fun ls hl => ?_)
  exact L4 7 0 0 o 0 (nI_0.symm) (rfl) (Nat.zero_le _) _ _ _ hS hP hD (lv_sub hl [2, 1, 0] rfl) hres
set_option maxHeartbeats 4000000 in
set_option maxRecDepth 100000 in
theorem c_X1_play (l : Launch) (D : va_G) (cs : Nat → ClassId) (ad : Nat → Nat) (o : OV) (vn : Int32) (hO : OI o) : kI l yX1_play wsX1_play { frames := 5, cells := 0, slots := 0, locals := 129 } 0 0 D cs [.ref (ad 0), .int vn] (og_W cs ad o) (k_X1_play o vn).1 (og_W cs ad ((k_X1_play o vn).2)) := by
  generalize hres : k_X1_play o vn = res
  refine kI_of (cc := cX1_play) (maxL := 4) (ret := (some .int)) (by decide) rfl (Nat.le_of_ble_eq_true rfl) ?_
  intro p e s m below meth c A ls H locs hE hS hP hD hl
  obtain ⟨hx, hb, hr, hlocks, hml, hown, hts, hK, hA, hG, hnm⟩ := id hE
  have hown : s.vm.findClass RX1 = some m.cls := hown
  have hl : lv_has ls 4 [(0, .ref (ad 0)), (1, .int vn)] := hl
  have hinX1 : ∀ w ∈ wsX10, w ∈ wsX1_play := by decide +kernel
  have lk_0 := hts (.fieldLink RX1 70 "OrganPegs$Organ" "notes" "I") (by decide +kernel)
  have lk_1 := hts (.fieldLink RX1 48 "OrganPegs$Organ" "time" "I") (by decide +kernel)
  have lk_2 := hts (.fieldLink RX1 60 "OrganPegs$Organ" "wind" "I") (by decide +kernel)
  have lk_3 := hts (.fieldLink RX1 33 "OrganPegs$Organ" "settings" "[I") (by decide +kernel)
  have lk_4 := hts (.methodLink RX1 153 Lib.Math.min.name) (by decide +kernel)
  have lk_5 := hts (.static Lib.Math.min.name) (by decide +kernel)
  have lk_6 := hts (.initialized "java/lang/Math") (by decide +kernel)
  have lk_7 := hts (.code Lib.Math.min.name Lib.Math.min.code 2 (some .int)) (by decide +kernel)
  have lk_8 := hts (.initialized RX5) (by decide +kernel)
  have lk_9 := hts (.static yX5_isTicks) (by decide +kernel)
  have L16 : ∀ (n : Nat) (i : Int32) (ow : OV) (j : Nat) (hi : i = nI j) (hj : j + n = 100) (hj2 : j ≤ vn.toInt.toNat) (hv : vn.toInt ≤ 99) (hO : OI ow) (H : Heap) (locs : List Loc) (ls : Array Slot), va_S A s.heap H locs → va_P D vwCl (og_W cs ad ow) H → va_D A (og_W cs ad ow) → lv_has ls 4 [(0, .ref (ad 0)), (1, .int vn), (2, .int (o.1 6)), (3, .int i)] → k_X1_play_L16 o vn n i ow = res → W p l e { frames := 5, cells := 0, slots := 0, locals := 129 } s m ([.ref (ad 0), .int vn]).toArray below meth c H locs 0 0 (MQ below (va_Qi (fun (r' : Int32) (_ : Unit) => r' = res.1) (kB D (fun _ => og_W cs ad res.2) A) A) ([.ref (ad 0), .int vn]).toArray s 0 0 A) (F0 m 16 ls []) := by
    intro n
    induction n with
    | zero =>
      intro i ow j hi hj hj2 hv hO H locs ls hS hP hD hl hres
      exact absurd hj2 (by omega)
    | succ n ih =>
      intro i ow j hi hj hj2 hv hO H locs ls hS hP hD hl hres
      unfold k_X1_play_L16 at hres
      refine lv_iload_n hx hb dX1_play_16 rfl (lv_at hl 3 rfl) ?_
      refine lv_iload_n hx hb dX1_play_17 rfl (lv_at hl 1 rfl) ?_
      refine lv_icmp_ge (tgt := 75) hx hb dX1_play_18 (by decide) (fun c_18 => ?_) (fun c_18 => ?_)
      · skip
        have c_18 : (vn ≤ i) := c_18
        rw [if_pos c_18] at hres
        refine lv_aload_n hx hb dX1_play_75 rfl (lv_at hl 0 rfl) ?_
        refine va_get (D := D) (ci := 1) (v := .int (ow.1 6)) (C := RX1) (T := TX1) (N := 17) hx hb hts hinX1 hown hK hP 0 rfl rfl 13 (by decide) lk_0 (fun _ h9 => h9) rfl dX1_play_76 ?_
        refine lv_iload_n hx hb dX1_play_79 rfl (lv_at hl 2 rfl) ?_
        refine lv_isub hx hb dX1_play_80 ?_
        subst hres
        exact kI_ret hE hS hP hD rfl rfl (Nat.le_of_ble_eq_true rfl) (Nat.le_of_ble_eq_true rfl) dX1_play_81
      · skip
        have c_18 : ¬ (vn ≤ i) := c_18
        rw [if_neg c_18] at hres
        refine lv_aload_n hx hb dX1_play_21 rfl (lv_at hl 0 rfl) ?_
        refine lv_dup hx hb dX1_play_22 rfl ?_
        refine va_get (D := D) (ci := 1) (v := .int (ow.1 0)) (C := RX1) (T := TX1) (N := 17) hx hb hts hinX1 hown hK hP 0 rfl rfl 6 (by decide) lk_1 (fun _ h9 => h9) rfl dX1_play_23 ?_
        refine lv_iconst (v := 1) hx hb dX1_play_26 (by decide) ?_
        refine lv_iadd hx hb dX1_play_27 ?_
        refine va_put (D := D) (ci := 1) (v := .int ((ow.1 0) + 1)) (ty := .int) (C := RX1) (T := TX1) (N := 17) hx hb hts hinX1 tyX1 tyX1_ok nmX1 hown hK hP hD hS 0 rfl rfl 6 (by decide) lk_1 (fun _ h9 => h9) rfl (by decide +kernel) rfl rfl (Nat.le_of_ble_eq_true rfl) dX1_play_28 (fun H locs hP hD hS => ?_)
        have hP : va_P D vwCl (og_W cs ad (o_s ow 0 ((ow.1 0) + 1))) H := hP
        have hD : va_D A (og_W cs ad (o_s ow 0 ((ow.1 0) + 1))) := hD
        refine lv_aload_n hx hb dX1_play_31 rfl (lv_at hl 0 rfl) ?_
        have hP : va_P D vwCl ((og_W cs ad (o_s ow 0 ((ow.1 0) + 1))) ++ []) H := k_nP hP
        have hD : va_D A ((og_W cs ad (o_s ow 0 ((ow.1 0) + 1))) ++ []) := k_nD hD
        have hc_32 := c_X1_turnCrank l D cs ad (o_s ow 0 ((ow.1 0) + 1))
        generalize e_32 : (k_X1_turnCrank (o_s ow 0 ((ow.1 0) + 1))) = o_32 at hc_32 hres
        have hres := (kbind_eq _ _).symm.trans hres
        refine kV_call (wc := (og_W cs ad (o_s ow 0 ((ow.1 0) + 1)))) (wr := []) (w1 := fun _ => og_W cs ad o_32) hE hP hD hS (k_rV (rest := []) (As := []) hE rfl (hc_32 H.size) (cwV 0 hts gX1_play_X1_turnCrank rfl rfl rfl (by decide +kernel) ⟨Nat.le_of_ble_eq_true rfl, Nat.le_of_ble_eq_true rfl⟩) hP hD hS (ci := 1) (q0 := 0) rfl rfl rfl hl rfl (Nat.le_of_ble_eq_true rfl) ⟨Nat.le_of_ble_eq_true rfl, Nat.le_of_ble_eq_true rfl⟩ dX1_play_32) (fun _ H locs _ hP hD hS => ?_)
        have hP := k_uP hP
        have hD := k_uD hD
        have hP : va_P D vwCl (og_W cs ad o_32) H := hP
        have hD : va_D A (og_W cs ad o_32) := hD
        refine lv_aload_n hx hb dX1_play_35 rfl (lv_at hl 0 rfl) ?_
        refine lv_aload_n hx hb dX1_play_36 rfl (lv_at hl 0 rfl) ?_
        refine va_get (D := D) (ci := 1) (v := .int (o_32.1 4)) (C := RX1) (T := TX1) (N := 17) hx hb hts hinX1 hown hK hP 0 rfl rfl 10 (by decide) lk_2 (fun _ h9 => h9) rfl dX1_play_37 ?_
        refine lv_iconst (v := 2) hx hb dX1_play_40 (by decide) ?_
        refine lv_aload_n hx hb dX1_play_41 rfl (lv_at hl 0 rfl) ?_
        refine va_get (D := D) (ci := 1) (v := .ref (ad 8)) (C := RX1) (T := TX1) (N := 17) hx hb hts hinX1 hown hK hP 0 rfl rfl 5 (by decide) lk_3 (fun _ h9 => h9) rfl dX1_play_42 ?_
        refine lv_iconst (v := 0) hx hb dX1_play_45 (by decide) ?_
        refine k_iald hx hb hK hP 8 0 (v := ((o_32.2.2 5) 0)) rfl rfl (k_inl rfl) rfl dX1_play_46 ?_
        refine lv_imul hx hb dX1_play_47 ?_
        refine lv_iadd hx hb dX1_play_48 ?_
        refine lv_aload_n hx hb dX1_play_49 rfl (lv_at hl 0 rfl) ?_
        refine va_get (D := D) (ci := 1) (v := .ref (ad 8)) (C := RX1) (T := TX1) (N := 17) hx hb hts hinX1 hown hK hP 0 rfl rfl 5 (by decide) lk_3 (fun _ h9 => h9) rfl dX1_play_50 ?_
        refine lv_iconst (v := 2) hx hb dX1_play_53 (by decide) ?_
        refine k_iald hx hb hK hP 8 0 (v := ((o_32.2.2 5) 2)) rfl rfl (k_inl rfl) rfl dX1_play_54 ?_
        refine va_mmin hx hb (hml.trans hl.1.symm) hown lk_4 lk_5 lk_6 lk_7 (Nat.le_of_ble_eq_true rfl) (Nat.le_of_ble_eq_true rfl) (Nat.le_of_ble_eq_true rfl) (Nat.le_of_ble_eq_true rfl) dX1_play_55 ?_
        refine va_put (D := D) (ci := 1) (v := .int (x_mmin ((o_32.1 4) + (2 * ((o_32.2.2 5) 0))) ((o_32.2.2 5) 2))) (ty := .int) (C := RX1) (T := TX1) (N := 17) hx hb hts hinX1 tyX1 tyX1_ok nmX1 hown hK hP hD hS 0 rfl rfl 10 (by decide) lk_2 (fun _ h9 => h9) rfl (by decide +kernel) rfl rfl (Nat.le_of_ble_eq_true rfl) dX1_play_58 (fun H locs hP hD hS => ?_)
        have hP : va_P D vwCl (og_W cs ad (o_s o_32 4 (x_mmin ((o_32.1 4) + (2 * ((o_32.2.2 5) 0))) ((o_32.2.2 5) 2)))) H := hP
        have hD : va_D A (og_W cs ad (o_s o_32 4 (x_mmin ((o_32.1 4) + (2 * ((o_32.2.2 5) 0))) ((o_32.2.2 5) 2)))) := hD
        refine lv_aload_n hx hb dX1_play_61 rfl (lv_at hl 0 rfl) ?_
        have hP : va_P D vwCl ((og_W cs ad (o_s o_32 4 (x_mmin ((o_32.1 4) + (2 * ((o_32.2.2 5) 0))) ((o_32.2.2 5) 2)))) ++ []) H := k_nP hP
        have hD : va_D A ((og_W cs ad (o_s o_32 4 (x_mmin ((o_32.1 4) + (2 * ((o_32.2.2 5) 0))) ((o_32.2.2 5) 2)))) ++ []) := k_nD hD
        have hc_62 := c_X1_lookAtOrders l D cs ad (o_s o_32 4 (x_mmin ((o_32.1 4) + (2 * ((o_32.2.2 5) 0))) ((o_32.2.2 5) 2)))  (by rw [← e_32]; exact OI_crank hO)
        generalize e_62 : (k_X1_lookAtOrders (o_s o_32 4 (x_mmin ((o_32.1 4) + (2 * ((o_32.2.2 5) 0))) ((o_32.2.2 5) 2)))) = o_62 at hc_62 hres
        have hres := (kbind_eq _ _).symm.trans hres
        refine kV_call (wc := (og_W cs ad (o_s o_32 4 (x_mmin ((o_32.1 4) + (2 * ((o_32.2.2 5) 0))) ((o_32.2.2 5) 2))))) (wr := []) (w1 := fun _ => og_W cs ad o_62) hE hP hD hS (k_rV (rest := []) (As := []) hE rfl (hc_62 H.size) (cwV 0 hts gX1_play_X1_lookAtOrders rfl rfl rfl (by decide +kernel) ⟨Nat.le_of_ble_eq_true rfl, Nat.le_of_ble_eq_true rfl⟩) hP hD hS (ci := 1) (q0 := 0) rfl rfl rfl hl rfl (Nat.le_of_ble_eq_true rfl) ⟨Nat.le_of_ble_eq_true rfl, Nat.le_of_ble_eq_true rfl⟩ dX1_play_62) (fun _ H locs _ hP hD hS => ?_)
        have hP := k_uP hP
        have hD := k_uD hD
        have hP : va_P D vwCl (og_W cs ad o_62) H := hP
        have hD : va_D A (og_W cs ad o_62) := hD
        refine lv_aload_n hx hb dX1_play_65 rfl (lv_at hl 0 rfl) ?_
        have hP : va_P D vwCl ((og_W cs ad o_62) ++ []) H := k_nP hP
        have hD : va_D A ((og_W cs ad o_62) ++ []) := k_nD hD
        have hc_66 := c_X1_blowPipes l D cs ad o_62
        generalize e_66 : (k_X1_blowPipes o_62) = o_66 at hc_66 hres
        have hres := (kbind_eq _ _).symm.trans hres
        refine kV_call (wc := (og_W cs ad o_62)) (wr := []) (w1 := fun _ => og_W cs ad o_66) hE hP hD hS (k_rV (rest := []) (As := []) hE rfl (hc_66 H.size) (cwV 0 hts gX1_play_X1_blowPipes rfl rfl rfl (by decide +kernel) ⟨Nat.le_of_ble_eq_true rfl, Nat.le_of_ble_eq_true rfl⟩) hP hD hS (ci := 1) (q0 := 0) rfl rfl rfl hl rfl (Nat.le_of_ble_eq_true rfl) ⟨Nat.le_of_ble_eq_true rfl, Nat.le_of_ble_eq_true rfl⟩ dX1_play_66) (fun _ H locs _ hP hD hS => ?_)
        have hP := k_uP hP
        have hD := k_uD hD
        have hP : va_P D vwCl (og_W cs ad o_66) H := hP
        have hD : va_D A (og_W cs ad o_66) := hD
        refine lv_iinc (v := (i + 1)) (lv' := [(3, .int (i + 1)), (0, .ref (ad 0)), (1, .int vn), (2, .int (o.1 6))]) hx hb dX1_play_69 hl (k := 3) rfl (by rfl) (by decide) rfl (fun ls hl => ?_)
        refine lv_goto (tgt := 16) hx hb dX1_play_72 (by decide) ?_
        exact ih (i + 1) o_66 (j + 1) (by rw [hi, nI_1]) (by omega) (by rw [i_le, hi, nI_toInt (by omega)] at c_18; omega) (hv) (by rw [← e_66, ← e_62, ← e_32]; exact OI_blow (OI_look (OI_crank hO))) _ _ _ hS hP hD (lv_sub hl [1, 2, 3, 0] rfl) hres
  unfold k_X1_play at hres
  refine lv_iload_n hx hb dX1_play_0 rfl (lv_at hl 1 rfl) ?_
  have hP : va_P D vwCl ([] ++ (og_W cs ad o)) H := hP
  have hD : va_D A ([] ++ (og_W cs ad o)) := hD
  have hc_1 := c_X5_isTicks l D cs vn
  refine kI_call (wc := []) (wr := (og_W cs ad o)) (w1 := []) (r := (k_X5_isTicks vn)) hE hP hD hS (k_rSN (rest := []) (As := [.int vn]) hE rfl (hc_1 H.size) ⟨va_cnB 1 hts gX1_play_X5_isTicks_n147 rfl rfl rfl (hG.1.2.1 _ _ _ _ nm_X1_147) lk_8 (by decide +kernel) ⟨Nat.le_of_ble_eq_true rfl, Nat.le_of_ble_eq_true rfl⟩, lk_9, trivial⟩ hP hD hS rfl hl rfl (Nat.le_of_ble_eq_true rfl) ⟨Nat.le_of_ble_eq_true rfl, Nat.le_of_ble_eq_true rfl⟩ dX1_play_1) (fun H locs hP hD hS => ?_)
  have hP : va_P D vwCl (og_W cs ad o) H := hP
  have hD : va_D A (og_W cs ad o) := hD
  refine lv_if_ne (tgt := 9) hx hb dX1_play_4 (by decide) (fun c_4 => ?_) (fun c_4 => ?_)
  · skip
    have c_4 : ¬ ((k_X5_isTicks vn) = 0) := c_4
    rw [if_neg c_4] at hres
    refine lv_aload_n hx hb dX1_play_9 rfl (lv_at hl 0 rfl) ?_
    refine va_get (D := D) (ci := 1) (v := .int (o.1 6)) (C := RX1) (T := TX1) (N := 17) hx hb hts hinX1 hown hK hP 0 rfl rfl 13 (by decide) lk_0 (fun _ h9 => h9) rfl dX1_play_10 ?_
    refine lv_istore_n (lv' := [(2, .int (o.1 6)), (0, .ref (ad 0)), (1, .int vn)]) hx hb dX1_play_13 rfl hl (by decide) rfl (fun ls hl => ?_)
    refine lv_iconst (v := 0) hx hb dX1_play_14 (by decide) ?_
    refine lv_istore_n (lv' := [(3, .int 0), (2, .int (o.1 6)), (0, .ref (ad 0)), (1, .int vn)]) hx hb dX1_play_15 rfl hl (by decide) rfl (fun ls hl => ?_)
    exact L16 100 0 o 0 (nI_0.symm) (rfl) (Nat.zero_le _) ((ticks_b c_4).2) (hO) _ _ _ hS hP hD (lv_sub hl [2, 3, 1, 0] rfl) hres
  · skip
    have c_4 : ((k_X5_isTicks vn) = 0) := c_4
    rw [if_pos c_4] at hres
    refine lv_iconst (v := (-1)) hx hb dX1_play_7 (by decide) ?_
    subst hres
    exact kI_ret hE hS hP hD rfl rfl (Nat.le_of_ble_eq_true rfl) (Nat.le_of_ble_eq_true rfl) dX1_play_8
