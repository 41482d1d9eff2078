set_option maxHeartbeats 4000000 in
set_option maxRecDepth 100000 in
theorem c_X4_has (l : Launch) (D : va_G) (cs : Nat → ClassId) (ta tc : Nat) (cols most : Int32) (tn : Nat) (tt : TV) (line : Int32) : kI l yX4_has wsX4_has { frames := 0, cells := 0, slots := 0, locals := 0 } 0 0 D cs [.ref ta, .int line] (tb_W cs ta tc cols most tn tt) (k_X4_has tt line) (tb_W cs ta tc cols most tn tt) := by
  generalize hres : k_X4_has tt line = res
  refine kI_of (cc := cX4_has) (maxL := 2) (ret := (some .boolean)) (by decide) rfl (Nat.le_of_ble_eq_true rfl) ?_
  intro p e s m below meth c A ls H locs hE hS hP hD hl
  obtain ⟨hx, hb, hr, hlocks, hml, hown, hts, hK, hA, hG, hnm⟩ := id hE
  have hown : s.vm.findClass RX4 = some m.cls := hown
  have hl : lv_has ls 2 [(0, .ref ta), (1, .int line)] := hl
  have hinX4 : ∀ w ∈ wsX40, w ∈ wsX4_has := by decide +kernel
  have lk_0 := hts (.fieldLink RX4 28 "OrganPegs$Table" "lines" "I") (by decide +kernel)
  unfold k_X4_has at hres
  refine lv_iload_n hx hb dX4_has_0 rfl (lv_at hl 1 rfl) ?_
  refine lv_if_lt (tgt := 16) hx hb dX4_has_1 (by decide) (fun c_1 => ?_) (fun c_1 => ?_)
  · skip
    have c_1 : (line < 0) := c_1
    rw [if_pos c_1] at hres
    refine lv_iconst (v := 0) hx hb dX4_has_16 (by decide) ?_
    subst hres
    exact kI_ret hE hS hP hD rfl rfl (Nat.le_of_ble_eq_true rfl) (Nat.le_of_ble_eq_true rfl) dX4_has_17
  · skip
    have c_1 : ¬ (line < 0) := c_1
    rw [if_neg c_1] at hres
    refine lv_iload_n hx hb dX4_has_4 rfl (lv_at hl 1 rfl) ?_
    refine lv_aload_n hx hb dX4_has_5 rfl (lv_at hl 0 rfl) ?_
    refine va_get (D := D) (ci := 4) (v := .int tt.1) (C := RX4) (T := TX4) (N := 4) hx hb hts hinX4 hown hK hP 0 rfl rfl 3 (by decide) lk_0 (fun _ h9 => h9) rfl dX4_has_6 ?_
    refine lv_icmp_ge (tgt := 16) hx hb dX4_has_9 (by decide) (fun c_9 => ?_) (fun c_9 => ?_)
    · skip
      have c_9 : (tt.1 ≤ line) := c_9
      rw [if_pos c_9] at hres
      refine lv_iconst (v := 0) hx hb dX4_has_16 (by decide) ?_
      subst hres
      exact kI_ret hE hS hP hD rfl rfl (Nat.le_of_ble_eq_true rfl) (Nat.le_of_ble_eq_true rfl) dX4_has_17
    · skip
      have c_9 : ¬ (tt.1 ≤ line) := c_9
      rw [if_neg c_9] at hres
      refine lv_iconst (v := 1) hx hb dX4_has_12 (by decide) ?_
      refine lv_goto (tgt := 17) hx hb dX4_has_13 (by decide) ?_
      subst hres
      exact kI_ret hE hS hP hD rfl rfl (Nat.le_of_ble_eq_true rfl) (Nat.le_of_ble_eq_true rfl) dX4_has_17
set_option maxHeartbeats 4000000 in
set_option maxRecDepth 100000 in
theorem c_X4_isFull (l : Launch) (D : va_G) (cs : Nat → ClassId) (ta tc : Nat) (cols most : Int32) (tn : Nat) (tt : TV)  : kI l yX4_isFull wsX4_isFull { frames := 0, cells := 0, slots := 0, locals := 0 } 0 0 D cs [.ref ta] (tb_W cs ta tc cols most tn tt) (k_X4_isFull cols most tt) (tb_W cs ta tc cols most tn tt) := by
  generalize hres : k_X4_isFull cols most tt = res
  refine kI_of (cc := cX4_isFull) (maxL := 1) (ret := (some .boolean)) (by decide) rfl (Nat.le_of_ble_eq_true rfl) ?_
  intro p e s m below meth c A ls H locs hE hS hP hD hl
  obtain ⟨hx, hb, hr, hlocks, hml, hown, hts, hK, hA, hG, hnm⟩ := id hE
  have hown : s.vm.findClass RX4 = some m.cls := hown
  have hl : lv_has ls 1 [(0, .ref ta)] := hl
  have hinX4 : ∀ w ∈ wsX40, w ∈ wsX4_isFull := by decide +kernel
  have lk_0 := hts (.fieldLink RX4 28 "OrganPegs$Table" "lines" "I") (by decide +kernel)
  have lk_1 := hts (.fieldLink RX4 15 "OrganPegs$Table" "most" "I") (by decide +kernel)
  unfold k_X4_isFull at hres
  refine lv_aload_n hx hb dX4_isFull_0 rfl (lv_at hl 0 rfl) ?_
  refine va_get (D := D) (ci := 4) (v := .int tt.1) (C := RX4) (T := TX4) (N := 4) hx hb hts hinX4 hown hK hP 0 rfl rfl 3 (by decide) lk_0 (fun _ h9 => h9) rfl dX4_isFull_1 ?_
  refine lv_aload_n hx hb dX4_isFull_4 rfl (lv_at hl 0 rfl) ?_
  refine va_get (D := D) (ci := 4) (v := .int most) (C := RX4) (T := TX4) (N := 4) hx hb hts hinX4 hown hK hP 0 rfl rfl 2 (by decide) lk_1 (fun _ h9 => h9) rfl dX4_isFull_5 ?_
  refine lv_icmp_lt (tgt := 15) hx hb dX4_isFull_8 (by decide) (fun c_8 => ?_) (fun c_8 => ?_)
  · skip
    have c_8 : (tt.1 < most) := c_8
    rw [if_pos c_8] at hres
    refine lv_iconst (v := 0) hx hb dX4_isFull_15 (by decide) ?_
    subst hres
    exact kI_ret hE hS hP hD rfl rfl (Nat.le_of_ble_eq_true rfl) (Nat.le_of_ble_eq_true rfl) dX4_isFull_16
  · skip
    have c_8 : ¬ (tt.1 < most) := c_8
    rw [if_neg c_8] at hres
    refine lv_iconst (v := 1) hx hb dX4_isFull_11 (by decide) ?_
    refine lv_goto (tgt := 16) hx hb dX4_isFull_12 (by decide) ?_
    subst hres
    exact kI_ret hE hS hP hD rfl rfl (Nat.le_of_ble_eq_true rfl) (Nat.le_of_ble_eq_true rfl) dX4_isFull_16
set_option maxHeartbeats 4000000 in
set_option maxRecDepth 100000 in
theorem c_X4_hasCell (l : Launch) (D : va_G) (cs : Nat → ClassId) (ta tc : Nat) (cols most : Int32) (tn : Nat) (tt : TV) (line : Int32) (col : Int32) : kI l yX4_hasCell wsX4_hasCell { frames := 0, cells := 0, slots := 0, locals := 0 } 0 0 D cs [.ref ta, .int line, .int col] (tb_W cs ta tc cols most tn tt) (k_X4_hasCell cols most tt line col) (tb_W cs ta tc cols most tn tt) := by
  generalize hres : k_X4_hasCell cols most tt line col = res
  refine kI_of (cc := cX4_hasCell) (maxL := 3) (ret := (some .boolean)) (by decide) rfl (Nat.le_of_ble_eq_true rfl) ?_
  intro p e s m below meth c A ls H locs hE hS hP hD hl
  obtain ⟨hx, hb, hr, hlocks, hml, hown, hts, hK, hA, hG, hnm⟩ := id hE
  have hown : s.vm.findClass RX4 = some m.cls := hown
  have hl : lv_has ls 3 [(0, .ref ta), (1, .int line), (2, .int col)] := hl
  have hinX4 : ∀ w ∈ wsX40, w ∈ wsX4_hasCell := by decide +kernel
  have lk_0 := hts (.fieldLink RX4 15 "OrganPegs$Table" "most" "I") (by decide +kernel)
  have lk_1 := hts (.fieldLink RX4 21 "OrganPegs$Table" "columns" "I") (by decide +kernel)
  unfold k_X4_hasCell at hres
  refine lv_iload_n hx hb dX4_hasCell_0 rfl (lv_at hl 1 rfl) ?_
  refine lv_if_lt (tgt := 28) hx hb dX4_hasCell_1 (by decide) (fun c_1 => ?_) (fun c_1 => ?_)
  · skip
    have c_1 : (line < 0) := c_1
    rw [if_pos c_1] at hres
    refine lv_iconst (v := 0) hx hb dX4_hasCell_28 (by decide) ?_
    subst hres
    exact kI_ret hE hS hP hD rfl rfl (Nat.le_of_ble_eq_true rfl) (Nat.le_of_ble_eq_true rfl) dX4_hasCell_29
  · skip
    have c_1 : ¬ (line < 0) := c_1
    rw [if_neg c_1] at hres
    refine lv_iload_n hx hb dX4_hasCell_4 rfl (lv_at hl 1 rfl) ?_
    refine lv_aload_n hx hb dX4_hasCell_5 rfl (lv_at hl 0 rfl) ?_
    refine va_get (D := D) (ci := 4) (v := .int most) (C := RX4) (T := TX4) (N := 4) hx hb hts hinX4 hown hK hP 0 rfl rfl 2 (by decide) lk_0 (fun _ h9 => h9) rfl dX4_hasCell_6 ?_
    refine lv_icmp_ge (tgt := 28) hx hb dX4_hasCell_9 (by decide) (fun c_9 => ?_) (fun c_9 => ?_)
    · skip
      have c_9 : (most ≤ line) := c_9
      rw [if_pos c_9] at hres
      refine lv_iconst (v := 0) hx hb dX4_hasCell_28 (by decide) ?_
      subst hres
      exact kI_ret hE hS hP hD rfl rfl (Nat.le_of_ble_eq_true rfl) (Nat.le_of_ble_eq_true rfl) dX4_hasCell_29
    · skip
      have c_9 : ¬ (most ≤ line) := c_9
      rw [if_neg c_9] at hres
      refine lv_iload_n hx hb dX4_hasCell_12 rfl (lv_at hl 2 rfl) ?_
      refine lv_if_lt (tgt := 28) hx hb dX4_hasCell_13 (by decide) (fun c_13 => ?_) (fun c_13 => ?_)
      · skip
        have c_13 : (col < 0) := c_13
        rw [if_pos c_13] at hres
        refine lv_iconst (v := 0) hx hb dX4_hasCell_28 (by decide) ?_
        subst hres
        exact kI_ret hE hS hP hD rfl rfl (Nat.le_of_ble_eq_true rfl) (Nat.le_of_ble_eq_true rfl) dX4_hasCell_29
      · skip
        have c_13 : ¬ (col < 0) := c_13
        rw [if_neg c_13] at hres
        refine lv_iload_n hx hb dX4_hasCell_16 rfl (lv_at hl 2 rfl) ?_
        refine lv_aload_n hx hb dX4_hasCell_17 rfl (lv_at hl 0 rfl) ?_
        refine va_get (D := D) (ci := 4) (v := .int cols) (C := RX4) (T := TX4) (N := 4) hx hb hts hinX4 hown hK hP 0 rfl rfl 1 (by decide) lk_1 (fun _ h9 => h9) rfl dX4_hasCell_18 ?_
        refine lv_icmp_ge (tgt := 28) hx hb dX4_hasCell_21 (by decide) (fun c_21 => ?_) (fun c_21 => ?_)
        · skip
          have c_21 : (cols ≤ col) := c_21
          rw [if_pos c_21] at hres
          refine lv_iconst (v := 0) hx hb dX4_hasCell_28 (by decide) ?_
          subst hres
          exact kI_ret hE hS hP hD rfl rfl (Nat.le_of_ble_eq_true rfl) (Nat.le_of_ble_eq_true rfl) dX4_hasCell_29
        · skip
          have c_21 : ¬ (cols ≤ col) := c_21
          rw [if_neg c_21] at hres
          refine lv_iconst (v := 1) hx hb dX4_hasCell_24 (by decide) ?_
          refine lv_goto (tgt := 29) hx hb dX4_hasCell_25 (by decide) ?_
          subst hres
          exact kI_ret hE hS hP hD rfl rfl (Nat.le_of_ble_eq_true rfl) (Nat.le_of_ble_eq_true rfl) dX4_hasCell_29
set_option maxHeartbeats 4000000 in
set_option maxRecDepth 100000 in
theorem c_X4_at (l : Launch) (D : va_G) (cs : Nat → ClassId) (ta tc : Nat) (cols most : Int32) (tn : Nat) (tt : TV) (line : Int32) (col : Int32) (hT : tb_ok cols most tn) : kI l yX4_at wsX4_at { frames := 1, cells := 0, slots := 0, locals := 22 } 0 0 D cs [.ref ta, .int line, .int col] (tb_W cs ta tc cols most tn tt) (k_X4_at cols most tt line col) (tb_W cs ta tc cols most tn tt) := by
  generalize hres : k_X4_at cols most tt line col = res
  refine kI_of (cc := cX4_at) (maxL := 3) (ret := (some .int)) (by decide) rfl (Nat.le_of_ble_eq_true rfl) ?_
  intro p e s m below meth c A ls H locs hE hS hP hD hl
  obtain ⟨hx, hb, hr, hlocks, hml, hown, hts, hK, hA, hG, hnm⟩ := id hE
  have hown : s.vm.findClass RX4 = some m.cls := hown
  have hl : lv_has ls 3 [(0, .ref ta), (1, .int line), (2, .int col)] := hl
  have hinX4 : ∀ w ∈ wsX40, w ∈ wsX4_at := by decide +kernel
  have lk_0 := hts (.fieldLink RX4 24 "OrganPegs$Table" "cells" "[I") (by decide +kernel)
  have lk_1 := hts (.fieldLink RX4 21 "OrganPegs$Table" "columns" "I") (by decide +kernel)
  unfold k_X4_at at hres
  refine lv_aload_n hx hb dX4_at_0 rfl (lv_at hl 0 rfl) ?_
  refine lv_iload_n hx hb dX4_at_1 rfl (lv_at hl 1 rfl) ?_
  refine lv_iload_n hx hb dX4_at_2 rfl (lv_at hl 2 rfl) ?_
  have hP : va_P D vwCl ((tb_W cs ta tc cols most tn tt) ++ []) H := k_nP hP
  have hD : va_D A ((tb_W cs ta tc cols most tn tt) ++ []) := k_nD hD
  have hc_3 := c_X4_hasCell l D cs ta tc cols most tn tt line col
  refine kI_call (wc := (tb_W cs ta tc cols most tn tt)) (wr := []) (w1 := tb_W cs ta tc cols most tn tt) (r := (k_X4_hasCell cols most tt line col)) hE hP hD hS (k_rV (rest := []) (As := [.int line, .int col]) hE rfl (hc_3 H.size) (cwV 2 hts gX4_at_X4_hasCell rfl rfl rfl (by decide +kernel) ⟨Nat.le_of_ble_eq_true rfl, Nat.le_of_ble_eq_true rfl⟩) hP hD hS (ci := 4) (q0 := 0) rfl rfl rfl hl rfl (Nat.le_of_ble_eq_true rfl) ⟨Nat.le_of_ble_eq_true rfl, Nat.le_of_ble_eq_true rfl⟩ dX4_at_3) (fun H locs hP hD hS => ?_)
  have hP := k_uP hP
  have hD := k_uD hD
  have hP : va_P D vwCl (tb_W cs ta tc cols most tn tt) H := hP
  have hD : va_D A (tb_W cs ta tc cols most tn tt) := hD
  refine lv_if_eq (tgt := 25) hx hb dX4_at_6 (by decide) (fun c_6 => ?_) (fun c_6 => ?_)
  · skip
    have c_6 : ((k_X4_hasCell cols most tt line col) = 0) := c_6
    rw [if_pos c_6] at hres
    refine lv_iconst (v := 0) hx hb dX4_at_25 (by decide) ?_
    subst hres
    exact kI_ret hE hS hP hD rfl rfl (Nat.le_of_ble_eq_true rfl) (Nat.le_of_ble_eq_true rfl) dX4_at_26
  · skip
    have c_6 : ¬ ((k_X4_hasCell cols most tt line col) = 0) := c_6
    rw [if_neg c_6] at hres
    refine lv_aload_n hx hb dX4_at_9 rfl (lv_at hl 0 rfl) ?_
    refine va_get (D := D) (ci := 4) (v := .ref tc) (C := RX4) (T := TX4) (N := 4) hx hb hts hinX4 hown hK hP 0 rfl rfl 0 (by decide) lk_0 (fun _ h9 => h9) rfl dX4_at_10 ?_
    refine lv_iload_n hx hb dX4_at_13 rfl (lv_at hl 1 rfl) ?_
    refine lv_aload_n hx hb dX4_at_14 rfl (lv_at hl 0 rfl) ?_
    refine va_get (D := D) (ci := 4) (v := .int cols) (C := RX4) (T := TX4) (N := 4) hx hb hts hinX4 hown hK hP 0 rfl rfl 1 (by decide) lk_1 (fun _ h9 => h9) rfl dX4_at_15 ?_
    refine lv_imul hx hb dX4_at_18 ?_
    refine lv_iload_n hx hb dX4_at_19 rfl (lv_at hl 2 rfl) ?_
    refine lv_iadd hx hb dX4_at_20 ?_
    refine k_iald hx hb hK hP 1 0 (v := (tt.2 (((line * cols) + col).toNatClampNeg))) rfl rfl (tb_in hT c_6) rfl dX4_at_21 ?_
    refine lv_goto (tgt := 26) hx hb dX4_at_22 (by decide) ?_
    subst hres
    exact kI_ret hE hS hP hD rfl rfl (Nat.le_of_ble_eq_true rfl) (Nat.le_of_ble_eq_true rfl) dX4_at_26
set_option maxHeartbeats 4000000 in
set_option maxRecDepth 100000 in
theorem c_X4_write (l : Launch) (D : va_G) (cs : Nat → ClassId) (ta tc : Nat) (cols most : Int32) (tn : Nat) (tt : TV) (line : Int32) (col : Int32) (vv : Int32) (hT : tb_ok cols most tn) : kV l yX4_write wsX4_write { frames := 1, cells := 0, slots := 0, locals := 22 } 0 0 D cs [.ref ta, .int line, .int col, .int vv] (tb_W cs ta tc cols most tn tt) (fun (_ : Unit) => True) (fun _ => tb_W cs ta tc cols most tn (k_X4_write cols most tt line col vv)) := by
  generalize hres : k_X4_write cols most tt line col vv = res
  refine kV_of (cc := cX4_write) (maxL := 4) (ret := none) (by decide) rfl (Nat.le_of_ble_eq_true rfl) ?_
  intro p e s m below meth c A ls H locs hE hS hP hD hl
  obtain ⟨hx, hb, hr, hlocks, hml, hown, hts, hK, hA, hG, hnm⟩ := id hE
  have hown : s.vm.findClass RX4 = some m.cls := hown
  have hl : lv_has ls 4 [(0, .ref ta), (1, .int line), (2, .int col), (3, .int vv)] := hl
  have hinX4 : ∀ w ∈ wsX40, w ∈ wsX4_write := by decide +kernel
  have lk_0 := hts (.fieldLink RX4 24 "OrganPegs$Table" "cells" "[I") (by decide +kernel)
  have lk_1 := hts (.fieldLink RX4 21 "OrganPegs$Table" "columns" "I") (by decide +kernel)
  unfold k_X4_write at hres
  refine lv_aload_n hx hb dX4_write_0 rfl (lv_at hl 0 rfl) ?_
  refine lv_iload_n hx hb dX4_write_1 rfl (lv_at hl 1 rfl) ?_
  refine lv_iload_n hx hb dX4_write_2 rfl (lv_at hl 2 rfl) ?_
  have hP : va_P D vwCl ((tb_W cs ta tc cols most tn tt) ++ []) H := k_nP hP
  have hD : va_D A ((tb_W cs ta tc cols most tn tt) ++ []) := k_nD hD
  have hc_3 := c_X4_hasCell l D cs ta tc cols most tn tt line col
  refine kI_call (wc := (tb_W cs ta tc cols most tn tt)) (wr := []) (w1 := tb_W cs ta tc cols most tn tt) (r := (k_X4_hasCell cols most tt line col)) hE hP hD hS (k_rV (rest := []) (As := [.int line, .int col]) hE rfl (hc_3 H.size) (cwV 2 hts gX4_write_X4_hasCell rfl rfl rfl (by decide +kernel) ⟨Nat.le_of_ble_eq_true rfl, Nat.le_of_ble_eq_true rfl⟩) hP hD hS (ci := 4) (q0 := 0) rfl rfl rfl hl rfl (Nat.le_of_ble_eq_true rfl) ⟨Nat.le_of_ble_eq_true rfl, Nat.le_of_ble_eq_true rfl⟩ dX4_write_3) (fun H locs hP hD hS => ?_)
  have hP := k_uP hP
  have hD := k_uD hD
  have hP : va_P D vwCl (tb_W cs ta tc cols most tn tt) H := hP
  have hD : va_D A (tb_W cs ta tc cols most tn tt) := hD
  refine lv_if_eq (tgt := 23) hx hb dX4_write_6 (by decide) (fun c_6 => ?_) (fun c_6 => ?_)
  · skip
    have c_6 : ((k_X4_hasCell cols most tt line col) = 0) := c_6
    rw [if_pos c_6] at hres
    subst hres
    exact kV_ret () hE hS hP hD trivial (Nat.le_of_ble_eq_true rfl) (Nat.le_of_ble_eq_true rfl) dX4_write_23
  · skip
    have c_6 : ¬ ((k_X4_hasCell cols most tt line col) = 0) := c_6
    rw [if_neg c_6] at hres
    refine lv_aload_n hx hb dX4_write_9 rfl (lv_at hl 0 rfl) ?_
    refine va_get (D := D) (ci := 4) (v := .ref tc) (C := RX4) (T := TX4) (N := 4) hx hb hts hinX4 hown hK hP 0 rfl rfl 0 (by decide) lk_0 (fun _ h9 => h9) rfl dX4_write_10 ?_
    refine lv_iload_n hx hb dX4_write_13 rfl (lv_at hl 1 rfl) ?_
    refine lv_aload_n hx hb dX4_write_14 rfl (lv_at hl 0 rfl) ?_
    refine va_get (D := D) (ci := 4) (v := .int cols) (C := RX4) (T := TX4) (N := 4) hx hb hts hinX4 hown hK hP 0 rfl rfl 1 (by decide) lk_1 (fun _ h9 => h9) rfl dX4_write_15 ?_
    refine lv_imul hx hb dX4_write_18 ?_
    refine lv_iload_n hx hb dX4_write_19 rfl (lv_at hl 2 rfl) ?_
    refine lv_iadd hx hb dX4_write_20 ?_
    refine lv_iload_n hx hb dX4_write_21 rfl (lv_at hl 3 rfl) ?_
    refine k_iast hx hb hK hP hD hS 1 0 (k := ((line * cols) + col).toNatClampNeg) rfl rfl (tb_in hT c_6) rfl dX4_write_22 (fun H locs hP hD hS => ?_)
    have hP : va_P D vwCl (tb_W cs ta tc cols most tn (tt.1, (va_up tt.2 (((line * cols) + col).toNatClampNeg) vv))) H := hP
    have hD : va_D A (tb_W cs ta tc cols most tn (tt.1, (va_up tt.2 (((line * cols) + col).toNatClampNeg) vv))) := hD
    subst hres
    exact kV_ret () hE hS hP hD trivial (Nat.le_of_ble_eq_true rfl) (Nat.le_of_ble_eq_true rfl) dX4_write_23
set_option maxHeartbeats 4000000 in
set_option maxRecDepth 100000 in
theorem c_X4_addLine (l : Launch) (D : va_G) (cs : Nat → ClassId) (ta tc : Nat) (cols most : Int32) (tn : Nat) (tt : TV)  : kI l yX4_addLine wsX4_addLine { frames := 1, cells := 0, slots := 0, locals := 20 } 0 0 D cs [.ref ta] (tb_W cs ta tc cols most tn tt) (k_X4_addLine cols most tt).1 (tb_W cs ta tc cols most tn ((k_X4_addLine cols most tt).2)) := by
  generalize hres : k_X4_addLine cols most tt = res
  refine kI_of (cc := cX4_addLine) (maxL := 1) (ret := (some .int)) (by decide) rfl (Nat.le_of_ble_eq_true rfl) ?_
  intro p e s m below meth c A ls H locs hE hS hP hD hl
  obtain ⟨hx, hb, hr, hlocks, hml, hown, hts, hK, hA, hG, hnm⟩ := id hE
  have hown : s.vm.findClass RX4 = some m.cls := hown
  have hl : lv_has ls 1 [(0, .ref ta)] := hl
  have hinX4 : ∀ w ∈ wsX40, w ∈ wsX4_addLine := by decide +kernel
  have lk_0 := hts (.fieldLink RX4 28 "OrganPegs$Table" "lines" "I") (by decide +kernel)
  unfold k_X4_addLine at hres
  refine lv_aload_n hx hb dX4_addLine_0 rfl (lv_at hl 0 rfl) ?_
  have hP : va_P D vwCl ((tb_W cs ta tc cols most tn tt) ++ []) H := k_nP hP
  have hD : va_D A ((tb_W cs ta tc cols most tn tt) ++ []) := k_nD hD
  have hc_1 := c_X4_isFull l D cs ta tc cols most tn tt
  refine kI_call (wc := (tb_W cs ta tc cols most tn tt)) (wr := []) (w1 := tb_W cs ta tc cols most tn tt) (r := (k_X4_isFull cols most tt)) hE hP hD hS (k_rV (rest := []) (As := []) hE rfl (hc_1 H.size) (cwV 0 hts gX4_addLine_X4_isFull rfl rfl rfl (by decide +kernel) ⟨Nat.le_of_ble_eq_true rfl, Nat.le_of_ble_eq_true rfl⟩) hP hD hS (ci := 4) (q0 := 0) rfl rfl rfl hl rfl (Nat.le_of_ble_eq_true rfl) ⟨Nat.le_of_ble_eq_true rfl, Nat.le_of_ble_eq_true rfl⟩ dX4_addLine_1) (fun H locs hP hD hS => ?_)
  have hP := k_uP hP
  have hD := k_uD hD
  have hP : va_P D vwCl (tb_W cs ta tc cols most tn tt) H := hP
  have hD : va_D A (tb_W cs ta tc cols most tn tt) := hD
  refine lv_if_eq (tgt := 9) hx hb dX4_addLine_4 (by decide) (fun c_4 => ?_) (fun c_4 => ?_)
  · skip
    have c_4 : ((k_X4_isFull cols most tt) = 0) := c_4
    rw [if_pos c_4] at hres
    refine lv_aload_n hx hb dX4_addLine_9 rfl (lv_at hl 0 rfl) ?_
    refine lv_dup hx hb dX4_addLine_10 rfl ?_
    refine va_get (D := D) (ci := 4) (v := .int tt.1) (C := RX4) (T := TX4) (N := 4) hx hb hts hinX4 hown hK hP 0 rfl rfl 3 (by decide) lk_0 (fun _ h9 => h9) rfl dX4_addLine_11 ?_
    refine lv_iconst (v := 1) hx hb dX4_addLine_14 (by decide) ?_
    refine lv_iadd hx hb dX4_addLine_15 ?_
    refine va_put (D := D) (ci := 4) (v := .int (tt.1 + 1)) (ty := .int) (C := RX4) (T := TX4) (N := 4) hx hb hts hinX4 tyX4 tyX4_ok nmX4 hown hK hP hD hS 0 rfl rfl 3 (by decide) lk_0 (fun _ h9 => h9) rfl (by decide +kernel) rfl rfl (Nat.le_of_ble_eq_true rfl) dX4_addLine_16 (fun H locs hP hD hS => ?_)
    have hP : va_P D vwCl (tb_W cs ta tc cols most tn ((tt.1 + 1), tt.2)) H := hP
    have hD : va_D A (tb_W cs ta tc cols most tn ((tt.1 + 1), tt.2)) := hD
    refine lv_aload_n hx hb dX4_addLine_19 rfl (lv_at hl 0 rfl) ?_
    refine va_get (D := D) (ci := 4) (v := .int (tt.1 + 1)) (C := RX4) (T := TX4) (N := 4) hx hb hts hinX4 hown hK hP 0 rfl rfl 3 (by decide) lk_0 (fun _ h9 => h9) rfl dX4_addLine_20 ?_
    refine lv_iconst (v := 1) hx hb dX4_addLine_23 (by decide) ?_
    refine lv_isub hx hb dX4_addLine_24 ?_
    subst hres
    exact kI_ret hE hS hP hD rfl rfl (Nat.le_of_ble_eq_true rfl) (Nat.le_of_ble_eq_true rfl) dX4_addLine_25
  · skip
    have c_4 : ¬ ((k_X4_isFull cols most tt) = 0) := c_4
    rw [if_neg c_4] at hres
    refine lv_iconst (v := (-1)) hx hb dX4_addLine_7 (by decide) ?_
    subst hres
    exact kI_ret hE hS hP hD rfl rfl (Nat.le_of_ble_eq_true rfl) (Nat.le_of_ble_eq_true rfl) dX4_addLine_8
set_option maxHeartbeats 4000000 in
set_option maxRecDepth 100000 in
theorem c_X4_removeLine (l : Launch) (D : va_G) (cs : Nat → ClassId) (ta tc : Nat) (cols most : Int32) (tn : Nat) (tt : TV) (line : Int32) (hT : tb_ok cols most tn) (hL : TI most tt) : kV l yX4_removeLine wsX4_removeLine { frames := 1, cells := 0, slots := 0, locals := 60 } 0 0 D cs [.ref ta, .int line] (tb_W cs ta tc cols most tn tt) (fun (_ : Unit) => True) (fun _ => tb_W cs ta tc cols most tn (k_X4_removeLine cols most tt line)) := by
  generalize hres : k_X4_removeLine cols most tt line = res
  refine kV_of (cc := cX4_removeLine) (maxL := 3) (ret := none) (by decide) rfl (Nat.le_of_ble_eq_true rfl) ?_
  intro p e s m below meth c A ls H locs hE hS hP hD hl
  obtain ⟨hx, hb, hr, hlocks, hml, hown, hts, hK, hA, hG, hnm⟩ := id hE
  have hown : s.vm.findClass RX4 = some m.cls := hown
  have hl : lv_has ls 3 [(0, .ref ta), (1, .int line)] := hl
  have hinX4 : ∀ w ∈ wsX40, w ∈ wsX4_removeLine := by decide +kernel
  have lk_0 := hts (.fieldLink RX4 28 "OrganPegs$Table" "lines" "I") (by decide +kernel)
  have lk_1 := hts (.fieldLink RX4 21 "OrganPegs$Table" "columns" "I") (by decide +kernel)
  have lk_2 := hts (.fieldLink RX4 24 "OrganPegs$Table" "cells" "[I") (by decide +kernel)
  have lk_3 := hts (.methodLink RX4 43 arraycopyName) (by decide +kernel)
  have lk_4 := hts (.native arraycopyName) (by decide +kernel)
  have lk_5 := hts (.static arraycopyName) (by decide +kernel)
  have lk_6 := hts (.initialized "java/lang/System") (by decide +kernel)
  unfold k_X4_removeLine at hres
  refine lv_aload_n hx hb dX4_removeLine_0 rfl (lv_at hl 0 rfl) ?_
  refine lv_iload_n hx hb dX4_removeLine_1 rfl (lv_at hl 1 rfl) ?_
  have hP : va_P D vwCl ((tb_W cs ta tc cols most tn tt) ++ []) H := k_nP hP
  have hD : va_D A ((tb_W cs ta tc cols most tn tt) ++ []) := k_nD hD
  have hc_2 := c_X4_has l D cs ta tc cols most tn tt line
  refine kI_call (wc := (tb_W cs ta tc cols most tn tt)) (wr := []) (w1 := tb_W cs ta tc cols most tn tt) (r := (k_X4_has tt line)) hE hP hD hS (k_rV (rest := []) (As := [.int line]) hE rfl (hc_2 H.size) (cwV 1 hts gX4_removeLine_X4_has rfl rfl rfl (by decide +kernel) ⟨Nat.le_of_ble_eq_true rfl, Nat.le_of_ble_eq_true rfl⟩) hP hD hS (ci := 4) (q0 := 0) rfl rfl rfl hl rfl (Nat.le_of_ble_eq_true rfl) ⟨Nat.le_of_ble_eq_true rfl, Nat.le_of_ble_eq_true rfl⟩ dX4_removeLine_2) (fun H locs hP hD hS => ?_)
  have hP := k_uP hP
  have hD := k_uD hD
  have hP : va_P D vwCl (tb_W cs ta tc cols most tn tt) H := hP
  have hD : va_D A (tb_W cs ta tc cols most tn tt) := hD
  refine lv_if_ne (tgt := 9) hx hb dX4_removeLine_5 (by decide) (fun c_5 => ?_) (fun c_5 => ?_)
  · skip
    have c_5 : ¬ ((k_X4_has tt line) = 0) := c_5
    rw [if_neg c_5] at hres
    obtain ⟨ra1, ra2, ra3, ra4, ra5, ra6, ra7⟩ := tb_rm hT hL c_5
    refine lv_aload_n hx hb dX4_removeLine_9 rfl (lv_at hl 0 rfl) ?_
    refine va_get (D := D) (ci := 4) (v := .int tt.1) (C := RX4) (T := TX4) (N := 4) hx hb hts hinX4 hown hK hP 0 rfl rfl 3 (by decide) lk_0 (fun _ h9 => h9) rfl dX4_removeLine_10 ?_
    refine lv_iconst (v := 1) hx hb dX4_removeLine_13 (by decide) ?_
    refine lv_isub hx hb dX4_removeLine_14 ?_
    refine lv_iload_n hx hb dX4_removeLine_15 rfl (lv_at hl 1 rfl) ?_
    refine lv_isub hx hb dX4_removeLine_16 ?_
    refine lv_aload_n hx hb dX4_removeLine_17 rfl (lv_at hl 0 rfl) ?_
    refine va_get (D := D) (ci := 4) (v := .int cols) (C := RX4) (T := TX4) (N := 4) hx hb hts hinX4 hown hK hP 0 rfl rfl 1 (by decide) lk_1 (fun _ h9 => h9) rfl dX4_removeLine_18 ?_
    refine lv_imul hx hb dX4_removeLine_21 ?_
    refine lv_istore_n (lv' := [(2, .int (((tt.1 - 1) - line) * cols)), (0, .ref ta), (1, .int line)]) hx hb dX4_removeLine_22 rfl hl (by decide) rfl (fun ls hl => ?_)
    refine lv_aload_n hx hb dX4_removeLine_23 rfl (lv_at hl 1 rfl) ?_
    refine va_get (D := D) (ci := 4) (v := .ref tc) (C := RX4) (T := TX4) (N := 4) hx hb hts hinX4 hown hK hP 0 rfl rfl 0 (by decide) lk_2 (fun _ h9 => h9) rfl dX4_removeLine_24 ?_
    refine lv_iload_n hx hb dX4_removeLine_27 rfl (lv_at hl 2 rfl) ?_
    refine lv_iconst (v := 1) hx hb dX4_removeLine_28 (by decide) ?_
    refine lv_iadd hx hb dX4_removeLine_29 ?_
    refine lv_aload_n hx hb dX4_removeLine_30 rfl (lv_at hl 1 rfl) ?_
    refine va_get (D := D) (ci := 4) (v := .int cols) (C := RX4) (T := TX4) (N := 4) hx hb hts hinX4 hown hK hP 0 rfl rfl 1 (by decide) lk_1 (fun _ h9 => h9) rfl dX4_removeLine_31 ?_
    refine lv_imul hx hb dX4_removeLine_34 ?_
    refine lv_aload_n hx hb dX4_removeLine_35 rfl (lv_at hl 1 rfl) ?_
    refine va_get (D := D) (ci := 4) (v := .ref tc) (C := RX4) (T := TX4) (N := 4) hx hb hts hinX4 hown hK hP 0 rfl rfl 0 (by decide) lk_2 (fun _ h9 => h9) rfl dX4_removeLine_36 ?_
    refine lv_iload_n hx hb dX4_removeLine_39 rfl (lv_at hl 2 rfl) ?_
    refine lv_aload_n hx hb dX4_removeLine_40 rfl (lv_at hl 1 rfl) ?_
    refine va_get (D := D) (ci := 4) (v := .int cols) (C := RX4) (T := TX4) (N := 4) hx hb hts hinX4 hown hK hP 0 rfl rfl 1 (by decide) lk_1 (fun _ h9 => h9) rfl dX4_removeLine_41 ?_
    refine lv_imul hx hb dX4_removeLine_44 ?_
    refine lv_iload_n hx hb dX4_removeLine_45 rfl (lv_at hl 0 rfl) ?_
    refine va_copyi hx hb (hml.trans hl.1.symm) hown lk_3 lk_4 lk_5 lk_6 hK hP hD hS 1 1 0 0 rfl rfl rfl rfl rfl (i_nn (by rw [ra1]; rcases ra7 with ⟨q1, q2, q3⟩ | ⟨q1, q2, q3⟩ <;> rw [q1] <;> omega)) (i_nn (by rw [ra2]; rcases ra7 with ⟨q1, q2, q3⟩ | ⟨q1, q2, q3⟩ <;> rw [q1] <;> omega)) (i_nn (by rw [ra3]; rcases ra7 with ⟨q1, q2, q3⟩ | ⟨q1, q2, q3⟩ <;> rw [q1] <;> omega)) (by rw [i_cl, i_cl, ra1, ra3]; rcases ra7 with ⟨q1, q2, q3⟩ | ⟨q1, q2, q3⟩ <;> rw [q1] <;> omega) (by rw [i_cl, i_cl, ra2, ra3]; rcases ra7 with ⟨q1, q2, q3⟩ | ⟨q1, q2, q3⟩ <;> rw [q1] <;> omega) (fun _ _ => rfl) (Nat.le_of_ble_eq_true rfl) (Nat.le_of_ble_eq_true rfl) dX4_removeLine_46 (fun H locs hP hD hS => ?_)
    have hP : va_P D vwCl (tb_W cs ta tc cols most tn (tt.1, (va_cpy tt.2 tt.2 ((line + 1) * cols).toNatClampNeg (line * cols).toNatClampNeg (((tt.1 - 1) - line) * cols).toNatClampNeg))) H := hP
    have hD : va_D A (tb_W cs ta tc cols most tn (tt.1, (va_cpy tt.2 tt.2 ((line + 1) * cols).toNatClampNeg (line * cols).toNatClampNeg (((tt.1 - 1) - line) * cols).toNatClampNeg))) := hD
    refine lv_aload_n hx hb dX4_removeLine_49 rfl (lv_at hl 1 rfl) ?_
    refine lv_dup hx hb dX4_removeLine_50 rfl ?_
    refine va_get (D := D) (ci := 4) (v := .int tt.1) (C := RX4) (T := TX4) (N := 4) hx hb hts hinX4 hown hK hP 0 rfl rfl 3 (by decide) lk_0 (fun _ h9 => h9) rfl dX4_removeLine_51 ?_
    refine lv_iconst (v := 1) hx hb dX4_removeLine_54 (by decide) ?_
    refine lv_isub hx hb dX4_removeLine_55 ?_
    refine va_put (D := D) (ci := 4) (v := .int (tt.1 - 1)) (ty := .int) (C := RX4) (T := TX4) (N := 4) hx hb hts hinX4 tyX4 tyX4_ok nmX4 hown hK hP hD hS 0 rfl rfl 3 (by decide) lk_0 (fun _ h9 => h9) rfl (by decide +kernel) rfl rfl (Nat.le_of_ble_eq_true rfl) dX4_removeLine_56 (fun H locs hP hD hS => ?_)
    have hP : va_P D vwCl (tb_W cs ta tc cols most tn ((tt.1 - 1), (va_cpy tt.2 tt.2 ((line + 1) * cols).toNatClampNeg (line * cols).toNatClampNeg (((tt.1 - 1) - line) * cols).toNatClampNeg))) H := hP
    have hD : va_D A (tb_W cs ta tc cols most tn ((tt.1 - 1), (va_cpy tt.2 tt.2 ((line + 1) * cols).toNatClampNeg (line * cols).toNatClampNeg (((tt.1 - 1) - line) * cols).toNatClampNeg))) := hD
    subst hres
    exact kV_ret () hE hS hP hD trivial (Nat.le_of_ble_eq_true rfl) (Nat.le_of_ble_eq_true rfl) dX4_removeLine_59
  · skip
    have c_5 : ((k_X4_has tt line) = 0) := c_5
    rw [if_pos c_5] at hres
    subst hres
    exact kV_ret () hE hS hP hD trivial (Nat.le_of_ble_eq_true rfl) (Nat.le_of_ble_eq_true rfl) dX4_removeLine_8
def cr_W (cs : Nat → ClassId) (a1 a2 : Nat) (an : Nat) (fa ga : Nat → Int32) : va_W := [(a1, .inl (cs 0, an, .inl fa)), (a2, .inl (cs 0, an, .inl ga))]
def x_pick (w : va_W) (is : List Nat) : va_W := is.filterMap (fun i => w[i]?)
set_option maxHeartbeats 4000000 in
set_option maxRecDepth 100000 in
theorem c_X5_copyRow (l : Launch) (D : va_G) (cs : Nat → ClassId) (a1 a2 an : Nat) (fa ga : Nat → Int32) (han : an ≤ 1000) : kV l yX5_copyRow wsX5_copyRow { frames := 1, cells := 0, slots := 0, locals := 60 } 0 0 D cs [.ref a1, .ref a2] (cr_W cs a1 a2 an fa ga) (fun (_ : Unit) => True) (fun _ => cr_W cs a1 a2 an fa (k_X5_copyRow an fa ga)) := by
  generalize hres : k_X5_copyRow an fa ga = res
  refine kV_of (cc := cX5_copyRow) (maxL := 2) (ret := none) (by decide) rfl (Nat.le_of_ble_eq_true rfl) ?_
  intro p e s m below meth c A ls H locs hE hS hP hD hl
  obtain ⟨hx, hb, hr, hlocks, hml, hown, hts, hK, hA, hG, hnm⟩ := id hE
  have hown : s.vm.findClass RX5 = some m.cls := hown
  have hl : lv_has ls 2 [(0, .ref a1), (1, .ref a2)] := hl
  have lk_0 := hts (.methodLink RX5 294 Lib.Math.min.name) (by decide +kernel)
  have lk_1 := hts (.static Lib.Math.min.name) (by decide +kernel)
  have lk_2 := hts (.initialized "java/lang/Math") (by decide +kernel)
  have lk_3 := hts (.code Lib.Math.min.name Lib.Math.min.code 2 (some .int)) (by decide +kernel)
  have lk_4 := hts (.methodLink RX5 299 arraycopyName) (by decide +kernel)
  have lk_5 := hts (.native arraycopyName) (by decide +kernel)
  have lk_6 := hts (.static arraycopyName) (by decide +kernel)
  have lk_7 := hts (.initialized "java/lang/System") (by decide +kernel)
  unfold k_X5_copyRow at hres
  refine lv_aload_n hx hb dX5_copyRow_0 rfl (lv_at hl 0 rfl) ?_
  refine lv_iconst (v := 0) hx hb dX5_copyRow_1 (by decide) ?_
  refine lv_aload_n hx hb dX5_copyRow_2 rfl (lv_at hl 1 rfl) ?_
  refine lv_iconst (v := 0) hx hb dX5_copyRow_3 (by decide) ?_
  refine lv_aload_n hx hb dX5_copyRow_4 rfl (lv_at hl 0 rfl) ?_
  refine va_alen hx hb hK hP 0 0 rfl rfl (v := (Int32.ofNat an)) rfl dX5_copyRow_5 ?_
  refine lv_aload_n hx hb dX5_copyRow_6 rfl (lv_at hl 1 rfl) ?_
  refine va_alen hx hb hK hP 1 0 rfl rfl (v := (Int32.ofNat an)) rfl dX5_copyRow_7 ?_
  refine va_mmin hx hb (hml.trans hl.1.symm) hown lk_0 lk_1 lk_2 lk_3 (Nat.le_of_ble_eq_true rfl) (Nat.le_of_ble_eq_true rfl) (Nat.le_of_ble_eq_true rfl) (Nat.le_of_ble_eq_true rfl) dX5_copyRow_8 ?_
  refine va_copyi hx hb (hml.trans hl.1.symm) hown lk_4 lk_5 lk_6 lk_7 hK hP hD hS 0 1 0 0 rfl rfl rfl rfl rfl (by decide) (by decide) (i_nn (by rw [cr_min]; exact (nI_toInt (n := an) (by omega)).symm ▸ (Int.natCast_nonneg an))) (by rw [cr_min]; rw [show (Int32.ofNat an) = nI an from rfl, nI_clamp (by omega)]; exact Nat.le_of_eq (Nat.zero_add an)) (by rw [cr_min]; rw [show (Int32.ofNat an) = nI an from rfl, nI_clamp (by omega)]; exact Nat.le_of_eq (Nat.zero_add an)) (fun _ _ => rfl) (Nat.le_of_ble_eq_true rfl) (Nat.le_of_ble_eq_true rfl) dX5_copyRow_11 (fun H locs hP hD hS => ?_)
  have hP : va_P D vwCl (cr_W cs a1 a2 an fa (va_cpy fa ga 0 0 (x_mmin (Int32.ofNat an) (Int32.ofNat an)).toNatClampNeg)) H := hP
  have hD : va_D A (cr_W cs a1 a2 an fa (va_cpy fa ga 0 0 (x_mmin (Int32.ofNat an) (Int32.ofNat an)).toNatClampNeg)) := hD
  subst hres
  exact kV_ret () hE hS hP hD trivial (Nat.le_of_ble_eq_true rfl) (Nat.le_of_ble_eq_true rfl) dX5_copyRow_14
set_option maxHeartbeats 4000000 in
set_option maxRecDepth 100000 in
theorem c_X4_copyFrom (l : Launch) (D : va_G) (cs : Nat → ClassId) (ta tc : Nat) (cols most : Int32) (tn : Nat) (tt : TV) (ua uc : Nat) (uu : TV) (hn : tn ≤ 1000) : kV l yX4_copyFrom wsX4_copyFrom { frames := 2, cells := 0, slots := 0, locals := 81 } 0 0 D cs [.ref ta, .ref ua] (tb_W cs ta tc cols most tn tt ++ tb_W cs ua uc cols most tn uu) (fun (_ : Unit) => True) (fun _ => tb_W cs ta tc cols most tn (k_X4_copyFrom tn tt uu) ++ tb_W cs ua uc cols most tn uu) := by
  generalize hres : k_X4_copyFrom tn tt uu = res
  refine kV_of (cc := cX4_copyFrom) (maxL := 2) (ret := none) (by decide) rfl (Nat.le_of_ble_eq_true rfl) ?_
  intro p e s m below meth c A ls H locs hE hS hP hD hl
  obtain ⟨hx, hb, hr, hlocks, hml, hown, hts, hK, hA, hG, hnm⟩ := id hE
  have hown : s.vm.findClass RX4 = some m.cls := hown
  have hl : lv_has ls 2 [(0, .ref ta), (1, .ref ua)] := hl
  have hinX4 : ∀ w ∈ wsX40, w ∈ wsX4_copyFrom := by decide +kernel
  have lk_0 := hts (.fieldLink RX4 28 "OrganPegs$Table" "lines" "I") (by decide +kernel)
  have lk_1 := hts (.fieldLink RX4 24 "OrganPegs$Table" "cells" "[I") (by decide +kernel)
  have lk_2 := hts (.initialized RX5) (by decide +kernel)
  have lk_3 := hts (.static yX5_copyRow) (by decide +kernel)
  unfold k_X4_copyFrom at hres
  refine lv_aload_n hx hb dX4_copyFrom_0 rfl (lv_at hl 0 rfl) ?_
  refine lv_aload_n hx hb dX4_copyFrom_1 rfl (lv_at hl 1 rfl) ?_
  refine va_get (D := D) (ci := 4) (v := .int uu.1) (C := RX4) (T := TX4) (N := 4) hx hb hts hinX4 hown hK hP 2 rfl rfl 3 (by decide) lk_0 (fun _ h9 => h9) rfl dX4_copyFrom_2 ?_
  refine va_put (D := D) (ci := 4) (v := .int uu.1) (ty := .int) (C := RX4) (T := TX4) (N := 4) hx hb hts hinX4 tyX4 tyX4_ok nmX4 hown hK hP hD hS 0 rfl rfl 3 (by decide) lk_0 (fun _ h9 => h9) rfl (by decide +kernel) rfl rfl (Nat.le_of_ble_eq_true rfl) dX4_copyFrom_5 (fun H locs hP hD hS => ?_)
  have hP : va_P D vwCl (tb_W cs ta tc cols most tn (uu.1, tt.2) ++ tb_W cs ua uc cols most tn uu) H := hP
  have hD : va_D A (tb_W cs ta tc cols most tn (uu.1, tt.2) ++ tb_W cs ua uc cols most tn uu) := hD
  refine lv_aload_n hx hb dX4_copyFrom_8 rfl (lv_at hl 1 rfl) ?_
  refine va_get (D := D) (ci := 4) (v := .ref uc) (C := RX4) (T := TX4) (N := 4) hx hb hts hinX4 hown hK hP 2 rfl rfl 0 (by decide) lk_1 (fun _ h9 => h9) rfl dX4_copyFrom_9 ?_
  refine lv_aload_n hx hb dX4_copyFrom_12 rfl (lv_at hl 0 rfl) ?_
  refine va_get (D := D) (ci := 4) (v := .ref tc) (C := RX4) (T := TX4) (N := 4) hx hb hts hinX4 hown hK hP 0 rfl rfl 0 (by decide) lk_1 (fun _ h9 => h9) rfl dX4_copyFrom_13 ?_
  have hP := hP.sub (ws' := (cr_W cs uc tc tn uu.2 tt.2) ++ (x_pick (tb_W cs ta tc cols most tn (uu.1, tt.2) ++ tb_W cs ua uc cols most tn uu) [0, 2])) [3, 1, 0, 2] rfl
  have hD := hD.sub (ws' := (cr_W cs uc tc tn uu.2 tt.2) ++ (x_pick (tb_W cs ta tc cols most tn (uu.1, tt.2) ++ tb_W cs ua uc cols most tn uu) [0, 2])) [3, 1, 0, 2] (by decide) rfl
  have hc_16 := c_X5_copyRow l D cs uc tc tn uu.2 tt.2 (by first | assumption | decide)
  refine kV_call (wc := (cr_W cs uc tc tn uu.2 tt.2)) (wr := (x_pick (tb_W cs ta tc cols most tn (uu.1, tt.2) ++ tb_W cs ua uc cols most tn uu) [0, 2])) (w1 := fun _ => cr_W cs uc tc tn uu.2 (k_X5_copyRow tn uu.2 tt.2)) hE hP hD hS (k_rSN (rest := []) (As := [.ref uc, .ref tc]) hE rfl (hc_16 H.size) ⟨va_cnB 2 hts gX4_copyFrom_X5_copyRow_n49 rfl rfl rfl (hG.1.2.1 _ _ _ _ nm_X4_49) lk_2 (by decide +kernel) ⟨Nat.le_of_ble_eq_true rfl, Nat.le_of_ble_eq_true rfl⟩, lk_3, trivial⟩ hP hD hS rfl hl rfl (Nat.le_of_ble_eq_true rfl) ⟨Nat.le_of_ble_eq_true rfl, Nat.le_of_ble_eq_true rfl⟩ dX4_copyFrom_16) (fun _ H locs _ hP hD hS => ?_)
  have hP := hP.sub (ws' := tb_W cs ta tc cols most tn (uu.1, (k_X5_copyRow tn uu.2 tt.2)) ++ tb_W cs ua uc cols most tn uu) [2, 1, 3, 0] rfl
  have hD := hD.sub (ws' := tb_W cs ta tc cols most tn (uu.1, (k_X5_copyRow tn uu.2 tt.2)) ++ tb_W cs ua uc cols most tn uu) [2, 1, 3, 0] (by decide) rfl
  have hP : va_P D vwCl (tb_W cs ta tc cols most tn (uu.1, (k_X5_copyRow tn uu.2 tt.2)) ++ tb_W cs ua uc cols most tn uu) H := hP
  have hD : va_D A (tb_W cs ta tc cols most tn (uu.1, (k_X5_copyRow tn uu.2 tt.2)) ++ tb_W cs ua uc cols most tn uu) := hD
  subst hres
  exact kV_ret () hE hS hP hD trivial (Nat.le_of_ble_eq_true rfl) (Nat.le_of_ble_eq_true rfl) dX4_copyFrom_19
