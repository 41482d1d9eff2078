theorem i2c_b {x : Int32} (h1 : ¬ x < 0) (h2 : x ≤ 255) : x_i2c x = x ∧ 0 ≤ x.toInt ∧ x.toInt ≤ 255 := by
  rw [i_lt] at h1
  rw [i_le] at h2
  have e0 : (0 : Int32).toInt = 0 := rfl
  have e2 : (255 : Int32).toInt = 255 := rfl
  have h : x = nI x.toInt.toNat := i_nat (by omega)
  refine ⟨?_, by omega, by omega⟩
  rw [h]
  exact (by decide +kernel : ∀ k, k < 256 → x_i2c (nI k) = nI k) _ (by omega)
def k_X5_append (cv : CV) (vc : Int32) : Option String × Int32 × CV := (if vc < 0 then (some "java/lang/IllegalArgumentException", 0, cv) else (if vc ≤ 255 then (if (k_X2_isFull cv.1) = 0 then (match (k_X2_addCharacter cv.1 (x_i2c vc)) with | (r_47, o_47) => (none, r_47, (c_r cv o_47))) else (some "java/lang/IllegalStateException", 0, cv)) else (some "java/lang/IllegalArgumentException", 0, cv)))
set_option maxHeartbeats 4000000 in
set_option maxRecDepth 100000 in
theorem c_X5_append (l : Launch) (hfl : l.stackTraces = false) (D : va_G) (cs : Nat → ClassId) (ca : Nat → Nat → Nat) (cv : CV) (vc : Int32) (hC : CO cv) : kX l yX5_append wsX5_append { frames := 6, cells := 1, slots := 6, locals := 82 } 1 6 D cs [.ref (ca 0 0), .int vc] (ca_W cs ca cv) (k_X5_append cv vc).1 (k_X5_append cv vc).2.1 (ca_W cs ca ((k_X5_append cv vc).2.2)) := by
  generalize hres : k_X5_append cv vc = res
  refine kX_of (cc := cX5_append) (maxL := 2) (ret := (some .int)) (by decide) rfl (Nat.le_of_ble_eq_true rfl) ?_
  intro p e s m below meth c A ls H locs hE hxt hS hP hD hl
  obtain ⟨hx, hb, hr, hlocks, hml, hown, hts, hK, hA, hG, hnm⟩ := id hE
  have hown : s.vm.findClass RX5 = some m.cls := hown
  have hl : lv_has ls 2 [(0, .ref (ca 0 0)), (1, .int vc)] := hl
  have hinX5 : ∀ w ∈ wsX50, w ∈ wsX5_append := by decide +kernel
  have lk_0 := hts (.classLink RX5 43 "java/lang/IllegalArgumentException") (by decide +kernel)
  have lk_1 := hts (.initialized "java/lang/IllegalArgumentException") (by decide +kernel)
  have lk_2 := hts (.fieldLink RX5 10 "OrganPegs" "roll" "LOrganPegs$Roll;") (by decide +kernel)
  have lk_3 := hts (.classLink RX5 54 "java/lang/IllegalStateException") (by decide +kernel)
  have lk_4 := hts (.initialized "java/lang/IllegalStateException") (by decide +kernel)
  unfold k_X5_append at hres
  refine lv_iload_n hx hb dX5_append_0 rfl (lv_at hl 1 rfl) ?_
  refine lv_if_lt (tgt := 11) hx hb dX5_append_1 (by decide) (fun c_1 => ?_) (fun c_1 => ?_)
  · skip
    have c_1 : (vc < 0) := c_1
    rw [if_pos c_1] at hres
    subst hres
    exact kX_throw hE hfl hxt hS hP hD hl rfl (by decide) lk_0 lk_1 sr_45 xg_47 (by decide +kernel) xb_47 dX5_append_11 dX5_append_14 dX5_append_15 dX5_append_17 dX5_append_20 (Nat.le_of_ble_eq_true rfl) (Nat.le_of_ble_eq_true rfl) (Nat.le_of_ble_eq_true rfl) (Nat.le_of_ble_eq_true rfl) (Nat.le_of_ble_eq_true rfl) (Nat.le_of_ble_eq_true rfl) rfl
  · skip
    have c_1 : ¬ (vc < 0) := c_1
    rw [if_neg c_1] at hres
    refine lv_iload_n hx hb dX5_append_4 rfl (lv_at hl 1 rfl) ?_
    refine lv_sipush (v := 255) hx hb dX5_append_5 (by decide) ?_
    refine lv_icmp_le (tgt := 21) hx hb dX5_append_8 (by decide) (fun c_8 => ?_) (fun c_8 => ?_)
    · skip
      have c_8 : (vc ≤ 255) := c_8
      rw [if_pos c_8] at hres
      refine lv_aload_n hx hb dX5_append_21 rfl (lv_at hl 0 rfl) ?_
      refine va_get (D := D) (ci := 5) (v := .ref (ca 1 0)) (C := RX5) (T := TX5) (N := 6) hx hb hts hinX5 hown hK hP 0 rfl rfl 0 (by decide) lk_2 (fun _ h9 => h9) rfl dX5_append_22 ?_
      have hP := pmP (ca_pmr (cs := cs) (ca := ca) (cv := cv)) hP
      have hD := pmD (ca_pmr (cs := cs) (ca := ca) (cv := cv)) hD
      have hc_25 := c_X2_isFull l D cs (ca 1) cv.1
      refine kI_call (wc := (rl_W cs (ca 1) cv.1)) (wr := (ca_rr cs ca cv)) (w1 := rl_W cs (ca 1) cv.1) (r := (k_X2_isFull cv.1)) hE hP hD hS (k_rV (rest := []) (As := []) hE rfl (hc_25 H.size) (cwV 0 hts gX5_append_X2_isFull rfl rfl rfl (by decide +kernel) ⟨Nat.le_of_ble_eq_true rfl, Nat.le_of_ble_eq_true rfl⟩) hP hD hS (ci := 2) (q0 := 0) rfl rfl rfl hl rfl (Nat.le_of_ble_eq_true rfl) ⟨Nat.le_of_ble_eq_true rfl, Nat.le_of_ble_eq_true rfl⟩ dX5_append_25) (fun H locs hP hD hS => ?_)
      have hP := pmP (ca_bkr (cs := cs) (ca := ca) (cv := cv)) hP
      have hD := pmD (ca_bkr (cs := cs) (ca := ca) (cv := cv)) hD
      have hP : va_P D vwCl (ca_W cs ca cv) H := hP
      have hD : va_D A (ca_W cs ca cv) := hD
      refine lv_if_eq (tgt := 41) hx hb dX5_append_28 (by decide) (fun c_28 => ?_) (fun c_28 => ?_)
      · skip
        have c_28 : ((k_X2_isFull cv.1) = 0) := c_28
        rw [if_pos c_28] at hres
        refine lv_aload_n hx hb dX5_append_41 rfl (lv_at hl 0 rfl) ?_
        refine va_get (D := D) (ci := 5) (v := .ref (ca 1 0)) (C := RX5) (T := TX5) (N := 6) hx hb hts hinX5 hown hK hP 0 rfl rfl 0 (by decide) lk_2 (fun _ h9 => h9) rfl dX5_append_42 ?_
        refine lv_iload_n hx hb dX5_append_45 rfl (lv_at hl 1 rfl) ?_
        refine lv_i2c hx hb dX5_append_46 rfl ?_
        have hP := pmP (ca_pmr (cs := cs) (ca := ca) (cv := cv)) hP
        have hD := pmD (ca_pmr (cs := cs) (ca := ca) (cv := cv)) hD
        have hc_47 := c_X2_addCharacter l D cs (ca 1) cv.1 (x_i2c vc) (by rw [(i2c_b c_1 c_8).1]; exact (i2c_b c_1 c_8).2)
        obtain ⟨r_47, o_47, e_47⟩ : ∃ r9 o9, (k_X2_addCharacter cv.1 (x_i2c vc)) = (r9, o9) := ⟨_, _, rfl⟩
        rw [e_47] at hc_47 hres
        dsimp only at hc_47 hres
        refine kI_call (wc := (rl_W cs (ca 1) cv.1)) (wr := (ca_rr cs ca cv)) (w1 := rl_W cs (ca 1) o_47) (r := r_47) hE hP hD hS (k_rV (rest := []) (As := [.int (x_i2c vc)]) hE rfl (hc_47 H.size) (cwV 1 hts gX5_append_X2_addCharacter rfl rfl rfl (by decide +kernel) ⟨Nat.le_of_ble_eq_true rfl, Nat.le_of_ble_eq_true rfl⟩) hP hD hS (ci := 2) (q0 := 0) rfl rfl rfl hl rfl (Nat.le_of_ble_eq_true rfl) ⟨Nat.le_of_ble_eq_true rfl, Nat.le_of_ble_eq_true rfl⟩ dX5_append_47) (fun H locs hP hD hS => ?_)
        have hP := pmP (ca_bkr (cs := cs) (ca := ca) (cv := cv)) hP
        have hD := pmD (ca_bkr (cs := cs) (ca := ca) (cv := cv)) hD
        have hP : va_P D vwCl (ca_W cs ca (c_r cv o_47)) H := hP
        have hD : va_D A (ca_W cs ca (c_r cv o_47)) := hD
        subst hres
        exact kX_ret hE hS hP hD rfl rfl rfl (Nat.le_of_ble_eq_true rfl) (Nat.le_of_ble_eq_true rfl) dX5_append_50
      · skip
        have c_28 : ¬ ((k_X2_isFull cv.1) = 0) := c_28
        rw [if_neg c_28] at hres
        subst hres
        exact kX_throw hE hfl hxt hS hP hD hl rfl (by decide) lk_3 lk_4 sr_56 xg_58 (by decide +kernel) xb_58 dX5_append_31 dX5_append_34 dX5_append_35 dX5_append_37 dX5_append_40 (Nat.le_of_ble_eq_true rfl) (Nat.le_of_ble_eq_true rfl) (Nat.le_of_ble_eq_true rfl) (Nat.le_of_ble_eq_true rfl) (Nat.le_of_ble_eq_true rfl) (Nat.le_of_ble_eq_true rfl) rfl
    · skip
      have c_8 : ¬ (vc ≤ 255) := c_8
      rw [if_neg c_8] at hres
      subst hres
      exact kX_throw hE hfl hxt hS hP hD hl rfl (by decide) lk_0 lk_1 sr_45 xg_47 (by decide +kernel) xb_47 dX5_append_11 dX5_append_14 dX5_append_15 dX5_append_17 dX5_append_20 (Nat.le_of_ble_eq_true rfl) (Nat.le_of_ble_eq_true rfl) (Nat.le_of_ble_eq_true rfl) (Nat.le_of_ble_eq_true rfl) (Nat.le_of_ble_eq_true rfl) (Nat.le_of_ble_eq_true rfl) rfl
def k_X5_clearText (cv : CV) : Int32 × CV := (match (k_X2_wipe cv.1) with | (r_4, o_4) => (r_4, (c_r cv o_4)))
def k_X5_errorPosition (cv : CV) : Int32 × CV := (match (k_X2_firstWrong cv.1) with | (r_4, o_4) => (r_4, (c_r cv o_4)))
def k_X5_about (cv : CV) (vw : Int32) : Option String × Int32 × CV := (if vw < 0 then (some "java/lang/IllegalArgumentException", 0, cv) else (if vw ≤ 11 then (none, (k_X1_tell (cv.2.1 0) vw), cv) else (some "java/lang/IllegalArgumentException", 0, cv)))
set_option maxHeartbeats 4000000 in
set_option maxRecDepth 100000 in
theorem c_X5_about (l : Launch) (hfl : l.stackTraces = false) (D : va_G) (cs : Nat → ClassId) (ca : Nat → Nat → Nat) (cv : CV) (vw : Int32) (hC : CO cv) : kX l yX5_about wsX5_about { frames := 6, cells := 1, slots := 6, locals := 82 } 1 6 D cs [.ref (ca 0 0), .int vw] (ca_W cs ca cv) (k_X5_about cv vw).1 (k_X5_about cv vw).2.1 (ca_W cs ca ((k_X5_about cv vw).2.2)) := by
  generalize hres : k_X5_about cv vw = res
  refine kX_of (cc := cX5_about) (maxL := 2) (ret := (some .int)) (by decide) rfl (Nat.le_of_ble_eq_true rfl) ?_
  intro p e s m below meth c A ls H locs hE hxt hS hP hD hl
  obtain ⟨hx, hb, hr, hlocks, hml, hown, hts, hK, hA, hG, hnm⟩ := id hE
  have hown : s.vm.findClass RX5 = some m.cls := hown
  have hl : lv_has ls 2 [(0, .ref (ca 0 0)), (1, .int vw)] := hl
  have hinX5 : ∀ w ∈ wsX50, w ∈ wsX5_about := by decide +kernel
  have lk_0 := hts (.classLink RX5 43 "java/lang/IllegalArgumentException") (by decide +kernel)
  have lk_1 := hts (.initialized "java/lang/IllegalArgumentException") (by decide +kernel)
  have lk_2 := hts (.fieldLink RX5 19 "OrganPegs" "organ" "LOrganPegs$Organ;") (by decide +kernel)
  unfold k_X5_about at hres
  refine lv_iload_n hx hb dX5_about_0 rfl (lv_at hl 1 rfl) ?_
  refine lv_if_lt (tgt := 10) hx hb dX5_about_1 (by decide) (fun c_1 => ?_) (fun c_1 => ?_)
  · skip
    have c_1 : (vw < 0) := c_1
    rw [if_pos c_1] at hres
    subst hres
    exact kX_throw hE hfl hxt hS hP hD hl rfl (by decide) lk_0 lk_1 sr_122 xg_47 (by decide +kernel) xb_47 dX5_about_10 dX5_about_13 dX5_about_14 dX5_about_16 dX5_about_19 (Nat.le_of_ble_eq_true rfl) (Nat.le_of_ble_eq_true rfl) (Nat.le_of_ble_eq_true rfl) (Nat.le_of_ble_eq_true rfl) (Nat.le_of_ble_eq_true rfl) (Nat.le_of_ble_eq_true rfl) rfl
  · skip
    have c_1 : ¬ (vw < 0) := c_1
    rw [if_neg c_1] at hres
    refine lv_iload_n hx hb dX5_about_4 rfl (lv_at hl 1 rfl) ?_
    refine lv_bipush (v := 11) hx hb dX5_about_5 (by decide) ?_
    refine lv_icmp_le (tgt := 20) hx hb dX5_about_7 (by decide) (fun c_7 => ?_) (fun c_7 => ?_)
    · skip
      have c_7 : (vw ≤ 11) := c_7
      rw [if_pos c_7] at hres
      refine lv_aload_n hx hb dX5_about_20 rfl (lv_at hl 0 rfl) ?_
      refine va_get (D := D) (ci := 5) (v := .ref (ca 10 0)) (C := RX5) (T := TX5) (N := 6) hx hb hts hinX5 hown hK hP 0 rfl rfl 1 (by decide) lk_2 (fun _ h9 => h9) rfl dX5_about_21 ?_
      refine lv_iload_n hx hb dX5_about_24 rfl (lv_at hl 1 rfl) ?_
      have hP := pmP (ca_pm1 (cs := cs) (ca := ca) (cv := cv) (k := 0) (by decide)) hP
      have hD := pmD (ca_pm1 (cs := cs) (ca := ca) (cv := cv) (k := 0) (by decide)) hD
      have hc_25 := c_X1_tell l D cs (ca 10) (cv.2.1 0) vw
      refine kI_call (wc := (og_W cs (ca 10) (cv.2.1 0))) (wr := (ca_ro cs ca cv 0)) (w1 := og_W cs (ca 10) (cv.2.1 0)) (r := (k_X1_tell (cv.2.1 0) vw)) hE hP hD hS (k_rV (rest := []) (As := [.int vw]) hE rfl (hc_25 H.size) (cwV 1 hts gX5_about_X1_tell rfl rfl rfl (by decide +kernel) ⟨Nat.le_of_ble_eq_true rfl, Nat.le_of_ble_eq_true rfl⟩) hP hD hS (ci := 1) (q0 := 0) rfl rfl rfl hl rfl (Nat.le_of_ble_eq_true rfl) ⟨Nat.le_of_ble_eq_true rfl, Nat.le_of_ble_eq_true rfl⟩ dX5_about_25) (fun H locs hP hD hS => ?_)
      have hP := pmP (ca_bk1 (cs := cs) (ca := ca) (cv := cv) (k := 0) (by decide)) hP
      have hD := pmD (ca_bk1 (cs := cs) (ca := ca) (cv := cv) (k := 0) (by decide)) hD
      have hP : va_P D vwCl (ca_W cs ca cv) H := hP
      have hD : va_D A (ca_W cs ca cv) := hD
      subst hres
      exact kX_ret hE hS hP hD rfl rfl rfl (Nat.le_of_ble_eq_true rfl) (Nat.le_of_ble_eq_true rfl) dX5_about_28
    · skip
      have c_7 : ¬ (vw ≤ 11) := c_7
      rw [if_neg c_7] at hres
      subst hres
      exact kX_throw hE hfl hxt hS hP hD hl rfl (by decide) lk_0 lk_1 sr_122 xg_47 (by decide +kernel) xb_47 dX5_about_10 dX5_about_13 dX5_about_14 dX5_about_16 dX5_about_19 (Nat.le_of_ble_eq_true rfl) (Nat.le_of_ble_eq_true rfl) (Nat.le_of_ble_eq_true rfl) (Nat.le_of_ble_eq_true rfl) (Nat.le_of_ble_eq_true rfl) (Nat.le_of_ble_eq_true rfl) rfl
def k_X5_pegOf (cv : CV) (vk : Int32) (vw : Int32) : Option String × Int32 × CV := (if (k_X4_has (g_pt (cv.2.1 0)) vk) = 0 then (some "java/lang/IndexOutOfBoundsException", 0, cv) else (if vw < 0 then (some "java/lang/IllegalArgumentException", 0, cv) else (if vw < 4 then (none, (k_X4_at 4 30 (g_pt (cv.2.1 0)) vk vw), cv) else (some "java/lang/IllegalArgumentException", 0, cv))))
set_option maxHeartbeats 4000000 in
set_option maxRecDepth 100000 in
theorem c_X5_pegOf (l : Launch) (hfl : l.stackTraces = false) (D : va_G) (cs : Nat → ClassId) (ca : Nat → Nat → Nat) (cv : CV) (vk : Int32) (vw : Int32) (hC : CO cv) : kX l yX5_pegOf wsX5_pegOf { frames := 6, cells := 1, slots := 6, locals := 82 } 1 6 D cs [.ref (ca 0 0), .int vk, .int vw] (ca_W cs ca cv) (k_X5_pegOf cv vk vw).1 (k_X5_pegOf cv vk vw).2.1 (ca_W cs ca ((k_X5_pegOf cv vk vw).2.2)) := by
  generalize hres : k_X5_pegOf cv vk vw = res
  refine kX_of (cc := cX5_pegOf) (maxL := 3) (ret := (some .int)) (by decide) rfl (Nat.le_of_ble_eq_true rfl) ?_
  intro p e s m below meth c A ls H locs hE hxt hS hP hD hl
  obtain ⟨hx, hb, hr, hlocks, hml, hown, hts, hK, hA, hG, hnm⟩ := id hE
  have hown : s.vm.findClass RX5 = some m.cls := hown
  have hl : lv_has ls 3 [(0, .ref (ca 0 0)), (1, .int vk), (2, .int vw)] := hl
  have hinX1 : ∀ w ∈ wsX10, w ∈ wsX5_pegOf := by decide +kernel
  have hinX5 : ∀ w ∈ wsX50, w ∈ wsX5_pegOf := by decide +kernel
  have lk_0 := hts (.fieldLink RX5 19 "OrganPegs" "organ" "LOrganPegs$Organ;") (by decide +kernel)
  have lk_1 := hts (.classLink RX5 43 "java/lang/IllegalArgumentException") (by decide +kernel)
  have lk_2 := hts (.initialized "java/lang/IllegalArgumentException") (by decide +kernel)
  have lk_3 := hts (.classLink RX5 137 "java/lang/IndexOutOfBoundsException") (by decide +kernel)
  have lk_4 := hts (.initialized "java/lang/IndexOutOfBoundsException") (by decide +kernel)
  unfold k_X5_pegOf at hres
  refine lv_aload_n hx hb dX5_pegOf_0 rfl (lv_at hl 0 rfl) ?_
  refine va_get (D := D) (ci := 5) (v := .ref (ca 10 0)) (C := RX5) (T := TX5) (N := 6) hx hb hts hinX5 hown hK hP 0 rfl rfl 1 (by decide) lk_0 (fun _ h9 => h9) rfl dX5_pegOf_1 ?_
  refine va_getN (D := D) (ci := 1) (v := .ref (ca 10 1)) (C := RX1) (T := TX1) (N := 17) hx hb hts hinX1 hown hK (k_left (pmP (ca_pm1 (k := 0) (by decide)) hP)) 0 rfl rfl 0 (by decide) (va_Nw.use rfl (hG.1.1 _ _ _ _ _ _ nf_X5_127)) (fun _ h9 => h9) rfl dX5_pegOf_4 ?_
  refine lv_iload_n hx hb dX5_pegOf_7 rfl (lv_at hl 1 rfl) ?_
  have pm9 := ((ca_pm1 (cs := cs) (ca := ca) (cv := cv) (k := 0) (by decide)).trans ((og_pmP.append_right _).trans (List.Perm.of_eq (List.append_assoc _ _ _))))
  have hP := pmP pm9 hP
  have hD := pmD pm9 hD
  have hc_8 := c_X4_has l D cs ((ca 10) 1) ((ca 10) 3) 4 30 120 (g_pt (cv.2.1 0)) vk
  refine kI_call (wc := (tb_W cs ((ca 10) 1) ((ca 10) 3) 4 30 120 (g_pt (cv.2.1 0)))) (wr := (og_rP cs (ca 10) (cv.2.1 0) ++ ca_ro cs ca cv 0)) (w1 := tb_W cs ((ca 10) 1) ((ca 10) 3) 4 30 120 (g_pt (cv.2.1 0))) (r := (k_X4_has (g_pt (cv.2.1 0)) vk)) hE hP hD hS (k_rV (rest := []) (As := [.int vk]) hE rfl (hc_8 H.size) (cwV 1 hts gX5_pegOf_X4_has rfl rfl rfl (by decide +kernel) ⟨Nat.le_of_ble_eq_true rfl, Nat.le_of_ble_eq_true rfl⟩) hP hD hS (ci := 4) (q0 := 0) rfl rfl rfl hl rfl (Nat.le_of_ble_eq_true rfl) ⟨Nat.le_of_ble_eq_true rfl, Nat.le_of_ble_eq_true rfl⟩ dX5_pegOf_8) (fun H locs hP hD hS => ?_)
  have hP := pmP pm9.symm hP
  have hD := pmD pm9.symm hD
  have hP : va_P D vwCl (ca_W cs ca cv) H := hP
  have hD : va_D A (ca_W cs ca cv) := hD
  refine lv_if_ne (tgt := 24) hx hb dX5_pegOf_11 (by decide) (fun c_11 => ?_) (fun c_11 => ?_)
  · skip
    have c_11 : ¬ ((k_X4_has (g_pt (cv.2.1 0)) vk) = 0) := c_11
    rw [if_neg c_11] at hres
    refine lv_iload_n hx hb dX5_pegOf_24 rfl (lv_at hl 2 rfl) ?_
    refine lv_if_lt (tgt := 33) hx hb dX5_pegOf_25 (by decide) (fun c_25 => ?_) (fun c_25 => ?_)
    · skip
      have c_25 : (vw < 0) := c_25
      rw [if_pos c_25] at hres
      subst hres
      exact kX_throw hE hfl hxt hS hP hD hl rfl (by decide) lk_1 lk_2 sr_142 xg_47 (by decide +kernel) xb_47 dX5_pegOf_33 dX5_pegOf_36 dX5_pegOf_37 dX5_pegOf_39 dX5_pegOf_42 (Nat.le_of_ble_eq_true rfl) (Nat.le_of_ble_eq_true rfl) (Nat.le_of_ble_eq_true rfl) (Nat.le_of_ble_eq_true rfl) (Nat.le_of_ble_eq_true rfl) (Nat.le_of_ble_eq_true rfl) rfl
    · skip
      have c_25 : ¬ (vw < 0) := c_25
      rw [if_neg c_25] at hres
      refine lv_iload_n hx hb dX5_pegOf_28 rfl (lv_at hl 2 rfl) ?_
      refine lv_iconst (v := 4) hx hb dX5_pegOf_29 (by decide) ?_
      refine lv_icmp_lt (tgt := 43) hx hb dX5_pegOf_30 (by decide) (fun c_30 => ?_) (fun c_30 => ?_)
      · skip
        have c_30 : (vw < 4) := c_30
        rw [if_pos c_30] at hres
        refine lv_aload_n hx hb dX5_pegOf_43 rfl (lv_at hl 0 rfl) ?_
        refine va_get (D := D) (ci := 5) (v := .ref (ca 10 0)) (C := RX5) (T := TX5) (N := 6) hx hb hts hinX5 hown hK hP 0 rfl rfl 1 (by decide) lk_0 (fun _ h9 => h9) rfl dX5_pegOf_44 ?_
        refine va_getN (D := D) (ci := 1) (v := .ref (ca 10 1)) (C := RX1) (T := TX1) (N := 17) hx hb hts hinX1 hown hK (k_left (pmP (ca_pm1 (k := 0) (by decide)) hP)) 0 rfl rfl 0 (by decide) (va_Nw.use rfl (hG.1.1 _ _ _ _ _ _ nf_X5_127)) (fun _ h9 => h9) rfl dX5_pegOf_47 ?_
        refine lv_iload_n hx hb dX5_pegOf_50 rfl (lv_at hl 1 rfl) ?_
        refine lv_iload_n hx hb dX5_pegOf_51 rfl (lv_at hl 2 rfl) ?_
        have pm9 := ((ca_pm1 (cs := cs) (ca := ca) (cv := cv) (k := 0) (by decide)).trans ((og_pmP.append_right _).trans (List.Perm.of_eq (List.append_assoc _ _ _))))
        have hP := pmP pm9 hP
        have hD := pmD pm9 hD
        have hc_52 := c_X4_at l D cs ((ca 10) 1) ((ca 10) 3) 4 30 120 (g_pt (cv.2.1 0)) vk vw (Or.inl ⟨rfl, rfl, rfl⟩)
        refine kI_call (wc := (tb_W cs ((ca 10) 1) ((ca 10) 3) 4 30 120 (g_pt (cv.2.1 0)))) (wr := (og_rP cs (ca 10) (cv.2.1 0) ++ ca_ro cs ca cv 0)) (w1 := tb_W cs ((ca 10) 1) ((ca 10) 3) 4 30 120 (g_pt (cv.2.1 0))) (r := (k_X4_at 4 30 (g_pt (cv.2.1 0)) vk vw)) hE hP hD hS (k_rV (rest := []) (As := [.int vk, .int vw]) hE rfl (hc_52 H.size) (cwV 2 hts gX5_pegOf_X4_at rfl rfl rfl (by decide +kernel) ⟨Nat.le_of_ble_eq_true rfl, Nat.le_of_ble_eq_true rfl⟩) hP hD hS (ci := 4) (q0 := 0) rfl rfl rfl hl rfl (Nat.le_of_ble_eq_true rfl) ⟨Nat.le_of_ble_eq_true rfl, Nat.le_of_ble_eq_true rfl⟩ dX5_pegOf_52) (fun H locs hP hD hS => ?_)
        have hP := pmP pm9.symm hP
        have hD := pmD pm9.symm hD
        have hP : va_P D vwCl (ca_W cs ca cv) H := hP
        have hD : va_D A (ca_W cs ca cv) := hD
        subst hres
        exact kX_ret hE hS hP hD rfl rfl rfl (Nat.le_of_ble_eq_true rfl) (Nat.le_of_ble_eq_true rfl) dX5_pegOf_55
      · skip
        have c_30 : ¬ (vw < 4) := c_30
        rw [if_neg c_30] at hres
        subst hres
        exact kX_throw hE hfl hxt hS hP hD hl rfl (by decide) lk_1 lk_2 sr_142 xg_47 (by decide +kernel) xb_47 dX5_pegOf_33 dX5_pegOf_36 dX5_pegOf_37 dX5_pegOf_39 dX5_pegOf_42 (Nat.le_of_ble_eq_true rfl) (Nat.le_of_ble_eq_true rfl) (Nat.le_of_ble_eq_true rfl) (Nat.le_of_ble_eq_true rfl) (Nat.le_of_ble_eq_true rfl) (Nat.le_of_ble_eq_true rfl) rfl
  · skip
    have c_11 : ((k_X4_has (g_pt (cv.2.1 0)) vk) = 0) := c_11
    rw [if_pos c_11] at hres
    subst hres
    exact kX_throw hE hfl hxt hS hP hD hl rfl (by decide) lk_3 lk_4 sr_139 xg_141 (by decide +kernel) xb_141 dX5_pegOf_14 dX5_pegOf_17 dX5_pegOf_18 dX5_pegOf_20 dX5_pegOf_23 (Nat.le_of_ble_eq_true rfl) (Nat.le_of_ble_eq_true rfl) (Nat.le_of_ble_eq_true rfl) (Nat.le_of_ble_eq_true rfl) (Nat.le_of_ble_eq_true rfl) (Nat.le_of_ble_eq_true rfl) rfl
def k_X5_orderOf (cv : CV) (vk : Int32) (vw : Int32) : Option String × Int32 × CV := (if (k_X4_has (g_ot (cv.2.1 0)) vk) = 0 then (some "java/lang/IndexOutOfBoundsException", 0, cv) else (if vw < 0 then (some "java/lang/IllegalArgumentException", 0, cv) else (if vw < 5 then (none, (k_X4_at 5 12 (g_ot (cv.2.1 0)) vk vw), cv) else (some "java/lang/IllegalArgumentException", 0, cv))))
set_option maxHeartbeats 4000000 in
set_option maxRecDepth 100000 in
theorem c_X5_orderOf (l : Launch) (hfl : l.stackTraces = false) (D : va_G) (cs : Nat → ClassId) (ca : Nat → Nat → Nat) (cv : CV) (vk : Int32) (vw : Int32) (hC : CO cv) : kX l yX5_orderOf wsX5_orderOf { frames := 6, cells := 1, slots := 6, locals := 82 } 1 6 D cs [.ref (ca 0 0), .int vk, .int vw] (ca_W cs ca cv) (k_X5_orderOf cv vk vw).1 (k_X5_orderOf cv vk vw).2.1 (ca_W cs ca ((k_X5_orderOf cv vk vw).2.2)) := by
  generalize hres : k_X5_orderOf cv vk vw = res
  refine kX_of (cc := cX5_orderOf) (maxL := 3) (ret := (some .int)) (by decide) rfl (Nat.le_of_ble_eq_true rfl) ?_
  intro p e s m below meth c A ls H locs hE hxt hS hP hD hl
  obtain ⟨hx, hb, hr, hlocks, hml, hown, hts, hK, hA, hG, hnm⟩ := id hE
  have hown : s.vm.findClass RX5 = some m.cls := hown
  have hl : lv_has ls 3 [(0, .ref (ca 0 0)), (1, .int vk), (2, .int vw)] := hl
  have hinX1 : ∀ w ∈ wsX10, w ∈ wsX5_orderOf := by decide +kernel
  have hinX5 : ∀ w ∈ wsX50, w ∈ wsX5_orderOf := by decide +kernel
  have lk_0 := hts (.fieldLink RX5 19 "OrganPegs" "organ" "LOrganPegs$Organ;") (by decide +kernel)
  have lk_1 := hts (.classLink RX5 43 "java/lang/IllegalArgumentException") (by decide +kernel)
  have lk_2 := hts (.initialized "java/lang/IllegalArgumentException") (by decide +kernel)
  have lk_3 := hts (.classLink RX5 137 "java/lang/IndexOutOfBoundsException") (by decide +kernel)
  have lk_4 := hts (.initialized "java/lang/IndexOutOfBoundsException") (by decide +kernel)
  unfold k_X5_orderOf at hres
  refine lv_aload_n hx hb dX5_orderOf_0 rfl (lv_at hl 0 rfl) ?_
  refine va_get (D := D) (ci := 5) (v := .ref (ca 10 0)) (C := RX5) (T := TX5) (N := 6) hx hb hts hinX5 hown hK hP 0 rfl rfl 1 (by decide) lk_0 (fun _ h9 => h9) rfl dX5_orderOf_1 ?_
  refine va_getN (D := D) (ci := 1) (v := .ref (ca 10 2)) (C := RX1) (T := TX1) (N := 17) hx hb hts hinX1 hown hK (k_left (pmP (ca_pm1 (k := 0) (by decide)) hP)) 0 rfl rfl 1 (by decide) (va_Nw.use rfl (hG.1.1 _ _ _ _ _ _ nf_X5_147)) (fun _ h9 => h9) rfl dX5_orderOf_4 ?_
  refine lv_iload_n hx hb dX5_orderOf_7 rfl (lv_at hl 1 rfl) ?_
  have pm9 := ((ca_pm1 (cs := cs) (ca := ca) (cv := cv) (k := 0) (by decide)).trans ((og_pmO.append_right _).trans (List.Perm.of_eq (List.append_assoc _ _ _))))
  have hP := pmP pm9 hP
  have hD := pmD pm9 hD
  have hc_8 := c_X4_has l D cs ((ca 10) 2) ((ca 10) 4) 5 12 60 (g_ot (cv.2.1 0)) vk
  refine kI_call (wc := (tb_W cs ((ca 10) 2) ((ca 10) 4) 5 12 60 (g_ot (cv.2.1 0)))) (wr := (og_rO cs (ca 10) (cv.2.1 0) ++ ca_ro cs ca cv 0)) (w1 := tb_W cs ((ca 10) 2) ((ca 10) 4) 5 12 60 (g_ot (cv.2.1 0))) (r := (k_X4_has (g_ot (cv.2.1 0)) vk)) hE hP hD hS (k_rV (rest := []) (As := [.int vk]) hE rfl (hc_8 H.size) (cwV 1 hts gX5_orderOf_X4_has rfl rfl rfl (by decide +kernel) ⟨Nat.le_of_ble_eq_true rfl, Nat.le_of_ble_eq_true rfl⟩) hP hD hS (ci := 4) (q0 := 0) rfl rfl rfl hl rfl (Nat.le_of_ble_eq_true rfl) ⟨Nat.le_of_ble_eq_true rfl, Nat.le_of_ble_eq_true rfl⟩ dX5_orderOf_8) (fun H locs hP hD hS => ?_)
  have hP := pmP pm9.symm hP
  have hD := pmD pm9.symm hD
  have hP : va_P D vwCl (ca_W cs ca cv) H := hP
  have hD : va_D A (ca_W cs ca cv) := hD
  refine lv_if_ne (tgt := 24) hx hb dX5_orderOf_11 (by decide) (fun c_11 => ?_) (fun c_11 => ?_)
  · skip
    have c_11 : ¬ ((k_X4_has (g_ot (cv.2.1 0)) vk) = 0) := c_11
    rw [if_neg c_11] at hres
    refine lv_iload_n hx hb dX5_orderOf_24 rfl (lv_at hl 2 rfl) ?_
    refine lv_if_lt (tgt := 33) hx hb dX5_orderOf_25 (by decide) (fun c_25 => ?_) (fun c_25 => ?_)
    · skip
      have c_25 : (vw < 0) := c_25
      rw [if_pos c_25] at hres
      subst hres
      exact kX_throw hE hfl hxt hS hP hD hl rfl (by decide) lk_1 lk_2 sr_152 xg_47 (by decide +kernel) xb_47 dX5_orderOf_33 dX5_orderOf_36 dX5_orderOf_37 dX5_orderOf_39 dX5_orderOf_42 (Nat.le_of_ble_eq_true rfl) (Nat.le_of_ble_eq_true rfl) (Nat.le_of_ble_eq_true rfl) (Nat.le_of_ble_eq_true rfl) (Nat.le_of_ble_eq_true rfl) (Nat.le_of_ble_eq_true rfl) rfl
    · skip
      have c_25 : ¬ (vw < 0) := c_25
      rw [if_neg c_25] at hres
      refine lv_iload_n hx hb dX5_orderOf_28 rfl (lv_at hl 2 rfl) ?_
      refine lv_iconst (v := 5) hx hb dX5_orderOf_29 (by decide) ?_
      refine lv_icmp_lt (tgt := 43) hx hb dX5_orderOf_30 (by decide) (fun c_30 => ?_) (fun c_30 => ?_)
      · skip
        have c_30 : (vw < 5) := c_30
        rw [if_pos c_30] at hres
        refine lv_aload_n hx hb dX5_orderOf_43 rfl (lv_at hl 0 rfl) ?_
        refine va_get (D := D) (ci := 5) (v := .ref (ca 10 0)) (C := RX5) (T := TX5) (N := 6) hx hb hts hinX5 hown hK hP 0 rfl rfl 1 (by decide) lk_0 (fun _ h9 => h9) rfl dX5_orderOf_44 ?_
        refine va_getN (D := D) (ci := 1) (v := .ref (ca 10 2)) (C := RX1) (T := TX1) (N := 17) hx hb hts hinX1 hown hK (k_left (pmP (ca_pm1 (k := 0) (by decide)) hP)) 0 rfl rfl 1 (by decide) (va_Nw.use rfl (hG.1.1 _ _ _ _ _ _ nf_X5_147)) (fun _ h9 => h9) rfl dX5_orderOf_47 ?_
        refine lv_iload_n hx hb dX5_orderOf_50 rfl (lv_at hl 1 rfl) ?_
        refine lv_iload_n hx hb dX5_orderOf_51 rfl (lv_at hl 2 rfl) ?_
        have pm9 := ((ca_pm1 (cs := cs) (ca := ca) (cv := cv) (k := 0) (by decide)).trans ((og_pmO.append_right _).trans (List.Perm.of_eq (List.append_assoc _ _ _))))
        have hP := pmP pm9 hP
        have hD := pmD pm9 hD
        have hc_52 := c_X4_at l D cs ((ca 10) 2) ((ca 10) 4) 5 12 60 (g_ot (cv.2.1 0)) vk vw (Or.inr ⟨rfl, rfl, rfl⟩)
        refine kI_call (wc := (tb_W cs ((ca 10) 2) ((ca 10) 4) 5 12 60 (g_ot (cv.2.1 0)))) (wr := (og_rO cs (ca 10) (cv.2.1 0) ++ ca_ro cs ca cv 0)) (w1 := tb_W cs ((ca 10) 2) ((ca 10) 4) 5 12 60 (g_ot (cv.2.1 0))) (r := (k_X4_at 5 12 (g_ot (cv.2.1 0)) vk vw)) hE hP hD hS (k_rV (rest := []) (As := [.int vk, .int vw]) hE rfl (hc_52 H.size) (cwV 2 hts gX5_orderOf_X4_at rfl rfl rfl (by decide +kernel) ⟨Nat.le_of_ble_eq_true rfl, Nat.le_of_ble_eq_true rfl⟩) hP hD hS (ci := 4) (q0 := 0) rfl rfl rfl hl rfl (Nat.le_of_ble_eq_true rfl) ⟨Nat.le_of_ble_eq_true rfl, Nat.le_of_ble_eq_true rfl⟩ dX5_orderOf_52) (fun H locs hP hD hS => ?_)
        have hP := pmP pm9.symm hP
        have hD := pmD pm9.symm hD
        have hP : va_P D vwCl (ca_W cs ca cv) H := hP
        have hD : va_D A (ca_W cs ca cv) := hD
        subst hres
        exact kX_ret hE hS hP hD rfl rfl rfl (Nat.le_of_ble_eq_true rfl) (Nat.le_of_ble_eq_true rfl) dX5_orderOf_55
      · skip
        have c_30 : ¬ (vw < 5) := c_30
        rw [if_neg c_30] at hres
        subst hres
        exact kX_throw hE hfl hxt hS hP hD hl rfl (by decide) lk_1 lk_2 sr_152 xg_47 (by decide +kernel) xb_47 dX5_orderOf_33 dX5_orderOf_36 dX5_orderOf_37 dX5_orderOf_39 dX5_orderOf_42 (Nat.le_of_ble_eq_true rfl) (Nat.le_of_ble_eq_true rfl) (Nat.le_of_ble_eq_true rfl) (Nat.le_of_ble_eq_true rfl) (Nat.le_of_ble_eq_true rfl) (Nat.le_of_ble_eq_true rfl) rfl
  · skip
    have c_11 : ((k_X4_has (g_ot (cv.2.1 0)) vk) = 0) := c_11
    rw [if_pos c_11] at hres
    subst hres
    exact kX_throw hE hfl hxt hS hP hD hl rfl (by decide) lk_3 lk_4 sr_150 xg_141 (by decide +kernel) xb_141 dX5_orderOf_14 dX5_orderOf_17 dX5_orderOf_18 dX5_orderOf_20 dX5_orderOf_23 (Nat.le_of_ble_eq_true rfl) (Nat.le_of_ble_eq_true rfl) (Nat.le_of_ble_eq_true rfl) (Nat.le_of_ble_eq_true rfl) (Nat.le_of_ble_eq_true rfl) (Nat.le_of_ble_eq_true rfl) rfl
def k_X5_pipeOf (cv : CV) (vp : Int32) (vw : Int32) : Option String × Int32 × CV := (if (k_X5_isPipe vp) = 0 then (some "java/lang/IndexOutOfBoundsException", 0, cv) else (if vw < 0 then (some "java/lang/IllegalArgumentException", 0, cv) else (if vw ≤ 4 then (none, (k_X1_tellOfPipe (cv.2.1 0) vp vw), cv) else (some "java/lang/IllegalArgumentException", 0, cv))))
set_option maxHeartbeats 4000000 in
set_option maxRecDepth 100000 in
theorem c_X5_pipeOf (l : Launch) (hfl : l.stackTraces = false) (D : va_G) (cs : Nat → ClassId) (ca : Nat → Nat → Nat) (cv : CV) (vp : Int32) (vw : Int32) (hC : CO cv) : kX l yX5_pipeOf wsX5_pipeOf { frames := 6, cells := 1, slots := 6, locals := 89 } 1 6 D cs [.ref (ca 0 0), .int vp, .int vw] (ca_W cs ca cv) (k_X5_pipeOf cv vp vw).1 (k_X5_pipeOf cv vp vw).2.1 (ca_W cs ca ((k_X5_pipeOf cv vp vw).2.2)) := by
  generalize hres : k_X5_pipeOf cv vp vw = res
  refine kX_of (cc := cX5_pipeOf) (maxL := 3) (ret := (some .int)) (by decide) rfl (Nat.le_of_ble_eq_true rfl) ?_
  intro p e s m below meth c A ls H locs hE hxt hS hP hD hl
  obtain ⟨hx, hb, hr, hlocks, hml, hown, hts, hK, hA, hG, hnm⟩ := id hE
  have hown : s.vm.findClass RX5 = some m.cls := hown
  have hl : lv_has ls 3 [(0, .ref (ca 0 0)), (1, .int vp), (2, .int vw)] := hl
  have hinX5 : ∀ w ∈ wsX50, w ∈ wsX5_pipeOf := by decide +kernel
  have lk_0 := hts (.classLink RX5 43 "java/lang/IllegalArgumentException") (by decide +kernel)
  have lk_1 := hts (.initialized "java/lang/IllegalArgumentException") (by decide +kernel)
  have lk_2 := hts (.fieldLink RX5 19 "OrganPegs" "organ" "LOrganPegs$Organ;") (by decide +kernel)
  have lk_3 := hts (.classLink RX5 137 "java/lang/IndexOutOfBoundsException") (by decide +kernel)
  have lk_4 := hts (.initialized "java/lang/IndexOutOfBoundsException") (by decide +kernel)
  unfold k_X5_pipeOf at hres
  refine lv_iload_n hx hb dX5_pipeOf_0 rfl (lv_at hl 1 rfl) ?_
  have hP : va_P D vwCl ([] ++ (ca_W cs ca cv)) H := hP
  have hD : va_D A ([] ++ (ca_W cs ca cv)) := hD
  have hc_1 := c_X5_isPipe l D cs vp
  refine kI_call (wc := []) (wr := (ca_W cs ca cv)) (w1 := []) (r := (k_X5_isPipe vp)) hE hP hD hS (k_rS (rest := []) (As := [.int vp]) hE rfl (hc_1 H.size) (va_cwS 1 hts gX5_pipeOf_X5_isPipe rfl rfl rfl (by decide +kernel) ⟨Nat.le_of_ble_eq_true rfl, Nat.le_of_ble_eq_true rfl⟩) hP hD hS rfl hl rfl (Nat.le_of_ble_eq_true rfl) ⟨Nat.le_of_ble_eq_true rfl, Nat.le_of_ble_eq_true rfl⟩ dX5_pipeOf_1) (fun H locs hP hD hS => ?_)
  have hP : va_P D vwCl (ca_W cs ca cv) H := hP
  have hD : va_D A (ca_W cs ca cv) := hD
  refine lv_if_ne (tgt := 17) hx hb dX5_pipeOf_4 (by decide) (fun c_4 => ?_) (fun c_4 => ?_)
  · skip
    have c_4 : ¬ ((k_X5_isPipe vp) = 0) := c_4
    rw [if_neg c_4] at hres
    refine lv_iload_n hx hb dX5_pipeOf_17 rfl (lv_at hl 2 rfl) ?_
    refine lv_if_lt (tgt := 26) hx hb dX5_pipeOf_18 (by decide) (fun c_18 => ?_) (fun c_18 => ?_)
    · skip
      have c_18 : (vw < 0) := c_18
      rw [if_pos c_18] at hres
      subst hres
      exact kX_throw hE hfl hxt hS hP hD hl rfl (by decide) lk_0 lk_1 sr_152 xg_47 (by decide +kernel) xb_47 dX5_pipeOf_26 dX5_pipeOf_29 dX5_pipeOf_30 dX5_pipeOf_32 dX5_pipeOf_35 (Nat.le_of_ble_eq_true rfl) (Nat.le_of_ble_eq_true rfl) (Nat.le_of_ble_eq_true rfl) (Nat.le_of_ble_eq_true rfl) (Nat.le_of_ble_eq_true rfl) (Nat.le_of_ble_eq_true rfl) rfl
    · skip
      have c_18 : ¬ (vw < 0) := c_18
      rw [if_neg c_18] at hres
      refine lv_iload_n hx hb dX5_pipeOf_21 rfl (lv_at hl 2 rfl) ?_
      refine lv_iconst (v := 4) hx hb dX5_pipeOf_22 (by decide) ?_
      refine lv_icmp_le (tgt := 36) hx hb dX5_pipeOf_23 (by decide) (fun c_23 => ?_) (fun c_23 => ?_)
      · skip
        have c_23 : (vw ≤ 4) := c_23
        rw [if_pos c_23] at hres
        refine lv_aload_n hx hb dX5_pipeOf_36 rfl (lv_at hl 0 rfl) ?_
        refine va_get (D := D) (ci := 5) (v := .ref (ca 10 0)) (C := RX5) (T := TX5) (N := 6) hx hb hts hinX5 hown hK hP 0 rfl rfl 1 (by decide) lk_2 (fun _ h9 => h9) rfl dX5_pipeOf_37 ?_
        refine lv_iload_n hx hb dX5_pipeOf_40 rfl (lv_at hl 1 rfl) ?_
        refine lv_iload_n hx hb dX5_pipeOf_41 rfl (lv_at hl 2 rfl) ?_
        have hP := pmP (ca_pm1 (cs := cs) (ca := ca) (cv := cv) (k := 0) (by decide)) hP
        have hD := pmD (ca_pm1 (cs := cs) (ca := ca) (cv := cv) (k := 0) (by decide)) hD
        have hc_42 := c_X1_tellOfPipe l D cs (ca 10) (cv.2.1 0) vp vw (hC.1 0 (by decide))
        refine kI_call (wc := (og_W cs (ca 10) (cv.2.1 0))) (wr := (ca_ro cs ca cv 0)) (w1 := og_W cs (ca 10) (cv.2.1 0)) (r := (k_X1_tellOfPipe (cv.2.1 0) vp vw)) hE hP hD hS (k_rV (rest := []) (As := [.int vp, .int vw]) hE rfl (hc_42 H.size) (cwV 2 hts gX5_pipeOf_X1_tellOfPipe rfl rfl rfl (by decide +kernel) ⟨Nat.le_of_ble_eq_true rfl, Nat.le_of_ble_eq_true rfl⟩) hP hD hS (ci := 1) (q0 := 0) rfl rfl rfl hl rfl (Nat.le_of_ble_eq_true rfl) ⟨Nat.le_of_ble_eq_true rfl, Nat.le_of_ble_eq_true rfl⟩ dX5_pipeOf_42) (fun H locs hP hD hS => ?_)
        have hP := pmP (ca_bk1 (cs := cs) (ca := ca) (cv := cv) (k := 0) (by decide)) hP
        have hD := pmD (ca_bk1 (cs := cs) (ca := ca) (cv := cv) (k := 0) (by decide)) hD
        have hP : va_P D vwCl (ca_W cs ca cv) H := hP
        have hD : va_D A (ca_W cs ca cv) := hD
        subst hres
        exact kX_ret hE hS hP hD rfl rfl rfl (Nat.le_of_ble_eq_true rfl) (Nat.le_of_ble_eq_true rfl) dX5_pipeOf_45
      · skip
        have c_23 : ¬ (vw ≤ 4) := c_23
        rw [if_neg c_23] at hres
        subst hres
        exact kX_throw hE hfl hxt hS hP hD hl rfl (by decide) lk_0 lk_1 sr_152 xg_47 (by decide +kernel) xb_47 dX5_pipeOf_26 dX5_pipeOf_29 dX5_pipeOf_30 dX5_pipeOf_32 dX5_pipeOf_35 (Nat.le_of_ble_eq_true rfl) (Nat.le_of_ble_eq_true rfl) (Nat.le_of_ble_eq_true rfl) (Nat.le_of_ble_eq_true rfl) (Nat.le_of_ble_eq_true rfl) (Nat.le_of_ble_eq_true rfl) rfl
  · skip
    have c_4 : ((k_X5_isPipe vp) = 0) := c_4
    rw [if_pos c_4] at hres
    subst hres
    exact kX_throw hE hfl hxt hS hP hD hl rfl (by decide) lk_3 lk_4 sr_157 xg_141 (by decide +kernel) xb_141 dX5_pipeOf_7 dX5_pipeOf_10 dX5_pipeOf_11 dX5_pipeOf_13 dX5_pipeOf_16 (Nat.le_of_ble_eq_true rfl) (Nat.le_of_ble_eq_true rfl) (Nat.le_of_ble_eq_true rfl) (Nat.le_of_ble_eq_true rfl) (Nat.le_of_ble_eq_true rfl) (Nat.le_of_ble_eq_true rfl) rfl
def k_X5_chord (cv : CV) (vb : Int32) : Option String × Int32 × CV := (if (k_X5_isBar vb) = 0 then (some "java/lang/IndexOutOfBoundsException", 0, cv) else (none, (k_X1_openPipes (cv.2.1 0) vb), cv))
set_option maxHeartbeats 4000000 in
set_option maxRecDepth 100000 in
theorem c_X5_chord (l : Launch) (hfl : l.stackTraces = false) (D : va_G) (cs : Nat → ClassId) (ca : Nat → Nat → Nat) (cv : CV) (vb : Int32) (hC : CO cv) : kX l yX5_chord wsX5_chord { frames := 6, cells := 1, slots := 6, locals := 82 } 1 6 D cs [.ref (ca 0 0), .int vb] (ca_W cs ca cv) (k_X5_chord cv vb).1 (k_X5_chord cv vb).2.1 (ca_W cs ca ((k_X5_chord cv vb).2.2)) := by
  generalize hres : k_X5_chord cv vb = res
  refine kX_of (cc := cX5_chord) (maxL := 2) (ret := (some .int)) (by decide) rfl (Nat.le_of_ble_eq_true rfl) ?_
  intro p e s m below meth c A ls H locs hE hxt hS hP hD hl
  obtain ⟨hx, hb, hr, hlocks, hml, hown, hts, hK, hA, hG, hnm⟩ := id hE
  have hown : s.vm.findClass RX5 = some m.cls := hown
  have hl : lv_has ls 2 [(0, .ref (ca 0 0)), (1, .int vb)] := hl
  have hinX5 : ∀ w ∈ wsX50, w ∈ wsX5_chord := by decide +kernel
  have lk_0 := hts (.fieldLink RX5 19 "OrganPegs" "organ" "LOrganPegs$Organ;") (by decide +kernel)
  have lk_1 := hts (.classLink RX5 137 "java/lang/IndexOutOfBoundsException") (by decide +kernel)
  have lk_2 := hts (.initialized "java/lang/IndexOutOfBoundsException") (by decide +kernel)
  unfold k_X5_chord at hres
  refine lv_iload_n hx hb dX5_chord_0 rfl (lv_at hl 1 rfl) ?_
  have hP : va_P D vwCl ([] ++ (ca_W cs ca cv)) H := hP
  have hD : va_D A ([] ++ (ca_W cs ca cv)) := hD
  have hc_1 := c_X5_isBar l D cs vb
  refine kI_call (wc := []) (wr := (ca_W cs ca cv)) (w1 := []) (r := (k_X5_isBar vb)) hE hP hD hS (k_rS (rest := []) (As := [.int vb]) hE rfl (hc_1 H.size) (va_cwS 1 hts gX5_chord_X5_isBar rfl rfl rfl (by decide +kernel) ⟨Nat.le_of_ble_eq_true rfl, Nat.le_of_ble_eq_true rfl⟩) hP hD hS rfl hl rfl (Nat.le_of_ble_eq_true rfl) ⟨Nat.le_of_ble_eq_true rfl, Nat.le_of_ble_eq_true rfl⟩ dX5_chord_1) (fun H locs hP hD hS => ?_)
  have hP : va_P D vwCl (ca_W cs ca cv) H := hP
  have hD : va_D A (ca_W cs ca cv) := hD
  refine lv_if_ne (tgt := 17) hx hb dX5_chord_4 (by decide) (fun c_4 => ?_) (fun c_4 => ?_)
  · skip
    have c_4 : ¬ ((k_X5_isBar vb) = 0) := c_4
    rw [if_neg c_4] at hres
    refine lv_aload_n hx hb dX5_chord_17 rfl (lv_at hl 0 rfl) ?_
    refine va_get (D := D) (ci := 5) (v := .ref (ca 10 0)) (C := RX5) (T := TX5) (N := 6) hx hb hts hinX5 hown hK hP 0 rfl rfl 1 (by decide) lk_0 (fun _ h9 => h9) rfl dX5_chord_18 ?_
    refine lv_iload_n hx hb dX5_chord_21 rfl (lv_at hl 1 rfl) ?_
    have hP := pmP (ca_pm1 (cs := cs) (ca := ca) (cv := cv) (k := 0) (by decide)) hP
    have hD := pmD (ca_pm1 (cs := cs) (ca := ca) (cv := cv) (k := 0) (by decide)) hD
    have hc_22 := c_X1_openPipes l D cs (ca 10) (cv.2.1 0) vb
    refine kI_call (wc := (og_W cs (ca 10) (cv.2.1 0))) (wr := (ca_ro cs ca cv 0)) (w1 := og_W cs (ca 10) (cv.2.1 0)) (r := (k_X1_openPipes (cv.2.1 0) vb)) hE hP hD hS (k_rV (rest := []) (As := [.int vb]) hE rfl (hc_22 H.size) (cwV 1 hts gX5_chord_X1_openPipes rfl rfl rfl (by decide +kernel) ⟨Nat.le_of_ble_eq_true rfl, Nat.le_of_ble_eq_true rfl⟩) hP hD hS (ci := 1) (q0 := 0) rfl rfl rfl hl rfl (Nat.le_of_ble_eq_true rfl) ⟨Nat.le_of_ble_eq_true rfl, Nat.le_of_ble_eq_true rfl⟩ dX5_chord_22) (fun H locs hP hD hS => ?_)
    have hP := pmP (ca_bk1 (cs := cs) (ca := ca) (cv := cv) (k := 0) (by decide)) hP
    have hD := pmD (ca_bk1 (cs := cs) (ca := ca) (cv := cv) (k := 0) (by decide)) hD
    have hP : va_P D vwCl (ca_W cs ca cv) H := hP
    have hD : va_D A (ca_W cs ca cv) := hD
    subst hres
    exact kX_ret hE hS hP hD rfl rfl rfl (Nat.le_of_ble_eq_true rfl) (Nat.le_of_ble_eq_true rfl) dX5_chord_25
  · skip
    have c_4 : ((k_X5_isBar vb) = 0) := c_4
    rw [if_pos c_4] at hres
    subst hres
    exact kX_throw hE hfl hxt hS hP hD hl rfl (by decide) lk_1 lk_2 sr_165 xg_141 (by decide +kernel) xb_141 dX5_chord_7 dX5_chord_10 dX5_chord_11 dX5_chord_13 dX5_chord_16 (Nat.le_of_ble_eq_true rfl) (Nat.le_of_ble_eq_true rfl) (Nat.le_of_ble_eq_true rfl) (Nat.le_of_ble_eq_true rfl) (Nat.le_of_ble_eq_true rfl) (Nat.le_of_ble_eq_true rfl) rfl
def k_X5_covered (cv : CV) (vw : Int32) : Option String × Int32 × CV := (if vw = 0 then (if vw = 0 then (none, (k_X1_coveredBars (cv.2.1 0)), cv) else (none, (k_X1_sumOfLengths (cv.2.1 0)), cv)) else (if vw = 1 then (if vw = 0 then (none, (k_X1_coveredBars (cv.2.1 0)), cv) else (none, (k_X1_sumOfLengths (cv.2.1 0)), cv)) else (some "java/lang/IllegalArgumentException", 0, cv)))
set_option maxHeartbeats 4000000 in
set_option maxRecDepth 100000 in
theorem c_X5_covered (l : Launch) (hfl : l.stackTraces = false) (D : va_G) (cs : Nat → ClassId) (ca : Nat → Nat → Nat) (cv : CV) (vw : Int32) (hC : CO cv) : kX l yX5_covered wsX5_covered { frames := 6, cells := 1, slots := 6, locals := 90 } 1 6 D cs [.ref (ca 0 0), .int vw] (ca_W cs ca cv) (k_X5_covered cv vw).1 (k_X5_covered cv vw).2.1 (ca_W cs ca ((k_X5_covered cv vw).2.2)) := by
  generalize hres : k_X5_covered cv vw = res
  refine kX_of (cc := cX5_covered) (maxL := 2) (ret := (some .int)) (by decide) rfl (Nat.le_of_ble_eq_true rfl) ?_
  intro p e s m below meth c A ls H locs hE hxt hS hP hD hl
  obtain ⟨hx, hb, hr, hlocks, hml, hown, hts, hK, hA, hG, hnm⟩ := id hE
  have hown : s.vm.findClass RX5 = some m.cls := hown
  have hl : lv_has ls 2 [(0, .ref (ca 0 0)), (1, .int vw)] := hl
  have hinX5 : ∀ w ∈ wsX50, w ∈ wsX5_covered := by decide +kernel
  have lk_0 := hts (.fieldLink RX5 19 "OrganPegs" "organ" "LOrganPegs$Organ;") (by decide +kernel)
  have lk_1 := hts (.classLink RX5 43 "java/lang/IllegalArgumentException") (by decide +kernel)
  have lk_2 := hts (.initialized "java/lang/IllegalArgumentException") (by decide +kernel)
  unfold k_X5_covered at hres
  refine lv_iload_n hx hb dX5_covered_0 rfl (lv_at hl 1 rfl) ?_
  refine lv_if_eq (tgt := 19) hx hb dX5_covered_1 (by decide) (fun c_1 => ?_) (fun c_1 => ?_)
  · skip
    have c_1 : (vw = 0) := c_1
    rw [if_pos c_1] at hres
    refine lv_iload_n hx hb dX5_covered_19 rfl (lv_at hl 1 rfl) ?_
    refine lv_if_ne (tgt := 33) hx hb dX5_covered_20 (by decide) (fun c_20 => ?_) (fun c_20 => ?_)
    · skip
      have c_20 : ¬ (vw = 0) := c_20
      rw [if_neg c_20] at hres
      refine lv_aload_n hx hb dX5_covered_33 rfl (lv_at hl 0 rfl) ?_
      refine va_get (D := D) (ci := 5) (v := .ref (ca 10 0)) (C := RX5) (T := TX5) (N := 6) hx hb hts hinX5 hown hK hP 0 rfl rfl 1 (by decide) lk_0 (fun _ h9 => h9) rfl dX5_covered_34 ?_
      have hP := pmP (ca_pm1 (cs := cs) (ca := ca) (cv := cv) (k := 0) (by decide)) hP
      have hD := pmD (ca_pm1 (cs := cs) (ca := ca) (cv := cv) (k := 0) (by decide)) hD
      have hc_37 := c_X1_sumOfLengths l D cs (ca 10) (cv.2.1 0)  (hC.1 0 (by decide))
      refine kI_call (wc := (og_W cs (ca 10) (cv.2.1 0))) (wr := (ca_ro cs ca cv 0)) (w1 := og_W cs (ca 10) (cv.2.1 0)) (r := (k_X1_sumOfLengths (cv.2.1 0))) hE hP hD hS (k_rV (rest := []) (As := []) hE rfl (hc_37 H.size) (cwV 0 hts gX5_covered_X1_sumOfLengths rfl rfl rfl (by decide +kernel) ⟨Nat.le_of_ble_eq_true rfl, Nat.le_of_ble_eq_true rfl⟩) hP hD hS (ci := 1) (q0 := 0) rfl rfl rfl hl rfl (Nat.le_of_ble_eq_true rfl) ⟨Nat.le_of_ble_eq_true rfl, Nat.le_of_ble_eq_true rfl⟩ dX5_covered_37) (fun H locs hP hD hS => ?_)
      have hP := pmP (ca_bk1 (cs := cs) (ca := ca) (cv := cv) (k := 0) (by decide)) hP
      have hD := pmD (ca_bk1 (cs := cs) (ca := ca) (cv := cv) (k := 0) (by decide)) hD
      have hP : va_P D vwCl (ca_W cs ca cv) H := hP
      have hD : va_D A (ca_W cs ca cv) := hD
      subst hres
      exact kX_ret hE hS hP hD rfl rfl rfl (Nat.le_of_ble_eq_true rfl) (Nat.le_of_ble_eq_true rfl) dX5_covered_40
    · skip
      have c_20 : (vw = 0) := c_20
      rw [if_pos c_20] at hres
      refine lv_aload_n hx hb dX5_covered_23 rfl (lv_at hl 0 rfl) ?_
      refine va_get (D := D) (ci := 5) (v := .ref (ca 10 0)) (C := RX5) (T := TX5) (N := 6) hx hb hts hinX5 hown hK hP 0 rfl rfl 1 (by decide) lk_0 (fun _ h9 => h9) rfl dX5_covered_24 ?_
      have hP := pmP (ca_pm1 (cs := cs) (ca := ca) (cv := cv) (k := 0) (by decide)) hP
      have hD := pmD (ca_pm1 (cs := cs) (ca := ca) (cv := cv) (k := 0) (by decide)) hD
      have hc_27 := c_X1_coveredBars l D cs (ca 10) (cv.2.1 0)
      refine kI_call (wc := (og_W cs (ca 10) (cv.2.1 0))) (wr := (ca_ro cs ca cv 0)) (w1 := og_W cs (ca 10) (cv.2.1 0)) (r := (k_X1_coveredBars (cv.2.1 0))) hE hP hD hS (k_rV (rest := []) (As := []) hE rfl (hc_27 H.size) (cwV 0 hts gX5_covered_X1_coveredBars rfl rfl rfl (by decide +kernel) ⟨Nat.le_of_ble_eq_true rfl, Nat.le_of_ble_eq_true rfl⟩) hP hD hS (ci := 1) (q0 := 0) rfl rfl rfl hl rfl (Nat.le_of_ble_eq_true rfl) ⟨Nat.le_of_ble_eq_true rfl, Nat.le_of_ble_eq_true rfl⟩ dX5_covered_27) (fun H locs hP hD hS => ?_)
      have hP := pmP (ca_bk1 (cs := cs) (ca := ca) (cv := cv) (k := 0) (by decide)) hP
      have hD := pmD (ca_bk1 (cs := cs) (ca := ca) (cv := cv) (k := 0) (by decide)) hD
      have hP : va_P D vwCl (ca_W cs ca cv) H := hP
      have hD : va_D A (ca_W cs ca cv) := hD
      refine lv_goto (tgt := 40) hx hb dX5_covered_30 (by decide) ?_
      subst hres
      exact kX_ret hE hS hP hD rfl rfl rfl (Nat.le_of_ble_eq_true rfl) (Nat.le_of_ble_eq_true rfl) dX5_covered_40
  · skip
    have c_1 : ¬ (vw = 0) := c_1
    rw [if_neg c_1] at hres
    refine lv_iload_n hx hb dX5_covered_4 rfl (lv_at hl 1 rfl) ?_
    refine lv_iconst (v := 1) hx hb dX5_covered_5 (by decide) ?_
    refine lv_icmp_eq (tgt := 19) hx hb dX5_covered_6 (by decide) (fun c_6 => ?_) (fun c_6 => ?_)
    · skip
      have c_6 : (vw = 1) := c_6
      rw [if_pos c_6] at hres
      refine lv_iload_n hx hb dX5_covered_19 rfl (lv_at hl 1 rfl) ?_
      refine lv_if_ne (tgt := 33) hx hb dX5_covered_20 (by decide) (fun c_20 => ?_) (fun c_20 => ?_)
      · skip
        have c_20 : ¬ (vw = 0) := c_20
        rw [if_neg c_20] at hres
        refine lv_aload_n hx hb dX5_covered_33 rfl (lv_at hl 0 rfl) ?_
        refine va_get (D := D) (ci := 5) (v := .ref (ca 10 0)) (C := RX5) (T := TX5) (N := 6) hx hb hts hinX5 hown hK hP 0 rfl rfl 1 (by decide) lk_0 (fun _ h9 => h9) rfl dX5_covered_34 ?_
        have hP := pmP (ca_pm1 (cs := cs) (ca := ca) (cv := cv) (k := 0) (by decide)) hP
        have hD := pmD (ca_pm1 (cs := cs) (ca := ca) (cv := cv) (k := 0) (by decide)) hD
        have hc_37 := c_X1_sumOfLengths l D cs (ca 10) (cv.2.1 0)  (hC.1 0 (by decide))
        refine kI_call (wc := (og_W cs (ca 10) (cv.2.1 0))) (wr := (ca_ro cs ca cv 0)) (w1 := og_W cs (ca 10) (cv.2.1 0)) (r := (k_X1_sumOfLengths (cv.2.1 0))) hE hP hD hS (k_rV (rest := []) (As := []) hE rfl (hc_37 H.size) (cwV 0 hts gX5_covered_X1_sumOfLengths rfl rfl rfl (by decide +kernel) ⟨Nat.le_of_ble_eq_true rfl, Nat.le_of_ble_eq_true rfl⟩) hP hD hS (ci := 1) (q0 := 0) rfl rfl rfl hl rfl (Nat.le_of_ble_eq_true rfl) ⟨Nat.le_of_ble_eq_true rfl, Nat.le_of_ble_eq_true rfl⟩ dX5_covered_37) (fun H locs hP hD hS => ?_)
        have hP := pmP (ca_bk1 (cs := cs) (ca := ca) (cv := cv) (k := 0) (by decide)) hP
        have hD := pmD (ca_bk1 (cs := cs) (ca := ca) (cv := cv) (k := 0) (by decide)) hD
        have hP : va_P D vwCl (ca_W cs ca cv) H := hP
        have hD : va_D A (ca_W cs ca cv) := hD
        subst hres
        exact kX_ret hE hS hP hD rfl rfl rfl (Nat.le_of_ble_eq_true rfl) (Nat.le_of_ble_eq_true rfl) dX5_covered_40
      · skip
        have c_20 : (vw = 0) := c_20
        rw [if_pos c_20] at hres
        refine lv_aload_n hx hb dX5_covered_23 rfl (lv_at hl 0 rfl) ?_
        refine va_get (D := D) (ci := 5) (v := .ref (ca 10 0)) (C := RX5) (T := TX5) (N := 6) hx hb hts hinX5 hown hK hP 0 rfl rfl 1 (by decide) lk_0 (fun _ h9 => h9) rfl dX5_covered_24 ?_
        have hP := pmP (ca_pm1 (cs := cs) (ca := ca) (cv := cv) (k := 0) (by decide)) hP
        have hD := pmD (ca_pm1 (cs := cs) (ca := ca) (cv := cv) (k := 0) (by decide)) hD
        have hc_27 := c_X1_coveredBars l D cs (ca 10) (cv.2.1 0)
        refine kI_call (wc := (og_W cs (ca 10) (cv.2.1 0))) (wr := (ca_ro cs ca cv 0)) (w1 := og_W cs (ca 10) (cv.2.1 0)) (r := (k_X1_coveredBars (cv.2.1 0))) hE hP hD hS (k_rV (rest := []) (As := []) hE rfl (hc_27 H.size) (cwV 0 hts gX5_covered_X1_coveredBars rfl rfl rfl (by decide +kernel) ⟨Nat.le_of_ble_eq_true rfl, Nat.le_of_ble_eq_true rfl⟩) hP hD hS (ci := 1) (q0 := 0) rfl rfl rfl hl rfl (Nat.le_of_ble_eq_true rfl) ⟨Nat.le_of_ble_eq_true rfl, Nat.le_of_ble_eq_true rfl⟩ dX5_covered_27) (fun H locs hP hD hS => ?_)
        have hP := pmP (ca_bk1 (cs := cs) (ca := ca) (cv := cv) (k := 0) (by decide)) hP
        have hD := pmD (ca_bk1 (cs := cs) (ca := ca) (cv := cv) (k := 0) (by decide)) hD
        have hP : va_P D vwCl (ca_W cs ca cv) H := hP
        have hD : va_D A (ca_W cs ca cv) := hD
        refine lv_goto (tgt := 40) hx hb dX5_covered_30 (by decide) ?_
        subst hres
        exact kX_ret hE hS hP hD rfl rfl rfl (Nat.le_of_ble_eq_true rfl) (Nat.le_of_ble_eq_true rfl) dX5_covered_40
    · skip
      have c_6 : ¬ (vw = 1) := c_6
      rw [if_neg c_6] at hres
      subst hres
      exact kX_throw hE hfl hxt hS hP hD hl rfl (by decide) lk_1 lk_2 sr_170 xg_47 (by decide +kernel) xb_47 dX5_covered_9 dX5_covered_12 dX5_covered_13 dX5_covered_15 dX5_covered_18 (Nat.le_of_ble_eq_true rfl) (Nat.le_of_ble_eq_true rfl) (Nat.le_of_ble_eq_true rfl) (Nat.le_of_ble_eq_true rfl) (Nat.le_of_ble_eq_true rfl) (Nat.le_of_ble_eq_true rfl) rfl
def k_X5_setting (cv : CV) (vw : Int32) : Option String × Int32 × CV := (if (k_X5_isSetting vw) = 0 then (some "java/lang/IllegalArgumentException", 0, cv) else (none, (k_X1_settingOf (cv.2.1 0) vw), cv))
set_option maxHeartbeats 4000000 in
set_option maxRecDepth 100000 in
theorem c_X5_setting (l : Launch) (hfl : l.stackTraces = false) (D : va_G) (cs : Nat → ClassId) (ca : Nat → Nat → Nat) (cv : CV) (vw : Int32) (hC : CO cv) : kX l yX5_setting wsX5_setting { frames := 6, cells := 1, slots := 6, locals := 82 } 1 6 D cs [.ref (ca 0 0), .int vw] (ca_W cs ca cv) (k_X5_setting cv vw).1 (k_X5_setting cv vw).2.1 (ca_W cs ca ((k_X5_setting cv vw).2.2)) := by
  generalize hres : k_X5_setting cv vw = res
  refine kX_of (cc := cX5_setting) (maxL := 2) (ret := (some .int)) (by decide) rfl (Nat.le_of_ble_eq_true rfl) ?_
  intro p e s m below meth c A ls H locs hE hxt hS hP hD hl
  obtain ⟨hx, hb, hr, hlocks, hml, hown, hts, hK, hA, hG, hnm⟩ := id hE
  have hown : s.vm.findClass RX5 = some m.cls := hown
  have hl : lv_has ls 2 [(0, .ref (ca 0 0)), (1, .int vw)] := hl
  have hinX5 : ∀ w ∈ wsX50, w ∈ wsX5_setting := by decide +kernel
  have lk_0 := hts (.fieldLink RX5 19 "OrganPegs" "organ" "LOrganPegs$Organ;") (by decide +kernel)
  have lk_1 := hts (.classLink RX5 43 "java/lang/IllegalArgumentException") (by decide +kernel)
  have lk_2 := hts (.initialized "java/lang/IllegalArgumentException") (by decide +kernel)
  unfold k_X5_setting at hres
  refine lv_iload_n hx hb dX5_setting_0 rfl (lv_at hl 1 rfl) ?_
  have hP : va_P D vwCl ([] ++ (ca_W cs ca cv)) H := hP
  have hD : va_D A ([] ++ (ca_W cs ca cv)) := hD
  have hc_1 := c_X5_isSetting l D cs vw
  refine kI_call (wc := []) (wr := (ca_W cs ca cv)) (w1 := []) (r := (k_X5_isSetting vw)) hE hP hD hS (k_rS (rest := []) (As := [.int vw]) hE rfl (hc_1 H.size) (va_cwS 1 hts gX5_setting_X5_isSetting rfl rfl rfl (by decide +kernel) ⟨Nat.le_of_ble_eq_true rfl, Nat.le_of_ble_eq_true rfl⟩) hP hD hS rfl hl rfl (Nat.le_of_ble_eq_true rfl) ⟨Nat.le_of_ble_eq_true rfl, Nat.le_of_ble_eq_true rfl⟩ dX5_setting_1) (fun H locs hP hD hS => ?_)
  have hP : va_P D vwCl (ca_W cs ca cv) H := hP
  have hD : va_D A (ca_W cs ca cv) := hD
  refine lv_if_ne (tgt := 17) hx hb dX5_setting_4 (by decide) (fun c_4 => ?_) (fun c_4 => ?_)
  · skip
    have c_4 : ¬ ((k_X5_isSetting vw) = 0) := c_4
    rw [if_neg c_4] at hres
    refine lv_aload_n hx hb dX5_setting_17 rfl (lv_at hl 0 rfl) ?_
    refine va_get (D := D) (ci := 5) (v := .ref (ca 10 0)) (C := RX5) (T := TX5) (N := 6) hx hb hts hinX5 hown hK hP 0 rfl rfl 1 (by decide) lk_0 (fun _ h9 => h9) rfl dX5_setting_18 ?_
    refine lv_iload_n hx hb dX5_setting_21 rfl (lv_at hl 1 rfl) ?_
    have hP := pmP (ca_pm1 (cs := cs) (ca := ca) (cv := cv) (k := 0) (by decide)) hP
    have hD := pmD (ca_pm1 (cs := cs) (ca := ca) (cv := cv) (k := 0) (by decide)) hD
    have hc_22 := c_X1_settingOf l D cs (ca 10) (cv.2.1 0) vw
    refine kI_call (wc := (og_W cs (ca 10) (cv.2.1 0))) (wr := (ca_ro cs ca cv 0)) (w1 := og_W cs (ca 10) (cv.2.1 0)) (r := (k_X1_settingOf (cv.2.1 0) vw)) hE hP hD hS (k_rV (rest := []) (As := [.int vw]) hE rfl (hc_22 H.size) (cwV 1 hts gX5_setting_X1_settingOf rfl rfl rfl (by decide +kernel) ⟨Nat.le_of_ble_eq_true rfl, Nat.le_of_ble_eq_true rfl⟩) hP hD hS (ci := 1) (q0 := 0) rfl rfl rfl hl rfl (Nat.le_of_ble_eq_true rfl) ⟨Nat.le_of_ble_eq_true rfl, Nat.le_of_ble_eq_true rfl⟩ dX5_setting_22) (fun H locs hP hD hS => ?_)
    have hP := pmP (ca_bk1 (cs := cs) (ca := ca) (cv := cv) (k := 0) (by decide)) hP
    have hD := pmD (ca_bk1 (cs := cs) (ca := ca) (cv := cv) (k := 0) (by decide)) hD
    have hP : va_P D vwCl (ca_W cs ca cv) H := hP
    have hD : va_D A (ca_W cs ca cv) := hD
    subst hres
    exact kX_ret hE hS hP hD rfl rfl rfl (Nat.le_of_ble_eq_true rfl) (Nat.le_of_ble_eq_true rfl) dX5_setting_25
  · skip
    have c_4 : ((k_X5_isSetting vw) = 0) := c_4
    rw [if_pos c_4] at hres
    subst hres
    exact kX_throw hE hfl hxt hS hP hD hl rfl (by decide) lk_1 lk_2 sr_181 xg_47 (by decide +kernel) xb_47 dX5_setting_7 dX5_setting_10 dX5_setting_11 dX5_setting_13 dX5_setting_16 (Nat.le_of_ble_eq_true rfl) (Nat.le_of_ble_eq_true rfl) (Nat.le_of_ble_eq_true rfl) (Nat.le_of_ble_eq_true rfl) (Nat.le_of_ble_eq_true rfl) (Nat.le_of_ble_eq_true rfl) rfl
def k_X5_fullest_L4 (cv : CV) : Nat → Int32 → Int32 → (Int32)
  | 0, _, _ => 0
  | n + 1, i, acc => (if 24 ≤ i then acc else (if (k_J6_bitCount_0f7a4 (k_X1_openPipes (cv.2.1 0) i)) ≤ (k_J6_bitCount_0f7a4 (k_X1_openPipes (cv.2.1 0) acc)) then (k_X5_fullest_L4 cv n (i + 1) acc) else (k_X5_fullest_L4 cv n (i + 1) i)))
def k_X5_fullest (cv : CV) : Int32 := (k_X5_fullest_L4 cv 24 1 0)
set_option maxHeartbeats 4000000 in
set_option maxRecDepth 100000 in
theorem c_X5_fullest (l : Launch) (D : va_G) (cs : Nat → ClassId) (ca : Nat → Nat → Nat) (cv : CV) (hC : CO cv) : kI l yX5_fullest wsX5_fullest { frames := 3, cells := 0, slots := 0, locals := 68 } 0 0 D cs [.ref (ca 0 0)] (ca_W cs ca cv) (k_X5_fullest cv) (ca_W cs ca cv) := by
  generalize hres : k_X5_fullest cv = res
  refine kI_of (cc := cX5_fullest) (maxL := 3) (ret := (some .int)) (by decide) rfl (Nat.le_of_ble_eq_true rfl) ?_
  intro p e s m below meth c A ls H locs hE hS hP hD hl
  obtain ⟨hx, hb, hr, hlocks, hml, hown, hts, hK, hA, hG, hnm⟩ := id hE
  have hown : s.vm.findClass RX5 = some m.cls := hown
  have hl : lv_has ls 3 [(0, .ref (ca 0 0))] := hl
  have hinX5 : ∀ w ∈ wsX50, w ∈ wsX5_fullest := by decide +kernel
  have lk_0 := hts (.fieldLink RX5 19 "OrganPegs" "organ" "LOrganPegs$Organ;") (by decide +kernel)
  have L4 : ∀ (n : Nat) (i : Int32) (acc : Int32) (j : Nat) (hi : i = nI j) (hj : j + n = 25) (hj2 : j ≤ 24) (H : Heap) (locs : List Loc) (ls : Array Slot), va_S A s.heap H locs → va_P D vwCl (ca_W cs ca cv) H → va_D A (ca_W cs ca cv) → lv_has ls 3 [(0, .ref (ca 0 0)), (1, .int acc), (2, .int i)] → k_X5_fullest_L4 cv n i acc = res → W p l e { frames := 3, cells := 0, slots := 0, locals := 68 } s m ([.ref (ca 0 0)]).toArray below meth c H locs 0 0 (MQ below (va_Qi (fun (r' : Int32) (_ : Unit) => r' = res) (kB D (fun _ => ca_W cs ca cv) A) A) ([.ref (ca 0 0)]).toArray s 0 0 A) (F0 m 4 ls []) := by
    intro n
    induction n with
    | zero =>
      intro i acc j hi hj hj2 H locs ls hS hP hD hl hres
      exact absurd hj2 (by omega)
    | succ n ih =>
      intro i acc j hi hj hj2 H locs ls hS hP hD hl hres
      unfold k_X5_fullest_L4 at hres
      refine lv_iload_n hx hb dX5_fullest_4 rfl (lv_at hl 2 rfl) ?_
      refine lv_bipush (v := 24) hx hb dX5_fullest_5 (by decide) ?_
      refine lv_icmp_ge (tgt := 43) hx hb dX5_fullest_7 (by decide) (fun c_7 => ?_) (fun c_7 => ?_)
      · skip
        have c_7 : (24 ≤ i) := c_7
        rw [if_pos c_7] at hres
        refine lv_iload_n hx hb dX5_fullest_43 rfl (lv_at hl 1 rfl) ?_
        subst hres
        exact kI_ret hE hS hP hD rfl rfl (Nat.le_of_ble_eq_true rfl) (Nat.le_of_ble_eq_true rfl) dX5_fullest_44
      · skip
        have c_7 : ¬ (24 ≤ i) := c_7
        rw [if_neg c_7] at hres
        refine lv_aload_n hx hb dX5_fullest_10 rfl (lv_at hl 0 rfl) ?_
        refine va_get (D := D) (ci := 5) (v := .ref (ca 10 0)) (C := RX5) (T := TX5) (N := 6) hx hb hts hinX5 hown hK hP 0 rfl rfl 1 (by decide) lk_0 (fun _ h9 => h9) rfl dX5_fullest_11 ?_
        refine lv_iload_n hx hb dX5_fullest_14 rfl (lv_at hl 2 rfl) ?_
        have hP := pmP (ca_pm1 (cs := cs) (ca := ca) (cv := cv) (k := 0) (by decide)) hP
        have hD := pmD (ca_pm1 (cs := cs) (ca := ca) (cv := cv) (k := 0) (by decide)) hD
        have hc_15 := c_X1_openPipes l D cs (ca 10) (cv.2.1 0) i
        refine kI_call (wc := (og_W cs (ca 10) (cv.2.1 0))) (wr := (ca_ro cs ca cv 0)) (w1 := og_W cs (ca 10) (cv.2.1 0)) (r := (k_X1_openPipes (cv.2.1 0) i)) hE hP hD hS (k_rV (rest := []) (As := [.int i]) hE rfl (hc_15 H.size) (cwV 1 hts gX5_fullest_X1_openPipes rfl rfl rfl (by decide +kernel) ⟨Nat.le_of_ble_eq_true rfl, Nat.le_of_ble_eq_true rfl⟩) hP hD hS (ci := 1) (q0 := 0) rfl rfl rfl hl rfl (Nat.le_of_ble_eq_true rfl) ⟨Nat.le_of_ble_eq_true rfl, Nat.le_of_ble_eq_true rfl⟩ dX5_fullest_15) (fun H locs hP hD hS => ?_)
        have hP := pmP (ca_bk1 (cs := cs) (ca := ca) (cv := cv) (k := 0) (by decide)) hP
        have hD := pmD (ca_bk1 (cs := cs) (ca := ca) (cv := cv) (k := 0) (by decide)) hD
        have hP : va_P D vwCl (ca_W cs ca cv) H := hP
        have hD : va_D A (ca_W cs ca cv) := hD
        have hP : va_P D vwCl ([] ++ (ca_W cs ca cv)) H := hP
        have hD : va_D A ([] ++ (ca_W cs ca cv)) := hD
        have hc_18 := c_J6_bitCount_0f7a4 l D cs (k_X1_openPipes (cv.2.1 0) i)
        refine kI_call (wc := []) (wr := (ca_W cs ca cv)) (w1 := []) (r := (k_J6_bitCount_0f7a4 (k_X1_openPipes (cv.2.1 0) i))) hE hP hD hS (k_rS (rest := []) (As := [.int (k_X1_openPipes (cv.2.1 0) i)]) hE rfl (hc_18 H.size) (va_cwS 1 hts gX5_fullest_J6_bitCount_0f7a4 rfl rfl rfl (by decide +kernel) ⟨Nat.le_of_ble_eq_true rfl, Nat.le_of_ble_eq_true rfl⟩) hP hD hS rfl hl rfl (Nat.le_of_ble_eq_true rfl) ⟨Nat.le_of_ble_eq_true rfl, Nat.le_of_ble_eq_true rfl⟩ dX5_fullest_18) (fun H locs hP hD hS => ?_)
        have hP : va_P D vwCl (ca_W cs ca cv) H := hP
        have hD : va_D A (ca_W cs ca cv) := hD
        refine lv_aload_n hx hb dX5_fullest_21 rfl (lv_at hl 0 rfl) ?_
        refine va_get (D := D) (ci := 5) (v := .ref (ca 10 0)) (C := RX5) (T := TX5) (N := 6) hx hb hts hinX5 hown hK hP 0 rfl rfl 1 (by decide) lk_0 (fun _ h9 => h9) rfl dX5_fullest_22 ?_
        refine lv_iload_n hx hb dX5_fullest_25 rfl (lv_at hl 1 rfl) ?_
        have hP := pmP (ca_pm1 (cs := cs) (ca := ca) (cv := cv) (k := 0) (by decide)) hP
        have hD := pmD (ca_pm1 (cs := cs) (ca := ca) (cv := cv) (k := 0) (by decide)) hD
        have hc_26 := c_X1_openPipes l D cs (ca 10) (cv.2.1 0) acc
        refine kI_call (wc := (og_W cs (ca 10) (cv.2.1 0))) (wr := (ca_ro cs ca cv 0)) (w1 := og_W cs (ca 10) (cv.2.1 0)) (r := (k_X1_openPipes (cv.2.1 0) acc)) hE hP hD hS (k_rV (rest := [.int (k_J6_bitCount_0f7a4 (k_X1_openPipes (cv.2.1 0) i))]) (As := [.int acc]) hE rfl (hc_26 H.size) (cwV 1 hts gX5_fullest_X1_openPipes rfl rfl rfl (by decide +kernel) ⟨Nat.le_of_ble_eq_true rfl, Nat.le_of_ble_eq_true rfl⟩) hP hD hS (ci := 1) (q0 := 0) rfl rfl rfl hl rfl (Nat.le_of_ble_eq_true rfl) ⟨Nat.le_of_ble_eq_true rfl, Nat.le_of_ble_eq_true rfl⟩ dX5_fullest_26) (fun H locs hP hD hS => ?_)
        have hP := pmP (ca_bk1 (cs := cs) (ca := ca) (cv := cv) (k := 0) (by decide)) hP
        have hD := pmD (ca_bk1 (cs := cs) (ca := ca) (cv := cv) (k := 0) (by decide)) hD
        have hP : va_P D vwCl (ca_W cs ca cv) H := hP
        have hD : va_D A (ca_W cs ca cv) := hD
        have hP : va_P D vwCl ([] ++ (ca_W cs ca cv)) H := hP
        have hD : va_D A ([] ++ (ca_W cs ca cv)) := hD
        have hc_29 := c_J6_bitCount_0f7a4 l D cs (k_X1_openPipes (cv.2.1 0) acc)
        refine kI_call (wc := []) (wr := (ca_W cs ca cv)) (w1 := []) (r := (k_J6_bitCount_0f7a4 (k_X1_openPipes (cv.2.1 0) acc))) hE hP hD hS (k_rS (rest := [.int (k_J6_bitCount_0f7a4 (k_X1_openPipes (cv.2.1 0) i))]) (As := [.int (k_X1_openPipes (cv.2.1 0) acc)]) hE rfl (hc_29 H.size) (va_cwS 1 hts gX5_fullest_J6_bitCount_0f7a4 rfl rfl rfl (by decide +kernel) ⟨Nat.le_of_ble_eq_true rfl, Nat.le_of_ble_eq_true rfl⟩) hP hD hS rfl hl rfl (Nat.le_of_ble_eq_true rfl) ⟨Nat.le_of_ble_eq_true rfl, Nat.le_of_ble_eq_true rfl⟩ dX5_fullest_29) (fun H locs hP hD hS => ?_)
        have hP : va_P D vwCl (ca_W cs ca cv) H := hP
        have hD : va_D A (ca_W cs ca cv) := hD
        refine lv_icmp_le (tgt := 37) hx hb dX5_fullest_32 (by decide) (fun c_32 => ?_) (fun c_32 => ?_)
        · skip
          have c_32 : ((k_J6_bitCount_0f7a4 (k_X1_openPipes (cv.2.1 0) i)) ≤ (k_J6_bitCount_0f7a4 (k_X1_openPipes (cv.2.1 0) acc))) := c_32
          rw [if_pos c_32] at hres
          refine lv_iinc (v := (i + 1)) (lv' := [(2, .int (i + 1)), (0, .ref (ca 0 0)), (1, .int acc)]) hx hb dX5_fullest_37 hl (k := 2) rfl (by rfl) (by decide) rfl (fun ls hl => ?_)
          refine lv_goto (tgt := 4) hx hb dX5_fullest_40 (by decide) ?_
          exact ih (i + 1) acc (j + 1) (by rw [hi, nI_1]) (by omega) (nI_lts hi (by omega) (by decide) c_7) _ _ _ hS hP hD (lv_sub hl [1, 2, 0] rfl) hres
        · skip
          have c_32 : ¬ ((k_J6_bitCount_0f7a4 (k_X1_openPipes (cv.2.1 0) i)) ≤ (k_J6_bitCount_0f7a4 (k_X1_openPipes (cv.2.1 0) acc))) := c_32
          rw [if_neg c_32] at hres
          refine lv_iload_n hx hb dX5_fullest_35 rfl (lv_at hl 2 rfl) ?_
          refine lv_istore_n (lv' := [(1, .int i), (0, .ref (ca 0 0)), (2, .int i)]) hx hb dX5_fullest_36 rfl hl (by decide) rfl (fun ls hl => ?_)
          refine lv_iinc (v := (i + 1)) (lv' := [(2, .int (i + 1)), (1, .int i), (0, .ref (ca 0 0))]) hx hb dX5_fullest_37 hl (k := 2) rfl (by rfl) (by decide) rfl (fun ls hl => ?_)
          refine lv_goto (tgt := 4) hx hb dX5_fullest_40 (by decide) ?_
          exact ih (i + 1) i (j + 1) (by rw [hi, nI_1]) (by omega) (nI_lts hi (by omega) (by decide) c_7) _ _ _ hS hP hD (lv_sub hl [2, 1, 0] rfl) hres
  unfold k_X5_fullest at hres
  refine lv_iconst (v := 0) hx hb dX5_fullest_0 (by decide) ?_
  refine lv_istore_n (lv' := [(1, .int 0), (0, .ref (ca 0 0))]) hx hb dX5_fullest_1 rfl hl (by decide) rfl (fun ls hl => ?_)
  refine lv_iconst (v := 1) hx hb dX5_fullest_2 (by decide) ?_
  refine lv_istore_n (lv' := [(2, .int 1), (1, .int 0), (0, .ref (ca 0 0))]) hx hb dX5_fullest_3 rfl hl (by decide) rfl (fun ls hl => ?_)
  exact L4 24 1 0 1 ((show (1 : Int32) = nI 1 from rfl)) (rfl) (by decide) _ _ _ hS hP hD (lv_sub hl [2, 1, 0] rfl) hres
def k_X5_room_L36 (cv : CV) (vp : Int32) (vn : Int32) : Nat → Int32 → CV → (Option String × Int32 × CV)
  | 0, _, cw => (none, 0, cw)
  | n + 1, i, cw => (if 24 ≤ i then (none, (-1), cw) else (if (k_X1_isFree (cw.2.1 0) vp (k_X5_span i vn)) = 0 then (k_X5_room_L36 cv vp vn n (i + 1) cw) else (none, i, cw)))
def k_X5_room (cv : CV) (vp : Int32) (vn : Int32) : Option String × Int32 × CV := (if (k_X5_isPipe vp) = 0 then (some "java/lang/IndexOutOfBoundsException", 0, cv) else (if (k_X5_isLength vn) = 0 then (some "java/lang/IllegalArgumentException", 0, cv) else (k_X5_room_L36 cv vp vn 25 0 cv)))
set_option maxHeartbeats 4000000 in
set_option maxRecDepth 100000 in
theorem c_X5_room (l : Launch) (hfl : l.stackTraces = false) (D : va_G) (cs : Nat → ClassId) (ca : Nat → Nat → Nat) (cv : CV) (vp : Int32) (vn : Int32) (hC : CO cv) : kX l yX5_room wsX5_room { frames := 6, cells := 1, slots := 6, locals := 82 } 1 6 D cs [.ref (ca 0 0), .int vp, .int vn] (ca_W cs ca cv) (k_X5_room cv vp vn).1 (k_X5_room cv vp vn).2.1 (ca_W cs ca ((k_X5_room cv vp vn).2.2)) := by
  generalize hres : k_X5_room cv vp vn = res
  refine kX_of (cc := cX5_room) (maxL := 4) (ret := (some .int)) (by decide) rfl (Nat.le_of_ble_eq_true rfl) ?_
  intro p e s m below meth c A ls H locs hE hxt hS hP hD hl
  obtain ⟨hx, hb, hr, hlocks, hml, hown, hts, hK, hA, hG, hnm⟩ := id hE
  have hown : s.vm.findClass RX5 = some m.cls := hown
  have hl : lv_has ls 4 [(0, .ref (ca 0 0)), (1, .int vp), (2, .int vn)] := hl
  have hinX5 : ∀ w ∈ wsX50, w ∈ wsX5_room := by decide +kernel
  have lk_0 := hts (.fieldLink RX5 19 "OrganPegs" "organ" "LOrganPegs$Organ;") (by decide +kernel)
  have lk_1 := hts (.classLink RX5 43 "java/lang/IllegalArgumentException") (by decide +kernel)
  have lk_2 := hts (.initialized "java/lang/IllegalArgumentException") (by decide +kernel)
  have lk_3 := hts (.classLink RX5 137 "java/lang/IndexOutOfBoundsException") (by decide +kernel)
  have lk_4 := hts (.initialized "java/lang/IndexOutOfBoundsException") (by decide +kernel)
  have L36 : ∀ (n : Nat) (i : Int32) (cw : CV) (j : Nat) (hi : i = nI j) (hj : j + n = 25) (hj2 : j ≤ 24) (H : Heap) (locs : List Loc) (ls : Array Slot), va_S A s.heap H locs → va_P D vwCl (ca_W cs ca cw) H → va_D A (ca_W cs ca cw) → lv_has ls 4 [(0, .ref (ca 0 0)), (1, .int vp), (2, .int vn), (3, .int i)] → k_X5_room_L36 cv vp vn n i cw = res → W p l e { frames := 6, cells := 1, slots := 6, locals := 82 } s m ([.ref (ca 0 0), .int vp, .int vn]).toArray below meth c H locs 0 0 (vx_MQ below (va_Qi (fun (r' : Int32) (_ : Unit) => res.1 = none ∧ r' = res.2.1) (kB D (fun _ => ca_W cs ca res.2.2) A) A) (kT D res.1 (ca_W cs ca res.2.2) A) ([.ref (ca 0 0), .int vp, .int vn]).toArray s 1 6 A) (F0 m 36 ls []) := by
    intro n
    induction n with
    | zero =>
      intro i cw j hi hj hj2 H locs ls hS hP hD hl hres
      exact absurd hj2 (by omega)
    | succ n ih =>
      intro i cw j hi hj hj2 H locs ls hS hP hD hl hres
      unfold k_X5_room_L36 at hres
      refine lv_iload_n hx hb dX5_room_36 rfl (lv_at hl 3 rfl) ?_
      refine lv_bipush (v := 24) hx hb dX5_room_37 (by decide) ?_
      refine lv_icmp_ge (tgt := 66) hx hb dX5_room_39 (by decide) (fun c_39 => ?_) (fun c_39 => ?_)
      · skip
        have c_39 : (24 ≤ i) := c_39
        rw [if_pos c_39] at hres
        refine lv_iconst (v := (-1)) hx hb dX5_room_66 (by decide) ?_
        subst hres
        exact kX_ret hE hS hP hD rfl rfl rfl (Nat.le_of_ble_eq_true rfl) (Nat.le_of_ble_eq_true rfl) dX5_room_67
      · skip
        have c_39 : ¬ (24 ≤ i) := c_39
        rw [if_neg c_39] at hres
        refine lv_aload_n hx hb dX5_room_42 rfl (lv_at hl 0 rfl) ?_
        refine va_get (D := D) (ci := 5) (v := .ref (ca 10 0)) (C := RX5) (T := TX5) (N := 6) hx hb hts hinX5 hown hK hP 0 rfl rfl 1 (by decide) lk_0 (fun _ h9 => h9) rfl dX5_room_43 ?_
        refine lv_iload_n hx hb dX5_room_46 rfl (lv_at hl 1 rfl) ?_
        refine lv_iload_n hx hb dX5_room_47 rfl (lv_at hl 3 rfl) ?_
        refine lv_iload_n hx hb dX5_room_48 rfl (lv_at hl 2 rfl) ?_
        have hP : va_P D vwCl ([] ++ (ca_W cs ca cw)) H := hP
        have hD : va_D A ([] ++ (ca_W cs ca cw)) := hD
        have hc_49 := c_X5_span l D cs i vn
        refine kI_call (wc := []) (wr := (ca_W cs ca cw)) (w1 := []) (r := (k_X5_span i vn)) hE hP hD hS (k_rS (rest := [.int vp, .ref (ca 10 0)]) (As := [.int i, .int vn]) hE rfl (hc_49 H.size) (va_cwS 2 hts gX5_room_X5_span rfl rfl rfl (by decide +kernel) ⟨Nat.le_of_ble_eq_true rfl, Nat.le_of_ble_eq_true rfl⟩) hP hD hS rfl hl rfl (Nat.le_of_ble_eq_true rfl) ⟨Nat.le_of_ble_eq_true rfl, Nat.le_of_ble_eq_true rfl⟩ dX5_room_49) (fun H locs hP hD hS => ?_)
        have hP : va_P D vwCl (ca_W cs ca cw) H := hP
        have hD : va_D A (ca_W cs ca cw) := hD
        have hP := pmP (ca_pm1 (cs := cs) (ca := ca) (cv := cw) (k := 0) (by decide)) hP
        have hD := pmD (ca_pm1 (cs := cs) (ca := ca) (cv := cw) (k := 0) (by decide)) hD
        have hc_52 := c_X1_isFree l D cs (ca 10) (cw.2.1 0) vp (k_X5_span i vn)
        refine kI_call (wc := (og_W cs (ca 10) (cw.2.1 0))) (wr := (ca_ro cs ca cw 0)) (w1 := og_W cs (ca 10) (cw.2.1 0)) (r := (k_X1_isFree (cw.2.1 0) vp (k_X5_span i vn))) hE hP hD hS (k_rV (rest := []) (As := [.int vp, .int (k_X5_span i vn)]) hE rfl (hc_52 H.size) (cwV 2 hts gX5_room_X1_isFree rfl rfl rfl (by decide +kernel) ⟨Nat.le_of_ble_eq_true rfl, Nat.le_of_ble_eq_true rfl⟩) hP hD hS (ci := 1) (q0 := 0) rfl rfl rfl hl rfl (Nat.le_of_ble_eq_true rfl) ⟨Nat.le_of_ble_eq_true rfl, Nat.le_of_ble_eq_true rfl⟩ dX5_room_52) (fun H locs hP hD hS => ?_)
        have hP := pmP (ca_bk1 (cs := cs) (ca := ca) (cv := cw) (k := 0) (by decide)) hP
        have hD := pmD (ca_bk1 (cs := cs) (ca := ca) (cv := cw) (k := 0) (by decide)) hD
        have hP : va_P D vwCl (ca_W cs ca cw) H := hP
        have hD : va_D A (ca_W cs ca cw) := hD
        refine lv_if_eq (tgt := 60) hx hb dX5_room_55 (by decide) (fun c_55 => ?_) (fun c_55 => ?_)
        · skip
          have c_55 : ((k_X1_isFree (cw.2.1 0) vp (k_X5_span i vn)) = 0) := c_55
          rw [if_pos c_55] at hres
          refine lv_iinc (v := (i + 1)) (lv' := [(3, .int (i + 1)), (0, .ref (ca 0 0)), (1, .int vp), (2, .int vn)]) hx hb dX5_room_60 hl (k := 3) rfl (by rfl) (by decide) rfl (fun ls hl => ?_)
          refine lv_goto (tgt := 36) hx hb dX5_room_63 (by decide) ?_
          exact ih (i + 1) cw (j + 1) (by rw [hi, nI_1]) (by omega) (nI_lts hi (by omega) (by decide) c_39) _ _ _ hS hP hD (lv_sub hl [1, 2, 3, 0] rfl) hres
        · skip
          have c_55 : ¬ ((k_X1_isFree (cw.2.1 0) vp (k_X5_span i vn)) = 0) := c_55
          rw [if_neg c_55] at hres
          refine lv_iload_n hx hb dX5_room_58 rfl (lv_at hl 3 rfl) ?_
          subst hres
          exact kX_ret hE hS hP hD rfl rfl rfl (Nat.le_of_ble_eq_true rfl) (Nat.le_of_ble_eq_true rfl) dX5_room_59
  unfold k_X5_room at hres
  refine lv_iload_n hx hb dX5_room_0 rfl (lv_at hl 1 rfl) ?_
  have hP : va_P D vwCl ([] ++ (ca_W cs ca cv)) H := hP
  have hD : va_D A ([] ++ (ca_W cs ca cv)) := hD
  have hc_1 := c_X5_isPipe l D cs vp
  refine kI_call (wc := []) (wr := (ca_W cs ca cv)) (w1 := []) (r := (k_X5_isPipe vp)) hE hP hD hS (k_rS (rest := []) (As := [.int vp]) hE rfl (hc_1 H.size) (va_cwS 1 hts gX5_room_X5_isPipe rfl rfl rfl (by decide +kernel) ⟨Nat.le_of_ble_eq_true rfl, Nat.le_of_ble_eq_true rfl⟩) hP hD hS rfl hl rfl (Nat.le_of_ble_eq_true rfl) ⟨Nat.le_of_ble_eq_true rfl, Nat.le_of_ble_eq_true rfl⟩ dX5_room_1) (fun H locs hP hD hS => ?_)
  have hP : va_P D vwCl (ca_W cs ca cv) H := hP
  have hD : va_D A (ca_W cs ca cv) := hD
  refine lv_if_ne (tgt := 17) hx hb dX5_room_4 (by decide) (fun c_4 => ?_) (fun c_4 => ?_)
  · skip
    have c_4 : ¬ ((k_X5_isPipe vp) = 0) := c_4
    rw [if_neg c_4] at hres
    refine lv_iload_n hx hb dX5_room_17 rfl (lv_at hl 2 rfl) ?_
    have hP : va_P D vwCl ([] ++ (ca_W cs ca cv)) H := hP
    have hD : va_D A ([] ++ (ca_W cs ca cv)) := hD
    have hc_18 := c_X5_isLength l D cs vn
    refine kI_call (wc := []) (wr := (ca_W cs ca cv)) (w1 := []) (r := (k_X5_isLength vn)) hE hP hD hS (k_rS (rest := []) (As := [.int vn]) hE rfl (hc_18 H.size) (va_cwS 1 hts gX5_room_X5_isLength rfl rfl rfl (by decide +kernel) ⟨Nat.le_of_ble_eq_true rfl, Nat.le_of_ble_eq_true rfl⟩) hP hD hS rfl hl rfl (Nat.le_of_ble_eq_true rfl) ⟨Nat.le_of_ble_eq_true rfl, Nat.le_of_ble_eq_true rfl⟩ dX5_room_18) (fun H locs hP hD hS => ?_)
    have hP : va_P D vwCl (ca_W cs ca cv) H := hP
    have hD : va_D A (ca_W cs ca cv) := hD
    refine lv_if_ne (tgt := 34) hx hb dX5_room_21 (by decide) (fun c_21 => ?_) (fun c_21 => ?_)
    · skip
      have c_21 : ¬ ((k_X5_isLength vn) = 0) := c_21
      rw [if_neg c_21] at hres
      refine lv_iconst (v := 0) hx hb dX5_room_34 (by decide) ?_
      refine lv_istore_n (lv' := [(3, .int 0), (0, .ref (ca 0 0)), (1, .int vp), (2, .int vn)]) hx hb dX5_room_35 rfl hl (by decide) rfl (fun ls hl => ?_)
      exact L36 25 0 cv 0 ((show (0 : Int32) = nI 0 from rfl)) (rfl) (by decide) _ _ _ hS hP hD (lv_sub hl [1, 2, 3, 0] rfl) hres
    · skip
      have c_21 : ((k_X5_isLength vn) = 0) := c_21
      rw [if_pos c_21] at hres
      subst hres
      exact kX_throw hE hfl hxt hS hP hD hl rfl (by decide) lk_1 lk_2 sr_191 xg_47 (by decide +kernel) xb_47 dX5_room_24 dX5_room_27 dX5_room_28 dX5_room_30 dX5_room_33 (Nat.le_of_ble_eq_true rfl) (Nat.le_of_ble_eq_true rfl) (Nat.le_of_ble_eq_true rfl) (Nat.le_of_ble_eq_true rfl) (Nat.le_of_ble_eq_true rfl) (Nat.le_of_ble_eq_true rfl) rfl
  · skip
    have c_4 : ((k_X5_isPipe vp) = 0) := c_4
    rw [if_pos c_4] at hres
    subst hres
    exact kX_throw hE hfl hxt hS hP hD hl rfl (by decide) lk_3 lk_4 sr_157 xg_141 (by decide +kernel) xb_141 dX5_room_7 dX5_room_10 dX5_room_11 dX5_room_13 dX5_room_16 (Nat.le_of_ble_eq_true rfl) (Nat.le_of_ble_eq_true rfl) (Nat.le_of_ble_eq_true rfl) (Nat.le_of_ble_eq_true rfl) (Nat.le_of_ble_eq_true rfl) (Nat.le_of_ble_eq_true rfl) rfl
