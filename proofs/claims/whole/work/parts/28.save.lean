theorem md_z6 {D : va_G} {cs : Nat → ClassId} {ma : Nat → Nat} {o : MV} {x : Nat → Int32} {H : Heap} (h : va_P D vwCl ((md_W cs ma o).set 6 (ma 6, .inl (cs 2, 2, .inl x))) H) : va_P D vwCl (md_W cs ma (m_r o 5 x)) H := h
theorem md_y6 {A : Nat → Prop} {cs : Nat → ClassId} {ma : Nat → Nat} {o : MV} {x : Nat → Int32} (h : va_D A ((md_W cs ma o).set 6 (ma 6, .inl (cs 2, 2, .inl x)))) : va_D A (md_W cs ma (m_r o 5 x)) := h
set_option maxHeartbeats 4000000 in
set_option maxRecDepth 100000 in
theorem c_X6_save (l : Launch) (D : va_G) (cs : Nat → ClassId) (ma : Nat → Nat) (mv : MV) (vk : Int32) (hM : MO mv) : kI l yX6_save wsX6_save { frames := 1, cells := 0, slots := 0, locals := 25 } 0 0 D cs [.ref (ma 0), .int vk] (md_W cs ma mv) (k_X6_save mv vk).1 (md_W cs ma ((k_X6_save mv vk).2)) := by
  generalize hres : k_X6_save mv vk = res
  refine kI_of (cc := cX6_save) (maxL := 2) (ret := (some .int)) (by decide) rfl (Nat.le_of_ble_eq_true rfl) ?_
  intro p e s m below meth c A ls H locs hE hS hP hD hl
  obtain ⟨hx, hb, hr, hlocks, hml, hown, hts, hK, hA, hG, hnm⟩ := id hE
  have hown : s.vm.findClass RX6 = some m.cls := hown
  have hl : lv_has ls 2 [(0, .ref (ma 0)), (1, .int vk)] := hl
  have hinX6 : ∀ w ∈ wsX60, w ∈ wsX6_save := by decide +kernel
  have lk_0 := hts (.fieldLink RX6 13 "OrganPegsModel" "now" "[I") (by decide +kernel)
  have lk_1 := hts (.fieldLink RX6 22 "OrganPegsModel" "kept" "[I") (by decide +kernel)
  have lk_2 := hts (.fieldLink RX6 25 "OrganPegsModel" "isKept" "[Z") (by decide +kernel)
  unfold k_X6_save at hres
  refine lv_aload_n hx hb dX6_save_0 rfl (lv_at hl 0 rfl) ?_
  refine lv_iload_n hx hb dX6_save_1 rfl (lv_at hl 1 rfl) ?_
  refine lv_i2l hx hb dX6_save_2 rfl ?_
  refine lv_lconst (v := 0) hx hb dX6_save_3 (by decide) ?_
  refine lv_lconst (v := 1) hx hb dX6_save_4 (by decide) ?_
  have hP : va_P D vwCl ([] ++ (md_W cs ma mv)) H := hP
  have hD : va_D A ([] ++ (md_W cs ma mv)) := hD
  have hc_5 := c_X6_in l D cs (vk.toInt64) 0 1
  refine kI_call (wc := []) (wr := (md_W cs ma mv)) (w1 := []) (r := (k_X6_in (vk.toInt64) 0 1)) hE hP hD hS (k_rS (rest := [.ref (ma 0)]) (As := [.long (vk.toInt64), .long 0, .long 1]) hE rfl (hc_5 H.size) (va_cwS 3 hts gX6_save_X6_in rfl rfl rfl (by decide +kernel) ⟨Nat.le_of_ble_eq_true rfl, Nat.le_of_ble_eq_true rfl⟩) hP hD hS rfl hl rfl (Nat.le_of_ble_eq_true rfl) ⟨Nat.le_of_ble_eq_true rfl, Nat.le_of_ble_eq_true rfl⟩ dX6_save_5) (fun H locs hP hD hS => ?_)
  have hP : va_P D vwCl (md_W cs ma mv) H := hP
  have hD : va_D A (md_W cs ma mv) := hD
  refine lv_if_eq (tgt := 15) hx hb dX6_save_8 (by decide) (fun c_8 => ?_) (fun c_8 => ?_)
  · skip
    have c_8 : ((k_X6_in (vk.toInt64) 0 1) = 0) := c_8
    rw [if_pos c_8] at hres
    refine lv_iconst (v := 1) hx hb dX6_save_15 (by decide) ?_
    have hP : va_P D vwCl ((md_W cs ma mv) ++ []) H := k_nP hP
    have hD : va_D A ((md_W cs ma mv) ++ []) := k_nD hD
    have hc_16 := c_X6_refused l D cs ma mv 1
    obtain ⟨r_16, o_16, e_16⟩ : ∃ r9 o9, (k_X6_refused mv 1) = (r9, o9) := ⟨_, _, rfl⟩
    rw [e_16] at hc_16 hres
    dsimp only at hc_16 hres
    refine kI_call (wc := (md_W cs ma mv)) (wr := []) (w1 := md_W cs ma o_16) (r := r_16) hE hP hD hS (k_rV (rest := []) (As := [.int 1]) hE rfl (hc_16 H.size) (cwV 1 hts gX6_save_X6_refused rfl rfl rfl (by decide +kernel) ⟨Nat.le_of_ble_eq_true rfl, Nat.le_of_ble_eq_true rfl⟩) hP hD hS (ci := 6) (q0 := 0) rfl rfl rfl hl rfl (Nat.le_of_ble_eq_true rfl) ⟨Nat.le_of_ble_eq_true rfl, Nat.le_of_ble_eq_true rfl⟩ dX6_save_16) (fun H locs hP hD hS => ?_)
    have hP := k_uP hP
    have hD := k_uD hD
    have hP : va_P D vwCl (md_W cs ma o_16) H := hP
    have hD : va_D A (md_W cs ma o_16) := hD
    refine lv_if_eq (tgt := 24) hx hb dX6_save_19 (by decide) (fun c_19 => ?_) (fun c_19 => ?_)
    · skip
      have c_19 : (r_16 = 0) := c_19
      rw [if_pos c_19] at hres
      refine lv_aload_n hx hb dX6_save_24 rfl (lv_at hl 0 rfl) ?_
      refine va_get (D := D) (ci := 6) (v := .ref (ma 2)) (C := RX6) (T := TX6) (N := 11) hx hb hts hinX6 hown hK hP 0 rfl rfl 3 (by decide) lk_0 (fun _ h9 => h9) rfl dX6_save_25 ?_
      refine lv_iconst (v := 0) hx hb dX6_save_28 (by decide) ?_
      refine lv_aload_n hx hb dX6_save_29 rfl (lv_at hl 0 rfl) ?_
      refine va_get (D := D) (ci := 6) (v := .ref (ma 5)) (C := RX6) (T := TX6) (N := 11) hx hb hts hinX6 hown hK hP 0 rfl rfl 7 (by decide) lk_1 (fun _ h9 => h9) rfl dX6_save_30 ?_
      refine lv_sipush (v := 217) hx hb dX6_save_33 (by decide) ?_
      refine lv_iload_n hx hb dX6_save_36 rfl (lv_at hl 1 rfl) ?_
      refine lv_imul hx hb dX6_save_37 ?_
      have hP := hP.sub (ws' := (cp_W cs (ma 2) (ma 5) 217 434 (o_16.2 1) (o_16.2 4)) ++ (x_pick (md_W cs ma o_16) [0, 1, 3, 4, 6])) [2, 5, 0, 1, 3, 4, 6] rfl
      have hD := hD.sub (ws' := (cp_W cs (ma 2) (ma 5) 217 434 (o_16.2 1) (o_16.2 4)) ++ (x_pick (md_W cs ma o_16) [0, 1, 3, 4, 6])) [2, 5, 0, 1, 3, 4, 6] (by decide) rfl
      have hc_38 := c_X6_copyState l D cs (ma 2) (ma 5) 217 434 (o_16.2 1) (o_16.2 4) 0 (217 * vk) (cp_0 (by decide) (by decide)) (by first | exact kp_m (in_n (A := 0) (B := 1) rfl rfl c_8) | exact absurd (rfd_n e_16 c_19) (by decide))
      generalize e_38 : (k_X6_copyState (o_16.2 1) (o_16.2 4) 0 (217 * vk)) = o_38 at hc_38 hres
      have hres := (kbind_eq _ _).symm.trans hres
      refine kV_call (wc := (cp_W cs (ma 2) (ma 5) 217 434 (o_16.2 1) (o_16.2 4))) (wr := (x_pick (md_W cs ma o_16) [0, 1, 3, 4, 6])) (w1 := fun _ => cp_W cs (ma 2) (ma 5) 217 434 (o_16.2 1) o_38) hE hP hD hS (k_rS (rest := []) (As := [.ref (ma 2), .int 0, .ref (ma 5), .int (217 * vk)]) hE rfl (hc_38 H.size) (va_cwS 4 hts gX6_save_X6_copyState rfl rfl rfl (by decide +kernel) ⟨Nat.le_of_ble_eq_true rfl, Nat.le_of_ble_eq_true rfl⟩) hP hD hS rfl hl rfl (Nat.le_of_ble_eq_true rfl) ⟨Nat.le_of_ble_eq_true rfl, Nat.le_of_ble_eq_true rfl⟩ dX6_save_38) (fun _ H locs _ hP hD hS => ?_)
      have hP := hP.sub (ws' := md_W cs ma (m_r o_16 4 o_38)) [2, 3, 0, 4, 5, 1, 6] md_k25
      have hD := hD.sub (ws' := md_W cs ma (m_r o_16 4 o_38)) [2, 3, 0, 4, 5, 1, 6] (by decide) md_d25
      have hP : va_P D vwCl (md_W cs ma (m_r o_16 4 o_38)) H := hP
      have hD : va_D A (md_W cs ma (m_r o_16 4 o_38)) := hD
      generalize e_x_41 : (m_r o_16 4 o_38) = x_41 at hP hD hres
      have hres := (kbind_eq _ _).symm.trans hres
      refine lv_aload_n hx hb dX6_save_41 rfl (lv_at hl 0 rfl) ?_
      refine va_get (D := D) (ci := 6) (v := .ref (ma 6)) (C := RX6) (T := TX6) (N := 11) hx hb hts hinX6 hown hK hP 0 rfl rfl 8 (by decide) lk_2 (fun _ h9 => h9) rfl dX6_save_42 ?_
      refine lv_iload_n hx hb dX6_save_45 rfl (lv_at hl 1 rfl) ?_
      refine lv_iconst (v := 1) hx hb dX6_save_46 (by decide) ?_
      refine k_zast hx hb hK hP hD hS 6 2 (k := vk.toNatClampNeg) rfl rfl (by first | exact in_2 (in_n (A := 0) (B := 1) rfl rfl c_8) | exact absurd (rfd_n e_16 c_19) (by decide)) rfl rfl dX6_save_47 (fun H locs hP hD hS => ?_)
      generalize e_47 : (va_up (x_41.2 5) vk.toNatClampNeg 1) = x_47 at hP hD hres
      have hres := (kbind_eq _ _).symm.trans hres
      have hP : va_P D vwCl (md_W cs ma (m_r x_41 5 x_47)) H := md_z6 hP
      have hD : va_D A (md_W cs ma (m_r x_41 5 x_47)) := md_y6 hD
      generalize e_x_48 : (m_r x_41 5 x_47) = x_48 at hP hD hres
      have hres := (kbind_eq _ _).symm.trans hres
      refine lv_aload_n hx hb dX6_save_48 rfl (lv_at hl 0 rfl) ?_
      refine va_get (D := D) (ci := 6) (v := .ref (ma 2)) (C := RX6) (T := TX6) (N := 11) hx hb hts hinX6 hown hK hP 0 rfl rfl 3 (by decide) lk_0 (fun _ h9 => h9) rfl dX6_save_49 ?_
      refine lv_iconst (v := 5) hx hb dX6_save_52 (by decide) ?_
      refine k_iald hx hb hK hP 2 0 (v := ((x_48.2 1) 5)) rfl rfl (k_inl rfl) rfl dX6_save_53 ?_
      subst hres
      exact kI_ret hE hS hP hD rfl rfl (Nat.le_of_ble_eq_true rfl) (Nat.le_of_ble_eq_true rfl) dX6_save_54
    · skip
      have c_19 : ¬ (r_16 = 0) := c_19
      rw [if_neg c_19] at hres
      refine lv_iconst (v := 0) hx hb dX6_save_22 (by decide) ?_
      subst hres
      exact kI_ret hE hS hP hD rfl rfl (Nat.le_of_ble_eq_true rfl) (Nat.le_of_ble_eq_true rfl) dX6_save_23
  · skip
    have c_8 : ¬ ((k_X6_in (vk.toInt64) 0 1) = 0) := c_8
    rw [if_neg c_8] at hres
    refine lv_iconst (v := 0) hx hb dX6_save_11 (by decide) ?_
    refine lv_goto (tgt := 16) hx hb dX6_save_12 (by decide) ?_
    have hP : va_P D vwCl ((md_W cs ma mv) ++ []) H := k_nP hP
    have hD : va_D A ((md_W cs ma mv) ++ []) := k_nD hD
    have hc_16 := c_X6_refused l D cs ma mv 0
    obtain ⟨r_16, o_16, e_16⟩ : ∃ r9 o9, (k_X6_refused mv 0) = (r9, o9) := ⟨_, _, rfl⟩
    rw [e_16] at hc_16 hres
    dsimp only at hc_16 hres
    refine kI_call (wc := (md_W cs ma mv)) (wr := []) (w1 := md_W cs ma o_16) (r := r_16) hE hP hD hS (k_rV (rest := []) (As := [.int 0]) hE rfl (hc_16 H.size) (cwV 1 hts gX6_save_X6_refused rfl rfl rfl (by decide +kernel) ⟨Nat.le_of_ble_eq_true rfl, Nat.le_of_ble_eq_true rfl⟩) hP hD hS (ci := 6) (q0 := 0) rfl rfl rfl hl rfl (Nat.le_of_ble_eq_true rfl) ⟨Nat.le_of_ble_eq_true rfl, Nat.le_of_ble_eq_true rfl⟩ dX6_save_16) (fun H locs hP hD hS => ?_)
    have hP := k_uP hP
    have hD := k_uD hD
    have hP : va_P D vwCl (md_W cs ma o_16) H := hP
    have hD : va_D A (md_W cs ma o_16) := hD
    refine lv_if_eq (tgt := 24) hx hb dX6_save_19 (by decide) (fun c_19 => ?_) (fun c_19 => ?_)
    · skip
      have c_19 : (r_16 = 0) := c_19
      rw [if_pos c_19] at hres
      refine lv_aload_n hx hb dX6_save_24 rfl (lv_at hl 0 rfl) ?_
      refine va_get (D := D) (ci := 6) (v := .ref (ma 2)) (C := RX6) (T := TX6) (N := 11) hx hb hts hinX6 hown hK hP 0 rfl rfl 3 (by decide) lk_0 (fun _ h9 => h9) rfl dX6_save_25 ?_
      refine lv_iconst (v := 0) hx hb dX6_save_28 (by decide) ?_
      refine lv_aload_n hx hb dX6_save_29 rfl (lv_at hl 0 rfl) ?_
      refine va_get (D := D) (ci := 6) (v := .ref (ma 5)) (C := RX6) (T := TX6) (N := 11) hx hb hts hinX6 hown hK hP 0 rfl rfl 7 (by decide) lk_1 (fun _ h9 => h9) rfl dX6_save_30 ?_
      refine lv_sipush (v := 217) hx hb dX6_save_33 (by decide) ?_
      refine lv_iload_n hx hb dX6_save_36 rfl (lv_at hl 1 rfl) ?_
      refine lv_imul hx hb dX6_save_37 ?_
      have hP := hP.sub (ws' := (cp_W cs (ma 2) (ma 5) 217 434 (o_16.2 1) (o_16.2 4)) ++ (x_pick (md_W cs ma o_16) [0, 1, 3, 4, 6])) [2, 5, 0, 1, 3, 4, 6] rfl
      have hD := hD.sub (ws' := (cp_W cs (ma 2) (ma 5) 217 434 (o_16.2 1) (o_16.2 4)) ++ (x_pick (md_W cs ma o_16) [0, 1, 3, 4, 6])) [2, 5, 0, 1, 3, 4, 6] (by decide) rfl
      have hc_38 := c_X6_copyState l D cs (ma 2) (ma 5) 217 434 (o_16.2 1) (o_16.2 4) 0 (217 * vk) (cp_0 (by decide) (by decide)) (by first | exact kp_m (in_n (A := 0) (B := 1) rfl rfl c_8) | exact absurd (rfd_n e_16 c_19) (by decide))
      generalize e_38 : (k_X6_copyState (o_16.2 1) (o_16.2 4) 0 (217 * vk)) = o_38 at hc_38 hres
      have hres := (kbind_eq _ _).symm.trans hres
      refine kV_call (wc := (cp_W cs (ma 2) (ma 5) 217 434 (o_16.2 1) (o_16.2 4))) (wr := (x_pick (md_W cs ma o_16) [0, 1, 3, 4, 6])) (w1 := fun _ => cp_W cs (ma 2) (ma 5) 217 434 (o_16.2 1) o_38) hE hP hD hS (k_rS (rest := []) (As := [.ref (ma 2), .int 0, .ref (ma 5), .int (217 * vk)]) hE rfl (hc_38 H.size) (va_cwS 4 hts gX6_save_X6_copyState rfl rfl rfl (by decide +kernel) ⟨Nat.le_of_ble_eq_true rfl, Nat.le_of_ble_eq_true rfl⟩) hP hD hS rfl hl rfl (Nat.le_of_ble_eq_true rfl) ⟨Nat.le_of_ble_eq_true rfl, Nat.le_of_ble_eq_true rfl⟩ dX6_save_38) (fun _ H locs _ hP hD hS => ?_)
      have hP := hP.sub (ws' := md_W cs ma (m_r o_16 4 o_38)) [2, 3, 0, 4, 5, 1, 6] md_k25
      have hD := hD.sub (ws' := md_W cs ma (m_r o_16 4 o_38)) [2, 3, 0, 4, 5, 1, 6] (by decide) md_d25
      have hP : va_P D vwCl (md_W cs ma (m_r o_16 4 o_38)) H := hP
      have hD : va_D A (md_W cs ma (m_r o_16 4 o_38)) := hD
      generalize e_x_41 : (m_r o_16 4 o_38) = x_41 at hP hD hres
      have hres := (kbind_eq _ _).symm.trans hres
      refine lv_aload_n hx hb dX6_save_41 rfl (lv_at hl 0 rfl) ?_
      refine va_get (D := D) (ci := 6) (v := .ref (ma 6)) (C := RX6) (T := TX6) (N := 11) hx hb hts hinX6 hown hK hP 0 rfl rfl 8 (by decide) lk_2 (fun _ h9 => h9) rfl dX6_save_42 ?_
      refine lv_iload_n hx hb dX6_save_45 rfl (lv_at hl 1 rfl) ?_
      refine lv_iconst (v := 1) hx hb dX6_save_46 (by decide) ?_
      refine k_zast hx hb hK hP hD hS 6 2 (k := vk.toNatClampNeg) rfl rfl (by first | exact in_2 (in_n (A := 0) (B := 1) rfl rfl c_8) | exact absurd (rfd_n e_16 c_19) (by decide)) rfl rfl dX6_save_47 (fun H locs hP hD hS => ?_)
      generalize e_47 : (va_up (x_41.2 5) vk.toNatClampNeg 1) = x_47 at hP hD hres
      have hres := (kbind_eq _ _).symm.trans hres
      have hP : va_P D vwCl (md_W cs ma (m_r x_41 5 x_47)) H := md_z6 hP
      have hD : va_D A (md_W cs ma (m_r x_41 5 x_47)) := md_y6 hD
      generalize e_x_48 : (m_r x_41 5 x_47) = x_48 at hP hD hres
      have hres := (kbind_eq _ _).symm.trans hres
      refine lv_aload_n hx hb dX6_save_48 rfl (lv_at hl 0 rfl) ?_
      refine va_get (D := D) (ci := 6) (v := .ref (ma 2)) (C := RX6) (T := TX6) (N := 11) hx hb hts hinX6 hown hK hP 0 rfl rfl 3 (by decide) lk_0 (fun _ h9 => h9) rfl dX6_save_49 ?_
      refine lv_iconst (v := 5) hx hb dX6_save_52 (by decide) ?_
      refine k_iald hx hb hK hP 2 0 (v := ((x_48.2 1) 5)) rfl rfl (k_inl rfl) rfl dX6_save_53 ?_
      subst hres
      exact kI_ret hE hS hP hD rfl rfl (Nat.le_of_ble_eq_true rfl) (Nat.le_of_ble_eq_true rfl) dX6_save_54
    · skip
      have c_19 : ¬ (r_16 = 0) := c_19
      rw [if_neg c_19] at hres
      refine lv_iconst (v := 0) hx hb dX6_save_22 (by decide) ?_
      subst hres
      exact kI_ret hE hS hP hD rfl rfl (Nat.le_of_ble_eq_true rfl) (Nat.le_of_ble_eq_true rfl) dX6_save_23
