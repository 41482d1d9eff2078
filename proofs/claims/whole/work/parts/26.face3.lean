set_option maxHeartbeats 4000000 in
set_option maxRecDepth 100000 in
theorem c_X6_restore (l : Launch) (D : va_G) (cs : Nat → ClassId) (ma : Nat → Nat) (mv : MV) (vk : Int32) (hM : MO mv) : kI l yX6_restore wsX6_restore { frames := 1, cells := 0, slots := 0, locals := 25 } 0 0 D cs [.ref (ma 0), .int vk] (md_W cs ma mv) (k_X6_restore mv vk).1 (md_W cs ma ((k_X6_restore mv vk).2)) := by
  generalize hres : k_X6_restore mv vk = res
  refine kI_of (cc := cX6_restore) (maxL := 2) (ret := (some .int)) (by decide) rfl (Nat.le_of_ble_eq_true rfl) ?_
  intro p e s m below meth c A ls H locs hE hS hP hD hl
  obtain ⟨hx, hb, hr, hlocks, hml, hown, hts, hK, hA, hG, hnm⟩ := id hE
  have hown : s.vm.findClass RX6 = some m.cls := hown
  have hl : lv_has ls 2 [(0, .ref (ma 0)), (1, .int vk)] := hl
  have hinX6 : ∀ w ∈ wsX60, w ∈ wsX6_restore := by decide +kernel
  have lk_0 := hts (.fieldLink RX6 25 "OrganPegsModel" "isKept" "[Z") (by decide +kernel)
  have lk_1 := hts (.fieldLink RX6 22 "OrganPegsModel" "kept" "[I") (by decide +kernel)
  have lk_2 := hts (.fieldLink RX6 13 "OrganPegsModel" "now" "[I") (by decide +kernel)
  have lk_3 := hts (.fieldLink RX6 162 "OrganPegsModel" "acts" "I") (by decide +kernel)
  unfold k_X6_restore at hres
  refine lv_aload_n hx hb dX6_restore_0 rfl (lv_at hl 0 rfl) ?_
  refine lv_iload_n hx hb dX6_restore_1 rfl (lv_at hl 1 rfl) ?_
  refine lv_i2l hx hb dX6_restore_2 rfl ?_
  refine lv_lconst (v := 0) hx hb dX6_restore_3 (by decide) ?_
  refine lv_lconst (v := 1) hx hb dX6_restore_4 (by decide) ?_
  have hP : va_P D vwCl ([] ++ (md_W cs ma mv)) H := hP
  have hD : va_D A ([] ++ (md_W cs ma mv)) := hD
  have hc_5 := c_X6_in l D cs (vk.toInt64) 0 1
  refine kI_call (wc := []) (wr := (md_W cs ma mv)) (w1 := []) (r := (k_X6_in (vk.toInt64) 0 1)) hE hP hD hS (k_rS (rest := [.ref (ma 0)]) (As := [.long (vk.toInt64), .long 0, .long 1]) hE rfl (hc_5 H.size) (va_cwS 3 hts gX6_restore_X6_in rfl rfl rfl (by decide +kernel) ⟨Nat.le_of_ble_eq_true rfl, Nat.le_of_ble_eq_true rfl⟩) hP hD hS rfl hl rfl (Nat.le_of_ble_eq_true rfl) ⟨Nat.le_of_ble_eq_true rfl, Nat.le_of_ble_eq_true rfl⟩ dX6_restore_5) (fun H locs hP hD hS => ?_)
  have hP : va_P D vwCl (md_W cs ma mv) H := hP
  have hD : va_D A (md_W cs ma mv) := hD
  refine lv_if_ne (tgt := 15) hx hb dX6_restore_8 (by decide) (fun c_8 => ?_) (fun c_8 => ?_)
  · skip
    have c_8 : ¬ ((k_X6_in (vk.toInt64) 0 1) = 0) := c_8
    rw [if_neg c_8] at hres
    refine lv_aload_n hx hb dX6_restore_15 rfl (lv_at hl 0 rfl) ?_
    refine va_get (D := D) (ci := 6) (v := .ref (ma 6)) (C := RX6) (T := TX6) (N := 11) hx hb hts hinX6 hown hK hP 0 rfl rfl 8 (by decide) lk_0 (fun _ h9 => h9) rfl dX6_restore_16 ?_
    refine lv_iload_n hx hb dX6_restore_19 rfl (lv_at hl 1 rfl) ?_
    refine k_zald hx hb hK hP 6 2 (v := ((mv.2 5) vk.toNatClampNeg)) rfl rfl (in_2 (in_n (A := 0) (B := 1) rfl rfl c_8)) rfl dX6_restore_20 ?_
    refine lv_if_ne (tgt := 28) hx hb dX6_restore_21 (by decide) (fun c_21 => ?_) (fun c_21 => ?_)
    · skip
      have c_21 : ¬ (((mv.2 5) vk.toNatClampNeg) = 0) := c_21
      rw [if_neg c_21] at hres
      refine lv_iconst (v := 0) hx hb dX6_restore_28 (by decide) ?_
      have hP : va_P D vwCl ((md_W cs ma mv) ++ []) H := k_nP hP
      have hD : va_D A ((md_W cs ma mv) ++ []) := k_nD hD
      have hc_29 := c_X6_refused l D cs ma mv 0
      obtain ⟨r_29, o_29, e_29⟩ : ∃ r9 o9, (k_X6_refused mv 0) = (r9, o9) := ⟨_, _, rfl⟩
      rw [e_29] at hc_29 hres
      dsimp only at hc_29 hres
      refine kI_call (wc := (md_W cs ma mv)) (wr := []) (w1 := md_W cs ma o_29) (r := r_29) hE hP hD hS (k_rV (rest := []) (As := [.int 0]) hE rfl (hc_29 H.size) (cwV 1 hts gX6_restore_X6_refused rfl rfl rfl (by decide +kernel) ⟨Nat.le_of_ble_eq_true rfl, Nat.le_of_ble_eq_true rfl⟩) hP hD hS (ci := 6) (q0 := 0) rfl rfl rfl hl rfl (Nat.le_of_ble_eq_true rfl) ⟨Nat.le_of_ble_eq_true rfl, Nat.le_of_ble_eq_true rfl⟩ dX6_restore_29) (fun H locs hP hD hS => ?_)
      have hP := k_uP hP
      have hD := k_uD hD
      have hP : va_P D vwCl (md_W cs ma o_29) H := hP
      have hD : va_D A (md_W cs ma o_29) := hD
      refine lv_if_eq (tgt := 37) hx hb dX6_restore_32 (by decide) (fun c_32 => ?_) (fun c_32 => ?_)
      · skip
        have c_32 : (r_29 = 0) := c_32
        rw [if_pos c_32] at hres
        refine lv_aload_n hx hb dX6_restore_37 rfl (lv_at hl 0 rfl) ?_
        refine va_get (D := D) (ci := 6) (v := .ref (ma 5)) (C := RX6) (T := TX6) (N := 11) hx hb hts hinX6 hown hK hP 0 rfl rfl 7 (by decide) lk_1 (fun _ h9 => h9) rfl dX6_restore_38 ?_
        refine lv_sipush (v := 217) hx hb dX6_restore_41 (by decide) ?_
        refine lv_iload_n hx hb dX6_restore_44 rfl (lv_at hl 1 rfl) ?_
        refine lv_imul hx hb dX6_restore_45 ?_
        refine lv_aload_n hx hb dX6_restore_46 rfl (lv_at hl 0 rfl) ?_
        refine va_get (D := D) (ci := 6) (v := .ref (ma 2)) (C := RX6) (T := TX6) (N := 11) hx hb hts hinX6 hown hK hP 0 rfl rfl 3 (by decide) lk_2 (fun _ h9 => h9) rfl dX6_restore_47 ?_
        refine lv_iconst (v := 0) hx hb dX6_restore_50 (by decide) ?_
        have hP := hP.sub (ws' := (cp_W cs (ma 5) (ma 2) 434 217 (o_29.2 4) (o_29.2 1)) ++ (x_pick (md_W cs ma o_29) [0, 1, 3, 4, 6])) [5, 2, 0, 1, 3, 4, 6] rfl
        have hD := hD.sub (ws' := (cp_W cs (ma 5) (ma 2) 434 217 (o_29.2 4) (o_29.2 1)) ++ (x_pick (md_W cs ma o_29) [0, 1, 3, 4, 6])) [5, 2, 0, 1, 3, 4, 6] (by decide) rfl
        have hc_51 := c_X6_copyState l D cs (ma 5) (ma 2) 434 217 (o_29.2 4) (o_29.2 1) (217 * vk) 0 (by first | exact kp_m (in_n (A := 0) (B := 1) rfl rfl c_8) | exact absurd (rfd_n e_29 c_32) (by decide)) (cp_0 (by decide) (by decide))
        generalize e_51 : (k_X6_copyState (o_29.2 4) (o_29.2 1) (217 * vk) 0) = o_51 at hc_51 hres
        have hres := (kbind_eq _ _).symm.trans hres
        refine kV_call (wc := (cp_W cs (ma 5) (ma 2) 434 217 (o_29.2 4) (o_29.2 1))) (wr := (x_pick (md_W cs ma o_29) [0, 1, 3, 4, 6])) (w1 := fun _ => cp_W cs (ma 5) (ma 2) 434 217 (o_29.2 4) o_51) hE hP hD hS (k_rS (rest := []) (As := [.ref (ma 5), .int (217 * vk), .ref (ma 2), .int 0]) hE rfl (hc_51 H.size) (va_cwS 4 hts gX6_restore_X6_copyState rfl rfl rfl (by decide +kernel) ⟨Nat.le_of_ble_eq_true rfl, Nat.le_of_ble_eq_true rfl⟩) hP hD hS rfl hl rfl (Nat.le_of_ble_eq_true rfl) ⟨Nat.le_of_ble_eq_true rfl, Nat.le_of_ble_eq_true rfl⟩ dX6_restore_51) (fun _ H locs _ hP hD hS => ?_)
        have hP := hP.sub (ws' := md_W cs ma (m_r o_29 1 o_51)) [2, 3, 1, 4, 5, 0, 6] md_k52
        have hD := hD.sub (ws' := md_W cs ma (m_r o_29 1 o_51)) [2, 3, 1, 4, 5, 0, 6] (by decide) md_d52
        have hP : va_P D vwCl (md_W cs ma (m_r o_29 1 o_51)) H := hP
        have hD : va_D A (md_W cs ma (m_r o_29 1 o_51)) := hD
        generalize e_x_54 : (m_r o_29 1 o_51) = x_54 at hP hD hres
        have hres := (kbind_eq _ _).symm.trans hres
        refine lv_aload_n hx hb dX6_restore_54 rfl (lv_at hl 0 rfl) ?_
        refine lv_iconst (v := 0) hx hb dX6_restore_55 (by decide) ?_
        refine va_put (D := D) (ci := 6) (v := .int 0) (ty := .int) (C := RX6) (T := TX6) (N := 11) hx hb hts hinX6 tyX6 tyX6_ok nmX6 hown hK hP hD hS 0 rfl rfl 6 (by decide) lk_3 (fun _ h9 => h9) rfl (by decide +kernel) rfl rfl (Nat.le_of_ble_eq_true rfl) dX6_restore_56 (fun H locs hP hD hS => ?_)
        have hP : va_P D vwCl (md_W cs ma (m_s x_54 2 0)) H := hP
        have hD : va_D A (md_W cs ma (m_s x_54 2 0)) := hD
        refine lv_aload_n hx hb dX6_restore_59 rfl (lv_at hl 0 rfl) ?_
        refine va_get (D := D) (ci := 6) (v := .ref (ma 2)) (C := RX6) (T := TX6) (N := 11) hx hb hts hinX6 hown hK hP 0 rfl rfl 3 (by decide) lk_2 (fun _ h9 => h9) rfl dX6_restore_60 ?_
        refine lv_iconst (v := 5) hx hb dX6_restore_63 (by decide) ?_
        refine k_iald hx hb hK hP 2 0 (v := ((x_54.2 1) 5)) rfl rfl (k_inl rfl) rfl dX6_restore_64 ?_
        subst hres
        exact kI_ret hE hS hP hD rfl rfl (Nat.le_of_ble_eq_true rfl) (Nat.le_of_ble_eq_true rfl) dX6_restore_65
      · skip
        have c_32 : ¬ (r_29 = 0) := c_32
        rw [if_neg c_32] at hres
        refine lv_iconst (v := 0) hx hb dX6_restore_35 (by decide) ?_
        subst hres
        exact kI_ret hE hS hP hD rfl rfl (Nat.le_of_ble_eq_true rfl) (Nat.le_of_ble_eq_true rfl) dX6_restore_36
    · skip
      have c_21 : (((mv.2 5) vk.toNatClampNeg) = 0) := c_21
      rw [if_pos c_21] at hres
      refine lv_iconst (v := 2) hx hb dX6_restore_24 (by decide) ?_
      refine lv_goto (tgt := 29) hx hb dX6_restore_25 (by decide) ?_
      have hP : va_P D vwCl ((md_W cs ma mv) ++ []) H := k_nP hP
      have hD : va_D A ((md_W cs ma mv) ++ []) := k_nD hD
      have hc_29 := c_X6_refused l D cs ma mv 2
      obtain ⟨r_29, o_29, e_29⟩ : ∃ r9 o9, (k_X6_refused mv 2) = (r9, o9) := ⟨_, _, rfl⟩
      rw [e_29] at hc_29 hres
      dsimp only at hc_29 hres
      refine kI_call (wc := (md_W cs ma mv)) (wr := []) (w1 := md_W cs ma o_29) (r := r_29) hE hP hD hS (k_rV (rest := []) (As := [.int 2]) hE rfl (hc_29 H.size) (cwV 1 hts gX6_restore_X6_refused rfl rfl rfl (by decide +kernel) ⟨Nat.le_of_ble_eq_true rfl, Nat.le_of_ble_eq_true rfl⟩) hP hD hS (ci := 6) (q0 := 0) rfl rfl rfl hl rfl (Nat.le_of_ble_eq_true rfl) ⟨Nat.le_of_ble_eq_true rfl, Nat.le_of_ble_eq_true rfl⟩ dX6_restore_29) (fun H locs hP hD hS => ?_)
      have hP := k_uP hP
      have hD := k_uD hD
      have hP : va_P D vwCl (md_W cs ma o_29) H := hP
      have hD : va_D A (md_W cs ma o_29) := hD
      refine lv_if_eq (tgt := 37) hx hb dX6_restore_32 (by decide) (fun c_32 => ?_) (fun c_32 => ?_)
      · skip
        have c_32 : (r_29 = 0) := c_32
        rw [if_pos c_32] at hres
        refine lv_aload_n hx hb dX6_restore_37 rfl (lv_at hl 0 rfl) ?_
        refine va_get (D := D) (ci := 6) (v := .ref (ma 5)) (C := RX6) (T := TX6) (N := 11) hx hb hts hinX6 hown hK hP 0 rfl rfl 7 (by decide) lk_1 (fun _ h9 => h9) rfl dX6_restore_38 ?_
        refine lv_sipush (v := 217) hx hb dX6_restore_41 (by decide) ?_
        refine lv_iload_n hx hb dX6_restore_44 rfl (lv_at hl 1 rfl) ?_
        refine lv_imul hx hb dX6_restore_45 ?_
        refine lv_aload_n hx hb dX6_restore_46 rfl (lv_at hl 0 rfl) ?_
        refine va_get (D := D) (ci := 6) (v := .ref (ma 2)) (C := RX6) (T := TX6) (N := 11) hx hb hts hinX6 hown hK hP 0 rfl rfl 3 (by decide) lk_2 (fun _ h9 => h9) rfl dX6_restore_47 ?_
        refine lv_iconst (v := 0) hx hb dX6_restore_50 (by decide) ?_
        have hP := hP.sub (ws' := (cp_W cs (ma 5) (ma 2) 434 217 (o_29.2 4) (o_29.2 1)) ++ (x_pick (md_W cs ma o_29) [0, 1, 3, 4, 6])) [5, 2, 0, 1, 3, 4, 6] rfl
        have hD := hD.sub (ws' := (cp_W cs (ma 5) (ma 2) 434 217 (o_29.2 4) (o_29.2 1)) ++ (x_pick (md_W cs ma o_29) [0, 1, 3, 4, 6])) [5, 2, 0, 1, 3, 4, 6] (by decide) rfl
        have hc_51 := c_X6_copyState l D cs (ma 5) (ma 2) 434 217 (o_29.2 4) (o_29.2 1) (217 * vk) 0 (by first | exact kp_m (in_n (A := 0) (B := 1) rfl rfl c_8) | exact absurd (rfd_n e_29 c_32) (by decide)) (cp_0 (by decide) (by decide))
        generalize e_51 : (k_X6_copyState (o_29.2 4) (o_29.2 1) (217 * vk) 0) = o_51 at hc_51 hres
        have hres := (kbind_eq _ _).symm.trans hres
        refine kV_call (wc := (cp_W cs (ma 5) (ma 2) 434 217 (o_29.2 4) (o_29.2 1))) (wr := (x_pick (md_W cs ma o_29) [0, 1, 3, 4, 6])) (w1 := fun _ => cp_W cs (ma 5) (ma 2) 434 217 (o_29.2 4) o_51) hE hP hD hS (k_rS (rest := []) (As := [.ref (ma 5), .int (217 * vk), .ref (ma 2), .int 0]) hE rfl (hc_51 H.size) (va_cwS 4 hts gX6_restore_X6_copyState rfl rfl rfl (by decide +kernel) ⟨Nat.le_of_ble_eq_true rfl, Nat.le_of_ble_eq_true rfl⟩) hP hD hS rfl hl rfl (Nat.le_of_ble_eq_true rfl) ⟨Nat.le_of_ble_eq_true rfl, Nat.le_of_ble_eq_true rfl⟩ dX6_restore_51) (fun _ H locs _ hP hD hS => ?_)
        have hP := hP.sub (ws' := md_W cs ma (m_r o_29 1 o_51)) [2, 3, 1, 4, 5, 0, 6] md_k52
        have hD := hD.sub (ws' := md_W cs ma (m_r o_29 1 o_51)) [2, 3, 1, 4, 5, 0, 6] (by decide) md_d52
        have hP : va_P D vwCl (md_W cs ma (m_r o_29 1 o_51)) H := hP
        have hD : va_D A (md_W cs ma (m_r o_29 1 o_51)) := hD
        generalize e_x_54 : (m_r o_29 1 o_51) = x_54 at hP hD hres
        have hres := (kbind_eq _ _).symm.trans hres
        refine lv_aload_n hx hb dX6_restore_54 rfl (lv_at hl 0 rfl) ?_
        refine lv_iconst (v := 0) hx hb dX6_restore_55 (by decide) ?_
        refine va_put (D := D) (ci := 6) (v := .int 0) (ty := .int) (C := RX6) (T := TX6) (N := 11) hx hb hts hinX6 tyX6 tyX6_ok nmX6 hown hK hP hD hS 0 rfl rfl 6 (by decide) lk_3 (fun _ h9 => h9) rfl (by decide +kernel) rfl rfl (Nat.le_of_ble_eq_true rfl) dX6_restore_56 (fun H locs hP hD hS => ?_)
        have hP : va_P D vwCl (md_W cs ma (m_s x_54 2 0)) H := hP
        have hD : va_D A (md_W cs ma (m_s x_54 2 0)) := hD
        refine lv_aload_n hx hb dX6_restore_59 rfl (lv_at hl 0 rfl) ?_
        refine va_get (D := D) (ci := 6) (v := .ref (ma 2)) (C := RX6) (T := TX6) (N := 11) hx hb hts hinX6 hown hK hP 0 rfl rfl 3 (by decide) lk_2 (fun _ h9 => h9) rfl dX6_restore_60 ?_
        refine lv_iconst (v := 5) hx hb dX6_restore_63 (by decide) ?_
        refine k_iald hx hb hK hP 2 0 (v := ((x_54.2 1) 5)) rfl rfl (k_inl rfl) rfl dX6_restore_64 ?_
        subst hres
        exact kI_ret hE hS hP hD rfl rfl (Nat.le_of_ble_eq_true rfl) (Nat.le_of_ble_eq_true rfl) dX6_restore_65
      · skip
        have c_32 : ¬ (r_29 = 0) := c_32
        rw [if_neg c_32] at hres
        refine lv_iconst (v := 0) hx hb dX6_restore_35 (by decide) ?_
        subst hres
        exact kI_ret hE hS hP hD rfl rfl (Nat.le_of_ble_eq_true rfl) (Nat.le_of_ble_eq_true rfl) dX6_restore_36
  · skip
    have c_8 : ((k_X6_in (vk.toInt64) 0 1) = 0) := c_8
    rw [if_pos c_8] at hres
    refine lv_iconst (v := 1) hx hb dX6_restore_11 (by decide) ?_
    refine lv_goto (tgt := 29) hx hb dX6_restore_12 (by decide) ?_
    have hP : va_P D vwCl ((md_W cs ma mv) ++ []) H := k_nP hP
    have hD : va_D A ((md_W cs ma mv) ++ []) := k_nD hD
    have hc_29 := c_X6_refused l D cs ma mv 1
    obtain ⟨r_29, o_29, e_29⟩ : ∃ r9 o9, (k_X6_refused mv 1) = (r9, o9) := ⟨_, _, rfl⟩
    rw [e_29] at hc_29 hres
    dsimp only at hc_29 hres
    refine kI_call (wc := (md_W cs ma mv)) (wr := []) (w1 := md_W cs ma o_29) (r := r_29) hE hP hD hS (k_rV (rest := []) (As := [.int 1]) hE rfl (hc_29 H.size) (cwV 1 hts gX6_restore_X6_refused rfl rfl rfl (by decide +kernel) ⟨Nat.le_of_ble_eq_true rfl, Nat.le_of_ble_eq_true rfl⟩) hP hD hS (ci := 6) (q0 := 0) rfl rfl rfl hl rfl (Nat.le_of_ble_eq_true rfl) ⟨Nat.le_of_ble_eq_true rfl, Nat.le_of_ble_eq_true rfl⟩ dX6_restore_29) (fun H locs hP hD hS => ?_)
    have hP := k_uP hP
    have hD := k_uD hD
    have hP : va_P D vwCl (md_W cs ma o_29) H := hP
    have hD : va_D A (md_W cs ma o_29) := hD
    refine lv_if_eq (tgt := 37) hx hb dX6_restore_32 (by decide) (fun c_32 => ?_) (fun c_32 => ?_)
    · skip
      have c_32 : (r_29 = 0) := c_32
      rw [if_pos c_32] at hres
      refine lv_aload_n hx hb dX6_restore_37 rfl (lv_at hl 0 rfl) ?_
      refine va_get (D := D) (ci := 6) (v := .ref (ma 5)) (C := RX6) (T := TX6) (N := 11) hx hb hts hinX6 hown hK hP 0 rfl rfl 7 (by decide) lk_1 (fun _ h9 => h9) rfl dX6_restore_38 ?_
      refine lv_sipush (v := 217) hx hb dX6_restore_41 (by decide) ?_
      refine lv_iload_n hx hb dX6_restore_44 rfl (lv_at hl 1 rfl) ?_
      refine lv_imul hx hb dX6_restore_45 ?_
      refine lv_aload_n hx hb dX6_restore_46 rfl (lv_at hl 0 rfl) ?_
      refine va_get (D := D) (ci := 6) (v := .ref (ma 2)) (C := RX6) (T := TX6) (N := 11) hx hb hts hinX6 hown hK hP 0 rfl rfl 3 (by decide) lk_2 (fun _ h9 => h9) rfl dX6_restore_47 ?_
      refine lv_iconst (v := 0) hx hb dX6_restore_50 (by decide) ?_
      have hP := hP.sub (ws' := (cp_W cs (ma 5) (ma 2) 434 217 (o_29.2 4) (o_29.2 1)) ++ (x_pick (md_W cs ma o_29) [0, 1, 3, 4, 6])) [5, 2, 0, 1, 3, 4, 6] rfl
      have hD := hD.sub (ws' := (cp_W cs (ma 5) (ma 2) 434 217 (o_29.2 4) (o_29.2 1)) ++ (x_pick (md_W cs ma o_29) [0, 1, 3, 4, 6])) [5, 2, 0, 1, 3, 4, 6] (by decide) rfl
      have hc_51 := c_X6_copyState l D cs (ma 5) (ma 2) 434 217 (o_29.2 4) (o_29.2 1) (217 * vk) 0 (by first | exact kp_m (in_n (A := 0) (B := 1) rfl rfl c_8) | exact absurd (rfd_n e_29 c_32) (by decide)) (cp_0 (by decide) (by decide))
      generalize e_51 : (k_X6_copyState (o_29.2 4) (o_29.2 1) (217 * vk) 0) = o_51 at hc_51 hres
      have hres := (kbind_eq _ _).symm.trans hres
      refine kV_call (wc := (cp_W cs (ma 5) (ma 2) 434 217 (o_29.2 4) (o_29.2 1))) (wr := (x_pick (md_W cs ma o_29) [0, 1, 3, 4, 6])) (w1 := fun _ => cp_W cs (ma 5) (ma 2) 434 217 (o_29.2 4) o_51) hE hP hD hS (k_rS (rest := []) (As := [.ref (ma 5), .int (217 * vk), .ref (ma 2), .int 0]) hE rfl (hc_51 H.size) (va_cwS 4 hts gX6_restore_X6_copyState rfl rfl rfl (by decide +kernel) ⟨Nat.le_of_ble_eq_true rfl, Nat.le_of_ble_eq_true rfl⟩) hP hD hS rfl hl rfl (Nat.le_of_ble_eq_true rfl) ⟨Nat.le_of_ble_eq_true rfl, Nat.le_of_ble_eq_true rfl⟩ dX6_restore_51) (fun _ H locs _ hP hD hS => ?_)
      have hP := hP.sub (ws' := md_W cs ma (m_r o_29 1 o_51)) [2, 3, 1, 4, 5, 0, 6] md_k52
      have hD := hD.sub (ws' := md_W cs ma (m_r o_29 1 o_51)) [2, 3, 1, 4, 5, 0, 6] (by decide) md_d52
      have hP : va_P D vwCl (md_W cs ma (m_r o_29 1 o_51)) H := hP
      have hD : va_D A (md_W cs ma (m_r o_29 1 o_51)) := hD
      generalize e_x_54 : (m_r o_29 1 o_51) = x_54 at hP hD hres
      have hres := (kbind_eq _ _).symm.trans hres
      refine lv_aload_n hx hb dX6_restore_54 rfl (lv_at hl 0 rfl) ?_
      refine lv_iconst (v := 0) hx hb dX6_restore_55 (by decide) ?_
      refine va_put (D := D) (ci := 6) (v := .int 0) (ty := .int) (C := RX6) (T := TX6) (N := 11) hx hb hts hinX6 tyX6 tyX6_ok nmX6 hown hK hP hD hS 0 rfl rfl 6 (by decide) lk_3 (fun _ h9 => h9) rfl (by decide +kernel) rfl rfl (Nat.le_of_ble_eq_true rfl) dX6_restore_56 (fun H locs hP hD hS => ?_)
      have hP : va_P D vwCl (md_W cs ma (m_s x_54 2 0)) H := hP
      have hD : va_D A (md_W cs ma (m_s x_54 2 0)) := hD
      refine lv_aload_n hx hb dX6_restore_59 rfl (lv_at hl 0 rfl) ?_
      refine va_get (D := D) (ci := 6) (v := .ref (ma 2)) (C := RX6) (T := TX6) (N := 11) hx hb hts hinX6 hown hK hP 0 rfl rfl 3 (by decide) lk_2 (fun _ h9 => h9) rfl dX6_restore_60 ?_
      refine lv_iconst (v := 5) hx hb dX6_restore_63 (by decide) ?_
      refine k_iald hx hb hK hP 2 0 (v := ((x_54.2 1) 5)) rfl rfl (k_inl rfl) rfl dX6_restore_64 ?_
      subst hres
      exact kI_ret hE hS hP hD rfl rfl (Nat.le_of_ble_eq_true rfl) (Nat.le_of_ble_eq_true rfl) dX6_restore_65
    · skip
      have c_32 : ¬ (r_29 = 0) := c_32
      rw [if_neg c_32] at hres
      refine lv_iconst (v := 0) hx hb dX6_restore_35 (by decide) ?_
      subst hres
      exact kI_ret hE hS hP hD rfl rfl (Nat.le_of_ble_eq_true rfl) (Nat.le_of_ble_eq_true rfl) dX6_restore_36
set_option maxHeartbeats 4000000 in
set_option maxRecDepth 100000 in
theorem c_X6_command (l : Launch) (D : va_G) (cs : Nat → ClassId) (ma : Nat → Nat) (mv : MV) (vc : Int32) (vk : Int32) (hI2 : SI (mv.2 2)) : kI l yX6_command wsX6_command { frames := 7, cells := 0, slots := 0, locals := 159 } 0 0 D cs [.ref (ma 0), .int vc, .int vk] (md_W cs ma mv) (k_X6_command mv vc vk).1 (md_W cs ma ((k_X6_command mv vc vk).2)) := by
  generalize hres : k_X6_command mv vc vk = res
  refine kI_of (cc := cX6_command) (maxL := 8) (ret := (some .boolean)) (by decide) rfl (Nat.le_of_ble_eq_true rfl) ?_
  intro p e s m below meth c A ls H locs hE hS hP hD hl
  obtain ⟨hx, hb, hr, hlocks, hml, hown, hts, hK, hA, hG, hnm⟩ := id hE
  have hown : s.vm.findClass RX6 = some m.cls := hown
  have hl : lv_has ls 8 [(0, .ref (ma 0)), (1, .int vc), (2, .int vk)] := hl
  have hinX6 : ∀ w ∈ wsX60, w ∈ wsX6_command := by decide +kernel
  have lk_0 := hts (.constantLong RX6 186 6) (by decide +kernel)
  have lk_1 := hts (.fieldLink RX6 16 "OrganPegsModel" "trial" "[I") (by decide +kernel)
  have lk_2 := hts (.constantLong RX6 191 99) (by decide +kernel)
  unfold k_X6_command at hres
  refine lv_iload_n hx hb dX6_command_0 rfl (lv_at hl 2 rfl) ?_
  refine lv_sipush (v := 1000) hx hb dX6_command_1 (by decide) ?_
  refine lv_idiv hx hb dX6_command_4 (by decide) ?_
  refine lv_istore_n (lv' := [(3, .int (vk / 1000)), (0, .ref (ma 0)), (1, .int vc), (2, .int vk)]) hx hb dX6_command_5 rfl hl (by decide) rfl (fun ls hl => ?_)
  refine lv_iload_n hx hb dX6_command_6 rfl (lv_at hl 3 rfl) ?_
  refine lv_bipush (v := 100) hx hb dX6_command_7 (by decide) ?_
  refine lv_idiv hx hb dX6_command_9 (by decide) ?_
  refine lv_bipush (v := 10) hx hb dX6_command_10 (by decide) ?_
  refine lv_irem hx hb dX6_command_12 (by decide) ?_
  refine lv_istore (lv' := [(4, .int ((vk / 100) - (vk / 100) / 10 * 10)), (3, .int (vk / 1000)), (0, .ref (ma 0)), (1, .int vc), (2, .int vk)]) hx hb dX6_command_13 hl (by decide) rfl (fun ls hl => ?_)
  refine lv_iload_n hx hb dX6_command_15 rfl (lv_at hl 4 rfl) ?_
  refine lv_bipush (v := 10) hx hb dX6_command_16 (by decide) ?_
  refine lv_idiv hx hb dX6_command_18 (by decide) ?_
  refine lv_bipush (v := 100) hx hb dX6_command_19 (by decide) ?_
  refine lv_irem hx hb dX6_command_21 (by decide) ?_
  refine lv_istore (lv' := [(5, .int ((vk / 10) - (vk / 10) / 100 * 100)), (4, .int ((vk / 100) - (vk / 100) / 10 * 10)), (3, .int (vk / 1000)), (0, .ref (ma 0)), (1, .int vc), (2, .int vk)]) hx hb dX6_command_22 hl (by decide) rfl (fun ls hl => ?_)
  refine lv_iload_n hx hb dX6_command_24 rfl (lv_at hl 5 rfl) ?_
  refine lv_bipush (v := 10) hx hb dX6_command_25 (by decide) ?_
  refine lv_irem hx hb dX6_command_27 (by decide) ?_
  refine lv_istore (lv' := [(6, .int (vk - vk / 10 * 10)), (5, .int ((vk / 10) - (vk / 10) / 100 * 100)), (4, .int ((vk / 100) - (vk / 100) / 10 * 10)), (3, .int (vk / 1000)), (0, .ref (ma 0)), (1, .int vc), (2, .int vk)]) hx hb dX6_command_28 hl (by decide) rfl (fun ls hl => ?_)
  refine lv_iload_n hx hb dX6_command_30 rfl (lv_at hl 6 rfl) ?_
  refine lv_bipush (v := 100) hx hb dX6_command_31 (by decide) ?_
  refine lv_irem hx hb dX6_command_33 (by decide) ?_
  refine lv_istore (lv' := [(7, .int (vk - vk / 100 * 100)), (6, .int (vk - vk / 10 * 10)), (5, .int ((vk / 10) - (vk / 10) / 100 * 100)), (4, .int ((vk / 100) - (vk / 100) / 10 * 10)), (3, .int (vk / 1000)), (0, .ref (ma 0)), (1, .int vc), (2, .int vk)]) hx hb dX6_command_34 hl (by decide) rfl (fun ls hl => ?_)
  refine lv_iload_n hx hb dX6_command_36 rfl (lv_at hl 6 rfl) ?_
  by_cases c_37_1 : vc = 1
  · skip
    rw [if_pos c_37_1] at hres
    refine lv_tableIn (tgt := 88) (off := 51) hx hb dX6_command_37 (by rw [c_37_1]; decide) (by rw [c_37_1]; decide) (by rw [c_37_1]; rfl) (by decide) ?_
    refine lv_iload_n hx hb dX6_command_88 rfl (lv_at hl 4 rfl) ?_
    have hP : va_P D vwCl ([] ++ (md_W cs ma mv)) H := hP
    have hD : va_D A ([] ++ (md_W cs ma mv)) := hD
    have hc_89 := c_X6_isPipe l D cs (vk / 1000)
    refine kI_call (wc := []) (wr := (md_W cs ma mv)) (w1 := []) (r := (k_X6_isPipe (vk / 1000))) hE hP hD hS (k_rS (rest := []) (As := [.int (vk / 1000)]) hE rfl (hc_89 H.size) (va_cwS 1 hts gX6_command_X6_isPipe rfl rfl rfl (by decide +kernel) ⟨Nat.le_of_ble_eq_true rfl, Nat.le_of_ble_eq_true rfl⟩) hP hD hS rfl hl rfl (Nat.le_of_ble_eq_true rfl) ⟨Nat.le_of_ble_eq_true rfl, Nat.le_of_ble_eq_true rfl⟩ dX6_command_89) (fun H locs hP hD hS => ?_)
    have hP : va_P D vwCl (md_W cs ma mv) H := hP
    have hD : va_D A (md_W cs ma mv) := hD
    refine lv_if_eq (tgt := 147) hx hb dX6_command_92 (by decide) (fun c_92 => ?_) (fun c_92 => ?_)
    · skip
      have c_92 : ((k_X6_isPipe (vk / 1000)) = 0) := c_92
      rw [if_pos c_92] at hres
      refine lv_iconst (v := 0) hx hb dX6_command_147 (by decide) ?_
      subst hres
      exact kI_ret hE hS hP hD rfl rfl (Nat.le_of_ble_eq_true rfl) (Nat.le_of_ble_eq_true rfl) dX6_command_148
    · skip
      have c_92 : ¬ ((k_X6_isPipe (vk / 1000)) = 0) := c_92
      rw [if_neg c_92] at hres
      refine lv_iload hx hb dX6_command_95 (lv_at hl 2 rfl) ?_
      have hP : va_P D vwCl ([] ++ (md_W cs ma mv)) H := hP
      have hD : va_D A ([] ++ (md_W cs ma mv)) := hD
      have hc_97 := c_X6_isBar l D cs ((vk / 10) - (vk / 10) / 100 * 100)
      refine kI_call (wc := []) (wr := (md_W cs ma mv)) (w1 := []) (r := (k_X6_isBar ((vk / 10) - (vk / 10) / 100 * 100))) hE hP hD hS (k_rS (rest := []) (As := [.int ((vk / 10) - (vk / 10) / 100 * 100)]) hE rfl (hc_97 H.size) (va_cwS 1 hts gX6_command_X6_isBar rfl rfl rfl (by decide +kernel) ⟨Nat.le_of_ble_eq_true rfl, Nat.le_of_ble_eq_true rfl⟩) hP hD hS rfl hl rfl (Nat.le_of_ble_eq_true rfl) ⟨Nat.le_of_ble_eq_true rfl, Nat.le_of_ble_eq_true rfl⟩ dX6_command_97) (fun H locs hP hD hS => ?_)
      have hP : va_P D vwCl (md_W cs ma mv) H := hP
      have hD : va_D A (md_W cs ma mv) := hD
      refine lv_if_eq (tgt := 147) hx hb dX6_command_100 (by decide) (fun c_100 => ?_) (fun c_100 => ?_)
      · skip
        have c_100 : ((k_X6_isBar ((vk / 10) - (vk / 10) / 100 * 100)) = 0) := c_100
        rw [if_pos c_100] at hres
        refine lv_iconst (v := 0) hx hb dX6_command_147 (by decide) ?_
        subst hres
        exact kI_ret hE hS hP hD rfl rfl (Nat.le_of_ble_eq_true rfl) (Nat.le_of_ble_eq_true rfl) dX6_command_148
      · skip
        have c_100 : ¬ ((k_X6_isBar ((vk / 10) - (vk / 10) / 100 * 100)) = 0) := c_100
        rw [if_neg c_100] at hres
        refine lv_iload hx hb dX6_command_103 (lv_at hl 1 rfl) ?_
        refine lv_i2l hx hb dX6_command_105 rfl ?_
        refine lv_lconst (v := 1) hx hb dX6_command_106 (by decide) ?_
        refine lv_ldc2 (v := 6) hx hb hown lk_0 dX6_command_107 ?_
        have hP : va_P D vwCl ([] ++ (md_W cs ma mv)) H := hP
        have hD : va_D A ([] ++ (md_W cs ma mv)) := hD
        have hc_110 := c_X6_in l D cs ((vk - vk / 10 * 10).toInt64) 1 6
        refine kI_call (wc := []) (wr := (md_W cs ma mv)) (w1 := []) (r := (k_X6_in ((vk - vk / 10 * 10).toInt64) 1 6)) hE hP hD hS (k_rS (rest := []) (As := [.long ((vk - vk / 10 * 10).toInt64), .long 1, .long 6]) hE rfl (hc_110 H.size) (va_cwS 3 hts gX6_command_X6_in rfl rfl rfl (by decide +kernel) ⟨Nat.le_of_ble_eq_true rfl, Nat.le_of_ble_eq_true rfl⟩) hP hD hS rfl hl rfl (Nat.le_of_ble_eq_true rfl) ⟨Nat.le_of_ble_eq_true rfl, Nat.le_of_ble_eq_true rfl⟩ dX6_command_110) (fun H locs hP hD hS => ?_)
        have hP : va_P D vwCl (md_W cs ma mv) H := hP
        have hD : va_D A (md_W cs ma mv) := hD
        refine lv_if_eq (tgt := 147) hx hb dX6_command_113 (by decide) (fun c_113 => ?_) (fun c_113 => ?_)
        · skip
          have c_113 : ((k_X6_in ((vk - vk / 10 * 10).toInt64) 1 6) = 0) := c_113
          rw [if_pos c_113] at hres
          refine lv_iconst (v := 0) hx hb dX6_command_147 (by decide) ?_
          subst hres
          exact kI_ret hE hS hP hD rfl rfl (Nat.le_of_ble_eq_true rfl) (Nat.le_of_ble_eq_true rfl) dX6_command_148
        · skip
          have c_113 : ¬ ((k_X6_in ((vk - vk / 10 * 10).toInt64) 1 6) = 0) := c_113
          rw [if_neg c_113] at hres
          refine lv_aload_n hx hb dX6_command_116 rfl (lv_at hl 5 rfl) ?_
          refine va_get (D := D) (ci := 6) (v := .ref (ma 3)) (C := RX6) (T := TX6) (N := 11) hx hb hts hinX6 hown hK hP 0 rfl rfl 4 (by decide) lk_1 (fun _ h9 => h9) rfl dX6_command_117 ?_
          refine lv_iconst (v := 1) hx hb dX6_command_120 (by decide) ?_
          refine k_iald hx hb hK hP 3 0 (v := ((mv.2 2) 1)) rfl rfl (k_inl rfl) rfl dX6_command_121 ?_
          refine lv_bipush (v := 12) hx hb dX6_command_122 (by decide) ?_
          refine lv_icmp_ge (tgt := 147) hx hb dX6_command_124 (by decide) (fun c_124 => ?_) (fun c_124 => ?_)
          · skip
            have c_124 : (12 ≤ ((mv.2 2) 1)) := c_124
            rw [if_pos c_124] at hres
            refine lv_iconst (v := 0) hx hb dX6_command_147 (by decide) ?_
            subst hres
            exact kI_ret hE hS hP hD rfl rfl (Nat.le_of_ble_eq_true rfl) (Nat.le_of_ble_eq_true rfl) dX6_command_148
          · skip
            have c_124 : ¬ (12 ≤ ((mv.2 2) 1)) := c_124
            rw [if_neg c_124] at hres
            refine lv_aload_n hx hb dX6_command_127 rfl (lv_at hl 5 rfl) ?_
            refine va_get (D := D) (ci := 6) (v := .ref (ma 3)) (C := RX6) (T := TX6) (N := 11) hx hb hts hinX6 hown hK hP 0 rfl rfl 4 (by decide) lk_1 (fun _ h9 => h9) rfl dX6_command_128 ?_
            refine lv_iconst (v := 1) hx hb dX6_command_131 (by decide) ?_
            refine lv_iload_n hx hb dX6_command_132 rfl (lv_at hl 4 rfl) ?_
            refine lv_iload hx hb dX6_command_133 (lv_at hl 2 rfl) ?_
            refine lv_iload hx hb dX6_command_135 (lv_at hl 1 rfl) ?_
            have hP := hP.sub (ws' := (st_W cs (ma 3) (mv.2 2)) ++ (x_pick (md_W cs ma mv) [0, 1, 2, 4, 5, 6])) [3, 0, 1, 2, 4, 5, 6] rfl
            have hD := hD.sub (ws' := (st_W cs (ma 3) (mv.2 2)) ++ (x_pick (md_W cs ma mv) [0, 1, 2, 4, 5, 6])) [3, 0, 1, 2, 4, 5, 6] (by decide) rfl
            have hc_137 := c_X6_orderOn l D cs (ma 3) (mv.2 2) 1 (vk / 1000) ((vk / 10) - (vk / 10) / 100 * 100) (vk - vk / 10 * 10) hI2 (lt12 c_124)
            obtain ⟨r_137, o_137, e_137⟩ : ∃ r9 o9, (k_X6_orderOn (mv.2 2) 1 (vk / 1000) ((vk / 10) - (vk / 10) / 100 * 100) (vk - vk / 10 * 10)) = (r9, o9) := ⟨_, _, rfl⟩
            rw [e_137] at hc_137 hres
            dsimp only at hc_137 hres
            refine kI_call (wc := (st_W cs (ma 3) (mv.2 2))) (wr := (x_pick (md_W cs ma mv) [0, 1, 2, 4, 5, 6])) (w1 := st_W cs (ma 3) o_137) (r := r_137) hE hP hD hS (k_rS (rest := []) (As := [.ref (ma 3), .int 1, .int (vk / 1000), .int ((vk / 10) - (vk / 10) / 100 * 100), .int (vk - vk / 10 * 10)]) hE rfl (hc_137 H.size) (va_cwS 5 hts gX6_command_X6_orderOn rfl rfl rfl (by decide +kernel) ⟨Nat.le_of_ble_eq_true rfl, Nat.le_of_ble_eq_true rfl⟩) hP hD hS rfl hl rfl (Nat.le_of_ble_eq_true rfl) ⟨Nat.le_of_ble_eq_true rfl, Nat.le_of_ble_eq_true rfl⟩ dX6_command_137) (fun H locs hP hD hS => ?_)
            have hP := hP.sub (ws' := md_W cs ma (m_r mv 2 o_137)) [1, 2, 3, 0, 4, 5, 6] rfl
            have hD := hD.sub (ws' := md_W cs ma (m_r mv 2 o_137)) [1, 2, 3, 0, 4, 5, 6] (by decide) rfl
            have hP : va_P D vwCl (md_W cs ma (m_r mv 2 o_137)) H := hP
            have hD : va_D A (md_W cs ma (m_r mv 2 o_137)) := hD
            refine lv_if_lt (tgt := 147) hx hb dX6_command_140 (by decide) (fun c_140 => ?_) (fun c_140 => ?_)
            · skip
              have c_140 : (r_137 < 0) := c_140
              rw [if_pos c_140] at hres
              refine lv_iconst (v := 0) hx hb dX6_command_147 (by decide) ?_
              subst hres
              exact kI_ret hE hS hP hD rfl rfl (Nat.le_of_ble_eq_true rfl) (Nat.le_of_ble_eq_true rfl) dX6_command_148
            · skip
              have c_140 : ¬ (r_137 < 0) := c_140
              rw [if_neg c_140] at hres
              refine lv_iconst (v := 1) hx hb dX6_command_143 (by decide) ?_
              refine lv_goto (tgt := 148) hx hb dX6_command_144 (by decide) ?_
              subst hres
              exact kI_ret hE hS hP hD rfl rfl (Nat.le_of_ble_eq_true rfl) (Nat.le_of_ble_eq_true rfl) dX6_command_148
  · skip
    rw [if_neg c_37_1] at hres
    by_cases c_37_2 : vc = 2
    · skip
      rw [if_pos c_37_2] at hres
      refine lv_tableIn (tgt := 149) (off := 112) hx hb dX6_command_37 (by rw [c_37_2]; decide) (by rw [c_37_2]; decide) (by rw [c_37_2]; rfl) (by decide) ?_
      refine lv_iload hx hb dX6_command_149 (lv_at hl 1 rfl) ?_
      refine lv_if_ne (tgt := 199) hx hb dX6_command_151 (by decide) (fun c_151 => ?_) (fun c_151 => ?_)
      · skip
        have c_151 : ¬ ((vk - vk / 10 * 10) = 0) := c_151
        rw [if_neg c_151] at hres
        refine lv_iconst (v := 0) hx hb dX6_command_199 (by decide) ?_
        subst hres
        exact kI_ret hE hS hP hD rfl rfl (Nat.le_of_ble_eq_true rfl) (Nat.le_of_ble_eq_true rfl) dX6_command_200
      · skip
        have c_151 : ((vk - vk / 10 * 10) = 0) := c_151
        rw [if_pos c_151] at hres
        refine lv_iload_n hx hb dX6_command_154 rfl (lv_at hl 4 rfl) ?_
        have hP : va_P D vwCl ([] ++ (md_W cs ma mv)) H := hP
        have hD : va_D A ([] ++ (md_W cs ma mv)) := hD
        have hc_155 := c_X6_isPipe l D cs (vk / 1000)
        refine kI_call (wc := []) (wr := (md_W cs ma mv)) (w1 := []) (r := (k_X6_isPipe (vk / 1000))) hE hP hD hS (k_rS (rest := []) (As := [.int (vk / 1000)]) hE rfl (hc_155 H.size) (va_cwS 1 hts gX6_command_X6_isPipe rfl rfl rfl (by decide +kernel) ⟨Nat.le_of_ble_eq_true rfl, Nat.le_of_ble_eq_true rfl⟩) hP hD hS rfl hl rfl (Nat.le_of_ble_eq_true rfl) ⟨Nat.le_of_ble_eq_true rfl, Nat.le_of_ble_eq_true rfl⟩ dX6_command_155) (fun H locs hP hD hS => ?_)
        have hP : va_P D vwCl (md_W cs ma mv) H := hP
        have hD : va_D A (md_W cs ma mv) := hD
        refine lv_if_eq (tgt := 199) hx hb dX6_command_158 (by decide) (fun c_158 => ?_) (fun c_158 => ?_)
        · skip
          have c_158 : ((k_X6_isPipe (vk / 1000)) = 0) := c_158
          rw [if_pos c_158] at hres
          refine lv_iconst (v := 0) hx hb dX6_command_199 (by decide) ?_
          subst hres
          exact kI_ret hE hS hP hD rfl rfl (Nat.le_of_ble_eq_true rfl) (Nat.le_of_ble_eq_true rfl) dX6_command_200
        · skip
          have c_158 : ¬ ((k_X6_isPipe (vk / 1000)) = 0) := c_158
          rw [if_neg c_158] at hres
          refine lv_iload hx hb dX6_command_161 (lv_at hl 2 rfl) ?_
          have hP : va_P D vwCl ([] ++ (md_W cs ma mv)) H := hP
          have hD : va_D A ([] ++ (md_W cs ma mv)) := hD
          have hc_163 := c_X6_isBar l D cs ((vk / 10) - (vk / 10) / 100 * 100)
          refine kI_call (wc := []) (wr := (md_W cs ma mv)) (w1 := []) (r := (k_X6_isBar ((vk / 10) - (vk / 10) / 100 * 100))) hE hP hD hS (k_rS (rest := []) (As := [.int ((vk / 10) - (vk / 10) / 100 * 100)]) hE rfl (hc_163 H.size) (va_cwS 1 hts gX6_command_X6_isBar rfl rfl rfl (by decide +kernel) ⟨Nat.le_of_ble_eq_true rfl, Nat.le_of_ble_eq_true rfl⟩) hP hD hS rfl hl rfl (Nat.le_of_ble_eq_true rfl) ⟨Nat.le_of_ble_eq_true rfl, Nat.le_of_ble_eq_true rfl⟩ dX6_command_163) (fun H locs hP hD hS => ?_)
          have hP : va_P D vwCl (md_W cs ma mv) H := hP
          have hD : va_D A (md_W cs ma mv) := hD
          refine lv_if_eq (tgt := 199) hx hb dX6_command_166 (by decide) (fun c_166 => ?_) (fun c_166 => ?_)
          · skip
            have c_166 : ((k_X6_isBar ((vk / 10) - (vk / 10) / 100 * 100)) = 0) := c_166
            rw [if_pos c_166] at hres
            refine lv_iconst (v := 0) hx hb dX6_command_199 (by decide) ?_
            subst hres
            exact kI_ret hE hS hP hD rfl rfl (Nat.le_of_ble_eq_true rfl) (Nat.le_of_ble_eq_true rfl) dX6_command_200
          · skip
            have c_166 : ¬ ((k_X6_isBar ((vk / 10) - (vk / 10) / 100 * 100)) = 0) := c_166
            rw [if_neg c_166] at hres
            refine lv_aload_n hx hb dX6_command_169 rfl (lv_at hl 5 rfl) ?_
            refine va_get (D := D) (ci := 6) (v := .ref (ma 3)) (C := RX6) (T := TX6) (N := 11) hx hb hts hinX6 hown hK hP 0 rfl rfl 4 (by decide) lk_1 (fun _ h9 => h9) rfl dX6_command_170 ?_
            refine lv_iconst (v := 1) hx hb dX6_command_173 (by decide) ?_
            refine k_iald hx hb hK hP 3 0 (v := ((mv.2 2) 1)) rfl rfl (k_inl rfl) rfl dX6_command_174 ?_
            refine lv_bipush (v := 12) hx hb dX6_command_175 (by decide) ?_
            refine lv_icmp_ge (tgt := 199) hx hb dX6_command_177 (by decide) (fun c_177 => ?_) (fun c_177 => ?_)
            · skip
              have c_177 : (12 ≤ ((mv.2 2) 1)) := c_177
              rw [if_pos c_177] at hres
              refine lv_iconst (v := 0) hx hb dX6_command_199 (by decide) ?_
              subst hres
              exact kI_ret hE hS hP hD rfl rfl (Nat.le_of_ble_eq_true rfl) (Nat.le_of_ble_eq_true rfl) dX6_command_200
            · skip
              have c_177 : ¬ (12 ≤ ((mv.2 2) 1)) := c_177
              rw [if_neg c_177] at hres
              refine lv_aload_n hx hb dX6_command_180 rfl (lv_at hl 5 rfl) ?_
              refine va_get (D := D) (ci := 6) (v := .ref (ma 3)) (C := RX6) (T := TX6) (N := 11) hx hb hts hinX6 hown hK hP 0 rfl rfl 4 (by decide) lk_1 (fun _ h9 => h9) rfl dX6_command_181 ?_
              refine lv_iconst (v := 0) hx hb dX6_command_184 (by decide) ?_
              refine lv_iload_n hx hb dX6_command_185 rfl (lv_at hl 4 rfl) ?_
              refine lv_iload hx hb dX6_command_186 (lv_at hl 2 rfl) ?_
              refine lv_iconst (v := 0) hx hb dX6_command_188 (by decide) ?_
              have hP := hP.sub (ws' := (st_W cs (ma 3) (mv.2 2)) ++ (x_pick (md_W cs ma mv) [0, 1, 2, 4, 5, 6])) [3, 0, 1, 2, 4, 5, 6] rfl
              have hD := hD.sub (ws' := (st_W cs (ma 3) (mv.2 2)) ++ (x_pick (md_W cs ma mv) [0, 1, 2, 4, 5, 6])) [3, 0, 1, 2, 4, 5, 6] (by decide) rfl
              have hc_189 := c_X6_orderOn l D cs (ma 3) (mv.2 2) 0 (vk / 1000) ((vk / 10) - (vk / 10) / 100 * 100) 0 hI2 (lt12 c_177)
              obtain ⟨r_189, o_189, e_189⟩ : ∃ r9 o9, (k_X6_orderOn (mv.2 2) 0 (vk / 1000) ((vk / 10) - (vk / 10) / 100 * 100) 0) = (r9, o9) := ⟨_, _, rfl⟩
              rw [e_189] at hc_189 hres
              dsimp only at hc_189 hres
              refine kI_call (wc := (st_W cs (ma 3) (mv.2 2))) (wr := (x_pick (md_W cs ma mv) [0, 1, 2, 4, 5, 6])) (w1 := st_W cs (ma 3) o_189) (r := r_189) hE hP hD hS (k_rS (rest := []) (As := [.ref (ma 3), .int 0, .int (vk / 1000), .int ((vk / 10) - (vk / 10) / 100 * 100), .int 0]) hE rfl (hc_189 H.size) (va_cwS 5 hts gX6_command_X6_orderOn rfl rfl rfl (by decide +kernel) ⟨Nat.le_of_ble_eq_true rfl, Nat.le_of_ble_eq_true rfl⟩) hP hD hS rfl hl rfl (Nat.le_of_ble_eq_true rfl) ⟨Nat.le_of_ble_eq_true rfl, Nat.le_of_ble_eq_true rfl⟩ dX6_command_189) (fun H locs hP hD hS => ?_)
              have hP := hP.sub (ws' := md_W cs ma (m_r mv 2 o_189)) [1, 2, 3, 0, 4, 5, 6] rfl
              have hD := hD.sub (ws' := md_W cs ma (m_r mv 2 o_189)) [1, 2, 3, 0, 4, 5, 6] (by decide) rfl
              have hP : va_P D vwCl (md_W cs ma (m_r mv 2 o_189)) H := hP
              have hD : va_D A (md_W cs ma (m_r mv 2 o_189)) := hD
              refine lv_if_lt (tgt := 199) hx hb dX6_command_192 (by decide) (fun c_192 => ?_) (fun c_192 => ?_)
              · skip
                have c_192 : (r_189 < 0) := c_192
                rw [if_pos c_192] at hres
                refine lv_iconst (v := 0) hx hb dX6_command_199 (by decide) ?_
                subst hres
                exact kI_ret hE hS hP hD rfl rfl (Nat.le_of_ble_eq_true rfl) (Nat.le_of_ble_eq_true rfl) dX6_command_200
              · skip
                have c_192 : ¬ (r_189 < 0) := c_192
                rw [if_neg c_192] at hres
                refine lv_iconst (v := 1) hx hb dX6_command_195 (by decide) ?_
                refine lv_goto (tgt := 200) hx hb dX6_command_196 (by decide) ?_
                subst hres
                exact kI_ret hE hS hP hD rfl rfl (Nat.le_of_ble_eq_true rfl) (Nat.le_of_ble_eq_true rfl) dX6_command_200
    · skip
      rw [if_neg c_37_2] at hres
      by_cases c_37_3 : vc = 3
      · skip
        rw [if_pos c_37_3] at hres
        refine lv_tableIn (tgt := 201) (off := 164) hx hb dX6_command_37 (by rw [c_37_3]; decide) (by rw [c_37_3]; decide) (by rw [c_37_3]; rfl) (by decide) ?_
        refine lv_iload_n hx hb dX6_command_201 rfl (lv_at hl 7 rfl) ?_
        refine lv_i2l hx hb dX6_command_202 rfl ?_
        refine lv_lconst (v := 1) hx hb dX6_command_203 (by decide) ?_
        refine lv_ldc2 (v := 99) hx hb hown lk_2 dX6_command_204 ?_
        have hP : va_P D vwCl ([] ++ (md_W cs ma mv)) H := hP
        have hD : va_D A ([] ++ (md_W cs ma mv)) := hD
        have hc_207 := c_X6_in l D cs (vk.toInt64) 1 99
        refine kI_call (wc := []) (wr := (md_W cs ma mv)) (w1 := []) (r := (k_X6_in (vk.toInt64) 1 99)) hE hP hD hS (k_rS (rest := []) (As := [.long (vk.toInt64), .long 1, .long 99]) hE rfl (hc_207 H.size) (va_cwS 3 hts gX6_command_X6_in rfl rfl rfl (by decide +kernel) ⟨Nat.le_of_ble_eq_true rfl, Nat.le_of_ble_eq_true rfl⟩) hP hD hS rfl hl rfl (Nat.le_of_ble_eq_true rfl) ⟨Nat.le_of_ble_eq_true rfl, Nat.le_of_ble_eq_true rfl⟩ dX6_command_207) (fun H locs hP hD hS => ?_)
        have hP : va_P D vwCl (md_W cs ma mv) H := hP
        have hD : va_D A (md_W cs ma mv) := hD
        refine lv_if_eq (tgt := 228) hx hb dX6_command_210 (by decide) (fun c_210 => ?_) (fun c_210 => ?_)
        · skip
          have c_210 : ((k_X6_in (vk.toInt64) 1 99) = 0) := c_210
          rw [if_pos c_210] at hres
          refine lv_iconst (v := 0) hx hb dX6_command_228 (by decide) ?_
          subst hres
          exact kI_ret hE hS hP hD rfl rfl (Nat.le_of_ble_eq_true rfl) (Nat.le_of_ble_eq_true rfl) dX6_command_229
        · skip
          have c_210 : ¬ ((k_X6_in (vk.toInt64) 1 99) = 0) := c_210
          rw [if_neg c_210] at hres
          refine lv_aload_n hx hb dX6_command_213 rfl (lv_at hl 5 rfl) ?_
          refine va_get (D := D) (ci := 6) (v := .ref (ma 3)) (C := RX6) (T := TX6) (N := 11) hx hb hts hinX6 hown hK hP 0 rfl rfl 4 (by decide) lk_1 (fun _ h9 => h9) rfl dX6_command_214 ?_
          refine lv_iload_n hx hb dX6_command_217 rfl (lv_at hl 7 rfl) ?_
          have hP := hP.sub (ws' := (st_W cs (ma 3) (mv.2 2)) ++ (x_pick (md_W cs ma mv) [0, 1, 2, 4, 5, 6])) [3, 0, 1, 2, 4, 5, 6] rfl
          have hD := hD.sub (ws' := (st_W cs (ma 3) (mv.2 2)) ++ (x_pick (md_W cs ma mv) [0, 1, 2, 4, 5, 6])) [3, 0, 1, 2, 4, 5, 6] (by decide) rfl
          have hc_218 := c_X6_ticksOn l D cs (ma 3) (mv.2 2) vk hI2 (in_n (A := 1) (B := 99) rfl rfl c_210).2
          obtain ⟨r_218, o_218, e_218⟩ : ∃ r9 o9, (k_X6_ticksOn (mv.2 2) vk) = (r9, o9) := ⟨_, _, rfl⟩
          rw [e_218] at hc_218 hres
          dsimp only at hc_218 hres
          refine kI_call (wc := (st_W cs (ma 3) (mv.2 2))) (wr := (x_pick (md_W cs ma mv) [0, 1, 2, 4, 5, 6])) (w1 := st_W cs (ma 3) o_218) (r := r_218) hE hP hD hS (k_rS (rest := []) (As := [.ref (ma 3), .int vk]) hE rfl (hc_218 H.size) (va_cwS 2 hts gX6_command_X6_ticksOn rfl rfl rfl (by decide +kernel) ⟨Nat.le_of_ble_eq_true rfl, Nat.le_of_ble_eq_true rfl⟩) hP hD hS rfl hl rfl (Nat.le_of_ble_eq_true rfl) ⟨Nat.le_of_ble_eq_true rfl, Nat.le_of_ble_eq_true rfl⟩ dX6_command_218) (fun H locs hP hD hS => ?_)
          have hP := hP.sub (ws' := md_W cs ma (m_r mv 2 o_218)) [1, 2, 3, 0, 4, 5, 6] rfl
          have hD := hD.sub (ws' := md_W cs ma (m_r mv 2 o_218)) [1, 2, 3, 0, 4, 5, 6] (by decide) rfl
          have hP : va_P D vwCl (md_W cs ma (m_r mv 2 o_218)) H := hP
          have hD : va_D A (md_W cs ma (m_r mv 2 o_218)) := hD
          refine lv_if_lt (tgt := 228) hx hb dX6_command_221 (by decide) (fun c_221 => ?_) (fun c_221 => ?_)
          · skip
            have c_221 : (r_218 < 0) := c_221
            rw [if_pos c_221] at hres
            refine lv_iconst (v := 0) hx hb dX6_command_228 (by decide) ?_
            subst hres
            exact kI_ret hE hS hP hD rfl rfl (Nat.le_of_ble_eq_true rfl) (Nat.le_of_ble_eq_true rfl) dX6_command_229
          · skip
            have c_221 : ¬ (r_218 < 0) := c_221
            rw [if_neg c_221] at hres
            refine lv_iconst (v := 1) hx hb dX6_command_224 (by decide) ?_
            refine lv_goto (tgt := 229) hx hb dX6_command_225 (by decide) ?_
            subst hres
            exact kI_ret hE hS hP hD rfl rfl (Nat.le_of_ble_eq_true rfl) (Nat.le_of_ble_eq_true rfl) dX6_command_229
      · skip
        rw [if_neg c_37_3] at hres
        by_cases c_37_4 : vc = 4
        · skip
          rw [if_pos c_37_4] at hres
          refine lv_tableIn (tgt := 230) (off := 193) hx hb dX6_command_37 (by rw [c_37_4]; decide) (by rw [c_37_4]; decide) (by rw [c_37_4]; rfl) (by decide) ?_
          refine lv_iload hx hb dX6_command_230 (lv_at hl 3 rfl) ?_
          refine lv_if_ne (tgt := 261) hx hb dX6_command_232 (by decide) (fun c_232 => ?_) (fun c_232 => ?_)
          · skip
            have c_232 : ¬ (((vk / 100) - (vk / 100) / 10 * 10) = 0) := c_232
            rw [if_neg c_232] at hres
            refine lv_iconst (v := 0) hx hb dX6_command_261 (by decide) ?_
            subst hres
            exact kI_ret hE hS hP hD rfl rfl (Nat.le_of_ble_eq_true rfl) (Nat.le_of_ble_eq_true rfl) dX6_command_262
          · skip
            have c_232 : (((vk / 100) - (vk / 100) / 10 * 10) = 0) := c_232
            rw [if_pos c_232] at hres
            refine lv_iload_n hx hb dX6_command_235 rfl (lv_at hl 4 rfl) ?_
            refine lv_iload hx hb dX6_command_236 (lv_at hl 0 rfl) ?_
            have hP : va_P D vwCl ([] ++ (md_W cs ma mv)) H := hP
            have hD : va_D A ([] ++ (md_W cs ma mv)) := hD
            have hc_238 := c_X6_isSetting l D cs (vk / 1000) (vk - vk / 100 * 100)
            refine kI_call (wc := []) (wr := (md_W cs ma mv)) (w1 := []) (r := (k_X6_isSetting (vk / 1000) (vk - vk / 100 * 100))) hE hP hD hS (k_rS (rest := []) (As := [.int (vk / 1000), .int (vk - vk / 100 * 100)]) hE rfl (hc_238 H.size) (va_cwS 2 hts gX6_command_X6_isSetting rfl rfl rfl (by decide +kernel) ⟨Nat.le_of_ble_eq_true rfl, Nat.le_of_ble_eq_true rfl⟩) hP hD hS rfl hl rfl (Nat.le_of_ble_eq_true rfl) ⟨Nat.le_of_ble_eq_true rfl, Nat.le_of_ble_eq_true rfl⟩ dX6_command_238) (fun H locs hP hD hS => ?_)
            have hP : va_P D vwCl (md_W cs ma mv) H := hP
            have hD : va_D A (md_W cs ma mv) := hD
            refine lv_if_eq (tgt := 261) hx hb dX6_command_241 (by decide) (fun c_241 => ?_) (fun c_241 => ?_)
            · skip
              have c_241 : ((k_X6_isSetting (vk / 1000) (vk - vk / 100 * 100)) = 0) := c_241
              rw [if_pos c_241] at hres
              refine lv_iconst (v := 0) hx hb dX6_command_261 (by decide) ?_
              subst hres
              exact kI_ret hE hS hP hD rfl rfl (Nat.le_of_ble_eq_true rfl) (Nat.le_of_ble_eq_true rfl) dX6_command_262
            · skip
              have c_241 : ¬ ((k_X6_isSetting (vk / 1000) (vk - vk / 100 * 100)) = 0) := c_241
              rw [if_neg c_241] at hres
              refine lv_aload_n hx hb dX6_command_244 rfl (lv_at hl 5 rfl) ?_
              refine va_get (D := D) (ci := 6) (v := .ref (ma 3)) (C := RX6) (T := TX6) (N := 11) hx hb hts hinX6 hown hK hP 0 rfl rfl 4 (by decide) lk_1 (fun _ h9 => h9) rfl dX6_command_245 ?_
              refine lv_iload_n hx hb dX6_command_248 rfl (lv_at hl 4 rfl) ?_
              refine lv_iload hx hb dX6_command_249 (lv_at hl 0 rfl) ?_
              have hP := hP.sub (ws' := (st_W cs (ma 3) (mv.2 2)) ++ (x_pick (md_W cs ma mv) [0, 1, 2, 4, 5, 6])) [3, 0, 1, 2, 4, 5, 6] rfl
              have hD := hD.sub (ws' := (st_W cs (ma 3) (mv.2 2)) ++ (x_pick (md_W cs ma mv) [0, 1, 2, 4, 5, 6])) [3, 0, 1, 2, 4, 5, 6] (by decide) rfl
              have hc_251 := c_X6_change l D cs (ma 3) (mv.2 2) (vk / 1000) (vk - vk / 100 * 100) (set_w2 c_241)
              obtain ⟨r_251, o_251, e_251⟩ : ∃ r9 o9, (k_X6_change (mv.2 2) (vk / 1000) (vk - vk / 100 * 100)) = (r9, o9) := ⟨_, _, rfl⟩
              rw [e_251] at hc_251 hres
              dsimp only at hc_251 hres
              refine kI_call (wc := (st_W cs (ma 3) (mv.2 2))) (wr := (x_pick (md_W cs ma mv) [0, 1, 2, 4, 5, 6])) (w1 := st_W cs (ma 3) o_251) (r := r_251) hE hP hD hS (k_rS (rest := []) (As := [.ref (ma 3), .int (vk / 1000), .int (vk - vk / 100 * 100)]) hE rfl (hc_251 H.size) (va_cwS 3 hts gX6_command_X6_change rfl rfl rfl (by decide +kernel) ⟨Nat.le_of_ble_eq_true rfl, Nat.le_of_ble_eq_true rfl⟩) hP hD hS rfl hl rfl (Nat.le_of_ble_eq_true rfl) ⟨Nat.le_of_ble_eq_true rfl, Nat.le_of_ble_eq_true rfl⟩ dX6_command_251) (fun H locs hP hD hS => ?_)
              have hP := hP.sub (ws' := md_W cs ma (m_r mv 2 o_251)) [1, 2, 3, 0, 4, 5, 6] rfl
              have hD := hD.sub (ws' := md_W cs ma (m_r mv 2 o_251)) [1, 2, 3, 0, 4, 5, 6] (by decide) rfl
              have hP : va_P D vwCl (md_W cs ma (m_r mv 2 o_251)) H := hP
              have hD : va_D A (md_W cs ma (m_r mv 2 o_251)) := hD
              refine lv_if_lt (tgt := 261) hx hb dX6_command_254 (by decide) (fun c_254 => ?_) (fun c_254 => ?_)
              · skip
                have c_254 : (r_251 < 0) := c_254
                rw [if_pos c_254] at hres
                refine lv_iconst (v := 0) hx hb dX6_command_261 (by decide) ?_
                subst hres
                exact kI_ret hE hS hP hD rfl rfl (Nat.le_of_ble_eq_true rfl) (Nat.le_of_ble_eq_true rfl) dX6_command_262
              · skip
                have c_254 : ¬ (r_251 < 0) := c_254
                rw [if_neg c_254] at hres
                refine lv_iconst (v := 1) hx hb dX6_command_257 (by decide) ?_
                refine lv_goto (tgt := 262) hx hb dX6_command_258 (by decide) ?_
                subst hres
                exact kI_ret hE hS hP hD rfl rfl (Nat.le_of_ble_eq_true rfl) (Nat.le_of_ble_eq_true rfl) dX6_command_262
        · skip
          rw [if_neg c_37_4] at hres
          by_cases c_37_5 : vc = 5
          · skip
            rw [if_pos c_37_5] at hres
            refine lv_tableIn (tgt := 263) (off := 226) hx hb dX6_command_37 (by rw [c_37_5]; decide) (by rw [c_37_5]; decide) (by rw [c_37_5]; rfl) (by decide) ?_
            refine lv_iload_n hx hb dX6_command_263 rfl (lv_at hl 4 rfl) ?_
            refine lv_if_ne (tgt := 300) hx hb dX6_command_264 (by decide) (fun c_264 => ?_) (fun c_264 => ?_)
            · skip
              have c_264 : ¬ ((vk / 1000) = 0) := c_264
              rw [if_neg c_264] at hres
              refine lv_iconst (v := 0) hx hb dX6_command_300 (by decide) ?_
              subst hres
              exact kI_ret hE hS hP hD rfl rfl (Nat.le_of_ble_eq_true rfl) (Nat.le_of_ble_eq_true rfl) dX6_command_301
            · skip
              have c_264 : ((vk / 1000) = 0) := c_264
              rw [if_pos c_264] at hres
              refine lv_iload hx hb dX6_command_267 (lv_at hl 1 rfl) ?_
              refine lv_if_ne (tgt := 300) hx hb dX6_command_269 (by decide) (fun c_269 => ?_) (fun c_269 => ?_)
              · skip
                have c_269 : ¬ ((vk - vk / 10 * 10) = 0) := c_269
                rw [if_neg c_269] at hres
                refine lv_iconst (v := 0) hx hb dX6_command_300 (by decide) ?_
                subst hres
                exact kI_ret hE hS hP hD rfl rfl (Nat.le_of_ble_eq_true rfl) (Nat.le_of_ble_eq_true rfl) dX6_command_301
              · skip
                have c_269 : ((vk - vk / 10 * 10) = 0) := c_269
                rw [if_pos c_269] at hres
                refine lv_aload_n hx hb dX6_command_272 rfl (lv_at hl 5 rfl) ?_
                refine va_get (D := D) (ci := 6) (v := .ref (ma 3)) (C := RX6) (T := TX6) (N := 11) hx hb hts hinX6 hown hK hP 0 rfl rfl 4 (by decide) lk_1 (fun _ h9 => h9) rfl dX6_command_273 ?_
                refine lv_iload hx hb dX6_command_276 (lv_at hl 2 rfl) ?_
                have hP := hP.sub (ws' := (st_W cs (ma 3) (mv.2 2)) ++ (x_pick (md_W cs ma mv) [0, 1, 2, 4, 5, 6])) [3, 0, 1, 2, 4, 5, 6] rfl
                have hD := hD.sub (ws' := (st_W cs (ma 3) (mv.2 2)) ++ (x_pick (md_W cs ma mv) [0, 1, 2, 4, 5, 6])) [3, 0, 1, 2, 4, 5, 6] (by decide) rfl
                have hc_278 := c_X6_isOrder l D cs (ma 3) (mv.2 2) ((vk / 10) - (vk / 10) / 100 * 100)
                refine kI_call (wc := (st_W cs (ma 3) (mv.2 2))) (wr := (x_pick (md_W cs ma mv) [0, 1, 2, 4, 5, 6])) (w1 := (st_W cs (ma 3) (mv.2 2))) (r := (k_X6_isOrder (mv.2 2) ((vk / 10) - (vk / 10) / 100 * 100))) hE hP hD hS (k_rS (rest := []) (As := [.ref (ma 3), .int ((vk / 10) - (vk / 10) / 100 * 100)]) hE rfl (hc_278 H.size) (va_cwS 2 hts gX6_command_X6_isOrder rfl rfl rfl (by decide +kernel) ⟨Nat.le_of_ble_eq_true rfl, Nat.le_of_ble_eq_true rfl⟩) hP hD hS rfl hl rfl (Nat.le_of_ble_eq_true rfl) ⟨Nat.le_of_ble_eq_true rfl, Nat.le_of_ble_eq_true rfl⟩ dX6_command_278) (fun H locs hP hD hS => ?_)
                have hP := hP.sub (ws' := md_W cs ma mv) [1, 2, 3, 0, 4, 5, 6] rfl
                have hD := hD.sub (ws' := md_W cs ma mv) [1, 2, 3, 0, 4, 5, 6] (by decide) rfl
                have hP : va_P D vwCl (md_W cs ma mv) H := hP
                have hD : va_D A (md_W cs ma mv) := hD
                refine lv_if_eq (tgt := 300) hx hb dX6_command_281 (by decide) (fun c_281 => ?_) (fun c_281 => ?_)
                · skip
                  have c_281 : ((k_X6_isOrder (mv.2 2) ((vk / 10) - (vk / 10) / 100 * 100)) = 0) := c_281
                  rw [if_pos c_281] at hres
                  refine lv_iconst (v := 0) hx hb dX6_command_300 (by decide) ?_
                  subst hres
                  exact kI_ret hE hS hP hD rfl rfl (Nat.le_of_ble_eq_true rfl) (Nat.le_of_ble_eq_true rfl) dX6_command_301
                · skip
                  have c_281 : ¬ ((k_X6_isOrder (mv.2 2) ((vk / 10) - (vk / 10) / 100 * 100)) = 0) := c_281
                  rw [if_neg c_281] at hres
                  refine lv_aload_n hx hb dX6_command_284 rfl (lv_at hl 5 rfl) ?_
                  refine va_get (D := D) (ci := 6) (v := .ref (ma 3)) (C := RX6) (T := TX6) (N := 11) hx hb hts hinX6 hown hK hP 0 rfl rfl 4 (by decide) lk_1 (fun _ h9 => h9) rfl dX6_command_285 ?_
                  refine lv_iload hx hb dX6_command_288 (lv_at hl 2 rfl) ?_
                  have hP := hP.sub (ws' := (st_W cs (ma 3) (mv.2 2)) ++ (x_pick (md_W cs ma mv) [0, 1, 2, 4, 5, 6])) [3, 0, 1, 2, 4, 5, 6] rfl
                  have hD := hD.sub (ws' := (st_W cs (ma 3) (mv.2 2)) ++ (x_pick (md_W cs ma mv) [0, 1, 2, 4, 5, 6])) [3, 0, 1, 2, 4, 5, 6] (by decide) rfl
                  have hc_290 := c_X6_cancelOn l D cs (ma 3) (mv.2 2) ((vk / 10) - (vk / 10) / 100 * 100) hI2 (ord_b hI2 c_281)
                  obtain ⟨r_290, o_290, e_290⟩ : ∃ r9 o9, (k_X6_cancelOn (mv.2 2) ((vk / 10) - (vk / 10) / 100 * 100)) = (r9, o9) := ⟨_, _, rfl⟩
                  rw [e_290] at hc_290 hres
                  dsimp only at hc_290 hres
                  refine kI_call (wc := (st_W cs (ma 3) (mv.2 2))) (wr := (x_pick (md_W cs ma mv) [0, 1, 2, 4, 5, 6])) (w1 := st_W cs (ma 3) o_290) (r := r_290) hE hP hD hS (k_rS (rest := []) (As := [.ref (ma 3), .int ((vk / 10) - (vk / 10) / 100 * 100)]) hE rfl (hc_290 H.size) (va_cwS 2 hts gX6_command_X6_cancelOn rfl rfl rfl (by decide +kernel) ⟨Nat.le_of_ble_eq_true rfl, Nat.le_of_ble_eq_true rfl⟩) hP hD hS rfl hl rfl (Nat.le_of_ble_eq_true rfl) ⟨Nat.le_of_ble_eq_true rfl, Nat.le_of_ble_eq_true rfl⟩ dX6_command_290) (fun H locs hP hD hS => ?_)
                  have hP := hP.sub (ws' := md_W cs ma (m_r mv 2 o_290)) [1, 2, 3, 0, 4, 5, 6] rfl
                  have hD := hD.sub (ws' := md_W cs ma (m_r mv 2 o_290)) [1, 2, 3, 0, 4, 5, 6] (by decide) rfl
                  have hP : va_P D vwCl (md_W cs ma (m_r mv 2 o_290)) H := hP
                  have hD : va_D A (md_W cs ma (m_r mv 2 o_290)) := hD
                  refine lv_if_lt (tgt := 300) hx hb dX6_command_293 (by decide) (fun c_293 => ?_) (fun c_293 => ?_)
                  · skip
                    have c_293 : (r_290 < 0) := c_293
                    rw [if_pos c_293] at hres
                    refine lv_iconst (v := 0) hx hb dX6_command_300 (by decide) ?_
                    subst hres
                    exact kI_ret hE hS hP hD rfl rfl (Nat.le_of_ble_eq_true rfl) (Nat.le_of_ble_eq_true rfl) dX6_command_301
                  · skip
                    have c_293 : ¬ (r_290 < 0) := c_293
                    rw [if_neg c_293] at hres
                    refine lv_iconst (v := 1) hx hb dX6_command_296 (by decide) ?_
                    refine lv_goto (tgt := 301) hx hb dX6_command_297 (by decide) ?_
                    subst hres
                    exact kI_ret hE hS hP hD rfl rfl (Nat.le_of_ble_eq_true rfl) (Nat.le_of_ble_eq_true rfl) dX6_command_301
          · skip
            rw [if_neg c_37_5] at hres
            by_cases c_37_6 : vc = 6
            · skip
              rw [if_pos c_37_6] at hres
              refine lv_tableIn (tgt := 302) (off := 265) hx hb dX6_command_37 (by rw [c_37_6]; decide) (by rw [c_37_6]; decide) (by rw [c_37_6]; rfl) (by decide) ?_
              refine lv_iload hx hb dX6_command_302 (lv_at hl 1 rfl) ?_
              refine lv_if_ne (tgt := 339) hx hb dX6_command_304 (by decide) (fun c_304 => ?_) (fun c_304 => ?_)
              · skip
                have c_304 : ¬ ((vk - vk / 10 * 10) = 0) := c_304
                rw [if_neg c_304] at hres
                refine lv_iconst (v := 0) hx hb dX6_command_339 (by decide) ?_
                subst hres
                exact kI_ret hE hS hP hD rfl rfl (Nat.le_of_ble_eq_true rfl) (Nat.le_of_ble_eq_true rfl) dX6_command_340
              · skip
                have c_304 : ((vk - vk / 10 * 10) = 0) := c_304
                rw [if_pos c_304] at hres
                refine lv_iload_n hx hb dX6_command_307 rfl (lv_at hl 4 rfl) ?_
                have hP : va_P D vwCl ([] ++ (md_W cs ma mv)) H := hP
                have hD : va_D A ([] ++ (md_W cs ma mv)) := hD
                have hc_308 := c_X6_isPipe l D cs (vk / 1000)
                refine kI_call (wc := []) (wr := (md_W cs ma mv)) (w1 := []) (r := (k_X6_isPipe (vk / 1000))) hE hP hD hS (k_rS (rest := []) (As := [.int (vk / 1000)]) hE rfl (hc_308 H.size) (va_cwS 1 hts gX6_command_X6_isPipe rfl rfl rfl (by decide +kernel) ⟨Nat.le_of_ble_eq_true rfl, Nat.le_of_ble_eq_true rfl⟩) hP hD hS rfl hl rfl (Nat.le_of_ble_eq_true rfl) ⟨Nat.le_of_ble_eq_true rfl, Nat.le_of_ble_eq_true rfl⟩ dX6_command_308) (fun H locs hP hD hS => ?_)
                have hP : va_P D vwCl (md_W cs ma mv) H := hP
                have hD : va_D A (md_W cs ma mv) := hD
                refine lv_if_eq (tgt := 339) hx hb dX6_command_311 (by decide) (fun c_311 => ?_) (fun c_311 => ?_)
                · skip
                  have c_311 : ((k_X6_isPipe (vk / 1000)) = 0) := c_311
                  rw [if_pos c_311] at hres
                  refine lv_iconst (v := 0) hx hb dX6_command_339 (by decide) ?_
                  subst hres
                  exact kI_ret hE hS hP hD rfl rfl (Nat.le_of_ble_eq_true rfl) (Nat.le_of_ble_eq_true rfl) dX6_command_340
                · skip
                  have c_311 : ¬ ((k_X6_isPipe (vk / 1000)) = 0) := c_311
                  rw [if_neg c_311] at hres
                  refine lv_iload hx hb dX6_command_314 (lv_at hl 2 rfl) ?_
                  have hP : va_P D vwCl ([] ++ (md_W cs ma mv)) H := hP
                  have hD : va_D A ([] ++ (md_W cs ma mv)) := hD
                  have hc_316 := c_X6_isBar l D cs ((vk / 10) - (vk / 10) / 100 * 100)
                  refine kI_call (wc := []) (wr := (md_W cs ma mv)) (w1 := []) (r := (k_X6_isBar ((vk / 10) - (vk / 10) / 100 * 100))) hE hP hD hS (k_rS (rest := []) (As := [.int ((vk / 10) - (vk / 10) / 100 * 100)]) hE rfl (hc_316 H.size) (va_cwS 1 hts gX6_command_X6_isBar rfl rfl rfl (by decide +kernel) ⟨Nat.le_of_ble_eq_true rfl, Nat.le_of_ble_eq_true rfl⟩) hP hD hS rfl hl rfl (Nat.le_of_ble_eq_true rfl) ⟨Nat.le_of_ble_eq_true rfl, Nat.le_of_ble_eq_true rfl⟩ dX6_command_316) (fun H locs hP hD hS => ?_)
                  have hP : va_P D vwCl (md_W cs ma mv) H := hP
                  have hD : va_D A (md_W cs ma mv) := hD
                  refine lv_if_eq (tgt := 339) hx hb dX6_command_319 (by decide) (fun c_319 => ?_) (fun c_319 => ?_)
                  · skip
                    have c_319 : ((k_X6_isBar ((vk / 10) - (vk / 10) / 100 * 100)) = 0) := c_319
                    rw [if_pos c_319] at hres
                    refine lv_iconst (v := 0) hx hb dX6_command_339 (by decide) ?_
                    subst hres
                    exact kI_ret hE hS hP hD rfl rfl (Nat.le_of_ble_eq_true rfl) (Nat.le_of_ble_eq_true rfl) dX6_command_340
                  · skip
                    have c_319 : ¬ ((k_X6_isBar ((vk / 10) - (vk / 10) / 100 * 100)) = 0) := c_319
                    rw [if_neg c_319] at hres
                    refine lv_aload_n hx hb dX6_command_322 rfl (lv_at hl 5 rfl) ?_
                    refine va_get (D := D) (ci := 6) (v := .ref (ma 3)) (C := RX6) (T := TX6) (N := 11) hx hb hts hinX6 hown hK hP 0 rfl rfl 4 (by decide) lk_1 (fun _ h9 => h9) rfl dX6_command_323 ?_
                    refine lv_iload_n hx hb dX6_command_326 rfl (lv_at hl 4 rfl) ?_
                    refine lv_iload hx hb dX6_command_327 (lv_at hl 2 rfl) ?_
                    have hP := hP.sub (ws' := (st_W cs (ma 3) (mv.2 2)) ++ (x_pick (md_W cs ma mv) [0, 1, 2, 4, 5, 6])) [3, 0, 1, 2, 4, 5, 6] rfl
                    have hD := hD.sub (ws' := (st_W cs (ma 3) (mv.2 2)) ++ (x_pick (md_W cs ma mv) [0, 1, 2, 4, 5, 6])) [3, 0, 1, 2, 4, 5, 6] (by decide) rfl
                    have hc_329 := c_X6_isCovered l D cs (ma 3) (mv.2 2) (vk / 1000) ((vk / 10) - (vk / 10) / 100 * 100) hI2
                    refine kI_call (wc := (st_W cs (ma 3) (mv.2 2))) (wr := (x_pick (md_W cs ma mv) [0, 1, 2, 4, 5, 6])) (w1 := (st_W cs (ma 3) (mv.2 2))) (r := (k_X6_isCovered (mv.2 2) (vk / 1000) ((vk / 10) - (vk / 10) / 100 * 100))) hE hP hD hS (k_rS (rest := []) (As := [.ref (ma 3), .int (vk / 1000), .int ((vk / 10) - (vk / 10) / 100 * 100)]) hE rfl (hc_329 H.size) (va_cwS 3 hts gX6_command_X6_isCovered rfl rfl rfl (by decide +kernel) ⟨Nat.le_of_ble_eq_true rfl, Nat.le_of_ble_eq_true rfl⟩) hP hD hS rfl hl rfl (Nat.le_of_ble_eq_true rfl) ⟨Nat.le_of_ble_eq_true rfl, Nat.le_of_ble_eq_true rfl⟩ dX6_command_329) (fun H locs hP hD hS => ?_)
                    have hP := hP.sub (ws' := md_W cs ma mv) [1, 2, 3, 0, 4, 5, 6] rfl
                    have hD := hD.sub (ws' := md_W cs ma mv) [1, 2, 3, 0, 4, 5, 6] (by decide) rfl
                    have hP : va_P D vwCl (md_W cs ma mv) H := hP
                    have hD : va_D A (md_W cs ma mv) := hD
                    refine lv_if_eq (tgt := 339) hx hb dX6_command_332 (by decide) (fun c_332 => ?_) (fun c_332 => ?_)
                    · skip
                      have c_332 : ((k_X6_isCovered (mv.2 2) (vk / 1000) ((vk / 10) - (vk / 10) / 100 * 100)) = 0) := c_332
                      rw [if_pos c_332] at hres
                      refine lv_iconst (v := 0) hx hb dX6_command_339 (by decide) ?_
                      subst hres
                      exact kI_ret hE hS hP hD rfl rfl (Nat.le_of_ble_eq_true rfl) (Nat.le_of_ble_eq_true rfl) dX6_command_340
                    · skip
                      have c_332 : ¬ ((k_X6_isCovered (mv.2 2) (vk / 1000) ((vk / 10) - (vk / 10) / 100 * 100)) = 0) := c_332
                      rw [if_neg c_332] at hres
                      refine lv_iconst (v := 1) hx hb dX6_command_335 (by decide) ?_
                      refine lv_goto (tgt := 340) hx hb dX6_command_336 (by decide) ?_
                      subst hres
                      exact kI_ret hE hS hP hD rfl rfl (Nat.le_of_ble_eq_true rfl) (Nat.le_of_ble_eq_true rfl) dX6_command_340
            · skip
              rw [if_neg c_37_6] at hres
              by_cases c_37_7 : vc = 7
              · skip
                rw [if_pos c_37_7] at hres
                refine lv_tableIn (tgt := 341) (off := 304) hx hb dX6_command_37 (by rw [c_37_7]; decide) (by rw [c_37_7]; decide) (by rw [c_37_7]; rfl) (by decide) ?_
                refine lv_iload_n hx hb dX6_command_341 rfl (lv_at hl 7 rfl) ?_
                refine lv_bipush (v := 100) hx hb dX6_command_342 (by decide) ?_
                refine lv_icmp_ge (tgt := 361) hx hb dX6_command_344 (by decide) (fun c_344 => ?_) (fun c_344 => ?_)
                · skip
                  have c_344 : (100 ≤ vk) := c_344
                  rw [if_pos c_344] at hres
                  refine lv_iconst (v := 0) hx hb dX6_command_361 (by decide) ?_
                  subst hres
                  exact kI_ret hE hS hP hD rfl rfl (Nat.le_of_ble_eq_true rfl) (Nat.le_of_ble_eq_true rfl) dX6_command_362
                · skip
                  have c_344 : ¬ (100 ≤ vk) := c_344
                  rw [if_neg c_344] at hres
                  refine lv_aload_n hx hb dX6_command_347 rfl (lv_at hl 5 rfl) ?_
                  refine va_get (D := D) (ci := 6) (v := .ref (ma 3)) (C := RX6) (T := TX6) (N := 11) hx hb hts hinX6 hown hK hP 0 rfl rfl 4 (by decide) lk_1 (fun _ h9 => h9) rfl dX6_command_348 ?_
                  refine lv_iconst (v := 5) hx hb dX6_command_351 (by decide) ?_
                  refine k_iald hx hb hK hP 3 0 (v := ((mv.2 2) 5)) rfl rfl (k_inl rfl) rfl dX6_command_352 ?_
                  refine lv_iload_n hx hb dX6_command_353 rfl (lv_at hl 7 rfl) ?_
                  refine lv_icmp_lt (tgt := 361) hx hb dX6_command_354 (by decide) (fun c_354 => ?_) (fun c_354 => ?_)
                  · skip
                    have c_354 : (((mv.2 2) 5) < vk) := c_354
                    rw [if_pos c_354] at hres
                    refine lv_iconst (v := 0) hx hb dX6_command_361 (by decide) ?_
                    subst hres
                    exact kI_ret hE hS hP hD rfl rfl (Nat.le_of_ble_eq_true rfl) (Nat.le_of_ble_eq_true rfl) dX6_command_362
                  · skip
                    have c_354 : ¬ (((mv.2 2) 5) < vk) := c_354
                    rw [if_neg c_354] at hres
                    refine lv_iconst (v := 1) hx hb dX6_command_357 (by decide) ?_
                    refine lv_goto (tgt := 362) hx hb dX6_command_358 (by decide) ?_
                    subst hres
                    exact kI_ret hE hS hP hD rfl rfl (Nat.le_of_ble_eq_true rfl) (Nat.le_of_ble_eq_true rfl) dX6_command_362
              · skip
                rw [if_neg c_37_7] at hres
                by_cases c_37_8 : vc = 8
                · skip
                  rw [if_pos c_37_8] at hres
                  refine lv_tableIn (tgt := 363) (off := 326) hx hb dX6_command_37 (by rw [c_37_8]; decide) (by rw [c_37_8]; decide) (by rw [c_37_8]; rfl) (by decide) ?_
                  refine lv_iload_n hx hb dX6_command_363 rfl (lv_at hl 7 rfl) ?_
                  refine lv_bipush (v := 10) hx hb dX6_command_364 (by decide) ?_
                  refine lv_icmp_ge (tgt := 383) hx hb dX6_command_366 (by decide) (fun c_366 => ?_) (fun c_366 => ?_)
                  · skip
                    have c_366 : (10 ≤ vk) := c_366
                    rw [if_pos c_366] at hres
                    refine lv_iconst (v := 0) hx hb dX6_command_383 (by decide) ?_
                    subst hres
                    exact kI_ret hE hS hP hD rfl rfl (Nat.le_of_ble_eq_true rfl) (Nat.le_of_ble_eq_true rfl) dX6_command_384
                  · skip
                    have c_366 : ¬ (10 ≤ vk) := c_366
                    rw [if_neg c_366] at hres
                    refine lv_aload_n hx hb dX6_command_369 rfl (lv_at hl 5 rfl) ?_
                    refine va_get (D := D) (ci := 6) (v := .ref (ma 3)) (C := RX6) (T := TX6) (N := 11) hx hb hts hinX6 hown hK hP 0 rfl rfl 4 (by decide) lk_1 (fun _ h9 => h9) rfl dX6_command_370 ?_
                    refine lv_iconst (v := 1) hx hb dX6_command_373 (by decide) ?_
                    refine k_iald hx hb hK hP 3 0 (v := ((mv.2 2) 1)) rfl rfl (k_inl rfl) rfl dX6_command_374 ?_
                    refine lv_iload_n hx hb dX6_command_375 rfl (lv_at hl 7 rfl) ?_
                    refine lv_icmp_gt (tgt := 383) hx hb dX6_command_376 (by decide) (fun c_376 => ?_) (fun c_376 => ?_)
                    · skip
                      have c_376 : (vk < ((mv.2 2) 1)) := c_376
                      rw [if_pos c_376] at hres
                      refine lv_iconst (v := 0) hx hb dX6_command_383 (by decide) ?_
                      subst hres
                      exact kI_ret hE hS hP hD rfl rfl (Nat.le_of_ble_eq_true rfl) (Nat.le_of_ble_eq_true rfl) dX6_command_384
                    · skip
                      have c_376 : ¬ (vk < ((mv.2 2) 1)) := c_376
                      rw [if_neg c_376] at hres
                      refine lv_iconst (v := 1) hx hb dX6_command_379 (by decide) ?_
                      refine lv_goto (tgt := 384) hx hb dX6_command_380 (by decide) ?_
                      subst hres
                      exact kI_ret hE hS hP hD rfl rfl (Nat.le_of_ble_eq_true rfl) (Nat.le_of_ble_eq_true rfl) dX6_command_384
                · skip
                  rw [if_neg c_37_8] at hres
                  by_cases c_37_9 : vc = 9
                  · skip
                    rw [if_pos c_37_9] at hres
                    refine lv_tableIn (tgt := 385) (off := 348) hx hb dX6_command_37 (by rw [c_37_9]; decide) (by rw [c_37_9]; decide) (by rw [c_37_9]; rfl) (by decide) ?_
                    refine lv_iload_n hx hb dX6_command_385 rfl (lv_at hl 7 rfl) ?_
                    refine lv_bipush (v := 100) hx hb dX6_command_386 (by decide) ?_
                    refine lv_icmp_ge (tgt := 406) hx hb dX6_command_388 (by decide) (fun c_388 => ?_) (fun c_388 => ?_)
                    · skip
                      have c_388 : (100 ≤ vk) := c_388
                      rw [if_pos c_388] at hres
                      refine lv_iconst (v := 0) hx hb dX6_command_406 (by decide) ?_
                      subst hres
                      exact kI_ret hE hS hP hD rfl rfl (Nat.le_of_ble_eq_true rfl) (Nat.le_of_ble_eq_true rfl) dX6_command_407
                    · skip
                      have c_388 : ¬ (100 ≤ vk) := c_388
                      rw [if_neg c_388] at hres
                      refine lv_aload_n hx hb dX6_command_391 rfl (lv_at hl 5 rfl) ?_
                      refine va_get (D := D) (ci := 6) (v := .ref (ma 3)) (C := RX6) (T := TX6) (N := 11) hx hb hts hinX6 hown hK hP 0 rfl rfl 4 (by decide) lk_1 (fun _ h9 => h9) rfl dX6_command_392 ?_
                      refine lv_bipush (v := 7) hx hb dX6_command_395 (by decide) ?_
                      refine k_iald hx hb hK hP 3 0 (v := ((mv.2 2) 7)) rfl rfl (k_inl rfl) rfl dX6_command_397 ?_
                      refine lv_iload_n hx hb dX6_command_398 rfl (lv_at hl 7 rfl) ?_
                      refine lv_icmp_ne (tgt := 406) hx hb dX6_command_399 (by decide) (fun c_399 => ?_) (fun c_399 => ?_)
                      · skip
                        have c_399 : ¬ (((mv.2 2) 7) = vk) := c_399
                        rw [if_neg c_399] at hres
                        refine lv_iconst (v := 0) hx hb dX6_command_406 (by decide) ?_
                        subst hres
                        exact kI_ret hE hS hP hD rfl rfl (Nat.le_of_ble_eq_true rfl) (Nat.le_of_ble_eq_true rfl) dX6_command_407
                      · skip
                        have c_399 : (((mv.2 2) 7) = vk) := c_399
                        rw [if_pos c_399] at hres
                        refine lv_iconst (v := 1) hx hb dX6_command_402 (by decide) ?_
                        refine lv_goto (tgt := 407) hx hb dX6_command_403 (by decide) ?_
                        subst hres
                        exact kI_ret hE hS hP hD rfl rfl (Nat.le_of_ble_eq_true rfl) (Nat.le_of_ble_eq_true rfl) dX6_command_407
                  · skip
                    rw [if_neg c_37_9] at hres
                    refine lv_tableOut (tgt := 408) hx hb dX6_command_37 (x_out vc 1 9 (by decide) (by intro j hj; match j, hj with | 0, _ => exact c_37_1 | 1, _ => exact c_37_2 | 2, _ => exact c_37_3 | 3, _ => exact c_37_4 | 4, _ => exact c_37_5 | 5, _ => exact c_37_6 | 6, _ => exact c_37_7 | 7, _ => exact c_37_8 | 8, _ => exact c_37_9 | n + 9, hj => exact absurd hj (by omega))) (by decide) ?_
                    refine lv_iconst (v := 0) hx hb dX6_command_408 (by decide) ?_
                    subst hres
                    exact kI_ret hE hS hP hD rfl rfl (Nat.le_of_ble_eq_true rfl) (Nat.le_of_ble_eq_true rfl) dX6_command_409
set_option maxHeartbeats 4000000 in
set_option maxRecDepth 100000 in
theorem c_X6_turnOf (l : Launch) (D : va_G) (cs : Nat → ClassId) (sa : Nat) (sx : Nat → Int32) (vi : Int32) (vv : Int32) (hI : SI sx) (hvv : 0 ≤ vv.toInt) : kV l yX6_turnOf wsX6_turnOf { frames := 7, cells := 0, slots := 0, locals := 159 } 0 0 D cs [.ref sa, .int vi, .int vv] (st_W cs sa sx) (fun (_ : Unit) => True) (fun _ => st_W cs sa (k_X6_turnOf sx vi vv)) := by
  generalize hres : k_X6_turnOf sx vi vv = res
  refine kV_of (cc := cX6_turnOf) (maxL := 3) (ret := none) (by decide) rfl (Nat.le_of_ble_eq_true rfl) ?_
  intro p e s m below meth c A ls H locs hE hS hP hD hl
  obtain ⟨hx, hb, hr, hlocks, hml, hown, hts, hK, hA, hG, hnm⟩ := id hE
  have hown : s.vm.findClass RX6 = some m.cls := hown
  have hl : lv_has ls 3 [(0, .ref sa), (1, .int vi), (2, .int vv)] := hl
  unfold k_X6_turnOf at hres
  refine lv_iload_n hx hb dX6_turnOf_0 rfl (lv_at hl 1 rfl) ?_
  refine lv_iconst (v := 4) hx hb dX6_turnOf_1 (by decide) ?_
  refine lv_icmp_ge (tgt := 61) hx hb dX6_turnOf_2 (by decide) (fun c_2 => ?_) (fun c_2 => ?_)
  · skip
    have c_2 : (4 ≤ vi) := c_2
    rw [if_pos c_2] at hres
    refine lv_iload_n hx hb dX6_turnOf_61 rfl (lv_at hl 1 rfl) ?_
    refine lv_iconst (v := 4) hx hb dX6_turnOf_62 (by decide) ?_
    refine lv_icmp_ne (tgt := 102) hx hb dX6_turnOf_63 (by decide) (fun c_63 => ?_) (fun c_63 => ?_)
    · skip
      have c_63 : ¬ (vi = 4) := c_63
      rw [if_neg c_63] at hres
      refine lv_iload_n hx hb dX6_turnOf_102 rfl (lv_at hl 1 rfl) ?_
      refine lv_iconst (v := 5) hx hb dX6_turnOf_103 (by decide) ?_
      refine lv_icmp_le (tgt := 121) hx hb dX6_turnOf_104 (by decide) (fun c_104 => ?_) (fun c_104 => ?_)
      · skip
        have c_104 : (vi ≤ 5) := c_104
        rw [if_pos c_104] at hres
        refine lv_iload_n hx hb dX6_turnOf_121 rfl (lv_at hl 2 rfl) ?_
        refine lv_bipush (v := 16) hx hb dX6_turnOf_122 (by decide) ?_
        refine lv_idiv hx hb dX6_turnOf_124 (by decide) ?_
        refine lv_iconst (v := 4) hx hb dX6_turnOf_125 (by decide) ?_
        refine lv_irem hx hb dX6_turnOf_126 (by decide) ?_
        refine lv_if_le (tgt := 146) hx hb dX6_turnOf_127 (by decide) (fun c_127 => ?_) (fun c_127 => ?_)
        · skip
          have c_127 : (((vv / 16) - (vv / 16) / 4 * 4) ≤ 0) := c_127
          rw [if_pos c_127] at hres
          refine lv_aload_n hx hb dX6_turnOf_146 rfl (lv_at hl 0 rfl) ?_
          refine lv_iload_n hx hb dX6_turnOf_147 rfl (lv_at hl 2 rfl) ?_
          refine lv_bipush (v := 12) hx hb dX6_turnOf_148 (by decide) ?_
          refine lv_irem hx hb dX6_turnOf_150 (by decide) ?_
          have hP : va_P D vwCl ((st_W cs sa sx) ++ []) H := k_nP hP
          have hD : va_D A ((st_W cs sa sx) ++ []) := k_nD hD
          have hc_151 := c_X6_isOrder l D cs sa sx (vv - vv / 12 * 12)
          refine kI_call (wc := (st_W cs sa sx)) (wr := []) (w1 := st_W cs sa sx) (r := (k_X6_isOrder sx (vv - vv / 12 * 12))) hE hP hD hS (k_rS (rest := []) (As := [.ref sa, .int (vv - vv / 12 * 12)]) hE rfl (hc_151 H.size) (va_cwS 2 hts gX6_turnOf_X6_isOrder rfl rfl rfl (by decide +kernel) ⟨Nat.le_of_ble_eq_true rfl, Nat.le_of_ble_eq_true rfl⟩) hP hD hS rfl hl rfl (Nat.le_of_ble_eq_true rfl) ⟨Nat.le_of_ble_eq_true rfl, Nat.le_of_ble_eq_true rfl⟩ dX6_turnOf_151) (fun H locs hP hD hS => ?_)
          have hP := k_uP hP
          have hD := k_uD hD
          have hP : va_P D vwCl (st_W cs sa sx) H := hP
          have hD : va_D A (st_W cs sa sx) := hD
          refine lv_if_eq (tgt := 166) hx hb dX6_turnOf_154 (by decide) (fun c_154 => ?_) (fun c_154 => ?_)
          · skip
            have c_154 : ((k_X6_isOrder sx (vv - vv / 12 * 12)) = 0) := c_154
            rw [if_pos c_154] at hres
            subst hres
            exact kV_ret () hE hS hP hD trivial (Nat.le_of_ble_eq_true rfl) (Nat.le_of_ble_eq_true rfl) dX6_turnOf_166
          · skip
            have c_154 : ¬ ((k_X6_isOrder sx (vv - vv / 12 * 12)) = 0) := c_154
            rw [if_neg c_154] at hres
            refine lv_aload_n hx hb dX6_turnOf_157 rfl (lv_at hl 0 rfl) ?_
            refine lv_iload_n hx hb dX6_turnOf_158 rfl (lv_at hl 2 rfl) ?_
            refine lv_bipush (v := 12) hx hb dX6_turnOf_159 (by decide) ?_
            refine lv_irem hx hb dX6_turnOf_161 (by decide) ?_
            have hP : va_P D vwCl ((st_W cs sa sx) ++ []) H := k_nP hP
            have hD : va_D A ((st_W cs sa sx) ++ []) := k_nD hD
            have hc_162 := c_X6_cancelOn l D cs sa sx (vv - vv / 12 * 12) (by assumption) (ord_b hI c_154)
            obtain ⟨r_162, o_162, e_162⟩ : ∃ r9 o9, (k_X6_cancelOn sx (vv - vv / 12 * 12)) = (r9, o9) := ⟨_, _, rfl⟩
            rw [e_162] at hc_162 hres
            dsimp only at hc_162 hres
            refine kI_call (wc := (st_W cs sa sx)) (wr := []) (w1 := st_W cs sa o_162) (r := r_162) hE hP hD hS (k_rS (rest := []) (As := [.ref sa, .int (vv - vv / 12 * 12)]) hE rfl (hc_162 H.size) (va_cwS 2 hts gX6_turnOf_X6_cancelOn rfl rfl rfl (by decide +kernel) ⟨Nat.le_of_ble_eq_true rfl, Nat.le_of_ble_eq_true rfl⟩) hP hD hS rfl hl rfl (Nat.le_of_ble_eq_true rfl) ⟨Nat.le_of_ble_eq_true rfl, Nat.le_of_ble_eq_true rfl⟩ dX6_turnOf_162) (fun H locs hP hD hS => ?_)
            have hP := k_uP hP
            have hD := k_uD hD
            have hP : va_P D vwCl (st_W cs sa o_162) H := hP
            have hD : va_D A (st_W cs sa o_162) := hD
            refine lv_pop hx hb dX6_turnOf_165 rfl ?_
            subst hres
            exact kV_ret () hE hS hP hD trivial (Nat.le_of_ble_eq_true rfl) (Nat.le_of_ble_eq_true rfl) dX6_turnOf_166
        · skip
          have c_127 : ¬ (((vv / 16) - (vv / 16) / 4 * 4) ≤ 0) := c_127
          rw [if_neg c_127] at hres
          refine lv_aload_n hx hb dX6_turnOf_130 rfl (lv_at hl 0 rfl) ?_
          refine lv_iconst (v := 2) hx hb dX6_turnOf_131 (by decide) ?_
          refine lv_iload_n hx hb dX6_turnOf_132 rfl (lv_at hl 2 rfl) ?_
          refine lv_bipush (v := 64) hx hb dX6_turnOf_133 (by decide) ?_
          refine lv_idiv hx hb dX6_turnOf_135 (by decide) ?_
          refine lv_bipush (v := 61) hx hb dX6_turnOf_136 (by decide) ?_
          refine lv_irem hx hb dX6_turnOf_138 (by decide) ?_
          have hP : va_P D vwCl ((st_W cs sa sx) ++ []) H := k_nP hP
          have hD : va_D A ((st_W cs sa sx) ++ []) := k_nD hD
          have hc_139 := c_X6_change l D cs sa sx 2 ((vv / 64) - (vv / 64) / 61 * 61) (by decide)
          obtain ⟨r_139, o_139, e_139⟩ : ∃ r9 o9, (k_X6_change sx 2 ((vv / 64) - (vv / 64) / 61 * 61)) = (r9, o9) := ⟨_, _, rfl⟩
          rw [e_139] at hc_139 hres
          dsimp only at hc_139 hres
          refine kI_call (wc := (st_W cs sa sx)) (wr := []) (w1 := st_W cs sa o_139) (r := r_139) hE hP hD hS (k_rS (rest := []) (As := [.ref sa, .int 2, .int ((vv / 64) - (vv / 64) / 61 * 61)]) hE rfl (hc_139 H.size) (va_cwS 3 hts gX6_turnOf_X6_change rfl rfl rfl (by decide +kernel) ⟨Nat.le_of_ble_eq_true rfl, Nat.le_of_ble_eq_true rfl⟩) hP hD hS rfl hl rfl (Nat.le_of_ble_eq_true rfl) ⟨Nat.le_of_ble_eq_true rfl, Nat.le_of_ble_eq_true rfl⟩ dX6_turnOf_139) (fun H locs hP hD hS => ?_)
          have hP := k_uP hP
          have hD := k_uD hD
          have hP : va_P D vwCl (st_W cs sa o_139) H := hP
          have hD : va_D A (st_W cs sa o_139) := hD
          refine lv_pop hx hb dX6_turnOf_142 rfl ?_
          refine lv_goto (tgt := 166) hx hb dX6_turnOf_143 (by decide) ?_
          subst hres
          exact kV_ret () hE hS hP hD trivial (Nat.le_of_ble_eq_true rfl) (Nat.le_of_ble_eq_true rfl) dX6_turnOf_166
      · skip
        have c_104 : ¬ (vi ≤ 5) := c_104
        rw [if_neg c_104] at hres
        refine lv_aload_n hx hb dX6_turnOf_107 rfl (lv_at hl 0 rfl) ?_
        refine lv_iconst (v := 1) hx hb dX6_turnOf_108 (by decide) ?_
        refine lv_iload_n hx hb dX6_turnOf_109 rfl (lv_at hl 2 rfl) ?_
        refine lv_bipush (v := 12) hx hb dX6_turnOf_110 (by decide) ?_
        refine lv_irem hx hb dX6_turnOf_112 (by decide) ?_
        refine lv_iadd hx hb dX6_turnOf_113 ?_
        have hP : va_P D vwCl ((st_W cs sa sx) ++ []) H := k_nP hP
        have hD : va_D A ((st_W cs sa sx) ++ []) := k_nD hD
        have hc_114 := c_X6_ticksOn l D cs sa sx (1 + (vv - vv / 12 * 12)) (by assumption) (tt_b hvv)
        obtain ⟨r_114, o_114, e_114⟩ : ∃ r9 o9, (k_X6_ticksOn sx (1 + (vv - vv / 12 * 12))) = (r9, o9) := ⟨_, _, rfl⟩
        rw [e_114] at hc_114 hres
        dsimp only at hc_114 hres
        refine kI_call (wc := (st_W cs sa sx)) (wr := []) (w1 := st_W cs sa o_114) (r := r_114) hE hP hD hS (k_rS (rest := []) (As := [.ref sa, .int (1 + (vv - vv / 12 * 12))]) hE rfl (hc_114 H.size) (va_cwS 2 hts gX6_turnOf_X6_ticksOn rfl rfl rfl (by decide +kernel) ⟨Nat.le_of_ble_eq_true rfl, Nat.le_of_ble_eq_true rfl⟩) hP hD hS rfl hl rfl (Nat.le_of_ble_eq_true rfl) ⟨Nat.le_of_ble_eq_true rfl, Nat.le_of_ble_eq_true rfl⟩ dX6_turnOf_114) (fun H locs hP hD hS => ?_)
        have hP := k_uP hP
        have hD := k_uD hD
        have hP : va_P D vwCl (st_W cs sa o_114) H := hP
        have hD : va_D A (st_W cs sa o_114) := hD
        refine lv_pop hx hb dX6_turnOf_117 rfl ?_
        refine lv_goto (tgt := 166) hx hb dX6_turnOf_118 (by decide) ?_
        subst hres
        exact kV_ret () hE hS hP hD trivial (Nat.le_of_ble_eq_true rfl) (Nat.le_of_ble_eq_true rfl) dX6_turnOf_166
    · skip
      have c_63 : (vi = 4) := c_63
      rw [if_pos c_63] at hres
      refine lv_iload_n hx hb dX6_turnOf_66 rfl (lv_at hl 2 rfl) ?_
      refine lv_iconst (v := 4) hx hb dX6_turnOf_67 (by decide) ?_
      refine lv_idiv hx hb dX6_turnOf_68 (by decide) ?_
      refine lv_iconst (v := 2) hx hb dX6_turnOf_69 (by decide) ?_
      refine lv_irem hx hb dX6_turnOf_70 (by decide) ?_
      refine lv_if_ne (tgt := 86) hx hb dX6_turnOf_71 (by decide) (fun c_71 => ?_) (fun c_71 => ?_)
      · skip
        have c_71 : ¬ (((vv / 4) - (vv / 4) / 2 * 2) = 0) := c_71
        rw [if_neg c_71] at hres
        refine lv_aload_n hx hb dX6_turnOf_86 rfl (lv_at hl 0 rfl) ?_
        refine lv_iconst (v := 1) hx hb dX6_turnOf_87 (by decide) ?_
        refine lv_iload_n hx hb dX6_turnOf_88 rfl (lv_at hl 2 rfl) ?_
        refine lv_bipush (v := 8) hx hb dX6_turnOf_89 (by decide) ?_
        refine lv_idiv hx hb dX6_turnOf_91 (by decide) ?_
        refine lv_bipush (v := 10) hx hb dX6_turnOf_92 (by decide) ?_
        refine lv_irem hx hb dX6_turnOf_94 (by decide) ?_
        have hP : va_P D vwCl ((st_W cs sa sx) ++ []) H := k_nP hP
        have hD : va_D A ((st_W cs sa sx) ++ []) := k_nD hD
        have hc_95 := c_X6_change l D cs sa sx 1 ((vv / 8) - (vv / 8) / 10 * 10) (by decide)
        obtain ⟨r_95, o_95, e_95⟩ : ∃ r9 o9, (k_X6_change sx 1 ((vv / 8) - (vv / 8) / 10 * 10)) = (r9, o9) := ⟨_, _, rfl⟩
        rw [e_95] at hc_95 hres
        dsimp only at hc_95 hres
        refine kI_call (wc := (st_W cs sa sx)) (wr := []) (w1 := st_W cs sa o_95) (r := r_95) hE hP hD hS (k_rS (rest := []) (As := [.ref sa, .int 1, .int ((vv / 8) - (vv / 8) / 10 * 10)]) hE rfl (hc_95 H.size) (va_cwS 3 hts gX6_turnOf_X6_change rfl rfl rfl (by decide +kernel) ⟨Nat.le_of_ble_eq_true rfl, Nat.le_of_ble_eq_true rfl⟩) hP hD hS rfl hl rfl (Nat.le_of_ble_eq_true rfl) ⟨Nat.le_of_ble_eq_true rfl, Nat.le_of_ble_eq_true rfl⟩ dX6_turnOf_95) (fun H locs hP hD hS => ?_)
        have hP := k_uP hP
        have hD := k_uD hD
        have hP : va_P D vwCl (st_W cs sa o_95) H := hP
        have hD : va_D A (st_W cs sa o_95) := hD
        refine lv_pop hx hb dX6_turnOf_98 rfl ?_
        refine lv_goto (tgt := 166) hx hb dX6_turnOf_99 (by decide) ?_
        subst hres
        exact kV_ret () hE hS hP hD trivial (Nat.le_of_ble_eq_true rfl) (Nat.le_of_ble_eq_true rfl) dX6_turnOf_166
      · skip
        have c_71 : (((vv / 4) - (vv / 4) / 2 * 2) = 0) := c_71
        rw [if_pos c_71] at hres
        refine lv_aload_n hx hb dX6_turnOf_74 rfl (lv_at hl 0 rfl) ?_
        refine lv_iconst (v := 0) hx hb dX6_turnOf_75 (by decide) ?_
        refine lv_iload_n hx hb dX6_turnOf_76 rfl (lv_at hl 2 rfl) ?_
        refine lv_iconst (v := 4) hx hb dX6_turnOf_77 (by decide) ?_
        refine lv_irem hx hb dX6_turnOf_78 (by decide) ?_
        have hP : va_P D vwCl ((st_W cs sa sx) ++ []) H := k_nP hP
        have hD : va_D A ((st_W cs sa sx) ++ []) := k_nD hD
        have hc_79 := c_X6_change l D cs sa sx 0 (vv - vv / 4 * 4) (by decide)
        obtain ⟨r_79, o_79, e_79⟩ : ∃ r9 o9, (k_X6_change sx 0 (vv - vv / 4 * 4)) = (r9, o9) := ⟨_, _, rfl⟩
        rw [e_79] at hc_79 hres
        dsimp only at hc_79 hres
        refine kI_call (wc := (st_W cs sa sx)) (wr := []) (w1 := st_W cs sa o_79) (r := r_79) hE hP hD hS (k_rS (rest := []) (As := [.ref sa, .int 0, .int (vv - vv / 4 * 4)]) hE rfl (hc_79 H.size) (va_cwS 3 hts gX6_turnOf_X6_change rfl rfl rfl (by decide +kernel) ⟨Nat.le_of_ble_eq_true rfl, Nat.le_of_ble_eq_true rfl⟩) hP hD hS rfl hl rfl (Nat.le_of_ble_eq_true rfl) ⟨Nat.le_of_ble_eq_true rfl, Nat.le_of_ble_eq_true rfl⟩ dX6_turnOf_79) (fun H locs hP hD hS => ?_)
        have hP := k_uP hP
        have hD := k_uD hD
        have hP : va_P D vwCl (st_W cs sa o_79) H := hP
        have hD : va_D A (st_W cs sa o_79) := hD
        refine lv_pop hx hb dX6_turnOf_82 rfl ?_
        refine lv_goto (tgt := 166) hx hb dX6_turnOf_83 (by decide) ?_
        subst hres
        exact kV_ret () hE hS hP hD trivial (Nat.le_of_ble_eq_true rfl) (Nat.le_of_ble_eq_true rfl) dX6_turnOf_166
  · skip
    have c_2 : ¬ (4 ≤ vi) := c_2
    rw [if_neg c_2] at hres
    refine lv_aload_n hx hb dX6_turnOf_5 rfl (lv_at hl 0 rfl) ?_
    refine lv_iconst (v := 1) hx hb dX6_turnOf_6 (by decide) ?_
    refine k_iald hx hb hK hP 0 0 (v := (sx 1)) rfl rfl (k_inl rfl) rfl dX6_turnOf_7 ?_
    refine lv_bipush (v := 12) hx hb dX6_turnOf_8 (by decide) ?_
    refine lv_icmp_ge (tgt := 166) hx hb dX6_turnOf_10 (by decide) (fun c_10 => ?_) (fun c_10 => ?_)
    · skip
      have c_10 : (12 ≤ (sx 1)) := c_10
      rw [if_pos c_10] at hres
      subst hres
      exact kV_ret () hE hS hP hD trivial (Nat.le_of_ble_eq_true rfl) (Nat.le_of_ble_eq_true rfl) dX6_turnOf_166
    · skip
      have c_10 : ¬ (12 ≤ (sx 1)) := c_10
      rw [if_neg c_10] at hres
      refine lv_aload_n hx hb dX6_turnOf_13 rfl (lv_at hl 0 rfl) ?_
      refine lv_iload_n hx hb dX6_turnOf_14 rfl (lv_at hl 1 rfl) ?_
      refine lv_iconst (v := 3) hx hb dX6_turnOf_15 (by decide) ?_
      refine lv_icmp_ge (tgt := 23) hx hb dX6_turnOf_16 (by decide) (fun c_16 => ?_) (fun c_16 => ?_)
      · skip
        have c_16 : (3 ≤ vi) := c_16
        rw [if_pos c_16] at hres
        refine lv_iconst (v := 0) hx hb dX6_turnOf_23 (by decide) ?_
        refine lv_iload_n hx hb dX6_turnOf_24 rfl (lv_at hl 2 rfl) ?_
        refine lv_bipush (v := 6) hx hb dX6_turnOf_25 (by decide) ?_
        refine lv_irem hx hb dX6_turnOf_27 (by decide) ?_
        refine lv_iload_n hx hb dX6_turnOf_28 rfl (lv_at hl 2 rfl) ?_
        refine lv_bipush (v := 8) hx hb dX6_turnOf_29 (by decide) ?_
        refine lv_idiv hx hb dX6_turnOf_31 (by decide) ?_
        refine lv_bipush (v := 24) hx hb dX6_turnOf_32 (by decide) ?_
        refine lv_irem hx hb dX6_turnOf_34 (by decide) ?_
        refine lv_iload_n hx hb dX6_turnOf_35 rfl (lv_at hl 1 rfl) ?_
        refine lv_iconst (v := 3) hx hb dX6_turnOf_36 (by decide) ?_
        refine lv_icmp_ge (tgt := 53) hx hb dX6_turnOf_37 (by decide) (fun c_37 => ?_) (fun c_37 => ?_)
        · skip
          have c_37 : (3 ≤ vi) := c_37
          rw [if_pos c_37] at hres
          refine lv_iconst (v := 0) hx hb dX6_turnOf_53 (by decide) ?_
          have hP : va_P D vwCl ((st_W cs sa sx) ++ []) H := k_nP hP
          have hD : va_D A ((st_W cs sa sx) ++ []) := k_nD hD
          have hc_54 := c_X6_orderOn l D cs sa sx 0 (vv - vv / 6 * 6) ((vv / 8) - (vv / 8) / 24 * 24) 0 (by assumption) (lt12 c_10)
          obtain ⟨r_54, o_54, e_54⟩ : ∃ r9 o9, (k_X6_orderOn sx 0 (vv - vv / 6 * 6) ((vv / 8) - (vv / 8) / 24 * 24) 0) = (r9, o9) := ⟨_, _, rfl⟩
          rw [e_54] at hc_54 hres
          dsimp only at hc_54 hres
          refine kI_call (wc := (st_W cs sa sx)) (wr := []) (w1 := st_W cs sa o_54) (r := r_54) hE hP hD hS (k_rS (rest := []) (As := [.ref sa, .int 0, .int (vv - vv / 6 * 6), .int ((vv / 8) - (vv / 8) / 24 * 24), .int 0]) hE rfl (hc_54 H.size) (va_cwS 5 hts gX6_turnOf_X6_orderOn rfl rfl rfl (by decide +kernel) ⟨Nat.le_of_ble_eq_true rfl, Nat.le_of_ble_eq_true rfl⟩) hP hD hS rfl hl rfl (Nat.le_of_ble_eq_true rfl) ⟨Nat.le_of_ble_eq_true rfl, Nat.le_of_ble_eq_true rfl⟩ dX6_turnOf_54) (fun H locs hP hD hS => ?_)
          have hP := k_uP hP
          have hD := k_uD hD
          have hP : va_P D vwCl (st_W cs sa o_54) H := hP
          have hD : va_D A (st_W cs sa o_54) := hD
          refine lv_pop hx hb dX6_turnOf_57 rfl ?_
          refine lv_goto (tgt := 166) hx hb dX6_turnOf_58 (by decide) ?_
          subst hres
          exact kV_ret () hE hS hP hD trivial (Nat.le_of_ble_eq_true rfl) (Nat.le_of_ble_eq_true rfl) dX6_turnOf_166
        · skip
          have c_37 : ¬ (3 ≤ vi) := c_37
          rw [if_neg c_37] at hres
          refine lv_iconst (v := 1) hx hb dX6_turnOf_40 (by decide) ?_
          refine lv_iload_n hx hb dX6_turnOf_41 rfl (lv_at hl 2 rfl) ?_
          refine lv_sipush (v := 256) hx hb dX6_turnOf_42 (by decide) ?_
          refine lv_idiv hx hb dX6_turnOf_45 (by decide) ?_
          refine lv_bipush (v := 6) hx hb dX6_turnOf_46 (by decide) ?_
          refine lv_irem hx hb dX6_turnOf_48 (by decide) ?_
          refine lv_iadd hx hb dX6_turnOf_49 ?_
          refine lv_goto (tgt := 54) hx hb dX6_turnOf_50 (by decide) ?_
          have hP : va_P D vwCl ((st_W cs sa sx) ++ []) H := k_nP hP
          have hD : va_D A ((st_W cs sa sx) ++ []) := k_nD hD
          have hc_54 := c_X6_orderOn l D cs sa sx 0 (vv - vv / 6 * 6) ((vv / 8) - (vv / 8) / 24 * 24) (1 + ((vv / 256) - (vv / 256) / 6 * 6)) (by assumption) (lt12 c_10)
          obtain ⟨r_54, o_54, e_54⟩ : ∃ r9 o9, (k_X6_orderOn sx 0 (vv - vv / 6 * 6) ((vv / 8) - (vv / 8) / 24 * 24) (1 + ((vv / 256) - (vv / 256) / 6 * 6))) = (r9, o9) := ⟨_, _, rfl⟩
          rw [e_54] at hc_54 hres
          dsimp only at hc_54 hres
          refine kI_call (wc := (st_W cs sa sx)) (wr := []) (w1 := st_W cs sa o_54) (r := r_54) hE hP hD hS (k_rS (rest := []) (As := [.ref sa, .int 0, .int (vv - vv / 6 * 6), .int ((vv / 8) - (vv / 8) / 24 * 24), .int (1 + ((vv / 256) - (vv / 256) / 6 * 6))]) hE rfl (hc_54 H.size) (va_cwS 5 hts gX6_turnOf_X6_orderOn rfl rfl rfl (by decide +kernel) ⟨Nat.le_of_ble_eq_true rfl, Nat.le_of_ble_eq_true rfl⟩) hP hD hS rfl hl rfl (Nat.le_of_ble_eq_true rfl) ⟨Nat.le_of_ble_eq_true rfl, Nat.le_of_ble_eq_true rfl⟩ dX6_turnOf_54) (fun H locs hP hD hS => ?_)
          have hP := k_uP hP
          have hD := k_uD hD
          have hP : va_P D vwCl (st_W cs sa o_54) H := hP
          have hD : va_D A (st_W cs sa o_54) := hD
          refine lv_pop hx hb dX6_turnOf_57 rfl ?_
          refine lv_goto (tgt := 166) hx hb dX6_turnOf_58 (by decide) ?_
          subst hres
          exact kV_ret () hE hS hP hD trivial (Nat.le_of_ble_eq_true rfl) (Nat.le_of_ble_eq_true rfl) dX6_turnOf_166
      · skip
        have c_16 : ¬ (3 ≤ vi) := c_16
        rw [if_neg c_16] at hres
        refine lv_iconst (v := 1) hx hb dX6_turnOf_19 (by decide) ?_
        refine lv_goto (tgt := 24) hx hb dX6_turnOf_20 (by decide) ?_
        refine lv_iload_n hx hb dX6_turnOf_24 rfl (lv_at hl 2 rfl) ?_
        refine lv_bipush (v := 6) hx hb dX6_turnOf_25 (by decide) ?_
        refine lv_irem hx hb dX6_turnOf_27 (by decide) ?_
        refine lv_iload_n hx hb dX6_turnOf_28 rfl (lv_at hl 2 rfl) ?_
        refine lv_bipush (v := 8) hx hb dX6_turnOf_29 (by decide) ?_
        refine lv_idiv hx hb dX6_turnOf_31 (by decide) ?_
        refine lv_bipush (v := 24) hx hb dX6_turnOf_32 (by decide) ?_
        refine lv_irem hx hb dX6_turnOf_34 (by decide) ?_
        refine lv_iload_n hx hb dX6_turnOf_35 rfl (lv_at hl 1 rfl) ?_
        refine lv_iconst (v := 3) hx hb dX6_turnOf_36 (by decide) ?_
        refine lv_icmp_ge (tgt := 53) hx hb dX6_turnOf_37 (by decide) (fun c_37 => ?_) (fun c_37 => ?_)
        · skip
          have c_37 : (3 ≤ vi) := c_37
          rw [if_pos c_37] at hres
          refine lv_iconst (v := 0) hx hb dX6_turnOf_53 (by decide) ?_
          have hP : va_P D vwCl ((st_W cs sa sx) ++ []) H := k_nP hP
          have hD : va_D A ((st_W cs sa sx) ++ []) := k_nD hD
          have hc_54 := c_X6_orderOn l D cs sa sx 1 (vv - vv / 6 * 6) ((vv / 8) - (vv / 8) / 24 * 24) 0 (by assumption) (lt12 c_10)
          obtain ⟨r_54, o_54, e_54⟩ : ∃ r9 o9, (k_X6_orderOn sx 1 (vv - vv / 6 * 6) ((vv / 8) - (vv / 8) / 24 * 24) 0) = (r9, o9) := ⟨_, _, rfl⟩
          rw [e_54] at hc_54 hres
          dsimp only at hc_54 hres
          refine kI_call (wc := (st_W cs sa sx)) (wr := []) (w1 := st_W cs sa o_54) (r := r_54) hE hP hD hS (k_rS (rest := []) (As := [.ref sa, .int 1, .int (vv - vv / 6 * 6), .int ((vv / 8) - (vv / 8) / 24 * 24), .int 0]) hE rfl (hc_54 H.size) (va_cwS 5 hts gX6_turnOf_X6_orderOn rfl rfl rfl (by decide +kernel) ⟨Nat.le_of_ble_eq_true rfl, Nat.le_of_ble_eq_true rfl⟩) hP hD hS rfl hl rfl (Nat.le_of_ble_eq_true rfl) ⟨Nat.le_of_ble_eq_true rfl, Nat.le_of_ble_eq_true rfl⟩ dX6_turnOf_54) (fun H locs hP hD hS => ?_)
          have hP := k_uP hP
          have hD := k_uD hD
          have hP : va_P D vwCl (st_W cs sa o_54) H := hP
          have hD : va_D A (st_W cs sa o_54) := hD
          refine lv_pop hx hb dX6_turnOf_57 rfl ?_
          refine lv_goto (tgt := 166) hx hb dX6_turnOf_58 (by decide) ?_
          subst hres
          exact kV_ret () hE hS hP hD trivial (Nat.le_of_ble_eq_true rfl) (Nat.le_of_ble_eq_true rfl) dX6_turnOf_166
        · skip
          have c_37 : ¬ (3 ≤ vi) := c_37
          rw [if_neg c_37] at hres
          refine lv_iconst (v := 1) hx hb dX6_turnOf_40 (by decide) ?_
          refine lv_iload_n hx hb dX6_turnOf_41 rfl (lv_at hl 2 rfl) ?_
          refine lv_sipush (v := 256) hx hb dX6_turnOf_42 (by decide) ?_
          refine lv_idiv hx hb dX6_turnOf_45 (by decide) ?_
          refine lv_bipush (v := 6) hx hb dX6_turnOf_46 (by decide) ?_
          refine lv_irem hx hb dX6_turnOf_48 (by decide) ?_
          refine lv_iadd hx hb dX6_turnOf_49 ?_
          refine lv_goto (tgt := 54) hx hb dX6_turnOf_50 (by decide) ?_
          have hP : va_P D vwCl ((st_W cs sa sx) ++ []) H := k_nP hP
          have hD : va_D A ((st_W cs sa sx) ++ []) := k_nD hD
          have hc_54 := c_X6_orderOn l D cs sa sx 1 (vv - vv / 6 * 6) ((vv / 8) - (vv / 8) / 24 * 24) (1 + ((vv / 256) - (vv / 256) / 6 * 6)) (by assumption) (lt12 c_10)
          obtain ⟨r_54, o_54, e_54⟩ : ∃ r9 o9, (k_X6_orderOn sx 1 (vv - vv / 6 * 6) ((vv / 8) - (vv / 8) / 24 * 24) (1 + ((vv / 256) - (vv / 256) / 6 * 6))) = (r9, o9) := ⟨_, _, rfl⟩
          rw [e_54] at hc_54 hres
          dsimp only at hc_54 hres
          refine kI_call (wc := (st_W cs sa sx)) (wr := []) (w1 := st_W cs sa o_54) (r := r_54) hE hP hD hS (k_rS (rest := []) (As := [.ref sa, .int 1, .int (vv - vv / 6 * 6), .int ((vv / 8) - (vv / 8) / 24 * 24), .int (1 + ((vv / 256) - (vv / 256) / 6 * 6))]) hE rfl (hc_54 H.size) (va_cwS 5 hts gX6_turnOf_X6_orderOn rfl rfl rfl (by decide +kernel) ⟨Nat.le_of_ble_eq_true rfl, Nat.le_of_ble_eq_true rfl⟩) hP hD hS rfl hl rfl (Nat.le_of_ble_eq_true rfl) ⟨Nat.le_of_ble_eq_true rfl, Nat.le_of_ble_eq_true rfl⟩ dX6_turnOf_54) (fun H locs hP hD hS => ?_)
          have hP := k_uP hP
          have hD := k_uD hD
          have hP : va_P D vwCl (st_W cs sa o_54) H := hP
          have hD : va_D A (st_W cs sa o_54) := hD
          refine lv_pop hx hb dX6_turnOf_57 rfl ?_
          refine lv_goto (tgt := 166) hx hb dX6_turnOf_58 (by decide) ?_
          subst hres
          exact kV_ret () hE hS hP hD trivial (Nat.le_of_ble_eq_true rfl) (Nat.le_of_ble_eq_true rfl) dX6_turnOf_166
