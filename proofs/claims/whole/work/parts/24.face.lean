theorem md_d25 {cs : Nat → ClassId} {ma : Nat → Nat} {o : MV} {x : Nat → Int32} : [2, 3, 0, 4, 5, 1, 6].map (fun i => ((cp_W cs (ma 2) (ma 5) 217 434 (o.2 1) x) ++ (x_pick (md_W cs ma o) [0, 1, 3, 4, 6]))[i]?) = (md_W cs ma (m_r o 4 x)).map some := rfl
theorem md_d52 {cs : Nat → ClassId} {ma : Nat → Nat} {o : MV} {x : Nat → Int32} : [2, 3, 1, 4, 5, 0, 6].map (fun i => ((cp_W cs (ma 5) (ma 2) 434 217 (o.2 4) x) ++ (x_pick (md_W cs ma o) [0, 1, 3, 4, 6]))[i]?) = (md_W cs ma (m_r o 1 x)).map some := rfl
theorem md_d24 {cs : Nat → ClassId} {ma : Nat → Nat} {o : MV} {x : Nat → Int32} : [2, 3, 0, 4, 1, 5, 6].map (fun i => ((cp_W cs (ma 2) (ma 4) 217 3038 (o.2 1) x) ++ (x_pick (md_W cs ma o) [0, 1, 3, 5, 6]))[i]?) = (md_W cs ma (m_r o 3 x)).map some := rfl
theorem md_d42 {cs : Nat → ClassId} {ma : Nat → Nat} {o : MV} {x : Nat → Int32} : [2, 3, 1, 4, 0, 5, 6].map (fun i => ((cp_W cs (ma 4) (ma 2) 3038 217 (o.2 3) x) ++ (x_pick (md_W cs ma o) [0, 1, 3, 5, 6]))[i]?) = (md_W cs ma (m_r o 1 x)).map some := rfl
theorem md_k25 {cs : Nat → ClassId} {ma : Nat → Nat} {o : MV} {x : Nat → Int32} : [2, 3, 0, 4, 5, 1, 6].filterMap (fun i => ((cp_W cs (ma 2) (ma 5) 217 434 (o.2 1) x) ++ (x_pick (md_W cs ma o) [0, 1, 3, 4, 6]))[i]?) = md_W cs ma (m_r o 4 x) := rfl
theorem md_k52 {cs : Nat → ClassId} {ma : Nat → Nat} {o : MV} {x : Nat → Int32} : [2, 3, 1, 4, 5, 0, 6].filterMap (fun i => ((cp_W cs (ma 5) (ma 2) 434 217 (o.2 4) x) ++ (x_pick (md_W cs ma o) [0, 1, 3, 4, 6]))[i]?) = md_W cs ma (m_r o 1 x) := rfl
theorem md_k24 {cs : Nat → ClassId} {ma : Nat → Nat} {o : MV} {x : Nat → Int32} : [2, 3, 0, 4, 1, 5, 6].filterMap (fun i => ((cp_W cs (ma 2) (ma 4) 217 3038 (o.2 1) x) ++ (x_pick (md_W cs ma o) [0, 1, 3, 5, 6]))[i]?) = md_W cs ma (m_r o 3 x) := rfl
theorem md_k42 {cs : Nat → ClassId} {ma : Nat → Nat} {o : MV} {x : Nat → Int32} : [2, 3, 1, 4, 0, 5, 6].filterMap (fun i => ((cp_W cs (ma 4) (ma 2) 3038 217 (o.2 3) x) ++ (x_pick (md_W cs ma o) [0, 1, 3, 5, 6]))[i]?) = md_W cs ma (m_r o 1 x) := rfl
set_option maxHeartbeats 4000000 in
set_option maxRecDepth 100000 in
theorem c_X6_errorPosition (l : Launch) (D : va_G) (cs : Nat → ClassId) (ma : Nat → Nat) (mv : MV) (hM : MO mv) : kI l yX6_errorPosition wsX6_errorPosition { frames := 9, cells := 0, slots := 0, locals := 204 } 0 0 D cs [.ref (ma 0)] (md_W cs ma mv) (k_X6_errorPosition mv).1 (md_W cs ma ((k_X6_errorPosition mv).2)) := by
  generalize hres : k_X6_errorPosition mv = res
  refine kI_of (cc := cX6_errorPosition) (maxL := 1) (ret := (some .int)) (by decide) rfl (Nat.le_of_ble_eq_true rfl) ?_
  intro p e s m below meth c A ls H locs hE hS hP hD hl
  obtain ⟨hx, hb, hr, hlocks, hml, hown, hts, hK, hA, hG, hnm⟩ := id hE
  have hown : s.vm.findClass RX6 = some m.cls := hown
  have hl : lv_has ls 1 [(0, .ref (ma 0))] := hl
  have hinX6 : ∀ w ∈ wsX60, w ∈ wsX6_errorPosition := by decide +kernel
  have lk_0 := hts (.fieldLink RX6 33 "OrganPegsModel" "refusal" "I") (by decide +kernel)
  have lk_1 := hts (.fieldLink RX6 16 "OrganPegsModel" "trial" "[I") (by decide +kernel)
  unfold k_X6_errorPosition at hres
  refine lv_aload_n hx hb dX6_errorPosition_0 rfl (lv_at hl 0 rfl) ?_
  refine lv_iconst (v := 0) hx hb dX6_errorPosition_1 (by decide) ?_
  refine va_put (D := D) (ci := 6) (v := .int 0) (ty := .int) (C := RX6) (T := TX6) (N := 11) hx hb hts hinX6 tyX6 tyX6_ok nmX6 hown hK hP hD hS 0 rfl rfl 0 (by decide) lk_0 (fun _ h9 => h9) rfl (by decide +kernel) rfl rfl (Nat.le_of_ble_eq_true rfl) dX6_errorPosition_2 (fun H locs hP hD hS => ?_)
  have hP : va_P D vwCl (md_W cs ma (m_s mv 0 0)) H := hP
  have hD : va_D A (md_W cs ma (m_s mv 0 0)) := hD
  refine lv_aload_n hx hb dX6_errorPosition_5 rfl (lv_at hl 0 rfl) ?_
  refine lv_aload_n hx hb dX6_errorPosition_6 rfl (lv_at hl 0 rfl) ?_
  refine va_get (D := D) (ci := 6) (v := .ref (ma 3)) (C := RX6) (T := TX6) (N := 11) hx hb hts hinX6 hown hK hP 0 rfl rfl 4 (by decide) lk_1 (fun _ h9 => h9) rfl dX6_errorPosition_7 ?_
  have hP : va_P D vwCl ((md_W cs ma (m_s mv 0 0)) ++ []) H := k_nP hP
  have hD : va_D A ((md_W cs ma (m_s mv 0 0)) ++ []) := k_nD hD
  have hc_10 := c_X6_readText l D cs ma (m_s mv 0 0)  hM.2.1
  obtain ⟨r_10, o_10, e_10⟩ : ∃ r9 o9, (k_X6_readText (m_s mv 0 0)) = (r9, o9) := ⟨_, _, rfl⟩
  rw [e_10] at hc_10 hres
  dsimp only at hc_10 hres
  refine kI_call (wc := (md_W cs ma (m_s mv 0 0))) (wr := []) (w1 := md_W cs ma o_10) (r := r_10) hE hP hD hS (k_rV (rest := []) (As := [.ref (ma 3)]) hE rfl (hc_10 H.size) (cwV 1 hts gX6_errorPosition_X6_readText rfl rfl rfl (by decide +kernel) ⟨Nat.le_of_ble_eq_true rfl, Nat.le_of_ble_eq_true rfl⟩) hP hD hS (ci := 6) (q0 := 0) rfl rfl rfl hl rfl (Nat.le_of_ble_eq_true rfl) ⟨Nat.le_of_ble_eq_true rfl, Nat.le_of_ble_eq_true rfl⟩ dX6_errorPosition_10) (fun H locs hP hD hS => ?_)
  have hP := k_uP hP
  have hD := k_uD hD
  have hP : va_P D vwCl (md_W cs ma o_10) H := hP
  have hD : va_D A (md_W cs ma o_10) := hD
  subst hres
  exact kI_ret hE hS hP hD rfl rfl (Nat.le_of_ble_eq_true rfl) (Nat.le_of_ble_eq_true rfl) dX6_errorPosition_13
set_option maxHeartbeats 4000000 in
set_option maxRecDepth 100000 in
theorem c_X6_load (l : Launch) (D : va_G) (cs : Nat → ClassId) (ma : Nat → Nat) (mv : MV) (hM : MO mv) : kI l yX6_load wsX6_load { frames := 9, cells := 0, slots := 0, locals := 204 } 0 0 D cs [.ref (ma 0)] (md_W cs ma mv) (k_X6_load mv).1 (md_W cs ma ((k_X6_load mv).2)) := by
  generalize hres : k_X6_load mv = res
  refine kI_of (cc := cX6_load) (maxL := 1) (ret := (some .int)) (by decide) rfl (Nat.le_of_ble_eq_true rfl) ?_
  intro p e s m below meth c A ls H locs hE hS hP hD hl
  obtain ⟨hx, hb, hr, hlocks, hml, hown, hts, hK, hA, hG, hnm⟩ := id hE
  have hown : s.vm.findClass RX6 = some m.cls := hown
  have hl : lv_has ls 1 [(0, .ref (ma 0))] := hl
  have hinX6 : ∀ w ∈ wsX60, w ∈ wsX6_load := by decide +kernel
  have lk_0 := hts (.fieldLink RX6 16 "OrganPegsModel" "trial" "[I") (by decide +kernel)
  have lk_1 := hts (.fieldLink RX6 13 "OrganPegsModel" "now" "[I") (by decide +kernel)
  have lk_2 := hts (.fieldLink RX6 162 "OrganPegsModel" "acts" "I") (by decide +kernel)
  have lk_3 := hts (.fieldLink RX6 25 "OrganPegsModel" "isKept" "[Z") (by decide +kernel)
  have lk_4 := hts (.fieldLink RX6 114 "OrganPegsModel" "out" "I") (by decide +kernel)
  unfold k_X6_load at hres
  refine lv_aload_n hx hb dX6_load_0 rfl (lv_at hl 0 rfl) ?_
  refine lv_aload_n hx hb dX6_load_1 rfl (lv_at hl 0 rfl) ?_
  refine lv_aload_n hx hb dX6_load_2 rfl (lv_at hl 0 rfl) ?_
  refine va_get (D := D) (ci := 6) (v := .ref (ma 3)) (C := RX6) (T := TX6) (N := 11) hx hb hts hinX6 hown hK hP 0 rfl rfl 4 (by decide) lk_0 (fun _ h9 => h9) rfl dX6_load_3 ?_
  have hP : va_P D vwCl ((md_W cs ma mv) ++ []) H := k_nP hP
  have hD : va_D A ((md_W cs ma mv) ++ []) := k_nD hD
  have hc_6 := c_X6_readText l D cs ma mv  hM.2.1
  obtain ⟨r_6, o_6, e_6⟩ : ∃ r9 o9, (k_X6_readText mv) = (r9, o9) := ⟨_, _, rfl⟩
  rw [e_6] at hc_6 hres
  dsimp only at hc_6 hres
  refine kI_call (wc := (md_W cs ma mv)) (wr := []) (w1 := md_W cs ma o_6) (r := r_6) hE hP hD hS (k_rV (rest := [.ref (ma 0)]) (As := [.ref (ma 3)]) hE rfl (hc_6 H.size) (cwV 1 hts gX6_load_X6_readText rfl rfl rfl (by decide +kernel) ⟨Nat.le_of_ble_eq_true rfl, Nat.le_of_ble_eq_true rfl⟩) hP hD hS (ci := 6) (q0 := 0) rfl rfl rfl hl rfl (Nat.le_of_ble_eq_true rfl) ⟨Nat.le_of_ble_eq_true rfl, Nat.le_of_ble_eq_true rfl⟩ dX6_load_6) (fun H locs hP hD hS => ?_)
  have hP := k_uP hP
  have hD := k_uD hD
  have hP : va_P D vwCl (md_W cs ma o_6) H := hP
  have hD : va_D A (md_W cs ma o_6) := hD
  refine lv_iconst (v := (-1)) hx hb dX6_load_9 (by decide) ?_
  refine lv_icmp_ne (tgt := 17) hx hb dX6_load_10 (by decide) (fun c_10 => ?_) (fun c_10 => ?_)
  · skip
    have c_10 : ¬ (r_6 = (-1)) := c_10
    rw [if_neg c_10] at hres
    refine lv_iconst (v := 1) hx hb dX6_load_17 (by decide) ?_
    have hP : va_P D vwCl ((md_W cs ma o_6) ++ []) H := k_nP hP
    have hD : va_D A ((md_W cs ma o_6) ++ []) := k_nD hD
    have hc_18 := c_X6_refused l D cs ma o_6 1
    obtain ⟨r_18, o_18, e_18⟩ : ∃ r9 o9, (k_X6_refused o_6 1) = (r9, o9) := ⟨_, _, rfl⟩
    rw [e_18] at hc_18 hres
    dsimp only at hc_18 hres
    refine kI_call (wc := (md_W cs ma o_6)) (wr := []) (w1 := md_W cs ma o_18) (r := r_18) hE hP hD hS (k_rV (rest := []) (As := [.int 1]) hE rfl (hc_18 H.size) (cwV 1 hts gX6_load_X6_refused rfl rfl rfl (by decide +kernel) ⟨Nat.le_of_ble_eq_true rfl, Nat.le_of_ble_eq_true rfl⟩) hP hD hS (ci := 6) (q0 := 0) rfl rfl rfl hl rfl (Nat.le_of_ble_eq_true rfl) ⟨Nat.le_of_ble_eq_true rfl, Nat.le_of_ble_eq_true rfl⟩ dX6_load_18) (fun H locs hP hD hS => ?_)
    have hP := k_uP hP
    have hD := k_uD hD
    have hP : va_P D vwCl (md_W cs ma o_18) H := hP
    have hD : va_D A (md_W cs ma o_18) := hD
    refine lv_if_eq (tgt := 26) hx hb dX6_load_21 (by decide) (fun c_21 => ?_) (fun c_21 => ?_)
    · skip
      have c_21 : (r_18 = 0) := c_21
      rw [if_pos c_21] at hres
      refine lv_aload_n hx hb dX6_load_26 rfl (lv_at hl 0 rfl) ?_
      refine va_get (D := D) (ci := 6) (v := .ref (ma 3)) (C := RX6) (T := TX6) (N := 11) hx hb hts hinX6 hown hK hP 0 rfl rfl 4 (by decide) lk_0 (fun _ h9 => h9) rfl dX6_load_27 ?_
      refine lv_iconst (v := 0) hx hb dX6_load_30 (by decide) ?_
      refine lv_aload_n hx hb dX6_load_31 rfl (lv_at hl 0 rfl) ?_
      refine va_get (D := D) (ci := 6) (v := .ref (ma 2)) (C := RX6) (T := TX6) (N := 11) hx hb hts hinX6 hown hK hP 0 rfl rfl 3 (by decide) lk_1 (fun _ h9 => h9) rfl dX6_load_32 ?_
      refine lv_iconst (v := 0) hx hb dX6_load_35 (by decide) ?_
      have hP := hP.sub (ws' := (cp_W cs (ma 3) (ma 2) 217 217 (o_18.2 2) (o_18.2 1)) ++ (x_pick (md_W cs ma o_18) [0, 1, 4, 5, 6])) [3, 2, 0, 1, 4, 5, 6] rfl
      have hD := hD.sub (ws' := (cp_W cs (ma 3) (ma 2) 217 217 (o_18.2 2) (o_18.2 1)) ++ (x_pick (md_W cs ma o_18) [0, 1, 4, 5, 6])) [3, 2, 0, 1, 4, 5, 6] (by decide) rfl
      have hc_36 := c_X6_copyState l D cs (ma 3) (ma 2) 217 217 (o_18.2 2) (o_18.2 1) 0 0 (cp_0 (by decide) (by decide)) (cp_0 (by decide) (by decide))
      refine kV_call (wc := (cp_W cs (ma 3) (ma 2) 217 217 (o_18.2 2) (o_18.2 1))) (wr := (x_pick (md_W cs ma o_18) [0, 1, 4, 5, 6])) (w1 := fun _ => cp_W cs (ma 3) (ma 2) 217 217 (o_18.2 2) (k_X6_copyState (o_18.2 2) (o_18.2 1) 0 0)) hE hP hD hS (k_rS (rest := []) (As := [.ref (ma 3), .int 0, .ref (ma 2), .int 0]) hE rfl (hc_36 H.size) (va_cwS 4 hts gX6_load_X6_copyState rfl rfl rfl (by decide +kernel) ⟨Nat.le_of_ble_eq_true rfl, Nat.le_of_ble_eq_true rfl⟩) hP hD hS rfl hl rfl (Nat.le_of_ble_eq_true rfl) ⟨Nat.le_of_ble_eq_true rfl, Nat.le_of_ble_eq_true rfl⟩ dX6_load_36) (fun _ H locs _ hP hD hS => ?_)
      have hP := hP.sub (ws' := md_W cs ma (m_r o_18 1 (k_X6_copyState (o_18.2 2) (o_18.2 1) 0 0))) [2, 3, 1, 0, 4, 5, 6] rfl
      have hD := hD.sub (ws' := md_W cs ma (m_r o_18 1 (k_X6_copyState (o_18.2 2) (o_18.2 1) 0 0))) [2, 3, 1, 0, 4, 5, 6] (by decide) rfl
      have hP : va_P D vwCl (md_W cs ma (m_r o_18 1 (k_X6_copyState (o_18.2 2) (o_18.2 1) 0 0))) H := hP
      have hD : va_D A (md_W cs ma (m_r o_18 1 (k_X6_copyState (o_18.2 2) (o_18.2 1) 0 0))) := hD
      refine lv_aload_n hx hb dX6_load_39 rfl (lv_at hl 0 rfl) ?_
      refine lv_iconst (v := 0) hx hb dX6_load_40 (by decide) ?_
      refine va_put (D := D) (ci := 6) (v := .int 0) (ty := .int) (C := RX6) (T := TX6) (N := 11) hx hb hts hinX6 tyX6 tyX6_ok nmX6 hown hK hP hD hS 0 rfl rfl 6 (by decide) lk_2 (fun _ h9 => h9) rfl (by decide +kernel) rfl rfl (Nat.le_of_ble_eq_true rfl) dX6_load_41 (fun H locs hP hD hS => ?_)
      have hP : va_P D vwCl (md_W cs ma (m_r (m_s o_18 2 0) 1 (k_X6_copyState (o_18.2 2) (o_18.2 1) 0 0))) H := hP
      have hD : va_D A (md_W cs ma (m_r (m_s o_18 2 0) 1 (k_X6_copyState (o_18.2 2) (o_18.2 1) 0 0))) := hD
      refine lv_aload_n hx hb dX6_load_44 rfl (lv_at hl 0 rfl) ?_
      refine va_get (D := D) (ci := 6) (v := .ref (ma 6)) (C := RX6) (T := TX6) (N := 11) hx hb hts hinX6 hown hK hP 0 rfl rfl 8 (by decide) lk_3 (fun _ h9 => h9) rfl dX6_load_45 ?_
      refine lv_iconst (v := 0) hx hb dX6_load_48 (by decide) ?_
      refine lv_iconst (v := 0) hx hb dX6_load_49 (by decide) ?_
      refine k_zast hx hb hK hP hD hS 6 2 (k := 0) rfl rfl (k_inl rfl) rfl rfl dX6_load_50 (fun H locs hP hD hS => ?_)
      have hP : va_P D vwCl (md_W cs ma (m_r (m_r (m_s o_18 2 0) 1 (k_X6_copyState (o_18.2 2) (o_18.2 1) 0 0)) 5 (va_up (o_18.2 5) 0 0))) H := hP
      have hD : va_D A (md_W cs ma (m_r (m_r (m_s o_18 2 0) 1 (k_X6_copyState (o_18.2 2) (o_18.2 1) 0 0)) 5 (va_up (o_18.2 5) 0 0))) := hD
      refine lv_aload_n hx hb dX6_load_51 rfl (lv_at hl 0 rfl) ?_
      refine va_get (D := D) (ci := 6) (v := .ref (ma 6)) (C := RX6) (T := TX6) (N := 11) hx hb hts hinX6 hown hK hP 0 rfl rfl 8 (by decide) lk_3 (fun _ h9 => h9) rfl dX6_load_52 ?_
      refine lv_iconst (v := 1) hx hb dX6_load_55 (by decide) ?_
      refine lv_iconst (v := 0) hx hb dX6_load_56 (by decide) ?_
      refine k_zast hx hb hK hP hD hS 6 2 (k := 1) rfl rfl (k_inl rfl) rfl rfl dX6_load_57 (fun H locs hP hD hS => ?_)
      have hP : va_P D vwCl (md_W cs ma (m_r (m_r (m_s o_18 2 0) 1 (k_X6_copyState (o_18.2 2) (o_18.2 1) 0 0)) 5 (va_up (va_up (o_18.2 5) 0 0) 1 0))) H := hP
      have hD : va_D A (md_W cs ma (m_r (m_r (m_s o_18 2 0) 1 (k_X6_copyState (o_18.2 2) (o_18.2 1) 0 0)) 5 (va_up (va_up (o_18.2 5) 0 0) 1 0))) := hD
      refine lv_aload_n hx hb dX6_load_58 rfl (lv_at hl 0 rfl) ?_
      refine va_get (D := D) (ci := 6) (v := .int (o_18.1 4)) (C := RX6) (T := TX6) (N := 11) hx hb hts hinX6 hown hK hP 0 rfl rfl 10 (by decide) lk_4 (fun _ h9 => h9) rfl dX6_load_59 ?_
      subst hres
      exact kI_ret hE hS hP hD rfl rfl (Nat.le_of_ble_eq_true rfl) (Nat.le_of_ble_eq_true rfl) dX6_load_62
    · skip
      have c_21 : ¬ (r_18 = 0) := c_21
      rw [if_neg c_21] at hres
      refine lv_iconst (v := 0) hx hb dX6_load_24 (by decide) ?_
      subst hres
      exact kI_ret hE hS hP hD rfl rfl (Nat.le_of_ble_eq_true rfl) (Nat.le_of_ble_eq_true rfl) dX6_load_25
  · skip
    have c_10 : (r_6 = (-1)) := c_10
    rw [if_pos c_10] at hres
    refine lv_iconst (v := 0) hx hb dX6_load_13 (by decide) ?_
    refine lv_goto (tgt := 18) hx hb dX6_load_14 (by decide) ?_
    have hP : va_P D vwCl ((md_W cs ma o_6) ++ []) H := k_nP hP
    have hD : va_D A ((md_W cs ma o_6) ++ []) := k_nD hD
    have hc_18 := c_X6_refused l D cs ma o_6 0
    obtain ⟨r_18, o_18, e_18⟩ : ∃ r9 o9, (k_X6_refused o_6 0) = (r9, o9) := ⟨_, _, rfl⟩
    rw [e_18] at hc_18 hres
    dsimp only at hc_18 hres
    refine kI_call (wc := (md_W cs ma o_6)) (wr := []) (w1 := md_W cs ma o_18) (r := r_18) hE hP hD hS (k_rV (rest := []) (As := [.int 0]) hE rfl (hc_18 H.size) (cwV 1 hts gX6_load_X6_refused rfl rfl rfl (by decide +kernel) ⟨Nat.le_of_ble_eq_true rfl, Nat.le_of_ble_eq_true rfl⟩) hP hD hS (ci := 6) (q0 := 0) rfl rfl rfl hl rfl (Nat.le_of_ble_eq_true rfl) ⟨Nat.le_of_ble_eq_true rfl, Nat.le_of_ble_eq_true rfl⟩ dX6_load_18) (fun H locs hP hD hS => ?_)
    have hP := k_uP hP
    have hD := k_uD hD
    have hP : va_P D vwCl (md_W cs ma o_18) H := hP
    have hD : va_D A (md_W cs ma o_18) := hD
    refine lv_if_eq (tgt := 26) hx hb dX6_load_21 (by decide) (fun c_21 => ?_) (fun c_21 => ?_)
    · skip
      have c_21 : (r_18 = 0) := c_21
      rw [if_pos c_21] at hres
      refine lv_aload_n hx hb dX6_load_26 rfl (lv_at hl 0 rfl) ?_
      refine va_get (D := D) (ci := 6) (v := .ref (ma 3)) (C := RX6) (T := TX6) (N := 11) hx hb hts hinX6 hown hK hP 0 rfl rfl 4 (by decide) lk_0 (fun _ h9 => h9) rfl dX6_load_27 ?_
      refine lv_iconst (v := 0) hx hb dX6_load_30 (by decide) ?_
      refine lv_aload_n hx hb dX6_load_31 rfl (lv_at hl 0 rfl) ?_
      refine va_get (D := D) (ci := 6) (v := .ref (ma 2)) (C := RX6) (T := TX6) (N := 11) hx hb hts hinX6 hown hK hP 0 rfl rfl 3 (by decide) lk_1 (fun _ h9 => h9) rfl dX6_load_32 ?_
      refine lv_iconst (v := 0) hx hb dX6_load_35 (by decide) ?_
      have hP := hP.sub (ws' := (cp_W cs (ma 3) (ma 2) 217 217 (o_18.2 2) (o_18.2 1)) ++ (x_pick (md_W cs ma o_18) [0, 1, 4, 5, 6])) [3, 2, 0, 1, 4, 5, 6] rfl
      have hD := hD.sub (ws' := (cp_W cs (ma 3) (ma 2) 217 217 (o_18.2 2) (o_18.2 1)) ++ (x_pick (md_W cs ma o_18) [0, 1, 4, 5, 6])) [3, 2, 0, 1, 4, 5, 6] (by decide) rfl
      have hc_36 := c_X6_copyState l D cs (ma 3) (ma 2) 217 217 (o_18.2 2) (o_18.2 1) 0 0 (cp_0 (by decide) (by decide)) (cp_0 (by decide) (by decide))
      refine kV_call (wc := (cp_W cs (ma 3) (ma 2) 217 217 (o_18.2 2) (o_18.2 1))) (wr := (x_pick (md_W cs ma o_18) [0, 1, 4, 5, 6])) (w1 := fun _ => cp_W cs (ma 3) (ma 2) 217 217 (o_18.2 2) (k_X6_copyState (o_18.2 2) (o_18.2 1) 0 0)) hE hP hD hS (k_rS (rest := []) (As := [.ref (ma 3), .int 0, .ref (ma 2), .int 0]) hE rfl (hc_36 H.size) (va_cwS 4 hts gX6_load_X6_copyState rfl rfl rfl (by decide +kernel) ⟨Nat.le_of_ble_eq_true rfl, Nat.le_of_ble_eq_true rfl⟩) hP hD hS rfl hl rfl (Nat.le_of_ble_eq_true rfl) ⟨Nat.le_of_ble_eq_true rfl, Nat.le_of_ble_eq_true rfl⟩ dX6_load_36) (fun _ H locs _ hP hD hS => ?_)
      have hP := hP.sub (ws' := md_W cs ma (m_r o_18 1 (k_X6_copyState (o_18.2 2) (o_18.2 1) 0 0))) [2, 3, 1, 0, 4, 5, 6] rfl
      have hD := hD.sub (ws' := md_W cs ma (m_r o_18 1 (k_X6_copyState (o_18.2 2) (o_18.2 1) 0 0))) [2, 3, 1, 0, 4, 5, 6] (by decide) rfl
      have hP : va_P D vwCl (md_W cs ma (m_r o_18 1 (k_X6_copyState (o_18.2 2) (o_18.2 1) 0 0))) H := hP
      have hD : va_D A (md_W cs ma (m_r o_18 1 (k_X6_copyState (o_18.2 2) (o_18.2 1) 0 0))) := hD
      refine lv_aload_n hx hb dX6_load_39 rfl (lv_at hl 0 rfl) ?_
      refine lv_iconst (v := 0) hx hb dX6_load_40 (by decide) ?_
      refine va_put (D := D) (ci := 6) (v := .int 0) (ty := .int) (C := RX6) (T := TX6) (N := 11) hx hb hts hinX6 tyX6 tyX6_ok nmX6 hown hK hP hD hS 0 rfl rfl 6 (by decide) lk_2 (fun _ h9 => h9) rfl (by decide +kernel) rfl rfl (Nat.le_of_ble_eq_true rfl) dX6_load_41 (fun H locs hP hD hS => ?_)
      have hP : va_P D vwCl (md_W cs ma (m_r (m_s o_18 2 0) 1 (k_X6_copyState (o_18.2 2) (o_18.2 1) 0 0))) H := hP
      have hD : va_D A (md_W cs ma (m_r (m_s o_18 2 0) 1 (k_X6_copyState (o_18.2 2) (o_18.2 1) 0 0))) := hD
      refine lv_aload_n hx hb dX6_load_44 rfl (lv_at hl 0 rfl) ?_
      refine va_get (D := D) (ci := 6) (v := .ref (ma 6)) (C := RX6) (T := TX6) (N := 11) hx hb hts hinX6 hown hK hP 0 rfl rfl 8 (by decide) lk_3 (fun _ h9 => h9) rfl dX6_load_45 ?_
      refine lv_iconst (v := 0) hx hb dX6_load_48 (by decide) ?_
      refine lv_iconst (v := 0) hx hb dX6_load_49 (by decide) ?_
      refine k_zast hx hb hK hP hD hS 6 2 (k := 0) rfl rfl (k_inl rfl) rfl rfl dX6_load_50 (fun H locs hP hD hS => ?_)
      have hP : va_P D vwCl (md_W cs ma (m_r (m_r (m_s o_18 2 0) 1 (k_X6_copyState (o_18.2 2) (o_18.2 1) 0 0)) 5 (va_up (o_18.2 5) 0 0))) H := hP
      have hD : va_D A (md_W cs ma (m_r (m_r (m_s o_18 2 0) 1 (k_X6_copyState (o_18.2 2) (o_18.2 1) 0 0)) 5 (va_up (o_18.2 5) 0 0))) := hD
      refine lv_aload_n hx hb dX6_load_51 rfl (lv_at hl 0 rfl) ?_
      refine va_get (D := D) (ci := 6) (v := .ref (ma 6)) (C := RX6) (T := TX6) (N := 11) hx hb hts hinX6 hown hK hP 0 rfl rfl 8 (by decide) lk_3 (fun _ h9 => h9) rfl dX6_load_52 ?_
      refine lv_iconst (v := 1) hx hb dX6_load_55 (by decide) ?_
      refine lv_iconst (v := 0) hx hb dX6_load_56 (by decide) ?_
      refine k_zast hx hb hK hP hD hS 6 2 (k := 1) rfl rfl (k_inl rfl) rfl rfl dX6_load_57 (fun H locs hP hD hS => ?_)
      have hP : va_P D vwCl (md_W cs ma (m_r (m_r (m_s o_18 2 0) 1 (k_X6_copyState (o_18.2 2) (o_18.2 1) 0 0)) 5 (va_up (va_up (o_18.2 5) 0 0) 1 0))) H := hP
      have hD : va_D A (md_W cs ma (m_r (m_r (m_s o_18 2 0) 1 (k_X6_copyState (o_18.2 2) (o_18.2 1) 0 0)) 5 (va_up (va_up (o_18.2 5) 0 0) 1 0))) := hD
      refine lv_aload_n hx hb dX6_load_58 rfl (lv_at hl 0 rfl) ?_
      refine va_get (D := D) (ci := 6) (v := .int (o_18.1 4)) (C := RX6) (T := TX6) (N := 11) hx hb hts hinX6 hown hK hP 0 rfl rfl 10 (by decide) lk_4 (fun _ h9 => h9) rfl dX6_load_59 ?_
      subst hres
      exact kI_ret hE hS hP hD rfl rfl (Nat.le_of_ble_eq_true rfl) (Nat.le_of_ble_eq_true rfl) dX6_load_62
    · skip
      have c_21 : ¬ (r_18 = 0) := c_21
      rw [if_neg c_21] at hres
      refine lv_iconst (v := 0) hx hb dX6_load_24 (by decide) ?_
      subst hres
      exact kI_ret hE hS hP hD rfl rfl (Nat.le_of_ble_eq_true rfl) (Nat.le_of_ble_eq_true rfl) dX6_load_25
set_option maxHeartbeats 4000000 in
set_option maxRecDepth 100000 in
theorem c_X6_append (l : Launch) (D : va_G) (cs : Nat → ClassId) (ma : Nat → Nat) (mv : MV) (vk : Int32) (hM : MO mv) : kI l yX6_append wsX6_append { frames := 1, cells := 0, slots := 0, locals := 25 } 0 0 D cs [.ref (ma 0), .int vk] (md_W cs ma mv) (k_X6_append mv vk).1 (md_W cs ma ((k_X6_append mv vk).2)) := by
  generalize hres : k_X6_append mv vk = res
  refine kI_of (cc := cX6_append) (maxL := 2) (ret := (some .int)) (by decide) rfl (Nat.le_of_ble_eq_true rfl) ?_
  intro p e s m below meth c A ls H locs hE hS hP hD hl
  obtain ⟨hx, hb, hr, hlocks, hml, hown, hts, hK, hA, hG, hnm⟩ := id hE
  have hown : s.vm.findClass RX6 = some m.cls := hown
  have hl : lv_has ls 2 [(0, .ref (ma 0)), (1, .int vk)] := hl
  have hinX6 : ∀ w ∈ wsX60, w ∈ wsX6_append := by decide +kernel
  have lk_0 := hts (.constantLong RX6 102 255) (by decide +kernel)
  have lk_1 := hts (.fieldLink RX6 104 "OrganPegsModel" "size" "I") (by decide +kernel)
  have lk_2 := hts (.fieldLink RX6 7 "OrganPegsModel" "text" "[I") (by decide +kernel)
  unfold k_X6_append at hres
  refine lv_aload_n hx hb dX6_append_0 rfl (lv_at hl 0 rfl) ?_
  refine lv_iload_n hx hb dX6_append_1 rfl (lv_at hl 1 rfl) ?_
  refine lv_i2l hx hb dX6_append_2 rfl ?_
  refine lv_lconst (v := 0) hx hb dX6_append_3 (by decide) ?_
  refine lv_ldc2 (v := 255) hx hb hown lk_0 dX6_append_4 ?_
  have hP : va_P D vwCl ([] ++ (md_W cs ma mv)) H := hP
  have hD : va_D A ([] ++ (md_W cs ma mv)) := hD
  have hc_7 := c_X6_in l D cs (vk.toInt64) 0 255
  refine kI_call (wc := []) (wr := (md_W cs ma mv)) (w1 := []) (r := (k_X6_in (vk.toInt64) 0 255)) hE hP hD hS (k_rS (rest := [.ref (ma 0)]) (As := [.long (vk.toInt64), .long 0, .long 255]) hE rfl (hc_7 H.size) (va_cwS 3 hts gX6_append_X6_in rfl rfl rfl (by decide +kernel) ⟨Nat.le_of_ble_eq_true rfl, Nat.le_of_ble_eq_true rfl⟩) hP hD hS rfl hl rfl (Nat.le_of_ble_eq_true rfl) ⟨Nat.le_of_ble_eq_true rfl, Nat.le_of_ble_eq_true rfl⟩ dX6_append_7) (fun H locs hP hD hS => ?_)
  have hP : va_P D vwCl (md_W cs ma mv) H := hP
  have hD : va_D A (md_W cs ma mv) := hD
  refine lv_if_ne (tgt := 17) hx hb dX6_append_10 (by decide) (fun c_10 => ?_) (fun c_10 => ?_)
  · skip
    have c_10 : ¬ ((k_X6_in (vk.toInt64) 0 255) = 0) := c_10
    rw [if_neg c_10] at hres
    refine lv_aload_n hx hb dX6_append_17 rfl (lv_at hl 0 rfl) ?_
    refine va_get (D := D) (ci := 6) (v := .int (mv.1 1)) (C := RX6) (T := TX6) (N := 11) hx hb hts hinX6 hown hK hP 0 rfl rfl 2 (by decide) lk_1 (fun _ h9 => h9) rfl dX6_append_18 ?_
    refine lv_bipush (v := 120) hx hb dX6_append_21 (by decide) ?_
    refine lv_icmp_ne (tgt := 30) hx hb dX6_append_23 (by decide) (fun c_23 => ?_) (fun c_23 => ?_)
    · skip
      have c_23 : ¬ ((mv.1 1) = 120) := c_23
      rw [if_neg c_23] at hres
      refine lv_iconst (v := 0) hx hb dX6_append_30 (by decide) ?_
      have hP : va_P D vwCl ((md_W cs ma mv) ++ []) H := k_nP hP
      have hD : va_D A ((md_W cs ma mv) ++ []) := k_nD hD
      have hc_31 := c_X6_refused l D cs ma mv 0
      obtain ⟨r_31, o_31, e_31⟩ : ∃ r9 o9, (k_X6_refused mv 0) = (r9, o9) := ⟨_, _, rfl⟩
      rw [e_31] at hc_31 hres
      dsimp only at hc_31 hres
      refine kI_call (wc := (md_W cs ma mv)) (wr := []) (w1 := md_W cs ma o_31) (r := r_31) hE hP hD hS (k_rV (rest := []) (As := [.int 0]) hE rfl (hc_31 H.size) (cwV 1 hts gX6_append_X6_refused rfl rfl rfl (by decide +kernel) ⟨Nat.le_of_ble_eq_true rfl, Nat.le_of_ble_eq_true rfl⟩) hP hD hS (ci := 6) (q0 := 0) rfl rfl rfl hl rfl (Nat.le_of_ble_eq_true rfl) ⟨Nat.le_of_ble_eq_true rfl, Nat.le_of_ble_eq_true rfl⟩ dX6_append_31) (fun H locs hP hD hS => ?_)
      have hP := k_uP hP
      have hD := k_uD hD
      have hP : va_P D vwCl (md_W cs ma o_31) H := hP
      have hD : va_D A (md_W cs ma o_31) := hD
      refine lv_if_eq (tgt := 39) hx hb dX6_append_34 (by decide) (fun c_34 => ?_) (fun c_34 => ?_)
      · skip
        have c_34 : (r_31 = 0) := c_34
        rw [if_pos c_34] at hres
        refine lv_aload_n hx hb dX6_append_39 rfl (lv_at hl 0 rfl) ?_
        refine va_get (D := D) (ci := 6) (v := .ref (ma 1)) (C := RX6) (T := TX6) (N := 11) hx hb hts hinX6 hown hK hP 0 rfl rfl 1 (by decide) lk_2 (fun _ h9 => h9) rfl dX6_append_40 ?_
        refine lv_aload_n hx hb dX6_append_43 rfl (lv_at hl 0 rfl) ?_
        refine va_get (D := D) (ci := 6) (v := .int (o_31.1 1)) (C := RX6) (T := TX6) (N := 11) hx hb hts hinX6 hown hK hP 0 rfl rfl 2 (by decide) lk_1 (fun _ h9 => h9) rfl dX6_append_44 ?_
        refine lv_iload_n hx hb dX6_append_47 rfl (lv_at hl 1 rfl) ?_
        refine k_iast hx hb hK hP hD hS 1 0 (k := (o_31.1 1).toNatClampNeg) rfl rfl (by first | exact app_in e_31 hM c_23 | exact absurd (rfd_n e_31 c_34) (by decide)) rfl dX6_append_48 (fun H locs hP hD hS => ?_)
        have hP : va_P D vwCl (md_W cs ma (m_r o_31 0 (va_up (o_31.2 0) ((o_31.1 1).toNatClampNeg) vk))) H := hP
        have hD : va_D A (md_W cs ma (m_r o_31 0 (va_up (o_31.2 0) ((o_31.1 1).toNatClampNeg) vk))) := hD
        refine lv_aload_n hx hb dX6_append_49 rfl (lv_at hl 0 rfl) ?_
        refine lv_dup hx hb dX6_append_50 rfl ?_
        refine va_get (D := D) (ci := 6) (v := .int (o_31.1 1)) (C := RX6) (T := TX6) (N := 11) hx hb hts hinX6 hown hK hP 0 rfl rfl 2 (by decide) lk_1 (fun _ h9 => h9) rfl dX6_append_51 ?_
        refine lv_iconst (v := 1) hx hb dX6_append_54 (by decide) ?_
        refine lv_iadd hx hb dX6_append_55 ?_
        refine va_put (D := D) (ci := 6) (v := .int ((o_31.1 1) + 1)) (ty := .int) (C := RX6) (T := TX6) (N := 11) hx hb hts hinX6 tyX6 tyX6_ok nmX6 hown hK hP hD hS 0 rfl rfl 2 (by decide) lk_1 (fun _ h9 => h9) rfl (by decide +kernel) rfl rfl (Nat.le_of_ble_eq_true rfl) dX6_append_56 (fun H locs hP hD hS => ?_)
        have hP : va_P D vwCl (md_W cs ma (m_r (m_s o_31 1 ((o_31.1 1) + 1)) 0 (va_up (o_31.2 0) ((o_31.1 1).toNatClampNeg) vk))) H := hP
        have hD : va_D A (md_W cs ma (m_r (m_s o_31 1 ((o_31.1 1) + 1)) 0 (va_up (o_31.2 0) ((o_31.1 1).toNatClampNeg) vk))) := hD
        refine lv_aload_n hx hb dX6_append_59 rfl (lv_at hl 0 rfl) ?_
        refine va_get (D := D) (ci := 6) (v := .int ((o_31.1 1) + 1)) (C := RX6) (T := TX6) (N := 11) hx hb hts hinX6 hown hK hP 0 rfl rfl 2 (by decide) lk_1 (fun _ h9 => h9) rfl dX6_append_60 ?_
        subst hres
        exact kI_ret hE hS hP hD rfl rfl (Nat.le_of_ble_eq_true rfl) (Nat.le_of_ble_eq_true rfl) dX6_append_63
      · skip
        have c_34 : ¬ (r_31 = 0) := c_34
        rw [if_neg c_34] at hres
        refine lv_iconst (v := 0) hx hb dX6_append_37 (by decide) ?_
        subst hres
        exact kI_ret hE hS hP hD rfl rfl (Nat.le_of_ble_eq_true rfl) (Nat.le_of_ble_eq_true rfl) dX6_append_38
    · skip
      have c_23 : ((mv.1 1) = 120) := c_23
      rw [if_pos c_23] at hres
      refine lv_iconst (v := 2) hx hb dX6_append_26 (by decide) ?_
      refine lv_goto (tgt := 31) hx hb dX6_append_27 (by decide) ?_
      have hP : va_P D vwCl ((md_W cs ma mv) ++ []) H := k_nP hP
      have hD : va_D A ((md_W cs ma mv) ++ []) := k_nD hD
      have hc_31 := c_X6_refused l D cs ma mv 2
      obtain ⟨r_31, o_31, e_31⟩ : ∃ r9 o9, (k_X6_refused mv 2) = (r9, o9) := ⟨_, _, rfl⟩
      rw [e_31] at hc_31 hres
      dsimp only at hc_31 hres
      refine kI_call (wc := (md_W cs ma mv)) (wr := []) (w1 := md_W cs ma o_31) (r := r_31) hE hP hD hS (k_rV (rest := []) (As := [.int 2]) hE rfl (hc_31 H.size) (cwV 1 hts gX6_append_X6_refused rfl rfl rfl (by decide +kernel) ⟨Nat.le_of_ble_eq_true rfl, Nat.le_of_ble_eq_true rfl⟩) hP hD hS (ci := 6) (q0 := 0) rfl rfl rfl hl rfl (Nat.le_of_ble_eq_true rfl) ⟨Nat.le_of_ble_eq_true rfl, Nat.le_of_ble_eq_true rfl⟩ dX6_append_31) (fun H locs hP hD hS => ?_)
      have hP := k_uP hP
      have hD := k_uD hD
      have hP : va_P D vwCl (md_W cs ma o_31) H := hP
      have hD : va_D A (md_W cs ma o_31) := hD
      refine lv_if_eq (tgt := 39) hx hb dX6_append_34 (by decide) (fun c_34 => ?_) (fun c_34 => ?_)
      · skip
        have c_34 : (r_31 = 0) := c_34
        rw [if_pos c_34] at hres
        refine lv_aload_n hx hb dX6_append_39 rfl (lv_at hl 0 rfl) ?_
        refine va_get (D := D) (ci := 6) (v := .ref (ma 1)) (C := RX6) (T := TX6) (N := 11) hx hb hts hinX6 hown hK hP 0 rfl rfl 1 (by decide) lk_2 (fun _ h9 => h9) rfl dX6_append_40 ?_
        refine lv_aload_n hx hb dX6_append_43 rfl (lv_at hl 0 rfl) ?_
        refine va_get (D := D) (ci := 6) (v := .int (o_31.1 1)) (C := RX6) (T := TX6) (N := 11) hx hb hts hinX6 hown hK hP 0 rfl rfl 2 (by decide) lk_1 (fun _ h9 => h9) rfl dX6_append_44 ?_
        refine lv_iload_n hx hb dX6_append_47 rfl (lv_at hl 1 rfl) ?_
        refine k_iast hx hb hK hP hD hS 1 0 (k := (o_31.1 1).toNatClampNeg) rfl rfl (by first | exact app_in e_31 hM c_23 | exact absurd (rfd_n e_31 c_34) (by decide)) rfl dX6_append_48 (fun H locs hP hD hS => ?_)
        have hP : va_P D vwCl (md_W cs ma (m_r o_31 0 (va_up (o_31.2 0) ((o_31.1 1).toNatClampNeg) vk))) H := hP
        have hD : va_D A (md_W cs ma (m_r o_31 0 (va_up (o_31.2 0) ((o_31.1 1).toNatClampNeg) vk))) := hD
        refine lv_aload_n hx hb dX6_append_49 rfl (lv_at hl 0 rfl) ?_
        refine lv_dup hx hb dX6_append_50 rfl ?_
        refine va_get (D := D) (ci := 6) (v := .int (o_31.1 1)) (C := RX6) (T := TX6) (N := 11) hx hb hts hinX6 hown hK hP 0 rfl rfl 2 (by decide) lk_1 (fun _ h9 => h9) rfl dX6_append_51 ?_
        refine lv_iconst (v := 1) hx hb dX6_append_54 (by decide) ?_
        refine lv_iadd hx hb dX6_append_55 ?_
        refine va_put (D := D) (ci := 6) (v := .int ((o_31.1 1) + 1)) (ty := .int) (C := RX6) (T := TX6) (N := 11) hx hb hts hinX6 tyX6 tyX6_ok nmX6 hown hK hP hD hS 0 rfl rfl 2 (by decide) lk_1 (fun _ h9 => h9) rfl (by decide +kernel) rfl rfl (Nat.le_of_ble_eq_true rfl) dX6_append_56 (fun H locs hP hD hS => ?_)
        have hP : va_P D vwCl (md_W cs ma (m_r (m_s o_31 1 ((o_31.1 1) + 1)) 0 (va_up (o_31.2 0) ((o_31.1 1).toNatClampNeg) vk))) H := hP
        have hD : va_D A (md_W cs ma (m_r (m_s o_31 1 ((o_31.1 1) + 1)) 0 (va_up (o_31.2 0) ((o_31.1 1).toNatClampNeg) vk))) := hD
        refine lv_aload_n hx hb dX6_append_59 rfl (lv_at hl 0 rfl) ?_
        refine va_get (D := D) (ci := 6) (v := .int ((o_31.1 1) + 1)) (C := RX6) (T := TX6) (N := 11) hx hb hts hinX6 hown hK hP 0 rfl rfl 2 (by decide) lk_1 (fun _ h9 => h9) rfl dX6_append_60 ?_
        subst hres
        exact kI_ret hE hS hP hD rfl rfl (Nat.le_of_ble_eq_true rfl) (Nat.le_of_ble_eq_true rfl) dX6_append_63
      · skip
        have c_34 : ¬ (r_31 = 0) := c_34
        rw [if_neg c_34] at hres
        refine lv_iconst (v := 0) hx hb dX6_append_37 (by decide) ?_
        subst hres
        exact kI_ret hE hS hP hD rfl rfl (Nat.le_of_ble_eq_true rfl) (Nat.le_of_ble_eq_true rfl) dX6_append_38
  · skip
    have c_10 : ((k_X6_in (vk.toInt64) 0 255) = 0) := c_10
    rw [if_pos c_10] at hres
    refine lv_iconst (v := 1) hx hb dX6_append_13 (by decide) ?_
    refine lv_goto (tgt := 31) hx hb dX6_append_14 (by decide) ?_
    have hP : va_P D vwCl ((md_W cs ma mv) ++ []) H := k_nP hP
    have hD : va_D A ((md_W cs ma mv) ++ []) := k_nD hD
    have hc_31 := c_X6_refused l D cs ma mv 1
    obtain ⟨r_31, o_31, e_31⟩ : ∃ r9 o9, (k_X6_refused mv 1) = (r9, o9) := ⟨_, _, rfl⟩
    rw [e_31] at hc_31 hres
    dsimp only at hc_31 hres
    refine kI_call (wc := (md_W cs ma mv)) (wr := []) (w1 := md_W cs ma o_31) (r := r_31) hE hP hD hS (k_rV (rest := []) (As := [.int 1]) hE rfl (hc_31 H.size) (cwV 1 hts gX6_append_X6_refused rfl rfl rfl (by decide +kernel) ⟨Nat.le_of_ble_eq_true rfl, Nat.le_of_ble_eq_true rfl⟩) hP hD hS (ci := 6) (q0 := 0) rfl rfl rfl hl rfl (Nat.le_of_ble_eq_true rfl) ⟨Nat.le_of_ble_eq_true rfl, Nat.le_of_ble_eq_true rfl⟩ dX6_append_31) (fun H locs hP hD hS => ?_)
    have hP := k_uP hP
    have hD := k_uD hD
    have hP : va_P D vwCl (md_W cs ma o_31) H := hP
    have hD : va_D A (md_W cs ma o_31) := hD
    refine lv_if_eq (tgt := 39) hx hb dX6_append_34 (by decide) (fun c_34 => ?_) (fun c_34 => ?_)
    · skip
      have c_34 : (r_31 = 0) := c_34
      rw [if_pos c_34] at hres
      refine lv_aload_n hx hb dX6_append_39 rfl (lv_at hl 0 rfl) ?_
      refine va_get (D := D) (ci := 6) (v := .ref (ma 1)) (C := RX6) (T := TX6) (N := 11) hx hb hts hinX6 hown hK hP 0 rfl rfl 1 (by decide) lk_2 (fun _ h9 => h9) rfl dX6_append_40 ?_
      refine lv_aload_n hx hb dX6_append_43 rfl (lv_at hl 0 rfl) ?_
      refine va_get (D := D) (ci := 6) (v := .int (o_31.1 1)) (C := RX6) (T := TX6) (N := 11) hx hb hts hinX6 hown hK hP 0 rfl rfl 2 (by decide) lk_1 (fun _ h9 => h9) rfl dX6_append_44 ?_
      refine lv_iload_n hx hb dX6_append_47 rfl (lv_at hl 1 rfl) ?_
      refine k_iast hx hb hK hP hD hS 1 0 (k := (o_31.1 1).toNatClampNeg) rfl rfl (by first | exact app_in e_31 hM c_23 | exact absurd (rfd_n e_31 c_34) (by decide)) rfl dX6_append_48 (fun H locs hP hD hS => ?_)
      have hP : va_P D vwCl (md_W cs ma (m_r o_31 0 (va_up (o_31.2 0) ((o_31.1 1).toNatClampNeg) vk))) H := hP
      have hD : va_D A (md_W cs ma (m_r o_31 0 (va_up (o_31.2 0) ((o_31.1 1).toNatClampNeg) vk))) := hD
      refine lv_aload_n hx hb dX6_append_49 rfl (lv_at hl 0 rfl) ?_
      refine lv_dup hx hb dX6_append_50 rfl ?_
      refine va_get (D := D) (ci := 6) (v := .int (o_31.1 1)) (C := RX6) (T := TX6) (N := 11) hx hb hts hinX6 hown hK hP 0 rfl rfl 2 (by decide) lk_1 (fun _ h9 => h9) rfl dX6_append_51 ?_
      refine lv_iconst (v := 1) hx hb dX6_append_54 (by decide) ?_
      refine lv_iadd hx hb dX6_append_55 ?_
      refine va_put (D := D) (ci := 6) (v := .int ((o_31.1 1) + 1)) (ty := .int) (C := RX6) (T := TX6) (N := 11) hx hb hts hinX6 tyX6 tyX6_ok nmX6 hown hK hP hD hS 0 rfl rfl 2 (by decide) lk_1 (fun _ h9 => h9) rfl (by decide +kernel) rfl rfl (Nat.le_of_ble_eq_true rfl) dX6_append_56 (fun H locs hP hD hS => ?_)
      have hP : va_P D vwCl (md_W cs ma (m_r (m_s o_31 1 ((o_31.1 1) + 1)) 0 (va_up (o_31.2 0) ((o_31.1 1).toNatClampNeg) vk))) H := hP
      have hD : va_D A (md_W cs ma (m_r (m_s o_31 1 ((o_31.1 1) + 1)) 0 (va_up (o_31.2 0) ((o_31.1 1).toNatClampNeg) vk))) := hD
      refine lv_aload_n hx hb dX6_append_59 rfl (lv_at hl 0 rfl) ?_
      refine va_get (D := D) (ci := 6) (v := .int ((o_31.1 1) + 1)) (C := RX6) (T := TX6) (N := 11) hx hb hts hinX6 hown hK hP 0 rfl rfl 2 (by decide) lk_1 (fun _ h9 => h9) rfl dX6_append_60 ?_
      subst hres
      exact kI_ret hE hS hP hD rfl rfl (Nat.le_of_ble_eq_true rfl) (Nat.le_of_ble_eq_true rfl) dX6_append_63
    · skip
      have c_34 : ¬ (r_31 = 0) := c_34
      rw [if_neg c_34] at hres
      refine lv_iconst (v := 0) hx hb dX6_append_37 (by decide) ?_
      subst hres
      exact kI_ret hE hS hP hD rfl rfl (Nat.le_of_ble_eq_true rfl) (Nat.le_of_ble_eq_true rfl) dX6_append_38
set_option maxHeartbeats 4000000 in
set_option maxRecDepth 100000 in
theorem c_X6_about (l : Launch) (D : va_G) (cs : Nat → ClassId) (ma : Nat → Nat) (mv : MV) (vk : Int32) (hM : MO mv) : kI l yX6_about wsX6_about { frames := 1, cells := 0, slots := 0, locals := 25 } 0 0 D cs [.ref (ma 0), .int vk] (md_W cs ma mv) (k_X6_about mv vk).1 (md_W cs ma ((k_X6_about mv vk).2)) := by
  generalize hres : k_X6_about mv vk = res
  refine kI_of (cc := cX6_about) (maxL := 2) (ret := (some .int)) (by decide) rfl (Nat.le_of_ble_eq_true rfl) ?_
  intro p e s m below meth c A ls H locs hE hS hP hD hl
  obtain ⟨hx, hb, hr, hlocks, hml, hown, hts, hK, hA, hG, hnm⟩ := id hE
  have hown : s.vm.findClass RX6 = some m.cls := hown
  have hl : lv_has ls 2 [(0, .ref (ma 0)), (1, .int vk)] := hl
  have hinX6 : ∀ w ∈ wsX60, w ∈ wsX6_about := by decide +kernel
  have lk_0 := hts (.constantLong RX6 165 11) (by decide +kernel)
  have lk_1 := hts (.fieldLink RX6 13 "OrganPegsModel" "now" "[I") (by decide +kernel)
  unfold k_X6_about at hres
  refine lv_aload_n hx hb dX6_about_0 rfl (lv_at hl 0 rfl) ?_
  refine lv_iload_n hx hb dX6_about_1 rfl (lv_at hl 1 rfl) ?_
  refine lv_i2l hx hb dX6_about_2 rfl ?_
  refine lv_lconst (v := 0) hx hb dX6_about_3 (by decide) ?_
  refine lv_ldc2 (v := 11) hx hb hown lk_0 dX6_about_4 ?_
  have hP : va_P D vwCl ([] ++ (md_W cs ma mv)) H := hP
  have hD : va_D A ([] ++ (md_W cs ma mv)) := hD
  have hc_7 := c_X6_in l D cs (vk.toInt64) 0 11
  refine kI_call (wc := []) (wr := (md_W cs ma mv)) (w1 := []) (r := (k_X6_in (vk.toInt64) 0 11)) hE hP hD hS (k_rS (rest := [.ref (ma 0)]) (As := [.long (vk.toInt64), .long 0, .long 11]) hE rfl (hc_7 H.size) (va_cwS 3 hts gX6_about_X6_in rfl rfl rfl (by decide +kernel) ⟨Nat.le_of_ble_eq_true rfl, Nat.le_of_ble_eq_true rfl⟩) hP hD hS rfl hl rfl (Nat.le_of_ble_eq_true rfl) ⟨Nat.le_of_ble_eq_true rfl, Nat.le_of_ble_eq_true rfl⟩ dX6_about_7) (fun H locs hP hD hS => ?_)
  have hP : va_P D vwCl (md_W cs ma mv) H := hP
  have hD : va_D A (md_W cs ma mv) := hD
  refine lv_if_eq (tgt := 17) hx hb dX6_about_10 (by decide) (fun c_10 => ?_) (fun c_10 => ?_)
  · skip
    have c_10 : ((k_X6_in (vk.toInt64) 0 11) = 0) := c_10
    rw [if_pos c_10] at hres
    refine lv_iconst (v := 1) hx hb dX6_about_17 (by decide) ?_
    have hP : va_P D vwCl ((md_W cs ma mv) ++ []) H := k_nP hP
    have hD : va_D A ((md_W cs ma mv) ++ []) := k_nD hD
    have hc_18 := c_X6_refused l D cs ma mv 1
    obtain ⟨r_18, o_18, e_18⟩ : ∃ r9 o9, (k_X6_refused mv 1) = (r9, o9) := ⟨_, _, rfl⟩
    rw [e_18] at hc_18 hres
    dsimp only at hc_18 hres
    refine kI_call (wc := (md_W cs ma mv)) (wr := []) (w1 := md_W cs ma o_18) (r := r_18) hE hP hD hS (k_rV (rest := []) (As := [.int 1]) hE rfl (hc_18 H.size) (cwV 1 hts gX6_about_X6_refused rfl rfl rfl (by decide +kernel) ⟨Nat.le_of_ble_eq_true rfl, Nat.le_of_ble_eq_true rfl⟩) hP hD hS (ci := 6) (q0 := 0) rfl rfl rfl hl rfl (Nat.le_of_ble_eq_true rfl) ⟨Nat.le_of_ble_eq_true rfl, Nat.le_of_ble_eq_true rfl⟩ dX6_about_18) (fun H locs hP hD hS => ?_)
    have hP := k_uP hP
    have hD := k_uD hD
    have hP : va_P D vwCl (md_W cs ma o_18) H := hP
    have hD : va_D A (md_W cs ma o_18) := hD
    refine lv_if_eq (tgt := 26) hx hb dX6_about_21 (by decide) (fun c_21 => ?_) (fun c_21 => ?_)
    · skip
      have c_21 : (r_18 = 0) := c_21
      rw [if_pos c_21] at hres
      refine lv_aload_n hx hb dX6_about_26 rfl (lv_at hl 0 rfl) ?_
      refine va_get (D := D) (ci := 6) (v := .ref (ma 2)) (C := RX6) (T := TX6) (N := 11) hx hb hts hinX6 hown hK hP 0 rfl rfl 3 (by decide) lk_1 (fun _ h9 => h9) rfl dX6_about_27 ?_
      refine lv_iload_n hx hb dX6_about_30 rfl (lv_at hl 1 rfl) ?_
      refine k_iald hx hb hK hP 2 0 (v := ((o_18.2 1) vk.toNatClampNeg)) rfl rfl (by first | exact in_r (in_n (A := 0) (B := 11) rfl rfl c_10) (by decide) | exact absurd (rfd_n e_18 c_21) (by decide)) rfl dX6_about_31 ?_
      subst hres
      exact kI_ret hE hS hP hD rfl rfl (Nat.le_of_ble_eq_true rfl) (Nat.le_of_ble_eq_true rfl) dX6_about_32
    · skip
      have c_21 : ¬ (r_18 = 0) := c_21
      rw [if_neg c_21] at hres
      refine lv_iconst (v := 0) hx hb dX6_about_24 (by decide) ?_
      subst hres
      exact kI_ret hE hS hP hD rfl rfl (Nat.le_of_ble_eq_true rfl) (Nat.le_of_ble_eq_true rfl) dX6_about_25
  · skip
    have c_10 : ¬ ((k_X6_in (vk.toInt64) 0 11) = 0) := c_10
    rw [if_neg c_10] at hres
    refine lv_iconst (v := 0) hx hb dX6_about_13 (by decide) ?_
    refine lv_goto (tgt := 18) hx hb dX6_about_14 (by decide) ?_
    have hP : va_P D vwCl ((md_W cs ma mv) ++ []) H := k_nP hP
    have hD : va_D A ((md_W cs ma mv) ++ []) := k_nD hD
    have hc_18 := c_X6_refused l D cs ma mv 0
    obtain ⟨r_18, o_18, e_18⟩ : ∃ r9 o9, (k_X6_refused mv 0) = (r9, o9) := ⟨_, _, rfl⟩
    rw [e_18] at hc_18 hres
    dsimp only at hc_18 hres
    refine kI_call (wc := (md_W cs ma mv)) (wr := []) (w1 := md_W cs ma o_18) (r := r_18) hE hP hD hS (k_rV (rest := []) (As := [.int 0]) hE rfl (hc_18 H.size) (cwV 1 hts gX6_about_X6_refused rfl rfl rfl (by decide +kernel) ⟨Nat.le_of_ble_eq_true rfl, Nat.le_of_ble_eq_true rfl⟩) hP hD hS (ci := 6) (q0 := 0) rfl rfl rfl hl rfl (Nat.le_of_ble_eq_true rfl) ⟨Nat.le_of_ble_eq_true rfl, Nat.le_of_ble_eq_true rfl⟩ dX6_about_18) (fun H locs hP hD hS => ?_)
    have hP := k_uP hP
    have hD := k_uD hD
    have hP : va_P D vwCl (md_W cs ma o_18) H := hP
    have hD : va_D A (md_W cs ma o_18) := hD
    refine lv_if_eq (tgt := 26) hx hb dX6_about_21 (by decide) (fun c_21 => ?_) (fun c_21 => ?_)
    · skip
      have c_21 : (r_18 = 0) := c_21
      rw [if_pos c_21] at hres
      refine lv_aload_n hx hb dX6_about_26 rfl (lv_at hl 0 rfl) ?_
      refine va_get (D := D) (ci := 6) (v := .ref (ma 2)) (C := RX6) (T := TX6) (N := 11) hx hb hts hinX6 hown hK hP 0 rfl rfl 3 (by decide) lk_1 (fun _ h9 => h9) rfl dX6_about_27 ?_
      refine lv_iload_n hx hb dX6_about_30 rfl (lv_at hl 1 rfl) ?_
      refine k_iald hx hb hK hP 2 0 (v := ((o_18.2 1) vk.toNatClampNeg)) rfl rfl (by first | exact in_r (in_n (A := 0) (B := 11) rfl rfl c_10) (by decide) | exact absurd (rfd_n e_18 c_21) (by decide)) rfl dX6_about_31 ?_
      subst hres
      exact kI_ret hE hS hP hD rfl rfl (Nat.le_of_ble_eq_true rfl) (Nat.le_of_ble_eq_true rfl) dX6_about_32
    · skip
      have c_21 : ¬ (r_18 = 0) := c_21
      rw [if_neg c_21] at hres
      refine lv_iconst (v := 0) hx hb dX6_about_24 (by decide) ?_
      subst hres
      exact kI_ret hE hS hP hD rfl rfl (Nat.le_of_ble_eq_true rfl) (Nat.le_of_ble_eq_true rfl) dX6_about_25
set_option maxHeartbeats 4000000 in
set_option maxRecDepth 100000 in
theorem c_X6_pegOf (l : Launch) (D : va_G) (cs : Nat → ClassId) (ma : Nat → Nat) (mv : MV) (vk : Int32) (vw : Int32) (hM : MO mv) : kI l yX6_pegOf wsX6_pegOf { frames := 2, cells := 0, slots := 0, locals := 46 } 0 0 D cs [.ref (ma 0), .int vk, .int vw] (md_W cs ma mv) (k_X6_pegOf mv vk vw).1 (md_W cs ma ((k_X6_pegOf mv vk vw).2)) := by
  generalize hres : k_X6_pegOf mv vk vw = res
  refine kI_of (cc := cX6_pegOf) (maxL := 3) (ret := (some .int)) (by decide) rfl (Nat.le_of_ble_eq_true rfl) ?_
  intro p e s m below meth c A ls H locs hE hS hP hD hl
  obtain ⟨hx, hb, hr, hlocks, hml, hown, hts, hK, hA, hG, hnm⟩ := id hE
  have hown : s.vm.findClass RX6 = some m.cls := hown
  have hl : lv_has ls 3 [(0, .ref (ma 0)), (1, .int vk), (2, .int vw)] := hl
  have hinX6 : ∀ w ∈ wsX60, w ∈ wsX6_pegOf := by decide +kernel
  have lk_0 := hts (.fieldLink RX6 13 "OrganPegsModel" "now" "[I") (by decide +kernel)
  have lk_1 := hts (.constantLong RX6 45 3) (by decide +kernel)
  unfold k_X6_pegOf at hres
  refine lv_aload_n hx hb dX6_pegOf_0 rfl (lv_at hl 0 rfl) ?_
  refine lv_aload_n hx hb dX6_pegOf_1 rfl (lv_at hl 0 rfl) ?_
  refine va_get (D := D) (ci := 6) (v := .ref (ma 2)) (C := RX6) (T := TX6) (N := 11) hx hb hts hinX6 hown hK hP 0 rfl rfl 3 (by decide) lk_0 (fun _ h9 => h9) rfl dX6_pegOf_2 ?_
  refine lv_iload_n hx hb dX6_pegOf_5 rfl (lv_at hl 1 rfl) ?_
  have hP := hP.sub (ws' := (st_W cs (ma 2) (mv.2 1)) ++ (x_pick (md_W cs ma mv) [0, 1, 3, 4, 5, 6])) [2, 0, 1, 3, 4, 5, 6] rfl
  have hD := hD.sub (ws' := (st_W cs (ma 2) (mv.2 1)) ++ (x_pick (md_W cs ma mv) [0, 1, 3, 4, 5, 6])) [2, 0, 1, 3, 4, 5, 6] (by decide) rfl
  have hc_6 := c_X6_isPeg l D cs (ma 2) (mv.2 1) vk
  refine kI_call (wc := (st_W cs (ma 2) (mv.2 1))) (wr := (x_pick (md_W cs ma mv) [0, 1, 3, 4, 5, 6])) (w1 := (st_W cs (ma 2) (mv.2 1))) (r := (k_X6_isPeg (mv.2 1) vk)) hE hP hD hS (k_rS (rest := [.ref (ma 0)]) (As := [.ref (ma 2), .int vk]) hE rfl (hc_6 H.size) (va_cwS 2 hts gX6_pegOf_X6_isPeg rfl rfl rfl (by decide +kernel) ⟨Nat.le_of_ble_eq_true rfl, Nat.le_of_ble_eq_true rfl⟩) hP hD hS rfl hl rfl (Nat.le_of_ble_eq_true rfl) ⟨Nat.le_of_ble_eq_true rfl, Nat.le_of_ble_eq_true rfl⟩ dX6_pegOf_6) (fun H locs hP hD hS => ?_)
  have hP := hP.sub (ws' := md_W cs ma mv) [1, 2, 0, 3, 4, 5, 6] rfl
  have hD := hD.sub (ws' := md_W cs ma mv) [1, 2, 0, 3, 4, 5, 6] (by decide) rfl
  have hP : va_P D vwCl (md_W cs ma mv) H := hP
  have hD : va_D A (md_W cs ma mv) := hD
  refine lv_if_ne (tgt := 16) hx hb dX6_pegOf_9 (by decide) (fun c_9 => ?_) (fun c_9 => ?_)
  · skip
    have c_9 : ¬ ((k_X6_isPeg (mv.2 1) vk) = 0) := c_9
    rw [if_neg c_9] at hres
    refine lv_iload_n hx hb dX6_pegOf_16 rfl (lv_at hl 2 rfl) ?_
    refine lv_i2l hx hb dX6_pegOf_17 rfl ?_
    refine lv_lconst (v := 0) hx hb dX6_pegOf_18 (by decide) ?_
    refine lv_ldc2 (v := 3) hx hb hown lk_1 dX6_pegOf_19 ?_
    have hP : va_P D vwCl ([] ++ (md_W cs ma mv)) H := hP
    have hD : va_D A ([] ++ (md_W cs ma mv)) := hD
    have hc_22 := c_X6_in l D cs (vw.toInt64) 0 3
    refine kI_call (wc := []) (wr := (md_W cs ma mv)) (w1 := []) (r := (k_X6_in (vw.toInt64) 0 3)) hE hP hD hS (k_rS (rest := [.ref (ma 0)]) (As := [.long (vw.toInt64), .long 0, .long 3]) hE rfl (hc_22 H.size) (va_cwS 3 hts gX6_pegOf_X6_in rfl rfl rfl (by decide +kernel) ⟨Nat.le_of_ble_eq_true rfl, Nat.le_of_ble_eq_true rfl⟩) hP hD hS rfl hl rfl (Nat.le_of_ble_eq_true rfl) ⟨Nat.le_of_ble_eq_true rfl, Nat.le_of_ble_eq_true rfl⟩ dX6_pegOf_22) (fun H locs hP hD hS => ?_)
    have hP : va_P D vwCl (md_W cs ma mv) H := hP
    have hD : va_D A (md_W cs ma mv) := hD
    refine lv_if_eq (tgt := 32) hx hb dX6_pegOf_25 (by decide) (fun c_25 => ?_) (fun c_25 => ?_)
    · skip
      have c_25 : ((k_X6_in (vw.toInt64) 0 3) = 0) := c_25
      rw [if_pos c_25] at hres
      refine lv_iconst (v := 2) hx hb dX6_pegOf_32 (by decide) ?_
      have hP : va_P D vwCl ((md_W cs ma mv) ++ []) H := k_nP hP
      have hD : va_D A ((md_W cs ma mv) ++ []) := k_nD hD
      have hc_33 := c_X6_refused l D cs ma mv 2
      obtain ⟨r_33, o_33, e_33⟩ : ∃ r9 o9, (k_X6_refused mv 2) = (r9, o9) := ⟨_, _, rfl⟩
      rw [e_33] at hc_33 hres
      dsimp only at hc_33 hres
      refine kI_call (wc := (md_W cs ma mv)) (wr := []) (w1 := md_W cs ma o_33) (r := r_33) hE hP hD hS (k_rV (rest := []) (As := [.int 2]) hE rfl (hc_33 H.size) (cwV 1 hts gX6_pegOf_X6_refused rfl rfl rfl (by decide +kernel) ⟨Nat.le_of_ble_eq_true rfl, Nat.le_of_ble_eq_true rfl⟩) hP hD hS (ci := 6) (q0 := 0) rfl rfl rfl hl rfl (Nat.le_of_ble_eq_true rfl) ⟨Nat.le_of_ble_eq_true rfl, Nat.le_of_ble_eq_true rfl⟩ dX6_pegOf_33) (fun H locs hP hD hS => ?_)
      have hP := k_uP hP
      have hD := k_uD hD
      have hP : va_P D vwCl (md_W cs ma o_33) H := hP
      have hD : va_D A (md_W cs ma o_33) := hD
      refine lv_if_eq (tgt := 41) hx hb dX6_pegOf_36 (by decide) (fun c_36 => ?_) (fun c_36 => ?_)
      · skip
        have c_36 : (r_33 = 0) := c_36
        rw [if_pos c_36] at hres
        refine lv_aload_n hx hb dX6_pegOf_41 rfl (lv_at hl 0 rfl) ?_
        refine va_get (D := D) (ci := 6) (v := .ref (ma 2)) (C := RX6) (T := TX6) (N := 11) hx hb hts hinX6 hown hK hP 0 rfl rfl 3 (by decide) lk_0 (fun _ h9 => h9) rfl dX6_pegOf_42 ?_
        refine lv_iload_n hx hb dX6_pegOf_45 rfl (lv_at hl 1 rfl) ?_
        refine lv_iload_n hx hb dX6_pegOf_46 rfl (lv_at hl 2 rfl) ?_
        have hP := hP.sub (ws' := (st_W cs (ma 2) (o_33.2 1)) ++ (x_pick (md_W cs ma o_33) [0, 1, 3, 4, 5, 6])) [2, 0, 1, 3, 4, 5, 6] rfl
        have hD := hD.sub (ws' := (st_W cs (ma 2) (o_33.2 1)) ++ (x_pick (md_W cs ma o_33) [0, 1, 3, 4, 5, 6])) [2, 0, 1, 3, 4, 5, 6] (by decide) rfl
        have hc_47 := c_X6_peg l D cs (ma 2) (o_33.2 1) vk vw (by first | exact pegk hM c_9 | exact absurd (rfd_n e_33 c_36) (by decide)) (by first | exact in_n (A := 0) (B := 3) rfl rfl c_25 | exact absurd (rfd_n e_33 c_36) (by decide))
        refine kI_call (wc := (st_W cs (ma 2) (o_33.2 1))) (wr := (x_pick (md_W cs ma o_33) [0, 1, 3, 4, 5, 6])) (w1 := (st_W cs (ma 2) (o_33.2 1))) (r := (k_X6_peg (o_33.2 1) vk vw)) hE hP hD hS (k_rS (rest := []) (As := [.ref (ma 2), .int vk, .int vw]) hE rfl (hc_47 H.size) (va_cwS 3 hts gX6_pegOf_X6_peg rfl rfl rfl (by decide +kernel) ⟨Nat.le_of_ble_eq_true rfl, Nat.le_of_ble_eq_true rfl⟩) hP hD hS rfl hl rfl (Nat.le_of_ble_eq_true rfl) ⟨Nat.le_of_ble_eq_true rfl, Nat.le_of_ble_eq_true rfl⟩ dX6_pegOf_47) (fun H locs hP hD hS => ?_)
        have hP := hP.sub (ws' := md_W cs ma o_33) [1, 2, 0, 3, 4, 5, 6] rfl
        have hD := hD.sub (ws' := md_W cs ma o_33) [1, 2, 0, 3, 4, 5, 6] (by decide) rfl
        have hP : va_P D vwCl (md_W cs ma o_33) H := hP
        have hD : va_D A (md_W cs ma o_33) := hD
        subst hres
        exact kI_ret hE hS hP hD rfl rfl (Nat.le_of_ble_eq_true rfl) (Nat.le_of_ble_eq_true rfl) dX6_pegOf_50
      · skip
        have c_36 : ¬ (r_33 = 0) := c_36
        rw [if_neg c_36] at hres
        refine lv_iconst (v := 0) hx hb dX6_pegOf_39 (by decide) ?_
        subst hres
        exact kI_ret hE hS hP hD rfl rfl (Nat.le_of_ble_eq_true rfl) (Nat.le_of_ble_eq_true rfl) dX6_pegOf_40
    · skip
      have c_25 : ¬ ((k_X6_in (vw.toInt64) 0 3) = 0) := c_25
      rw [if_neg c_25] at hres
      refine lv_iconst (v := 0) hx hb dX6_pegOf_28 (by decide) ?_
      refine lv_goto (tgt := 33) hx hb dX6_pegOf_29 (by decide) ?_
      have hP : va_P D vwCl ((md_W cs ma mv) ++ []) H := k_nP hP
      have hD : va_D A ((md_W cs ma mv) ++ []) := k_nD hD
      have hc_33 := c_X6_refused l D cs ma mv 0
      obtain ⟨r_33, o_33, e_33⟩ : ∃ r9 o9, (k_X6_refused mv 0) = (r9, o9) := ⟨_, _, rfl⟩
      rw [e_33] at hc_33 hres
      dsimp only at hc_33 hres
      refine kI_call (wc := (md_W cs ma mv)) (wr := []) (w1 := md_W cs ma o_33) (r := r_33) hE hP hD hS (k_rV (rest := []) (As := [.int 0]) hE rfl (hc_33 H.size) (cwV 1 hts gX6_pegOf_X6_refused rfl rfl rfl (by decide +kernel) ⟨Nat.le_of_ble_eq_true rfl, Nat.le_of_ble_eq_true rfl⟩) hP hD hS (ci := 6) (q0 := 0) rfl rfl rfl hl rfl (Nat.le_of_ble_eq_true rfl) ⟨Nat.le_of_ble_eq_true rfl, Nat.le_of_ble_eq_true rfl⟩ dX6_pegOf_33) (fun H locs hP hD hS => ?_)
      have hP := k_uP hP
      have hD := k_uD hD
      have hP : va_P D vwCl (md_W cs ma o_33) H := hP
      have hD : va_D A (md_W cs ma o_33) := hD
      refine lv_if_eq (tgt := 41) hx hb dX6_pegOf_36 (by decide) (fun c_36 => ?_) (fun c_36 => ?_)
      · skip
        have c_36 : (r_33 = 0) := c_36
        rw [if_pos c_36] at hres
        refine lv_aload_n hx hb dX6_pegOf_41 rfl (lv_at hl 0 rfl) ?_
        refine va_get (D := D) (ci := 6) (v := .ref (ma 2)) (C := RX6) (T := TX6) (N := 11) hx hb hts hinX6 hown hK hP 0 rfl rfl 3 (by decide) lk_0 (fun _ h9 => h9) rfl dX6_pegOf_42 ?_
        refine lv_iload_n hx hb dX6_pegOf_45 rfl (lv_at hl 1 rfl) ?_
        refine lv_iload_n hx hb dX6_pegOf_46 rfl (lv_at hl 2 rfl) ?_
        have hP := hP.sub (ws' := (st_W cs (ma 2) (o_33.2 1)) ++ (x_pick (md_W cs ma o_33) [0, 1, 3, 4, 5, 6])) [2, 0, 1, 3, 4, 5, 6] rfl
        have hD := hD.sub (ws' := (st_W cs (ma 2) (o_33.2 1)) ++ (x_pick (md_W cs ma o_33) [0, 1, 3, 4, 5, 6])) [2, 0, 1, 3, 4, 5, 6] (by decide) rfl
        have hc_47 := c_X6_peg l D cs (ma 2) (o_33.2 1) vk vw (by first | exact pegk hM c_9 | exact absurd (rfd_n e_33 c_36) (by decide)) (by first | exact in_n (A := 0) (B := 3) rfl rfl c_25 | exact absurd (rfd_n e_33 c_36) (by decide))
        refine kI_call (wc := (st_W cs (ma 2) (o_33.2 1))) (wr := (x_pick (md_W cs ma o_33) [0, 1, 3, 4, 5, 6])) (w1 := (st_W cs (ma 2) (o_33.2 1))) (r := (k_X6_peg (o_33.2 1) vk vw)) hE hP hD hS (k_rS (rest := []) (As := [.ref (ma 2), .int vk, .int vw]) hE rfl (hc_47 H.size) (va_cwS 3 hts gX6_pegOf_X6_peg rfl rfl rfl (by decide +kernel) ⟨Nat.le_of_ble_eq_true rfl, Nat.le_of_ble_eq_true rfl⟩) hP hD hS rfl hl rfl (Nat.le_of_ble_eq_true rfl) ⟨Nat.le_of_ble_eq_true rfl, Nat.le_of_ble_eq_true rfl⟩ dX6_pegOf_47) (fun H locs hP hD hS => ?_)
        have hP := hP.sub (ws' := md_W cs ma o_33) [1, 2, 0, 3, 4, 5, 6] rfl
        have hD := hD.sub (ws' := md_W cs ma o_33) [1, 2, 0, 3, 4, 5, 6] (by decide) rfl
        have hP : va_P D vwCl (md_W cs ma o_33) H := hP
        have hD : va_D A (md_W cs ma o_33) := hD
        subst hres
        exact kI_ret hE hS hP hD rfl rfl (Nat.le_of_ble_eq_true rfl) (Nat.le_of_ble_eq_true rfl) dX6_pegOf_50
      · skip
        have c_36 : ¬ (r_33 = 0) := c_36
        rw [if_neg c_36] at hres
        refine lv_iconst (v := 0) hx hb dX6_pegOf_39 (by decide) ?_
        subst hres
        exact kI_ret hE hS hP hD rfl rfl (Nat.le_of_ble_eq_true rfl) (Nat.le_of_ble_eq_true rfl) dX6_pegOf_40
  · skip
    have c_9 : ((k_X6_isPeg (mv.2 1) vk) = 0) := c_9
    rw [if_pos c_9] at hres
    refine lv_iconst (v := 1) hx hb dX6_pegOf_12 (by decide) ?_
    refine lv_goto (tgt := 33) hx hb dX6_pegOf_13 (by decide) ?_
    have hP : va_P D vwCl ((md_W cs ma mv) ++ []) H := k_nP hP
    have hD : va_D A ((md_W cs ma mv) ++ []) := k_nD hD
    have hc_33 := c_X6_refused l D cs ma mv 1
    obtain ⟨r_33, o_33, e_33⟩ : ∃ r9 o9, (k_X6_refused mv 1) = (r9, o9) := ⟨_, _, rfl⟩
    rw [e_33] at hc_33 hres
    dsimp only at hc_33 hres
    refine kI_call (wc := (md_W cs ma mv)) (wr := []) (w1 := md_W cs ma o_33) (r := r_33) hE hP hD hS (k_rV (rest := []) (As := [.int 1]) hE rfl (hc_33 H.size) (cwV 1 hts gX6_pegOf_X6_refused rfl rfl rfl (by decide +kernel) ⟨Nat.le_of_ble_eq_true rfl, Nat.le_of_ble_eq_true rfl⟩) hP hD hS (ci := 6) (q0 := 0) rfl rfl rfl hl rfl (Nat.le_of_ble_eq_true rfl) ⟨Nat.le_of_ble_eq_true rfl, Nat.le_of_ble_eq_true rfl⟩ dX6_pegOf_33) (fun H locs hP hD hS => ?_)
    have hP := k_uP hP
    have hD := k_uD hD
    have hP : va_P D vwCl (md_W cs ma o_33) H := hP
    have hD : va_D A (md_W cs ma o_33) := hD
    refine lv_if_eq (tgt := 41) hx hb dX6_pegOf_36 (by decide) (fun c_36 => ?_) (fun c_36 => ?_)
    · skip
      have c_36 : (r_33 = 0) := c_36
      rw [if_pos c_36] at hres
      refine lv_aload_n hx hb dX6_pegOf_41 rfl (lv_at hl 0 rfl) ?_
      refine va_get (D := D) (ci := 6) (v := .ref (ma 2)) (C := RX6) (T := TX6) (N := 11) hx hb hts hinX6 hown hK hP 0 rfl rfl 3 (by decide) lk_0 (fun _ h9 => h9) rfl dX6_pegOf_42 ?_
      refine lv_iload_n hx hb dX6_pegOf_45 rfl (lv_at hl 1 rfl) ?_
      refine lv_iload_n hx hb dX6_pegOf_46 rfl (lv_at hl 2 rfl) ?_
      have hP := hP.sub (ws' := (st_W cs (ma 2) (o_33.2 1)) ++ (x_pick (md_W cs ma o_33) [0, 1, 3, 4, 5, 6])) [2, 0, 1, 3, 4, 5, 6] rfl
      have hD := hD.sub (ws' := (st_W cs (ma 2) (o_33.2 1)) ++ (x_pick (md_W cs ma o_33) [0, 1, 3, 4, 5, 6])) [2, 0, 1, 3, 4, 5, 6] (by decide) rfl
      have hc_47 := c_X6_peg l D cs (ma 2) (o_33.2 1) vk vw (by first | exact pegk hM c_9 | exact absurd (rfd_n e_33 c_36) (by decide)) (by first | exact in_n (A := 0) (B := 3) rfl rfl c_25 | exact absurd (rfd_n e_33 c_36) (by decide))
      refine kI_call (wc := (st_W cs (ma 2) (o_33.2 1))) (wr := (x_pick (md_W cs ma o_33) [0, 1, 3, 4, 5, 6])) (w1 := (st_W cs (ma 2) (o_33.2 1))) (r := (k_X6_peg (o_33.2 1) vk vw)) hE hP hD hS (k_rS (rest := []) (As := [.ref (ma 2), .int vk, .int vw]) hE rfl (hc_47 H.size) (va_cwS 3 hts gX6_pegOf_X6_peg rfl rfl rfl (by decide +kernel) ⟨Nat.le_of_ble_eq_true rfl, Nat.le_of_ble_eq_true rfl⟩) hP hD hS rfl hl rfl (Nat.le_of_ble_eq_true rfl) ⟨Nat.le_of_ble_eq_true rfl, Nat.le_of_ble_eq_true rfl⟩ dX6_pegOf_47) (fun H locs hP hD hS => ?_)
      have hP := hP.sub (ws' := md_W cs ma o_33) [1, 2, 0, 3, 4, 5, 6] rfl
      have hD := hD.sub (ws' := md_W cs ma o_33) [1, 2, 0, 3, 4, 5, 6] (by decide) rfl
      have hP : va_P D vwCl (md_W cs ma o_33) H := hP
      have hD : va_D A (md_W cs ma o_33) := hD
      subst hres
      exact kI_ret hE hS hP hD rfl rfl (Nat.le_of_ble_eq_true rfl) (Nat.le_of_ble_eq_true rfl) dX6_pegOf_50
    · skip
      have c_36 : ¬ (r_33 = 0) := c_36
      rw [if_neg c_36] at hres
      refine lv_iconst (v := 0) hx hb dX6_pegOf_39 (by decide) ?_
      subst hres
      exact kI_ret hE hS hP hD rfl rfl (Nat.le_of_ble_eq_true rfl) (Nat.le_of_ble_eq_true rfl) dX6_pegOf_40
set_option maxHeartbeats 4000000 in
set_option maxRecDepth 100000 in
theorem c_X6_orderOf (l : Launch) (D : va_G) (cs : Nat → ClassId) (ma : Nat → Nat) (mv : MV) (vk : Int32) (vw : Int32) (hM : MO mv) : kI l yX6_orderOf wsX6_orderOf { frames := 2, cells := 0, slots := 0, locals := 46 } 0 0 D cs [.ref (ma 0), .int vk, .int vw] (md_W cs ma mv) (k_X6_orderOf mv vk vw).1 (md_W cs ma ((k_X6_orderOf mv vk vw).2)) := by
  generalize hres : k_X6_orderOf mv vk vw = res
  refine kI_of (cc := cX6_orderOf) (maxL := 3) (ret := (some .int)) (by decide) rfl (Nat.le_of_ble_eq_true rfl) ?_
  intro p e s m below meth c A ls H locs hE hS hP hD hl
  obtain ⟨hx, hb, hr, hlocks, hml, hown, hts, hK, hA, hG, hnm⟩ := id hE
  have hown : s.vm.findClass RX6 = some m.cls := hown
  have hl : lv_has ls 3 [(0, .ref (ma 0)), (1, .int vk), (2, .int vw)] := hl
  have hinX6 : ∀ w ∈ wsX60, w ∈ wsX6_orderOf := by decide +kernel
  have lk_0 := hts (.fieldLink RX6 13 "OrganPegsModel" "now" "[I") (by decide +kernel)
  have lk_1 := hts (.constantLong RX6 170 4) (by decide +kernel)
  unfold k_X6_orderOf at hres
  refine lv_aload_n hx hb dX6_orderOf_0 rfl (lv_at hl 0 rfl) ?_
  refine lv_aload_n hx hb dX6_orderOf_1 rfl (lv_at hl 0 rfl) ?_
  refine va_get (D := D) (ci := 6) (v := .ref (ma 2)) (C := RX6) (T := TX6) (N := 11) hx hb hts hinX6 hown hK hP 0 rfl rfl 3 (by decide) lk_0 (fun _ h9 => h9) rfl dX6_orderOf_2 ?_
  refine lv_iload_n hx hb dX6_orderOf_5 rfl (lv_at hl 1 rfl) ?_
  have hP := hP.sub (ws' := (st_W cs (ma 2) (mv.2 1)) ++ (x_pick (md_W cs ma mv) [0, 1, 3, 4, 5, 6])) [2, 0, 1, 3, 4, 5, 6] rfl
  have hD := hD.sub (ws' := (st_W cs (ma 2) (mv.2 1)) ++ (x_pick (md_W cs ma mv) [0, 1, 3, 4, 5, 6])) [2, 0, 1, 3, 4, 5, 6] (by decide) rfl
  have hc_6 := c_X6_isOrder l D cs (ma 2) (mv.2 1) vk
  refine kI_call (wc := (st_W cs (ma 2) (mv.2 1))) (wr := (x_pick (md_W cs ma mv) [0, 1, 3, 4, 5, 6])) (w1 := (st_W cs (ma 2) (mv.2 1))) (r := (k_X6_isOrder (mv.2 1) vk)) hE hP hD hS (k_rS (rest := [.ref (ma 0)]) (As := [.ref (ma 2), .int vk]) hE rfl (hc_6 H.size) (va_cwS 2 hts gX6_orderOf_X6_isOrder rfl rfl rfl (by decide +kernel) ⟨Nat.le_of_ble_eq_true rfl, Nat.le_of_ble_eq_true rfl⟩) hP hD hS rfl hl rfl (Nat.le_of_ble_eq_true rfl) ⟨Nat.le_of_ble_eq_true rfl, Nat.le_of_ble_eq_true rfl⟩ dX6_orderOf_6) (fun H locs hP hD hS => ?_)
  have hP := hP.sub (ws' := md_W cs ma mv) [1, 2, 0, 3, 4, 5, 6] rfl
  have hD := hD.sub (ws' := md_W cs ma mv) [1, 2, 0, 3, 4, 5, 6] (by decide) rfl
  have hP : va_P D vwCl (md_W cs ma mv) H := hP
  have hD : va_D A (md_W cs ma mv) := hD
  refine lv_if_ne (tgt := 16) hx hb dX6_orderOf_9 (by decide) (fun c_9 => ?_) (fun c_9 => ?_)
  · skip
    have c_9 : ¬ ((k_X6_isOrder (mv.2 1) vk) = 0) := c_9
    rw [if_neg c_9] at hres
    refine lv_iload_n hx hb dX6_orderOf_16 rfl (lv_at hl 2 rfl) ?_
    refine lv_i2l hx hb dX6_orderOf_17 rfl ?_
    refine lv_lconst (v := 0) hx hb dX6_orderOf_18 (by decide) ?_
    refine lv_ldc2 (v := 4) hx hb hown lk_1 dX6_orderOf_19 ?_
    have hP : va_P D vwCl ([] ++ (md_W cs ma mv)) H := hP
    have hD : va_D A ([] ++ (md_W cs ma mv)) := hD
    have hc_22 := c_X6_in l D cs (vw.toInt64) 0 4
    refine kI_call (wc := []) (wr := (md_W cs ma mv)) (w1 := []) (r := (k_X6_in (vw.toInt64) 0 4)) hE hP hD hS (k_rS (rest := [.ref (ma 0)]) (As := [.long (vw.toInt64), .long 0, .long 4]) hE rfl (hc_22 H.size) (va_cwS 3 hts gX6_orderOf_X6_in rfl rfl rfl (by decide +kernel) ⟨Nat.le_of_ble_eq_true rfl, Nat.le_of_ble_eq_true rfl⟩) hP hD hS rfl hl rfl (Nat.le_of_ble_eq_true rfl) ⟨Nat.le_of_ble_eq_true rfl, Nat.le_of_ble_eq_true rfl⟩ dX6_orderOf_22) (fun H locs hP hD hS => ?_)
    have hP : va_P D vwCl (md_W cs ma mv) H := hP
    have hD : va_D A (md_W cs ma mv) := hD
    refine lv_if_eq (tgt := 32) hx hb dX6_orderOf_25 (by decide) (fun c_25 => ?_) (fun c_25 => ?_)
    · skip
      have c_25 : ((k_X6_in (vw.toInt64) 0 4) = 0) := c_25
      rw [if_pos c_25] at hres
      refine lv_iconst (v := 2) hx hb dX6_orderOf_32 (by decide) ?_
      have hP : va_P D vwCl ((md_W cs ma mv) ++ []) H := k_nP hP
      have hD : va_D A ((md_W cs ma mv) ++ []) := k_nD hD
      have hc_33 := c_X6_refused l D cs ma mv 2
      obtain ⟨r_33, o_33, e_33⟩ : ∃ r9 o9, (k_X6_refused mv 2) = (r9, o9) := ⟨_, _, rfl⟩
      rw [e_33] at hc_33 hres
      dsimp only at hc_33 hres
      refine kI_call (wc := (md_W cs ma mv)) (wr := []) (w1 := md_W cs ma o_33) (r := r_33) hE hP hD hS (k_rV (rest := []) (As := [.int 2]) hE rfl (hc_33 H.size) (cwV 1 hts gX6_orderOf_X6_refused rfl rfl rfl (by decide +kernel) ⟨Nat.le_of_ble_eq_true rfl, Nat.le_of_ble_eq_true rfl⟩) hP hD hS (ci := 6) (q0 := 0) rfl rfl rfl hl rfl (Nat.le_of_ble_eq_true rfl) ⟨Nat.le_of_ble_eq_true rfl, Nat.le_of_ble_eq_true rfl⟩ dX6_orderOf_33) (fun H locs hP hD hS => ?_)
      have hP := k_uP hP
      have hD := k_uD hD
      have hP : va_P D vwCl (md_W cs ma o_33) H := hP
      have hD : va_D A (md_W cs ma o_33) := hD
      refine lv_if_eq (tgt := 41) hx hb dX6_orderOf_36 (by decide) (fun c_36 => ?_) (fun c_36 => ?_)
      · skip
        have c_36 : (r_33 = 0) := c_36
        rw [if_pos c_36] at hres
        refine lv_aload_n hx hb dX6_orderOf_41 rfl (lv_at hl 0 rfl) ?_
        refine va_get (D := D) (ci := 6) (v := .ref (ma 2)) (C := RX6) (T := TX6) (N := 11) hx hb hts hinX6 hown hK hP 0 rfl rfl 3 (by decide) lk_0 (fun _ h9 => h9) rfl dX6_orderOf_42 ?_
        refine lv_iload_n hx hb dX6_orderOf_45 rfl (lv_at hl 1 rfl) ?_
        refine lv_iload_n hx hb dX6_orderOf_46 rfl (lv_at hl 2 rfl) ?_
        have hP := hP.sub (ws' := (st_W cs (ma 2) (o_33.2 1)) ++ (x_pick (md_W cs ma o_33) [0, 1, 3, 4, 5, 6])) [2, 0, 1, 3, 4, 5, 6] rfl
        have hD := hD.sub (ws' := (st_W cs (ma 2) (o_33.2 1)) ++ (x_pick (md_W cs ma o_33) [0, 1, 3, 4, 5, 6])) [2, 0, 1, 3, 4, 5, 6] (by decide) rfl
        have hc_47 := c_X6_order l D cs (ma 2) (o_33.2 1) vk vw (by first | exact ordk hM c_9 | exact absurd (rfd_n e_33 c_36) (by decide)) (by first | exact in_n (A := 0) (B := 4) rfl rfl c_25 | exact absurd (rfd_n e_33 c_36) (by decide))
        refine kI_call (wc := (st_W cs (ma 2) (o_33.2 1))) (wr := (x_pick (md_W cs ma o_33) [0, 1, 3, 4, 5, 6])) (w1 := (st_W cs (ma 2) (o_33.2 1))) (r := (k_X6_order (o_33.2 1) vk vw)) hE hP hD hS (k_rS (rest := []) (As := [.ref (ma 2), .int vk, .int vw]) hE rfl (hc_47 H.size) (va_cwS 3 hts gX6_orderOf_X6_order rfl rfl rfl (by decide +kernel) ⟨Nat.le_of_ble_eq_true rfl, Nat.le_of_ble_eq_true rfl⟩) hP hD hS rfl hl rfl (Nat.le_of_ble_eq_true rfl) ⟨Nat.le_of_ble_eq_true rfl, Nat.le_of_ble_eq_true rfl⟩ dX6_orderOf_47) (fun H locs hP hD hS => ?_)
        have hP := hP.sub (ws' := md_W cs ma o_33) [1, 2, 0, 3, 4, 5, 6] rfl
        have hD := hD.sub (ws' := md_W cs ma o_33) [1, 2, 0, 3, 4, 5, 6] (by decide) rfl
        have hP : va_P D vwCl (md_W cs ma o_33) H := hP
        have hD : va_D A (md_W cs ma o_33) := hD
        subst hres
        exact kI_ret hE hS hP hD rfl rfl (Nat.le_of_ble_eq_true rfl) (Nat.le_of_ble_eq_true rfl) dX6_orderOf_50
      · skip
        have c_36 : ¬ (r_33 = 0) := c_36
        rw [if_neg c_36] at hres
        refine lv_iconst (v := 0) hx hb dX6_orderOf_39 (by decide) ?_
        subst hres
        exact kI_ret hE hS hP hD rfl rfl (Nat.le_of_ble_eq_true rfl) (Nat.le_of_ble_eq_true rfl) dX6_orderOf_40
    · skip
      have c_25 : ¬ ((k_X6_in (vw.toInt64) 0 4) = 0) := c_25
      rw [if_neg c_25] at hres
      refine lv_iconst (v := 0) hx hb dX6_orderOf_28 (by decide) ?_
      refine lv_goto (tgt := 33) hx hb dX6_orderOf_29 (by decide) ?_
      have hP : va_P D vwCl ((md_W cs ma mv) ++ []) H := k_nP hP
      have hD : va_D A ((md_W cs ma mv) ++ []) := k_nD hD
      have hc_33 := c_X6_refused l D cs ma mv 0
      obtain ⟨r_33, o_33, e_33⟩ : ∃ r9 o9, (k_X6_refused mv 0) = (r9, o9) := ⟨_, _, rfl⟩
      rw [e_33] at hc_33 hres
      dsimp only at hc_33 hres
      refine kI_call (wc := (md_W cs ma mv)) (wr := []) (w1 := md_W cs ma o_33) (r := r_33) hE hP hD hS (k_rV (rest := []) (As := [.int 0]) hE rfl (hc_33 H.size) (cwV 1 hts gX6_orderOf_X6_refused rfl rfl rfl (by decide +kernel) ⟨Nat.le_of_ble_eq_true rfl, Nat.le_of_ble_eq_true rfl⟩) hP hD hS (ci := 6) (q0 := 0) rfl rfl rfl hl rfl (Nat.le_of_ble_eq_true rfl) ⟨Nat.le_of_ble_eq_true rfl, Nat.le_of_ble_eq_true rfl⟩ dX6_orderOf_33) (fun H locs hP hD hS => ?_)
      have hP := k_uP hP
      have hD := k_uD hD
      have hP : va_P D vwCl (md_W cs ma o_33) H := hP
      have hD : va_D A (md_W cs ma o_33) := hD
      refine lv_if_eq (tgt := 41) hx hb dX6_orderOf_36 (by decide) (fun c_36 => ?_) (fun c_36 => ?_)
      · skip
        have c_36 : (r_33 = 0) := c_36
        rw [if_pos c_36] at hres
        refine lv_aload_n hx hb dX6_orderOf_41 rfl (lv_at hl 0 rfl) ?_
        refine va_get (D := D) (ci := 6) (v := .ref (ma 2)) (C := RX6) (T := TX6) (N := 11) hx hb hts hinX6 hown hK hP 0 rfl rfl 3 (by decide) lk_0 (fun _ h9 => h9) rfl dX6_orderOf_42 ?_
        refine lv_iload_n hx hb dX6_orderOf_45 rfl (lv_at hl 1 rfl) ?_
        refine lv_iload_n hx hb dX6_orderOf_46 rfl (lv_at hl 2 rfl) ?_
        have hP := hP.sub (ws' := (st_W cs (ma 2) (o_33.2 1)) ++ (x_pick (md_W cs ma o_33) [0, 1, 3, 4, 5, 6])) [2, 0, 1, 3, 4, 5, 6] rfl
        have hD := hD.sub (ws' := (st_W cs (ma 2) (o_33.2 1)) ++ (x_pick (md_W cs ma o_33) [0, 1, 3, 4, 5, 6])) [2, 0, 1, 3, 4, 5, 6] (by decide) rfl
        have hc_47 := c_X6_order l D cs (ma 2) (o_33.2 1) vk vw (by first | exact ordk hM c_9 | exact absurd (rfd_n e_33 c_36) (by decide)) (by first | exact in_n (A := 0) (B := 4) rfl rfl c_25 | exact absurd (rfd_n e_33 c_36) (by decide))
        refine kI_call (wc := (st_W cs (ma 2) (o_33.2 1))) (wr := (x_pick (md_W cs ma o_33) [0, 1, 3, 4, 5, 6])) (w1 := (st_W cs (ma 2) (o_33.2 1))) (r := (k_X6_order (o_33.2 1) vk vw)) hE hP hD hS (k_rS (rest := []) (As := [.ref (ma 2), .int vk, .int vw]) hE rfl (hc_47 H.size) (va_cwS 3 hts gX6_orderOf_X6_order rfl rfl rfl (by decide +kernel) ⟨Nat.le_of_ble_eq_true rfl, Nat.le_of_ble_eq_true rfl⟩) hP hD hS rfl hl rfl (Nat.le_of_ble_eq_true rfl) ⟨Nat.le_of_ble_eq_true rfl, Nat.le_of_ble_eq_true rfl⟩ dX6_orderOf_47) (fun H locs hP hD hS => ?_)
        have hP := hP.sub (ws' := md_W cs ma o_33) [1, 2, 0, 3, 4, 5, 6] rfl
        have hD := hD.sub (ws' := md_W cs ma o_33) [1, 2, 0, 3, 4, 5, 6] (by decide) rfl
        have hP : va_P D vwCl (md_W cs ma o_33) H := hP
        have hD : va_D A (md_W cs ma o_33) := hD
        subst hres
        exact kI_ret hE hS hP hD rfl rfl (Nat.le_of_ble_eq_true rfl) (Nat.le_of_ble_eq_true rfl) dX6_orderOf_50
      · skip
        have c_36 : ¬ (r_33 = 0) := c_36
        rw [if_neg c_36] at hres
        refine lv_iconst (v := 0) hx hb dX6_orderOf_39 (by decide) ?_
        subst hres
        exact kI_ret hE hS hP hD rfl rfl (Nat.le_of_ble_eq_true rfl) (Nat.le_of_ble_eq_true rfl) dX6_orderOf_40
  · skip
    have c_9 : ((k_X6_isOrder (mv.2 1) vk) = 0) := c_9
    rw [if_pos c_9] at hres
    refine lv_iconst (v := 1) hx hb dX6_orderOf_12 (by decide) ?_
    refine lv_goto (tgt := 33) hx hb dX6_orderOf_13 (by decide) ?_
    have hP : va_P D vwCl ((md_W cs ma mv) ++ []) H := k_nP hP
    have hD : va_D A ((md_W cs ma mv) ++ []) := k_nD hD
    have hc_33 := c_X6_refused l D cs ma mv 1
    obtain ⟨r_33, o_33, e_33⟩ : ∃ r9 o9, (k_X6_refused mv 1) = (r9, o9) := ⟨_, _, rfl⟩
    rw [e_33] at hc_33 hres
    dsimp only at hc_33 hres
    refine kI_call (wc := (md_W cs ma mv)) (wr := []) (w1 := md_W cs ma o_33) (r := r_33) hE hP hD hS (k_rV (rest := []) (As := [.int 1]) hE rfl (hc_33 H.size) (cwV 1 hts gX6_orderOf_X6_refused rfl rfl rfl (by decide +kernel) ⟨Nat.le_of_ble_eq_true rfl, Nat.le_of_ble_eq_true rfl⟩) hP hD hS (ci := 6) (q0 := 0) rfl rfl rfl hl rfl (Nat.le_of_ble_eq_true rfl) ⟨Nat.le_of_ble_eq_true rfl, Nat.le_of_ble_eq_true rfl⟩ dX6_orderOf_33) (fun H locs hP hD hS => ?_)
    have hP := k_uP hP
    have hD := k_uD hD
    have hP : va_P D vwCl (md_W cs ma o_33) H := hP
    have hD : va_D A (md_W cs ma o_33) := hD
    refine lv_if_eq (tgt := 41) hx hb dX6_orderOf_36 (by decide) (fun c_36 => ?_) (fun c_36 => ?_)
    · skip
      have c_36 : (r_33 = 0) := c_36
      rw [if_pos c_36] at hres
      refine lv_aload_n hx hb dX6_orderOf_41 rfl (lv_at hl 0 rfl) ?_
      refine va_get (D := D) (ci := 6) (v := .ref (ma 2)) (C := RX6) (T := TX6) (N := 11) hx hb hts hinX6 hown hK hP 0 rfl rfl 3 (by decide) lk_0 (fun _ h9 => h9) rfl dX6_orderOf_42 ?_
      refine lv_iload_n hx hb dX6_orderOf_45 rfl (lv_at hl 1 rfl) ?_
      refine lv_iload_n hx hb dX6_orderOf_46 rfl (lv_at hl 2 rfl) ?_
      have hP := hP.sub (ws' := (st_W cs (ma 2) (o_33.2 1)) ++ (x_pick (md_W cs ma o_33) [0, 1, 3, 4, 5, 6])) [2, 0, 1, 3, 4, 5, 6] rfl
      have hD := hD.sub (ws' := (st_W cs (ma 2) (o_33.2 1)) ++ (x_pick (md_W cs ma o_33) [0, 1, 3, 4, 5, 6])) [2, 0, 1, 3, 4, 5, 6] (by decide) rfl
      have hc_47 := c_X6_order l D cs (ma 2) (o_33.2 1) vk vw (by first | exact ordk hM c_9 | exact absurd (rfd_n e_33 c_36) (by decide)) (by first | exact in_n (A := 0) (B := 4) rfl rfl c_25 | exact absurd (rfd_n e_33 c_36) (by decide))
      refine kI_call (wc := (st_W cs (ma 2) (o_33.2 1))) (wr := (x_pick (md_W cs ma o_33) [0, 1, 3, 4, 5, 6])) (w1 := (st_W cs (ma 2) (o_33.2 1))) (r := (k_X6_order (o_33.2 1) vk vw)) hE hP hD hS (k_rS (rest := []) (As := [.ref (ma 2), .int vk, .int vw]) hE rfl (hc_47 H.size) (va_cwS 3 hts gX6_orderOf_X6_order rfl rfl rfl (by decide +kernel) ⟨Nat.le_of_ble_eq_true rfl, Nat.le_of_ble_eq_true rfl⟩) hP hD hS rfl hl rfl (Nat.le_of_ble_eq_true rfl) ⟨Nat.le_of_ble_eq_true rfl, Nat.le_of_ble_eq_true rfl⟩ dX6_orderOf_47) (fun H locs hP hD hS => ?_)
      have hP := hP.sub (ws' := md_W cs ma o_33) [1, 2, 0, 3, 4, 5, 6] rfl
      have hD := hD.sub (ws' := md_W cs ma o_33) [1, 2, 0, 3, 4, 5, 6] (by decide) rfl
      have hP : va_P D vwCl (md_W cs ma o_33) H := hP
      have hD : va_D A (md_W cs ma o_33) := hD
      subst hres
      exact kI_ret hE hS hP hD rfl rfl (Nat.le_of_ble_eq_true rfl) (Nat.le_of_ble_eq_true rfl) dX6_orderOf_50
    · skip
      have c_36 : ¬ (r_33 = 0) := c_36
      rw [if_neg c_36] at hres
      refine lv_iconst (v := 0) hx hb dX6_orderOf_39 (by decide) ?_
      subst hres
      exact kI_ret hE hS hP hD rfl rfl (Nat.le_of_ble_eq_true rfl) (Nat.le_of_ble_eq_true rfl) dX6_orderOf_40
set_option maxHeartbeats 4000000 in
set_option maxRecDepth 100000 in
theorem c_X6_pipeOf (l : Launch) (D : va_G) (cs : Nat → ClassId) (ma : Nat → Nat) (mv : MV) (vk : Int32) (vw : Int32) (hM : MO mv) : kI l yX6_pipeOf wsX6_pipeOf { frames := 3, cells := 0, slots := 0, locals := 69 } 0 0 D cs [.ref (ma 0), .int vk, .int vw] (md_W cs ma mv) (k_X6_pipeOf mv vk vw).1 (md_W cs ma ((k_X6_pipeOf mv vk vw).2)) := by
  generalize hres : k_X6_pipeOf mv vk vw = res
  refine kI_of (cc := cX6_pipeOf) (maxL := 5) (ret := (some .int)) (by decide) rfl (Nat.le_of_ble_eq_true rfl) ?_
  intro p e s m below meth c A ls H locs hE hS hP hD hl
  obtain ⟨hx, hb, hr, hlocks, hml, hown, hts, hK, hA, hG, hnm⟩ := id hE
  have hown : s.vm.findClass RX6 = some m.cls := hown
  have hl : lv_has ls 5 [(0, .ref (ma 0)), (1, .int vk), (2, .int vw)] := hl
  have hinX6 : ∀ w ∈ wsX60, w ∈ wsX6_pipeOf := by decide +kernel
  have lk_0 := hts (.fieldLink RX6 13 "OrganPegsModel" "now" "[I") (by decide +kernel)
  have lk_1 := hts (.constantLong RX6 170 4) (by decide +kernel)
  have L42 : ∀ (n : Nat) (i : Int32) (acc : Int32) (mw : MV) (j : Nat) (hi : i = nI j) (hj : j + n = 31) (hj2 : j ≤ 30) (hM2 : MO mw) (hp : 0 ≤ vk.toInt ∧ vk.toInt ≤ 5) (H : Heap) (locs : List Loc) (ls : Array Slot), va_S A s.heap H locs → va_P D vwCl (md_W cs ma mw) H → va_D A (md_W cs ma mw) → lv_has ls 5 [(0, .ref (ma 0)), (1, .int vk), (2, .int vw), (3, .int acc), (4, .int i)] → k_X6_pipeOf_L42 mv vk vw n i acc mw = res → W p l e { frames := 3, cells := 0, slots := 0, locals := 69 } s m ([.ref (ma 0), .int vk, .int vw]).toArray below meth c H locs 0 0 (MQ below (va_Qi (fun (r' : Int32) (_ : Unit) => r' = res.1) (kB D (fun _ => md_W cs ma res.2) A) A) ([.ref (ma 0), .int vk, .int vw]).toArray s 0 0 A) (F0 m 42 ls []) := by
    intro n
    induction n with
    | zero =>
      intro i acc mw j hi hj hj2 hM2 hp H locs ls hS hP hD hl hres
      exact absurd hj2 (by omega)
    | succ n ih =>
      intro i acc mw j hi hj hj2 hM2 hp H locs ls hS hP hD hl hres
      unfold k_X6_pipeOf_L42 at hres
      refine lv_iload hx hb dX6_pipeOf_42 (lv_at hl 4 rfl) ?_
      refine lv_aload_n hx hb dX6_pipeOf_44 rfl (lv_at hl 0 rfl) ?_
      refine va_get (D := D) (ci := 6) (v := .ref (ma 2)) (C := RX6) (T := TX6) (N := 11) hx hb hts hinX6 hown hK hP 0 rfl rfl 3 (by decide) lk_0 (fun _ h9 => h9) rfl dX6_pipeOf_45 ?_
      refine lv_iconst (v := 0) hx hb dX6_pipeOf_48 (by decide) ?_
      refine k_iald hx hb hK hP 2 0 (v := ((mw.2 1) 0)) rfl rfl (k_inl rfl) rfl dX6_pipeOf_49 ?_
      refine lv_icmp_ge (tgt := 81) hx hb dX6_pipeOf_50 (by decide) (fun c_50 => ?_) (fun c_50 => ?_)
      · skip
        have c_50 : (((mw.2 1) 0) ≤ i) := c_50
        rw [if_pos c_50] at hres
        refine lv_iload_n hx hb dX6_pipeOf_81 rfl (lv_at hl 2 rfl) ?_
        refine lv_if_ne (tgt := 89) hx hb dX6_pipeOf_82 (by decide) (fun c_82 => ?_) (fun c_82 => ?_)
        · skip
          have c_82 : ¬ (vw = 0) := c_82
          rw [if_neg c_82] at hres
          refine lv_iload_n hx hb dX6_pipeOf_89 rfl (lv_at hl 2 rfl) ?_
          refine lv_iconst (v := 1) hx hb dX6_pipeOf_90 (by decide) ?_
          refine lv_icmp_ne (tgt := 105) hx hb dX6_pipeOf_91 (by decide) (fun c_91 => ?_) (fun c_91 => ?_)
          · skip
            have c_91 : ¬ (vw = 1) := c_91
            rw [if_neg c_91] at hres
            refine lv_iload_n hx hb dX6_pipeOf_105 rfl (lv_at hl 2 rfl) ?_
            refine lv_iconst (v := 2) hx hb dX6_pipeOf_106 (by decide) ?_
            refine lv_icmp_ne (tgt := 129) hx hb dX6_pipeOf_107 (by decide) (fun c_107 => ?_) (fun c_107 => ?_)
            · skip
              have c_107 : ¬ (vw = 2) := c_107
              rw [if_neg c_107] at hres
              refine lv_iload_n hx hb dX6_pipeOf_129 rfl (lv_at hl 2 rfl) ?_
              refine lv_iconst (v := 3) hx hb dX6_pipeOf_130 (by decide) ?_
              refine lv_icmp_ne (tgt := 146) hx hb dX6_pipeOf_131 (by decide) (fun c_131 => ?_) (fun c_131 => ?_)
              · skip
                have c_131 : ¬ (vw = 3) := c_131
                rw [if_neg c_131] at hres
                refine lv_aload_n hx hb dX6_pipeOf_146 rfl (lv_at hl 0 rfl) ?_
                refine va_get (D := D) (ci := 6) (v := .ref (ma 2)) (C := RX6) (T := TX6) (N := 11) hx hb hts hinX6 hown hK hP 0 rfl rfl 3 (by decide) lk_0 (fun _ h9 => h9) rfl dX6_pipeOf_147 ?_
                refine lv_bipush (v := 31) hx hb dX6_pipeOf_150 (by decide) ?_
                refine lv_iload_n hx hb dX6_pipeOf_152 rfl (lv_at hl 1 rfl) ?_
                refine lv_iadd hx hb dX6_pipeOf_153 ?_
                refine k_iald hx hb hK hP 2 0 (v := ((mw.2 1) ((31 + vk).toNatClampNeg))) rfl rfl (in_a (A := 31) rfl hp (by decide) (by decide)) rfl dX6_pipeOf_154 ?_
                subst hres
                exact kI_ret hE hS hP hD rfl rfl (Nat.le_of_ble_eq_true rfl) (Nat.le_of_ble_eq_true rfl) dX6_pipeOf_155
              · skip
                have c_131 : (vw = 3) := c_131
                rw [if_pos c_131] at hres
                refine lv_aload_n hx hb dX6_pipeOf_134 rfl (lv_at hl 0 rfl) ?_
                refine va_get (D := D) (ci := 6) (v := .ref (ma 2)) (C := RX6) (T := TX6) (N := 11) hx hb hts hinX6 hown hK hP 0 rfl rfl 3 (by decide) lk_0 (fun _ h9 => h9) rfl dX6_pipeOf_135 ?_
                refine lv_bipush (v := 25) hx hb dX6_pipeOf_138 (by decide) ?_
                refine lv_iload_n hx hb dX6_pipeOf_140 rfl (lv_at hl 1 rfl) ?_
                refine lv_iadd hx hb dX6_pipeOf_141 ?_
                refine k_iald hx hb hK hP 2 0 (v := ((mw.2 1) ((25 + vk).toNatClampNeg))) rfl rfl (in_a (A := 25) rfl hp (by decide) (by decide)) rfl dX6_pipeOf_142 ?_
                refine lv_goto (tgt := 155) hx hb dX6_pipeOf_143 (by decide) ?_
                subst hres
                exact kI_ret hE hS hP hD rfl rfl (Nat.le_of_ble_eq_true rfl) (Nat.le_of_ble_eq_true rfl) dX6_pipeOf_155
            · skip
              have c_107 : (vw = 2) := c_107
              rw [if_pos c_107] at hres
              refine lv_aload_n hx hb dX6_pipeOf_110 rfl (lv_at hl 0 rfl) ?_
              refine va_get (D := D) (ci := 6) (v := .ref (ma 2)) (C := RX6) (T := TX6) (N := 11) hx hb hts hinX6 hown hK hP 0 rfl rfl 3 (by decide) lk_0 (fun _ h9 => h9) rfl dX6_pipeOf_111 ?_
              refine lv_iload_n hx hb dX6_pipeOf_114 rfl (lv_at hl 1 rfl) ?_
              have hP := hP.sub (ws' := (st_W cs (ma 2) (mw.2 1)) ++ (x_pick (md_W cs ma mw) [0, 1, 3, 4, 5, 6])) [2, 0, 1, 3, 4, 5, 6] rfl
              have hD := hD.sub (ws' := (st_W cs (ma 2) (mw.2 1)) ++ (x_pick (md_W cs ma mw) [0, 1, 3, 4, 5, 6])) [2, 0, 1, 3, 4, 5, 6] (by decide) rfl
              have hc_115 := c_X6_isOpen l D cs (ma 2) (mw.2 1) vk hM2.1
              refine kI_call (wc := (st_W cs (ma 2) (mw.2 1))) (wr := (x_pick (md_W cs ma mw) [0, 1, 3, 4, 5, 6])) (w1 := (st_W cs (ma 2) (mw.2 1))) (r := (k_X6_isOpen (mw.2 1) vk)) hE hP hD hS (k_rS (rest := []) (As := [.ref (ma 2), .int vk]) hE rfl (hc_115 H.size) (va_cwS 2 hts gX6_pipeOf_X6_isOpen rfl rfl rfl (by decide +kernel) ⟨Nat.le_of_ble_eq_true rfl, Nat.le_of_ble_eq_true rfl⟩) hP hD hS rfl hl rfl (Nat.le_of_ble_eq_true rfl) ⟨Nat.le_of_ble_eq_true rfl, Nat.le_of_ble_eq_true rfl⟩ dX6_pipeOf_115) (fun H locs hP hD hS => ?_)
              have hP := hP.sub (ws' := md_W cs ma mw) [1, 2, 0, 3, 4, 5, 6] rfl
              have hD := hD.sub (ws' := md_W cs ma mw) [1, 2, 0, 3, 4, 5, 6] (by decide) rfl
              have hP : va_P D vwCl (md_W cs ma mw) H := hP
              have hD : va_D A (md_W cs ma mw) := hD
              refine lv_if_eq (tgt := 125) hx hb dX6_pipeOf_118 (by decide) (fun c_118 => ?_) (fun c_118 => ?_)
              · skip
                have c_118 : ((k_X6_isOpen (mw.2 1) vk) = 0) := c_118
                rw [if_pos c_118] at hres
                refine lv_iconst (v := 0) hx hb dX6_pipeOf_125 (by decide) ?_
                refine lv_goto (tgt := 155) hx hb dX6_pipeOf_126 (by decide) ?_
                subst hres
                exact kI_ret hE hS hP hD rfl rfl (Nat.le_of_ble_eq_true rfl) (Nat.le_of_ble_eq_true rfl) dX6_pipeOf_155
              · skip
                have c_118 : ¬ ((k_X6_isOpen (mw.2 1) vk) = 0) := c_118
                rw [if_neg c_118] at hres
                refine lv_iconst (v := 1) hx hb dX6_pipeOf_121 (by decide) ?_
                refine lv_goto (tgt := 155) hx hb dX6_pipeOf_122 (by decide) ?_
                subst hres
                exact kI_ret hE hS hP hD rfl rfl (Nat.le_of_ble_eq_true rfl) (Nat.le_of_ble_eq_true rfl) dX6_pipeOf_155
          · skip
            have c_91 : (vw = 1) := c_91
            rw [if_pos c_91] at hres
            refine lv_aload_n hx hb dX6_pipeOf_94 rfl (lv_at hl 0 rfl) ?_
            refine va_get (D := D) (ci := 6) (v := .ref (ma 2)) (C := RX6) (T := TX6) (N := 11) hx hb hts hinX6 hown hK hP 0 rfl rfl 3 (by decide) lk_0 (fun _ h9 => h9) rfl dX6_pipeOf_95 ?_
            refine lv_iload_n hx hb dX6_pipeOf_98 rfl (lv_at hl 1 rfl) ?_
            have hP := hP.sub (ws' := (st_W cs (ma 2) (mw.2 1)) ++ (x_pick (md_W cs ma mw) [0, 1, 3, 4, 5, 6])) [2, 0, 1, 3, 4, 5, 6] rfl
            have hD := hD.sub (ws' := (st_W cs (ma 2) (mw.2 1)) ++ (x_pick (md_W cs ma mw) [0, 1, 3, 4, 5, 6])) [2, 0, 1, 3, 4, 5, 6] (by decide) rfl
            have hc_99 := c_X6_barsOf l D cs (ma 2) (mw.2 1) vk hM2.1
            refine kI_call (wc := (st_W cs (ma 2) (mw.2 1))) (wr := (x_pick (md_W cs ma mw) [0, 1, 3, 4, 5, 6])) (w1 := (st_W cs (ma 2) (mw.2 1))) (r := (k_X6_barsOf (mw.2 1) vk)) hE hP hD hS (k_rS (rest := []) (As := [.ref (ma 2), .int vk]) hE rfl (hc_99 H.size) (va_cwS 2 hts gX6_pipeOf_X6_barsOf rfl rfl rfl (by decide +kernel) ⟨Nat.le_of_ble_eq_true rfl, Nat.le_of_ble_eq_true rfl⟩) hP hD hS rfl hl rfl (Nat.le_of_ble_eq_true rfl) ⟨Nat.le_of_ble_eq_true rfl, Nat.le_of_ble_eq_true rfl⟩ dX6_pipeOf_99) (fun H locs hP hD hS => ?_)
            have hP := hP.sub (ws' := md_W cs ma mw) [1, 2, 0, 3, 4, 5, 6] rfl
            have hD := hD.sub (ws' := md_W cs ma mw) [1, 2, 0, 3, 4, 5, 6] (by decide) rfl
            have hP : va_P D vwCl (md_W cs ma mw) H := hP
            have hD : va_D A (md_W cs ma mw) := hD
            refine lv_goto (tgt := 155) hx hb dX6_pipeOf_102 (by decide) ?_
            subst hres
            exact kI_ret hE hS hP hD rfl rfl (Nat.le_of_ble_eq_true rfl) (Nat.le_of_ble_eq_true rfl) dX6_pipeOf_155
        · skip
          have c_82 : (vw = 0) := c_82
          rw [if_pos c_82] at hres
          refine lv_iload_n hx hb dX6_pipeOf_85 rfl (lv_at hl 3 rfl) ?_
          refine lv_goto (tgt := 155) hx hb dX6_pipeOf_86 (by decide) ?_
          subst hres
          exact kI_ret hE hS hP hD rfl rfl (Nat.le_of_ble_eq_true rfl) (Nat.le_of_ble_eq_true rfl) dX6_pipeOf_155
      · skip
        have c_50 : ¬ (((mw.2 1) 0) ≤ i) := c_50
        rw [if_neg c_50] at hres
        refine lv_iload_n hx hb dX6_pipeOf_53 rfl (lv_at hl 3 rfl) ?_
        refine lv_aload_n hx hb dX6_pipeOf_54 rfl (lv_at hl 0 rfl) ?_
        refine va_get (D := D) (ci := 6) (v := .ref (ma 2)) (C := RX6) (T := TX6) (N := 11) hx hb hts hinX6 hown hK hP 0 rfl rfl 3 (by decide) lk_0 (fun _ h9 => h9) rfl dX6_pipeOf_55 ?_
        refine lv_iload hx hb dX6_pipeOf_58 (lv_at hl 4 rfl) ?_
        refine lv_iconst (v := 0) hx hb dX6_pipeOf_60 (by decide) ?_
        have hP := hP.sub (ws' := (st_W cs (ma 2) (mw.2 1)) ++ (x_pick (md_W cs ma mw) [0, 1, 3, 4, 5, 6])) [2, 0, 1, 3, 4, 5, 6] rfl
        have hD := hD.sub (ws' := (st_W cs (ma 2) (mw.2 1)) ++ (x_pick (md_W cs ma mw) [0, 1, 3, 4, 5, 6])) [2, 0, 1, 3, 4, 5, 6] (by decide) rfl
        have hc_61 := c_X6_peg l D cs (ma 2) (mw.2 1) i 0 (nI_b hi (by omega) hj2) (by decide)
        refine kI_call (wc := (st_W cs (ma 2) (mw.2 1))) (wr := (x_pick (md_W cs ma mw) [0, 1, 3, 4, 5, 6])) (w1 := (st_W cs (ma 2) (mw.2 1))) (r := (k_X6_peg (mw.2 1) i 0)) hE hP hD hS (k_rS (rest := [.int acc]) (As := [.ref (ma 2), .int i, .int 0]) hE rfl (hc_61 H.size) (va_cwS 3 hts gX6_pipeOf_X6_peg rfl rfl rfl (by decide +kernel) ⟨Nat.le_of_ble_eq_true rfl, Nat.le_of_ble_eq_true rfl⟩) hP hD hS rfl hl rfl (Nat.le_of_ble_eq_true rfl) ⟨Nat.le_of_ble_eq_true rfl, Nat.le_of_ble_eq_true rfl⟩ dX6_pipeOf_61) (fun H locs hP hD hS => ?_)
        have hP := hP.sub (ws' := md_W cs ma mw) [1, 2, 0, 3, 4, 5, 6] rfl
        have hD := hD.sub (ws' := md_W cs ma mw) [1, 2, 0, 3, 4, 5, 6] (by decide) rfl
        have hP : va_P D vwCl (md_W cs ma mw) H := hP
        have hD : va_D A (md_W cs ma mw) := hD
        refine lv_iload_n hx hb dX6_pipeOf_64 rfl (lv_at hl 1 rfl) ?_
        refine lv_icmp_ne (tgt := 72) hx hb dX6_pipeOf_65 (by decide) (fun c_65 => ?_) (fun c_65 => ?_)
        · skip
          have c_65 : ¬ ((k_X6_peg (mw.2 1) i 0) = vk) := c_65
          rw [if_neg c_65] at hres
          refine lv_iconst (v := 0) hx hb dX6_pipeOf_72 (by decide) ?_
          refine lv_iadd hx hb dX6_pipeOf_73 ?_
          refine lv_istore_n (lv' := [(3, .int (acc + 0)), (0, .ref (ma 0)), (1, .int vk), (2, .int vw), (4, .int i)]) hx hb dX6_pipeOf_74 rfl hl (by decide) rfl (fun ls hl => ?_)
          refine lv_iinc (v := (i + 1)) (lv' := [(4, .int (i + 1)), (3, .int (acc + 0)), (0, .ref (ma 0)), (1, .int vk), (2, .int vw)]) hx hb dX6_pipeOf_75 hl (k := 4) rfl (by rfl) (by decide) rfl (fun ls hl => ?_)
          refine lv_goto (tgt := 42) hx hb dX6_pipeOf_78 (by decide) ?_
          exact ih (i + 1) (acc + 0) mw (j + 1) (by rw [hi, nI_1]) (by omega) (nI_ltb hi (by omega) hM2.1.1.2 c_50) (hM2) (hp) _ _ _ hS hP hD (lv_sub hl [2, 3, 4, 1, 0] rfl) hres
        · skip
          have c_65 : ((k_X6_peg (mw.2 1) i 0) = vk) := c_65
          rw [if_pos c_65] at hres
          refine lv_iconst (v := 1) hx hb dX6_pipeOf_68 (by decide) ?_
          refine lv_goto (tgt := 73) hx hb dX6_pipeOf_69 (by decide) ?_
          refine lv_iadd hx hb dX6_pipeOf_73 ?_
          refine lv_istore_n (lv' := [(3, .int (acc + 1)), (0, .ref (ma 0)), (1, .int vk), (2, .int vw), (4, .int i)]) hx hb dX6_pipeOf_74 rfl hl (by decide) rfl (fun ls hl => ?_)
          refine lv_iinc (v := (i + 1)) (lv' := [(4, .int (i + 1)), (3, .int (acc + 1)), (0, .ref (ma 0)), (1, .int vk), (2, .int vw)]) hx hb dX6_pipeOf_75 hl (k := 4) rfl (by rfl) (by decide) rfl (fun ls hl => ?_)
          refine lv_goto (tgt := 42) hx hb dX6_pipeOf_78 (by decide) ?_
          exact ih (i + 1) (acc + 1) mw (j + 1) (by rw [hi, nI_1]) (by omega) (nI_ltb hi (by omega) hM2.1.1.2 c_50) (hM2) (hp) _ _ _ hS hP hD (lv_sub hl [2, 3, 4, 1, 0] rfl) hres
  unfold k_X6_pipeOf at hres
  refine lv_aload_n hx hb dX6_pipeOf_0 rfl (lv_at hl 0 rfl) ?_
  refine lv_iload_n hx hb dX6_pipeOf_1 rfl (lv_at hl 1 rfl) ?_
  have hP : va_P D vwCl ([] ++ (md_W cs ma mv)) H := hP
  have hD : va_D A ([] ++ (md_W cs ma mv)) := hD
  have hc_2 := c_X6_isPipe l D cs vk
  refine kI_call (wc := []) (wr := (md_W cs ma mv)) (w1 := []) (r := (k_X6_isPipe vk)) hE hP hD hS (k_rS (rest := [.ref (ma 0)]) (As := [.int vk]) hE rfl (hc_2 H.size) (va_cwS 1 hts gX6_pipeOf_X6_isPipe rfl rfl rfl (by decide +kernel) ⟨Nat.le_of_ble_eq_true rfl, Nat.le_of_ble_eq_true rfl⟩) hP hD hS rfl hl rfl (Nat.le_of_ble_eq_true rfl) ⟨Nat.le_of_ble_eq_true rfl, Nat.le_of_ble_eq_true rfl⟩ dX6_pipeOf_2) (fun H locs hP hD hS => ?_)
  have hP : va_P D vwCl (md_W cs ma mv) H := hP
  have hD : va_D A (md_W cs ma mv) := hD
  refine lv_if_ne (tgt := 12) hx hb dX6_pipeOf_5 (by decide) (fun c_5 => ?_) (fun c_5 => ?_)
  · skip
    have c_5 : ¬ ((k_X6_isPipe vk) = 0) := c_5
    rw [if_neg c_5] at hres
    refine lv_iload_n hx hb dX6_pipeOf_12 rfl (lv_at hl 2 rfl) ?_
    refine lv_i2l hx hb dX6_pipeOf_13 rfl ?_
    refine lv_lconst (v := 0) hx hb dX6_pipeOf_14 (by decide) ?_
    refine lv_ldc2 (v := 4) hx hb hown lk_1 dX6_pipeOf_15 ?_
    have hP : va_P D vwCl ([] ++ (md_W cs ma mv)) H := hP
    have hD : va_D A ([] ++ (md_W cs ma mv)) := hD
    have hc_18 := c_X6_in l D cs (vw.toInt64) 0 4
    refine kI_call (wc := []) (wr := (md_W cs ma mv)) (w1 := []) (r := (k_X6_in (vw.toInt64) 0 4)) hE hP hD hS (k_rS (rest := [.ref (ma 0)]) (As := [.long (vw.toInt64), .long 0, .long 4]) hE rfl (hc_18 H.size) (va_cwS 3 hts gX6_pipeOf_X6_in rfl rfl rfl (by decide +kernel) ⟨Nat.le_of_ble_eq_true rfl, Nat.le_of_ble_eq_true rfl⟩) hP hD hS rfl hl rfl (Nat.le_of_ble_eq_true rfl) ⟨Nat.le_of_ble_eq_true rfl, Nat.le_of_ble_eq_true rfl⟩ dX6_pipeOf_18) (fun H locs hP hD hS => ?_)
    have hP : va_P D vwCl (md_W cs ma mv) H := hP
    have hD : va_D A (md_W cs ma mv) := hD
    refine lv_if_eq (tgt := 28) hx hb dX6_pipeOf_21 (by decide) (fun c_21 => ?_) (fun c_21 => ?_)
    · skip
      have c_21 : ((k_X6_in (vw.toInt64) 0 4) = 0) := c_21
      rw [if_pos c_21] at hres
      refine lv_iconst (v := 2) hx hb dX6_pipeOf_28 (by decide) ?_
      have hP : va_P D vwCl ((md_W cs ma mv) ++ []) H := k_nP hP
      have hD : va_D A ((md_W cs ma mv) ++ []) := k_nD hD
      have hc_29 := c_X6_refused l D cs ma mv 2
      obtain ⟨r_29, o_29, e_29⟩ : ∃ r9 o9, (k_X6_refused mv 2) = (r9, o9) := ⟨_, _, rfl⟩
      rw [e_29] at hc_29 hres
      dsimp only at hc_29 hres
      refine kI_call (wc := (md_W cs ma mv)) (wr := []) (w1 := md_W cs ma o_29) (r := r_29) hE hP hD hS (k_rV (rest := []) (As := [.int 2]) hE rfl (hc_29 H.size) (cwV 1 hts gX6_pipeOf_X6_refused rfl rfl rfl (by decide +kernel) ⟨Nat.le_of_ble_eq_true rfl, Nat.le_of_ble_eq_true rfl⟩) hP hD hS (ci := 6) (q0 := 0) rfl rfl rfl hl rfl (Nat.le_of_ble_eq_true rfl) ⟨Nat.le_of_ble_eq_true rfl, Nat.le_of_ble_eq_true rfl⟩ dX6_pipeOf_29) (fun H locs hP hD hS => ?_)
      have hP := k_uP hP
      have hD := k_uD hD
      have hP : va_P D vwCl (md_W cs ma o_29) H := hP
      have hD : va_D A (md_W cs ma o_29) := hD
      refine lv_if_eq (tgt := 37) hx hb dX6_pipeOf_32 (by decide) (fun c_32 => ?_) (fun c_32 => ?_)
      · skip
        have c_32 : (r_29 = 0) := c_32
        rw [if_pos c_32] at hres
        refine lv_iconst (v := 0) hx hb dX6_pipeOf_37 (by decide) ?_
        refine lv_istore_n (lv' := [(3, .int 0), (0, .ref (ma 0)), (1, .int vk), (2, .int vw)]) hx hb dX6_pipeOf_38 rfl hl (by decide) rfl (fun ls hl => ?_)
        refine lv_iconst (v := 0) hx hb dX6_pipeOf_39 (by decide) ?_
        refine lv_istore (lv' := [(4, .int 0), (3, .int 0), (0, .ref (ma 0)), (1, .int vk), (2, .int vw)]) hx hb dX6_pipeOf_40 hl (by decide) rfl (fun ls hl => ?_)
        exact L42 31 0 0 o_29 0 (nI_0.symm) (rfl) (Nat.zero_le _) (MO_rf e_29 hM) ((by first | exact in_n (A := 0) (B := 5) rfl rfl c_5 | exact absurd (rfd_n e_29 c_32) (by decide))) _ _ _ hS hP hD (lv_sub hl [2, 3, 4, 1, 0] rfl) hres
      · skip
        have c_32 : ¬ (r_29 = 0) := c_32
        rw [if_neg c_32] at hres
        refine lv_iconst (v := 0) hx hb dX6_pipeOf_35 (by decide) ?_
        subst hres
        exact kI_ret hE hS hP hD rfl rfl (Nat.le_of_ble_eq_true rfl) (Nat.le_of_ble_eq_true rfl) dX6_pipeOf_36
    · skip
      have c_21 : ¬ ((k_X6_in (vw.toInt64) 0 4) = 0) := c_21
      rw [if_neg c_21] at hres
      refine lv_iconst (v := 0) hx hb dX6_pipeOf_24 (by decide) ?_
      refine lv_goto (tgt := 29) hx hb dX6_pipeOf_25 (by decide) ?_
      have hP : va_P D vwCl ((md_W cs ma mv) ++ []) H := k_nP hP
      have hD : va_D A ((md_W cs ma mv) ++ []) := k_nD hD
      have hc_29 := c_X6_refused l D cs ma mv 0
      obtain ⟨r_29, o_29, e_29⟩ : ∃ r9 o9, (k_X6_refused mv 0) = (r9, o9) := ⟨_, _, rfl⟩
      rw [e_29] at hc_29 hres
      dsimp only at hc_29 hres
      refine kI_call (wc := (md_W cs ma mv)) (wr := []) (w1 := md_W cs ma o_29) (r := r_29) hE hP hD hS (k_rV (rest := []) (As := [.int 0]) hE rfl (hc_29 H.size) (cwV 1 hts gX6_pipeOf_X6_refused rfl rfl rfl (by decide +kernel) ⟨Nat.le_of_ble_eq_true rfl, Nat.le_of_ble_eq_true rfl⟩) hP hD hS (ci := 6) (q0 := 0) rfl rfl rfl hl rfl (Nat.le_of_ble_eq_true rfl) ⟨Nat.le_of_ble_eq_true rfl, Nat.le_of_ble_eq_true rfl⟩ dX6_pipeOf_29) (fun H locs hP hD hS => ?_)
      have hP := k_uP hP
      have hD := k_uD hD
      have hP : va_P D vwCl (md_W cs ma o_29) H := hP
      have hD : va_D A (md_W cs ma o_29) := hD
      refine lv_if_eq (tgt := 37) hx hb dX6_pipeOf_32 (by decide) (fun c_32 => ?_) (fun c_32 => ?_)
      · skip
        have c_32 : (r_29 = 0) := c_32
        rw [if_pos c_32] at hres
        refine lv_iconst (v := 0) hx hb dX6_pipeOf_37 (by decide) ?_
        refine lv_istore_n (lv' := [(3, .int 0), (0, .ref (ma 0)), (1, .int vk), (2, .int vw)]) hx hb dX6_pipeOf_38 rfl hl (by decide) rfl (fun ls hl => ?_)
        refine lv_iconst (v := 0) hx hb dX6_pipeOf_39 (by decide) ?_
        refine lv_istore (lv' := [(4, .int 0), (3, .int 0), (0, .ref (ma 0)), (1, .int vk), (2, .int vw)]) hx hb dX6_pipeOf_40 hl (by decide) rfl (fun ls hl => ?_)
        exact L42 31 0 0 o_29 0 (nI_0.symm) (rfl) (Nat.zero_le _) (MO_rf e_29 hM) ((by first | exact in_n (A := 0) (B := 5) rfl rfl c_5 | exact absurd (rfd_n e_29 c_32) (by decide))) _ _ _ hS hP hD (lv_sub hl [2, 3, 4, 1, 0] rfl) hres
      · skip
        have c_32 : ¬ (r_29 = 0) := c_32
        rw [if_neg c_32] at hres
        refine lv_iconst (v := 0) hx hb dX6_pipeOf_35 (by decide) ?_
        subst hres
        exact kI_ret hE hS hP hD rfl rfl (Nat.le_of_ble_eq_true rfl) (Nat.le_of_ble_eq_true rfl) dX6_pipeOf_36
  · skip
    have c_5 : ((k_X6_isPipe vk) = 0) := c_5
    rw [if_pos c_5] at hres
    refine lv_iconst (v := 1) hx hb dX6_pipeOf_8 (by decide) ?_
    refine lv_goto (tgt := 29) hx hb dX6_pipeOf_9 (by decide) ?_
    have hP : va_P D vwCl ((md_W cs ma mv) ++ []) H := k_nP hP
    have hD : va_D A ((md_W cs ma mv) ++ []) := k_nD hD
    have hc_29 := c_X6_refused l D cs ma mv 1
    obtain ⟨r_29, o_29, e_29⟩ : ∃ r9 o9, (k_X6_refused mv 1) = (r9, o9) := ⟨_, _, rfl⟩
    rw [e_29] at hc_29 hres
    dsimp only at hc_29 hres
    refine kI_call (wc := (md_W cs ma mv)) (wr := []) (w1 := md_W cs ma o_29) (r := r_29) hE hP hD hS (k_rV (rest := []) (As := [.int 1]) hE rfl (hc_29 H.size) (cwV 1 hts gX6_pipeOf_X6_refused rfl rfl rfl (by decide +kernel) ⟨Nat.le_of_ble_eq_true rfl, Nat.le_of_ble_eq_true rfl⟩) hP hD hS (ci := 6) (q0 := 0) rfl rfl rfl hl rfl (Nat.le_of_ble_eq_true rfl) ⟨Nat.le_of_ble_eq_true rfl, Nat.le_of_ble_eq_true rfl⟩ dX6_pipeOf_29) (fun H locs hP hD hS => ?_)
    have hP := k_uP hP
    have hD := k_uD hD
    have hP : va_P D vwCl (md_W cs ma o_29) H := hP
    have hD : va_D A (md_W cs ma o_29) := hD
    refine lv_if_eq (tgt := 37) hx hb dX6_pipeOf_32 (by decide) (fun c_32 => ?_) (fun c_32 => ?_)
    · skip
      have c_32 : (r_29 = 0) := c_32
      rw [if_pos c_32] at hres
      refine lv_iconst (v := 0) hx hb dX6_pipeOf_37 (by decide) ?_
      refine lv_istore_n (lv' := [(3, .int 0), (0, .ref (ma 0)), (1, .int vk), (2, .int vw)]) hx hb dX6_pipeOf_38 rfl hl (by decide) rfl (fun ls hl => ?_)
      refine lv_iconst (v := 0) hx hb dX6_pipeOf_39 (by decide) ?_
      refine lv_istore (lv' := [(4, .int 0), (3, .int 0), (0, .ref (ma 0)), (1, .int vk), (2, .int vw)]) hx hb dX6_pipeOf_40 hl (by decide) rfl (fun ls hl => ?_)
      exact L42 31 0 0 o_29 0 (nI_0.symm) (rfl) (Nat.zero_le _) (MO_rf e_29 hM) ((by first | exact in_n (A := 0) (B := 5) rfl rfl c_5 | exact absurd (rfd_n e_29 c_32) (by decide))) _ _ _ hS hP hD (lv_sub hl [2, 3, 4, 1, 0] rfl) hres
    · skip
      have c_32 : ¬ (r_29 = 0) := c_32
      rw [if_neg c_32] at hres
      refine lv_iconst (v := 0) hx hb dX6_pipeOf_35 (by decide) ?_
      subst hres
      exact kI_ret hE hS hP hD rfl rfl (Nat.le_of_ble_eq_true rfl) (Nat.le_of_ble_eq_true rfl) dX6_pipeOf_36
set_option maxHeartbeats 4000000 in
set_option maxRecDepth 100000 in
theorem c_X6_chord (l : Launch) (D : va_G) (cs : Nat → ClassId) (ma : Nat → Nat) (mv : MV) (vk : Int32) (hM : MO mv) : kI l yX6_chord wsX6_chord { frames := 3, cells := 0, slots := 0, locals := 69 } 0 0 D cs [.ref (ma 0), .int vk] (md_W cs ma mv) (k_X6_chord mv vk).1 (md_W cs ma ((k_X6_chord mv vk).2)) := by
  generalize hres : k_X6_chord mv vk = res
  refine kI_of (cc := cX6_chord) (maxL := 2) (ret := (some .int)) (by decide) rfl (Nat.le_of_ble_eq_true rfl) ?_
  intro p e s m below meth c A ls H locs hE hS hP hD hl
  obtain ⟨hx, hb, hr, hlocks, hml, hown, hts, hK, hA, hG, hnm⟩ := id hE
  have hown : s.vm.findClass RX6 = some m.cls := hown
  have hl : lv_has ls 2 [(0, .ref (ma 0)), (1, .int vk)] := hl
  have hinX6 : ∀ w ∈ wsX60, w ∈ wsX6_chord := by decide +kernel
  have lk_0 := hts (.fieldLink RX6 13 "OrganPegsModel" "now" "[I") (by decide +kernel)
  unfold k_X6_chord at hres
  refine lv_aload_n hx hb dX6_chord_0 rfl (lv_at hl 0 rfl) ?_
  refine lv_iload_n hx hb dX6_chord_1 rfl (lv_at hl 1 rfl) ?_
  have hP : va_P D vwCl ([] ++ (md_W cs ma mv)) H := hP
  have hD : va_D A ([] ++ (md_W cs ma mv)) := hD
  have hc_2 := c_X6_isBar l D cs vk
  refine kI_call (wc := []) (wr := (md_W cs ma mv)) (w1 := []) (r := (k_X6_isBar vk)) hE hP hD hS (k_rS (rest := [.ref (ma 0)]) (As := [.int vk]) hE rfl (hc_2 H.size) (va_cwS 1 hts gX6_chord_X6_isBar rfl rfl rfl (by decide +kernel) ⟨Nat.le_of_ble_eq_true rfl, Nat.le_of_ble_eq_true rfl⟩) hP hD hS rfl hl rfl (Nat.le_of_ble_eq_true rfl) ⟨Nat.le_of_ble_eq_true rfl, Nat.le_of_ble_eq_true rfl⟩ dX6_chord_2) (fun H locs hP hD hS => ?_)
  have hP : va_P D vwCl (md_W cs ma mv) H := hP
  have hD : va_D A (md_W cs ma mv) := hD
  refine lv_if_eq (tgt := 12) hx hb dX6_chord_5 (by decide) (fun c_5 => ?_) (fun c_5 => ?_)
  · skip
    have c_5 : ((k_X6_isBar vk) = 0) := c_5
    rw [if_pos c_5] at hres
    refine lv_iconst (v := 1) hx hb dX6_chord_12 (by decide) ?_
    have hP : va_P D vwCl ((md_W cs ma mv) ++ []) H := k_nP hP
    have hD : va_D A ((md_W cs ma mv) ++ []) := k_nD hD
    have hc_13 := c_X6_refused l D cs ma mv 1
    obtain ⟨r_13, o_13, e_13⟩ : ∃ r9 o9, (k_X6_refused mv 1) = (r9, o9) := ⟨_, _, rfl⟩
    rw [e_13] at hc_13 hres
    dsimp only at hc_13 hres
    refine kI_call (wc := (md_W cs ma mv)) (wr := []) (w1 := md_W cs ma o_13) (r := r_13) hE hP hD hS (k_rV (rest := []) (As := [.int 1]) hE rfl (hc_13 H.size) (cwV 1 hts gX6_chord_X6_refused rfl rfl rfl (by decide +kernel) ⟨Nat.le_of_ble_eq_true rfl, Nat.le_of_ble_eq_true rfl⟩) hP hD hS (ci := 6) (q0 := 0) rfl rfl rfl hl rfl (Nat.le_of_ble_eq_true rfl) ⟨Nat.le_of_ble_eq_true rfl, Nat.le_of_ble_eq_true rfl⟩ dX6_chord_13) (fun H locs hP hD hS => ?_)
    have hP := k_uP hP
    have hD := k_uD hD
    have hP : va_P D vwCl (md_W cs ma o_13) H := hP
    have hD : va_D A (md_W cs ma o_13) := hD
    refine lv_if_eq (tgt := 21) hx hb dX6_chord_16 (by decide) (fun c_16 => ?_) (fun c_16 => ?_)
    · skip
      have c_16 : (r_13 = 0) := c_16
      rw [if_pos c_16] at hres
      refine lv_aload_n hx hb dX6_chord_21 rfl (lv_at hl 0 rfl) ?_
      refine va_get (D := D) (ci := 6) (v := .ref (ma 2)) (C := RX6) (T := TX6) (N := 11) hx hb hts hinX6 hown hK hP 0 rfl rfl 3 (by decide) lk_0 (fun _ h9 => h9) rfl dX6_chord_22 ?_
      refine lv_iload_n hx hb dX6_chord_25 rfl (lv_at hl 1 rfl) ?_
      have hP := hP.sub (ws' := (st_W cs (ma 2) (o_13.2 1)) ++ (x_pick (md_W cs ma o_13) [0, 1, 3, 4, 5, 6])) [2, 0, 1, 3, 4, 5, 6] rfl
      have hD := hD.sub (ws' := (st_W cs (ma 2) (o_13.2 1)) ++ (x_pick (md_W cs ma o_13) [0, 1, 3, 4, 5, 6])) [2, 0, 1, 3, 4, 5, 6] (by decide) rfl
      have hc_26 := c_X6_chordAt l D cs (ma 2) (o_13.2 1) vk (MO_rf e_13 hM).1
      refine kI_call (wc := (st_W cs (ma 2) (o_13.2 1))) (wr := (x_pick (md_W cs ma o_13) [0, 1, 3, 4, 5, 6])) (w1 := (st_W cs (ma 2) (o_13.2 1))) (r := (k_X6_chordAt (o_13.2 1) vk)) hE hP hD hS (k_rS (rest := []) (As := [.ref (ma 2), .int vk]) hE rfl (hc_26 H.size) (va_cwS 2 hts gX6_chord_X6_chordAt rfl rfl rfl (by decide +kernel) ⟨Nat.le_of_ble_eq_true rfl, Nat.le_of_ble_eq_true rfl⟩) hP hD hS rfl hl rfl (Nat.le_of_ble_eq_true rfl) ⟨Nat.le_of_ble_eq_true rfl, Nat.le_of_ble_eq_true rfl⟩ dX6_chord_26) (fun H locs hP hD hS => ?_)
      have hP := hP.sub (ws' := md_W cs ma o_13) [1, 2, 0, 3, 4, 5, 6] rfl
      have hD := hD.sub (ws' := md_W cs ma o_13) [1, 2, 0, 3, 4, 5, 6] (by decide) rfl
      have hP : va_P D vwCl (md_W cs ma o_13) H := hP
      have hD : va_D A (md_W cs ma o_13) := hD
      subst hres
      exact kI_ret hE hS hP hD rfl rfl (Nat.le_of_ble_eq_true rfl) (Nat.le_of_ble_eq_true rfl) dX6_chord_29
    · skip
      have c_16 : ¬ (r_13 = 0) := c_16
      rw [if_neg c_16] at hres
      refine lv_iconst (v := 0) hx hb dX6_chord_19 (by decide) ?_
      subst hres
      exact kI_ret hE hS hP hD rfl rfl (Nat.le_of_ble_eq_true rfl) (Nat.le_of_ble_eq_true rfl) dX6_chord_20
  · skip
    have c_5 : ¬ ((k_X6_isBar vk) = 0) := c_5
    rw [if_neg c_5] at hres
    refine lv_iconst (v := 0) hx hb dX6_chord_8 (by decide) ?_
    refine lv_goto (tgt := 13) hx hb dX6_chord_9 (by decide) ?_
    have hP : va_P D vwCl ((md_W cs ma mv) ++ []) H := k_nP hP
    have hD : va_D A ((md_W cs ma mv) ++ []) := k_nD hD
    have hc_13 := c_X6_refused l D cs ma mv 0
    obtain ⟨r_13, o_13, e_13⟩ : ∃ r9 o9, (k_X6_refused mv 0) = (r9, o9) := ⟨_, _, rfl⟩
    rw [e_13] at hc_13 hres
    dsimp only at hc_13 hres
    refine kI_call (wc := (md_W cs ma mv)) (wr := []) (w1 := md_W cs ma o_13) (r := r_13) hE hP hD hS (k_rV (rest := []) (As := [.int 0]) hE rfl (hc_13 H.size) (cwV 1 hts gX6_chord_X6_refused rfl rfl rfl (by decide +kernel) ⟨Nat.le_of_ble_eq_true rfl, Nat.le_of_ble_eq_true rfl⟩) hP hD hS (ci := 6) (q0 := 0) rfl rfl rfl hl rfl (Nat.le_of_ble_eq_true rfl) ⟨Nat.le_of_ble_eq_true rfl, Nat.le_of_ble_eq_true rfl⟩ dX6_chord_13) (fun H locs hP hD hS => ?_)
    have hP := k_uP hP
    have hD := k_uD hD
    have hP : va_P D vwCl (md_W cs ma o_13) H := hP
    have hD : va_D A (md_W cs ma o_13) := hD
    refine lv_if_eq (tgt := 21) hx hb dX6_chord_16 (by decide) (fun c_16 => ?_) (fun c_16 => ?_)
    · skip
      have c_16 : (r_13 = 0) := c_16
      rw [if_pos c_16] at hres
      refine lv_aload_n hx hb dX6_chord_21 rfl (lv_at hl 0 rfl) ?_
      refine va_get (D := D) (ci := 6) (v := .ref (ma 2)) (C := RX6) (T := TX6) (N := 11) hx hb hts hinX6 hown hK hP 0 rfl rfl 3 (by decide) lk_0 (fun _ h9 => h9) rfl dX6_chord_22 ?_
      refine lv_iload_n hx hb dX6_chord_25 rfl (lv_at hl 1 rfl) ?_
      have hP := hP.sub (ws' := (st_W cs (ma 2) (o_13.2 1)) ++ (x_pick (md_W cs ma o_13) [0, 1, 3, 4, 5, 6])) [2, 0, 1, 3, 4, 5, 6] rfl
      have hD := hD.sub (ws' := (st_W cs (ma 2) (o_13.2 1)) ++ (x_pick (md_W cs ma o_13) [0, 1, 3, 4, 5, 6])) [2, 0, 1, 3, 4, 5, 6] (by decide) rfl
      have hc_26 := c_X6_chordAt l D cs (ma 2) (o_13.2 1) vk (MO_rf e_13 hM).1
      refine kI_call (wc := (st_W cs (ma 2) (o_13.2 1))) (wr := (x_pick (md_W cs ma o_13) [0, 1, 3, 4, 5, 6])) (w1 := (st_W cs (ma 2) (o_13.2 1))) (r := (k_X6_chordAt (o_13.2 1) vk)) hE hP hD hS (k_rS (rest := []) (As := [.ref (ma 2), .int vk]) hE rfl (hc_26 H.size) (va_cwS 2 hts gX6_chord_X6_chordAt rfl rfl rfl (by decide +kernel) ⟨Nat.le_of_ble_eq_true rfl, Nat.le_of_ble_eq_true rfl⟩) hP hD hS rfl hl rfl (Nat.le_of_ble_eq_true rfl) ⟨Nat.le_of_ble_eq_true rfl, Nat.le_of_ble_eq_true rfl⟩ dX6_chord_26) (fun H locs hP hD hS => ?_)
      have hP := hP.sub (ws' := md_W cs ma o_13) [1, 2, 0, 3, 4, 5, 6] rfl
      have hD := hD.sub (ws' := md_W cs ma o_13) [1, 2, 0, 3, 4, 5, 6] (by decide) rfl
      have hP : va_P D vwCl (md_W cs ma o_13) H := hP
      have hD : va_D A (md_W cs ma o_13) := hD
      subst hres
      exact kI_ret hE hS hP hD rfl rfl (Nat.le_of_ble_eq_true rfl) (Nat.le_of_ble_eq_true rfl) dX6_chord_29
    · skip
      have c_16 : ¬ (r_13 = 0) := c_16
      rw [if_neg c_16] at hres
      refine lv_iconst (v := 0) hx hb dX6_chord_19 (by decide) ?_
      subst hres
      exact kI_ret hE hS hP hD rfl rfl (Nat.le_of_ble_eq_true rfl) (Nat.le_of_ble_eq_true rfl) dX6_chord_20
set_option maxHeartbeats 4000000 in
set_option maxRecDepth 100000 in
theorem c_X6_covered (l : Launch) (D : va_G) (cs : Nat → ClassId) (ma : Nat → Nat) (mv : MV) (vk : Int32) (hM : MO mv) : kI l yX6_covered wsX6_covered { frames := 3, cells := 0, slots := 0, locals := 69 } 0 0 D cs [.ref (ma 0), .int vk] (md_W cs ma mv) (k_X6_covered mv vk).1 (md_W cs ma ((k_X6_covered mv vk).2)) := by
  generalize hres : k_X6_covered mv vk = res
  refine kI_of (cc := cX6_covered) (maxL := 4) (ret := (some .int)) (by decide) rfl (Nat.le_of_ble_eq_true rfl) ?_
  intro p e s m below meth c A ls H locs hE hS hP hD hl
  obtain ⟨hx, hb, hr, hlocks, hml, hown, hts, hK, hA, hG, hnm⟩ := id hE
  have hown : s.vm.findClass RX6 = some m.cls := hown
  have hl : lv_has ls 4 [(0, .ref (ma 0)), (1, .int vk)] := hl
  have hinX6 : ∀ w ∈ wsX60, w ∈ wsX6_covered := by decide +kernel
  have lk_0 := hts (.fieldLink RX6 13 "OrganPegsModel" "now" "[I") (by decide +kernel)
  have L28 : ∀ (n : Nat) (i : Int32) (acc : Int32) (mw : MV) (j : Nat) (hi : i = nI j) (hj : j + n = 7) (hj2 : j ≤ 6) (hM2 : MO mw) (H : Heap) (locs : List Loc) (ls : Array Slot), va_S A s.heap H locs → va_P D vwCl (md_W cs ma mw) H → va_D A (md_W cs ma mw) → lv_has ls 4 [(0, .ref (ma 0)), (1, .int vk), (2, .int acc), (3, .int i)] → k_X6_covered_L28 mv vk n i acc mw = res → W p l e { frames := 3, cells := 0, slots := 0, locals := 69 } s m ([.ref (ma 0), .int vk]).toArray below meth c H locs 0 0 (MQ below (va_Qi (fun (r' : Int32) (_ : Unit) => r' = res.1) (kB D (fun _ => md_W cs ma res.2) A) A) ([.ref (ma 0), .int vk]).toArray s 0 0 A) (F0 m 28 ls []) := by
    intro n
    induction n with
    | zero =>
      intro i acc mw j hi hj hj2 hM2 H locs ls hS hP hD hl hres
      exact absurd hj2 (by omega)
    | succ n ih =>
      intro i acc mw j hi hj hj2 hM2 H locs ls hS hP hD hl hres
      unfold k_X6_covered_L28 at hres
      refine lv_iload_n hx hb dX6_covered_28 rfl (lv_at hl 3 rfl) ?_
      refine lv_bipush (v := 6) hx hb dX6_covered_29 (by decide) ?_
      refine lv_icmp_ge (tgt := 51) hx hb dX6_covered_31 (by decide) (fun c_31 => ?_) (fun c_31 => ?_)
      · skip
        have c_31 : (6 ≤ i) := c_31
        rw [if_pos c_31] at hres
        refine lv_iload_n hx hb dX6_covered_51 rfl (lv_at hl 2 rfl) ?_
        subst hres
        exact kI_ret hE hS hP hD rfl rfl (Nat.le_of_ble_eq_true rfl) (Nat.le_of_ble_eq_true rfl) dX6_covered_52
      · skip
        have c_31 : ¬ (6 ≤ i) := c_31
        rw [if_neg c_31] at hres
        refine lv_iload_n hx hb dX6_covered_34 rfl (lv_at hl 2 rfl) ?_
        refine lv_aload_n hx hb dX6_covered_35 rfl (lv_at hl 0 rfl) ?_
        refine va_get (D := D) (ci := 6) (v := .ref (ma 2)) (C := RX6) (T := TX6) (N := 11) hx hb hts hinX6 hown hK hP 0 rfl rfl 3 (by decide) lk_0 (fun _ h9 => h9) rfl dX6_covered_36 ?_
        refine lv_iload_n hx hb dX6_covered_39 rfl (lv_at hl 3 rfl) ?_
        have hP := hP.sub (ws' := (st_W cs (ma 2) (mw.2 1)) ++ (x_pick (md_W cs ma mw) [0, 1, 3, 4, 5, 6])) [2, 0, 1, 3, 4, 5, 6] rfl
        have hD := hD.sub (ws' := (st_W cs (ma 2) (mw.2 1)) ++ (x_pick (md_W cs ma mw) [0, 1, 3, 4, 5, 6])) [2, 0, 1, 3, 4, 5, 6] (by decide) rfl
        have hc_40 := c_X6_barsOf l D cs (ma 2) (mw.2 1) i hM2.1
        refine kI_call (wc := (st_W cs (ma 2) (mw.2 1))) (wr := (x_pick (md_W cs ma mw) [0, 1, 3, 4, 5, 6])) (w1 := (st_W cs (ma 2) (mw.2 1))) (r := (k_X6_barsOf (mw.2 1) i)) hE hP hD hS (k_rS (rest := [.int acc]) (As := [.ref (ma 2), .int i]) hE rfl (hc_40 H.size) (va_cwS 2 hts gX6_covered_X6_barsOf rfl rfl rfl (by decide +kernel) ⟨Nat.le_of_ble_eq_true rfl, Nat.le_of_ble_eq_true rfl⟩) hP hD hS rfl hl rfl (Nat.le_of_ble_eq_true rfl) ⟨Nat.le_of_ble_eq_true rfl, Nat.le_of_ble_eq_true rfl⟩ dX6_covered_40) (fun H locs hP hD hS => ?_)
        have hP := hP.sub (ws' := md_W cs ma mw) [1, 2, 0, 3, 4, 5, 6] rfl
        have hD := hD.sub (ws' := md_W cs ma mw) [1, 2, 0, 3, 4, 5, 6] (by decide) rfl
        have hP : va_P D vwCl (md_W cs ma mw) H := hP
        have hD : va_D A (md_W cs ma mw) := hD
        refine lv_iadd hx hb dX6_covered_43 ?_
        refine lv_istore_n (lv' := [(2, .int (acc + (k_X6_barsOf (mw.2 1) i))), (0, .ref (ma 0)), (1, .int vk), (3, .int i)]) hx hb dX6_covered_44 rfl hl (by decide) rfl (fun ls hl => ?_)
        refine lv_iinc (v := (i + 1)) (lv' := [(3, .int (i + 1)), (2, .int (acc + (k_X6_barsOf (mw.2 1) i))), (0, .ref (ma 0)), (1, .int vk)]) hx hb dX6_covered_45 hl (k := 3) rfl (by rfl) (by decide) rfl (fun ls hl => ?_)
        refine lv_goto (tgt := 28) hx hb dX6_covered_48 (by decide) ?_
        exact ih (i + 1) (acc + (k_X6_barsOf (mw.2 1) i)) mw (j + 1) (by rw [hi, nI_1]) (by omega) (nI_lts hi (by omega) (by decide) c_31) (hM2) _ _ _ hS hP hD (lv_sub hl [2, 3, 1, 0] rfl) hres
  unfold k_X6_covered at hres
  refine lv_aload_n hx hb dX6_covered_0 rfl (lv_at hl 0 rfl) ?_
  refine lv_iload_n hx hb dX6_covered_1 rfl (lv_at hl 1 rfl) ?_
  refine lv_i2l hx hb dX6_covered_2 rfl ?_
  refine lv_lconst (v := 0) hx hb dX6_covered_3 (by decide) ?_
  refine lv_lconst (v := 1) hx hb dX6_covered_4 (by decide) ?_
  have hP : va_P D vwCl ([] ++ (md_W cs ma mv)) H := hP
  have hD : va_D A ([] ++ (md_W cs ma mv)) := hD
  have hc_5 := c_X6_in l D cs (vk.toInt64) 0 1
  refine kI_call (wc := []) (wr := (md_W cs ma mv)) (w1 := []) (r := (k_X6_in (vk.toInt64) 0 1)) hE hP hD hS (k_rS (rest := [.ref (ma 0)]) (As := [.long (vk.toInt64), .long 0, .long 1]) hE rfl (hc_5 H.size) (va_cwS 3 hts gX6_covered_X6_in rfl rfl rfl (by decide +kernel) ⟨Nat.le_of_ble_eq_true rfl, Nat.le_of_ble_eq_true rfl⟩) hP hD hS rfl hl rfl (Nat.le_of_ble_eq_true rfl) ⟨Nat.le_of_ble_eq_true rfl, Nat.le_of_ble_eq_true rfl⟩ dX6_covered_5) (fun H locs hP hD hS => ?_)
  have hP : va_P D vwCl (md_W cs ma mv) H := hP
  have hD : va_D A (md_W cs ma mv) := hD
  refine lv_if_eq (tgt := 15) hx hb dX6_covered_8 (by decide) (fun c_8 => ?_) (fun c_8 => ?_)
  · skip
    have c_8 : ((k_X6_in (vk.toInt64) 0 1) = 0) := c_8
    rw [if_pos c_8] at hres
    refine lv_iconst (v := 1) hx hb dX6_covered_15 (by decide) ?_
    have hP : va_P D vwCl ((md_W cs ma mv) ++ []) H := k_nP hP
    have hD : va_D A ((md_W cs ma mv) ++ []) := k_nD hD
    have hc_16 := c_X6_refused l D cs ma mv 1
    obtain ⟨r_16, o_16, e_16⟩ : ∃ r9 o9, (k_X6_refused mv 1) = (r9, o9) := ⟨_, _, rfl⟩
    rw [e_16] at hc_16 hres
    dsimp only at hc_16 hres
    refine kI_call (wc := (md_W cs ma mv)) (wr := []) (w1 := md_W cs ma o_16) (r := r_16) hE hP hD hS (k_rV (rest := []) (As := [.int 1]) hE rfl (hc_16 H.size) (cwV 1 hts gX6_covered_X6_refused rfl rfl rfl (by decide +kernel) ⟨Nat.le_of_ble_eq_true rfl, Nat.le_of_ble_eq_true rfl⟩) hP hD hS (ci := 6) (q0 := 0) rfl rfl rfl hl rfl (Nat.le_of_ble_eq_true rfl) ⟨Nat.le_of_ble_eq_true rfl, Nat.le_of_ble_eq_true rfl⟩ dX6_covered_16) (fun H locs hP hD hS => ?_)
    have hP := k_uP hP
    have hD := k_uD hD
    have hP : va_P D vwCl (md_W cs ma o_16) H := hP
    have hD : va_D A (md_W cs ma o_16) := hD
    refine lv_if_eq (tgt := 24) hx hb dX6_covered_19 (by decide) (fun c_19 => ?_) (fun c_19 => ?_)
    · skip
      have c_19 : (r_16 = 0) := c_19
      rw [if_pos c_19] at hres
      refine lv_iconst (v := 0) hx hb dX6_covered_24 (by decide) ?_
      refine lv_istore_n (lv' := [(2, .int 0), (0, .ref (ma 0)), (1, .int vk)]) hx hb dX6_covered_25 rfl hl (by decide) rfl (fun ls hl => ?_)
      refine lv_iconst (v := 0) hx hb dX6_covered_26 (by decide) ?_
      refine lv_istore_n (lv' := [(3, .int 0), (2, .int 0), (0, .ref (ma 0)), (1, .int vk)]) hx hb dX6_covered_27 rfl hl (by decide) rfl (fun ls hl => ?_)
      exact L28 7 0 0 o_16 0 (nI_0.symm) (rfl) (Nat.zero_le _) (MO_rf e_16 hM) _ _ _ hS hP hD (lv_sub hl [2, 3, 1, 0] rfl) hres
    · skip
      have c_19 : ¬ (r_16 = 0) := c_19
      rw [if_neg c_19] at hres
      refine lv_iconst (v := 0) hx hb dX6_covered_22 (by decide) ?_
      subst hres
      exact kI_ret hE hS hP hD rfl rfl (Nat.le_of_ble_eq_true rfl) (Nat.le_of_ble_eq_true rfl) dX6_covered_23
  · skip
    have c_8 : ¬ ((k_X6_in (vk.toInt64) 0 1) = 0) := c_8
    rw [if_neg c_8] at hres
    refine lv_iconst (v := 0) hx hb dX6_covered_11 (by decide) ?_
    refine lv_goto (tgt := 16) hx hb dX6_covered_12 (by decide) ?_
    have hP : va_P D vwCl ((md_W cs ma mv) ++ []) H := k_nP hP
    have hD : va_D A ((md_W cs ma mv) ++ []) := k_nD hD
    have hc_16 := c_X6_refused l D cs ma mv 0
    obtain ⟨r_16, o_16, e_16⟩ : ∃ r9 o9, (k_X6_refused mv 0) = (r9, o9) := ⟨_, _, rfl⟩
    rw [e_16] at hc_16 hres
    dsimp only at hc_16 hres
    refine kI_call (wc := (md_W cs ma mv)) (wr := []) (w1 := md_W cs ma o_16) (r := r_16) hE hP hD hS (k_rV (rest := []) (As := [.int 0]) hE rfl (hc_16 H.size) (cwV 1 hts gX6_covered_X6_refused rfl rfl rfl (by decide +kernel) ⟨Nat.le_of_ble_eq_true rfl, Nat.le_of_ble_eq_true rfl⟩) hP hD hS (ci := 6) (q0 := 0) rfl rfl rfl hl rfl (Nat.le_of_ble_eq_true rfl) ⟨Nat.le_of_ble_eq_true rfl, Nat.le_of_ble_eq_true rfl⟩ dX6_covered_16) (fun H locs hP hD hS => ?_)
    have hP := k_uP hP
    have hD := k_uD hD
    have hP : va_P D vwCl (md_W cs ma o_16) H := hP
    have hD : va_D A (md_W cs ma o_16) := hD
    refine lv_if_eq (tgt := 24) hx hb dX6_covered_19 (by decide) (fun c_19 => ?_) (fun c_19 => ?_)
    · skip
      have c_19 : (r_16 = 0) := c_19
      rw [if_pos c_19] at hres
      refine lv_iconst (v := 0) hx hb dX6_covered_24 (by decide) ?_
      refine lv_istore_n (lv' := [(2, .int 0), (0, .ref (ma 0)), (1, .int vk)]) hx hb dX6_covered_25 rfl hl (by decide) rfl (fun ls hl => ?_)
      refine lv_iconst (v := 0) hx hb dX6_covered_26 (by decide) ?_
      refine lv_istore_n (lv' := [(3, .int 0), (2, .int 0), (0, .ref (ma 0)), (1, .int vk)]) hx hb dX6_covered_27 rfl hl (by decide) rfl (fun ls hl => ?_)
      exact L28 7 0 0 o_16 0 (nI_0.symm) (rfl) (Nat.zero_le _) (MO_rf e_16 hM) _ _ _ hS hP hD (lv_sub hl [2, 3, 1, 0] rfl) hres
    · skip
      have c_19 : ¬ (r_16 = 0) := c_19
      rw [if_neg c_19] at hres
      refine lv_iconst (v := 0) hx hb dX6_covered_22 (by decide) ?_
      subst hres
      exact kI_ret hE hS hP hD rfl rfl (Nat.le_of_ble_eq_true rfl) (Nat.le_of_ble_eq_true rfl) dX6_covered_23
set_option maxHeartbeats 4000000 in
set_option maxRecDepth 100000 in
theorem c_X6_setting (l : Launch) (D : va_G) (cs : Nat → ClassId) (ma : Nat → Nat) (mv : MV) (vk : Int32) (hM : MO mv) : kI l yX6_setting wsX6_setting { frames := 1, cells := 0, slots := 0, locals := 25 } 0 0 D cs [.ref (ma 0), .int vk] (md_W cs ma mv) (k_X6_setting mv vk).1 (md_W cs ma ((k_X6_setting mv vk).2)) := by
  generalize hres : k_X6_setting mv vk = res
  refine kI_of (cc := cX6_setting) (maxL := 2) (ret := (some .int)) (by decide) rfl (Nat.le_of_ble_eq_true rfl) ?_
  intro p e s m below meth c A ls H locs hE hS hP hD hl
  obtain ⟨hx, hb, hr, hlocks, hml, hown, hts, hK, hA, hG, hnm⟩ := id hE
  have hown : s.vm.findClass RX6 = some m.cls := hown
  have hl : lv_has ls 2 [(0, .ref (ma 0)), (1, .int vk)] := hl
  have hinX6 : ∀ w ∈ wsX60, w ∈ wsX6_setting := by decide +kernel
  have lk_0 := hts (.constantLong RX6 184 2) (by decide +kernel)
  have lk_1 := hts (.fieldLink RX6 13 "OrganPegsModel" "now" "[I") (by decide +kernel)
  unfold k_X6_setting at hres
  refine lv_aload_n hx hb dX6_setting_0 rfl (lv_at hl 0 rfl) ?_
  refine lv_iload_n hx hb dX6_setting_1 rfl (lv_at hl 1 rfl) ?_
  refine lv_i2l hx hb dX6_setting_2 rfl ?_
  refine lv_lconst (v := 0) hx hb dX6_setting_3 (by decide) ?_
  refine lv_ldc2 (v := 2) hx hb hown lk_0 dX6_setting_4 ?_
  have hP : va_P D vwCl ([] ++ (md_W cs ma mv)) H := hP
  have hD : va_D A ([] ++ (md_W cs ma mv)) := hD
  have hc_7 := c_X6_in l D cs (vk.toInt64) 0 2
  refine kI_call (wc := []) (wr := (md_W cs ma mv)) (w1 := []) (r := (k_X6_in (vk.toInt64) 0 2)) hE hP hD hS (k_rS (rest := [.ref (ma 0)]) (As := [.long (vk.toInt64), .long 0, .long 2]) hE rfl (hc_7 H.size) (va_cwS 3 hts gX6_setting_X6_in rfl rfl rfl (by decide +kernel) ⟨Nat.le_of_ble_eq_true rfl, Nat.le_of_ble_eq_true rfl⟩) hP hD hS rfl hl rfl (Nat.le_of_ble_eq_true rfl) ⟨Nat.le_of_ble_eq_true rfl, Nat.le_of_ble_eq_true rfl⟩ dX6_setting_7) (fun H locs hP hD hS => ?_)
  have hP : va_P D vwCl (md_W cs ma mv) H := hP
  have hD : va_D A (md_W cs ma mv) := hD
  refine lv_if_eq (tgt := 17) hx hb dX6_setting_10 (by decide) (fun c_10 => ?_) (fun c_10 => ?_)
  · skip
    have c_10 : ((k_X6_in (vk.toInt64) 0 2) = 0) := c_10
    rw [if_pos c_10] at hres
    refine lv_iconst (v := 1) hx hb dX6_setting_17 (by decide) ?_
    have hP : va_P D vwCl ((md_W cs ma mv) ++ []) H := k_nP hP
    have hD : va_D A ((md_W cs ma mv) ++ []) := k_nD hD
    have hc_18 := c_X6_refused l D cs ma mv 1
    obtain ⟨r_18, o_18, e_18⟩ : ∃ r9 o9, (k_X6_refused mv 1) = (r9, o9) := ⟨_, _, rfl⟩
    rw [e_18] at hc_18 hres
    dsimp only at hc_18 hres
    refine kI_call (wc := (md_W cs ma mv)) (wr := []) (w1 := md_W cs ma o_18) (r := r_18) hE hP hD hS (k_rV (rest := []) (As := [.int 1]) hE rfl (hc_18 H.size) (cwV 1 hts gX6_setting_X6_refused rfl rfl rfl (by decide +kernel) ⟨Nat.le_of_ble_eq_true rfl, Nat.le_of_ble_eq_true rfl⟩) hP hD hS (ci := 6) (q0 := 0) rfl rfl rfl hl rfl (Nat.le_of_ble_eq_true rfl) ⟨Nat.le_of_ble_eq_true rfl, Nat.le_of_ble_eq_true rfl⟩ dX6_setting_18) (fun H locs hP hD hS => ?_)
    have hP := k_uP hP
    have hD := k_uD hD
    have hP : va_P D vwCl (md_W cs ma o_18) H := hP
    have hD : va_D A (md_W cs ma o_18) := hD
    refine lv_if_eq (tgt := 26) hx hb dX6_setting_21 (by decide) (fun c_21 => ?_) (fun c_21 => ?_)
    · skip
      have c_21 : (r_18 = 0) := c_21
      rw [if_pos c_21] at hres
      refine lv_aload_n hx hb dX6_setting_26 rfl (lv_at hl 0 rfl) ?_
      refine va_get (D := D) (ci := 6) (v := .ref (ma 2)) (C := RX6) (T := TX6) (N := 11) hx hb hts hinX6 hown hK hP 0 rfl rfl 3 (by decide) lk_1 (fun _ h9 => h9) rfl dX6_setting_27 ?_
      refine lv_bipush (v := 12) hx hb dX6_setting_30 (by decide) ?_
      refine lv_iload_n hx hb dX6_setting_32 rfl (lv_at hl 1 rfl) ?_
      refine lv_iadd hx hb dX6_setting_33 ?_
      refine k_iald hx hb hK hP 2 0 (v := ((o_18.2 1) ((12 + vk).toNatClampNeg))) rfl rfl (by first | exact in_a (A := 12) rfl (in_n (A := 0) (B := 2) rfl rfl c_10) (by decide) (by decide) | exact absurd (rfd_n e_18 c_21) (by decide)) rfl dX6_setting_34 ?_
      subst hres
      exact kI_ret hE hS hP hD rfl rfl (Nat.le_of_ble_eq_true rfl) (Nat.le_of_ble_eq_true rfl) dX6_setting_35
    · skip
      have c_21 : ¬ (r_18 = 0) := c_21
      rw [if_neg c_21] at hres
      refine lv_iconst (v := 0) hx hb dX6_setting_24 (by decide) ?_
      subst hres
      exact kI_ret hE hS hP hD rfl rfl (Nat.le_of_ble_eq_true rfl) (Nat.le_of_ble_eq_true rfl) dX6_setting_25
  · skip
    have c_10 : ¬ ((k_X6_in (vk.toInt64) 0 2) = 0) := c_10
    rw [if_neg c_10] at hres
    refine lv_iconst (v := 0) hx hb dX6_setting_13 (by decide) ?_
    refine lv_goto (tgt := 18) hx hb dX6_setting_14 (by decide) ?_
    have hP : va_P D vwCl ((md_W cs ma mv) ++ []) H := k_nP hP
    have hD : va_D A ((md_W cs ma mv) ++ []) := k_nD hD
    have hc_18 := c_X6_refused l D cs ma mv 0
    obtain ⟨r_18, o_18, e_18⟩ : ∃ r9 o9, (k_X6_refused mv 0) = (r9, o9) := ⟨_, _, rfl⟩
    rw [e_18] at hc_18 hres
    dsimp only at hc_18 hres
    refine kI_call (wc := (md_W cs ma mv)) (wr := []) (w1 := md_W cs ma o_18) (r := r_18) hE hP hD hS (k_rV (rest := []) (As := [.int 0]) hE rfl (hc_18 H.size) (cwV 1 hts gX6_setting_X6_refused rfl rfl rfl (by decide +kernel) ⟨Nat.le_of_ble_eq_true rfl, Nat.le_of_ble_eq_true rfl⟩) hP hD hS (ci := 6) (q0 := 0) rfl rfl rfl hl rfl (Nat.le_of_ble_eq_true rfl) ⟨Nat.le_of_ble_eq_true rfl, Nat.le_of_ble_eq_true rfl⟩ dX6_setting_18) (fun H locs hP hD hS => ?_)
    have hP := k_uP hP
    have hD := k_uD hD
    have hP : va_P D vwCl (md_W cs ma o_18) H := hP
    have hD : va_D A (md_W cs ma o_18) := hD
    refine lv_if_eq (tgt := 26) hx hb dX6_setting_21 (by decide) (fun c_21 => ?_) (fun c_21 => ?_)
    · skip
      have c_21 : (r_18 = 0) := c_21
      rw [if_pos c_21] at hres
      refine lv_aload_n hx hb dX6_setting_26 rfl (lv_at hl 0 rfl) ?_
      refine va_get (D := D) (ci := 6) (v := .ref (ma 2)) (C := RX6) (T := TX6) (N := 11) hx hb hts hinX6 hown hK hP 0 rfl rfl 3 (by decide) lk_1 (fun _ h9 => h9) rfl dX6_setting_27 ?_
      refine lv_bipush (v := 12) hx hb dX6_setting_30 (by decide) ?_
      refine lv_iload_n hx hb dX6_setting_32 rfl (lv_at hl 1 rfl) ?_
      refine lv_iadd hx hb dX6_setting_33 ?_
      refine k_iald hx hb hK hP 2 0 (v := ((o_18.2 1) ((12 + vk).toNatClampNeg))) rfl rfl (by first | exact in_a (A := 12) rfl (in_n (A := 0) (B := 2) rfl rfl c_10) (by decide) (by decide) | exact absurd (rfd_n e_18 c_21) (by decide)) rfl dX6_setting_34 ?_
      subst hres
      exact kI_ret hE hS hP hD rfl rfl (Nat.le_of_ble_eq_true rfl) (Nat.le_of_ble_eq_true rfl) dX6_setting_35
    · skip
      have c_21 : ¬ (r_18 = 0) := c_21
      rw [if_neg c_21] at hres
      refine lv_iconst (v := 0) hx hb dX6_setting_24 (by decide) ?_
      subst hres
      exact kI_ret hE hS hP hD rfl rfl (Nat.le_of_ble_eq_true rfl) (Nat.le_of_ble_eq_true rfl) dX6_setting_25
set_option maxHeartbeats 4000000 in
set_option maxRecDepth 100000 in
theorem c_X6_remember (l : Launch) (D : va_G) (cs : Nat → ClassId) (ma : Nat → Nat) (mv : MV) (hM : MO mv) : kV l yX6_remember wsX6_remember { frames := 1, cells := 0, slots := 0, locals := 24 } 0 0 D cs [.ref (ma 0)] (md_W cs ma mv) (fun (_ : Unit) => True) (fun _ => md_W cs ma (k_X6_remember mv)) := by
  generalize hres : k_X6_remember mv = res
  refine kV_of (cc := cX6_remember) (maxL := 2) (ret := none) (by decide) rfl (Nat.le_of_ble_eq_true rfl) ?_
  intro p e s m below meth c A ls H locs hE hS hP hD hl
  obtain ⟨hx, hb, hr, hlocks, hml, hown, hts, hK, hA, hG, hnm⟩ := id hE
  have hown : s.vm.findClass RX6 = some m.cls := hown
  have hl : lv_has ls 2 [(0, .ref (ma 0))] := hl
  have hinX6 : ∀ w ∈ wsX60, w ∈ wsX6_remember := by decide +kernel
  have lk_0 := hts (.fieldLink RX6 162 "OrganPegsModel" "acts" "I") (by decide +kernel)
  have lk_1 := hts (.fieldLink RX6 13 "OrganPegsModel" "now" "[I") (by decide +kernel)
  have lk_2 := hts (.fieldLink RX6 19 "OrganPegsModel" "diary" "[I") (by decide +kernel)
  have L11 : ∀ (n : Nat) (k : Int32) (mw : MV) (j : Nat) (hi : k = nI j) (hj : j + n = 2822) (hj2 : j ≤ 2821) (ha : (mw.1 2).toInt = 14) (H : Heap) (locs : List Loc) (ls : Array Slot), va_S A s.heap H locs → va_P D vwCl (md_W cs ma mw) H → va_D A (md_W cs ma mw) → lv_has ls 2 [(0, .ref (ma 0)), (1, .int k)] → k_X6_remember_L11 mv n k mw = res → W p l e { frames := 1, cells := 0, slots := 0, locals := 24 } s m ([.ref (ma 0)]).toArray below meth c H locs 0 0 (MQ below (va_Qv (fun (_ : Unit) => True) (kB D (fun _ => md_W cs ma res) A) A) ([.ref (ma 0)]).toArray s 0 0 A) (F0 m 11 ls []) := by
    intro n
    induction n with
    | zero =>
      intro k mw j hi hj hj2 ha H locs ls hS hP hD hl hres
      exact absurd hj2 (by omega)
    | succ n ih =>
      intro k mw j hi hj hj2 ha H locs ls hS hP hD hl hres
      unfold k_X6_remember_L11 at hres
      refine lv_iload_n hx hb dX6_remember_11 rfl (lv_at hl 1 rfl) ?_
      refine lv_sipush (v := 2821) hx hb dX6_remember_12 (by decide) ?_
      refine lv_icmp_ge (tgt := 40) hx hb dX6_remember_15 (by decide) (fun c_15 => ?_) (fun c_15 => ?_)
      · skip
        have c_15 : (2821 ≤ k) := c_15
        rw [if_pos c_15] at hres
        refine lv_aload_n hx hb dX6_remember_40 rfl (lv_at hl 0 rfl) ?_
        refine lv_dup hx hb dX6_remember_41 rfl ?_
        refine va_get (D := D) (ci := 6) (v := .int (mw.1 2)) (C := RX6) (T := TX6) (N := 11) hx hb hts hinX6 hown hK hP 0 rfl rfl 6 (by decide) lk_0 (fun _ h9 => h9) rfl dX6_remember_42 ?_
        refine lv_iconst (v := 1) hx hb dX6_remember_45 (by decide) ?_
        refine lv_isub hx hb dX6_remember_46 ?_
        refine va_put (D := D) (ci := 6) (v := .int ((mw.1 2) - 1)) (ty := .int) (C := RX6) (T := TX6) (N := 11) hx hb hts hinX6 tyX6 tyX6_ok nmX6 hown hK hP hD hS 0 rfl rfl 6 (by decide) lk_0 (fun _ h9 => h9) rfl (by decide +kernel) rfl rfl (Nat.le_of_ble_eq_true rfl) dX6_remember_47 (fun H locs hP hD hS => ?_)
        have hP : va_P D vwCl (md_W cs ma (m_s mw 2 ((mw.1 2) - 1))) H := hP
        have hD : va_D A (md_W cs ma (m_s mw 2 ((mw.1 2) - 1))) := hD
        refine lv_aload_n hx hb dX6_remember_50 rfl (lv_at hl 0 rfl) ?_
        refine va_get (D := D) (ci := 6) (v := .ref (ma 2)) (C := RX6) (T := TX6) (N := 11) hx hb hts hinX6 hown hK hP 0 rfl rfl 3 (by decide) lk_1 (fun _ h9 => h9) rfl dX6_remember_51 ?_
        refine lv_iconst (v := 0) hx hb dX6_remember_54 (by decide) ?_
        refine lv_aload_n hx hb dX6_remember_55 rfl (lv_at hl 0 rfl) ?_
        refine va_get (D := D) (ci := 6) (v := .ref (ma 4)) (C := RX6) (T := TX6) (N := 11) hx hb hts hinX6 hown hK hP 0 rfl rfl 5 (by decide) lk_2 (fun _ h9 => h9) rfl dX6_remember_56 ?_
        refine lv_sipush (v := 217) hx hb dX6_remember_59 (by decide) ?_
        refine lv_aload_n hx hb dX6_remember_62 rfl (lv_at hl 0 rfl) ?_
        refine va_get (D := D) (ci := 6) (v := .int ((mw.1 2) - 1)) (C := RX6) (T := TX6) (N := 11) hx hb hts hinX6 hown hK hP 0 rfl rfl 6 (by decide) lk_0 (fun _ h9 => h9) rfl dX6_remember_63 ?_
        refine lv_imul hx hb dX6_remember_66 ?_
        have hP := hP.sub (ws' := (cp_W cs (ma 2) (ma 4) 217 3038 (mw.2 1) (mw.2 3)) ++ (x_pick (md_W cs ma (m_s mw 2 ((mw.1 2) - 1))) [0, 1, 3, 5, 6])) [2, 4, 0, 1, 3, 5, 6] rfl
        have hD := hD.sub (ws' := (cp_W cs (ma 2) (ma 4) 217 3038 (mw.2 1) (mw.2 3)) ++ (x_pick (md_W cs ma (m_s mw 2 ((mw.1 2) - 1))) [0, 1, 3, 5, 6])) [2, 4, 0, 1, 3, 5, 6] (by decide) rfl
        have hc_67 := c_X6_copyState l D cs (ma 2) (ma 4) 217 3038 (mw.2 1) (mw.2 3) 0 (217 * ((mw.1 2) - 1)) (cp_0 (by decide) (by decide)) (by first | exact dia_m (act_2 hM.2.2 c_6) | exact dia_m (act_d (by rw [ha]; decide)))
        generalize e_67 : (k_X6_copyState (mw.2 1) (mw.2 3) 0 (217 * ((mw.1 2) - 1))) = o_67 at hc_67 hres
        have hres := (kbind_eq _ _).symm.trans hres
        refine kV_call (wc := (cp_W cs (ma 2) (ma 4) 217 3038 (mw.2 1) (mw.2 3))) (wr := (x_pick (md_W cs ma (m_s mw 2 ((mw.1 2) - 1))) [0, 1, 3, 5, 6])) (w1 := fun _ => cp_W cs (ma 2) (ma 4) 217 3038 (mw.2 1) o_67) hE hP hD hS (k_rS (rest := []) (As := [.ref (ma 2), .int 0, .ref (ma 4), .int (217 * ((mw.1 2) - 1))]) hE rfl (hc_67 H.size) (va_cwS 4 hts gX6_remember_X6_copyState rfl rfl rfl (by decide +kernel) ⟨Nat.le_of_ble_eq_true rfl, Nat.le_of_ble_eq_true rfl⟩) hP hD hS rfl hl rfl (Nat.le_of_ble_eq_true rfl) ⟨Nat.le_of_ble_eq_true rfl, Nat.le_of_ble_eq_true rfl⟩ dX6_remember_67) (fun _ H locs _ hP hD hS => ?_)
        have hP := hP.sub (ws' := md_W cs ma (m_r (m_s mw 2 ((mw.1 2) - 1)) 3 o_67)) [2, 3, 0, 4, 1, 5, 6] md_k24
        have hD := hD.sub (ws' := md_W cs ma (m_r (m_s mw 2 ((mw.1 2) - 1)) 3 o_67)) [2, 3, 0, 4, 1, 5, 6] (by decide) md_d24
        have hP : va_P D vwCl (md_W cs ma (m_r (m_s mw 2 ((mw.1 2) - 1)) 3 o_67)) H := hP
        have hD : va_D A (md_W cs ma (m_r (m_s mw 2 ((mw.1 2) - 1)) 3 o_67)) := hD
        refine lv_aload_n hx hb dX6_remember_70 rfl (lv_at hl 0 rfl) ?_
        refine lv_dup hx hb dX6_remember_71 rfl ?_
        refine va_get (D := D) (ci := 6) (v := .int ((mw.1 2) - 1)) (C := RX6) (T := TX6) (N := 11) hx hb hts hinX6 hown hK hP 0 rfl rfl 6 (by decide) lk_0 (fun _ h9 => h9) rfl dX6_remember_72 ?_
        refine lv_iconst (v := 1) hx hb dX6_remember_75 (by decide) ?_
        refine lv_iadd hx hb dX6_remember_76 ?_
        refine va_put (D := D) (ci := 6) (v := .int (((mw.1 2) - 1) + 1)) (ty := .int) (C := RX6) (T := TX6) (N := 11) hx hb hts hinX6 tyX6 tyX6_ok nmX6 hown hK hP hD hS 0 rfl rfl 6 (by decide) lk_0 (fun _ h9 => h9) rfl (by decide +kernel) rfl rfl (Nat.le_of_ble_eq_true rfl) dX6_remember_77 (fun H locs hP hD hS => ?_)
        have hP : va_P D vwCl (md_W cs ma (m_r (m_s mw 2 (((mw.1 2) - 1) + 1)) 3 o_67)) H := hP
        have hD : va_D A (md_W cs ma (m_r (m_s mw 2 (((mw.1 2) - 1) + 1)) 3 o_67)) := hD
        subst hres
        exact kV_ret () hE hS hP hD trivial (Nat.le_of_ble_eq_true rfl) (Nat.le_of_ble_eq_true rfl) dX6_remember_80
      · skip
        have c_15 : ¬ (2821 ≤ k) := c_15
        rw [if_neg c_15] at hres
        refine lv_aload_n hx hb dX6_remember_18 rfl (lv_at hl 0 rfl) ?_
        refine va_get (D := D) (ci := 6) (v := .ref (ma 4)) (C := RX6) (T := TX6) (N := 11) hx hb hts hinX6 hown hK hP 0 rfl rfl 5 (by decide) lk_2 (fun _ h9 => h9) rfl dX6_remember_19 ?_
        refine lv_iload_n hx hb dX6_remember_22 rfl (lv_at hl 1 rfl) ?_
        refine lv_aload_n hx hb dX6_remember_23 rfl (lv_at hl 0 rfl) ?_
        refine va_get (D := D) (ci := 6) (v := .ref (ma 4)) (C := RX6) (T := TX6) (N := 11) hx hb hts hinX6 hown hK hP 0 rfl rfl 5 (by decide) lk_2 (fun _ h9 => h9) rfl dX6_remember_24 ?_
        refine lv_iload_n hx hb dX6_remember_27 rfl (lv_at hl 1 rfl) ?_
        refine lv_sipush (v := 217) hx hb dX6_remember_28 (by decide) ?_
        refine lv_iadd hx hb dX6_remember_31 ?_
        refine k_iald hx hb hK hP 4 0 (v := ((mw.2 3) ((k + 217).toNatClampNeg))) rfl rfl (dia_in hi (nI_lts hi (by omega) (by decide) c_15)) rfl dX6_remember_32 ?_
        refine k_iast hx hb hK hP hD hS 4 0 (k := k.toNatClampNeg) rfl rfl (dia_i2 hi (nI_lts hi (by omega) (by decide) c_15)) rfl dX6_remember_33 (fun H locs hP hD hS => ?_)
        have hP : va_P D vwCl (md_W cs ma (m_r mw 3 (va_up (mw.2 3) k.toNatClampNeg ((mw.2 3) ((k + 217).toNatClampNeg))))) H := hP
        have hD : va_D A (md_W cs ma (m_r mw 3 (va_up (mw.2 3) k.toNatClampNeg ((mw.2 3) ((k + 217).toNatClampNeg))))) := hD
        refine lv_iinc (v := (k + 1)) (lv' := [(1, .int (k + 1)), (0, .ref (ma 0))]) hx hb dX6_remember_34 hl (k := 1) rfl (by rfl) (by decide) rfl (fun ls hl => ?_)
        refine lv_goto (tgt := 11) hx hb dX6_remember_37 (by decide) ?_
        exact ih (k + 1) (m_r mw 3 (va_up (mw.2 3) k.toNatClampNeg ((mw.2 3) ((k + 217).toNatClampNeg)))) (j + 1) (by rw [hi, nI_1]) (by omega) (nI_lts hi (by omega) (by decide) c_15) (ha) _ _ _ hS hP hD (lv_sub hl [1, 0] rfl) hres
  unfold k_X6_remember at hres
  refine lv_aload_n hx hb dX6_remember_0 rfl (lv_at hl 0 rfl) ?_
  refine va_get (D := D) (ci := 6) (v := .int (mv.1 2)) (C := RX6) (T := TX6) (N := 11) hx hb hts hinX6 hown hK hP 0 rfl rfl 6 (by decide) lk_0 (fun _ h9 => h9) rfl dX6_remember_1 ?_
  refine lv_bipush (v := 14) hx hb dX6_remember_4 (by decide) ?_
  refine lv_icmp_ne (tgt := 50) hx hb dX6_remember_6 (by decide) (fun c_6 => ?_) (fun c_6 => ?_)
  · skip
    have c_6 : ¬ ((mv.1 2) = 14) := c_6
    rw [if_neg c_6] at hres
    refine lv_aload_n hx hb dX6_remember_50 rfl (lv_at hl 0 rfl) ?_
    refine va_get (D := D) (ci := 6) (v := .ref (ma 2)) (C := RX6) (T := TX6) (N := 11) hx hb hts hinX6 hown hK hP 0 rfl rfl 3 (by decide) lk_1 (fun _ h9 => h9) rfl dX6_remember_51 ?_
    refine lv_iconst (v := 0) hx hb dX6_remember_54 (by decide) ?_
    refine lv_aload_n hx hb dX6_remember_55 rfl (lv_at hl 0 rfl) ?_
    refine va_get (D := D) (ci := 6) (v := .ref (ma 4)) (C := RX6) (T := TX6) (N := 11) hx hb hts hinX6 hown hK hP 0 rfl rfl 5 (by decide) lk_2 (fun _ h9 => h9) rfl dX6_remember_56 ?_
    refine lv_sipush (v := 217) hx hb dX6_remember_59 (by decide) ?_
    refine lv_aload_n hx hb dX6_remember_62 rfl (lv_at hl 0 rfl) ?_
    refine va_get (D := D) (ci := 6) (v := .int (mv.1 2)) (C := RX6) (T := TX6) (N := 11) hx hb hts hinX6 hown hK hP 0 rfl rfl 6 (by decide) lk_0 (fun _ h9 => h9) rfl dX6_remember_63 ?_
    refine lv_imul hx hb dX6_remember_66 ?_
    have hP := hP.sub (ws' := (cp_W cs (ma 2) (ma 4) 217 3038 (mv.2 1) (mv.2 3)) ++ (x_pick (md_W cs ma mv) [0, 1, 3, 5, 6])) [2, 4, 0, 1, 3, 5, 6] rfl
    have hD := hD.sub (ws' := (cp_W cs (ma 2) (ma 4) 217 3038 (mv.2 1) (mv.2 3)) ++ (x_pick (md_W cs ma mv) [0, 1, 3, 5, 6])) [2, 4, 0, 1, 3, 5, 6] (by decide) rfl
    have hc_67 := c_X6_copyState l D cs (ma 2) (ma 4) 217 3038 (mv.2 1) (mv.2 3) 0 (217 * (mv.1 2)) (cp_0 (by decide) (by decide)) (by first | exact dia_m (act_2 hM.2.2 c_6) | exact dia_m (act_d (by rw [ha]; decide)))
    generalize e_67 : (k_X6_copyState (mv.2 1) (mv.2 3) 0 (217 * (mv.1 2))) = o_67 at hc_67 hres
    have hres := (kbind_eq _ _).symm.trans hres
    refine kV_call (wc := (cp_W cs (ma 2) (ma 4) 217 3038 (mv.2 1) (mv.2 3))) (wr := (x_pick (md_W cs ma mv) [0, 1, 3, 5, 6])) (w1 := fun _ => cp_W cs (ma 2) (ma 4) 217 3038 (mv.2 1) o_67) hE hP hD hS (k_rS (rest := []) (As := [.ref (ma 2), .int 0, .ref (ma 4), .int (217 * (mv.1 2))]) hE rfl (hc_67 H.size) (va_cwS 4 hts gX6_remember_X6_copyState rfl rfl rfl (by decide +kernel) ⟨Nat.le_of_ble_eq_true rfl, Nat.le_of_ble_eq_true rfl⟩) hP hD hS rfl hl rfl (Nat.le_of_ble_eq_true rfl) ⟨Nat.le_of_ble_eq_true rfl, Nat.le_of_ble_eq_true rfl⟩ dX6_remember_67) (fun _ H locs _ hP hD hS => ?_)
    have hP := hP.sub (ws' := md_W cs ma (m_r mv 3 o_67)) [2, 3, 0, 4, 1, 5, 6] md_k24
    have hD := hD.sub (ws' := md_W cs ma (m_r mv 3 o_67)) [2, 3, 0, 4, 1, 5, 6] (by decide) md_d24
    have hP : va_P D vwCl (md_W cs ma (m_r mv 3 o_67)) H := hP
    have hD : va_D A (md_W cs ma (m_r mv 3 o_67)) := hD
    refine lv_aload_n hx hb dX6_remember_70 rfl (lv_at hl 0 rfl) ?_
    refine lv_dup hx hb dX6_remember_71 rfl ?_
    refine va_get (D := D) (ci := 6) (v := .int (mv.1 2)) (C := RX6) (T := TX6) (N := 11) hx hb hts hinX6 hown hK hP 0 rfl rfl 6 (by decide) lk_0 (fun _ h9 => h9) rfl dX6_remember_72 ?_
    refine lv_iconst (v := 1) hx hb dX6_remember_75 (by decide) ?_
    refine lv_iadd hx hb dX6_remember_76 ?_
    refine va_put (D := D) (ci := 6) (v := .int ((mv.1 2) + 1)) (ty := .int) (C := RX6) (T := TX6) (N := 11) hx hb hts hinX6 tyX6 tyX6_ok nmX6 hown hK hP hD hS 0 rfl rfl 6 (by decide) lk_0 (fun _ h9 => h9) rfl (by decide +kernel) rfl rfl (Nat.le_of_ble_eq_true rfl) dX6_remember_77 (fun H locs hP hD hS => ?_)
    have hP : va_P D vwCl (md_W cs ma (m_r (m_s mv 2 ((mv.1 2) + 1)) 3 o_67)) H := hP
    have hD : va_D A (md_W cs ma (m_r (m_s mv 2 ((mv.1 2) + 1)) 3 o_67)) := hD
    subst hres
    exact kV_ret () hE hS hP hD trivial (Nat.le_of_ble_eq_true rfl) (Nat.le_of_ble_eq_true rfl) dX6_remember_80
  · skip
    have c_6 : ((mv.1 2) = 14) := c_6
    rw [if_pos c_6] at hres
    refine lv_iconst (v := 0) hx hb dX6_remember_9 (by decide) ?_
    refine lv_istore_n (lv' := [(1, .int 0), (0, .ref (ma 0))]) hx hb dX6_remember_10 rfl hl (by decide) rfl (fun ls hl => ?_)
    exact L11 2822 0 mv 0 (nI_0.symm) (rfl) (Nat.zero_le _) ((congrArg Int32.toInt c_6)) _ _ _ hS hP hD (lv_sub hl [1, 0] rfl) hres
set_option maxHeartbeats 4000000 in
set_option maxRecDepth 100000 in
theorem c_X6_put (l : Launch) (D : va_G) (cs : Nat → ClassId) (ma : Nat → Nat) (mv : MV) (vp : Int32) (vb : Int32) (vn : Int32) (hM : MO mv) : kI l yX6_put wsX6_put { frames := 2, cells := 0, slots := 0, locals := 45 } 0 0 D cs [.ref (ma 0), .int vp, .int vb, .int vn] (md_W cs ma mv) (k_X6_put mv vp vb vn).1 (md_W cs ma ((k_X6_put mv vp vb vn).2)) := by
  generalize hres : k_X6_put mv vp vb vn = res
  refine kI_of (cc := cX6_put) (maxL := 4) (ret := (some .int)) (by decide) rfl (Nat.le_of_ble_eq_true rfl) ?_
  intro p e s m below meth c A ls H locs hE hS hP hD hl
  obtain ⟨hx, hb, hr, hlocks, hml, hown, hts, hK, hA, hG, hnm⟩ := id hE
  have hown : s.vm.findClass RX6 = some m.cls := hown
  have hl : lv_has ls 4 [(0, .ref (ma 0)), (1, .int vp), (2, .int vb), (3, .int vn)] := hl
  have hinX6 : ∀ w ∈ wsX60, w ∈ wsX6_put := by decide +kernel
  have lk_0 := hts (.fieldLink RX6 13 "OrganPegsModel" "now" "[I") (by decide +kernel)
  have lk_1 := hts (.constantLong RX6 186 6) (by decide +kernel)
  unfold k_X6_put at hres
  refine lv_aload_n hx hb dX6_put_0 rfl (lv_at hl 0 rfl) ?_
  refine lv_iload_n hx hb dX6_put_1 rfl (lv_at hl 1 rfl) ?_
  have hP : va_P D vwCl ([] ++ (md_W cs ma mv)) H := hP
  have hD : va_D A ([] ++ (md_W cs ma mv)) := hD
  have hc_2 := c_X6_isPipe l D cs vp
  refine kI_call (wc := []) (wr := (md_W cs ma mv)) (w1 := []) (r := (k_X6_isPipe vp)) hE hP hD hS (k_rS (rest := [.ref (ma 0)]) (As := [.int vp]) hE rfl (hc_2 H.size) (va_cwS 1 hts gX6_put_X6_isPipe rfl rfl rfl (by decide +kernel) ⟨Nat.le_of_ble_eq_true rfl, Nat.le_of_ble_eq_true rfl⟩) hP hD hS rfl hl rfl (Nat.le_of_ble_eq_true rfl) ⟨Nat.le_of_ble_eq_true rfl, Nat.le_of_ble_eq_true rfl⟩ dX6_put_2) (fun H locs hP hD hS => ?_)
  have hP : va_P D vwCl (md_W cs ma mv) H := hP
  have hD : va_D A (md_W cs ma mv) := hD
  refine lv_if_eq (tgt := 15) hx hb dX6_put_5 (by decide) (fun c_5 => ?_) (fun c_5 => ?_)
  · skip
    have c_5 : ((k_X6_isPipe vp) = 0) := c_5
    rw [if_pos c_5] at hres
    refine lv_iconst (v := 1) hx hb dX6_put_15 (by decide) ?_
    refine lv_goto (tgt := 51) hx hb dX6_put_16 (by decide) ?_
    have hP : va_P D vwCl ((md_W cs ma mv) ++ []) H := k_nP hP
    have hD : va_D A ((md_W cs ma mv) ++ []) := k_nD hD
    have hc_51 := c_X6_refused l D cs ma mv 1
    obtain ⟨r_51, o_51, e_51⟩ : ∃ r9 o9, (k_X6_refused mv 1) = (r9, o9) := ⟨_, _, rfl⟩
    rw [e_51] at hc_51 hres
    dsimp only at hc_51 hres
    refine kI_call (wc := (md_W cs ma mv)) (wr := []) (w1 := md_W cs ma o_51) (r := r_51) hE hP hD hS (k_rV (rest := []) (As := [.int 1]) hE rfl (hc_51 H.size) (cwV 1 hts gX6_put_X6_refused rfl rfl rfl (by decide +kernel) ⟨Nat.le_of_ble_eq_true rfl, Nat.le_of_ble_eq_true rfl⟩) hP hD hS (ci := 6) (q0 := 0) rfl rfl rfl hl rfl (Nat.le_of_ble_eq_true rfl) ⟨Nat.le_of_ble_eq_true rfl, Nat.le_of_ble_eq_true rfl⟩ dX6_put_51) (fun H locs hP hD hS => ?_)
    have hP := k_uP hP
    have hD := k_uD hD
    have hP : va_P D vwCl (md_W cs ma o_51) H := hP
    have hD : va_D A (md_W cs ma o_51) := hD
    refine lv_if_eq (tgt := 59) hx hb dX6_put_54 (by decide) (fun c_54 => ?_) (fun c_54 => ?_)
    · skip
      have c_54 : (r_51 = 0) := c_54
      rw [if_pos c_54] at hres
      refine lv_aload_n hx hb dX6_put_59 rfl (lv_at hl 0 rfl) ?_
      have hP : va_P D vwCl ((md_W cs ma o_51) ++ []) H := k_nP hP
      have hD : va_D A ((md_W cs ma o_51) ++ []) := k_nD hD
      have hc_60 := c_X6_remember l D cs ma o_51  (MO_rf e_51 hM)
      refine kV_call (wc := (md_W cs ma o_51)) (wr := []) (w1 := fun _ => md_W cs ma (k_X6_remember o_51)) hE hP hD hS (k_rV (rest := []) (As := []) hE rfl (hc_60 H.size) (cwV 0 hts gX6_put_X6_remember rfl rfl rfl (by decide +kernel) ⟨Nat.le_of_ble_eq_true rfl, Nat.le_of_ble_eq_true rfl⟩) hP hD hS (ci := 6) (q0 := 0) rfl rfl rfl hl rfl (Nat.le_of_ble_eq_true rfl) ⟨Nat.le_of_ble_eq_true rfl, Nat.le_of_ble_eq_true rfl⟩ dX6_put_60) (fun _ H locs _ hP hD hS => ?_)
      have hP := k_uP hP
      have hD := k_uD hD
      have hP : va_P D vwCl (md_W cs ma (k_X6_remember o_51)) H := hP
      have hD : va_D A (md_W cs ma (k_X6_remember o_51)) := hD
      refine lv_aload_n hx hb dX6_put_63 rfl (lv_at hl 0 rfl) ?_
      refine va_get (D := D) (ci := 6) (v := .ref (ma 2)) (C := RX6) (T := TX6) (N := 11) hx hb hts hinX6 hown hK hP 0 rfl rfl 3 (by decide) lk_0 (fun _ h9 => h9) rfl dX6_put_64 ?_
      refine lv_iconst (v := 1) hx hb dX6_put_67 (by decide) ?_
      refine lv_iload_n hx hb dX6_put_68 rfl (lv_at hl 1 rfl) ?_
      refine lv_iload_n hx hb dX6_put_69 rfl (lv_at hl 2 rfl) ?_
      refine lv_iload_n hx hb dX6_put_70 rfl (lv_at hl 3 rfl) ?_
      have hP := hP.sub (ws' := (st_W cs (ma 2) ((k_X6_remember o_51).2 1)) ++ (x_pick (md_W cs ma (k_X6_remember o_51)) [0, 1, 3, 4, 5, 6])) [2, 0, 1, 3, 4, 5, 6] rfl
      have hD := hD.sub (ws' := (st_W cs (ma 2) ((k_X6_remember o_51).2 1)) ++ (x_pick (md_W cs ma (k_X6_remember o_51)) [0, 1, 3, 4, 5, 6])) [2, 0, 1, 3, 4, 5, 6] (by decide) rfl
      have hc_71 := c_X6_orderOn l D cs (ma 2) ((k_X6_remember o_51).2 1) 1 vp vb vn (SI_rr e_51 hM) (by first | exact lt_rr e_51 hM c_43 | exact absurd (rfd_n e_51 c_54) (by decide))
      obtain ⟨r_71, o_71, e_71⟩ : ∃ r9 o9, (k_X6_orderOn ((k_X6_remember o_51).2 1) 1 vp vb vn) = (r9, o9) := ⟨_, _, rfl⟩
      rw [e_71] at hc_71 hres
      dsimp only at hc_71 hres
      refine kI_call (wc := (st_W cs (ma 2) ((k_X6_remember o_51).2 1))) (wr := (x_pick (md_W cs ma (k_X6_remember o_51)) [0, 1, 3, 4, 5, 6])) (w1 := st_W cs (ma 2) o_71) (r := r_71) hE hP hD hS (k_rS (rest := []) (As := [.ref (ma 2), .int 1, .int vp, .int vb, .int vn]) hE rfl (hc_71 H.size) (va_cwS 5 hts gX6_put_X6_orderOn rfl rfl rfl (by decide +kernel) ⟨Nat.le_of_ble_eq_true rfl, Nat.le_of_ble_eq_true rfl⟩) hP hD hS rfl hl rfl (Nat.le_of_ble_eq_true rfl) ⟨Nat.le_of_ble_eq_true rfl, Nat.le_of_ble_eq_true rfl⟩ dX6_put_71) (fun H locs hP hD hS => ?_)
      have hP := hP.sub (ws' := md_W cs ma (m_r (k_X6_remember o_51) 1 o_71)) [1, 2, 0, 3, 4, 5, 6] rfl
      have hD := hD.sub (ws' := md_W cs ma (m_r (k_X6_remember o_51) 1 o_71)) [1, 2, 0, 3, 4, 5, 6] (by decide) rfl
      have hP : va_P D vwCl (md_W cs ma (m_r (k_X6_remember o_51) 1 o_71)) H := hP
      have hD : va_D A (md_W cs ma (m_r (k_X6_remember o_51) 1 o_71)) := hD
      subst hres
      exact kI_ret hE hS hP hD rfl rfl (Nat.le_of_ble_eq_true rfl) (Nat.le_of_ble_eq_true rfl) dX6_put_74
    · skip
      have c_54 : ¬ (r_51 = 0) := c_54
      rw [if_neg c_54] at hres
      refine lv_iconst (v := 0) hx hb dX6_put_57 (by decide) ?_
      subst hres
      exact kI_ret hE hS hP hD rfl rfl (Nat.le_of_ble_eq_true rfl) (Nat.le_of_ble_eq_true rfl) dX6_put_58
  · skip
    have c_5 : ¬ ((k_X6_isPipe vp) = 0) := c_5
    rw [if_neg c_5] at hres
    refine lv_iload_n hx hb dX6_put_8 rfl (lv_at hl 2 rfl) ?_
    have hP : va_P D vwCl ([] ++ (md_W cs ma mv)) H := hP
    have hD : va_D A ([] ++ (md_W cs ma mv)) := hD
    have hc_9 := c_X6_isBar l D cs vb
    refine kI_call (wc := []) (wr := (md_W cs ma mv)) (w1 := []) (r := (k_X6_isBar vb)) hE hP hD hS (k_rS (rest := [.ref (ma 0)]) (As := [.int vb]) hE rfl (hc_9 H.size) (va_cwS 1 hts gX6_put_X6_isBar rfl rfl rfl (by decide +kernel) ⟨Nat.le_of_ble_eq_true rfl, Nat.le_of_ble_eq_true rfl⟩) hP hD hS rfl hl rfl (Nat.le_of_ble_eq_true rfl) ⟨Nat.le_of_ble_eq_true rfl, Nat.le_of_ble_eq_true rfl⟩ dX6_put_9) (fun H locs hP hD hS => ?_)
    have hP : va_P D vwCl (md_W cs ma mv) H := hP
    have hD : va_D A (md_W cs ma mv) := hD
    refine lv_if_ne (tgt := 19) hx hb dX6_put_12 (by decide) (fun c_12 => ?_) (fun c_12 => ?_)
    · skip
      have c_12 : ¬ ((k_X6_isBar vb) = 0) := c_12
      rw [if_neg c_12] at hres
      refine lv_iload_n hx hb dX6_put_19 rfl (lv_at hl 3 rfl) ?_
      refine lv_i2l hx hb dX6_put_20 rfl ?_
      refine lv_lconst (v := 1) hx hb dX6_put_21 (by decide) ?_
      refine lv_ldc2 (v := 6) hx hb hown lk_1 dX6_put_22 ?_
      have hP : va_P D vwCl ([] ++ (md_W cs ma mv)) H := hP
      have hD : va_D A ([] ++ (md_W cs ma mv)) := hD
      have hc_25 := c_X6_in l D cs (vn.toInt64) 1 6
      refine kI_call (wc := []) (wr := (md_W cs ma mv)) (w1 := []) (r := (k_X6_in (vn.toInt64) 1 6)) hE hP hD hS (k_rS (rest := [.ref (ma 0)]) (As := [.long (vn.toInt64), .long 1, .long 6]) hE rfl (hc_25 H.size) (va_cwS 3 hts gX6_put_X6_in rfl rfl rfl (by decide +kernel) ⟨Nat.le_of_ble_eq_true rfl, Nat.le_of_ble_eq_true rfl⟩) hP hD hS rfl hl rfl (Nat.le_of_ble_eq_true rfl) ⟨Nat.le_of_ble_eq_true rfl, Nat.le_of_ble_eq_true rfl⟩ dX6_put_25) (fun H locs hP hD hS => ?_)
      have hP : va_P D vwCl (md_W cs ma mv) H := hP
      have hD : va_D A (md_W cs ma mv) := hD
      refine lv_if_ne (tgt := 35) hx hb dX6_put_28 (by decide) (fun c_28 => ?_) (fun c_28 => ?_)
      · skip
        have c_28 : ¬ ((k_X6_in (vn.toInt64) 1 6) = 0) := c_28
        rw [if_neg c_28] at hres
        refine lv_aload_n hx hb dX6_put_35 rfl (lv_at hl 0 rfl) ?_
        refine va_get (D := D) (ci := 6) (v := .ref (ma 2)) (C := RX6) (T := TX6) (N := 11) hx hb hts hinX6 hown hK hP 0 rfl rfl 3 (by decide) lk_0 (fun _ h9 => h9) rfl dX6_put_36 ?_
        refine lv_iconst (v := 1) hx hb dX6_put_39 (by decide) ?_
        refine k_iald hx hb hK hP 2 0 (v := ((mv.2 1) 1)) rfl rfl (k_inl rfl) rfl dX6_put_40 ?_
        refine lv_bipush (v := 12) hx hb dX6_put_41 (by decide) ?_
        refine lv_icmp_ge (tgt := 50) hx hb dX6_put_43 (by decide) (fun c_43 => ?_) (fun c_43 => ?_)
        · skip
          have c_43 : (12 ≤ ((mv.2 1) 1)) := c_43
          rw [if_pos c_43] at hres
          refine lv_iconst (v := 3) hx hb dX6_put_50 (by decide) ?_
          have hP : va_P D vwCl ((md_W cs ma mv) ++ []) H := k_nP hP
          have hD : va_D A ((md_W cs ma mv) ++ []) := k_nD hD
          have hc_51 := c_X6_refused l D cs ma mv 3
          obtain ⟨r_51, o_51, e_51⟩ : ∃ r9 o9, (k_X6_refused mv 3) = (r9, o9) := ⟨_, _, rfl⟩
          rw [e_51] at hc_51 hres
          dsimp only at hc_51 hres
          refine kI_call (wc := (md_W cs ma mv)) (wr := []) (w1 := md_W cs ma o_51) (r := r_51) hE hP hD hS (k_rV (rest := []) (As := [.int 3]) hE rfl (hc_51 H.size) (cwV 1 hts gX6_put_X6_refused rfl rfl rfl (by decide +kernel) ⟨Nat.le_of_ble_eq_true rfl, Nat.le_of_ble_eq_true rfl⟩) hP hD hS (ci := 6) (q0 := 0) rfl rfl rfl hl rfl (Nat.le_of_ble_eq_true rfl) ⟨Nat.le_of_ble_eq_true rfl, Nat.le_of_ble_eq_true rfl⟩ dX6_put_51) (fun H locs hP hD hS => ?_)
          have hP := k_uP hP
          have hD := k_uD hD
          have hP : va_P D vwCl (md_W cs ma o_51) H := hP
          have hD : va_D A (md_W cs ma o_51) := hD
          refine lv_if_eq (tgt := 59) hx hb dX6_put_54 (by decide) (fun c_54 => ?_) (fun c_54 => ?_)
          · skip
            have c_54 : (r_51 = 0) := c_54
            rw [if_pos c_54] at hres
            refine lv_aload_n hx hb dX6_put_59 rfl (lv_at hl 0 rfl) ?_
            have hP : va_P D vwCl ((md_W cs ma o_51) ++ []) H := k_nP hP
            have hD : va_D A ((md_W cs ma o_51) ++ []) := k_nD hD
            have hc_60 := c_X6_remember l D cs ma o_51  (MO_rf e_51 hM)
            refine kV_call (wc := (md_W cs ma o_51)) (wr := []) (w1 := fun _ => md_W cs ma (k_X6_remember o_51)) hE hP hD hS (k_rV (rest := []) (As := []) hE rfl (hc_60 H.size) (cwV 0 hts gX6_put_X6_remember rfl rfl rfl (by decide +kernel) ⟨Nat.le_of_ble_eq_true rfl, Nat.le_of_ble_eq_true rfl⟩) hP hD hS (ci := 6) (q0 := 0) rfl rfl rfl hl rfl (Nat.le_of_ble_eq_true rfl) ⟨Nat.le_of_ble_eq_true rfl, Nat.le_of_ble_eq_true rfl⟩ dX6_put_60) (fun _ H locs _ hP hD hS => ?_)
            have hP := k_uP hP
            have hD := k_uD hD
            have hP : va_P D vwCl (md_W cs ma (k_X6_remember o_51)) H := hP
            have hD : va_D A (md_W cs ma (k_X6_remember o_51)) := hD
            refine lv_aload_n hx hb dX6_put_63 rfl (lv_at hl 0 rfl) ?_
            refine va_get (D := D) (ci := 6) (v := .ref (ma 2)) (C := RX6) (T := TX6) (N := 11) hx hb hts hinX6 hown hK hP 0 rfl rfl 3 (by decide) lk_0 (fun _ h9 => h9) rfl dX6_put_64 ?_
            refine lv_iconst (v := 1) hx hb dX6_put_67 (by decide) ?_
            refine lv_iload_n hx hb dX6_put_68 rfl (lv_at hl 1 rfl) ?_
            refine lv_iload_n hx hb dX6_put_69 rfl (lv_at hl 2 rfl) ?_
            refine lv_iload_n hx hb dX6_put_70 rfl (lv_at hl 3 rfl) ?_
            have hP := hP.sub (ws' := (st_W cs (ma 2) ((k_X6_remember o_51).2 1)) ++ (x_pick (md_W cs ma (k_X6_remember o_51)) [0, 1, 3, 4, 5, 6])) [2, 0, 1, 3, 4, 5, 6] rfl
            have hD := hD.sub (ws' := (st_W cs (ma 2) ((k_X6_remember o_51).2 1)) ++ (x_pick (md_W cs ma (k_X6_remember o_51)) [0, 1, 3, 4, 5, 6])) [2, 0, 1, 3, 4, 5, 6] (by decide) rfl
            have hc_71 := c_X6_orderOn l D cs (ma 2) ((k_X6_remember o_51).2 1) 1 vp vb vn (SI_rr e_51 hM) (by first | exact lt_rr e_51 hM c_43 | exact absurd (rfd_n e_51 c_54) (by decide))
            obtain ⟨r_71, o_71, e_71⟩ : ∃ r9 o9, (k_X6_orderOn ((k_X6_remember o_51).2 1) 1 vp vb vn) = (r9, o9) := ⟨_, _, rfl⟩
            rw [e_71] at hc_71 hres
            dsimp only at hc_71 hres
            refine kI_call (wc := (st_W cs (ma 2) ((k_X6_remember o_51).2 1))) (wr := (x_pick (md_W cs ma (k_X6_remember o_51)) [0, 1, 3, 4, 5, 6])) (w1 := st_W cs (ma 2) o_71) (r := r_71) hE hP hD hS (k_rS (rest := []) (As := [.ref (ma 2), .int 1, .int vp, .int vb, .int vn]) hE rfl (hc_71 H.size) (va_cwS 5 hts gX6_put_X6_orderOn rfl rfl rfl (by decide +kernel) ⟨Nat.le_of_ble_eq_true rfl, Nat.le_of_ble_eq_true rfl⟩) hP hD hS rfl hl rfl (Nat.le_of_ble_eq_true rfl) ⟨Nat.le_of_ble_eq_true rfl, Nat.le_of_ble_eq_true rfl⟩ dX6_put_71) (fun H locs hP hD hS => ?_)
            have hP := hP.sub (ws' := md_W cs ma (m_r (k_X6_remember o_51) 1 o_71)) [1, 2, 0, 3, 4, 5, 6] rfl
            have hD := hD.sub (ws' := md_W cs ma (m_r (k_X6_remember o_51) 1 o_71)) [1, 2, 0, 3, 4, 5, 6] (by decide) rfl
            have hP : va_P D vwCl (md_W cs ma (m_r (k_X6_remember o_51) 1 o_71)) H := hP
            have hD : va_D A (md_W cs ma (m_r (k_X6_remember o_51) 1 o_71)) := hD
            subst hres
            exact kI_ret hE hS hP hD rfl rfl (Nat.le_of_ble_eq_true rfl) (Nat.le_of_ble_eq_true rfl) dX6_put_74
          · skip
            have c_54 : ¬ (r_51 = 0) := c_54
            rw [if_neg c_54] at hres
            refine lv_iconst (v := 0) hx hb dX6_put_57 (by decide) ?_
            subst hres
            exact kI_ret hE hS hP hD rfl rfl (Nat.le_of_ble_eq_true rfl) (Nat.le_of_ble_eq_true rfl) dX6_put_58
        · skip
          have c_43 : ¬ (12 ≤ ((mv.2 1) 1)) := c_43
          rw [if_neg c_43] at hres
          refine lv_iconst (v := 0) hx hb dX6_put_46 (by decide) ?_
          refine lv_goto (tgt := 51) hx hb dX6_put_47 (by decide) ?_
          have hP : va_P D vwCl ((md_W cs ma mv) ++ []) H := k_nP hP
          have hD : va_D A ((md_W cs ma mv) ++ []) := k_nD hD
          have hc_51 := c_X6_refused l D cs ma mv 0
          obtain ⟨r_51, o_51, e_51⟩ : ∃ r9 o9, (k_X6_refused mv 0) = (r9, o9) := ⟨_, _, rfl⟩
          rw [e_51] at hc_51 hres
          dsimp only at hc_51 hres
          refine kI_call (wc := (md_W cs ma mv)) (wr := []) (w1 := md_W cs ma o_51) (r := r_51) hE hP hD hS (k_rV (rest := []) (As := [.int 0]) hE rfl (hc_51 H.size) (cwV 1 hts gX6_put_X6_refused rfl rfl rfl (by decide +kernel) ⟨Nat.le_of_ble_eq_true rfl, Nat.le_of_ble_eq_true rfl⟩) hP hD hS (ci := 6) (q0 := 0) rfl rfl rfl hl rfl (Nat.le_of_ble_eq_true rfl) ⟨Nat.le_of_ble_eq_true rfl, Nat.le_of_ble_eq_true rfl⟩ dX6_put_51) (fun H locs hP hD hS => ?_)
          have hP := k_uP hP
          have hD := k_uD hD
          have hP : va_P D vwCl (md_W cs ma o_51) H := hP
          have hD : va_D A (md_W cs ma o_51) := hD
          refine lv_if_eq (tgt := 59) hx hb dX6_put_54 (by decide) (fun c_54 => ?_) (fun c_54 => ?_)
          · skip
            have c_54 : (r_51 = 0) := c_54
            rw [if_pos c_54] at hres
            refine lv_aload_n hx hb dX6_put_59 rfl (lv_at hl 0 rfl) ?_
            have hP : va_P D vwCl ((md_W cs ma o_51) ++ []) H := k_nP hP
            have hD : va_D A ((md_W cs ma o_51) ++ []) := k_nD hD
            have hc_60 := c_X6_remember l D cs ma o_51  (MO_rf e_51 hM)
            refine kV_call (wc := (md_W cs ma o_51)) (wr := []) (w1 := fun _ => md_W cs ma (k_X6_remember o_51)) hE hP hD hS (k_rV (rest := []) (As := []) hE rfl (hc_60 H.size) (cwV 0 hts gX6_put_X6_remember rfl rfl rfl (by decide +kernel) ⟨Nat.le_of_ble_eq_true rfl, Nat.le_of_ble_eq_true rfl⟩) hP hD hS (ci := 6) (q0 := 0) rfl rfl rfl hl rfl (Nat.le_of_ble_eq_true rfl) ⟨Nat.le_of_ble_eq_true rfl, Nat.le_of_ble_eq_true rfl⟩ dX6_put_60) (fun _ H locs _ hP hD hS => ?_)
            have hP := k_uP hP
            have hD := k_uD hD
            have hP : va_P D vwCl (md_W cs ma (k_X6_remember o_51)) H := hP
            have hD : va_D A (md_W cs ma (k_X6_remember o_51)) := hD
            refine lv_aload_n hx hb dX6_put_63 rfl (lv_at hl 0 rfl) ?_
            refine va_get (D := D) (ci := 6) (v := .ref (ma 2)) (C := RX6) (T := TX6) (N := 11) hx hb hts hinX6 hown hK hP 0 rfl rfl 3 (by decide) lk_0 (fun _ h9 => h9) rfl dX6_put_64 ?_
            refine lv_iconst (v := 1) hx hb dX6_put_67 (by decide) ?_
            refine lv_iload_n hx hb dX6_put_68 rfl (lv_at hl 1 rfl) ?_
            refine lv_iload_n hx hb dX6_put_69 rfl (lv_at hl 2 rfl) ?_
            refine lv_iload_n hx hb dX6_put_70 rfl (lv_at hl 3 rfl) ?_
            have hP := hP.sub (ws' := (st_W cs (ma 2) ((k_X6_remember o_51).2 1)) ++ (x_pick (md_W cs ma (k_X6_remember o_51)) [0, 1, 3, 4, 5, 6])) [2, 0, 1, 3, 4, 5, 6] rfl
            have hD := hD.sub (ws' := (st_W cs (ma 2) ((k_X6_remember o_51).2 1)) ++ (x_pick (md_W cs ma (k_X6_remember o_51)) [0, 1, 3, 4, 5, 6])) [2, 0, 1, 3, 4, 5, 6] (by decide) rfl
            have hc_71 := c_X6_orderOn l D cs (ma 2) ((k_X6_remember o_51).2 1) 1 vp vb vn (SI_rr e_51 hM) (by first | exact lt_rr e_51 hM c_43 | exact absurd (rfd_n e_51 c_54) (by decide))
            obtain ⟨r_71, o_71, e_71⟩ : ∃ r9 o9, (k_X6_orderOn ((k_X6_remember o_51).2 1) 1 vp vb vn) = (r9, o9) := ⟨_, _, rfl⟩
            rw [e_71] at hc_71 hres
            dsimp only at hc_71 hres
            refine kI_call (wc := (st_W cs (ma 2) ((k_X6_remember o_51).2 1))) (wr := (x_pick (md_W cs ma (k_X6_remember o_51)) [0, 1, 3, 4, 5, 6])) (w1 := st_W cs (ma 2) o_71) (r := r_71) hE hP hD hS (k_rS (rest := []) (As := [.ref (ma 2), .int 1, .int vp, .int vb, .int vn]) hE rfl (hc_71 H.size) (va_cwS 5 hts gX6_put_X6_orderOn rfl rfl rfl (by decide +kernel) ⟨Nat.le_of_ble_eq_true rfl, Nat.le_of_ble_eq_true rfl⟩) hP hD hS rfl hl rfl (Nat.le_of_ble_eq_true rfl) ⟨Nat.le_of_ble_eq_true rfl, Nat.le_of_ble_eq_true rfl⟩ dX6_put_71) (fun H locs hP hD hS => ?_)
            have hP := hP.sub (ws' := md_W cs ma (m_r (k_X6_remember o_51) 1 o_71)) [1, 2, 0, 3, 4, 5, 6] rfl
            have hD := hD.sub (ws' := md_W cs ma (m_r (k_X6_remember o_51) 1 o_71)) [1, 2, 0, 3, 4, 5, 6] (by decide) rfl
            have hP : va_P D vwCl (md_W cs ma (m_r (k_X6_remember o_51) 1 o_71)) H := hP
            have hD : va_D A (md_W cs ma (m_r (k_X6_remember o_51) 1 o_71)) := hD
            subst hres
            exact kI_ret hE hS hP hD rfl rfl (Nat.le_of_ble_eq_true rfl) (Nat.le_of_ble_eq_true rfl) dX6_put_74
          · skip
            have c_54 : ¬ (r_51 = 0) := c_54
            rw [if_neg c_54] at hres
            refine lv_iconst (v := 0) hx hb dX6_put_57 (by decide) ?_
            subst hres
            exact kI_ret hE hS hP hD rfl rfl (Nat.le_of_ble_eq_true rfl) (Nat.le_of_ble_eq_true rfl) dX6_put_58
      · skip
        have c_28 : ((k_X6_in (vn.toInt64) 1 6) = 0) := c_28
        rw [if_pos c_28] at hres
        refine lv_iconst (v := 2) hx hb dX6_put_31 (by decide) ?_
        refine lv_goto (tgt := 51) hx hb dX6_put_32 (by decide) ?_
        have hP : va_P D vwCl ((md_W cs ma mv) ++ []) H := k_nP hP
        have hD : va_D A ((md_W cs ma mv) ++ []) := k_nD hD
        have hc_51 := c_X6_refused l D cs ma mv 2
        obtain ⟨r_51, o_51, e_51⟩ : ∃ r9 o9, (k_X6_refused mv 2) = (r9, o9) := ⟨_, _, rfl⟩
        rw [e_51] at hc_51 hres
        dsimp only at hc_51 hres
        refine kI_call (wc := (md_W cs ma mv)) (wr := []) (w1 := md_W cs ma o_51) (r := r_51) hE hP hD hS (k_rV (rest := []) (As := [.int 2]) hE rfl (hc_51 H.size) (cwV 1 hts gX6_put_X6_refused rfl rfl rfl (by decide +kernel) ⟨Nat.le_of_ble_eq_true rfl, Nat.le_of_ble_eq_true rfl⟩) hP hD hS (ci := 6) (q0 := 0) rfl rfl rfl hl rfl (Nat.le_of_ble_eq_true rfl) ⟨Nat.le_of_ble_eq_true rfl, Nat.le_of_ble_eq_true rfl⟩ dX6_put_51) (fun H locs hP hD hS => ?_)
        have hP := k_uP hP
        have hD := k_uD hD
        have hP : va_P D vwCl (md_W cs ma o_51) H := hP
        have hD : va_D A (md_W cs ma o_51) := hD
        refine lv_if_eq (tgt := 59) hx hb dX6_put_54 (by decide) (fun c_54 => ?_) (fun c_54 => ?_)
        · skip
          have c_54 : (r_51 = 0) := c_54
          rw [if_pos c_54] at hres
          refine lv_aload_n hx hb dX6_put_59 rfl (lv_at hl 0 rfl) ?_
          have hP : va_P D vwCl ((md_W cs ma o_51) ++ []) H := k_nP hP
          have hD : va_D A ((md_W cs ma o_51) ++ []) := k_nD hD
          have hc_60 := c_X6_remember l D cs ma o_51  (MO_rf e_51 hM)
          refine kV_call (wc := (md_W cs ma o_51)) (wr := []) (w1 := fun _ => md_W cs ma (k_X6_remember o_51)) hE hP hD hS (k_rV (rest := []) (As := []) hE rfl (hc_60 H.size) (cwV 0 hts gX6_put_X6_remember rfl rfl rfl (by decide +kernel) ⟨Nat.le_of_ble_eq_true rfl, Nat.le_of_ble_eq_true rfl⟩) hP hD hS (ci := 6) (q0 := 0) rfl rfl rfl hl rfl (Nat.le_of_ble_eq_true rfl) ⟨Nat.le_of_ble_eq_true rfl, Nat.le_of_ble_eq_true rfl⟩ dX6_put_60) (fun _ H locs _ hP hD hS => ?_)
          have hP := k_uP hP
          have hD := k_uD hD
          have hP : va_P D vwCl (md_W cs ma (k_X6_remember o_51)) H := hP
          have hD : va_D A (md_W cs ma (k_X6_remember o_51)) := hD
          refine lv_aload_n hx hb dX6_put_63 rfl (lv_at hl 0 rfl) ?_
          refine va_get (D := D) (ci := 6) (v := .ref (ma 2)) (C := RX6) (T := TX6) (N := 11) hx hb hts hinX6 hown hK hP 0 rfl rfl 3 (by decide) lk_0 (fun _ h9 => h9) rfl dX6_put_64 ?_
          refine lv_iconst (v := 1) hx hb dX6_put_67 (by decide) ?_
          refine lv_iload_n hx hb dX6_put_68 rfl (lv_at hl 1 rfl) ?_
          refine lv_iload_n hx hb dX6_put_69 rfl (lv_at hl 2 rfl) ?_
          refine lv_iload_n hx hb dX6_put_70 rfl (lv_at hl 3 rfl) ?_
          have hP := hP.sub (ws' := (st_W cs (ma 2) ((k_X6_remember o_51).2 1)) ++ (x_pick (md_W cs ma (k_X6_remember o_51)) [0, 1, 3, 4, 5, 6])) [2, 0, 1, 3, 4, 5, 6] rfl
          have hD := hD.sub (ws' := (st_W cs (ma 2) ((k_X6_remember o_51).2 1)) ++ (x_pick (md_W cs ma (k_X6_remember o_51)) [0, 1, 3, 4, 5, 6])) [2, 0, 1, 3, 4, 5, 6] (by decide) rfl
          have hc_71 := c_X6_orderOn l D cs (ma 2) ((k_X6_remember o_51).2 1) 1 vp vb vn (SI_rr e_51 hM) (by first | exact lt_rr e_51 hM c_43 | exact absurd (rfd_n e_51 c_54) (by decide))
          obtain ⟨r_71, o_71, e_71⟩ : ∃ r9 o9, (k_X6_orderOn ((k_X6_remember o_51).2 1) 1 vp vb vn) = (r9, o9) := ⟨_, _, rfl⟩
          rw [e_71] at hc_71 hres
          dsimp only at hc_71 hres
          refine kI_call (wc := (st_W cs (ma 2) ((k_X6_remember o_51).2 1))) (wr := (x_pick (md_W cs ma (k_X6_remember o_51)) [0, 1, 3, 4, 5, 6])) (w1 := st_W cs (ma 2) o_71) (r := r_71) hE hP hD hS (k_rS (rest := []) (As := [.ref (ma 2), .int 1, .int vp, .int vb, .int vn]) hE rfl (hc_71 H.size) (va_cwS 5 hts gX6_put_X6_orderOn rfl rfl rfl (by decide +kernel) ⟨Nat.le_of_ble_eq_true rfl, Nat.le_of_ble_eq_true rfl⟩) hP hD hS rfl hl rfl (Nat.le_of_ble_eq_true rfl) ⟨Nat.le_of_ble_eq_true rfl, Nat.le_of_ble_eq_true rfl⟩ dX6_put_71) (fun H locs hP hD hS => ?_)
          have hP := hP.sub (ws' := md_W cs ma (m_r (k_X6_remember o_51) 1 o_71)) [1, 2, 0, 3, 4, 5, 6] rfl
          have hD := hD.sub (ws' := md_W cs ma (m_r (k_X6_remember o_51) 1 o_71)) [1, 2, 0, 3, 4, 5, 6] (by decide) rfl
          have hP : va_P D vwCl (md_W cs ma (m_r (k_X6_remember o_51) 1 o_71)) H := hP
          have hD : va_D A (md_W cs ma (m_r (k_X6_remember o_51) 1 o_71)) := hD
          subst hres
          exact kI_ret hE hS hP hD rfl rfl (Nat.le_of_ble_eq_true rfl) (Nat.le_of_ble_eq_true rfl) dX6_put_74
        · skip
          have c_54 : ¬ (r_51 = 0) := c_54
          rw [if_neg c_54] at hres
          refine lv_iconst (v := 0) hx hb dX6_put_57 (by decide) ?_
          subst hres
          exact kI_ret hE hS hP hD rfl rfl (Nat.le_of_ble_eq_true rfl) (Nat.le_of_ble_eq_true rfl) dX6_put_58
    · skip
      have c_12 : ((k_X6_isBar vb) = 0) := c_12
      rw [if_pos c_12] at hres
      refine lv_iconst (v := 1) hx hb dX6_put_15 (by decide) ?_
      refine lv_goto (tgt := 51) hx hb dX6_put_16 (by decide) ?_
      have hP : va_P D vwCl ((md_W cs ma mv) ++ []) H := k_nP hP
      have hD : va_D A ((md_W cs ma mv) ++ []) := k_nD hD
      have hc_51 := c_X6_refused l D cs ma mv 1
      obtain ⟨r_51, o_51, e_51⟩ : ∃ r9 o9, (k_X6_refused mv 1) = (r9, o9) := ⟨_, _, rfl⟩
      rw [e_51] at hc_51 hres
      dsimp only at hc_51 hres
      refine kI_call (wc := (md_W cs ma mv)) (wr := []) (w1 := md_W cs ma o_51) (r := r_51) hE hP hD hS (k_rV (rest := []) (As := [.int 1]) hE rfl (hc_51 H.size) (cwV 1 hts gX6_put_X6_refused rfl rfl rfl (by decide +kernel) ⟨Nat.le_of_ble_eq_true rfl, Nat.le_of_ble_eq_true rfl⟩) hP hD hS (ci := 6) (q0 := 0) rfl rfl rfl hl rfl (Nat.le_of_ble_eq_true rfl) ⟨Nat.le_of_ble_eq_true rfl, Nat.le_of_ble_eq_true rfl⟩ dX6_put_51) (fun H locs hP hD hS => ?_)
      have hP := k_uP hP
      have hD := k_uD hD
      have hP : va_P D vwCl (md_W cs ma o_51) H := hP
      have hD : va_D A (md_W cs ma o_51) := hD
      refine lv_if_eq (tgt := 59) hx hb dX6_put_54 (by decide) (fun c_54 => ?_) (fun c_54 => ?_)
      · skip
        have c_54 : (r_51 = 0) := c_54
        rw [if_pos c_54] at hres
        refine lv_aload_n hx hb dX6_put_59 rfl (lv_at hl 0 rfl) ?_
        have hP : va_P D vwCl ((md_W cs ma o_51) ++ []) H := k_nP hP
        have hD : va_D A ((md_W cs ma o_51) ++ []) := k_nD hD
        have hc_60 := c_X6_remember l D cs ma o_51  (MO_rf e_51 hM)
        refine kV_call (wc := (md_W cs ma o_51)) (wr := []) (w1 := fun _ => md_W cs ma (k_X6_remember o_51)) hE hP hD hS (k_rV (rest := []) (As := []) hE rfl (hc_60 H.size) (cwV 0 hts gX6_put_X6_remember rfl rfl rfl (by decide +kernel) ⟨Nat.le_of_ble_eq_true rfl, Nat.le_of_ble_eq_true rfl⟩) hP hD hS (ci := 6) (q0 := 0) rfl rfl rfl hl rfl (Nat.le_of_ble_eq_true rfl) ⟨Nat.le_of_ble_eq_true rfl, Nat.le_of_ble_eq_true rfl⟩ dX6_put_60) (fun _ H locs _ hP hD hS => ?_)
        have hP := k_uP hP
        have hD := k_uD hD
        have hP : va_P D vwCl (md_W cs ma (k_X6_remember o_51)) H := hP
        have hD : va_D A (md_W cs ma (k_X6_remember o_51)) := hD
        refine lv_aload_n hx hb dX6_put_63 rfl (lv_at hl 0 rfl) ?_
        refine va_get (D := D) (ci := 6) (v := .ref (ma 2)) (C := RX6) (T := TX6) (N := 11) hx hb hts hinX6 hown hK hP 0 rfl rfl 3 (by decide) lk_0 (fun _ h9 => h9) rfl dX6_put_64 ?_
        refine lv_iconst (v := 1) hx hb dX6_put_67 (by decide) ?_
        refine lv_iload_n hx hb dX6_put_68 rfl (lv_at hl 1 rfl) ?_
        refine lv_iload_n hx hb dX6_put_69 rfl (lv_at hl 2 rfl) ?_
        refine lv_iload_n hx hb dX6_put_70 rfl (lv_at hl 3 rfl) ?_
        have hP := hP.sub (ws' := (st_W cs (ma 2) ((k_X6_remember o_51).2 1)) ++ (x_pick (md_W cs ma (k_X6_remember o_51)) [0, 1, 3, 4, 5, 6])) [2, 0, 1, 3, 4, 5, 6] rfl
        have hD := hD.sub (ws' := (st_W cs (ma 2) ((k_X6_remember o_51).2 1)) ++ (x_pick (md_W cs ma (k_X6_remember o_51)) [0, 1, 3, 4, 5, 6])) [2, 0, 1, 3, 4, 5, 6] (by decide) rfl
        have hc_71 := c_X6_orderOn l D cs (ma 2) ((k_X6_remember o_51).2 1) 1 vp vb vn (SI_rr e_51 hM) (by first | exact lt_rr e_51 hM c_43 | exact absurd (rfd_n e_51 c_54) (by decide))
        obtain ⟨r_71, o_71, e_71⟩ : ∃ r9 o9, (k_X6_orderOn ((k_X6_remember o_51).2 1) 1 vp vb vn) = (r9, o9) := ⟨_, _, rfl⟩
        rw [e_71] at hc_71 hres
        dsimp only at hc_71 hres
        refine kI_call (wc := (st_W cs (ma 2) ((k_X6_remember o_51).2 1))) (wr := (x_pick (md_W cs ma (k_X6_remember o_51)) [0, 1, 3, 4, 5, 6])) (w1 := st_W cs (ma 2) o_71) (r := r_71) hE hP hD hS (k_rS (rest := []) (As := [.ref (ma 2), .int 1, .int vp, .int vb, .int vn]) hE rfl (hc_71 H.size) (va_cwS 5 hts gX6_put_X6_orderOn rfl rfl rfl (by decide +kernel) ⟨Nat.le_of_ble_eq_true rfl, Nat.le_of_ble_eq_true rfl⟩) hP hD hS rfl hl rfl (Nat.le_of_ble_eq_true rfl) ⟨Nat.le_of_ble_eq_true rfl, Nat.le_of_ble_eq_true rfl⟩ dX6_put_71) (fun H locs hP hD hS => ?_)
        have hP := hP.sub (ws' := md_W cs ma (m_r (k_X6_remember o_51) 1 o_71)) [1, 2, 0, 3, 4, 5, 6] rfl
        have hD := hD.sub (ws' := md_W cs ma (m_r (k_X6_remember o_51) 1 o_71)) [1, 2, 0, 3, 4, 5, 6] (by decide) rfl
        have hP : va_P D vwCl (md_W cs ma (m_r (k_X6_remember o_51) 1 o_71)) H := hP
        have hD : va_D A (md_W cs ma (m_r (k_X6_remember o_51) 1 o_71)) := hD
        subst hres
        exact kI_ret hE hS hP hD rfl rfl (Nat.le_of_ble_eq_true rfl) (Nat.le_of_ble_eq_true rfl) dX6_put_74
      · skip
        have c_54 : ¬ (r_51 = 0) := c_54
        rw [if_neg c_54] at hres
        refine lv_iconst (v := 0) hx hb dX6_put_57 (by decide) ?_
        subst hres
        exact kI_ret hE hS hP hD rfl rfl (Nat.le_of_ble_eq_true rfl) (Nat.le_of_ble_eq_true rfl) dX6_put_58
set_option maxHeartbeats 4000000 in
set_option maxRecDepth 100000 in
theorem c_X6_pull (l : Launch) (D : va_G) (cs : Nat → ClassId) (ma : Nat → Nat) (mv : MV) (vp : Int32) (vb : Int32) (hM : MO mv) : kI l yX6_pull wsX6_pull { frames := 2, cells := 0, slots := 0, locals := 45 } 0 0 D cs [.ref (ma 0), .int vp, .int vb] (md_W cs ma mv) (k_X6_pull mv vp vb).1 (md_W cs ma ((k_X6_pull mv vp vb).2)) := by
  generalize hres : k_X6_pull mv vp vb = res
  refine kI_of (cc := cX6_pull) (maxL := 3) (ret := (some .int)) (by decide) rfl (Nat.le_of_ble_eq_true rfl) ?_
  intro p e s m below meth c A ls H locs hE hS hP hD hl
  obtain ⟨hx, hb, hr, hlocks, hml, hown, hts, hK, hA, hG, hnm⟩ := id hE
  have hown : s.vm.findClass RX6 = some m.cls := hown
  have hl : lv_has ls 3 [(0, .ref (ma 0)), (1, .int vp), (2, .int vb)] := hl
  have hinX6 : ∀ w ∈ wsX60, w ∈ wsX6_pull := by decide +kernel
  have lk_0 := hts (.fieldLink RX6 13 "OrganPegsModel" "now" "[I") (by decide +kernel)
  unfold k_X6_pull at hres
  refine lv_aload_n hx hb dX6_pull_0 rfl (lv_at hl 0 rfl) ?_
  refine lv_iload_n hx hb dX6_pull_1 rfl (lv_at hl 1 rfl) ?_
  have hP : va_P D vwCl ([] ++ (md_W cs ma mv)) H := hP
  have hD : va_D A ([] ++ (md_W cs ma mv)) := hD
  have hc_2 := c_X6_isPipe l D cs vp
  refine kI_call (wc := []) (wr := (md_W cs ma mv)) (w1 := []) (r := (k_X6_isPipe vp)) hE hP hD hS (k_rS (rest := [.ref (ma 0)]) (As := [.int vp]) hE rfl (hc_2 H.size) (va_cwS 1 hts gX6_pull_X6_isPipe rfl rfl rfl (by decide +kernel) ⟨Nat.le_of_ble_eq_true rfl, Nat.le_of_ble_eq_true rfl⟩) hP hD hS rfl hl rfl (Nat.le_of_ble_eq_true rfl) ⟨Nat.le_of_ble_eq_true rfl, Nat.le_of_ble_eq_true rfl⟩ dX6_pull_2) (fun H locs hP hD hS => ?_)
  have hP : va_P D vwCl (md_W cs ma mv) H := hP
  have hD : va_D A (md_W cs ma mv) := hD
  refine lv_if_eq (tgt := 15) hx hb dX6_pull_5 (by decide) (fun c_5 => ?_) (fun c_5 => ?_)
  · skip
    have c_5 : ((k_X6_isPipe vp) = 0) := c_5
    rw [if_pos c_5] at hres
    refine lv_iconst (v := 1) hx hb dX6_pull_15 (by decide) ?_
    refine lv_goto (tgt := 35) hx hb dX6_pull_16 (by decide) ?_
    have hP : va_P D vwCl ((md_W cs ma mv) ++ []) H := k_nP hP
    have hD : va_D A ((md_W cs ma mv) ++ []) := k_nD hD
    have hc_35 := c_X6_refused l D cs ma mv 1
    obtain ⟨r_35, o_35, e_35⟩ : ∃ r9 o9, (k_X6_refused mv 1) = (r9, o9) := ⟨_, _, rfl⟩
    rw [e_35] at hc_35 hres
    dsimp only at hc_35 hres
    refine kI_call (wc := (md_W cs ma mv)) (wr := []) (w1 := md_W cs ma o_35) (r := r_35) hE hP hD hS (k_rV (rest := []) (As := [.int 1]) hE rfl (hc_35 H.size) (cwV 1 hts gX6_pull_X6_refused rfl rfl rfl (by decide +kernel) ⟨Nat.le_of_ble_eq_true rfl, Nat.le_of_ble_eq_true rfl⟩) hP hD hS (ci := 6) (q0 := 0) rfl rfl rfl hl rfl (Nat.le_of_ble_eq_true rfl) ⟨Nat.le_of_ble_eq_true rfl, Nat.le_of_ble_eq_true rfl⟩ dX6_pull_35) (fun H locs hP hD hS => ?_)
    have hP := k_uP hP
    have hD := k_uD hD
    have hP : va_P D vwCl (md_W cs ma o_35) H := hP
    have hD : va_D A (md_W cs ma o_35) := hD
    refine lv_if_eq (tgt := 43) hx hb dX6_pull_38 (by decide) (fun c_38 => ?_) (fun c_38 => ?_)
    · skip
      have c_38 : (r_35 = 0) := c_38
      rw [if_pos c_38] at hres
      refine lv_aload_n hx hb dX6_pull_43 rfl (lv_at hl 0 rfl) ?_
      have hP : va_P D vwCl ((md_W cs ma o_35) ++ []) H := k_nP hP
      have hD : va_D A ((md_W cs ma o_35) ++ []) := k_nD hD
      have hc_44 := c_X6_remember l D cs ma o_35  (MO_rf e_35 hM)
      refine kV_call (wc := (md_W cs ma o_35)) (wr := []) (w1 := fun _ => md_W cs ma (k_X6_remember o_35)) hE hP hD hS (k_rV (rest := []) (As := []) hE rfl (hc_44 H.size) (cwV 0 hts gX6_pull_X6_remember rfl rfl rfl (by decide +kernel) ⟨Nat.le_of_ble_eq_true rfl, Nat.le_of_ble_eq_true rfl⟩) hP hD hS (ci := 6) (q0 := 0) rfl rfl rfl hl rfl (Nat.le_of_ble_eq_true rfl) ⟨Nat.le_of_ble_eq_true rfl, Nat.le_of_ble_eq_true rfl⟩ dX6_pull_44) (fun _ H locs _ hP hD hS => ?_)
      have hP := k_uP hP
      have hD := k_uD hD
      have hP : va_P D vwCl (md_W cs ma (k_X6_remember o_35)) H := hP
      have hD : va_D A (md_W cs ma (k_X6_remember o_35)) := hD
      refine lv_aload_n hx hb dX6_pull_47 rfl (lv_at hl 0 rfl) ?_
      refine va_get (D := D) (ci := 6) (v := .ref (ma 2)) (C := RX6) (T := TX6) (N := 11) hx hb hts hinX6 hown hK hP 0 rfl rfl 3 (by decide) lk_0 (fun _ h9 => h9) rfl dX6_pull_48 ?_
      refine lv_iconst (v := 0) hx hb dX6_pull_51 (by decide) ?_
      refine lv_iload_n hx hb dX6_pull_52 rfl (lv_at hl 1 rfl) ?_
      refine lv_iload_n hx hb dX6_pull_53 rfl (lv_at hl 2 rfl) ?_
      refine lv_iconst (v := 0) hx hb dX6_pull_54 (by decide) ?_
      have hP := hP.sub (ws' := (st_W cs (ma 2) ((k_X6_remember o_35).2 1)) ++ (x_pick (md_W cs ma (k_X6_remember o_35)) [0, 1, 3, 4, 5, 6])) [2, 0, 1, 3, 4, 5, 6] rfl
      have hD := hD.sub (ws' := (st_W cs (ma 2) ((k_X6_remember o_35).2 1)) ++ (x_pick (md_W cs ma (k_X6_remember o_35)) [0, 1, 3, 4, 5, 6])) [2, 0, 1, 3, 4, 5, 6] (by decide) rfl
      have hc_55 := c_X6_orderOn l D cs (ma 2) ((k_X6_remember o_35).2 1) 0 vp vb 0 (SI_rr e_35 hM) (by first | exact lt_rr e_35 hM c_27 | exact absurd (rfd_n e_35 c_38) (by decide))
      obtain ⟨r_55, o_55, e_55⟩ : ∃ r9 o9, (k_X6_orderOn ((k_X6_remember o_35).2 1) 0 vp vb 0) = (r9, o9) := ⟨_, _, rfl⟩
      rw [e_55] at hc_55 hres
      dsimp only at hc_55 hres
      refine kI_call (wc := (st_W cs (ma 2) ((k_X6_remember o_35).2 1))) (wr := (x_pick (md_W cs ma (k_X6_remember o_35)) [0, 1, 3, 4, 5, 6])) (w1 := st_W cs (ma 2) o_55) (r := r_55) hE hP hD hS (k_rS (rest := []) (As := [.ref (ma 2), .int 0, .int vp, .int vb, .int 0]) hE rfl (hc_55 H.size) (va_cwS 5 hts gX6_pull_X6_orderOn rfl rfl rfl (by decide +kernel) ⟨Nat.le_of_ble_eq_true rfl, Nat.le_of_ble_eq_true rfl⟩) hP hD hS rfl hl rfl (Nat.le_of_ble_eq_true rfl) ⟨Nat.le_of_ble_eq_true rfl, Nat.le_of_ble_eq_true rfl⟩ dX6_pull_55) (fun H locs hP hD hS => ?_)
      have hP := hP.sub (ws' := md_W cs ma (m_r (k_X6_remember o_35) 1 o_55)) [1, 2, 0, 3, 4, 5, 6] rfl
      have hD := hD.sub (ws' := md_W cs ma (m_r (k_X6_remember o_35) 1 o_55)) [1, 2, 0, 3, 4, 5, 6] (by decide) rfl
      have hP : va_P D vwCl (md_W cs ma (m_r (k_X6_remember o_35) 1 o_55)) H := hP
      have hD : va_D A (md_W cs ma (m_r (k_X6_remember o_35) 1 o_55)) := hD
      subst hres
      exact kI_ret hE hS hP hD rfl rfl (Nat.le_of_ble_eq_true rfl) (Nat.le_of_ble_eq_true rfl) dX6_pull_58
    · skip
      have c_38 : ¬ (r_35 = 0) := c_38
      rw [if_neg c_38] at hres
      refine lv_iconst (v := 0) hx hb dX6_pull_41 (by decide) ?_
      subst hres
      exact kI_ret hE hS hP hD rfl rfl (Nat.le_of_ble_eq_true rfl) (Nat.le_of_ble_eq_true rfl) dX6_pull_42
  · skip
    have c_5 : ¬ ((k_X6_isPipe vp) = 0) := c_5
    rw [if_neg c_5] at hres
    refine lv_iload_n hx hb dX6_pull_8 rfl (lv_at hl 2 rfl) ?_
    have hP : va_P D vwCl ([] ++ (md_W cs ma mv)) H := hP
    have hD : va_D A ([] ++ (md_W cs ma mv)) := hD
    have hc_9 := c_X6_isBar l D cs vb
    refine kI_call (wc := []) (wr := (md_W cs ma mv)) (w1 := []) (r := (k_X6_isBar vb)) hE hP hD hS (k_rS (rest := [.ref (ma 0)]) (As := [.int vb]) hE rfl (hc_9 H.size) (va_cwS 1 hts gX6_pull_X6_isBar rfl rfl rfl (by decide +kernel) ⟨Nat.le_of_ble_eq_true rfl, Nat.le_of_ble_eq_true rfl⟩) hP hD hS rfl hl rfl (Nat.le_of_ble_eq_true rfl) ⟨Nat.le_of_ble_eq_true rfl, Nat.le_of_ble_eq_true rfl⟩ dX6_pull_9) (fun H locs hP hD hS => ?_)
    have hP : va_P D vwCl (md_W cs ma mv) H := hP
    have hD : va_D A (md_W cs ma mv) := hD
    refine lv_if_ne (tgt := 19) hx hb dX6_pull_12 (by decide) (fun c_12 => ?_) (fun c_12 => ?_)
    · skip
      have c_12 : ¬ ((k_X6_isBar vb) = 0) := c_12
      rw [if_neg c_12] at hres
      refine lv_aload_n hx hb dX6_pull_19 rfl (lv_at hl 0 rfl) ?_
      refine va_get (D := D) (ci := 6) (v := .ref (ma 2)) (C := RX6) (T := TX6) (N := 11) hx hb hts hinX6 hown hK hP 0 rfl rfl 3 (by decide) lk_0 (fun _ h9 => h9) rfl dX6_pull_20 ?_
      refine lv_iconst (v := 1) hx hb dX6_pull_23 (by decide) ?_
      refine k_iald hx hb hK hP 2 0 (v := ((mv.2 1) 1)) rfl rfl (k_inl rfl) rfl dX6_pull_24 ?_
      refine lv_bipush (v := 12) hx hb dX6_pull_25 (by decide) ?_
      refine lv_icmp_ge (tgt := 34) hx hb dX6_pull_27 (by decide) (fun c_27 => ?_) (fun c_27 => ?_)
      · skip
        have c_27 : (12 ≤ ((mv.2 1) 1)) := c_27
        rw [if_pos c_27] at hres
        refine lv_iconst (v := 2) hx hb dX6_pull_34 (by decide) ?_
        have hP : va_P D vwCl ((md_W cs ma mv) ++ []) H := k_nP hP
        have hD : va_D A ((md_W cs ma mv) ++ []) := k_nD hD
        have hc_35 := c_X6_refused l D cs ma mv 2
        obtain ⟨r_35, o_35, e_35⟩ : ∃ r9 o9, (k_X6_refused mv 2) = (r9, o9) := ⟨_, _, rfl⟩
        rw [e_35] at hc_35 hres
        dsimp only at hc_35 hres
        refine kI_call (wc := (md_W cs ma mv)) (wr := []) (w1 := md_W cs ma o_35) (r := r_35) hE hP hD hS (k_rV (rest := []) (As := [.int 2]) hE rfl (hc_35 H.size) (cwV 1 hts gX6_pull_X6_refused rfl rfl rfl (by decide +kernel) ⟨Nat.le_of_ble_eq_true rfl, Nat.le_of_ble_eq_true rfl⟩) hP hD hS (ci := 6) (q0 := 0) rfl rfl rfl hl rfl (Nat.le_of_ble_eq_true rfl) ⟨Nat.le_of_ble_eq_true rfl, Nat.le_of_ble_eq_true rfl⟩ dX6_pull_35) (fun H locs hP hD hS => ?_)
        have hP := k_uP hP
        have hD := k_uD hD
        have hP : va_P D vwCl (md_W cs ma o_35) H := hP
        have hD : va_D A (md_W cs ma o_35) := hD
        refine lv_if_eq (tgt := 43) hx hb dX6_pull_38 (by decide) (fun c_38 => ?_) (fun c_38 => ?_)
        · skip
          have c_38 : (r_35 = 0) := c_38
          rw [if_pos c_38] at hres
          refine lv_aload_n hx hb dX6_pull_43 rfl (lv_at hl 0 rfl) ?_
          have hP : va_P D vwCl ((md_W cs ma o_35) ++ []) H := k_nP hP
          have hD : va_D A ((md_W cs ma o_35) ++ []) := k_nD hD
          have hc_44 := c_X6_remember l D cs ma o_35  (MO_rf e_35 hM)
          refine kV_call (wc := (md_W cs ma o_35)) (wr := []) (w1 := fun _ => md_W cs ma (k_X6_remember o_35)) hE hP hD hS (k_rV (rest := []) (As := []) hE rfl (hc_44 H.size) (cwV 0 hts gX6_pull_X6_remember rfl rfl rfl (by decide +kernel) ⟨Nat.le_of_ble_eq_true rfl, Nat.le_of_ble_eq_true rfl⟩) hP hD hS (ci := 6) (q0 := 0) rfl rfl rfl hl rfl (Nat.le_of_ble_eq_true rfl) ⟨Nat.le_of_ble_eq_true rfl, Nat.le_of_ble_eq_true rfl⟩ dX6_pull_44) (fun _ H locs _ hP hD hS => ?_)
          have hP := k_uP hP
          have hD := k_uD hD
          have hP : va_P D vwCl (md_W cs ma (k_X6_remember o_35)) H := hP
          have hD : va_D A (md_W cs ma (k_X6_remember o_35)) := hD
          refine lv_aload_n hx hb dX6_pull_47 rfl (lv_at hl 0 rfl) ?_
          refine va_get (D := D) (ci := 6) (v := .ref (ma 2)) (C := RX6) (T := TX6) (N := 11) hx hb hts hinX6 hown hK hP 0 rfl rfl 3 (by decide) lk_0 (fun _ h9 => h9) rfl dX6_pull_48 ?_
          refine lv_iconst (v := 0) hx hb dX6_pull_51 (by decide) ?_
          refine lv_iload_n hx hb dX6_pull_52 rfl (lv_at hl 1 rfl) ?_
          refine lv_iload_n hx hb dX6_pull_53 rfl (lv_at hl 2 rfl) ?_
          refine lv_iconst (v := 0) hx hb dX6_pull_54 (by decide) ?_
          have hP := hP.sub (ws' := (st_W cs (ma 2) ((k_X6_remember o_35).2 1)) ++ (x_pick (md_W cs ma (k_X6_remember o_35)) [0, 1, 3, 4, 5, 6])) [2, 0, 1, 3, 4, 5, 6] rfl
          have hD := hD.sub (ws' := (st_W cs (ma 2) ((k_X6_remember o_35).2 1)) ++ (x_pick (md_W cs ma (k_X6_remember o_35)) [0, 1, 3, 4, 5, 6])) [2, 0, 1, 3, 4, 5, 6] (by decide) rfl
          have hc_55 := c_X6_orderOn l D cs (ma 2) ((k_X6_remember o_35).2 1) 0 vp vb 0 (SI_rr e_35 hM) (by first | exact lt_rr e_35 hM c_27 | exact absurd (rfd_n e_35 c_38) (by decide))
          obtain ⟨r_55, o_55, e_55⟩ : ∃ r9 o9, (k_X6_orderOn ((k_X6_remember o_35).2 1) 0 vp vb 0) = (r9, o9) := ⟨_, _, rfl⟩
          rw [e_55] at hc_55 hres
          dsimp only at hc_55 hres
          refine kI_call (wc := (st_W cs (ma 2) ((k_X6_remember o_35).2 1))) (wr := (x_pick (md_W cs ma (k_X6_remember o_35)) [0, 1, 3, 4, 5, 6])) (w1 := st_W cs (ma 2) o_55) (r := r_55) hE hP hD hS (k_rS (rest := []) (As := [.ref (ma 2), .int 0, .int vp, .int vb, .int 0]) hE rfl (hc_55 H.size) (va_cwS 5 hts gX6_pull_X6_orderOn rfl rfl rfl (by decide +kernel) ⟨Nat.le_of_ble_eq_true rfl, Nat.le_of_ble_eq_true rfl⟩) hP hD hS rfl hl rfl (Nat.le_of_ble_eq_true rfl) ⟨Nat.le_of_ble_eq_true rfl, Nat.le_of_ble_eq_true rfl⟩ dX6_pull_55) (fun H locs hP hD hS => ?_)
          have hP := hP.sub (ws' := md_W cs ma (m_r (k_X6_remember o_35) 1 o_55)) [1, 2, 0, 3, 4, 5, 6] rfl
          have hD := hD.sub (ws' := md_W cs ma (m_r (k_X6_remember o_35) 1 o_55)) [1, 2, 0, 3, 4, 5, 6] (by decide) rfl
          have hP : va_P D vwCl (md_W cs ma (m_r (k_X6_remember o_35) 1 o_55)) H := hP
          have hD : va_D A (md_W cs ma (m_r (k_X6_remember o_35) 1 o_55)) := hD
          subst hres
          exact kI_ret hE hS hP hD rfl rfl (Nat.le_of_ble_eq_true rfl) (Nat.le_of_ble_eq_true rfl) dX6_pull_58
        · skip
          have c_38 : ¬ (r_35 = 0) := c_38
          rw [if_neg c_38] at hres
          refine lv_iconst (v := 0) hx hb dX6_pull_41 (by decide) ?_
          subst hres
          exact kI_ret hE hS hP hD rfl rfl (Nat.le_of_ble_eq_true rfl) (Nat.le_of_ble_eq_true rfl) dX6_pull_42
      · skip
        have c_27 : ¬ (12 ≤ ((mv.2 1) 1)) := c_27
        rw [if_neg c_27] at hres
        refine lv_iconst (v := 0) hx hb dX6_pull_30 (by decide) ?_
        refine lv_goto (tgt := 35) hx hb dX6_pull_31 (by decide) ?_
        have hP : va_P D vwCl ((md_W cs ma mv) ++ []) H := k_nP hP
        have hD : va_D A ((md_W cs ma mv) ++ []) := k_nD hD
        have hc_35 := c_X6_refused l D cs ma mv 0
        obtain ⟨r_35, o_35, e_35⟩ : ∃ r9 o9, (k_X6_refused mv 0) = (r9, o9) := ⟨_, _, rfl⟩
        rw [e_35] at hc_35 hres
        dsimp only at hc_35 hres
        refine kI_call (wc := (md_W cs ma mv)) (wr := []) (w1 := md_W cs ma o_35) (r := r_35) hE hP hD hS (k_rV (rest := []) (As := [.int 0]) hE rfl (hc_35 H.size) (cwV 1 hts gX6_pull_X6_refused rfl rfl rfl (by decide +kernel) ⟨Nat.le_of_ble_eq_true rfl, Nat.le_of_ble_eq_true rfl⟩) hP hD hS (ci := 6) (q0 := 0) rfl rfl rfl hl rfl (Nat.le_of_ble_eq_true rfl) ⟨Nat.le_of_ble_eq_true rfl, Nat.le_of_ble_eq_true rfl⟩ dX6_pull_35) (fun H locs hP hD hS => ?_)
        have hP := k_uP hP
        have hD := k_uD hD
        have hP : va_P D vwCl (md_W cs ma o_35) H := hP
        have hD : va_D A (md_W cs ma o_35) := hD
        refine lv_if_eq (tgt := 43) hx hb dX6_pull_38 (by decide) (fun c_38 => ?_) (fun c_38 => ?_)
        · skip
          have c_38 : (r_35 = 0) := c_38
          rw [if_pos c_38] at hres
          refine lv_aload_n hx hb dX6_pull_43 rfl (lv_at hl 0 rfl) ?_
          have hP : va_P D vwCl ((md_W cs ma o_35) ++ []) H := k_nP hP
          have hD : va_D A ((md_W cs ma o_35) ++ []) := k_nD hD
          have hc_44 := c_X6_remember l D cs ma o_35  (MO_rf e_35 hM)
          refine kV_call (wc := (md_W cs ma o_35)) (wr := []) (w1 := fun _ => md_W cs ma (k_X6_remember o_35)) hE hP hD hS (k_rV (rest := []) (As := []) hE rfl (hc_44 H.size) (cwV 0 hts gX6_pull_X6_remember rfl rfl rfl (by decide +kernel) ⟨Nat.le_of_ble_eq_true rfl, Nat.le_of_ble_eq_true rfl⟩) hP hD hS (ci := 6) (q0 := 0) rfl rfl rfl hl rfl (Nat.le_of_ble_eq_true rfl) ⟨Nat.le_of_ble_eq_true rfl, Nat.le_of_ble_eq_true rfl⟩ dX6_pull_44) (fun _ H locs _ hP hD hS => ?_)
          have hP := k_uP hP
          have hD := k_uD hD
          have hP : va_P D vwCl (md_W cs ma (k_X6_remember o_35)) H := hP
          have hD : va_D A (md_W cs ma (k_X6_remember o_35)) := hD
          refine lv_aload_n hx hb dX6_pull_47 rfl (lv_at hl 0 rfl) ?_
          refine va_get (D := D) (ci := 6) (v := .ref (ma 2)) (C := RX6) (T := TX6) (N := 11) hx hb hts hinX6 hown hK hP 0 rfl rfl 3 (by decide) lk_0 (fun _ h9 => h9) rfl dX6_pull_48 ?_
          refine lv_iconst (v := 0) hx hb dX6_pull_51 (by decide) ?_
          refine lv_iload_n hx hb dX6_pull_52 rfl (lv_at hl 1 rfl) ?_
          refine lv_iload_n hx hb dX6_pull_53 rfl (lv_at hl 2 rfl) ?_
          refine lv_iconst (v := 0) hx hb dX6_pull_54 (by decide) ?_
          have hP := hP.sub (ws' := (st_W cs (ma 2) ((k_X6_remember o_35).2 1)) ++ (x_pick (md_W cs ma (k_X6_remember o_35)) [0, 1, 3, 4, 5, 6])) [2, 0, 1, 3, 4, 5, 6] rfl
          have hD := hD.sub (ws' := (st_W cs (ma 2) ((k_X6_remember o_35).2 1)) ++ (x_pick (md_W cs ma (k_X6_remember o_35)) [0, 1, 3, 4, 5, 6])) [2, 0, 1, 3, 4, 5, 6] (by decide) rfl
          have hc_55 := c_X6_orderOn l D cs (ma 2) ((k_X6_remember o_35).2 1) 0 vp vb 0 (SI_rr e_35 hM) (by first | exact lt_rr e_35 hM c_27 | exact absurd (rfd_n e_35 c_38) (by decide))
          obtain ⟨r_55, o_55, e_55⟩ : ∃ r9 o9, (k_X6_orderOn ((k_X6_remember o_35).2 1) 0 vp vb 0) = (r9, o9) := ⟨_, _, rfl⟩
          rw [e_55] at hc_55 hres
          dsimp only at hc_55 hres
          refine kI_call (wc := (st_W cs (ma 2) ((k_X6_remember o_35).2 1))) (wr := (x_pick (md_W cs ma (k_X6_remember o_35)) [0, 1, 3, 4, 5, 6])) (w1 := st_W cs (ma 2) o_55) (r := r_55) hE hP hD hS (k_rS (rest := []) (As := [.ref (ma 2), .int 0, .int vp, .int vb, .int 0]) hE rfl (hc_55 H.size) (va_cwS 5 hts gX6_pull_X6_orderOn rfl rfl rfl (by decide +kernel) ⟨Nat.le_of_ble_eq_true rfl, Nat.le_of_ble_eq_true rfl⟩) hP hD hS rfl hl rfl (Nat.le_of_ble_eq_true rfl) ⟨Nat.le_of_ble_eq_true rfl, Nat.le_of_ble_eq_true rfl⟩ dX6_pull_55) (fun H locs hP hD hS => ?_)
          have hP := hP.sub (ws' := md_W cs ma (m_r (k_X6_remember o_35) 1 o_55)) [1, 2, 0, 3, 4, 5, 6] rfl
          have hD := hD.sub (ws' := md_W cs ma (m_r (k_X6_remember o_35) 1 o_55)) [1, 2, 0, 3, 4, 5, 6] (by decide) rfl
          have hP : va_P D vwCl (md_W cs ma (m_r (k_X6_remember o_35) 1 o_55)) H := hP
          have hD : va_D A (md_W cs ma (m_r (k_X6_remember o_35) 1 o_55)) := hD
          subst hres
          exact kI_ret hE hS hP hD rfl rfl (Nat.le_of_ble_eq_true rfl) (Nat.le_of_ble_eq_true rfl) dX6_pull_58
        · skip
          have c_38 : ¬ (r_35 = 0) := c_38
          rw [if_neg c_38] at hres
          refine lv_iconst (v := 0) hx hb dX6_pull_41 (by decide) ?_
          subst hres
          exact kI_ret hE hS hP hD rfl rfl (Nat.le_of_ble_eq_true rfl) (Nat.le_of_ble_eq_true rfl) dX6_pull_42
    · skip
      have c_12 : ((k_X6_isBar vb) = 0) := c_12
      rw [if_pos c_12] at hres
      refine lv_iconst (v := 1) hx hb dX6_pull_15 (by decide) ?_
      refine lv_goto (tgt := 35) hx hb dX6_pull_16 (by decide) ?_
      have hP : va_P D vwCl ((md_W cs ma mv) ++ []) H := k_nP hP
      have hD : va_D A ((md_W cs ma mv) ++ []) := k_nD hD
      have hc_35 := c_X6_refused l D cs ma mv 1
      obtain ⟨r_35, o_35, e_35⟩ : ∃ r9 o9, (k_X6_refused mv 1) = (r9, o9) := ⟨_, _, rfl⟩
      rw [e_35] at hc_35 hres
      dsimp only at hc_35 hres
      refine kI_call (wc := (md_W cs ma mv)) (wr := []) (w1 := md_W cs ma o_35) (r := r_35) hE hP hD hS (k_rV (rest := []) (As := [.int 1]) hE rfl (hc_35 H.size) (cwV 1 hts gX6_pull_X6_refused rfl rfl rfl (by decide +kernel) ⟨Nat.le_of_ble_eq_true rfl, Nat.le_of_ble_eq_true rfl⟩) hP hD hS (ci := 6) (q0 := 0) rfl rfl rfl hl rfl (Nat.le_of_ble_eq_true rfl) ⟨Nat.le_of_ble_eq_true rfl, Nat.le_of_ble_eq_true rfl⟩ dX6_pull_35) (fun H locs hP hD hS => ?_)
      have hP := k_uP hP
      have hD := k_uD hD
      have hP : va_P D vwCl (md_W cs ma o_35) H := hP
      have hD : va_D A (md_W cs ma o_35) := hD
      refine lv_if_eq (tgt := 43) hx hb dX6_pull_38 (by decide) (fun c_38 => ?_) (fun c_38 => ?_)
      · skip
        have c_38 : (r_35 = 0) := c_38
        rw [if_pos c_38] at hres
        refine lv_aload_n hx hb dX6_pull_43 rfl (lv_at hl 0 rfl) ?_
        have hP : va_P D vwCl ((md_W cs ma o_35) ++ []) H := k_nP hP
        have hD : va_D A ((md_W cs ma o_35) ++ []) := k_nD hD
        have hc_44 := c_X6_remember l D cs ma o_35  (MO_rf e_35 hM)
        refine kV_call (wc := (md_W cs ma o_35)) (wr := []) (w1 := fun _ => md_W cs ma (k_X6_remember o_35)) hE hP hD hS (k_rV (rest := []) (As := []) hE rfl (hc_44 H.size) (cwV 0 hts gX6_pull_X6_remember rfl rfl rfl (by decide +kernel) ⟨Nat.le_of_ble_eq_true rfl, Nat.le_of_ble_eq_true rfl⟩) hP hD hS (ci := 6) (q0 := 0) rfl rfl rfl hl rfl (Nat.le_of_ble_eq_true rfl) ⟨Nat.le_of_ble_eq_true rfl, Nat.le_of_ble_eq_true rfl⟩ dX6_pull_44) (fun _ H locs _ hP hD hS => ?_)
        have hP := k_uP hP
        have hD := k_uD hD
        have hP : va_P D vwCl (md_W cs ma (k_X6_remember o_35)) H := hP
        have hD : va_D A (md_W cs ma (k_X6_remember o_35)) := hD
        refine lv_aload_n hx hb dX6_pull_47 rfl (lv_at hl 0 rfl) ?_
        refine va_get (D := D) (ci := 6) (v := .ref (ma 2)) (C := RX6) (T := TX6) (N := 11) hx hb hts hinX6 hown hK hP 0 rfl rfl 3 (by decide) lk_0 (fun _ h9 => h9) rfl dX6_pull_48 ?_
        refine lv_iconst (v := 0) hx hb dX6_pull_51 (by decide) ?_
        refine lv_iload_n hx hb dX6_pull_52 rfl (lv_at hl 1 rfl) ?_
        refine lv_iload_n hx hb dX6_pull_53 rfl (lv_at hl 2 rfl) ?_
        refine lv_iconst (v := 0) hx hb dX6_pull_54 (by decide) ?_
        have hP := hP.sub (ws' := (st_W cs (ma 2) ((k_X6_remember o_35).2 1)) ++ (x_pick (md_W cs ma (k_X6_remember o_35)) [0, 1, 3, 4, 5, 6])) [2, 0, 1, 3, 4, 5, 6] rfl
        have hD := hD.sub (ws' := (st_W cs (ma 2) ((k_X6_remember o_35).2 1)) ++ (x_pick (md_W cs ma (k_X6_remember o_35)) [0, 1, 3, 4, 5, 6])) [2, 0, 1, 3, 4, 5, 6] (by decide) rfl
        have hc_55 := c_X6_orderOn l D cs (ma 2) ((k_X6_remember o_35).2 1) 0 vp vb 0 (SI_rr e_35 hM) (by first | exact lt_rr e_35 hM c_27 | exact absurd (rfd_n e_35 c_38) (by decide))
        obtain ⟨r_55, o_55, e_55⟩ : ∃ r9 o9, (k_X6_orderOn ((k_X6_remember o_35).2 1) 0 vp vb 0) = (r9, o9) := ⟨_, _, rfl⟩
        rw [e_55] at hc_55 hres
        dsimp only at hc_55 hres
        refine kI_call (wc := (st_W cs (ma 2) ((k_X6_remember o_35).2 1))) (wr := (x_pick (md_W cs ma (k_X6_remember o_35)) [0, 1, 3, 4, 5, 6])) (w1 := st_W cs (ma 2) o_55) (r := r_55) hE hP hD hS (k_rS (rest := []) (As := [.ref (ma 2), .int 0, .int vp, .int vb, .int 0]) hE rfl (hc_55 H.size) (va_cwS 5 hts gX6_pull_X6_orderOn rfl rfl rfl (by decide +kernel) ⟨Nat.le_of_ble_eq_true rfl, Nat.le_of_ble_eq_true rfl⟩) hP hD hS rfl hl rfl (Nat.le_of_ble_eq_true rfl) ⟨Nat.le_of_ble_eq_true rfl, Nat.le_of_ble_eq_true rfl⟩ dX6_pull_55) (fun H locs hP hD hS => ?_)
        have hP := hP.sub (ws' := md_W cs ma (m_r (k_X6_remember o_35) 1 o_55)) [1, 2, 0, 3, 4, 5, 6] rfl
        have hD := hD.sub (ws' := md_W cs ma (m_r (k_X6_remember o_35) 1 o_55)) [1, 2, 0, 3, 4, 5, 6] (by decide) rfl
        have hP : va_P D vwCl (md_W cs ma (m_r (k_X6_remember o_35) 1 o_55)) H := hP
        have hD : va_D A (md_W cs ma (m_r (k_X6_remember o_35) 1 o_55)) := hD
        subst hres
        exact kI_ret hE hS hP hD rfl rfl (Nat.le_of_ble_eq_true rfl) (Nat.le_of_ble_eq_true rfl) dX6_pull_58
      · skip
        have c_38 : ¬ (r_35 = 0) := c_38
        rw [if_neg c_38] at hres
        refine lv_iconst (v := 0) hx hb dX6_pull_41 (by decide) ?_
        subst hres
        exact kI_ret hE hS hP hD rfl rfl (Nat.le_of_ble_eq_true rfl) (Nat.le_of_ble_eq_true rfl) dX6_pull_42
set_option maxHeartbeats 4000000 in
set_option maxRecDepth 100000 in
theorem c_X6_cancel (l : Launch) (D : va_G) (cs : Nat → ClassId) (ma : Nat → Nat) (mv : MV) (vk : Int32) (hM : MO mv) : kI l yX6_cancel wsX6_cancel { frames := 2, cells := 0, slots := 0, locals := 46 } 0 0 D cs [.ref (ma 0), .int vk] (md_W cs ma mv) (k_X6_cancel mv vk).1 (md_W cs ma ((k_X6_cancel mv vk).2)) := by
  generalize hres : k_X6_cancel mv vk = res
  refine kI_of (cc := cX6_cancel) (maxL := 2) (ret := (some .int)) (by decide) rfl (Nat.le_of_ble_eq_true rfl) ?_
  intro p e s m below meth c A ls H locs hE hS hP hD hl
  obtain ⟨hx, hb, hr, hlocks, hml, hown, hts, hK, hA, hG, hnm⟩ := id hE
  have hown : s.vm.findClass RX6 = some m.cls := hown
  have hl : lv_has ls 2 [(0, .ref (ma 0)), (1, .int vk)] := hl
  have hinX6 : ∀ w ∈ wsX60, w ∈ wsX6_cancel := by decide +kernel
  have lk_0 := hts (.fieldLink RX6 13 "OrganPegsModel" "now" "[I") (by decide +kernel)
  unfold k_X6_cancel at hres
  refine lv_aload_n hx hb dX6_cancel_0 rfl (lv_at hl 0 rfl) ?_
  refine lv_aload_n hx hb dX6_cancel_1 rfl (lv_at hl 0 rfl) ?_
  refine va_get (D := D) (ci := 6) (v := .ref (ma 2)) (C := RX6) (T := TX6) (N := 11) hx hb hts hinX6 hown hK hP 0 rfl rfl 3 (by decide) lk_0 (fun _ h9 => h9) rfl dX6_cancel_2 ?_
  refine lv_iload_n hx hb dX6_cancel_5 rfl (lv_at hl 1 rfl) ?_
  have hP := hP.sub (ws' := (st_W cs (ma 2) (mv.2 1)) ++ (x_pick (md_W cs ma mv) [0, 1, 3, 4, 5, 6])) [2, 0, 1, 3, 4, 5, 6] rfl
  have hD := hD.sub (ws' := (st_W cs (ma 2) (mv.2 1)) ++ (x_pick (md_W cs ma mv) [0, 1, 3, 4, 5, 6])) [2, 0, 1, 3, 4, 5, 6] (by decide) rfl
  have hc_6 := c_X6_isOrder l D cs (ma 2) (mv.2 1) vk
  refine kI_call (wc := (st_W cs (ma 2) (mv.2 1))) (wr := (x_pick (md_W cs ma mv) [0, 1, 3, 4, 5, 6])) (w1 := (st_W cs (ma 2) (mv.2 1))) (r := (k_X6_isOrder (mv.2 1) vk)) hE hP hD hS (k_rS (rest := [.ref (ma 0)]) (As := [.ref (ma 2), .int vk]) hE rfl (hc_6 H.size) (va_cwS 2 hts gX6_cancel_X6_isOrder rfl rfl rfl (by decide +kernel) ⟨Nat.le_of_ble_eq_true rfl, Nat.le_of_ble_eq_true rfl⟩) hP hD hS rfl hl rfl (Nat.le_of_ble_eq_true rfl) ⟨Nat.le_of_ble_eq_true rfl, Nat.le_of_ble_eq_true rfl⟩ dX6_cancel_6) (fun H locs hP hD hS => ?_)
  have hP := hP.sub (ws' := md_W cs ma mv) [1, 2, 0, 3, 4, 5, 6] rfl
  have hD := hD.sub (ws' := md_W cs ma mv) [1, 2, 0, 3, 4, 5, 6] (by decide) rfl
  have hP : va_P D vwCl (md_W cs ma mv) H := hP
  have hD : va_D A (md_W cs ma mv) := hD
  refine lv_if_eq (tgt := 16) hx hb dX6_cancel_9 (by decide) (fun c_9 => ?_) (fun c_9 => ?_)
  · skip
    have c_9 : ((k_X6_isOrder (mv.2 1) vk) = 0) := c_9
    rw [if_pos c_9] at hres
    refine lv_iconst (v := 1) hx hb dX6_cancel_16 (by decide) ?_
    have hP : va_P D vwCl ((md_W cs ma mv) ++ []) H := k_nP hP
    have hD : va_D A ((md_W cs ma mv) ++ []) := k_nD hD
    have hc_17 := c_X6_refused l D cs ma mv 1
    obtain ⟨r_17, o_17, e_17⟩ : ∃ r9 o9, (k_X6_refused mv 1) = (r9, o9) := ⟨_, _, rfl⟩
    rw [e_17] at hc_17 hres
    dsimp only at hc_17 hres
    refine kI_call (wc := (md_W cs ma mv)) (wr := []) (w1 := md_W cs ma o_17) (r := r_17) hE hP hD hS (k_rV (rest := []) (As := [.int 1]) hE rfl (hc_17 H.size) (cwV 1 hts gX6_cancel_X6_refused rfl rfl rfl (by decide +kernel) ⟨Nat.le_of_ble_eq_true rfl, Nat.le_of_ble_eq_true rfl⟩) hP hD hS (ci := 6) (q0 := 0) rfl rfl rfl hl rfl (Nat.le_of_ble_eq_true rfl) ⟨Nat.le_of_ble_eq_true rfl, Nat.le_of_ble_eq_true rfl⟩ dX6_cancel_17) (fun H locs hP hD hS => ?_)
    have hP := k_uP hP
    have hD := k_uD hD
    have hP : va_P D vwCl (md_W cs ma o_17) H := hP
    have hD : va_D A (md_W cs ma o_17) := hD
    refine lv_if_eq (tgt := 25) hx hb dX6_cancel_20 (by decide) (fun c_20 => ?_) (fun c_20 => ?_)
    · skip
      have c_20 : (r_17 = 0) := c_20
      rw [if_pos c_20] at hres
      refine lv_aload_n hx hb dX6_cancel_25 rfl (lv_at hl 0 rfl) ?_
      have hP : va_P D vwCl ((md_W cs ma o_17) ++ []) H := k_nP hP
      have hD : va_D A ((md_W cs ma o_17) ++ []) := k_nD hD
      have hc_26 := c_X6_remember l D cs ma o_17  (MO_rf e_17 hM)
      refine kV_call (wc := (md_W cs ma o_17)) (wr := []) (w1 := fun _ => md_W cs ma (k_X6_remember o_17)) hE hP hD hS (k_rV (rest := []) (As := []) hE rfl (hc_26 H.size) (cwV 0 hts gX6_cancel_X6_remember rfl rfl rfl (by decide +kernel) ⟨Nat.le_of_ble_eq_true rfl, Nat.le_of_ble_eq_true rfl⟩) hP hD hS (ci := 6) (q0 := 0) rfl rfl rfl hl rfl (Nat.le_of_ble_eq_true rfl) ⟨Nat.le_of_ble_eq_true rfl, Nat.le_of_ble_eq_true rfl⟩ dX6_cancel_26) (fun _ H locs _ hP hD hS => ?_)
      have hP := k_uP hP
      have hD := k_uD hD
      have hP : va_P D vwCl (md_W cs ma (k_X6_remember o_17)) H := hP
      have hD : va_D A (md_W cs ma (k_X6_remember o_17)) := hD
      refine lv_aload_n hx hb dX6_cancel_29 rfl (lv_at hl 0 rfl) ?_
      refine va_get (D := D) (ci := 6) (v := .ref (ma 2)) (C := RX6) (T := TX6) (N := 11) hx hb hts hinX6 hown hK hP 0 rfl rfl 3 (by decide) lk_0 (fun _ h9 => h9) rfl dX6_cancel_30 ?_
      refine lv_iload_n hx hb dX6_cancel_33 rfl (lv_at hl 1 rfl) ?_
      have hP := hP.sub (ws' := (st_W cs (ma 2) ((k_X6_remember o_17).2 1)) ++ (x_pick (md_W cs ma (k_X6_remember o_17)) [0, 1, 3, 4, 5, 6])) [2, 0, 1, 3, 4, 5, 6] rfl
      have hD := hD.sub (ws' := (st_W cs (ma 2) ((k_X6_remember o_17).2 1)) ++ (x_pick (md_W cs ma (k_X6_remember o_17)) [0, 1, 3, 4, 5, 6])) [2, 0, 1, 3, 4, 5, 6] (by decide) rfl
      have hc_34 := c_X6_cancelOn l D cs (ma 2) ((k_X6_remember o_17).2 1) vk (SI_rr e_17 hM) (by first | exact ok_rr e_17 hM c_9 | exact absurd (rfd_n e_17 c_20) (by decide))
      obtain ⟨r_34, o_34, e_34⟩ : ∃ r9 o9, (k_X6_cancelOn ((k_X6_remember o_17).2 1) vk) = (r9, o9) := ⟨_, _, rfl⟩
      rw [e_34] at hc_34 hres
      dsimp only at hc_34 hres
      refine kI_call (wc := (st_W cs (ma 2) ((k_X6_remember o_17).2 1))) (wr := (x_pick (md_W cs ma (k_X6_remember o_17)) [0, 1, 3, 4, 5, 6])) (w1 := st_W cs (ma 2) o_34) (r := r_34) hE hP hD hS (k_rS (rest := []) (As := [.ref (ma 2), .int vk]) hE rfl (hc_34 H.size) (va_cwS 2 hts gX6_cancel_X6_cancelOn rfl rfl rfl (by decide +kernel) ⟨Nat.le_of_ble_eq_true rfl, Nat.le_of_ble_eq_true rfl⟩) hP hD hS rfl hl rfl (Nat.le_of_ble_eq_true rfl) ⟨Nat.le_of_ble_eq_true rfl, Nat.le_of_ble_eq_true rfl⟩ dX6_cancel_34) (fun H locs hP hD hS => ?_)
      have hP := hP.sub (ws' := md_W cs ma (m_r (k_X6_remember o_17) 1 o_34)) [1, 2, 0, 3, 4, 5, 6] rfl
      have hD := hD.sub (ws' := md_W cs ma (m_r (k_X6_remember o_17) 1 o_34)) [1, 2, 0, 3, 4, 5, 6] (by decide) rfl
      have hP : va_P D vwCl (md_W cs ma (m_r (k_X6_remember o_17) 1 o_34)) H := hP
      have hD : va_D A (md_W cs ma (m_r (k_X6_remember o_17) 1 o_34)) := hD
      subst hres
      exact kI_ret hE hS hP hD rfl rfl (Nat.le_of_ble_eq_true rfl) (Nat.le_of_ble_eq_true rfl) dX6_cancel_37
    · skip
      have c_20 : ¬ (r_17 = 0) := c_20
      rw [if_neg c_20] at hres
      refine lv_iconst (v := 0) hx hb dX6_cancel_23 (by decide) ?_
      subst hres
      exact kI_ret hE hS hP hD rfl rfl (Nat.le_of_ble_eq_true rfl) (Nat.le_of_ble_eq_true rfl) dX6_cancel_24
  · skip
    have c_9 : ¬ ((k_X6_isOrder (mv.2 1) vk) = 0) := c_9
    rw [if_neg c_9] at hres
    refine lv_iconst (v := 0) hx hb dX6_cancel_12 (by decide) ?_
    refine lv_goto (tgt := 17) hx hb dX6_cancel_13 (by decide) ?_
    have hP : va_P D vwCl ((md_W cs ma mv) ++ []) H := k_nP hP
    have hD : va_D A ((md_W cs ma mv) ++ []) := k_nD hD
    have hc_17 := c_X6_refused l D cs ma mv 0
    obtain ⟨r_17, o_17, e_17⟩ : ∃ r9 o9, (k_X6_refused mv 0) = (r9, o9) := ⟨_, _, rfl⟩
    rw [e_17] at hc_17 hres
    dsimp only at hc_17 hres
    refine kI_call (wc := (md_W cs ma mv)) (wr := []) (w1 := md_W cs ma o_17) (r := r_17) hE hP hD hS (k_rV (rest := []) (As := [.int 0]) hE rfl (hc_17 H.size) (cwV 1 hts gX6_cancel_X6_refused rfl rfl rfl (by decide +kernel) ⟨Nat.le_of_ble_eq_true rfl, Nat.le_of_ble_eq_true rfl⟩) hP hD hS (ci := 6) (q0 := 0) rfl rfl rfl hl rfl (Nat.le_of_ble_eq_true rfl) ⟨Nat.le_of_ble_eq_true rfl, Nat.le_of_ble_eq_true rfl⟩ dX6_cancel_17) (fun H locs hP hD hS => ?_)
    have hP := k_uP hP
    have hD := k_uD hD
    have hP : va_P D vwCl (md_W cs ma o_17) H := hP
    have hD : va_D A (md_W cs ma o_17) := hD
    refine lv_if_eq (tgt := 25) hx hb dX6_cancel_20 (by decide) (fun c_20 => ?_) (fun c_20 => ?_)
    · skip
      have c_20 : (r_17 = 0) := c_20
      rw [if_pos c_20] at hres
      refine lv_aload_n hx hb dX6_cancel_25 rfl (lv_at hl 0 rfl) ?_
      have hP : va_P D vwCl ((md_W cs ma o_17) ++ []) H := k_nP hP
      have hD : va_D A ((md_W cs ma o_17) ++ []) := k_nD hD
      have hc_26 := c_X6_remember l D cs ma o_17  (MO_rf e_17 hM)
      refine kV_call (wc := (md_W cs ma o_17)) (wr := []) (w1 := fun _ => md_W cs ma (k_X6_remember o_17)) hE hP hD hS (k_rV (rest := []) (As := []) hE rfl (hc_26 H.size) (cwV 0 hts gX6_cancel_X6_remember rfl rfl rfl (by decide +kernel) ⟨Nat.le_of_ble_eq_true rfl, Nat.le_of_ble_eq_true rfl⟩) hP hD hS (ci := 6) (q0 := 0) rfl rfl rfl hl rfl (Nat.le_of_ble_eq_true rfl) ⟨Nat.le_of_ble_eq_true rfl, Nat.le_of_ble_eq_true rfl⟩ dX6_cancel_26) (fun _ H locs _ hP hD hS => ?_)
      have hP := k_uP hP
      have hD := k_uD hD
      have hP : va_P D vwCl (md_W cs ma (k_X6_remember o_17)) H := hP
      have hD : va_D A (md_W cs ma (k_X6_remember o_17)) := hD
      refine lv_aload_n hx hb dX6_cancel_29 rfl (lv_at hl 0 rfl) ?_
      refine va_get (D := D) (ci := 6) (v := .ref (ma 2)) (C := RX6) (T := TX6) (N := 11) hx hb hts hinX6 hown hK hP 0 rfl rfl 3 (by decide) lk_0 (fun _ h9 => h9) rfl dX6_cancel_30 ?_
      refine lv_iload_n hx hb dX6_cancel_33 rfl (lv_at hl 1 rfl) ?_
      have hP := hP.sub (ws' := (st_W cs (ma 2) ((k_X6_remember o_17).2 1)) ++ (x_pick (md_W cs ma (k_X6_remember o_17)) [0, 1, 3, 4, 5, 6])) [2, 0, 1, 3, 4, 5, 6] rfl
      have hD := hD.sub (ws' := (st_W cs (ma 2) ((k_X6_remember o_17).2 1)) ++ (x_pick (md_W cs ma (k_X6_remember o_17)) [0, 1, 3, 4, 5, 6])) [2, 0, 1, 3, 4, 5, 6] (by decide) rfl
      have hc_34 := c_X6_cancelOn l D cs (ma 2) ((k_X6_remember o_17).2 1) vk (SI_rr e_17 hM) (by first | exact ok_rr e_17 hM c_9 | exact absurd (rfd_n e_17 c_20) (by decide))
      obtain ⟨r_34, o_34, e_34⟩ : ∃ r9 o9, (k_X6_cancelOn ((k_X6_remember o_17).2 1) vk) = (r9, o9) := ⟨_, _, rfl⟩
      rw [e_34] at hc_34 hres
      dsimp only at hc_34 hres
      refine kI_call (wc := (st_W cs (ma 2) ((k_X6_remember o_17).2 1))) (wr := (x_pick (md_W cs ma (k_X6_remember o_17)) [0, 1, 3, 4, 5, 6])) (w1 := st_W cs (ma 2) o_34) (r := r_34) hE hP hD hS (k_rS (rest := []) (As := [.ref (ma 2), .int vk]) hE rfl (hc_34 H.size) (va_cwS 2 hts gX6_cancel_X6_cancelOn rfl rfl rfl (by decide +kernel) ⟨Nat.le_of_ble_eq_true rfl, Nat.le_of_ble_eq_true rfl⟩) hP hD hS rfl hl rfl (Nat.le_of_ble_eq_true rfl) ⟨Nat.le_of_ble_eq_true rfl, Nat.le_of_ble_eq_true rfl⟩ dX6_cancel_34) (fun H locs hP hD hS => ?_)
      have hP := hP.sub (ws' := md_W cs ma (m_r (k_X6_remember o_17) 1 o_34)) [1, 2, 0, 3, 4, 5, 6] rfl
      have hD := hD.sub (ws' := md_W cs ma (m_r (k_X6_remember o_17) 1 o_34)) [1, 2, 0, 3, 4, 5, 6] (by decide) rfl
      have hP : va_P D vwCl (md_W cs ma (m_r (k_X6_remember o_17) 1 o_34)) H := hP
      have hD : va_D A (md_W cs ma (m_r (k_X6_remember o_17) 1 o_34)) := hD
      subst hres
      exact kI_ret hE hS hP hD rfl rfl (Nat.le_of_ble_eq_true rfl) (Nat.le_of_ble_eq_true rfl) dX6_cancel_37
    · skip
      have c_20 : ¬ (r_17 = 0) := c_20
      rw [if_neg c_20] at hres
      refine lv_iconst (v := 0) hx hb dX6_cancel_23 (by decide) ?_
      subst hres
      exact kI_ret hE hS hP hD rfl rfl (Nat.le_of_ble_eq_true rfl) (Nat.le_of_ble_eq_true rfl) dX6_cancel_24
set_option maxHeartbeats 4000000 in
set_option maxRecDepth 100000 in
theorem c_X6_ticks (l : Launch) (D : va_G) (cs : Nat → ClassId) (ma : Nat → Nat) (mv : MV) (vk : Int32) (hM : MO mv) : kI l yX6_ticks wsX6_ticks { frames := 7, cells := 0, slots := 0, locals := 159 } 0 0 D cs [.ref (ma 0), .int vk] (md_W cs ma mv) (k_X6_ticks mv vk).1 (md_W cs ma ((k_X6_ticks mv vk).2)) := by
  generalize hres : k_X6_ticks mv vk = res
  refine kI_of (cc := cX6_ticks) (maxL := 2) (ret := (some .int)) (by decide) rfl (Nat.le_of_ble_eq_true rfl) ?_
  intro p e s m below meth c A ls H locs hE hS hP hD hl
  obtain ⟨hx, hb, hr, hlocks, hml, hown, hts, hK, hA, hG, hnm⟩ := id hE
  have hown : s.vm.findClass RX6 = some m.cls := hown
  have hl : lv_has ls 2 [(0, .ref (ma 0)), (1, .int vk)] := hl
  have hinX6 : ∀ w ∈ wsX60, w ∈ wsX6_ticks := by decide +kernel
  have lk_0 := hts (.constantLong RX6 191 99) (by decide +kernel)
  have lk_1 := hts (.fieldLink RX6 13 "OrganPegsModel" "now" "[I") (by decide +kernel)
  unfold k_X6_ticks at hres
  refine lv_aload_n hx hb dX6_ticks_0 rfl (lv_at hl 0 rfl) ?_
  refine lv_iload_n hx hb dX6_ticks_1 rfl (lv_at hl 1 rfl) ?_
  refine lv_i2l hx hb dX6_ticks_2 rfl ?_
  refine lv_lconst (v := 1) hx hb dX6_ticks_3 (by decide) ?_
  refine lv_ldc2 (v := 99) hx hb hown lk_0 dX6_ticks_4 ?_
  have hP : va_P D vwCl ([] ++ (md_W cs ma mv)) H := hP
  have hD : va_D A ([] ++ (md_W cs ma mv)) := hD
  have hc_7 := c_X6_in l D cs (vk.toInt64) 1 99
  refine kI_call (wc := []) (wr := (md_W cs ma mv)) (w1 := []) (r := (k_X6_in (vk.toInt64) 1 99)) hE hP hD hS (k_rS (rest := [.ref (ma 0)]) (As := [.long (vk.toInt64), .long 1, .long 99]) hE rfl (hc_7 H.size) (va_cwS 3 hts gX6_ticks_X6_in rfl rfl rfl (by decide +kernel) ⟨Nat.le_of_ble_eq_true rfl, Nat.le_of_ble_eq_true rfl⟩) hP hD hS rfl hl rfl (Nat.le_of_ble_eq_true rfl) ⟨Nat.le_of_ble_eq_true rfl, Nat.le_of_ble_eq_true rfl⟩ dX6_ticks_7) (fun H locs hP hD hS => ?_)
  have hP : va_P D vwCl (md_W cs ma mv) H := hP
  have hD : va_D A (md_W cs ma mv) := hD
  refine lv_if_eq (tgt := 17) hx hb dX6_ticks_10 (by decide) (fun c_10 => ?_) (fun c_10 => ?_)
  · skip
    have c_10 : ((k_X6_in (vk.toInt64) 1 99) = 0) := c_10
    rw [if_pos c_10] at hres
    refine lv_iconst (v := 1) hx hb dX6_ticks_17 (by decide) ?_
    have hP : va_P D vwCl ((md_W cs ma mv) ++ []) H := k_nP hP
    have hD : va_D A ((md_W cs ma mv) ++ []) := k_nD hD
    have hc_18 := c_X6_refused l D cs ma mv 1
    obtain ⟨r_18, o_18, e_18⟩ : ∃ r9 o9, (k_X6_refused mv 1) = (r9, o9) := ⟨_, _, rfl⟩
    rw [e_18] at hc_18 hres
    dsimp only at hc_18 hres
    refine kI_call (wc := (md_W cs ma mv)) (wr := []) (w1 := md_W cs ma o_18) (r := r_18) hE hP hD hS (k_rV (rest := []) (As := [.int 1]) hE rfl (hc_18 H.size) (cwV 1 hts gX6_ticks_X6_refused rfl rfl rfl (by decide +kernel) ⟨Nat.le_of_ble_eq_true rfl, Nat.le_of_ble_eq_true rfl⟩) hP hD hS (ci := 6) (q0 := 0) rfl rfl rfl hl rfl (Nat.le_of_ble_eq_true rfl) ⟨Nat.le_of_ble_eq_true rfl, Nat.le_of_ble_eq_true rfl⟩ dX6_ticks_18) (fun H locs hP hD hS => ?_)
    have hP := k_uP hP
    have hD := k_uD hD
    have hP : va_P D vwCl (md_W cs ma o_18) H := hP
    have hD : va_D A (md_W cs ma o_18) := hD
    refine lv_if_eq (tgt := 26) hx hb dX6_ticks_21 (by decide) (fun c_21 => ?_) (fun c_21 => ?_)
    · skip
      have c_21 : (r_18 = 0) := c_21
      rw [if_pos c_21] at hres
      refine lv_aload_n hx hb dX6_ticks_26 rfl (lv_at hl 0 rfl) ?_
      have hP : va_P D vwCl ((md_W cs ma o_18) ++ []) H := k_nP hP
      have hD : va_D A ((md_W cs ma o_18) ++ []) := k_nD hD
      have hc_27 := c_X6_remember l D cs ma o_18  (MO_rf e_18 hM)
      refine kV_call (wc := (md_W cs ma o_18)) (wr := []) (w1 := fun _ => md_W cs ma (k_X6_remember o_18)) hE hP hD hS (k_rV (rest := []) (As := []) hE rfl (hc_27 H.size) (cwV 0 hts gX6_ticks_X6_remember rfl rfl rfl (by decide +kernel) ⟨Nat.le_of_ble_eq_true rfl, Nat.le_of_ble_eq_true rfl⟩) hP hD hS (ci := 6) (q0 := 0) rfl rfl rfl hl rfl (Nat.le_of_ble_eq_true rfl) ⟨Nat.le_of_ble_eq_true rfl, Nat.le_of_ble_eq_true rfl⟩ dX6_ticks_27) (fun _ H locs _ hP hD hS => ?_)
      have hP := k_uP hP
      have hD := k_uD hD
      have hP : va_P D vwCl (md_W cs ma (k_X6_remember o_18)) H := hP
      have hD : va_D A (md_W cs ma (k_X6_remember o_18)) := hD
      refine lv_aload_n hx hb dX6_ticks_30 rfl (lv_at hl 0 rfl) ?_
      refine va_get (D := D) (ci := 6) (v := .ref (ma 2)) (C := RX6) (T := TX6) (N := 11) hx hb hts hinX6 hown hK hP 0 rfl rfl 3 (by decide) lk_1 (fun _ h9 => h9) rfl dX6_ticks_31 ?_
      refine lv_iload_n hx hb dX6_ticks_34 rfl (lv_at hl 1 rfl) ?_
      have hP := hP.sub (ws' := (st_W cs (ma 2) ((k_X6_remember o_18).2 1)) ++ (x_pick (md_W cs ma (k_X6_remember o_18)) [0, 1, 3, 4, 5, 6])) [2, 0, 1, 3, 4, 5, 6] rfl
      have hD := hD.sub (ws' := (st_W cs (ma 2) ((k_X6_remember o_18).2 1)) ++ (x_pick (md_W cs ma (k_X6_remember o_18)) [0, 1, 3, 4, 5, 6])) [2, 0, 1, 3, 4, 5, 6] (by decide) rfl
      have hc_35 := c_X6_ticksOn l D cs (ma 2) ((k_X6_remember o_18).2 1) vk (SI_rr e_18 hM) (by first | exact (in_n (A := 1) (B := 99) rfl rfl c_10).2 | exact absurd (rfd_n e_18 c_21) (by decide))
      obtain ⟨r_35, o_35, e_35⟩ : ∃ r9 o9, (k_X6_ticksOn ((k_X6_remember o_18).2 1) vk) = (r9, o9) := ⟨_, _, rfl⟩
      rw [e_35] at hc_35 hres
      dsimp only at hc_35 hres
      refine kI_call (wc := (st_W cs (ma 2) ((k_X6_remember o_18).2 1))) (wr := (x_pick (md_W cs ma (k_X6_remember o_18)) [0, 1, 3, 4, 5, 6])) (w1 := st_W cs (ma 2) o_35) (r := r_35) hE hP hD hS (k_rS (rest := []) (As := [.ref (ma 2), .int vk]) hE rfl (hc_35 H.size) (va_cwS 2 hts gX6_ticks_X6_ticksOn rfl rfl rfl (by decide +kernel) ⟨Nat.le_of_ble_eq_true rfl, Nat.le_of_ble_eq_true rfl⟩) hP hD hS rfl hl rfl (Nat.le_of_ble_eq_true rfl) ⟨Nat.le_of_ble_eq_true rfl, Nat.le_of_ble_eq_true rfl⟩ dX6_ticks_35) (fun H locs hP hD hS => ?_)
      have hP := hP.sub (ws' := md_W cs ma (m_r (k_X6_remember o_18) 1 o_35)) [1, 2, 0, 3, 4, 5, 6] rfl
      have hD := hD.sub (ws' := md_W cs ma (m_r (k_X6_remember o_18) 1 o_35)) [1, 2, 0, 3, 4, 5, 6] (by decide) rfl
      have hP : va_P D vwCl (md_W cs ma (m_r (k_X6_remember o_18) 1 o_35)) H := hP
      have hD : va_D A (md_W cs ma (m_r (k_X6_remember o_18) 1 o_35)) := hD
      subst hres
      exact kI_ret hE hS hP hD rfl rfl (Nat.le_of_ble_eq_true rfl) (Nat.le_of_ble_eq_true rfl) dX6_ticks_38
    · skip
      have c_21 : ¬ (r_18 = 0) := c_21
      rw [if_neg c_21] at hres
      refine lv_iconst (v := 0) hx hb dX6_ticks_24 (by decide) ?_
      subst hres
      exact kI_ret hE hS hP hD rfl rfl (Nat.le_of_ble_eq_true rfl) (Nat.le_of_ble_eq_true rfl) dX6_ticks_25
  · skip
    have c_10 : ¬ ((k_X6_in (vk.toInt64) 1 99) = 0) := c_10
    rw [if_neg c_10] at hres
    refine lv_iconst (v := 0) hx hb dX6_ticks_13 (by decide) ?_
    refine lv_goto (tgt := 18) hx hb dX6_ticks_14 (by decide) ?_
    have hP : va_P D vwCl ((md_W cs ma mv) ++ []) H := k_nP hP
    have hD : va_D A ((md_W cs ma mv) ++ []) := k_nD hD
    have hc_18 := c_X6_refused l D cs ma mv 0
    obtain ⟨r_18, o_18, e_18⟩ : ∃ r9 o9, (k_X6_refused mv 0) = (r9, o9) := ⟨_, _, rfl⟩
    rw [e_18] at hc_18 hres
    dsimp only at hc_18 hres
    refine kI_call (wc := (md_W cs ma mv)) (wr := []) (w1 := md_W cs ma o_18) (r := r_18) hE hP hD hS (k_rV (rest := []) (As := [.int 0]) hE rfl (hc_18 H.size) (cwV 1 hts gX6_ticks_X6_refused rfl rfl rfl (by decide +kernel) ⟨Nat.le_of_ble_eq_true rfl, Nat.le_of_ble_eq_true rfl⟩) hP hD hS (ci := 6) (q0 := 0) rfl rfl rfl hl rfl (Nat.le_of_ble_eq_true rfl) ⟨Nat.le_of_ble_eq_true rfl, Nat.le_of_ble_eq_true rfl⟩ dX6_ticks_18) (fun H locs hP hD hS => ?_)
    have hP := k_uP hP
    have hD := k_uD hD
    have hP : va_P D vwCl (md_W cs ma o_18) H := hP
    have hD : va_D A (md_W cs ma o_18) := hD
    refine lv_if_eq (tgt := 26) hx hb dX6_ticks_21 (by decide) (fun c_21 => ?_) (fun c_21 => ?_)
    · skip
      have c_21 : (r_18 = 0) := c_21
      rw [if_pos c_21] at hres
      refine lv_aload_n hx hb dX6_ticks_26 rfl (lv_at hl 0 rfl) ?_
      have hP : va_P D vwCl ((md_W cs ma o_18) ++ []) H := k_nP hP
      have hD : va_D A ((md_W cs ma o_18) ++ []) := k_nD hD
      have hc_27 := c_X6_remember l D cs ma o_18  (MO_rf e_18 hM)
      refine kV_call (wc := (md_W cs ma o_18)) (wr := []) (w1 := fun _ => md_W cs ma (k_X6_remember o_18)) hE hP hD hS (k_rV (rest := []) (As := []) hE rfl (hc_27 H.size) (cwV 0 hts gX6_ticks_X6_remember rfl rfl rfl (by decide +kernel) ⟨Nat.le_of_ble_eq_true rfl, Nat.le_of_ble_eq_true rfl⟩) hP hD hS (ci := 6) (q0 := 0) rfl rfl rfl hl rfl (Nat.le_of_ble_eq_true rfl) ⟨Nat.le_of_ble_eq_true rfl, Nat.le_of_ble_eq_true rfl⟩ dX6_ticks_27) (fun _ H locs _ hP hD hS => ?_)
      have hP := k_uP hP
      have hD := k_uD hD
      have hP : va_P D vwCl (md_W cs ma (k_X6_remember o_18)) H := hP
      have hD : va_D A (md_W cs ma (k_X6_remember o_18)) := hD
      refine lv_aload_n hx hb dX6_ticks_30 rfl (lv_at hl 0 rfl) ?_
      refine va_get (D := D) (ci := 6) (v := .ref (ma 2)) (C := RX6) (T := TX6) (N := 11) hx hb hts hinX6 hown hK hP 0 rfl rfl 3 (by decide) lk_1 (fun _ h9 => h9) rfl dX6_ticks_31 ?_
      refine lv_iload_n hx hb dX6_ticks_34 rfl (lv_at hl 1 rfl) ?_
      have hP := hP.sub (ws' := (st_W cs (ma 2) ((k_X6_remember o_18).2 1)) ++ (x_pick (md_W cs ma (k_X6_remember o_18)) [0, 1, 3, 4, 5, 6])) [2, 0, 1, 3, 4, 5, 6] rfl
      have hD := hD.sub (ws' := (st_W cs (ma 2) ((k_X6_remember o_18).2 1)) ++ (x_pick (md_W cs ma (k_X6_remember o_18)) [0, 1, 3, 4, 5, 6])) [2, 0, 1, 3, 4, 5, 6] (by decide) rfl
      have hc_35 := c_X6_ticksOn l D cs (ma 2) ((k_X6_remember o_18).2 1) vk (SI_rr e_18 hM) (by first | exact (in_n (A := 1) (B := 99) rfl rfl c_10).2 | exact absurd (rfd_n e_18 c_21) (by decide))
      obtain ⟨r_35, o_35, e_35⟩ : ∃ r9 o9, (k_X6_ticksOn ((k_X6_remember o_18).2 1) vk) = (r9, o9) := ⟨_, _, rfl⟩
      rw [e_35] at hc_35 hres
      dsimp only at hc_35 hres
      refine kI_call (wc := (st_W cs (ma 2) ((k_X6_remember o_18).2 1))) (wr := (x_pick (md_W cs ma (k_X6_remember o_18)) [0, 1, 3, 4, 5, 6])) (w1 := st_W cs (ma 2) o_35) (r := r_35) hE hP hD hS (k_rS (rest := []) (As := [.ref (ma 2), .int vk]) hE rfl (hc_35 H.size) (va_cwS 2 hts gX6_ticks_X6_ticksOn rfl rfl rfl (by decide +kernel) ⟨Nat.le_of_ble_eq_true rfl, Nat.le_of_ble_eq_true rfl⟩) hP hD hS rfl hl rfl (Nat.le_of_ble_eq_true rfl) ⟨Nat.le_of_ble_eq_true rfl, Nat.le_of_ble_eq_true rfl⟩ dX6_ticks_35) (fun H locs hP hD hS => ?_)
      have hP := hP.sub (ws' := md_W cs ma (m_r (k_X6_remember o_18) 1 o_35)) [1, 2, 0, 3, 4, 5, 6] rfl
      have hD := hD.sub (ws' := md_W cs ma (m_r (k_X6_remember o_18) 1 o_35)) [1, 2, 0, 3, 4, 5, 6] (by decide) rfl
      have hP : va_P D vwCl (md_W cs ma (m_r (k_X6_remember o_18) 1 o_35)) H := hP
      have hD : va_D A (md_W cs ma (m_r (k_X6_remember o_18) 1 o_35)) := hD
      subst hres
      exact kI_ret hE hS hP hD rfl rfl (Nat.le_of_ble_eq_true rfl) (Nat.le_of_ble_eq_true rfl) dX6_ticks_38
    · skip
      have c_21 : ¬ (r_18 = 0) := c_21
      rw [if_neg c_21] at hres
      refine lv_iconst (v := 0) hx hb dX6_ticks_24 (by decide) ?_
      subst hres
      exact kI_ret hE hS hP hD rfl rfl (Nat.le_of_ble_eq_true rfl) (Nat.le_of_ble_eq_true rfl) dX6_ticks_25
set_option maxHeartbeats 4000000 in
set_option maxRecDepth 100000 in
theorem c_X6_set (l : Launch) (D : va_G) (cs : Nat → ClassId) (ma : Nat → Nat) (mv : MV) (vw : Int32) (vv : Int32) (hM : MO mv) : kI l yX6_set wsX6_set { frames := 2, cells := 0, slots := 0, locals := 46 } 0 0 D cs [.ref (ma 0), .int vw, .int vv] (md_W cs ma mv) (k_X6_set mv vw vv).1 (md_W cs ma ((k_X6_set mv vw vv).2)) := by
  generalize hres : k_X6_set mv vw vv = res
  refine kI_of (cc := cX6_set) (maxL := 3) (ret := (some .int)) (by decide) rfl (Nat.le_of_ble_eq_true rfl) ?_
  intro p e s m below meth c A ls H locs hE hS hP hD hl
  obtain ⟨hx, hb, hr, hlocks, hml, hown, hts, hK, hA, hG, hnm⟩ := id hE
  have hown : s.vm.findClass RX6 = some m.cls := hown
  have hl : lv_has ls 3 [(0, .ref (ma 0)), (1, .int vw), (2, .int vv)] := hl
  have hinX6 : ∀ w ∈ wsX60, w ∈ wsX6_set := by decide +kernel
  have lk_0 := hts (.fieldLink RX6 13 "OrganPegsModel" "now" "[I") (by decide +kernel)
  unfold k_X6_set at hres
  refine lv_aload_n hx hb dX6_set_0 rfl (lv_at hl 0 rfl) ?_
  refine lv_iload_n hx hb dX6_set_1 rfl (lv_at hl 1 rfl) ?_
  refine lv_iload_n hx hb dX6_set_2 rfl (lv_at hl 2 rfl) ?_
  have hP : va_P D vwCl ([] ++ (md_W cs ma mv)) H := hP
  have hD : va_D A ([] ++ (md_W cs ma mv)) := hD
  have hc_3 := c_X6_isSetting l D cs vw vv
  refine kI_call (wc := []) (wr := (md_W cs ma mv)) (w1 := []) (r := (k_X6_isSetting vw vv)) hE hP hD hS (k_rS (rest := [.ref (ma 0)]) (As := [.int vw, .int vv]) hE rfl (hc_3 H.size) (va_cwS 2 hts gX6_set_X6_isSetting rfl rfl rfl (by decide +kernel) ⟨Nat.le_of_ble_eq_true rfl, Nat.le_of_ble_eq_true rfl⟩) hP hD hS rfl hl rfl (Nat.le_of_ble_eq_true rfl) ⟨Nat.le_of_ble_eq_true rfl, Nat.le_of_ble_eq_true rfl⟩ dX6_set_3) (fun H locs hP hD hS => ?_)
  have hP : va_P D vwCl (md_W cs ma mv) H := hP
  have hD : va_D A (md_W cs ma mv) := hD
  refine lv_if_eq (tgt := 13) hx hb dX6_set_6 (by decide) (fun c_6 => ?_) (fun c_6 => ?_)
  · skip
    have c_6 : ((k_X6_isSetting vw vv) = 0) := c_6
    rw [if_pos c_6] at hres
    refine lv_iconst (v := 1) hx hb dX6_set_13 (by decide) ?_
    have hP : va_P D vwCl ((md_W cs ma mv) ++ []) H := k_nP hP
    have hD : va_D A ((md_W cs ma mv) ++ []) := k_nD hD
    have hc_14 := c_X6_refused l D cs ma mv 1
    obtain ⟨r_14, o_14, e_14⟩ : ∃ r9 o9, (k_X6_refused mv 1) = (r9, o9) := ⟨_, _, rfl⟩
    rw [e_14] at hc_14 hres
    dsimp only at hc_14 hres
    refine kI_call (wc := (md_W cs ma mv)) (wr := []) (w1 := md_W cs ma o_14) (r := r_14) hE hP hD hS (k_rV (rest := []) (As := [.int 1]) hE rfl (hc_14 H.size) (cwV 1 hts gX6_set_X6_refused rfl rfl rfl (by decide +kernel) ⟨Nat.le_of_ble_eq_true rfl, Nat.le_of_ble_eq_true rfl⟩) hP hD hS (ci := 6) (q0 := 0) rfl rfl rfl hl rfl (Nat.le_of_ble_eq_true rfl) ⟨Nat.le_of_ble_eq_true rfl, Nat.le_of_ble_eq_true rfl⟩ dX6_set_14) (fun H locs hP hD hS => ?_)
    have hP := k_uP hP
    have hD := k_uD hD
    have hP : va_P D vwCl (md_W cs ma o_14) H := hP
    have hD : va_D A (md_W cs ma o_14) := hD
    refine lv_if_eq (tgt := 22) hx hb dX6_set_17 (by decide) (fun c_17 => ?_) (fun c_17 => ?_)
    · skip
      have c_17 : (r_14 = 0) := c_17
      rw [if_pos c_17] at hres
      refine lv_aload_n hx hb dX6_set_22 rfl (lv_at hl 0 rfl) ?_
      have hP : va_P D vwCl ((md_W cs ma o_14) ++ []) H := k_nP hP
      have hD : va_D A ((md_W cs ma o_14) ++ []) := k_nD hD
      have hc_23 := c_X6_remember l D cs ma o_14  (MO_rf e_14 hM)
      refine kV_call (wc := (md_W cs ma o_14)) (wr := []) (w1 := fun _ => md_W cs ma (k_X6_remember o_14)) hE hP hD hS (k_rV (rest := []) (As := []) hE rfl (hc_23 H.size) (cwV 0 hts gX6_set_X6_remember rfl rfl rfl (by decide +kernel) ⟨Nat.le_of_ble_eq_true rfl, Nat.le_of_ble_eq_true rfl⟩) hP hD hS (ci := 6) (q0 := 0) rfl rfl rfl hl rfl (Nat.le_of_ble_eq_true rfl) ⟨Nat.le_of_ble_eq_true rfl, Nat.le_of_ble_eq_true rfl⟩ dX6_set_23) (fun _ H locs _ hP hD hS => ?_)
      have hP := k_uP hP
      have hD := k_uD hD
      have hP : va_P D vwCl (md_W cs ma (k_X6_remember o_14)) H := hP
      have hD : va_D A (md_W cs ma (k_X6_remember o_14)) := hD
      refine lv_aload_n hx hb dX6_set_26 rfl (lv_at hl 0 rfl) ?_
      refine va_get (D := D) (ci := 6) (v := .ref (ma 2)) (C := RX6) (T := TX6) (N := 11) hx hb hts hinX6 hown hK hP 0 rfl rfl 3 (by decide) lk_0 (fun _ h9 => h9) rfl dX6_set_27 ?_
      refine lv_iload_n hx hb dX6_set_30 rfl (lv_at hl 1 rfl) ?_
      refine lv_iload_n hx hb dX6_set_31 rfl (lv_at hl 2 rfl) ?_
      have hP := hP.sub (ws' := (st_W cs (ma 2) ((k_X6_remember o_14).2 1)) ++ (x_pick (md_W cs ma (k_X6_remember o_14)) [0, 1, 3, 4, 5, 6])) [2, 0, 1, 3, 4, 5, 6] rfl
      have hD := hD.sub (ws' := (st_W cs (ma 2) ((k_X6_remember o_14).2 1)) ++ (x_pick (md_W cs ma (k_X6_remember o_14)) [0, 1, 3, 4, 5, 6])) [2, 0, 1, 3, 4, 5, 6] (by decide) rfl
      have hc_32 := c_X6_change l D cs (ma 2) ((k_X6_remember o_14).2 1) vw vv (by first | exact set_w2 c_6 | exact absurd (rfd_n e_14 c_17) (by decide))
      obtain ⟨r_32, o_32, e_32⟩ : ∃ r9 o9, (k_X6_change ((k_X6_remember o_14).2 1) vw vv) = (r9, o9) := ⟨_, _, rfl⟩
      rw [e_32] at hc_32 hres
      dsimp only at hc_32 hres
      refine kI_call (wc := (st_W cs (ma 2) ((k_X6_remember o_14).2 1))) (wr := (x_pick (md_W cs ma (k_X6_remember o_14)) [0, 1, 3, 4, 5, 6])) (w1 := st_W cs (ma 2) o_32) (r := r_32) hE hP hD hS (k_rS (rest := []) (As := [.ref (ma 2), .int vw, .int vv]) hE rfl (hc_32 H.size) (va_cwS 3 hts gX6_set_X6_change rfl rfl rfl (by decide +kernel) ⟨Nat.le_of_ble_eq_true rfl, Nat.le_of_ble_eq_true rfl⟩) hP hD hS rfl hl rfl (Nat.le_of_ble_eq_true rfl) ⟨Nat.le_of_ble_eq_true rfl, Nat.le_of_ble_eq_true rfl⟩ dX6_set_32) (fun H locs hP hD hS => ?_)
      have hP := hP.sub (ws' := md_W cs ma (m_r (k_X6_remember o_14) 1 o_32)) [1, 2, 0, 3, 4, 5, 6] rfl
      have hD := hD.sub (ws' := md_W cs ma (m_r (k_X6_remember o_14) 1 o_32)) [1, 2, 0, 3, 4, 5, 6] (by decide) rfl
      have hP : va_P D vwCl (md_W cs ma (m_r (k_X6_remember o_14) 1 o_32)) H := hP
      have hD : va_D A (md_W cs ma (m_r (k_X6_remember o_14) 1 o_32)) := hD
      subst hres
      exact kI_ret hE hS hP hD rfl rfl (Nat.le_of_ble_eq_true rfl) (Nat.le_of_ble_eq_true rfl) dX6_set_35
    · skip
      have c_17 : ¬ (r_14 = 0) := c_17
      rw [if_neg c_17] at hres
      refine lv_iconst (v := 0) hx hb dX6_set_20 (by decide) ?_
      subst hres
      exact kI_ret hE hS hP hD rfl rfl (Nat.le_of_ble_eq_true rfl) (Nat.le_of_ble_eq_true rfl) dX6_set_21
  · skip
    have c_6 : ¬ ((k_X6_isSetting vw vv) = 0) := c_6
    rw [if_neg c_6] at hres
    refine lv_iconst (v := 0) hx hb dX6_set_9 (by decide) ?_
    refine lv_goto (tgt := 14) hx hb dX6_set_10 (by decide) ?_
    have hP : va_P D vwCl ((md_W cs ma mv) ++ []) H := k_nP hP
    have hD : va_D A ((md_W cs ma mv) ++ []) := k_nD hD
    have hc_14 := c_X6_refused l D cs ma mv 0
    obtain ⟨r_14, o_14, e_14⟩ : ∃ r9 o9, (k_X6_refused mv 0) = (r9, o9) := ⟨_, _, rfl⟩
    rw [e_14] at hc_14 hres
    dsimp only at hc_14 hres
    refine kI_call (wc := (md_W cs ma mv)) (wr := []) (w1 := md_W cs ma o_14) (r := r_14) hE hP hD hS (k_rV (rest := []) (As := [.int 0]) hE rfl (hc_14 H.size) (cwV 1 hts gX6_set_X6_refused rfl rfl rfl (by decide +kernel) ⟨Nat.le_of_ble_eq_true rfl, Nat.le_of_ble_eq_true rfl⟩) hP hD hS (ci := 6) (q0 := 0) rfl rfl rfl hl rfl (Nat.le_of_ble_eq_true rfl) ⟨Nat.le_of_ble_eq_true rfl, Nat.le_of_ble_eq_true rfl⟩ dX6_set_14) (fun H locs hP hD hS => ?_)
    have hP := k_uP hP
    have hD := k_uD hD
    have hP : va_P D vwCl (md_W cs ma o_14) H := hP
    have hD : va_D A (md_W cs ma o_14) := hD
    refine lv_if_eq (tgt := 22) hx hb dX6_set_17 (by decide) (fun c_17 => ?_) (fun c_17 => ?_)
    · skip
      have c_17 : (r_14 = 0) := c_17
      rw [if_pos c_17] at hres
      refine lv_aload_n hx hb dX6_set_22 rfl (lv_at hl 0 rfl) ?_
      have hP : va_P D vwCl ((md_W cs ma o_14) ++ []) H := k_nP hP
      have hD : va_D A ((md_W cs ma o_14) ++ []) := k_nD hD
      have hc_23 := c_X6_remember l D cs ma o_14  (MO_rf e_14 hM)
      refine kV_call (wc := (md_W cs ma o_14)) (wr := []) (w1 := fun _ => md_W cs ma (k_X6_remember o_14)) hE hP hD hS (k_rV (rest := []) (As := []) hE rfl (hc_23 H.size) (cwV 0 hts gX6_set_X6_remember rfl rfl rfl (by decide +kernel) ⟨Nat.le_of_ble_eq_true rfl, Nat.le_of_ble_eq_true rfl⟩) hP hD hS (ci := 6) (q0 := 0) rfl rfl rfl hl rfl (Nat.le_of_ble_eq_true rfl) ⟨Nat.le_of_ble_eq_true rfl, Nat.le_of_ble_eq_true rfl⟩ dX6_set_23) (fun _ H locs _ hP hD hS => ?_)
      have hP := k_uP hP
      have hD := k_uD hD
      have hP : va_P D vwCl (md_W cs ma (k_X6_remember o_14)) H := hP
      have hD : va_D A (md_W cs ma (k_X6_remember o_14)) := hD
      refine lv_aload_n hx hb dX6_set_26 rfl (lv_at hl 0 rfl) ?_
      refine va_get (D := D) (ci := 6) (v := .ref (ma 2)) (C := RX6) (T := TX6) (N := 11) hx hb hts hinX6 hown hK hP 0 rfl rfl 3 (by decide) lk_0 (fun _ h9 => h9) rfl dX6_set_27 ?_
      refine lv_iload_n hx hb dX6_set_30 rfl (lv_at hl 1 rfl) ?_
      refine lv_iload_n hx hb dX6_set_31 rfl (lv_at hl 2 rfl) ?_
      have hP := hP.sub (ws' := (st_W cs (ma 2) ((k_X6_remember o_14).2 1)) ++ (x_pick (md_W cs ma (k_X6_remember o_14)) [0, 1, 3, 4, 5, 6])) [2, 0, 1, 3, 4, 5, 6] rfl
      have hD := hD.sub (ws' := (st_W cs (ma 2) ((k_X6_remember o_14).2 1)) ++ (x_pick (md_W cs ma (k_X6_remember o_14)) [0, 1, 3, 4, 5, 6])) [2, 0, 1, 3, 4, 5, 6] (by decide) rfl
      have hc_32 := c_X6_change l D cs (ma 2) ((k_X6_remember o_14).2 1) vw vv (by first | exact set_w2 c_6 | exact absurd (rfd_n e_14 c_17) (by decide))
      obtain ⟨r_32, o_32, e_32⟩ : ∃ r9 o9, (k_X6_change ((k_X6_remember o_14).2 1) vw vv) = (r9, o9) := ⟨_, _, rfl⟩
      rw [e_32] at hc_32 hres
      dsimp only at hc_32 hres
      refine kI_call (wc := (st_W cs (ma 2) ((k_X6_remember o_14).2 1))) (wr := (x_pick (md_W cs ma (k_X6_remember o_14)) [0, 1, 3, 4, 5, 6])) (w1 := st_W cs (ma 2) o_32) (r := r_32) hE hP hD hS (k_rS (rest := []) (As := [.ref (ma 2), .int vw, .int vv]) hE rfl (hc_32 H.size) (va_cwS 3 hts gX6_set_X6_change rfl rfl rfl (by decide +kernel) ⟨Nat.le_of_ble_eq_true rfl, Nat.le_of_ble_eq_true rfl⟩) hP hD hS rfl hl rfl (Nat.le_of_ble_eq_true rfl) ⟨Nat.le_of_ble_eq_true rfl, Nat.le_of_ble_eq_true rfl⟩ dX6_set_32) (fun H locs hP hD hS => ?_)
      have hP := hP.sub (ws' := md_W cs ma (m_r (k_X6_remember o_14) 1 o_32)) [1, 2, 0, 3, 4, 5, 6] rfl
      have hD := hD.sub (ws' := md_W cs ma (m_r (k_X6_remember o_14) 1 o_32)) [1, 2, 0, 3, 4, 5, 6] (by decide) rfl
      have hP : va_P D vwCl (md_W cs ma (m_r (k_X6_remember o_14) 1 o_32)) H := hP
      have hD : va_D A (md_W cs ma (m_r (k_X6_remember o_14) 1 o_32)) := hD
      subst hres
      exact kI_ret hE hS hP hD rfl rfl (Nat.le_of_ble_eq_true rfl) (Nat.le_of_ble_eq_true rfl) dX6_set_35
    · skip
      have c_17 : ¬ (r_14 = 0) := c_17
      rw [if_neg c_17] at hres
      refine lv_iconst (v := 0) hx hb dX6_set_20 (by decide) ?_
      subst hres
      exact kI_ret hE hS hP hD rfl rfl (Nat.le_of_ble_eq_true rfl) (Nat.le_of_ble_eq_true rfl) dX6_set_21
set_option maxHeartbeats 4000000 in
set_option maxRecDepth 100000 in
theorem c_X6_undo (l : Launch) (D : va_G) (cs : Nat → ClassId) (ma : Nat → Nat) (mv : MV) (hM : MO mv) : kI l yX6_undo wsX6_undo { frames := 1, cells := 0, slots := 0, locals := 24 } 0 0 D cs [.ref (ma 0)] (md_W cs ma mv) (k_X6_undo mv).1 (md_W cs ma ((k_X6_undo mv).2)) := by
  generalize hres : k_X6_undo mv = res
  refine kI_of (cc := cX6_undo) (maxL := 1) (ret := (some .int)) (by decide) rfl (Nat.le_of_ble_eq_true rfl) ?_
  intro p e s m below meth c A ls H locs hE hS hP hD hl
  obtain ⟨hx, hb, hr, hlocks, hml, hown, hts, hK, hA, hG, hnm⟩ := id hE
  have hown : s.vm.findClass RX6 = some m.cls := hown
  have hl : lv_has ls 1 [(0, .ref (ma 0))] := hl
  have hinX6 : ∀ w ∈ wsX60, w ∈ wsX6_undo := by decide +kernel
  have lk_0 := hts (.fieldLink RX6 162 "OrganPegsModel" "acts" "I") (by decide +kernel)
  have lk_1 := hts (.fieldLink RX6 19 "OrganPegsModel" "diary" "[I") (by decide +kernel)
  have lk_2 := hts (.fieldLink RX6 13 "OrganPegsModel" "now" "[I") (by decide +kernel)
  unfold k_X6_undo at hres
  refine lv_aload_n hx hb dX6_undo_0 rfl (lv_at hl 0 rfl) ?_
  refine lv_aload_n hx hb dX6_undo_1 rfl (lv_at hl 0 rfl) ?_
  refine va_get (D := D) (ci := 6) (v := .int (mv.1 2)) (C := RX6) (T := TX6) (N := 11) hx hb hts hinX6 hown hK hP 0 rfl rfl 6 (by decide) lk_0 (fun _ h9 => h9) rfl dX6_undo_2 ?_
  refine lv_if_ne (tgt := 12) hx hb dX6_undo_5 (by decide) (fun c_5 => ?_) (fun c_5 => ?_)
  · skip
    have c_5 : ¬ ((mv.1 2) = 0) := c_5
    rw [if_neg c_5] at hres
    refine lv_iconst (v := 0) hx hb dX6_undo_12 (by decide) ?_
    have hP : va_P D vwCl ((md_W cs ma mv) ++ []) H := k_nP hP
    have hD : va_D A ((md_W cs ma mv) ++ []) := k_nD hD
    have hc_13 := c_X6_refused l D cs ma mv 0
    obtain ⟨r_13, o_13, e_13⟩ : ∃ r9 o9, (k_X6_refused mv 0) = (r9, o9) := ⟨_, _, rfl⟩
    rw [e_13] at hc_13 hres
    dsimp only at hc_13 hres
    refine kI_call (wc := (md_W cs ma mv)) (wr := []) (w1 := md_W cs ma o_13) (r := r_13) hE hP hD hS (k_rV (rest := []) (As := [.int 0]) hE rfl (hc_13 H.size) (cwV 1 hts gX6_undo_X6_refused rfl rfl rfl (by decide +kernel) ⟨Nat.le_of_ble_eq_true rfl, Nat.le_of_ble_eq_true rfl⟩) hP hD hS (ci := 6) (q0 := 0) rfl rfl rfl hl rfl (Nat.le_of_ble_eq_true rfl) ⟨Nat.le_of_ble_eq_true rfl, Nat.le_of_ble_eq_true rfl⟩ dX6_undo_13) (fun H locs hP hD hS => ?_)
    have hP := k_uP hP
    have hD := k_uD hD
    have hP : va_P D vwCl (md_W cs ma o_13) H := hP
    have hD : va_D A (md_W cs ma o_13) := hD
    refine lv_if_eq (tgt := 21) hx hb dX6_undo_16 (by decide) (fun c_16 => ?_) (fun c_16 => ?_)
    · skip
      have c_16 : (r_13 = 0) := c_16
      rw [if_pos c_16] at hres
      refine lv_aload_n hx hb dX6_undo_21 rfl (lv_at hl 0 rfl) ?_
      refine lv_dup hx hb dX6_undo_22 rfl ?_
      refine va_get (D := D) (ci := 6) (v := .int (o_13.1 2)) (C := RX6) (T := TX6) (N := 11) hx hb hts hinX6 hown hK hP 0 rfl rfl 6 (by decide) lk_0 (fun _ h9 => h9) rfl dX6_undo_23 ?_
      refine lv_iconst (v := 1) hx hb dX6_undo_26 (by decide) ?_
      refine lv_isub hx hb dX6_undo_27 ?_
      refine va_put (D := D) (ci := 6) (v := .int ((o_13.1 2) - 1)) (ty := .int) (C := RX6) (T := TX6) (N := 11) hx hb hts hinX6 tyX6 tyX6_ok nmX6 hown hK hP hD hS 0 rfl rfl 6 (by decide) lk_0 (fun _ h9 => h9) rfl (by decide +kernel) rfl rfl (Nat.le_of_ble_eq_true rfl) dX6_undo_28 (fun H locs hP hD hS => ?_)
      have hP : va_P D vwCl (md_W cs ma (m_s o_13 2 ((o_13.1 2) - 1))) H := hP
      have hD : va_D A (md_W cs ma (m_s o_13 2 ((o_13.1 2) - 1))) := hD
      refine lv_aload_n hx hb dX6_undo_31 rfl (lv_at hl 0 rfl) ?_
      refine va_get (D := D) (ci := 6) (v := .ref (ma 4)) (C := RX6) (T := TX6) (N := 11) hx hb hts hinX6 hown hK hP 0 rfl rfl 5 (by decide) lk_1 (fun _ h9 => h9) rfl dX6_undo_32 ?_
      refine lv_sipush (v := 217) hx hb dX6_undo_35 (by decide) ?_
      refine lv_aload_n hx hb dX6_undo_38 rfl (lv_at hl 0 rfl) ?_
      refine va_get (D := D) (ci := 6) (v := .int ((o_13.1 2) - 1)) (C := RX6) (T := TX6) (N := 11) hx hb hts hinX6 hown hK hP 0 rfl rfl 6 (by decide) lk_0 (fun _ h9 => h9) rfl dX6_undo_39 ?_
      refine lv_imul hx hb dX6_undo_42 ?_
      refine lv_aload_n hx hb dX6_undo_43 rfl (lv_at hl 0 rfl) ?_
      refine va_get (D := D) (ci := 6) (v := .ref (ma 2)) (C := RX6) (T := TX6) (N := 11) hx hb hts hinX6 hown hK hP 0 rfl rfl 3 (by decide) lk_2 (fun _ h9 => h9) rfl dX6_undo_44 ?_
      refine lv_iconst (v := 0) hx hb dX6_undo_47 (by decide) ?_
      have hP := hP.sub (ws' := (cp_W cs (ma 4) (ma 2) 3038 217 (o_13.2 3) (o_13.2 1)) ++ (x_pick (md_W cs ma (m_s o_13 2 ((o_13.1 2) - 1))) [0, 1, 3, 5, 6])) [4, 2, 0, 1, 3, 5, 6] rfl
      have hD := hD.sub (ws' := (cp_W cs (ma 4) (ma 2) 3038 217 (o_13.2 3) (o_13.2 1)) ++ (x_pick (md_W cs ma (m_s o_13 2 ((o_13.1 2) - 1))) [0, 1, 3, 5, 6])) [4, 2, 0, 1, 3, 5, 6] (by decide) rfl
      have hc_48 := c_X6_copyState l D cs (ma 4) (ma 2) 3038 217 (o_13.2 3) (o_13.2 1) (217 * ((o_13.1 2) - 1)) 0 (by first | exact un_d e_13 hM c_5 | exact absurd (rfd_n e_13 c_16) (by decide)) (cp_0 (by decide) (by decide))
      generalize e_48 : (k_X6_copyState (o_13.2 3) (o_13.2 1) (217 * ((o_13.1 2) - 1)) 0) = o_48 at hc_48 hres
      have hres := (kbind_eq _ _).symm.trans hres
      refine kV_call (wc := (cp_W cs (ma 4) (ma 2) 3038 217 (o_13.2 3) (o_13.2 1))) (wr := (x_pick (md_W cs ma (m_s o_13 2 ((o_13.1 2) - 1))) [0, 1, 3, 5, 6])) (w1 := fun _ => cp_W cs (ma 4) (ma 2) 3038 217 (o_13.2 3) o_48) hE hP hD hS (k_rS (rest := []) (As := [.ref (ma 4), .int (217 * ((o_13.1 2) - 1)), .ref (ma 2), .int 0]) hE rfl (hc_48 H.size) (va_cwS 4 hts gX6_undo_X6_copyState rfl rfl rfl (by decide +kernel) ⟨Nat.le_of_ble_eq_true rfl, Nat.le_of_ble_eq_true rfl⟩) hP hD hS rfl hl rfl (Nat.le_of_ble_eq_true rfl) ⟨Nat.le_of_ble_eq_true rfl, Nat.le_of_ble_eq_true rfl⟩ dX6_undo_48) (fun _ H locs _ hP hD hS => ?_)
      have hP := hP.sub (ws' := md_W cs ma (m_r (m_s o_13 2 ((o_13.1 2) - 1)) 1 o_48)) [2, 3, 1, 4, 0, 5, 6] md_k42
      have hD := hD.sub (ws' := md_W cs ma (m_r (m_s o_13 2 ((o_13.1 2) - 1)) 1 o_48)) [2, 3, 1, 4, 0, 5, 6] (by decide) md_d42
      have hP : va_P D vwCl (md_W cs ma (m_r (m_s o_13 2 ((o_13.1 2) - 1)) 1 o_48)) H := hP
      have hD : va_D A (md_W cs ma (m_r (m_s o_13 2 ((o_13.1 2) - 1)) 1 o_48)) := hD
      refine lv_aload_n hx hb dX6_undo_51 rfl (lv_at hl 0 rfl) ?_
      refine va_get (D := D) (ci := 6) (v := .int ((o_13.1 2) - 1)) (C := RX6) (T := TX6) (N := 11) hx hb hts hinX6 hown hK hP 0 rfl rfl 6 (by decide) lk_0 (fun _ h9 => h9) rfl dX6_undo_52 ?_
      subst hres
      exact kI_ret hE hS hP hD rfl rfl (Nat.le_of_ble_eq_true rfl) (Nat.le_of_ble_eq_true rfl) dX6_undo_55
    · skip
      have c_16 : ¬ (r_13 = 0) := c_16
      rw [if_neg c_16] at hres
      refine lv_iconst (v := 0) hx hb dX6_undo_19 (by decide) ?_
      subst hres
      exact kI_ret hE hS hP hD rfl rfl (Nat.le_of_ble_eq_true rfl) (Nat.le_of_ble_eq_true rfl) dX6_undo_20
  · skip
    have c_5 : ((mv.1 2) = 0) := c_5
    rw [if_pos c_5] at hres
    refine lv_iconst (v := 1) hx hb dX6_undo_8 (by decide) ?_
    refine lv_goto (tgt := 13) hx hb dX6_undo_9 (by decide) ?_
    have hP : va_P D vwCl ((md_W cs ma mv) ++ []) H := k_nP hP
    have hD : va_D A ((md_W cs ma mv) ++ []) := k_nD hD
    have hc_13 := c_X6_refused l D cs ma mv 1
    obtain ⟨r_13, o_13, e_13⟩ : ∃ r9 o9, (k_X6_refused mv 1) = (r9, o9) := ⟨_, _, rfl⟩
    rw [e_13] at hc_13 hres
    dsimp only at hc_13 hres
    refine kI_call (wc := (md_W cs ma mv)) (wr := []) (w1 := md_W cs ma o_13) (r := r_13) hE hP hD hS (k_rV (rest := []) (As := [.int 1]) hE rfl (hc_13 H.size) (cwV 1 hts gX6_undo_X6_refused rfl rfl rfl (by decide +kernel) ⟨Nat.le_of_ble_eq_true rfl, Nat.le_of_ble_eq_true rfl⟩) hP hD hS (ci := 6) (q0 := 0) rfl rfl rfl hl rfl (Nat.le_of_ble_eq_true rfl) ⟨Nat.le_of_ble_eq_true rfl, Nat.le_of_ble_eq_true rfl⟩ dX6_undo_13) (fun H locs hP hD hS => ?_)
    have hP := k_uP hP
    have hD := k_uD hD
    have hP : va_P D vwCl (md_W cs ma o_13) H := hP
    have hD : va_D A (md_W cs ma o_13) := hD
    refine lv_if_eq (tgt := 21) hx hb dX6_undo_16 (by decide) (fun c_16 => ?_) (fun c_16 => ?_)
    · skip
      have c_16 : (r_13 = 0) := c_16
      rw [if_pos c_16] at hres
      refine lv_aload_n hx hb dX6_undo_21 rfl (lv_at hl 0 rfl) ?_
      refine lv_dup hx hb dX6_undo_22 rfl ?_
      refine va_get (D := D) (ci := 6) (v := .int (o_13.1 2)) (C := RX6) (T := TX6) (N := 11) hx hb hts hinX6 hown hK hP 0 rfl rfl 6 (by decide) lk_0 (fun _ h9 => h9) rfl dX6_undo_23 ?_
      refine lv_iconst (v := 1) hx hb dX6_undo_26 (by decide) ?_
      refine lv_isub hx hb dX6_undo_27 ?_
      refine va_put (D := D) (ci := 6) (v := .int ((o_13.1 2) - 1)) (ty := .int) (C := RX6) (T := TX6) (N := 11) hx hb hts hinX6 tyX6 tyX6_ok nmX6 hown hK hP hD hS 0 rfl rfl 6 (by decide) lk_0 (fun _ h9 => h9) rfl (by decide +kernel) rfl rfl (Nat.le_of_ble_eq_true rfl) dX6_undo_28 (fun H locs hP hD hS => ?_)
      have hP : va_P D vwCl (md_W cs ma (m_s o_13 2 ((o_13.1 2) - 1))) H := hP
      have hD : va_D A (md_W cs ma (m_s o_13 2 ((o_13.1 2) - 1))) := hD
      refine lv_aload_n hx hb dX6_undo_31 rfl (lv_at hl 0 rfl) ?_
      refine va_get (D := D) (ci := 6) (v := .ref (ma 4)) (C := RX6) (T := TX6) (N := 11) hx hb hts hinX6 hown hK hP 0 rfl rfl 5 (by decide) lk_1 (fun _ h9 => h9) rfl dX6_undo_32 ?_
      refine lv_sipush (v := 217) hx hb dX6_undo_35 (by decide) ?_
      refine lv_aload_n hx hb dX6_undo_38 rfl (lv_at hl 0 rfl) ?_
      refine va_get (D := D) (ci := 6) (v := .int ((o_13.1 2) - 1)) (C := RX6) (T := TX6) (N := 11) hx hb hts hinX6 hown hK hP 0 rfl rfl 6 (by decide) lk_0 (fun _ h9 => h9) rfl dX6_undo_39 ?_
      refine lv_imul hx hb dX6_undo_42 ?_
      refine lv_aload_n hx hb dX6_undo_43 rfl (lv_at hl 0 rfl) ?_
      refine va_get (D := D) (ci := 6) (v := .ref (ma 2)) (C := RX6) (T := TX6) (N := 11) hx hb hts hinX6 hown hK hP 0 rfl rfl 3 (by decide) lk_2 (fun _ h9 => h9) rfl dX6_undo_44 ?_
      refine lv_iconst (v := 0) hx hb dX6_undo_47 (by decide) ?_
      have hP := hP.sub (ws' := (cp_W cs (ma 4) (ma 2) 3038 217 (o_13.2 3) (o_13.2 1)) ++ (x_pick (md_W cs ma (m_s o_13 2 ((o_13.1 2) - 1))) [0, 1, 3, 5, 6])) [4, 2, 0, 1, 3, 5, 6] rfl
      have hD := hD.sub (ws' := (cp_W cs (ma 4) (ma 2) 3038 217 (o_13.2 3) (o_13.2 1)) ++ (x_pick (md_W cs ma (m_s o_13 2 ((o_13.1 2) - 1))) [0, 1, 3, 5, 6])) [4, 2, 0, 1, 3, 5, 6] (by decide) rfl
      have hc_48 := c_X6_copyState l D cs (ma 4) (ma 2) 3038 217 (o_13.2 3) (o_13.2 1) (217 * ((o_13.1 2) - 1)) 0 (by first | exact un_d e_13 hM c_5 | exact absurd (rfd_n e_13 c_16) (by decide)) (cp_0 (by decide) (by decide))
      generalize e_48 : (k_X6_copyState (o_13.2 3) (o_13.2 1) (217 * ((o_13.1 2) - 1)) 0) = o_48 at hc_48 hres
      have hres := (kbind_eq _ _).symm.trans hres
      refine kV_call (wc := (cp_W cs (ma 4) (ma 2) 3038 217 (o_13.2 3) (o_13.2 1))) (wr := (x_pick (md_W cs ma (m_s o_13 2 ((o_13.1 2) - 1))) [0, 1, 3, 5, 6])) (w1 := fun _ => cp_W cs (ma 4) (ma 2) 3038 217 (o_13.2 3) o_48) hE hP hD hS (k_rS (rest := []) (As := [.ref (ma 4), .int (217 * ((o_13.1 2) - 1)), .ref (ma 2), .int 0]) hE rfl (hc_48 H.size) (va_cwS 4 hts gX6_undo_X6_copyState rfl rfl rfl (by decide +kernel) ⟨Nat.le_of_ble_eq_true rfl, Nat.le_of_ble_eq_true rfl⟩) hP hD hS rfl hl rfl (Nat.le_of_ble_eq_true rfl) ⟨Nat.le_of_ble_eq_true rfl, Nat.le_of_ble_eq_true rfl⟩ dX6_undo_48) (fun _ H locs _ hP hD hS => ?_)
      have hP := hP.sub (ws' := md_W cs ma (m_r (m_s o_13 2 ((o_13.1 2) - 1)) 1 o_48)) [2, 3, 1, 4, 0, 5, 6] md_k42
      have hD := hD.sub (ws' := md_W cs ma (m_r (m_s o_13 2 ((o_13.1 2) - 1)) 1 o_48)) [2, 3, 1, 4, 0, 5, 6] (by decide) md_d42
      have hP : va_P D vwCl (md_W cs ma (m_r (m_s o_13 2 ((o_13.1 2) - 1)) 1 o_48)) H := hP
      have hD : va_D A (md_W cs ma (m_r (m_s o_13 2 ((o_13.1 2) - 1)) 1 o_48)) := hD
      refine lv_aload_n hx hb dX6_undo_51 rfl (lv_at hl 0 rfl) ?_
      refine va_get (D := D) (ci := 6) (v := .int ((o_13.1 2) - 1)) (C := RX6) (T := TX6) (N := 11) hx hb hts hinX6 hown hK hP 0 rfl rfl 6 (by decide) lk_0 (fun _ h9 => h9) rfl dX6_undo_52 ?_
      subst hres
      exact kI_ret hE hS hP hD rfl rfl (Nat.le_of_ble_eq_true rfl) (Nat.le_of_ble_eq_true rfl) dX6_undo_55
    · skip
      have c_16 : ¬ (r_13 = 0) := c_16
      rw [if_neg c_16] at hres
      refine lv_iconst (v := 0) hx hb dX6_undo_19 (by decide) ?_
      subst hres
      exact kI_ret hE hS hP hD rfl rfl (Nat.le_of_ble_eq_true rfl) (Nat.le_of_ble_eq_true rfl) dX6_undo_20
