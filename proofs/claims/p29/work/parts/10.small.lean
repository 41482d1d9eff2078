set_option maxHeartbeats 4000000 in
set_option maxRecDepth 100000 in
theorem c_X5_isPipe (l : Launch) (D : va_G) (cs : Nat → ClassId) (vp : Int32) : kI l yX5_isPipe wsX5_isPipe { frames := 0, cells := 0, slots := 0, locals := 0 } 0 0 D cs [.int vp] ([]) (k_X5_isPipe vp) ([]) := by
  generalize hres : k_X5_isPipe vp = res
  refine kI_of (cc := cX5_isPipe) (maxL := 1) (ret := (some .boolean)) (by decide) rfl (Nat.le_of_ble_eq_true rfl) ?_
  intro p e s m below meth c A ls H locs hE hS hP hD hl
  obtain ⟨hx, hb, hr, hlocks, hml, hown, hts, hK, hA, hG, hnm⟩ := id hE
  have hown : s.vm.findClass RX5 = some m.cls := hown
  have hl : lv_has ls 1 [(0, .int vp)] := hl
  unfold k_X5_isPipe at hres
  refine lv_iload_n hx hb dX5_isPipe_0 rfl (lv_at hl 0 rfl) ?_
  refine lv_if_lt (tgt := 14) hx hb dX5_isPipe_1 (by decide) (fun c_1 => ?_) (fun c_1 => ?_)
  · skip
    have c_1 : (vp < 0) := c_1
    rw [if_pos c_1] at hres
    refine lv_iconst (v := 0) hx hb dX5_isPipe_14 (by decide) ?_
    subst hres
    exact kI_ret hE hS hP hD rfl rfl (Nat.le_of_ble_eq_true rfl) (Nat.le_of_ble_eq_true rfl) dX5_isPipe_15
  · skip
    have c_1 : ¬ (vp < 0) := c_1
    rw [if_neg c_1] at hres
    refine lv_iload_n hx hb dX5_isPipe_4 rfl (lv_at hl 0 rfl) ?_
    refine lv_bipush (v := 6) hx hb dX5_isPipe_5 (by decide) ?_
    refine lv_icmp_ge (tgt := 14) hx hb dX5_isPipe_7 (by decide) (fun c_7 => ?_) (fun c_7 => ?_)
    · skip
      have c_7 : (6 ≤ vp) := c_7
      rw [if_pos c_7] at hres
      refine lv_iconst (v := 0) hx hb dX5_isPipe_14 (by decide) ?_
      subst hres
      exact kI_ret hE hS hP hD rfl rfl (Nat.le_of_ble_eq_true rfl) (Nat.le_of_ble_eq_true rfl) dX5_isPipe_15
    · skip
      have c_7 : ¬ (6 ≤ vp) := c_7
      rw [if_neg c_7] at hres
      refine lv_iconst (v := 1) hx hb dX5_isPipe_10 (by decide) ?_
      refine lv_goto (tgt := 15) hx hb dX5_isPipe_11 (by decide) ?_
      subst hres
      exact kI_ret hE hS hP hD rfl rfl (Nat.le_of_ble_eq_true rfl) (Nat.le_of_ble_eq_true rfl) dX5_isPipe_15
set_option maxHeartbeats 4000000 in
set_option maxRecDepth 100000 in
theorem c_X5_isBar (l : Launch) (D : va_G) (cs : Nat → ClassId) (vb : Int32) : kI l yX5_isBar wsX5_isBar { frames := 0, cells := 0, slots := 0, locals := 0 } 0 0 D cs [.int vb] ([]) (k_X5_isBar vb) ([]) := by
  generalize hres : k_X5_isBar vb = res
  refine kI_of (cc := cX5_isBar) (maxL := 1) (ret := (some .boolean)) (by decide) rfl (Nat.le_of_ble_eq_true rfl) ?_
  intro p e s m below meth c A ls H locs hE hS hP hD hl
  obtain ⟨hx, hb, hr, hlocks, hml, hown, hts, hK, hA, hG, hnm⟩ := id hE
  have hown : s.vm.findClass RX5 = some m.cls := hown
  have hl : lv_has ls 1 [(0, .int vb)] := hl
  unfold k_X5_isBar at hres
  refine lv_iload_n hx hb dX5_isBar_0 rfl (lv_at hl 0 rfl) ?_
  refine lv_if_lt (tgt := 14) hx hb dX5_isBar_1 (by decide) (fun c_1 => ?_) (fun c_1 => ?_)
  · skip
    have c_1 : (vb < 0) := c_1
    rw [if_pos c_1] at hres
    refine lv_iconst (v := 0) hx hb dX5_isBar_14 (by decide) ?_
    subst hres
    exact kI_ret hE hS hP hD rfl rfl (Nat.le_of_ble_eq_true rfl) (Nat.le_of_ble_eq_true rfl) dX5_isBar_15
  · skip
    have c_1 : ¬ (vb < 0) := c_1
    rw [if_neg c_1] at hres
    refine lv_iload_n hx hb dX5_isBar_4 rfl (lv_at hl 0 rfl) ?_
    refine lv_bipush (v := 24) hx hb dX5_isBar_5 (by decide) ?_
    refine lv_icmp_ge (tgt := 14) hx hb dX5_isBar_7 (by decide) (fun c_7 => ?_) (fun c_7 => ?_)
    · skip
      have c_7 : (24 ≤ vb) := c_7
      rw [if_pos c_7] at hres
      refine lv_iconst (v := 0) hx hb dX5_isBar_14 (by decide) ?_
      subst hres
      exact kI_ret hE hS hP hD rfl rfl (Nat.le_of_ble_eq_true rfl) (Nat.le_of_ble_eq_true rfl) dX5_isBar_15
    · skip
      have c_7 : ¬ (24 ≤ vb) := c_7
      rw [if_neg c_7] at hres
      refine lv_iconst (v := 1) hx hb dX5_isBar_10 (by decide) ?_
      refine lv_goto (tgt := 15) hx hb dX5_isBar_11 (by decide) ?_
      subst hres
      exact kI_ret hE hS hP hD rfl rfl (Nat.le_of_ble_eq_true rfl) (Nat.le_of_ble_eq_true rfl) dX5_isBar_15
set_option maxHeartbeats 4000000 in
set_option maxRecDepth 100000 in
theorem c_X5_isLength (l : Launch) (D : va_G) (cs : Nat → ClassId) (vn : Int32) : kI l yX5_isLength wsX5_isLength { frames := 0, cells := 0, slots := 0, locals := 0 } 0 0 D cs [.int vn] ([]) (k_X5_isLength vn) ([]) := by
  generalize hres : k_X5_isLength vn = res
  refine kI_of (cc := cX5_isLength) (maxL := 1) (ret := (some .boolean)) (by decide) rfl (Nat.le_of_ble_eq_true rfl) ?_
  intro p e s m below meth c A ls H locs hE hS hP hD hl
  obtain ⟨hx, hb, hr, hlocks, hml, hown, hts, hK, hA, hG, hnm⟩ := id hE
  have hown : s.vm.findClass RX5 = some m.cls := hown
  have hl : lv_has ls 1 [(0, .int vn)] := hl
  unfold k_X5_isLength at hres
  refine lv_iload_n hx hb dX5_isLength_0 rfl (lv_at hl 0 rfl) ?_
  refine lv_iconst (v := 1) hx hb dX5_isLength_1 (by decide) ?_
  refine lv_icmp_lt (tgt := 15) hx hb dX5_isLength_2 (by decide) (fun c_2 => ?_) (fun c_2 => ?_)
  · skip
    have c_2 : (vn < 1) := c_2
    rw [if_pos c_2] at hres
    refine lv_iconst (v := 0) hx hb dX5_isLength_15 (by decide) ?_
    subst hres
    exact kI_ret hE hS hP hD rfl rfl (Nat.le_of_ble_eq_true rfl) (Nat.le_of_ble_eq_true rfl) dX5_isLength_16
  · skip
    have c_2 : ¬ (vn < 1) := c_2
    rw [if_neg c_2] at hres
    refine lv_iload_n hx hb dX5_isLength_5 rfl (lv_at hl 0 rfl) ?_
    refine lv_bipush (v := 6) hx hb dX5_isLength_6 (by decide) ?_
    refine lv_icmp_gt (tgt := 15) hx hb dX5_isLength_8 (by decide) (fun c_8 => ?_) (fun c_8 => ?_)
    · skip
      have c_8 : (6 < vn) := c_8
      rw [if_pos c_8] at hres
      refine lv_iconst (v := 0) hx hb dX5_isLength_15 (by decide) ?_
      subst hres
      exact kI_ret hE hS hP hD rfl rfl (Nat.le_of_ble_eq_true rfl) (Nat.le_of_ble_eq_true rfl) dX5_isLength_16
    · skip
      have c_8 : ¬ (6 < vn) := c_8
      rw [if_neg c_8] at hres
      refine lv_iconst (v := 1) hx hb dX5_isLength_11 (by decide) ?_
      refine lv_goto (tgt := 16) hx hb dX5_isLength_12 (by decide) ?_
      subst hres
      exact kI_ret hE hS hP hD rfl rfl (Nat.le_of_ble_eq_true rfl) (Nat.le_of_ble_eq_true rfl) dX5_isLength_16
set_option maxHeartbeats 4000000 in
set_option maxRecDepth 100000 in
theorem c_X5_isTicks (l : Launch) (D : va_G) (cs : Nat → ClassId) (vn : Int32) : kI l yX5_isTicks wsX5_isTicks { frames := 0, cells := 0, slots := 0, locals := 0 } 0 0 D cs [.int vn] ([]) (k_X5_isTicks vn) ([]) := by
  generalize hres : k_X5_isTicks vn = res
  refine kI_of (cc := cX5_isTicks) (maxL := 1) (ret := (some .boolean)) (by decide) rfl (Nat.le_of_ble_eq_true rfl) ?_
  intro p e s m below meth c A ls H locs hE hS hP hD hl
  obtain ⟨hx, hb, hr, hlocks, hml, hown, hts, hK, hA, hG, hnm⟩ := id hE
  have hown : s.vm.findClass RX5 = some m.cls := hown
  have hl : lv_has ls 1 [(0, .int vn)] := hl
  unfold k_X5_isTicks at hres
  refine lv_iload_n hx hb dX5_isTicks_0 rfl (lv_at hl 0 rfl) ?_
  refine lv_iconst (v := 1) hx hb dX5_isTicks_1 (by decide) ?_
  refine lv_icmp_lt (tgt := 15) hx hb dX5_isTicks_2 (by decide) (fun c_2 => ?_) (fun c_2 => ?_)
  · skip
    have c_2 : (vn < 1) := c_2
    rw [if_pos c_2] at hres
    refine lv_iconst (v := 0) hx hb dX5_isTicks_15 (by decide) ?_
    subst hres
    exact kI_ret hE hS hP hD rfl rfl (Nat.le_of_ble_eq_true rfl) (Nat.le_of_ble_eq_true rfl) dX5_isTicks_16
  · skip
    have c_2 : ¬ (vn < 1) := c_2
    rw [if_neg c_2] at hres
    refine lv_iload_n hx hb dX5_isTicks_5 rfl (lv_at hl 0 rfl) ?_
    refine lv_bipush (v := 99) hx hb dX5_isTicks_6 (by decide) ?_
    refine lv_icmp_gt (tgt := 15) hx hb dX5_isTicks_8 (by decide) (fun c_8 => ?_) (fun c_8 => ?_)
    · skip
      have c_8 : (99 < vn) := c_8
      rw [if_pos c_8] at hres
      refine lv_iconst (v := 0) hx hb dX5_isTicks_15 (by decide) ?_
      subst hres
      exact kI_ret hE hS hP hD rfl rfl (Nat.le_of_ble_eq_true rfl) (Nat.le_of_ble_eq_true rfl) dX5_isTicks_16
    · skip
      have c_8 : ¬ (99 < vn) := c_8
      rw [if_neg c_8] at hres
      refine lv_iconst (v := 1) hx hb dX5_isTicks_11 (by decide) ?_
      refine lv_goto (tgt := 16) hx hb dX5_isTicks_12 (by decide) ?_
      subst hres
      exact kI_ret hE hS hP hD rfl rfl (Nat.le_of_ble_eq_true rfl) (Nat.le_of_ble_eq_true rfl) dX5_isTicks_16
set_option maxHeartbeats 4000000 in
set_option maxRecDepth 100000 in
theorem c_X5_isSetting (l : Launch) (D : va_G) (cs : Nat → ClassId) (vw : Int32) : kI l yX5_isSetting wsX5_isSetting { frames := 0, cells := 0, slots := 0, locals := 0 } 0 0 D cs [.int vw] ([]) (k_X5_isSetting vw) ([]) := by
  generalize hres : k_X5_isSetting vw = res
  refine kI_of (cc := cX5_isSetting) (maxL := 1) (ret := (some .boolean)) (by decide) rfl (Nat.le_of_ble_eq_true rfl) ?_
  intro p e s m below meth c A ls H locs hE hS hP hD hl
  obtain ⟨hx, hb, hr, hlocks, hml, hown, hts, hK, hA, hG, hnm⟩ := id hE
  have hown : s.vm.findClass RX5 = some m.cls := hown
  have hl : lv_has ls 1 [(0, .int vw)] := hl
  have lk_0 := hts (.fieldLink RX5 225 "OrganPegs" "SETTING_MOST" "[I") (by decide +kernel)
  obtain ⟨⟨tSM, hZ1, hT1⟩, -, -⟩ := hG.2
  unfold k_X5_isSetting at hres
  refine lv_iload_n hx hb dX5_isSetting_0 rfl (lv_at hl 0 rfl) ?_
  refine lv_if_lt (tgt := 16) hx hb dX5_isSetting_1 (by decide) (fun c_1 => ?_) (fun c_1 => ?_)
  · skip
    have c_1 : (vw < 0) := c_1
    rw [if_pos c_1] at hres
    refine lv_iconst (v := 0) hx hb dX5_isSetting_16 (by decide) ?_
    subst hres
    exact kI_ret hE hS hP hD rfl rfl (Nat.le_of_ble_eq_true rfl) (Nat.le_of_ble_eq_true rfl) dX5_isSetting_17
  · skip
    have c_1 : ¬ (vw < 0) := c_1
    rw [if_neg c_1] at hres
    refine lv_iload_n hx hb dX5_isSetting_4 rfl (lv_at hl 0 rfl) ?_
    refine va_gets hx hb hZ1 hS hown lk_0 (fun _ h9 => h9) dX5_isSetting_5 ?_
    refine va_tlen hx hb hT1 hS (v := 3) rfl dX5_isSetting_8 ?_
    refine lv_icmp_ge (tgt := 16) hx hb dX5_isSetting_9 (by decide) (fun c_9 => ?_) (fun c_9 => ?_)
    · skip
      have c_9 : (3 ≤ vw) := c_9
      rw [if_pos c_9] at hres
      refine lv_iconst (v := 0) hx hb dX5_isSetting_16 (by decide) ?_
      subst hres
      exact kI_ret hE hS hP hD rfl rfl (Nat.le_of_ble_eq_true rfl) (Nat.le_of_ble_eq_true rfl) dX5_isSetting_17
    · skip
      have c_9 : ¬ (3 ≤ vw) := c_9
      rw [if_neg c_9] at hres
      refine lv_iconst (v := 1) hx hb dX5_isSetting_12 (by decide) ?_
      refine lv_goto (tgt := 17) hx hb dX5_isSetting_13 (by decide) ?_
      subst hres
      exact kI_ret hE hS hP hD rfl rfl (Nat.le_of_ble_eq_true rfl) (Nat.le_of_ble_eq_true rfl) dX5_isSetting_17
set_option maxHeartbeats 4000000 in
set_option maxRecDepth 100000 in
theorem c_X5_isSettingValue (l : Launch) (D : va_G) (cs : Nat → ClassId) (vw : Int32) (vv : Int32) : kI l yX5_isSettingValue wsX5_isSettingValue { frames := 1, cells := 0, slots := 0, locals := 20 } 0 0 D cs [.int vw, .int vv] ([]) (k_X5_isSettingValue vw vv) ([]) := by
  generalize hres : k_X5_isSettingValue vw vv = res
  refine kI_of (cc := cX5_isSettingValue) (maxL := 2) (ret := (some .boolean)) (by decide) rfl (Nat.le_of_ble_eq_true rfl) ?_
  intro p e s m below meth c A ls H locs hE hS hP hD hl
  obtain ⟨hx, hb, hr, hlocks, hml, hown, hts, hK, hA, hG, hnm⟩ := id hE
  have hown : s.vm.findClass RX5 = some m.cls := hown
  have hl : lv_has ls 2 [(0, .int vw), (1, .int vv)] := hl
  have lk_0 := hts (.fieldLink RX5 225 "OrganPegs" "SETTING_MOST" "[I") (by decide +kernel)
  obtain ⟨⟨tSM, hZ1, hT1⟩, -, -⟩ := hG.2
  unfold k_X5_isSettingValue at hres
  refine lv_iload_n hx hb dX5_isSettingValue_0 rfl (lv_at hl 0 rfl) ?_
  have hP : va_P D vwCl ([] ++ []) H := hP
  have hD : va_D A ([] ++ []) := hD
  have hc_1 := c_X5_isSetting l D cs vw
  refine kI_call (wc := []) (wr := []) (w1 := []) (r := (k_X5_isSetting vw)) hE hP hD hS (k_rS (rest := []) (As := [.int vw]) hE rfl (hc_1 H.size) (va_cwS 1 hts gX5_isSettingValue_X5_isSetting rfl rfl rfl (by decide +kernel) ⟨Nat.le_of_ble_eq_true rfl, Nat.le_of_ble_eq_true rfl⟩) hP hD hS rfl hl rfl (Nat.le_of_ble_eq_true rfl) ⟨Nat.le_of_ble_eq_true rfl, Nat.le_of_ble_eq_true rfl⟩ dX5_isSettingValue_1) (fun H locs hP hD hS => ?_)
  have hP : va_P D vwCl ([]) H := hP
  have hD : va_D A ([]) := hD
  refine lv_if_eq (tgt := 24) hx hb dX5_isSettingValue_4 (by decide) (fun c_4 => ?_) (fun c_4 => ?_)
  · skip
    have c_4 : ((k_X5_isSetting vw) = 0) := c_4
    rw [if_pos c_4] at hres
    refine lv_iconst (v := 0) hx hb dX5_isSettingValue_24 (by decide) ?_
    subst hres
    exact kI_ret hE hS hP hD rfl rfl (Nat.le_of_ble_eq_true rfl) (Nat.le_of_ble_eq_true rfl) dX5_isSettingValue_25
  · skip
    have c_4 : ¬ ((k_X5_isSetting vw) = 0) := c_4
    rw [if_neg c_4] at hres
    refine lv_iload_n hx hb dX5_isSettingValue_7 rfl (lv_at hl 1 rfl) ?_
    refine lv_if_lt (tgt := 24) hx hb dX5_isSettingValue_8 (by decide) (fun c_8 => ?_) (fun c_8 => ?_)
    · skip
      have c_8 : (vv < 0) := c_8
      rw [if_pos c_8] at hres
      refine lv_iconst (v := 0) hx hb dX5_isSettingValue_24 (by decide) ?_
      subst hres
      exact kI_ret hE hS hP hD rfl rfl (Nat.le_of_ble_eq_true rfl) (Nat.le_of_ble_eq_true rfl) dX5_isSettingValue_25
    · skip
      have c_8 : ¬ (vv < 0) := c_8
      rw [if_neg c_8] at hres
      refine lv_iload_n hx hb dX5_isSettingValue_11 rfl (lv_at hl 1 rfl) ?_
      refine va_gets hx hb hZ1 hS hown lk_0 (fun _ h9 => h9) dX5_isSettingValue_12 ?_
      refine lv_iload_n hx hb dX5_isSettingValue_15 rfl (lv_at hl 0 rfl) ?_
      refine va_ti hx hb hT1 hS (v := .int (x_sm vw)) (sm_in c_4) rfl dX5_isSettingValue_16 ?_
      refine lv_icmp_gt (tgt := 24) hx hb dX5_isSettingValue_17 (by decide) (fun c_17 => ?_) (fun c_17 => ?_)
      · skip
        have c_17 : ((x_sm vw) < vv) := c_17
        rw [if_pos c_17] at hres
        refine lv_iconst (v := 0) hx hb dX5_isSettingValue_24 (by decide) ?_
        subst hres
        exact kI_ret hE hS hP hD rfl rfl (Nat.le_of_ble_eq_true rfl) (Nat.le_of_ble_eq_true rfl) dX5_isSettingValue_25
      · skip
        have c_17 : ¬ ((x_sm vw) < vv) := c_17
        rw [if_neg c_17] at hres
        refine lv_iconst (v := 1) hx hb dX5_isSettingValue_20 (by decide) ?_
        refine lv_goto (tgt := 25) hx hb dX5_isSettingValue_21 (by decide) ?_
        subst hres
        exact kI_ret hE hS hP hD rfl rfl (Nat.le_of_ble_eq_true rfl) (Nat.le_of_ble_eq_true rfl) dX5_isSettingValue_25
set_option maxHeartbeats 4000000 in
set_option maxRecDepth 100000 in
theorem c_X5_span (l : Launch) (D : va_G) (cs : Nat → ClassId) (vb : Int32) (vn : Int32) : kI l yX5_span wsX5_span { frames := 0, cells := 0, slots := 0, locals := 0 } 0 0 D cs [.int vb, .int vn] ([]) (k_X5_span vb vn) ([]) := by
  generalize hres : k_X5_span vb vn = res
  refine kI_of (cc := cX5_span) (maxL := 4) (ret := (some .int)) (by decide) rfl (Nat.le_of_ble_eq_true rfl) ?_
  intro p e s m below meth c A ls H locs hE hS hP hD hl
  obtain ⟨hx, hb, hr, hlocks, hml, hown, hts, hK, hA, hG, hnm⟩ := id hE
  have hown : s.vm.findClass RX5 = some m.cls := hown
  have hl : lv_has ls 4 [(0, .int vb), (1, .int vn)] := hl
  have lk_0 := hts (.constant RX5 293 16777215) (by decide +kernel)
  unfold k_X5_span at hres
  refine lv_iconst (v := 1) hx hb dX5_span_0 (by decide) ?_
  refine lv_iload_n hx hb dX5_span_1 rfl (lv_at hl 1 rfl) ?_
  refine lv_ishl hx hb dX5_span_2 ?_
  refine lv_iconst (v := 1) hx hb dX5_span_3 (by decide) ?_
  refine lv_isub hx hb dX5_span_4 ?_
  refine lv_iload_n hx hb dX5_span_5 rfl (lv_at hl 0 rfl) ?_
  refine lv_ishl hx hb dX5_span_6 ?_
  refine lv_istore_n (lv' := [(2, .int ((((1 : Int32) <<< (vn &&& 31)) - 1) <<< (vb &&& 31))), (0, .int vb), (1, .int vn)]) hx hb dX5_span_7 rfl hl (by decide) rfl (fun ls hl => ?_)
  refine lv_iload_n hx hb dX5_span_8 rfl (lv_at hl 0 rfl) ?_
  refine lv_iload_n hx hb dX5_span_9 rfl (lv_at hl 0 rfl) ?_
  refine lv_bipush (v := 24) hx hb dX5_span_10 (by decide) ?_
  refine lv_iushr hx hb dX5_span_12 rfl ?_
  refine lv_ior hx hb dX5_span_13 ?_
  refine lv_istore_n (lv' := [(3, .int (((((1 : Int32) <<< (vn &&& 31)) - 1) <<< (vb &&& 31)) ||| (x_ushr ((((1 : Int32) <<< (vn &&& 31)) - 1) <<< (vb &&& 31)) 24))), (2, .int ((((1 : Int32) <<< (vn &&& 31)) - 1) <<< (vb &&& 31))), (0, .int vb), (1, .int vn)]) hx hb dX5_span_14 rfl hl (by decide) rfl (fun ls hl => ?_)
  refine lv_iload_n hx hb dX5_span_15 rfl (lv_at hl 0 rfl) ?_
  refine lv_ldcw (v := 16777215) hx hb hown lk_0 dX5_span_16 ?_
  refine lv_iand hx hb dX5_span_19 ?_
  subst hres
  exact kI_ret hE hS hP hD rfl rfl (Nat.le_of_ble_eq_true rfl) (Nat.le_of_ble_eq_true rfl) dX5_span_20
set_option maxHeartbeats 4000000 in
set_option maxRecDepth 100000 in
theorem c_J6_bitCount_0f7a4 (l : Launch) (D : va_G) (cs : Nat → ClassId) (vx : Int32) : kI l yJ6_bitCount_0f7a4 wsJ6_bitCount_0f7a4 { frames := 0, cells := 0, slots := 0, locals := 0 } 0 0 D cs [.int vx] ([]) (k_J6_bitCount_0f7a4 vx) ([]) := by
  generalize hres : k_J6_bitCount_0f7a4 vx = res
  refine kI_of (cc := cJ6_bitCount_0f7a4) (maxL := 1) (ret := (some .int)) (by decide) rfl (Nat.le_of_ble_eq_true rfl) ?_
  intro p e s m below meth c A ls H locs hE hS hP hD hl
  obtain ⟨hx, hb, hr, hlocks, hml, hown, hts, hK, hA, hG, hnm⟩ := id hE
  have hown : s.vm.findClass RJ6 = some m.cls := hown
  have hl : lv_has ls 1 [(0, .int vx)] := hl
  have lk_0 := hts (.constant RJ6 265 1431655765) (by decide +kernel)
  have lk_1 := hts (.constant RJ6 266 858993459) (by decide +kernel)
  have lk_2 := hts (.constant RJ6 267 252645135) (by decide +kernel)
  unfold k_J6_bitCount_0f7a4 at hres
  refine lv_iload_n hx hb dJ6_bitCount_0f7a4_0 rfl (lv_at hl 0 rfl) ?_
  refine lv_iload_n hx hb dJ6_bitCount_0f7a4_1 rfl (lv_at hl 0 rfl) ?_
  refine lv_iconst (v := 1) hx hb dJ6_bitCount_0f7a4_2 (by decide) ?_
  refine lv_iushr hx hb dJ6_bitCount_0f7a4_3 rfl ?_
  refine lv_ldcw (v := 1431655765) hx hb hown lk_0 dJ6_bitCount_0f7a4_4 ?_
  refine lv_iand hx hb dJ6_bitCount_0f7a4_7 ?_
  refine lv_isub hx hb dJ6_bitCount_0f7a4_8 ?_
  refine lv_istore_n (lv' := [(0, .int (vx - ((x_ushr vx 1) &&& 1431655765)))]) hx hb dJ6_bitCount_0f7a4_9 rfl hl (by decide) rfl (fun ls hl => ?_)
  refine lv_iload_n hx hb dJ6_bitCount_0f7a4_10 rfl (lv_at hl 0 rfl) ?_
  refine lv_ldcw (v := 858993459) hx hb hown lk_1 dJ6_bitCount_0f7a4_11 ?_
  refine lv_iand hx hb dJ6_bitCount_0f7a4_14 ?_
  refine lv_iload_n hx hb dJ6_bitCount_0f7a4_15 rfl (lv_at hl 0 rfl) ?_
  refine lv_iconst (v := 2) hx hb dJ6_bitCount_0f7a4_16 (by decide) ?_
  refine lv_iushr hx hb dJ6_bitCount_0f7a4_17 rfl ?_
  refine lv_ldcw (v := 858993459) hx hb hown lk_1 dJ6_bitCount_0f7a4_18 ?_
  refine lv_iand hx hb dJ6_bitCount_0f7a4_21 ?_
  refine lv_iadd hx hb dJ6_bitCount_0f7a4_22 ?_
  refine lv_istore_n (lv' := [(0, .int (((vx - ((x_ushr vx 1) &&& 1431655765)) &&& 858993459) + ((x_ushr (vx - ((x_ushr vx 1) &&& 1431655765)) 2) &&& 858993459)))]) hx hb dJ6_bitCount_0f7a4_23 rfl hl (by decide) rfl (fun ls hl => ?_)
  refine lv_iload_n hx hb dJ6_bitCount_0f7a4_24 rfl (lv_at hl 0 rfl) ?_
  refine lv_iload_n hx hb dJ6_bitCount_0f7a4_25 rfl (lv_at hl 0 rfl) ?_
  refine lv_iconst (v := 4) hx hb dJ6_bitCount_0f7a4_26 (by decide) ?_
  refine lv_iushr hx hb dJ6_bitCount_0f7a4_27 rfl ?_
  refine lv_iadd hx hb dJ6_bitCount_0f7a4_28 ?_
  refine lv_ldcw (v := 252645135) hx hb hown lk_2 dJ6_bitCount_0f7a4_29 ?_
  refine lv_iand hx hb dJ6_bitCount_0f7a4_32 ?_
  refine lv_istore_n (lv' := [(0, .int (((((vx - ((x_ushr vx 1) &&& 1431655765)) &&& 858993459) + ((x_ushr (vx - ((x_ushr vx 1) &&& 1431655765)) 2) &&& 858993459)) + (x_ushr (((vx - ((x_ushr vx 1) &&& 1431655765)) &&& 858993459) + ((x_ushr (vx - ((x_ushr vx 1) &&& 1431655765)) 2) &&& 858993459)) 4)) &&& 252645135))]) hx hb dJ6_bitCount_0f7a4_33 rfl hl (by decide) rfl (fun ls hl => ?_)
  refine lv_iload_n hx hb dJ6_bitCount_0f7a4_34 rfl (lv_at hl 0 rfl) ?_
  refine lv_iload_n hx hb dJ6_bitCount_0f7a4_35 rfl (lv_at hl 0 rfl) ?_
  refine lv_bipush (v := 8) hx hb dJ6_bitCount_0f7a4_36 (by decide) ?_
  refine lv_iushr hx hb dJ6_bitCount_0f7a4_38 rfl ?_
  refine lv_iadd hx hb dJ6_bitCount_0f7a4_39 ?_
  refine lv_istore_n (lv' := [(0, .int ((((((vx - ((x_ushr vx 1) &&& 1431655765)) &&& 858993459) + ((x_ushr (vx - ((x_ushr vx 1) &&& 1431655765)) 2) &&& 858993459)) + (x_ushr (((vx - ((x_ushr vx 1) &&& 1431655765)) &&& 858993459) + ((x_ushr (vx - ((x_ushr vx 1) &&& 1431655765)) 2) &&& 858993459)) 4)) &&& 252645135) + (x_ushr (((((vx - ((x_ushr vx 1) &&& 1431655765)) &&& 858993459) + ((x_ushr (vx - ((x_ushr vx 1) &&& 1431655765)) 2) &&& 858993459)) + (x_ushr (((vx - ((x_ushr vx 1) &&& 1431655765)) &&& 858993459) + ((x_ushr (vx - ((x_ushr vx 1) &&& 1431655765)) 2) &&& 858993459)) 4)) &&& 252645135) 8)))]) hx hb dJ6_bitCount_0f7a4_40 rfl hl (by decide) rfl (fun ls hl => ?_)
  refine lv_iload_n hx hb dJ6_bitCount_0f7a4_41 rfl (lv_at hl 0 rfl) ?_
  refine lv_iload_n hx hb dJ6_bitCount_0f7a4_42 rfl (lv_at hl 0 rfl) ?_
  refine lv_bipush (v := 16) hx hb dJ6_bitCount_0f7a4_43 (by decide) ?_
  refine lv_iushr hx hb dJ6_bitCount_0f7a4_45 rfl ?_
  refine lv_iadd hx hb dJ6_bitCount_0f7a4_46 ?_
  refine lv_istore_n (lv' := [(0, .int (((((((vx - ((x_ushr vx 1) &&& 1431655765)) &&& 858993459) + ((x_ushr (vx - ((x_ushr vx 1) &&& 1431655765)) 2) &&& 858993459)) + (x_ushr (((vx - ((x_ushr vx 1) &&& 1431655765)) &&& 858993459) + ((x_ushr (vx - ((x_ushr vx 1) &&& 1431655765)) 2) &&& 858993459)) 4)) &&& 252645135) + (x_ushr (((((vx - ((x_ushr vx 1) &&& 1431655765)) &&& 858993459) + ((x_ushr (vx - ((x_ushr vx 1) &&& 1431655765)) 2) &&& 858993459)) + (x_ushr (((vx - ((x_ushr vx 1) &&& 1431655765)) &&& 858993459) + ((x_ushr (vx - ((x_ushr vx 1) &&& 1431655765)) 2) &&& 858993459)) 4)) &&& 252645135) 8)) + (x_ushr ((((((vx - ((x_ushr vx 1) &&& 1431655765)) &&& 858993459) + ((x_ushr (vx - ((x_ushr vx 1) &&& 1431655765)) 2) &&& 858993459)) + (x_ushr (((vx - ((x_ushr vx 1) &&& 1431655765)) &&& 858993459) + ((x_ushr (vx - ((x_ushr vx 1) &&& 1431655765)) 2) &&& 858993459)) 4)) &&& 252645135) + (x_ushr (((((vx - ((x_ushr vx 1) &&& 1431655765)) &&& 858993459) + ((x_ushr (vx - ((x_ushr vx 1) &&& 1431655765)) 2) &&& 858993459)) + (x_ushr (((vx - ((x_ushr vx 1) &&& 1431655765)) &&& 858993459) + ((x_ushr (vx - ((x_ushr vx 1) &&& 1431655765)) 2) &&& 858993459)) 4)) &&& 252645135) 8)) 16)))]) hx hb dJ6_bitCount_0f7a4_47 rfl hl (by decide) rfl (fun ls hl => ?_)
  refine lv_iload_n hx hb dJ6_bitCount_0f7a4_48 rfl (lv_at hl 0 rfl) ?_
  refine lv_bipush (v := 63) hx hb dJ6_bitCount_0f7a4_49 (by decide) ?_
  refine lv_iand hx hb dJ6_bitCount_0f7a4_51 ?_
  subst hres
  exact kI_ret hE hS hP hD rfl rfl (Nat.le_of_ble_eq_true rfl) (Nat.le_of_ble_eq_true rfl) dJ6_bitCount_0f7a4_52
