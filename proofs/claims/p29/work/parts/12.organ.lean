set_option maxHeartbeats 4000000 in
set_option maxRecDepth 100000 in
theorem c_X1_soundedAgo (l : Launch) (D : va_G) (cs : Nat → ClassId) (ad : Nat → Nat) (o : OV) (vt : Int32) : kI l yX1_soundedAgo wsX1_soundedAgo { frames := 0, cells := 0, slots := 0, locals := 0 } 0 0 D cs [.ref (ad 0), .int vt] (og_W cs ad o) (k_X1_soundedAgo o vt) (og_W cs ad o) := by
  generalize hres : k_X1_soundedAgo o vt = res
  refine kI_of (cc := cX1_soundedAgo) (maxL := 2) (ret := (some .int)) (by decide) rfl (Nat.le_of_ble_eq_true rfl) ?_
  intro p e s m below meth c A ls H locs hE hS hP hD hl
  obtain ⟨hx, hb, hr, hlocks, hml, hown, hts, hK, hA, hG, hnm⟩ := id hE
  have hown : s.vm.findClass RX1 = some m.cls := hown
  have hl : lv_has ls 2 [(0, .ref (ad 0)), (1, .int vt)] := hl
  have hinX1 : ∀ w ∈ wsX10, w ∈ wsX1_soundedAgo := by decide +kernel
  have lk_0 := hts (.fieldLink RX1 63 "OrganPegs$Organ" "past" "J") (by decide +kernel)
  unfold k_X1_soundedAgo at hres
  refine lv_aload_n hx hb dX1_soundedAgo_0 rfl (lv_at hl 0 rfl) ?_
  refine va_get (D := D) (ci := 1) (v := .long o.2.1) (C := RX1) (T := TX1) (N := 17) hx hb hts hinX1 hown hK hP 0 rfl rfl 11 (by decide) lk_0 (fun _ h9 => h9) rfl dX1_soundedAgo_1 ?_
  refine lv_bipush (v := 6) hx hb dX1_soundedAgo_4 (by decide) ?_
  refine lv_iload_n hx hb dX1_soundedAgo_6 rfl (lv_at hl 1 rfl) ?_
  refine lv_imul hx hb dX1_soundedAgo_7 ?_
  refine lv_lushr hx hb dX1_soundedAgo_8 rfl ?_
  refine lv_l2i hx hb dX1_soundedAgo_9 rfl ?_
  refine lv_bipush (v := 63) hx hb dX1_soundedAgo_10 (by decide) ?_
  refine lv_iand hx hb dX1_soundedAgo_12 ?_
  subst hres
  exact kI_ret hE hS hP hD rfl rfl (Nat.le_of_ble_eq_true rfl) (Nat.le_of_ble_eq_true rfl) dX1_soundedAgo_13
set_option maxHeartbeats 4000000 in
set_option maxRecDepth 100000 in
theorem c_X1_tell (l : Launch) (D : va_G) (cs : Nat → ClassId) (ad : Nat → Nat) (o : OV) (what : Int32) : kI l yX1_tell wsX1_tell { frames := 1, cells := 0, slots := 0, locals := 21 } 0 0 D cs [.ref (ad 0), .int what] (og_W cs ad o) (k_X1_tell o what) (og_W cs ad o) := by
  generalize hres : k_X1_tell o what = res
  refine kI_of (cc := cX1_tell) (maxL := 2) (ret := (some .int)) (by decide) rfl (Nat.le_of_ble_eq_true rfl) ?_
  intro p e s m below meth c A ls H locs hE hS hP hD hl
  obtain ⟨hx, hb, hr, hlocks, hml, hown, hts, hK, hA, hG, hnm⟩ := id hE
  have hown : s.vm.findClass RX1 = some m.cls := hown
  have hl : lv_has ls 2 [(0, .ref (ad 0)), (1, .int what)] := hl
  have hinX1 : ∀ w ∈ wsX10, w ∈ wsX1_tell := by decide +kernel
  have hinX4 : ∀ w ∈ wsX40, w ∈ wsX1_tell := by decide +kernel
  have lk_0 := hts (.fieldLink RX1 16 "OrganPegs$Organ" "pegs" "LOrganPegs$Table;") (by decide +kernel)
  have lk_1 := hts (.fieldLink RX1 20 "OrganPegs$Organ" "orders" "LOrganPegs$Table;") (by decide +kernel)
  have lk_2 := hts (.fieldLink RX1 48 "OrganPegs$Organ" "time" "I") (by decide +kernel)
  have lk_3 := hts (.fieldLink RX1 51 "OrganPegs$Organ" "comb" "I") (by decide +kernel)
  have lk_4 := hts (.fieldLink RX1 54 "OrganPegs$Organ" "turns" "I") (by decide +kernel)
  have lk_5 := hts (.fieldLink RX1 57 "OrganPegs$Organ" "version" "I") (by decide +kernel)
  have lk_6 := hts (.fieldLink RX1 60 "OrganPegs$Organ" "wind" "I") (by decide +kernel)
  have lk_7 := hts (.fieldLink RX1 67 "OrganPegs$Organ" "heard" "I") (by decide +kernel)
  have lk_8 := hts (.fieldLink RX1 70 "OrganPegs$Organ" "notes" "I") (by decide +kernel)
  have lk_9 := hts (.fieldLink RX1 73 "OrganPegs$Organ" "lacks" "I") (by decide +kernel)
  have lk_10 := hts (.fieldLink RX1 76 "OrganPegs$Organ" "voids" "I") (by decide +kernel)
  unfold k_X1_tell at hres
  refine lv_iload_n hx hb dX1_tell_0 rfl (lv_at hl 1 rfl) ?_
  by_cases c_1_0 : what = 0
  · skip
    rw [if_pos c_1_0] at hres
    refine lv_tableIn (tgt := 60) (off := 59) hx hb dX1_tell_1 (by rw [c_1_0]; decide) (by rw [c_1_0]; decide) (by rw [c_1_0]; rfl) (by decide) ?_
    refine lv_aload_n hx hb dX1_tell_60 rfl (lv_at hl 0 rfl) ?_
    refine va_get (D := D) (ci := 1) (v := .ref (ad 1)) (C := RX1) (T := TX1) (N := 17) hx hb hts hinX1 hown hK hP 0 rfl rfl 0 (by decide) lk_0 (fun _ h9 => h9) rfl dX1_tell_61 ?_
    refine va_getN (D := D) (ci := 4) (v := .int (o.1 10)) (C := RX4) (T := TX4) (N := 4) hx hb hts hinX4 hown hK hP 1 rfl rfl 3 (by decide) (va_Nw.use rfl (hG.1.1 _ _ _ _ _ _ nf_X1_79)) (fun _ h9 => h9) rfl dX1_tell_64 ?_
    subst hres
    exact kI_ret hE hS hP hD rfl rfl (Nat.le_of_ble_eq_true rfl) (Nat.le_of_ble_eq_true rfl) dX1_tell_67
  · skip
    rw [if_neg c_1_0] at hres
    by_cases c_1_1 : what = 1
    · skip
      rw [if_pos c_1_1] at hres
      refine lv_tableIn (tgt := 68) (off := 67) hx hb dX1_tell_1 (by rw [c_1_1]; decide) (by rw [c_1_1]; decide) (by rw [c_1_1]; rfl) (by decide) ?_
      refine lv_aload_n hx hb dX1_tell_68 rfl (lv_at hl 0 rfl) ?_
      refine va_get (D := D) (ci := 1) (v := .ref (ad 2)) (C := RX1) (T := TX1) (N := 17) hx hb hts hinX1 hown hK hP 0 rfl rfl 1 (by decide) lk_1 (fun _ h9 => h9) rfl dX1_tell_69 ?_
      refine va_getN (D := D) (ci := 4) (v := .int (o.1 11)) (C := RX4) (T := TX4) (N := 4) hx hb hts hinX4 hown hK hP 3 rfl rfl 3 (by decide) (va_Nw.use rfl (hG.1.1 _ _ _ _ _ _ nf_X1_79)) (fun _ h9 => h9) rfl dX1_tell_72 ?_
      subst hres
      exact kI_ret hE hS hP hD rfl rfl (Nat.le_of_ble_eq_true rfl) (Nat.le_of_ble_eq_true rfl) dX1_tell_75
    · skip
      rw [if_neg c_1_1] at hres
      by_cases c_1_2 : what = 2
      · skip
        rw [if_pos c_1_2] at hres
        refine lv_tableIn (tgt := 76) (off := 75) hx hb dX1_tell_1 (by rw [c_1_2]; decide) (by rw [c_1_2]; decide) (by rw [c_1_2]; rfl) (by decide) ?_
        refine lv_aload_n hx hb dX1_tell_76 rfl (lv_at hl 0 rfl) ?_
        refine va_get (D := D) (ci := 1) (v := .int (o.1 0)) (C := RX1) (T := TX1) (N := 17) hx hb hts hinX1 hown hK hP 0 rfl rfl 6 (by decide) lk_2 (fun _ h9 => h9) rfl dX1_tell_77 ?_
        subst hres
        exact kI_ret hE hS hP hD rfl rfl (Nat.le_of_ble_eq_true rfl) (Nat.le_of_ble_eq_true rfl) dX1_tell_80
      · skip
        rw [if_neg c_1_2] at hres
        by_cases c_1_3 : what = 3
        · skip
          rw [if_pos c_1_3] at hres
          refine lv_tableIn (tgt := 81) (off := 80) hx hb dX1_tell_1 (by rw [c_1_3]; decide) (by rw [c_1_3]; decide) (by rw [c_1_3]; rfl) (by decide) ?_
          refine lv_aload_n hx hb dX1_tell_81 rfl (lv_at hl 0 rfl) ?_
          refine va_get (D := D) (ci := 1) (v := .int (o.1 1)) (C := RX1) (T := TX1) (N := 17) hx hb hts hinX1 hown hK hP 0 rfl rfl 7 (by decide) lk_3 (fun _ h9 => h9) rfl dX1_tell_82 ?_
          subst hres
          exact kI_ret hE hS hP hD rfl rfl (Nat.le_of_ble_eq_true rfl) (Nat.le_of_ble_eq_true rfl) dX1_tell_85
        · skip
          rw [if_neg c_1_3] at hres
          by_cases c_1_4 : what = 4
          · skip
            rw [if_pos c_1_4] at hres
            refine lv_tableIn (tgt := 86) (off := 85) hx hb dX1_tell_1 (by rw [c_1_4]; decide) (by rw [c_1_4]; decide) (by rw [c_1_4]; rfl) (by decide) ?_
            refine lv_aload_n hx hb dX1_tell_86 rfl (lv_at hl 0 rfl) ?_
            refine va_get (D := D) (ci := 1) (v := .int (o.1 2)) (C := RX1) (T := TX1) (N := 17) hx hb hts hinX1 hown hK hP 0 rfl rfl 8 (by decide) lk_4 (fun _ h9 => h9) rfl dX1_tell_87 ?_
            subst hres
            exact kI_ret hE hS hP hD rfl rfl (Nat.le_of_ble_eq_true rfl) (Nat.le_of_ble_eq_true rfl) dX1_tell_90
          · skip
            rw [if_neg c_1_4] at hres
            by_cases c_1_5 : what = 5
            · skip
              rw [if_pos c_1_5] at hres
              refine lv_tableIn (tgt := 91) (off := 90) hx hb dX1_tell_1 (by rw [c_1_5]; decide) (by rw [c_1_5]; decide) (by rw [c_1_5]; rfl) (by decide) ?_
              refine lv_aload_n hx hb dX1_tell_91 rfl (lv_at hl 0 rfl) ?_
              refine va_get (D := D) (ci := 1) (v := .int (o.1 3)) (C := RX1) (T := TX1) (N := 17) hx hb hts hinX1 hown hK hP 0 rfl rfl 9 (by decide) lk_5 (fun _ h9 => h9) rfl dX1_tell_92 ?_
              subst hres
              exact kI_ret hE hS hP hD rfl rfl (Nat.le_of_ble_eq_true rfl) (Nat.le_of_ble_eq_true rfl) dX1_tell_95
            · skip
              rw [if_neg c_1_5] at hres
              by_cases c_1_6 : what = 6
              · skip
                rw [if_pos c_1_6] at hres
                refine lv_tableIn (tgt := 96) (off := 95) hx hb dX1_tell_1 (by rw [c_1_6]; decide) (by rw [c_1_6]; decide) (by rw [c_1_6]; rfl) (by decide) ?_
                refine lv_aload_n hx hb dX1_tell_96 rfl (lv_at hl 0 rfl) ?_
                refine va_get (D := D) (ci := 1) (v := .int (o.1 4)) (C := RX1) (T := TX1) (N := 17) hx hb hts hinX1 hown hK hP 0 rfl rfl 10 (by decide) lk_6 (fun _ h9 => h9) rfl dX1_tell_97 ?_
                subst hres
                exact kI_ret hE hS hP hD rfl rfl (Nat.le_of_ble_eq_true rfl) (Nat.le_of_ble_eq_true rfl) dX1_tell_100
              · skip
                rw [if_neg c_1_6] at hres
                by_cases c_1_7 : what = 7
                · skip
                  rw [if_pos c_1_7] at hres
                  refine lv_tableIn (tgt := 101) (off := 100) hx hb dX1_tell_1 (by rw [c_1_7]; decide) (by rw [c_1_7]; decide) (by rw [c_1_7]; rfl) (by decide) ?_
                  refine lv_aload_n hx hb dX1_tell_101 rfl (lv_at hl 0 rfl) ?_
                  refine lv_iconst (v := 0) hx hb dX1_tell_102 (by decide) ?_
                  have hP : va_P D vwCl ((og_W cs ad o) ++ []) H := k_nP hP
                  have hD : va_D A ((og_W cs ad o) ++ []) := k_nD hD
                  have hc_103 := c_X1_soundedAgo l D cs ad o 0
                  refine kI_call (wc := (og_W cs ad o)) (wr := []) (w1 := og_W cs ad o) (r := (k_X1_soundedAgo o 0)) hE hP hD hS (k_rV (rest := []) (As := [.int 0]) hE rfl (hc_103 H.size) (cwV 1 hts gX1_tell_X1_soundedAgo rfl rfl rfl (by decide +kernel) ⟨Nat.le_of_ble_eq_true rfl, Nat.le_of_ble_eq_true rfl⟩) hP hD hS (ci := 1) (q0 := 0) rfl rfl rfl hl rfl (Nat.le_of_ble_eq_true rfl) ⟨Nat.le_of_ble_eq_true rfl, Nat.le_of_ble_eq_true rfl⟩ dX1_tell_103) (fun H locs hP hD hS => ?_)
                  have hP := k_uP hP
                  have hD := k_uD hD
                  have hP : va_P D vwCl (og_W cs ad o) H := hP
                  have hD : va_D A (og_W cs ad o) := hD
                  subst hres
                  exact kI_ret hE hS hP hD rfl rfl (Nat.le_of_ble_eq_true rfl) (Nat.le_of_ble_eq_true rfl) dX1_tell_106
                · skip
                  rw [if_neg c_1_7] at hres
                  by_cases c_1_8 : what = 8
                  · skip
                    rw [if_pos c_1_8] at hres
                    refine lv_tableIn (tgt := 107) (off := 106) hx hb dX1_tell_1 (by rw [c_1_8]; decide) (by rw [c_1_8]; decide) (by rw [c_1_8]; rfl) (by decide) ?_
                    refine lv_aload_n hx hb dX1_tell_107 rfl (lv_at hl 0 rfl) ?_
                    refine va_get (D := D) (ci := 1) (v := .int (o.1 5)) (C := RX1) (T := TX1) (N := 17) hx hb hts hinX1 hown hK hP 0 rfl rfl 12 (by decide) lk_7 (fun _ h9 => h9) rfl dX1_tell_108 ?_
                    subst hres
                    exact kI_ret hE hS hP hD rfl rfl (Nat.le_of_ble_eq_true rfl) (Nat.le_of_ble_eq_true rfl) dX1_tell_111
                  · skip
                    rw [if_neg c_1_8] at hres
                    by_cases c_1_9 : what = 9
                    · skip
                      rw [if_pos c_1_9] at hres
                      refine lv_tableIn (tgt := 112) (off := 111) hx hb dX1_tell_1 (by rw [c_1_9]; decide) (by rw [c_1_9]; decide) (by rw [c_1_9]; rfl) (by decide) ?_
                      refine lv_aload_n hx hb dX1_tell_112 rfl (lv_at hl 0 rfl) ?_
                      refine va_get (D := D) (ci := 1) (v := .int (o.1 6)) (C := RX1) (T := TX1) (N := 17) hx hb hts hinX1 hown hK hP 0 rfl rfl 13 (by decide) lk_8 (fun _ h9 => h9) rfl dX1_tell_113 ?_
                      subst hres
                      exact kI_ret hE hS hP hD rfl rfl (Nat.le_of_ble_eq_true rfl) (Nat.le_of_ble_eq_true rfl) dX1_tell_116
                    · skip
                      rw [if_neg c_1_9] at hres
                      by_cases c_1_10 : what = 10
                      · skip
                        rw [if_pos c_1_10] at hres
                        refine lv_tableIn (tgt := 117) (off := 116) hx hb dX1_tell_1 (by rw [c_1_10]; decide) (by rw [c_1_10]; decide) (by rw [c_1_10]; rfl) (by decide) ?_
                        refine lv_aload_n hx hb dX1_tell_117 rfl (lv_at hl 0 rfl) ?_
                        refine va_get (D := D) (ci := 1) (v := .int (o.1 7)) (C := RX1) (T := TX1) (N := 17) hx hb hts hinX1 hown hK hP 0 rfl rfl 14 (by decide) lk_9 (fun _ h9 => h9) rfl dX1_tell_118 ?_
                        subst hres
                        exact kI_ret hE hS hP hD rfl rfl (Nat.le_of_ble_eq_true rfl) (Nat.le_of_ble_eq_true rfl) dX1_tell_121
                      · skip
                        rw [if_neg c_1_10] at hres
                        refine lv_tableOut (tgt := 122) hx hb dX1_tell_1 (x_out what 0 11 (by decide) (by intro j hj; match j, hj with | 0, _ => exact c_1_0 | 1, _ => exact c_1_1 | 2, _ => exact c_1_2 | 3, _ => exact c_1_3 | 4, _ => exact c_1_4 | 5, _ => exact c_1_5 | 6, _ => exact c_1_6 | 7, _ => exact c_1_7 | 8, _ => exact c_1_8 | 9, _ => exact c_1_9 | 10, _ => exact c_1_10 | n + 11, hj => exact absurd hj (by omega))) (by decide) ?_
                        refine lv_aload_n hx hb dX1_tell_122 rfl (lv_at hl 0 rfl) ?_
                        refine va_get (D := D) (ci := 1) (v := .int (o.1 8)) (C := RX1) (T := TX1) (N := 17) hx hb hts hinX1 hown hK hP 0 rfl rfl 15 (by decide) lk_10 (fun _ h9 => h9) rfl dX1_tell_123 ?_
                        subst hres
                        exact kI_ret hE hS hP hD rfl rfl (Nat.le_of_ble_eq_true rfl) (Nat.le_of_ble_eq_true rfl) dX1_tell_126
set_option maxHeartbeats 4000000 in
set_option maxRecDepth 100000 in
theorem c_X1_settingOf (l : Launch) (D : va_G) (cs : Nat → ClassId) (ad : Nat → Nat) (o : OV) (vw : Int32) : kI l yX1_settingOf wsX1_settingOf { frames := 1, cells := 0, slots := 0, locals := 20 } 0 0 D cs [.ref (ad 0), .int vw] (og_W cs ad o) (k_X1_settingOf o vw) (og_W cs ad o) := by
  generalize hres : k_X1_settingOf o vw = res
  refine kI_of (cc := cX1_settingOf) (maxL := 2) (ret := (some .int)) (by decide) rfl (Nat.le_of_ble_eq_true rfl) ?_
  intro p e s m below meth c A ls H locs hE hS hP hD hl
  obtain ⟨hx, hb, hr, hlocks, hml, hown, hts, hK, hA, hG, hnm⟩ := id hE
  have hown : s.vm.findClass RX1 = some m.cls := hown
  have hl : lv_has ls 2 [(0, .ref (ad 0)), (1, .int vw)] := hl
  have hinX1 : ∀ w ∈ wsX10, w ∈ wsX1_settingOf := by decide +kernel
  have lk_0 := hts (.initialized RX5) (by decide +kernel)
  have lk_1 := hts (.static yX5_isSetting) (by decide +kernel)
  have lk_2 := hts (.fieldLink RX1 33 "OrganPegs$Organ" "settings" "[I") (by decide +kernel)
  unfold k_X1_settingOf at hres
  refine lv_iload_n hx hb dX1_settingOf_0 rfl (lv_at hl 1 rfl) ?_
  have hP : va_P D vwCl ([] ++ (og_W cs ad o)) H := hP
  have hD : va_D A ([] ++ (og_W cs ad o)) := hD
  have hc_1 := c_X5_isSetting l D cs vw
  refine kI_call (wc := []) (wr := (og_W cs ad o)) (w1 := []) (r := (k_X5_isSetting vw)) hE hP hD hS (k_rSN (rest := []) (As := [.int vw]) hE rfl (hc_1 H.size) ⟨va_cnB 1 hts gX1_settingOf_X5_isSetting_n106 rfl rfl rfl (hG.1.2.1 _ _ _ _ nm_X1_106) lk_0 (by decide +kernel) ⟨Nat.le_of_ble_eq_true rfl, Nat.le_of_ble_eq_true rfl⟩, lk_1, trivial⟩ hP hD hS rfl hl rfl (Nat.le_of_ble_eq_true rfl) ⟨Nat.le_of_ble_eq_true rfl, Nat.le_of_ble_eq_true rfl⟩ dX1_settingOf_1) (fun H locs hP hD hS => ?_)
  have hP : va_P D vwCl (og_W cs ad o) H := hP
  have hD : va_D A (og_W cs ad o) := hD
  refine lv_if_eq (tgt := 16) hx hb dX1_settingOf_4 (by decide) (fun c_4 => ?_) (fun c_4 => ?_)
  · skip
    have c_4 : ((k_X5_isSetting vw) = 0) := c_4
    rw [if_pos c_4] at hres
    refine lv_iconst (v := 0) hx hb dX1_settingOf_16 (by decide) ?_
    subst hres
    exact kI_ret hE hS hP hD rfl rfl (Nat.le_of_ble_eq_true rfl) (Nat.le_of_ble_eq_true rfl) dX1_settingOf_17
  · skip
    have c_4 : ¬ ((k_X5_isSetting vw) = 0) := c_4
    rw [if_neg c_4] at hres
    refine lv_aload_n hx hb dX1_settingOf_7 rfl (lv_at hl 0 rfl) ?_
    refine va_get (D := D) (ci := 1) (v := .ref (ad 8)) (C := RX1) (T := TX1) (N := 17) hx hb hts hinX1 hown hK hP 0 rfl rfl 5 (by decide) lk_2 (fun _ h9 => h9) rfl dX1_settingOf_8 ?_
    refine lv_iload_n hx hb dX1_settingOf_11 rfl (lv_at hl 1 rfl) ?_
    refine k_iald hx hb hK hP 8 0 (v := ((o.2.2 5) vw.toNatClampNeg)) rfl rfl (sm_in c_4) rfl dX1_settingOf_12 ?_
    refine lv_goto (tgt := 17) hx hb dX1_settingOf_13 (by decide) ?_
    subst hres
    exact kI_ret hE hS hP hD rfl rfl (Nat.le_of_ble_eq_true rfl) (Nat.le_of_ble_eq_true rfl) dX1_settingOf_17
set_option maxHeartbeats 4000000 in
set_option maxRecDepth 100000 in
theorem c_X1_isOpen (l : Launch) (D : va_G) (cs : Nat → ClassId) (ad : Nat → Nat) (o : OV) (vp : Int32) (vb : Int32) : kI l yX1_isOpen wsX1_isOpen { frames := 1, cells := 0, slots := 0, locals := 23 } 0 0 D cs [.ref (ad 0), .int vp, .int vb] (og_W cs ad o) (k_X1_isOpen o vp vb) (og_W cs ad o) := by
  generalize hres : k_X1_isOpen o vp vb = res
  refine kI_of (cc := cX1_isOpen) (maxL := 3) (ret := (some .boolean)) (by decide) rfl (Nat.le_of_ble_eq_true rfl) ?_
  intro p e s m below meth c A ls H locs hE hS hP hD hl
  obtain ⟨hx, hb, hr, hlocks, hml, hown, hts, hK, hA, hG, hnm⟩ := id hE
  have hown : s.vm.findClass RX1 = some m.cls := hown
  have hl : lv_has ls 3 [(0, .ref (ad 0)), (1, .int vp), (2, .int vb)] := hl
  have hinX1 : ∀ w ∈ wsX10, w ∈ wsX1_isOpen := by decide +kernel
  have lk_0 := hts (.initialized RX5) (by decide +kernel)
  have lk_1 := hts (.static yX5_isPipe) (by decide +kernel)
  have lk_2 := hts (.fieldLink RX1 23 "OrganPegs$Organ" "covers" "[I") (by decide +kernel)
  have lk_3 := hts (.static yX5_span) (by decide +kernel)
  unfold k_X1_isOpen at hres
  refine lv_iload_n hx hb dX1_isOpen_0 rfl (lv_at hl 1 rfl) ?_
  have hP : va_P D vwCl ([] ++ (og_W cs ad o)) H := hP
  have hD : va_D A ([] ++ (og_W cs ad o)) := hD
  have hc_1 := c_X5_isPipe l D cs vp
  refine kI_call (wc := []) (wr := (og_W cs ad o)) (w1 := []) (r := (k_X5_isPipe vp)) hE hP hD hS (k_rSN (rest := []) (As := [.int vp]) hE rfl (hc_1 H.size) ⟨va_cnB 1 hts gX1_isOpen_X5_isPipe_n86 rfl rfl rfl (hG.1.2.1 _ _ _ _ nm_X1_86) lk_0 (by decide +kernel) ⟨Nat.le_of_ble_eq_true rfl, Nat.le_of_ble_eq_true rfl⟩, lk_1, trivial⟩ hP hD hS rfl hl rfl (Nat.le_of_ble_eq_true rfl) ⟨Nat.le_of_ble_eq_true rfl, Nat.le_of_ble_eq_true rfl⟩ dX1_isOpen_1) (fun H locs hP hD hS => ?_)
  have hP : va_P D vwCl (og_W cs ad o) H := hP
  have hD : va_D A (og_W cs ad o) := hD
  refine lv_if_eq (tgt := 26) hx hb dX1_isOpen_4 (by decide) (fun c_4 => ?_) (fun c_4 => ?_)
  · skip
    have c_4 : ((k_X5_isPipe vp) = 0) := c_4
    rw [if_pos c_4] at hres
    refine lv_iconst (v := 0) hx hb dX1_isOpen_26 (by decide) ?_
    subst hres
    exact kI_ret hE hS hP hD rfl rfl (Nat.le_of_ble_eq_true rfl) (Nat.le_of_ble_eq_true rfl) dX1_isOpen_27
  · skip
    have c_4 : ¬ ((k_X5_isPipe vp) = 0) := c_4
    rw [if_neg c_4] at hres
    refine lv_aload_n hx hb dX1_isOpen_7 rfl (lv_at hl 0 rfl) ?_
    refine va_get (D := D) (ci := 1) (v := .ref (ad 5)) (C := RX1) (T := TX1) (N := 17) hx hb hts hinX1 hown hK hP 0 rfl rfl 2 (by decide) lk_2 (fun _ h9 => h9) rfl dX1_isOpen_8 ?_
    refine lv_iload_n hx hb dX1_isOpen_11 rfl (lv_at hl 1 rfl) ?_
    refine k_iald hx hb hK hP 5 0 (v := ((o.2.2 2) vp.toNatClampNeg)) rfl rfl (pipe_in c_4) rfl dX1_isOpen_12 ?_
    refine lv_iload_n hx hb dX1_isOpen_13 rfl (lv_at hl 2 rfl) ?_
    refine lv_iconst (v := 1) hx hb dX1_isOpen_14 (by decide) ?_
    have hP : va_P D vwCl ([] ++ (og_W cs ad o)) H := hP
    have hD : va_D A ([] ++ (og_W cs ad o)) := hD
    have hc_15 := c_X5_span l D cs vb 1
    refine kI_call (wc := []) (wr := (og_W cs ad o)) (w1 := []) (r := (k_X5_span vb 1)) hE hP hD hS (k_rSN (rest := [.int ((o.2.2 2) vp.toNatClampNeg)]) (As := [.int vb, .int 1]) hE rfl (hc_15 H.size) ⟨va_cnB 2 hts gX1_isOpen_X5_span_n109 rfl rfl rfl (hG.1.2.1 _ _ _ _ nm_X1_109) lk_0 (by decide +kernel) ⟨Nat.le_of_ble_eq_true rfl, Nat.le_of_ble_eq_true rfl⟩, lk_3, trivial⟩ hP hD hS rfl hl rfl (Nat.le_of_ble_eq_true rfl) ⟨Nat.le_of_ble_eq_true rfl, Nat.le_of_ble_eq_true rfl⟩ dX1_isOpen_15) (fun H locs hP hD hS => ?_)
    have hP : va_P D vwCl (og_W cs ad o) H := hP
    have hD : va_D A (og_W cs ad o) := hD
    refine lv_iand hx hb dX1_isOpen_18 ?_
    refine lv_if_eq (tgt := 26) hx hb dX1_isOpen_19 (by decide) (fun c_19 => ?_) (fun c_19 => ?_)
    · skip
      have c_19 : ((((o.2.2 2) vp.toNatClampNeg) &&& (k_X5_span vb 1)) = 0) := c_19
      rw [if_pos c_19] at hres
      refine lv_iconst (v := 0) hx hb dX1_isOpen_26 (by decide) ?_
      subst hres
      exact kI_ret hE hS hP hD rfl rfl (Nat.le_of_ble_eq_true rfl) (Nat.le_of_ble_eq_true rfl) dX1_isOpen_27
    · skip
      have c_19 : ¬ ((((o.2.2 2) vp.toNatClampNeg) &&& (k_X5_span vb 1)) = 0) := c_19
      rw [if_neg c_19] at hres
      refine lv_iconst (v := 1) hx hb dX1_isOpen_22 (by decide) ?_
      refine lv_goto (tgt := 27) hx hb dX1_isOpen_23 (by decide) ?_
      subst hres
      exact kI_ret hE hS hP hD rfl rfl (Nat.le_of_ble_eq_true rfl) (Nat.le_of_ble_eq_true rfl) dX1_isOpen_27
set_option maxHeartbeats 4000000 in
set_option maxRecDepth 100000 in
theorem c_X1_isFree (l : Launch) (D : va_G) (cs : Nat → ClassId) (ad : Nat → Nat) (o : OV) (vp : Int32) (vb : Int32) : kI l yX1_isFree wsX1_isFree { frames := 1, cells := 0, slots := 0, locals := 20 } 0 0 D cs [.ref (ad 0), .int vp, .int vb] (og_W cs ad o) (k_X1_isFree o vp vb) (og_W cs ad o) := by
  generalize hres : k_X1_isFree o vp vb = res
  refine kI_of (cc := cX1_isFree) (maxL := 3) (ret := (some .boolean)) (by decide) rfl (Nat.le_of_ble_eq_true rfl) ?_
  intro p e s m below meth c A ls H locs hE hS hP hD hl
  obtain ⟨hx, hb, hr, hlocks, hml, hown, hts, hK, hA, hG, hnm⟩ := id hE
  have hown : s.vm.findClass RX1 = some m.cls := hown
  have hl : lv_has ls 3 [(0, .ref (ad 0)), (1, .int vp), (2, .int vb)] := hl
  have hinX1 : ∀ w ∈ wsX10, w ∈ wsX1_isFree := by decide +kernel
  have lk_0 := hts (.initialized RX5) (by decide +kernel)
  have lk_1 := hts (.static yX5_isPipe) (by decide +kernel)
  have lk_2 := hts (.fieldLink RX1 23 "OrganPegs$Organ" "covers" "[I") (by decide +kernel)
  unfold k_X1_isFree at hres
  refine lv_iload_n hx hb dX1_isFree_0 rfl (lv_at hl 1 rfl) ?_
  have hP : va_P D vwCl ([] ++ (og_W cs ad o)) H := hP
  have hD : va_D A ([] ++ (og_W cs ad o)) := hD
  have hc_1 := c_X5_isPipe l D cs vp
  refine kI_call (wc := []) (wr := (og_W cs ad o)) (w1 := []) (r := (k_X5_isPipe vp)) hE hP hD hS (k_rSN (rest := []) (As := [.int vp]) hE rfl (hc_1 H.size) ⟨va_cnB 1 hts gX1_isFree_X5_isPipe_n86 rfl rfl rfl (hG.1.2.1 _ _ _ _ nm_X1_86) lk_0 (by decide +kernel) ⟨Nat.le_of_ble_eq_true rfl, Nat.le_of_ble_eq_true rfl⟩, lk_1, trivial⟩ hP hD hS rfl hl rfl (Nat.le_of_ble_eq_true rfl) ⟨Nat.le_of_ble_eq_true rfl, Nat.le_of_ble_eq_true rfl⟩ dX1_isFree_1) (fun H locs hP hD hS => ?_)
  have hP : va_P D vwCl (og_W cs ad o) H := hP
  have hD : va_D A (og_W cs ad o) := hD
  refine lv_if_eq (tgt := 18) hx hb dX1_isFree_4 (by decide) (fun c_4 => ?_) (fun c_4 => ?_)
  · skip
    have c_4 : ((k_X5_isPipe vp) = 0) := c_4
    rw [if_pos c_4] at hres
    refine lv_iconst (v := 1) hx hb dX1_isFree_18 (by decide) ?_
    refine lv_goto (tgt := 23) hx hb dX1_isFree_19 (by decide) ?_
    subst hres
    exact kI_ret hE hS hP hD rfl rfl (Nat.le_of_ble_eq_true rfl) (Nat.le_of_ble_eq_true rfl) dX1_isFree_23
  · skip
    have c_4 : ¬ ((k_X5_isPipe vp) = 0) := c_4
    rw [if_neg c_4] at hres
    refine lv_aload_n hx hb dX1_isFree_7 rfl (lv_at hl 0 rfl) ?_
    refine va_get (D := D) (ci := 1) (v := .ref (ad 5)) (C := RX1) (T := TX1) (N := 17) hx hb hts hinX1 hown hK hP 0 rfl rfl 2 (by decide) lk_2 (fun _ h9 => h9) rfl dX1_isFree_8 ?_
    refine lv_iload_n hx hb dX1_isFree_11 rfl (lv_at hl 1 rfl) ?_
    refine k_iald hx hb hK hP 5 0 (v := ((o.2.2 2) vp.toNatClampNeg)) rfl rfl (pipe_in c_4) rfl dX1_isFree_12 ?_
    refine lv_iload_n hx hb dX1_isFree_13 rfl (lv_at hl 2 rfl) ?_
    refine lv_iand hx hb dX1_isFree_14 ?_
    refine lv_if_ne (tgt := 22) hx hb dX1_isFree_15 (by decide) (fun c_15 => ?_) (fun c_15 => ?_)
    · skip
      have c_15 : ¬ ((((o.2.2 2) vp.toNatClampNeg) &&& vb) = 0) := c_15
      rw [if_neg c_15] at hres
      refine lv_iconst (v := 0) hx hb dX1_isFree_22 (by decide) ?_
      subst hres
      exact kI_ret hE hS hP hD rfl rfl (Nat.le_of_ble_eq_true rfl) (Nat.le_of_ble_eq_true rfl) dX1_isFree_23
    · skip
      have c_15 : ((((o.2.2 2) vp.toNatClampNeg) &&& vb) = 0) := c_15
      rw [if_pos c_15] at hres
      refine lv_iconst (v := 1) hx hb dX1_isFree_18 (by decide) ?_
      refine lv_goto (tgt := 23) hx hb dX1_isFree_19 (by decide) ?_
      subst hres
      exact kI_ret hE hS hP hD rfl rfl (Nat.le_of_ble_eq_true rfl) (Nat.le_of_ble_eq_true rfl) dX1_isFree_23
set_option maxHeartbeats 4000000 in
set_option maxRecDepth 100000 in
theorem c_X1_openPipes (l : Launch) (D : va_G) (cs : Nat → ClassId) (ad : Nat → Nat) (o : OV) (vb : Int32) : kI l yX1_openPipes wsX1_openPipes { frames := 2, cells := 0, slots := 0, locals := 45 } 0 0 D cs [.ref (ad 0), .int vb] (og_W cs ad o) (k_X1_openPipes o vb) (og_W cs ad o) := by
  generalize hres : k_X1_openPipes o vb = res
  refine kI_of (cc := cX1_openPipes) (maxL := 4) (ret := (some .int)) (by decide) rfl (Nat.le_of_ble_eq_true rfl) ?_
  intro p e s m below meth c A ls H locs hE hS hP hD hl
  obtain ⟨hx, hb, hr, hlocks, hml, hown, hts, hK, hA, hG, hnm⟩ := id hE
  have hown : s.vm.findClass RX1 = some m.cls := hown
  have hl : lv_has ls 4 [(0, .ref (ad 0)), (1, .int vb)] := hl
  have L4 : ∀ (n : Nat) (i : Int32) (acc : Int32) (j : Nat) (hi : i = nI j) (hj : j + n = 7) (hj2 : j ≤ 6) (H : Heap) (locs : List Loc) (ls : Array Slot), va_S A s.heap H locs → va_P D vwCl (og_W cs ad o) H → va_D A (og_W cs ad o) → lv_has ls 4 [(0, .ref (ad 0)), (1, .int vb), (2, .int acc), (3, .int i)] → k_X1_openPipes_L4 o vb n i acc = res → W p l e { frames := 2, cells := 0, slots := 0, locals := 45 } s m ([.ref (ad 0), .int vb]).toArray below meth c H locs 0 0 (MQ below (va_Qi (fun (r' : Int32) (_ : Unit) => r' = res) (kB D (fun _ => og_W cs ad o) A) A) ([.ref (ad 0), .int vb]).toArray s 0 0 A) (F0 m 4 ls []) := by
    intro n
    induction n with
    | zero =>
      intro i acc j hi hj hj2 H locs ls hS hP hD hl hres
      exact absurd hj2 (by omega)
    | succ n ih =>
      intro i acc j hi hj hj2 H locs ls hS hP hD hl hres
      unfold k_X1_openPipes_L4 at hres
      refine lv_iload_n hx hb dX1_openPipes_4 rfl (lv_at hl 3 rfl) ?_
      refine lv_bipush (v := 6) hx hb dX1_openPipes_5 (by decide) ?_
      refine lv_icmp_ge (tgt := 31) hx hb dX1_openPipes_7 (by decide) (fun c_7 => ?_) (fun c_7 => ?_)
      · skip
        have c_7 : (6 ≤ i) := c_7
        rw [if_pos c_7] at hres
        refine lv_iload_n hx hb dX1_openPipes_31 rfl (lv_at hl 2 rfl) ?_
        subst hres
        exact kI_ret hE hS hP hD rfl rfl (Nat.le_of_ble_eq_true rfl) (Nat.le_of_ble_eq_true rfl) dX1_openPipes_32
      · skip
        have c_7 : ¬ (6 ≤ i) := c_7
        rw [if_neg c_7] at hres
        refine lv_aload_n hx hb dX1_openPipes_10 rfl (lv_at hl 0 rfl) ?_
        refine lv_iload_n hx hb dX1_openPipes_11 rfl (lv_at hl 3 rfl) ?_
        refine lv_iload_n hx hb dX1_openPipes_12 rfl (lv_at hl 1 rfl) ?_
        have hP : va_P D vwCl ((og_W cs ad o) ++ []) H := k_nP hP
        have hD : va_D A ((og_W cs ad o) ++ []) := k_nD hD
        have hc_13 := c_X1_isOpen l D cs ad o i vb
        refine kI_call (wc := (og_W cs ad o)) (wr := []) (w1 := og_W cs ad o) (r := (k_X1_isOpen o i vb)) hE hP hD hS (k_rV (rest := []) (As := [.int i, .int vb]) hE rfl (hc_13 H.size) (cwV 2 hts gX1_openPipes_X1_isOpen rfl rfl rfl (by decide +kernel) ⟨Nat.le_of_ble_eq_true rfl, Nat.le_of_ble_eq_true rfl⟩) hP hD hS (ci := 1) (q0 := 0) rfl rfl rfl hl rfl (Nat.le_of_ble_eq_true rfl) ⟨Nat.le_of_ble_eq_true rfl, Nat.le_of_ble_eq_true rfl⟩ dX1_openPipes_13) (fun H locs hP hD hS => ?_)
        have hP := k_uP hP
        have hD := k_uD hD
        have hP : va_P D vwCl (og_W cs ad o) H := hP
        have hD : va_D A (og_W cs ad o) := hD
        refine lv_if_eq (tgt := 25) hx hb dX1_openPipes_16 (by decide) (fun c_16 => ?_) (fun c_16 => ?_)
        · skip
          have c_16 : ((k_X1_isOpen o i vb) = 0) := c_16
          rw [if_pos c_16] at hres
          refine lv_iinc (v := (i + 1)) (lv' := [(3, .int (i + 1)), (0, .ref (ad 0)), (1, .int vb), (2, .int acc)]) hx hb dX1_openPipes_25 hl (k := 3) rfl (by rfl) (by decide) rfl (fun ls hl => ?_)
          refine lv_goto (tgt := 4) hx hb dX1_openPipes_28 (by decide) ?_
          exact ih (i + 1) acc (j + 1) (by rw [hi, nI_1]) (by omega) (nI_lts hi (by omega) (by decide) c_7) _ _ _ hS hP hD (lv_sub hl [1, 2, 3, 0] rfl) hres
        · skip
          have c_16 : ¬ ((k_X1_isOpen o i vb) = 0) := c_16
          rw [if_neg c_16] at hres
          refine lv_iload_n hx hb dX1_openPipes_19 rfl (lv_at hl 2 rfl) ?_
          refine lv_iconst (v := 1) hx hb dX1_openPipes_20 (by decide) ?_
          refine lv_iload_n hx hb dX1_openPipes_21 rfl (lv_at hl 3 rfl) ?_
          refine lv_ishl hx hb dX1_openPipes_22 ?_
          refine lv_ior hx hb dX1_openPipes_23 ?_
          refine lv_istore_n (lv' := [(2, .int (acc ||| ((1 : Int32) <<< (i &&& 31)))), (0, .ref (ad 0)), (1, .int vb), (3, .int i)]) hx hb dX1_openPipes_24 rfl hl (by decide) rfl (fun ls hl => ?_)
          refine lv_iinc (v := (i + 1)) (lv' := [(3, .int (i + 1)), (2, .int (acc ||| ((1 : Int32) <<< (i &&& 31)))), (0, .ref (ad 0)), (1, .int vb)]) hx hb dX1_openPipes_25 hl (k := 3) rfl (by rfl) (by decide) rfl (fun ls hl => ?_)
          refine lv_goto (tgt := 4) hx hb dX1_openPipes_28 (by decide) ?_
          exact ih (i + 1) (acc ||| ((1 : Int32) <<< (i &&& 31))) (j + 1) (by rw [hi, nI_1]) (by omega) (nI_lts hi (by omega) (by decide) c_7) _ _ _ hS hP hD (lv_sub hl [2, 3, 1, 0] rfl) hres
  unfold k_X1_openPipes at hres
  refine lv_iconst (v := 0) hx hb dX1_openPipes_0 (by decide) ?_
  refine lv_istore_n (lv' := [(2, .int 0), (0, .ref (ad 0)), (1, .int vb)]) hx hb dX1_openPipes_1 rfl hl (by decide) rfl (fun ls hl => ?_)
  refine lv_iconst (v := 0) hx hb dX1_openPipes_2 (by decide) ?_
  refine lv_istore_n (lv' := [(3, .int 0), (2, .int 0), (0, .ref (ad 0)), (1, .int vb)]) hx hb dX1_openPipes_3 rfl hl (by decide) rfl (fun ls hl => ?_)
  exact L4 7 0 0 0 (nI_0.symm) (rfl) (Nat.zero_le _) _ _ _ hS hP hD (lv_sub hl [2, 3, 1, 0] rfl) hres
set_option maxHeartbeats 4000000 in
set_option maxRecDepth 100000 in
theorem c_X1_coveredBars (l : Launch) (D : va_G) (cs : Nat → ClassId) (ad : Nat → Nat) (o : OV)  : kI l yX1_coveredBars wsX1_coveredBars { frames := 3, cells := 0, slots := 0, locals := 68 } 0 0 D cs [.ref (ad 0)] (og_W cs ad o) (k_X1_coveredBars o) (og_W cs ad o) := by
  generalize hres : k_X1_coveredBars o = res
  refine kI_of (cc := cX1_coveredBars) (maxL := 3) (ret := (some .int)) (by decide) rfl (Nat.le_of_ble_eq_true rfl) ?_
  intro p e s m below meth c A ls H locs hE hS hP hD hl
  obtain ⟨hx, hb, hr, hlocks, hml, hown, hts, hK, hA, hG, hnm⟩ := id hE
  have hown : s.vm.findClass RX1 = some m.cls := hown
  have hl : lv_has ls 3 [(0, .ref (ad 0))] := hl
  have L4 : ∀ (n : Nat) (i : Int32) (acc : Int32) (j : Nat) (hi : i = nI j) (hj : j + n = 25) (hj2 : j ≤ 24) (H : Heap) (locs : List Loc) (ls : Array Slot), va_S A s.heap H locs → va_P D vwCl (og_W cs ad o) H → va_D A (og_W cs ad o) → lv_has ls 3 [(0, .ref (ad 0)), (1, .int acc), (2, .int i)] → k_X1_coveredBars_L4 o n i acc = res → W p l e { frames := 3, cells := 0, slots := 0, locals := 68 } s m ([.ref (ad 0)]).toArray below meth c H locs 0 0 (MQ below (va_Qi (fun (r' : Int32) (_ : Unit) => r' = res) (kB D (fun _ => og_W cs ad o) A) A) ([.ref (ad 0)]).toArray s 0 0 A) (F0 m 4 ls []) := by
    intro n
    induction n with
    | zero =>
      intro i acc j hi hj hj2 H locs ls hS hP hD hl hres
      exact absurd hj2 (by omega)
    | succ n ih =>
      intro i acc j hi hj hj2 H locs ls hS hP hD hl hres
      unfold k_X1_coveredBars_L4 at hres
      refine lv_iload_n hx hb dX1_coveredBars_4 rfl (lv_at hl 2 rfl) ?_
      refine lv_bipush (v := 24) hx hb dX1_coveredBars_5 (by decide) ?_
      refine lv_icmp_ge (tgt := 27) hx hb dX1_coveredBars_7 (by decide) (fun c_7 => ?_) (fun c_7 => ?_)
      · skip
        have c_7 : (24 ≤ i) := c_7
        rw [if_pos c_7] at hres
        refine lv_iload_n hx hb dX1_coveredBars_27 rfl (lv_at hl 1 rfl) ?_
        subst hres
        exact kI_ret hE hS hP hD rfl rfl (Nat.le_of_ble_eq_true rfl) (Nat.le_of_ble_eq_true rfl) dX1_coveredBars_28
      · skip
        have c_7 : ¬ (24 ≤ i) := c_7
        rw [if_neg c_7] at hres
        refine lv_iload_n hx hb dX1_coveredBars_10 rfl (lv_at hl 1 rfl) ?_
        refine lv_aload_n hx hb dX1_coveredBars_11 rfl (lv_at hl 0 rfl) ?_
        refine lv_iload_n hx hb dX1_coveredBars_12 rfl (lv_at hl 2 rfl) ?_
        have hP : va_P D vwCl ((og_W cs ad o) ++ []) H := k_nP hP
        have hD : va_D A ((og_W cs ad o) ++ []) := k_nD hD
        have hc_13 := c_X1_openPipes l D cs ad o i
        refine kI_call (wc := (og_W cs ad o)) (wr := []) (w1 := og_W cs ad o) (r := (k_X1_openPipes o i)) hE hP hD hS (k_rV (rest := [.int acc]) (As := [.int i]) hE rfl (hc_13 H.size) (cwV 1 hts gX1_coveredBars_X1_openPipes rfl rfl rfl (by decide +kernel) ⟨Nat.le_of_ble_eq_true rfl, Nat.le_of_ble_eq_true rfl⟩) hP hD hS (ci := 1) (q0 := 0) rfl rfl rfl hl rfl (Nat.le_of_ble_eq_true rfl) ⟨Nat.le_of_ble_eq_true rfl, Nat.le_of_ble_eq_true rfl⟩ dX1_coveredBars_13) (fun H locs hP hD hS => ?_)
        have hP := k_uP hP
        have hD := k_uD hD
        have hP : va_P D vwCl (og_W cs ad o) H := hP
        have hD : va_D A (og_W cs ad o) := hD
        have hP : va_P D vwCl ([] ++ (og_W cs ad o)) H := hP
        have hD : va_D A ([] ++ (og_W cs ad o)) := hD
        have hc_16 := c_J6_bitCount_0f7a4 l D cs (k_X1_openPipes o i)
        refine kI_call (wc := []) (wr := (og_W cs ad o)) (w1 := []) (r := (k_J6_bitCount_0f7a4 (k_X1_openPipes o i))) hE hP hD hS (k_rS (rest := [.int acc]) (As := [.int (k_X1_openPipes o i)]) hE rfl (hc_16 H.size) (va_cwS 1 hts gX1_coveredBars_J6_bitCount_0f7a4 rfl rfl rfl (by decide +kernel) ⟨Nat.le_of_ble_eq_true rfl, Nat.le_of_ble_eq_true rfl⟩) hP hD hS rfl hl rfl (Nat.le_of_ble_eq_true rfl) ⟨Nat.le_of_ble_eq_true rfl, Nat.le_of_ble_eq_true rfl⟩ dX1_coveredBars_16) (fun H locs hP hD hS => ?_)
        have hP : va_P D vwCl (og_W cs ad o) H := hP
        have hD : va_D A (og_W cs ad o) := hD
        refine lv_iadd hx hb dX1_coveredBars_19 ?_
        refine lv_istore_n (lv' := [(1, .int (acc + (k_J6_bitCount_0f7a4 (k_X1_openPipes o i)))), (0, .ref (ad 0)), (2, .int i)]) hx hb dX1_coveredBars_20 rfl hl (by decide) rfl (fun ls hl => ?_)
        refine lv_iinc (v := (i + 1)) (lv' := [(2, .int (i + 1)), (1, .int (acc + (k_J6_bitCount_0f7a4 (k_X1_openPipes o i)))), (0, .ref (ad 0))]) hx hb dX1_coveredBars_21 hl (k := 2) rfl (by rfl) (by decide) rfl (fun ls hl => ?_)
        refine lv_goto (tgt := 4) hx hb dX1_coveredBars_24 (by decide) ?_
        exact ih (i + 1) (acc + (k_J6_bitCount_0f7a4 (k_X1_openPipes o i))) (j + 1) (by rw [hi, nI_1]) (by omega) (nI_lts hi (by omega) (by decide) c_7) _ _ _ hS hP hD (lv_sub hl [2, 1, 0] rfl) hres
  unfold k_X1_coveredBars at hres
  refine lv_iconst (v := 0) hx hb dX1_coveredBars_0 (by decide) ?_
  refine lv_istore_n (lv' := [(1, .int 0), (0, .ref (ad 0))]) hx hb dX1_coveredBars_1 rfl hl (by decide) rfl (fun ls hl => ?_)
  refine lv_iconst (v := 0) hx hb dX1_coveredBars_2 (by decide) ?_
  refine lv_istore_n (lv' := [(2, .int 0), (1, .int 0), (0, .ref (ad 0))]) hx hb dX1_coveredBars_3 rfl hl (by decide) rfl (fun ls hl => ?_)
  exact L4 25 0 0 0 (nI_0.symm) (rfl) (Nat.zero_le _) _ _ _ hS hP hD (lv_sub hl [2, 1, 0] rfl) hres
set_option maxHeartbeats 4000000 in
set_option maxRecDepth 100000 in
theorem c_X1_pegsOfPipe (l : Launch) (D : va_G) (cs : Nat → ClassId) (ad : Nat → Nat) (o : OV) (vp : Int32) (hO : OI o) : kI l yX1_pegsOfPipe wsX1_pegsOfPipe { frames := 2, cells := 0, slots := 0, locals := 44 } 0 0 D cs [.ref (ad 0), .int vp] (og_W cs ad o) (k_X1_pegsOfPipe o vp) (og_W cs ad o) := by
  generalize hres : k_X1_pegsOfPipe o vp = res
  refine kI_of (cc := cX1_pegsOfPipe) (maxL := 4) (ret := (some .int)) (by decide) rfl (Nat.le_of_ble_eq_true rfl) ?_
  intro p e s m below meth c A ls H locs hE hS hP hD hl
  obtain ⟨hx, hb, hr, hlocks, hml, hown, hts, hK, hA, hG, hnm⟩ := id hE
  have hown : s.vm.findClass RX1 = some m.cls := hown
  have hl : lv_has ls 4 [(0, .ref (ad 0)), (1, .int vp)] := hl
  have hinX1 : ∀ w ∈ wsX10, w ∈ wsX1_pegsOfPipe := by decide +kernel
  have hinX4 : ∀ w ∈ wsX40, w ∈ wsX1_pegsOfPipe := by decide +kernel
  have lk_0 := hts (.fieldLink RX1 16 "OrganPegs$Organ" "pegs" "LOrganPegs$Table;") (by decide +kernel)
  obtain ⟨hO1, hO2, hO3, hO4⟩ := id hO
  have hLn : (o.1 10).toInt = (((o.1 10).toInt.toNat : Nat) : Int) := (Int.toNat_of_nonneg hO1).symm
  have L4 : ∀ (n : Nat) (k : Int32) (acc : Int32) (j : Nat) (hi : k = nI j) (hj : j + n = 31) (hj2 : j ≤ (o.1 10).toInt.toNat) (H : Heap) (locs : List Loc) (ls : Array Slot), va_S A s.heap H locs → va_P D vwCl (og_W cs ad o) H → va_D A (og_W cs ad o) → lv_has ls 4 [(0, .ref (ad 0)), (1, .int vp), (2, .int acc), (3, .int k)] → k_X1_pegsOfPipe_L4 o vp n k acc = res → W p l e { frames := 2, cells := 0, slots := 0, locals := 44 } s m ([.ref (ad 0), .int vp]).toArray below meth c H locs 0 0 (MQ below (va_Qi (fun (r' : Int32) (_ : Unit) => r' = res) (kB D (fun _ => og_W cs ad o) A) A) ([.ref (ad 0), .int vp]).toArray s 0 0 A) (F0 m 4 ls []) := by
    intro n
    induction n with
    | zero =>
      intro k acc j hi hj hj2 H locs ls hS hP hD hl hres
      exact absurd hj2 (by omega)
    | succ n ih =>
      intro k acc j hi hj hj2 H locs ls hS hP hD hl hres
      unfold k_X1_pegsOfPipe_L4 at hres
      refine lv_iload_n hx hb dX1_pegsOfPipe_4 rfl (lv_at hl 3 rfl) ?_
      refine lv_aload_n hx hb dX1_pegsOfPipe_5 rfl (lv_at hl 0 rfl) ?_
      refine va_get (D := D) (ci := 1) (v := .ref (ad 1)) (C := RX1) (T := TX1) (N := 17) hx hb hts hinX1 hown hK hP 0 rfl rfl 0 (by decide) lk_0 (fun _ h9 => h9) rfl dX1_pegsOfPipe_6 ?_
      refine va_getN (D := D) (ci := 4) (v := .int (o.1 10)) (C := RX4) (T := TX4) (N := 4) hx hb hts hinX4 hown hK hP 1 rfl rfl 3 (by decide) (va_Nw.use rfl (hG.1.1 _ _ _ _ _ _ nf_X1_79)) (fun _ h9 => h9) rfl dX1_pegsOfPipe_9 ?_
      refine lv_icmp_ge (tgt := 37) hx hb dX1_pegsOfPipe_12 (by decide) (fun c_12 => ?_) (fun c_12 => ?_)
      · skip
        have c_12 : ((o.1 10) ≤ k) := c_12
        rw [if_pos c_12] at hres
        refine lv_iload_n hx hb dX1_pegsOfPipe_37 rfl (lv_at hl 2 rfl) ?_
        subst hres
        exact kI_ret hE hS hP hD rfl rfl (Nat.le_of_ble_eq_true rfl) (Nat.le_of_ble_eq_true rfl) dX1_pegsOfPipe_38
      · skip
        have c_12 : ¬ ((o.1 10) ≤ k) := c_12
        rw [if_neg c_12] at hres
        refine lv_aload_n hx hb dX1_pegsOfPipe_15 rfl (lv_at hl 0 rfl) ?_
        refine va_get (D := D) (ci := 1) (v := .ref (ad 1)) (C := RX1) (T := TX1) (N := 17) hx hb hts hinX1 hown hK hP 0 rfl rfl 0 (by decide) lk_0 (fun _ h9 => h9) rfl dX1_pegsOfPipe_16 ?_
        refine lv_iload_n hx hb dX1_pegsOfPipe_19 rfl (lv_at hl 3 rfl) ?_
        refine lv_iconst (v := 0) hx hb dX1_pegsOfPipe_20 (by decide) ?_
        have hP : va_P D vwCl ((tb_W cs (ad 1) (ad 3) 4 30 120 (g_pt o)) ++ (og_rP cs ad o)) H := og_cPP hP
        have hD : va_D A ((tb_W cs (ad 1) (ad 3) 4 30 120 (g_pt o)) ++ (og_rP cs ad o)) := og_cPD hD
        have hc_21 := c_X4_at l D cs (ad 1) (ad 3) 4 30 120 (g_pt o) k 0 (Or.inl ⟨rfl, rfl, rfl⟩)
        refine kI_call (wc := (tb_W cs (ad 1) (ad 3) 4 30 120 (g_pt o))) (wr := (og_rP cs ad o)) (w1 := tb_W cs (ad 1) (ad 3) 4 30 120 (g_pt o)) (r := (k_X4_at 4 30 (g_pt o) k 0)) hE hP hD hS (k_rV (rest := []) (As := [.int k, .int 0]) hE rfl (hc_21 H.size) (cwV 2 hts gX1_pegsOfPipe_X4_at rfl rfl rfl (by decide +kernel) ⟨Nat.le_of_ble_eq_true rfl, Nat.le_of_ble_eq_true rfl⟩) hP hD hS (ci := 4) (q0 := 0) rfl rfl rfl hl rfl (Nat.le_of_ble_eq_true rfl) ⟨Nat.le_of_ble_eq_true rfl, Nat.le_of_ble_eq_true rfl⟩ dX1_pegsOfPipe_21) (fun H locs hP hD hS => ?_)
        have hP := og_bPP hP
        have hD := og_bPD hD
        have hP : va_P D vwCl (og_W cs ad o) H := hP
        have hD : va_D A (og_W cs ad o) := hD
        refine lv_iload_n hx hb dX1_pegsOfPipe_24 rfl (lv_at hl 1 rfl) ?_
        refine lv_icmp_ne (tgt := 31) hx hb dX1_pegsOfPipe_25 (by decide) (fun c_25 => ?_) (fun c_25 => ?_)
        · skip
          have c_25 : ¬ ((k_X4_at 4 30 (g_pt o) k 0) = vp) := c_25
          rw [if_neg c_25] at hres
          refine lv_iinc (v := (k + 1)) (lv' := [(3, .int (k + 1)), (0, .ref (ad 0)), (1, .int vp), (2, .int acc)]) hx hb dX1_pegsOfPipe_31 hl (k := 3) rfl (by rfl) (by decide) rfl (fun ls hl => ?_)
          refine lv_goto (tgt := 4) hx hb dX1_pegsOfPipe_34 (by decide) ?_
          exact ih (k + 1) acc (j + 1) (by rw [hi, nI_1]) (by omega) (nI_ltv hi (by omega) hLn c_12) _ _ _ hS hP hD (lv_sub hl [1, 2, 3, 0] rfl) hres
        · skip
          have c_25 : ((k_X4_at 4 30 (g_pt o) k 0) = vp) := c_25
          rw [if_pos c_25] at hres
          refine lv_iinc (v := (acc + 1)) (lv' := [(2, .int (acc + 1)), (0, .ref (ad 0)), (1, .int vp), (3, .int k)]) hx hb dX1_pegsOfPipe_28 hl (k := 2) rfl (by rfl) (by decide) rfl (fun ls hl => ?_)
          refine lv_iinc (v := (k + 1)) (lv' := [(3, .int (k + 1)), (2, .int (acc + 1)), (0, .ref (ad 0)), (1, .int vp)]) hx hb dX1_pegsOfPipe_31 hl (k := 3) rfl (by rfl) (by decide) rfl (fun ls hl => ?_)
          refine lv_goto (tgt := 4) hx hb dX1_pegsOfPipe_34 (by decide) ?_
          exact ih (k + 1) (acc + 1) (j + 1) (by rw [hi, nI_1]) (by omega) (nI_ltv hi (by omega) hLn c_12) _ _ _ hS hP hD (lv_sub hl [2, 3, 1, 0] rfl) hres
  unfold k_X1_pegsOfPipe at hres
  refine lv_iconst (v := 0) hx hb dX1_pegsOfPipe_0 (by decide) ?_
  refine lv_istore_n (lv' := [(2, .int 0), (0, .ref (ad 0)), (1, .int vp)]) hx hb dX1_pegsOfPipe_1 rfl hl (by decide) rfl (fun ls hl => ?_)
  refine lv_iconst (v := 0) hx hb dX1_pegsOfPipe_2 (by decide) ?_
  refine lv_istore_n (lv' := [(3, .int 0), (2, .int 0), (0, .ref (ad 0)), (1, .int vp)]) hx hb dX1_pegsOfPipe_3 rfl hl (by decide) rfl (fun ls hl => ?_)
  exact L4 31 0 0 0 (nI_0.symm) (rfl) (Nat.zero_le _) _ _ _ hS hP hD (lv_sub hl [2, 3, 1, 0] rfl) hres
set_option maxHeartbeats 4000000 in
set_option maxRecDepth 100000 in
theorem c_X1_sumOfLengths (l : Launch) (D : va_G) (cs : Nat → ClassId) (ad : Nat → Nat) (o : OV) (hO : OI o) : kI l yX1_sumOfLengths wsX1_sumOfLengths { frames := 2, cells := 0, slots := 0, locals := 44 } 0 0 D cs [.ref (ad 0)] (og_W cs ad o) (k_X1_sumOfLengths o) (og_W cs ad o) := by
  generalize hres : k_X1_sumOfLengths o = res
  refine kI_of (cc := cX1_sumOfLengths) (maxL := 3) (ret := (some .int)) (by decide) rfl (Nat.le_of_ble_eq_true rfl) ?_
  intro p e s m below meth c A ls H locs hE hS hP hD hl
  obtain ⟨hx, hb, hr, hlocks, hml, hown, hts, hK, hA, hG, hnm⟩ := id hE
  have hown : s.vm.findClass RX1 = some m.cls := hown
  have hl : lv_has ls 3 [(0, .ref (ad 0))] := hl
  have hinX1 : ∀ w ∈ wsX10, w ∈ wsX1_sumOfLengths := by decide +kernel
  have hinX4 : ∀ w ∈ wsX40, w ∈ wsX1_sumOfLengths := by decide +kernel
  have lk_0 := hts (.fieldLink RX1 16 "OrganPegs$Organ" "pegs" "LOrganPegs$Table;") (by decide +kernel)
  obtain ⟨hO1, hO2, hO3, hO4⟩ := id hO
  have hLn : (o.1 10).toInt = (((o.1 10).toInt.toNat : Nat) : Int) := (Int.toNat_of_nonneg hO1).symm
  have L4 : ∀ (n : Nat) (k : Int32) (acc : Int32) (j : Nat) (hi : k = nI j) (hj : j + n = 31) (hj2 : j ≤ (o.1 10).toInt.toNat) (H : Heap) (locs : List Loc) (ls : Array Slot), va_S A s.heap H locs → va_P D vwCl (og_W cs ad o) H → va_D A (og_W cs ad o) → lv_has ls 3 [(0, .ref (ad 0)), (1, .int acc), (2, .int k)] → k_X1_sumOfLengths_L4 o n k acc = res → W p l e { frames := 2, cells := 0, slots := 0, locals := 44 } s m ([.ref (ad 0)]).toArray below meth c H locs 0 0 (MQ below (va_Qi (fun (r' : Int32) (_ : Unit) => r' = res) (kB D (fun _ => og_W cs ad o) A) A) ([.ref (ad 0)]).toArray s 0 0 A) (F0 m 4 ls []) := by
    intro n
    induction n with
    | zero =>
      intro k acc j hi hj hj2 H locs ls hS hP hD hl hres
      exact absurd hj2 (by omega)
    | succ n ih =>
      intro k acc j hi hj hj2 H locs ls hS hP hD hl hres
      unfold k_X1_sumOfLengths_L4 at hres
      refine lv_iload_n hx hb dX1_sumOfLengths_4 rfl (lv_at hl 2 rfl) ?_
      refine lv_aload_n hx hb dX1_sumOfLengths_5 rfl (lv_at hl 0 rfl) ?_
      refine va_get (D := D) (ci := 1) (v := .ref (ad 1)) (C := RX1) (T := TX1) (N := 17) hx hb hts hinX1 hown hK hP 0 rfl rfl 0 (by decide) lk_0 (fun _ h9 => h9) rfl dX1_sumOfLengths_6 ?_
      refine va_getN (D := D) (ci := 4) (v := .int (o.1 10)) (C := RX4) (T := TX4) (N := 4) hx hb hts hinX4 hown hK hP 1 rfl rfl 3 (by decide) (va_Nw.use rfl (hG.1.1 _ _ _ _ _ _ nf_X1_79)) (fun _ h9 => h9) rfl dX1_sumOfLengths_9 ?_
      refine lv_icmp_ge (tgt := 33) hx hb dX1_sumOfLengths_12 (by decide) (fun c_12 => ?_) (fun c_12 => ?_)
      · skip
        have c_12 : ((o.1 10) ≤ k) := c_12
        rw [if_pos c_12] at hres
        refine lv_iload_n hx hb dX1_sumOfLengths_33 rfl (lv_at hl 1 rfl) ?_
        subst hres
        exact kI_ret hE hS hP hD rfl rfl (Nat.le_of_ble_eq_true rfl) (Nat.le_of_ble_eq_true rfl) dX1_sumOfLengths_34
      · skip
        have c_12 : ¬ ((o.1 10) ≤ k) := c_12
        rw [if_neg c_12] at hres
        refine lv_iload_n hx hb dX1_sumOfLengths_15 rfl (lv_at hl 1 rfl) ?_
        refine lv_aload_n hx hb dX1_sumOfLengths_16 rfl (lv_at hl 0 rfl) ?_
        refine va_get (D := D) (ci := 1) (v := .ref (ad 1)) (C := RX1) (T := TX1) (N := 17) hx hb hts hinX1 hown hK hP 0 rfl rfl 0 (by decide) lk_0 (fun _ h9 => h9) rfl dX1_sumOfLengths_17 ?_
        refine lv_iload_n hx hb dX1_sumOfLengths_20 rfl (lv_at hl 2 rfl) ?_
        refine lv_iconst (v := 2) hx hb dX1_sumOfLengths_21 (by decide) ?_
        have hP : va_P D vwCl ((tb_W cs (ad 1) (ad 3) 4 30 120 (g_pt o)) ++ (og_rP cs ad o)) H := og_cPP hP
        have hD : va_D A ((tb_W cs (ad 1) (ad 3) 4 30 120 (g_pt o)) ++ (og_rP cs ad o)) := og_cPD hD
        have hc_22 := c_X4_at l D cs (ad 1) (ad 3) 4 30 120 (g_pt o) k 2 (Or.inl ⟨rfl, rfl, rfl⟩)
        refine kI_call (wc := (tb_W cs (ad 1) (ad 3) 4 30 120 (g_pt o))) (wr := (og_rP cs ad o)) (w1 := tb_W cs (ad 1) (ad 3) 4 30 120 (g_pt o)) (r := (k_X4_at 4 30 (g_pt o) k 2)) hE hP hD hS (k_rV (rest := [.int acc]) (As := [.int k, .int 2]) hE rfl (hc_22 H.size) (cwV 2 hts gX1_sumOfLengths_X4_at rfl rfl rfl (by decide +kernel) ⟨Nat.le_of_ble_eq_true rfl, Nat.le_of_ble_eq_true rfl⟩) hP hD hS (ci := 4) (q0 := 0) rfl rfl rfl hl rfl (Nat.le_of_ble_eq_true rfl) ⟨Nat.le_of_ble_eq_true rfl, Nat.le_of_ble_eq_true rfl⟩ dX1_sumOfLengths_22) (fun H locs hP hD hS => ?_)
        have hP := og_bPP hP
        have hD := og_bPD hD
        have hP : va_P D vwCl (og_W cs ad o) H := hP
        have hD : va_D A (og_W cs ad o) := hD
        refine lv_iadd hx hb dX1_sumOfLengths_25 ?_
        refine lv_istore_n (lv' := [(1, .int (acc + (k_X4_at 4 30 (g_pt o) k 2))), (0, .ref (ad 0)), (2, .int k)]) hx hb dX1_sumOfLengths_26 rfl hl (by decide) rfl (fun ls hl => ?_)
        refine lv_iinc (v := (k + 1)) (lv' := [(2, .int (k + 1)), (1, .int (acc + (k_X4_at 4 30 (g_pt o) k 2))), (0, .ref (ad 0))]) hx hb dX1_sumOfLengths_27 hl (k := 2) rfl (by rfl) (by decide) rfl (fun ls hl => ?_)
        refine lv_goto (tgt := 4) hx hb dX1_sumOfLengths_30 (by decide) ?_
        exact ih (k + 1) (acc + (k_X4_at 4 30 (g_pt o) k 2)) (j + 1) (by rw [hi, nI_1]) (by omega) (nI_ltv hi (by omega) hLn c_12) _ _ _ hS hP hD (lv_sub hl [2, 1, 0] rfl) hres
  unfold k_X1_sumOfLengths at hres
  refine lv_iconst (v := 0) hx hb dX1_sumOfLengths_0 (by decide) ?_
  refine lv_istore_n (lv' := [(1, .int 0), (0, .ref (ad 0))]) hx hb dX1_sumOfLengths_1 rfl hl (by decide) rfl (fun ls hl => ?_)
  refine lv_iconst (v := 0) hx hb dX1_sumOfLengths_2 (by decide) ?_
  refine lv_istore_n (lv' := [(2, .int 0), (1, .int 0), (0, .ref (ad 0))]) hx hb dX1_sumOfLengths_3 rfl hl (by decide) rfl (fun ls hl => ?_)
  exact L4 31 0 0 0 (nI_0.symm) (rfl) (Nat.zero_le _) _ _ _ hS hP hD (lv_sub hl [2, 1, 0] rfl) hres
set_option maxHeartbeats 4000000 in
set_option maxRecDepth 100000 in
theorem c_X1_tellOfPipe (l : Launch) (D : va_G) (cs : Nat → ClassId) (ad : Nat → Nat) (o : OV) (vp : Int32) (what : Int32) (hO : OI o) : kI l yX1_tellOfPipe wsX1_tellOfPipe { frames := 3, cells := 0, slots := 0, locals := 67 } 0 0 D cs [.ref (ad 0), .int vp, .int what] (og_W cs ad o) (k_X1_tellOfPipe o vp what) (og_W cs ad o) := by
  generalize hres : k_X1_tellOfPipe o vp what = res
  refine kI_of (cc := cX1_tellOfPipe) (maxL := 3) (ret := (some .int)) (by decide) rfl (Nat.le_of_ble_eq_true rfl) ?_
  intro p e s m below meth c A ls H locs hE hS hP hD hl
  obtain ⟨hx, hb, hr, hlocks, hml, hown, hts, hK, hA, hG, hnm⟩ := id hE
  have hown : s.vm.findClass RX1 = some m.cls := hown
  have hl : lv_has ls 3 [(0, .ref (ad 0)), (1, .int vp), (2, .int what)] := hl
  have hinX1 : ∀ w ∈ wsX10, w ∈ wsX1_tellOfPipe := by decide +kernel
  have lk_0 := hts (.initialized RX5) (by decide +kernel)
  have lk_1 := hts (.static yX5_isPipe) (by decide +kernel)
  have lk_2 := hts (.fieldLink RX1 23 "OrganPegs$Organ" "covers" "[I") (by decide +kernel)
  have lk_3 := hts (.fieldLink RX1 51 "OrganPegs$Organ" "comb" "I") (by decide +kernel)
  have lk_4 := hts (.fieldLink RX1 27 "OrganPegs$Organ" "pipeNotes" "[I") (by decide +kernel)
  have lk_5 := hts (.fieldLink RX1 30 "OrganPegs$Organ" "pipeLacks" "[I") (by decide +kernel)
  unfold k_X1_tellOfPipe at hres
  refine lv_iload_n hx hb dX1_tellOfPipe_0 rfl (lv_at hl 1 rfl) ?_
  have hP : va_P D vwCl ([] ++ (og_W cs ad o)) H := hP
  have hD : va_D A ([] ++ (og_W cs ad o)) := hD
  have hc_1 := c_X5_isPipe l D cs vp
  refine kI_call (wc := []) (wr := (og_W cs ad o)) (w1 := []) (r := (k_X5_isPipe vp)) hE hP hD hS (k_rSN (rest := []) (As := [.int vp]) hE rfl (hc_1 H.size) ⟨va_cnB 1 hts gX1_tellOfPipe_X5_isPipe_n86 rfl rfl rfl (hG.1.2.1 _ _ _ _ nm_X1_86) lk_0 (by decide +kernel) ⟨Nat.le_of_ble_eq_true rfl, Nat.le_of_ble_eq_true rfl⟩, lk_1, trivial⟩ hP hD hS rfl hl rfl (Nat.le_of_ble_eq_true rfl) ⟨Nat.le_of_ble_eq_true rfl, Nat.le_of_ble_eq_true rfl⟩ dX1_tellOfPipe_1) (fun H locs hP hD hS => ?_)
  have hP : va_P D vwCl (og_W cs ad o) H := hP
  have hD : va_D A (og_W cs ad o) := hD
  refine lv_if_ne (tgt := 9) hx hb dX1_tellOfPipe_4 (by decide) (fun c_4 => ?_) (fun c_4 => ?_)
  · skip
    have c_4 : ¬ ((k_X5_isPipe vp) = 0) := c_4
    rw [if_neg c_4] at hres
    refine lv_iload_n hx hb dX1_tellOfPipe_9 rfl (lv_at hl 2 rfl) ?_
    by_cases c_10_0 : what = 0
    · skip
      rw [if_pos c_10_0] at hres
      refine lv_tableIn (tgt := 40) (off := 30) hx hb dX1_tellOfPipe_10 (by rw [c_10_0]; decide) (by rw [c_10_0]; decide) (by rw [c_10_0]; rfl) (by decide) ?_
      refine lv_aload_n hx hb dX1_tellOfPipe_40 rfl (lv_at hl 0 rfl) ?_
      refine lv_iload_n hx hb dX1_tellOfPipe_41 rfl (lv_at hl 1 rfl) ?_
      have hP : va_P D vwCl ((og_W cs ad o) ++ []) H := k_nP hP
      have hD : va_D A ((og_W cs ad o) ++ []) := k_nD hD
      have hc_42 := c_X1_pegsOfPipe l D cs ad o vp (by assumption)
      refine kI_call (wc := (og_W cs ad o)) (wr := []) (w1 := og_W cs ad o) (r := (k_X1_pegsOfPipe o vp)) hE hP hD hS (k_rV (rest := []) (As := [.int vp]) hE rfl (hc_42 H.size) (cwV 1 hts gX1_tellOfPipe_X1_pegsOfPipe rfl rfl rfl (by decide +kernel) ⟨Nat.le_of_ble_eq_true rfl, Nat.le_of_ble_eq_true rfl⟩) hP hD hS (ci := 1) (q0 := 0) rfl rfl rfl hl rfl (Nat.le_of_ble_eq_true rfl) ⟨Nat.le_of_ble_eq_true rfl, Nat.le_of_ble_eq_true rfl⟩ dX1_tellOfPipe_42) (fun H locs hP hD hS => ?_)
      have hP := k_uP hP
      have hD := k_uD hD
      have hP : va_P D vwCl (og_W cs ad o) H := hP
      have hD : va_D A (og_W cs ad o) := hD
      subst hres
      exact kI_ret hE hS hP hD rfl rfl (Nat.le_of_ble_eq_true rfl) (Nat.le_of_ble_eq_true rfl) dX1_tellOfPipe_45
    · skip
      rw [if_neg c_10_0] at hres
      by_cases c_10_1 : what = 1
      · skip
        rw [if_pos c_10_1] at hres
        refine lv_tableIn (tgt := 46) (off := 36) hx hb dX1_tellOfPipe_10 (by rw [c_10_1]; decide) (by rw [c_10_1]; decide) (by rw [c_10_1]; rfl) (by decide) ?_
        refine lv_aload_n hx hb dX1_tellOfPipe_46 rfl (lv_at hl 0 rfl) ?_
        refine va_get (D := D) (ci := 1) (v := .ref (ad 5)) (C := RX1) (T := TX1) (N := 17) hx hb hts hinX1 hown hK hP 0 rfl rfl 2 (by decide) lk_2 (fun _ h9 => h9) rfl dX1_tellOfPipe_47 ?_
        refine lv_iload_n hx hb dX1_tellOfPipe_50 rfl (lv_at hl 1 rfl) ?_
        refine k_iald hx hb hK hP 5 0 (v := ((o.2.2 2) vp.toNatClampNeg)) rfl rfl (pipe_in c_4) rfl dX1_tellOfPipe_51 ?_
        have hP : va_P D vwCl ([] ++ (og_W cs ad o)) H := hP
        have hD : va_D A ([] ++ (og_W cs ad o)) := hD
        have hc_52 := c_J6_bitCount_0f7a4 l D cs ((o.2.2 2) vp.toNatClampNeg)
        refine kI_call (wc := []) (wr := (og_W cs ad o)) (w1 := []) (r := (k_J6_bitCount_0f7a4 ((o.2.2 2) vp.toNatClampNeg))) hE hP hD hS (k_rS (rest := []) (As := [.int ((o.2.2 2) vp.toNatClampNeg)]) hE rfl (hc_52 H.size) (va_cwS 1 hts gX1_tellOfPipe_J6_bitCount_0f7a4 rfl rfl rfl (by decide +kernel) ⟨Nat.le_of_ble_eq_true rfl, Nat.le_of_ble_eq_true rfl⟩) hP hD hS rfl hl rfl (Nat.le_of_ble_eq_true rfl) ⟨Nat.le_of_ble_eq_true rfl, Nat.le_of_ble_eq_true rfl⟩ dX1_tellOfPipe_52) (fun H locs hP hD hS => ?_)
        have hP : va_P D vwCl (og_W cs ad o) H := hP
        have hD : va_D A (og_W cs ad o) := hD
        subst hres
        exact kI_ret hE hS hP hD rfl rfl (Nat.le_of_ble_eq_true rfl) (Nat.le_of_ble_eq_true rfl) dX1_tellOfPipe_55
      · skip
        rw [if_neg c_10_1] at hres
        by_cases c_10_2 : what = 2
        · skip
          rw [if_pos c_10_2] at hres
          refine lv_tableIn (tgt := 56) (off := 46) hx hb dX1_tellOfPipe_10 (by rw [c_10_2]; decide) (by rw [c_10_2]; decide) (by rw [c_10_2]; rfl) (by decide) ?_
          refine lv_aload_n hx hb dX1_tellOfPipe_56 rfl (lv_at hl 0 rfl) ?_
          refine lv_iload_n hx hb dX1_tellOfPipe_57 rfl (lv_at hl 1 rfl) ?_
          refine lv_aload_n hx hb dX1_tellOfPipe_58 rfl (lv_at hl 0 rfl) ?_
          refine va_get (D := D) (ci := 1) (v := .int (o.1 1)) (C := RX1) (T := TX1) (N := 17) hx hb hts hinX1 hown hK hP 0 rfl rfl 7 (by decide) lk_3 (fun _ h9 => h9) rfl dX1_tellOfPipe_59 ?_
          have hP : va_P D vwCl ((og_W cs ad o) ++ []) H := k_nP hP
          have hD : va_D A ((og_W cs ad o) ++ []) := k_nD hD
          have hc_62 := c_X1_isOpen l D cs ad o vp (o.1 1)
          refine kI_call (wc := (og_W cs ad o)) (wr := []) (w1 := og_W cs ad o) (r := (k_X1_isOpen o vp (o.1 1))) hE hP hD hS (k_rV (rest := []) (As := [.int vp, .int (o.1 1)]) hE rfl (hc_62 H.size) (cwV 2 hts gX1_tellOfPipe_X1_isOpen rfl rfl rfl (by decide +kernel) ⟨Nat.le_of_ble_eq_true rfl, Nat.le_of_ble_eq_true rfl⟩) hP hD hS (ci := 1) (q0 := 0) rfl rfl rfl hl rfl (Nat.le_of_ble_eq_true rfl) ⟨Nat.le_of_ble_eq_true rfl, Nat.le_of_ble_eq_true rfl⟩ dX1_tellOfPipe_62) (fun H locs hP hD hS => ?_)
          have hP := k_uP hP
          have hD := k_uD hD
          have hP : va_P D vwCl (og_W cs ad o) H := hP
          have hD : va_D A (og_W cs ad o) := hD
          refine lv_if_eq (tgt := 72) hx hb dX1_tellOfPipe_65 (by decide) (fun c_65 => ?_) (fun c_65 => ?_)
          · skip
            have c_65 : ((k_X1_isOpen o vp (o.1 1)) = 0) := c_65
            rw [if_pos c_65] at hres
            refine lv_iconst (v := 0) hx hb dX1_tellOfPipe_72 (by decide) ?_
            subst hres
            exact kI_ret hE hS hP hD rfl rfl (Nat.le_of_ble_eq_true rfl) (Nat.le_of_ble_eq_true rfl) dX1_tellOfPipe_73
          · skip
            have c_65 : ¬ ((k_X1_isOpen o vp (o.1 1)) = 0) := c_65
            rw [if_neg c_65] at hres
            refine lv_iconst (v := 1) hx hb dX1_tellOfPipe_68 (by decide) ?_
            refine lv_goto (tgt := 73) hx hb dX1_tellOfPipe_69 (by decide) ?_
            subst hres
            exact kI_ret hE hS hP hD rfl rfl (Nat.le_of_ble_eq_true rfl) (Nat.le_of_ble_eq_true rfl) dX1_tellOfPipe_73
        · skip
          rw [if_neg c_10_2] at hres
          by_cases c_10_3 : what = 3
          · skip
            rw [if_pos c_10_3] at hres
            refine lv_tableIn (tgt := 74) (off := 64) hx hb dX1_tellOfPipe_10 (by rw [c_10_3]; decide) (by rw [c_10_3]; decide) (by rw [c_10_3]; rfl) (by decide) ?_
            refine lv_aload_n hx hb dX1_tellOfPipe_74 rfl (lv_at hl 0 rfl) ?_
            refine va_get (D := D) (ci := 1) (v := .ref (ad 6)) (C := RX1) (T := TX1) (N := 17) hx hb hts hinX1 hown hK hP 0 rfl rfl 3 (by decide) lk_4 (fun _ h9 => h9) rfl dX1_tellOfPipe_75 ?_
            refine lv_iload_n hx hb dX1_tellOfPipe_78 rfl (lv_at hl 1 rfl) ?_
            refine k_iald hx hb hK hP 6 0 (v := ((o.2.2 3) vp.toNatClampNeg)) rfl rfl (pipe_in c_4) rfl dX1_tellOfPipe_79 ?_
            subst hres
            exact kI_ret hE hS hP hD rfl rfl (Nat.le_of_ble_eq_true rfl) (Nat.le_of_ble_eq_true rfl) dX1_tellOfPipe_80
          · skip
            rw [if_neg c_10_3] at hres
            refine lv_tableOut (tgt := 81) hx hb dX1_tellOfPipe_10 (x_out what 0 4 (by decide) (by intro j hj; match j, hj with | 0, _ => exact c_10_0 | 1, _ => exact c_10_1 | 2, _ => exact c_10_2 | 3, _ => exact c_10_3 | n + 4, hj => exact absurd hj (by omega))) (by decide) ?_
            refine lv_aload_n hx hb dX1_tellOfPipe_81 rfl (lv_at hl 0 rfl) ?_
            refine va_get (D := D) (ci := 1) (v := .ref (ad 7)) (C := RX1) (T := TX1) (N := 17) hx hb hts hinX1 hown hK hP 0 rfl rfl 4 (by decide) lk_5 (fun _ h9 => h9) rfl dX1_tellOfPipe_82 ?_
            refine lv_iload_n hx hb dX1_tellOfPipe_85 rfl (lv_at hl 1 rfl) ?_
            refine k_iald hx hb hK hP 7 0 (v := ((o.2.2 4) vp.toNatClampNeg)) rfl rfl (pipe_in c_4) rfl dX1_tellOfPipe_86 ?_
            subst hres
            exact kI_ret hE hS hP hD rfl rfl (Nat.le_of_ble_eq_true rfl) (Nat.le_of_ble_eq_true rfl) dX1_tellOfPipe_87
  · skip
    have c_4 : ((k_X5_isPipe vp) = 0) := c_4
    rw [if_pos c_4] at hres
    refine lv_iconst (v := 0) hx hb dX1_tellOfPipe_7 (by decide) ?_
    subst hres
    exact kI_ret hE hS hP hD rfl rfl (Nat.le_of_ble_eq_true rfl) (Nat.le_of_ble_eq_true rfl) dX1_tellOfPipe_8
set_option maxHeartbeats 4000000 in
set_option maxRecDepth 100000 in
theorem c_X1_isPut (l : Launch) (D : va_G) (cs : Nat → ClassId) (ad : Nat → Nat) (o : OV) (vk : Int32) : kI l yX1_isPut wsX1_isPut { frames := 2, cells := 0, slots := 0, locals := 44 } 0 0 D cs [.ref (ad 0), .int vk] (og_W cs ad o) (k_X1_isPut o vk) (og_W cs ad o) := by
  generalize hres : k_X1_isPut o vk = res
  refine kI_of (cc := cX1_isPut) (maxL := 2) (ret := (some .boolean)) (by decide) rfl (Nat.le_of_ble_eq_true rfl) ?_
  intro p e s m below meth c A ls H locs hE hS hP hD hl
  obtain ⟨hx, hb, hr, hlocks, hml, hown, hts, hK, hA, hG, hnm⟩ := id hE
  have hown : s.vm.findClass RX1 = some m.cls := hown
  have hl : lv_has ls 2 [(0, .ref (ad 0)), (1, .int vk)] := hl
  have hinX1 : ∀ w ∈ wsX10, w ∈ wsX1_isPut := by decide +kernel
  have lk_0 := hts (.fieldLink RX1 20 "OrganPegs$Organ" "orders" "LOrganPegs$Table;") (by decide +kernel)
  unfold k_X1_isPut at hres
  refine lv_aload_n hx hb dX1_isPut_0 rfl (lv_at hl 0 rfl) ?_
  refine va_get (D := D) (ci := 1) (v := .ref (ad 2)) (C := RX1) (T := TX1) (N := 17) hx hb hts hinX1 hown hK hP 0 rfl rfl 1 (by decide) lk_0 (fun _ h9 => h9) rfl dX1_isPut_1 ?_
  refine lv_iload_n hx hb dX1_isPut_4 rfl (lv_at hl 1 rfl) ?_
  refine lv_iconst (v := 0) hx hb dX1_isPut_5 (by decide) ?_
  have hP : va_P D vwCl ((tb_W cs (ad 2) (ad 4) 5 12 60 (g_ot o)) ++ (og_rO cs ad o)) H := og_cOP hP
  have hD : va_D A ((tb_W cs (ad 2) (ad 4) 5 12 60 (g_ot o)) ++ (og_rO cs ad o)) := og_cOD hD
  have hc_6 := c_X4_at l D cs (ad 2) (ad 4) 5 12 60 (g_ot o) vk 0 (Or.inr ⟨rfl, rfl, rfl⟩)
  refine kI_call (wc := (tb_W cs (ad 2) (ad 4) 5 12 60 (g_ot o))) (wr := (og_rO cs ad o)) (w1 := tb_W cs (ad 2) (ad 4) 5 12 60 (g_ot o)) (r := (k_X4_at 5 12 (g_ot o) vk 0)) hE hP hD hS (k_rV (rest := []) (As := [.int vk, .int 0]) hE rfl (hc_6 H.size) (cwV 2 hts gX1_isPut_X4_at rfl rfl rfl (by decide +kernel) ⟨Nat.le_of_ble_eq_true rfl, Nat.le_of_ble_eq_true rfl⟩) hP hD hS (ci := 4) (q0 := 0) rfl rfl rfl hl rfl (Nat.le_of_ble_eq_true rfl) ⟨Nat.le_of_ble_eq_true rfl, Nat.le_of_ble_eq_true rfl⟩ dX1_isPut_6) (fun H locs hP hD hS => ?_)
  have hP := og_bOP hP
  have hD := og_bOD hD
  have hP : va_P D vwCl (og_W cs ad o) H := hP
  have hD : va_D A (og_W cs ad o) := hD
  refine lv_iconst (v := 1) hx hb dX1_isPut_9 (by decide) ?_
  refine lv_icmp_ne (tgt := 17) hx hb dX1_isPut_10 (by decide) (fun c_10 => ?_) (fun c_10 => ?_)
  · skip
    have c_10 : ¬ ((k_X4_at 5 12 (g_ot o) vk 0) = 1) := c_10
    rw [if_neg c_10] at hres
    refine lv_iconst (v := 0) hx hb dX1_isPut_17 (by decide) ?_
    subst hres
    exact kI_ret hE hS hP hD rfl rfl (Nat.le_of_ble_eq_true rfl) (Nat.le_of_ble_eq_true rfl) dX1_isPut_18
  · skip
    have c_10 : ((k_X4_at 5 12 (g_ot o) vk 0) = 1) := c_10
    rw [if_pos c_10] at hres
    refine lv_iconst (v := 1) hx hb dX1_isPut_13 (by decide) ?_
    refine lv_goto (tgt := 18) hx hb dX1_isPut_14 (by decide) ?_
    subst hres
    exact kI_ret hE hS hP hD rfl rfl (Nat.le_of_ble_eq_true rfl) (Nat.le_of_ble_eq_true rfl) dX1_isPut_18
set_option maxHeartbeats 4000000 in
set_option maxRecDepth 100000 in
theorem c_X1_goesOnWaiting (l : Launch) (D : va_G) (cs : Nat → ClassId) (ad : Nat → Nat) (o : OV) (vk : Int32) : kI l yX1_goesOnWaiting wsX1_goesOnWaiting { frames := 2, cells := 0, slots := 0, locals := 45 } 0 0 D cs [.ref (ad 0), .int vk] (og_W cs ad o) (k_X1_goesOnWaiting o vk) (og_W cs ad o) := by
  generalize hres : k_X1_goesOnWaiting o vk = res
  refine kI_of (cc := cX1_goesOnWaiting) (maxL := 4) (ret := (some .boolean)) (by decide) rfl (Nat.le_of_ble_eq_true rfl) ?_
  intro p e s m below meth c A ls H locs hE hS hP hD hl
  obtain ⟨hx, hb, hr, hlocks, hml, hown, hts, hK, hA, hG, hnm⟩ := id hE
  have hown : s.vm.findClass RX1 = some m.cls := hown
  have hl : lv_has ls 4 [(0, .ref (ad 0)), (1, .int vk)] := hl
  have hinX1 : ∀ w ∈ wsX10, w ∈ wsX1_goesOnWaiting := by decide +kernel
  have lk_0 := hts (.fieldLink RX1 20 "OrganPegs$Organ" "orders" "LOrganPegs$Table;") (by decide +kernel)
  have lk_1 := hts (.initialized RX5) (by decide +kernel)
  have lk_2 := hts (.static yX5_span) (by decide +kernel)
  have lk_3 := hts (.fieldLink RX1 51 "OrganPegs$Organ" "comb" "I") (by decide +kernel)
  unfold k_X1_goesOnWaiting at hres
  refine lv_aload_n hx hb dX1_goesOnWaiting_0 rfl (lv_at hl 0 rfl) ?_
  refine va_get (D := D) (ci := 1) (v := .ref (ad 2)) (C := RX1) (T := TX1) (N := 17) hx hb hts hinX1 hown hK hP 0 rfl rfl 1 (by decide) lk_0 (fun _ h9 => h9) rfl dX1_goesOnWaiting_1 ?_
  refine lv_iload_n hx hb dX1_goesOnWaiting_4 rfl (lv_at hl 1 rfl) ?_
  refine lv_iconst (v := 2) hx hb dX1_goesOnWaiting_5 (by decide) ?_
  have hP : va_P D vwCl ((tb_W cs (ad 2) (ad 4) 5 12 60 (g_ot o)) ++ (og_rO cs ad o)) H := og_cOP hP
  have hD : va_D A ((tb_W cs (ad 2) (ad 4) 5 12 60 (g_ot o)) ++ (og_rO cs ad o)) := og_cOD hD
  have hc_6 := c_X4_at l D cs (ad 2) (ad 4) 5 12 60 (g_ot o) vk 2 (Or.inr ⟨rfl, rfl, rfl⟩)
  refine kI_call (wc := (tb_W cs (ad 2) (ad 4) 5 12 60 (g_ot o))) (wr := (og_rO cs ad o)) (w1 := tb_W cs (ad 2) (ad 4) 5 12 60 (g_ot o)) (r := (k_X4_at 5 12 (g_ot o) vk 2)) hE hP hD hS (k_rV (rest := []) (As := [.int vk, .int 2]) hE rfl (hc_6 H.size) (cwV 2 hts gX1_goesOnWaiting_X4_at rfl rfl rfl (by decide +kernel) ⟨Nat.le_of_ble_eq_true rfl, Nat.le_of_ble_eq_true rfl⟩) hP hD hS (ci := 4) (q0 := 0) rfl rfl rfl hl rfl (Nat.le_of_ble_eq_true rfl) ⟨Nat.le_of_ble_eq_true rfl, Nat.le_of_ble_eq_true rfl⟩ dX1_goesOnWaiting_6) (fun H locs hP hD hS => ?_)
  have hP := og_bOP hP
  have hD := og_bOD hD
  have hP : va_P D vwCl (og_W cs ad o) H := hP
  have hD : va_D A (og_W cs ad o) := hD
  refine lv_aload_n hx hb dX1_goesOnWaiting_9 rfl (lv_at hl 0 rfl) ?_
  refine va_get (D := D) (ci := 1) (v := .ref (ad 2)) (C := RX1) (T := TX1) (N := 17) hx hb hts hinX1 hown hK hP 0 rfl rfl 1 (by decide) lk_0 (fun _ h9 => h9) rfl dX1_goesOnWaiting_10 ?_
  refine lv_iload_n hx hb dX1_goesOnWaiting_13 rfl (lv_at hl 1 rfl) ?_
  refine lv_iconst (v := 3) hx hb dX1_goesOnWaiting_14 (by decide) ?_
  have hP : va_P D vwCl ((tb_W cs (ad 2) (ad 4) 5 12 60 (g_ot o)) ++ (og_rO cs ad o)) H := og_cOP hP
  have hD : va_D A ((tb_W cs (ad 2) (ad 4) 5 12 60 (g_ot o)) ++ (og_rO cs ad o)) := og_cOD hD
  have hc_15 := c_X4_at l D cs (ad 2) (ad 4) 5 12 60 (g_ot o) vk 3 (Or.inr ⟨rfl, rfl, rfl⟩)
  refine kI_call (wc := (tb_W cs (ad 2) (ad 4) 5 12 60 (g_ot o))) (wr := (og_rO cs ad o)) (w1 := tb_W cs (ad 2) (ad 4) 5 12 60 (g_ot o)) (r := (k_X4_at 5 12 (g_ot o) vk 3)) hE hP hD hS (k_rV (rest := [.int (k_X4_at 5 12 (g_ot o) vk 2)]) (As := [.int vk, .int 3]) hE rfl (hc_15 H.size) (cwV 2 hts gX1_goesOnWaiting_X4_at rfl rfl rfl (by decide +kernel) ⟨Nat.le_of_ble_eq_true rfl, Nat.le_of_ble_eq_true rfl⟩) hP hD hS (ci := 4) (q0 := 0) rfl rfl rfl hl rfl (Nat.le_of_ble_eq_true rfl) ⟨Nat.le_of_ble_eq_true rfl, Nat.le_of_ble_eq_true rfl⟩ dX1_goesOnWaiting_15) (fun H locs hP hD hS => ?_)
  have hP := og_bOP hP
  have hD := og_bOD hD
  have hP : va_P D vwCl (og_W cs ad o) H := hP
  have hD : va_D A (og_W cs ad o) := hD
  have hP : va_P D vwCl ([] ++ (og_W cs ad o)) H := hP
  have hD : va_D A ([] ++ (og_W cs ad o)) := hD
  have hc_18 := c_X5_span l D cs (k_X4_at 5 12 (g_ot o) vk 2) (k_X4_at 5 12 (g_ot o) vk 3)
  refine kI_call (wc := []) (wr := (og_W cs ad o)) (w1 := []) (r := (k_X5_span (k_X4_at 5 12 (g_ot o) vk 2) (k_X4_at 5 12 (g_ot o) vk 3))) hE hP hD hS (k_rSN (rest := []) (As := [.int (k_X4_at 5 12 (g_ot o) vk 2), .int (k_X4_at 5 12 (g_ot o) vk 3)]) hE rfl (hc_18 H.size) ⟨va_cnB 2 hts gX1_goesOnWaiting_X5_span_n109 rfl rfl rfl (hG.1.2.1 _ _ _ _ nm_X1_109) lk_1 (by decide +kernel) ⟨Nat.le_of_ble_eq_true rfl, Nat.le_of_ble_eq_true rfl⟩, lk_2, trivial⟩ hP hD hS rfl hl rfl (Nat.le_of_ble_eq_true rfl) ⟨Nat.le_of_ble_eq_true rfl, Nat.le_of_ble_eq_true rfl⟩ dX1_goesOnWaiting_18) (fun H locs hP hD hS => ?_)
  have hP : va_P D vwCl (og_W cs ad o) H := hP
  have hD : va_D A (og_W cs ad o) := hD
  refine lv_istore_n (lv' := [(2, .int (k_X5_span (k_X4_at 5 12 (g_ot o) vk 2) (k_X4_at 5 12 (g_ot o) vk 3))), (0, .ref (ad 0)), (1, .int vk)]) hx hb dX1_goesOnWaiting_21 rfl hl (by decide) rfl (fun ls hl => ?_)
  refine lv_iload_n hx hb dX1_goesOnWaiting_22 rfl (lv_at hl 0 rfl) ?_
  refine lv_aload_n hx hb dX1_goesOnWaiting_23 rfl (lv_at hl 1 rfl) ?_
  refine va_get (D := D) (ci := 1) (v := .int (o.1 1)) (C := RX1) (T := TX1) (N := 17) hx hb hts hinX1 hown hK hP 0 rfl rfl 7 (by decide) lk_3 (fun _ h9 => h9) rfl dX1_goesOnWaiting_24 ?_
  refine lv_iconst (v := 1) hx hb dX1_goesOnWaiting_27 (by decide) ?_
  have hP : va_P D vwCl ([] ++ (og_W cs ad o)) H := hP
  have hD : va_D A ([] ++ (og_W cs ad o)) := hD
  have hc_28 := c_X5_span l D cs (o.1 1) 1
  refine kI_call (wc := []) (wr := (og_W cs ad o)) (w1 := []) (r := (k_X5_span (o.1 1) 1)) hE hP hD hS (k_rSN (rest := [.int (k_X5_span (k_X4_at 5 12 (g_ot o) vk 2) (k_X4_at 5 12 (g_ot o) vk 3))]) (As := [.int (o.1 1), .int 1]) hE rfl (hc_28 H.size) ⟨va_cnB 2 hts gX1_goesOnWaiting_X5_span_n109 rfl rfl rfl (hG.1.2.1 _ _ _ _ nm_X1_109) lk_1 (by decide +kernel) ⟨Nat.le_of_ble_eq_true rfl, Nat.le_of_ble_eq_true rfl⟩, lk_2, trivial⟩ hP hD hS rfl hl rfl (Nat.le_of_ble_eq_true rfl) ⟨Nat.le_of_ble_eq_true rfl, Nat.le_of_ble_eq_true rfl⟩ dX1_goesOnWaiting_28) (fun H locs hP hD hS => ?_)
  have hP : va_P D vwCl (og_W cs ad o) H := hP
  have hD : va_D A (og_W cs ad o) := hD
  refine lv_iand hx hb dX1_goesOnWaiting_31 ?_
  refine lv_if_eq (tgt := 39) hx hb dX1_goesOnWaiting_32 (by decide) (fun c_32 => ?_) (fun c_32 => ?_)
  · skip
    have c_32 : (((k_X5_span (k_X4_at 5 12 (g_ot o) vk 2) (k_X4_at 5 12 (g_ot o) vk 3)) &&& (k_X5_span (o.1 1) 1)) = 0) := c_32
    rw [if_pos c_32] at hres
    refine lv_iconst (v := 0) hx hb dX1_goesOnWaiting_39 (by decide) ?_
    refine lv_istore_n (lv' := [(3, .int 0), (2, .int (k_X5_span (k_X4_at 5 12 (g_ot o) vk 2) (k_X4_at 5 12 (g_ot o) vk 3))), (0, .ref (ad 0)), (1, .int vk)]) hx hb dX1_goesOnWaiting_40 rfl hl (by decide) rfl (fun ls hl => ?_)
    refine lv_iload_n hx hb dX1_goesOnWaiting_41 rfl (lv_at hl 0 rfl) ?_
    refine lv_if_ne (tgt := 65) hx hb dX1_goesOnWaiting_42 (by decide) (fun c_42 => ?_) (fun c_42 => ?_)
    · skip
      exact absurd c_42 (by decide)
    · skip
      have c_42 : ((0 : Int32) = 0) := c_42
      refine lv_aload_n hx hb dX1_goesOnWaiting_45 rfl (lv_at hl 2 rfl) ?_
      refine lv_aload_n hx hb dX1_goesOnWaiting_46 rfl (lv_at hl 2 rfl) ?_
      refine va_get (D := D) (ci := 1) (v := .ref (ad 2)) (C := RX1) (T := TX1) (N := 17) hx hb hts hinX1 hown hK hP 0 rfl rfl 1 (by decide) lk_0 (fun _ h9 => h9) rfl dX1_goesOnWaiting_47 ?_
      refine lv_iload_n hx hb dX1_goesOnWaiting_50 rfl (lv_at hl 3 rfl) ?_
      refine lv_iconst (v := 1) hx hb dX1_goesOnWaiting_51 (by decide) ?_
      have hP : va_P D vwCl ((tb_W cs (ad 2) (ad 4) 5 12 60 (g_ot o)) ++ (og_rO cs ad o)) H := og_cOP hP
      have hD : va_D A ((tb_W cs (ad 2) (ad 4) 5 12 60 (g_ot o)) ++ (og_rO cs ad o)) := og_cOD hD
      have hc_52 := c_X4_at l D cs (ad 2) (ad 4) 5 12 60 (g_ot o) vk 1 (Or.inr ⟨rfl, rfl, rfl⟩)
      refine kI_call (wc := (tb_W cs (ad 2) (ad 4) 5 12 60 (g_ot o))) (wr := (og_rO cs ad o)) (w1 := tb_W cs (ad 2) (ad 4) 5 12 60 (g_ot o)) (r := (k_X4_at 5 12 (g_ot o) vk 1)) hE hP hD hS (k_rV (rest := [.ref (ad 0)]) (As := [.int vk, .int 1]) hE rfl (hc_52 H.size) (cwV 2 hts gX1_goesOnWaiting_X4_at rfl rfl rfl (by decide +kernel) ⟨Nat.le_of_ble_eq_true rfl, Nat.le_of_ble_eq_true rfl⟩) hP hD hS (ci := 4) (q0 := 0) rfl rfl rfl hl rfl (Nat.le_of_ble_eq_true rfl) ⟨Nat.le_of_ble_eq_true rfl, Nat.le_of_ble_eq_true rfl⟩ dX1_goesOnWaiting_52) (fun H locs hP hD hS => ?_)
      have hP := og_bOP hP
      have hD := og_bOD hD
      have hP : va_P D vwCl (og_W cs ad o) H := hP
      have hD : va_D A (og_W cs ad o) := hD
      refine lv_aload_n hx hb dX1_goesOnWaiting_55 rfl (lv_at hl 2 rfl) ?_
      refine va_get (D := D) (ci := 1) (v := .int (o.1 1)) (C := RX1) (T := TX1) (N := 17) hx hb hts hinX1 hown hK hP 0 rfl rfl 7 (by decide) lk_3 (fun _ h9 => h9) rfl dX1_goesOnWaiting_56 ?_
      have hP : va_P D vwCl ((og_W cs ad o) ++ []) H := k_nP hP
      have hD : va_D A ((og_W cs ad o) ++ []) := k_nD hD
      have hc_59 := c_X1_isOpen l D cs ad o (k_X4_at 5 12 (g_ot o) vk 1) (o.1 1)
      refine kI_call (wc := (og_W cs ad o)) (wr := []) (w1 := og_W cs ad o) (r := (k_X1_isOpen o (k_X4_at 5 12 (g_ot o) vk 1) (o.1 1))) hE hP hD hS (k_rV (rest := []) (As := [.int (k_X4_at 5 12 (g_ot o) vk 1), .int (o.1 1)]) hE rfl (hc_59 H.size) (cwV 2 hts gX1_goesOnWaiting_X1_isOpen rfl rfl rfl (by decide +kernel) ⟨Nat.le_of_ble_eq_true rfl, Nat.le_of_ble_eq_true rfl⟩) hP hD hS (ci := 1) (q0 := 0) rfl rfl rfl hl rfl (Nat.le_of_ble_eq_true rfl) ⟨Nat.le_of_ble_eq_true rfl, Nat.le_of_ble_eq_true rfl⟩ dX1_goesOnWaiting_59) (fun H locs hP hD hS => ?_)
      have hP := k_uP hP
      have hD := k_uD hD
      have hP : va_P D vwCl (og_W cs ad o) H := hP
      have hD : va_D A (og_W cs ad o) := hD
      refine lv_if_eq (tgt := 69) hx hb dX1_goesOnWaiting_62 (by decide) (fun c_62 => ?_) (fun c_62 => ?_)
      · skip
        have c_62 : ((k_X1_isOpen o (k_X4_at 5 12 (g_ot o) vk 1) (o.1 1)) = 0) := c_62
        rw [if_pos c_62] at hres
        refine lv_iconst (v := 0) hx hb dX1_goesOnWaiting_69 (by decide) ?_
        subst hres
        exact kI_ret hE hS hP hD rfl rfl (Nat.le_of_ble_eq_true rfl) (Nat.le_of_ble_eq_true rfl) dX1_goesOnWaiting_70
      · skip
        have c_62 : ¬ ((k_X1_isOpen o (k_X4_at 5 12 (g_ot o) vk 1) (o.1 1)) = 0) := c_62
        rw [if_neg c_62] at hres
        refine lv_iconst (v := 1) hx hb dX1_goesOnWaiting_65 (by decide) ?_
        refine lv_goto (tgt := 70) hx hb dX1_goesOnWaiting_66 (by decide) ?_
        subst hres
        exact kI_ret hE hS hP hD rfl rfl (Nat.le_of_ble_eq_true rfl) (Nat.le_of_ble_eq_true rfl) dX1_goesOnWaiting_70
  · skip
    have c_32 : ¬ (((k_X5_span (k_X4_at 5 12 (g_ot o) vk 2) (k_X4_at 5 12 (g_ot o) vk 3)) &&& (k_X5_span (o.1 1) 1)) = 0) := c_32
    rw [if_neg c_32] at hres
    refine lv_iconst (v := 1) hx hb dX1_goesOnWaiting_35 (by decide) ?_
    refine lv_goto (tgt := 40) hx hb dX1_goesOnWaiting_36 (by decide) ?_
    refine lv_istore_n (lv' := [(3, .int 1), (2, .int (k_X5_span (k_X4_at 5 12 (g_ot o) vk 2) (k_X4_at 5 12 (g_ot o) vk 3))), (0, .ref (ad 0)), (1, .int vk)]) hx hb dX1_goesOnWaiting_40 rfl hl (by decide) rfl (fun ls hl => ?_)
    refine lv_iload_n hx hb dX1_goesOnWaiting_41 rfl (lv_at hl 0 rfl) ?_
    refine lv_if_ne (tgt := 65) hx hb dX1_goesOnWaiting_42 (by decide) (fun c_42 => ?_) (fun c_42 => ?_)
    · skip
      have c_42 : ¬ ((1 : Int32) = 0) := c_42
      refine lv_iconst (v := 1) hx hb dX1_goesOnWaiting_65 (by decide) ?_
      refine lv_goto (tgt := 70) hx hb dX1_goesOnWaiting_66 (by decide) ?_
      subst hres
      exact kI_ret hE hS hP hD rfl rfl (Nat.le_of_ble_eq_true rfl) (Nat.le_of_ble_eq_true rfl) dX1_goesOnWaiting_70
    · skip
      exact absurd c_42 (by decide)
set_option maxHeartbeats 4000000 in
set_option maxRecDepth 100000 in
theorem c_X1_addOrder (l : Launch) (D : va_G) (cs : Nat → ClassId) (ad : Nat → Nat) (o : OV) (vs : Int32) (vp : Int32) (vb : Int32) (vn : Int32) : kI l yX1_addOrder wsX1_addOrder { frames := 2, cells := 0, slots := 0, locals := 45 } 0 0 D cs [.ref (ad 0), .int vs, .int vp, .int vb, .int vn] (og_W cs ad o) (k_X1_addOrder o vs vp vb vn).1 (og_W cs ad ((k_X1_addOrder o vs vp vb vn).2)) := by
  generalize hres : k_X1_addOrder o vs vp vb vn = res
  refine kI_of (cc := cX1_addOrder) (maxL := 6) (ret := (some .int)) (by decide) rfl (Nat.le_of_ble_eq_true rfl) ?_
  intro p e s m below meth c A ls H locs hE hS hP hD hl
  obtain ⟨hx, hb, hr, hlocks, hml, hown, hts, hK, hA, hG, hnm⟩ := id hE
  have hown : s.vm.findClass RX1 = some m.cls := hown
  have hl : lv_has ls 6 [(0, .ref (ad 0)), (1, .int vs), (2, .int vp), (3, .int vb), (4, .int vn)] := hl
  have hinX1 : ∀ w ∈ wsX10, w ∈ wsX1_addOrder := by decide +kernel
  have lk_0 := hts (.initialized RX5) (by decide +kernel)
  have lk_1 := hts (.static yX5_isPipe) (by decide +kernel)
  have lk_2 := hts (.static yX5_isBar) (by decide +kernel)
  have lk_3 := hts (.fieldLink RX1 20 "OrganPegs$Organ" "orders" "LOrganPegs$Table;") (by decide +kernel)
  unfold k_X1_addOrder at hres
  refine lv_iload_n hx hb dX1_addOrder_0 rfl (lv_at hl 2 rfl) ?_
  have hP : va_P D vwCl ([] ++ (og_W cs ad o)) H := hP
  have hD : va_D A ([] ++ (og_W cs ad o)) := hD
  have hc_1 := c_X5_isPipe l D cs vp
  refine kI_call (wc := []) (wr := (og_W cs ad o)) (w1 := []) (r := (k_X5_isPipe vp)) hE hP hD hS (k_rSN (rest := []) (As := [.int vp]) hE rfl (hc_1 H.size) ⟨va_cnB 1 hts gX1_addOrder_X5_isPipe_n86 rfl rfl rfl (hG.1.2.1 _ _ _ _ nm_X1_86) lk_0 (by decide +kernel) ⟨Nat.le_of_ble_eq_true rfl, Nat.le_of_ble_eq_true rfl⟩, lk_1, trivial⟩ hP hD hS rfl hl rfl (Nat.le_of_ble_eq_true rfl) ⟨Nat.le_of_ble_eq_true rfl, Nat.le_of_ble_eq_true rfl⟩ dX1_addOrder_1) (fun H locs hP hD hS => ?_)
  have hP : va_P D vwCl (og_W cs ad o) H := hP
  have hD : va_D A (og_W cs ad o) := hD
  refine lv_if_eq (tgt := 24) hx hb dX1_addOrder_4 (by decide) (fun c_4 => ?_) (fun c_4 => ?_)
  · skip
    have c_4 : ((k_X5_isPipe vp) = 0) := c_4
    rw [if_pos c_4] at hres
    refine lv_iconst (v := (-1)) hx hb dX1_addOrder_24 (by decide) ?_
    subst hres
    exact kI_ret hE hS hP hD rfl rfl (Nat.le_of_ble_eq_true rfl) (Nat.le_of_ble_eq_true rfl) dX1_addOrder_25
  · skip
    have c_4 : ¬ ((k_X5_isPipe vp) = 0) := c_4
    rw [if_neg c_4] at hres
    refine lv_iload_n hx hb dX1_addOrder_7 rfl (lv_at hl 3 rfl) ?_
    have hP : va_P D vwCl ([] ++ (og_W cs ad o)) H := hP
    have hD : va_D A ([] ++ (og_W cs ad o)) := hD
    have hc_8 := c_X5_isBar l D cs vb
    refine kI_call (wc := []) (wr := (og_W cs ad o)) (w1 := []) (r := (k_X5_isBar vb)) hE hP hD hS (k_rSN (rest := []) (As := [.int vb]) hE rfl (hc_8 H.size) ⟨va_cnB 1 hts gX1_addOrder_X5_isBar_n122 rfl rfl rfl (hG.1.2.1 _ _ _ _ nm_X1_122) lk_0 (by decide +kernel) ⟨Nat.le_of_ble_eq_true rfl, Nat.le_of_ble_eq_true rfl⟩, lk_2, trivial⟩ hP hD hS rfl hl rfl (Nat.le_of_ble_eq_true rfl) ⟨Nat.le_of_ble_eq_true rfl, Nat.le_of_ble_eq_true rfl⟩ dX1_addOrder_8) (fun H locs hP hD hS => ?_)
    have hP : va_P D vwCl (og_W cs ad o) H := hP
    have hD : va_D A (og_W cs ad o) := hD
    refine lv_if_eq (tgt := 24) hx hb dX1_addOrder_11 (by decide) (fun c_11 => ?_) (fun c_11 => ?_)
    · skip
      have c_11 : ((k_X5_isBar vb) = 0) := c_11
      rw [if_pos c_11] at hres
      refine lv_iconst (v := (-1)) hx hb dX1_addOrder_24 (by decide) ?_
      subst hres
      exact kI_ret hE hS hP hD rfl rfl (Nat.le_of_ble_eq_true rfl) (Nat.le_of_ble_eq_true rfl) dX1_addOrder_25
    · skip
      have c_11 : ¬ ((k_X5_isBar vb) = 0) := c_11
      rw [if_neg c_11] at hres
      refine lv_aload_n hx hb dX1_addOrder_14 rfl (lv_at hl 0 rfl) ?_
      refine va_get (D := D) (ci := 1) (v := .ref (ad 2)) (C := RX1) (T := TX1) (N := 17) hx hb hts hinX1 hown hK hP 0 rfl rfl 1 (by decide) lk_3 (fun _ h9 => h9) rfl dX1_addOrder_15 ?_
      have hP : va_P D vwCl ((tb_W cs (ad 2) (ad 4) 5 12 60 (g_ot o)) ++ (og_rO cs ad o)) H := og_cOP hP
      have hD : va_D A ((tb_W cs (ad 2) (ad 4) 5 12 60 (g_ot o)) ++ (og_rO cs ad o)) := og_cOD hD
      have hc_18 := c_X4_isFull l D cs (ad 2) (ad 4) 5 12 60 (g_ot o)
      refine kI_call (wc := (tb_W cs (ad 2) (ad 4) 5 12 60 (g_ot o))) (wr := (og_rO cs ad o)) (w1 := tb_W cs (ad 2) (ad 4) 5 12 60 (g_ot o)) (r := (k_X4_isFull 5 12 (g_ot o))) hE hP hD hS (k_rV (rest := []) (As := []) hE rfl (hc_18 H.size) (cwV 0 hts gX1_addOrder_X4_isFull rfl rfl rfl (by decide +kernel) ⟨Nat.le_of_ble_eq_true rfl, Nat.le_of_ble_eq_true rfl⟩) hP hD hS (ci := 4) (q0 := 0) rfl rfl rfl hl rfl (Nat.le_of_ble_eq_true rfl) ⟨Nat.le_of_ble_eq_true rfl, Nat.le_of_ble_eq_true rfl⟩ dX1_addOrder_18) (fun H locs hP hD hS => ?_)
      have hP := og_bOP hP
      have hD := og_bOD hD
      have hP : va_P D vwCl (og_W cs ad o) H := hP
      have hD : va_D A (og_W cs ad o) := hD
      refine lv_if_eq (tgt := 26) hx hb dX1_addOrder_21 (by decide) (fun c_21 => ?_) (fun c_21 => ?_)
      · skip
        have c_21 : ((k_X4_isFull 5 12 (g_ot o)) = 0) := c_21
        rw [if_pos c_21] at hres
        refine lv_aload_n hx hb dX1_addOrder_26 rfl (lv_at hl 0 rfl) ?_
        refine va_get (D := D) (ci := 1) (v := .ref (ad 2)) (C := RX1) (T := TX1) (N := 17) hx hb hts hinX1 hown hK hP 0 rfl rfl 1 (by decide) lk_3 (fun _ h9 => h9) rfl dX1_addOrder_27 ?_
        have hP : va_P D vwCl ((tb_W cs (ad 2) (ad 4) 5 12 60 (g_ot o)) ++ (og_rO cs ad o)) H := og_cOP hP
        have hD : va_D A ((tb_W cs (ad 2) (ad 4) 5 12 60 (g_ot o)) ++ (og_rO cs ad o)) := og_cOD hD
        have hc_30 := c_X4_addLine l D cs (ad 2) (ad 4) 5 12 60 (g_ot o)
        obtain ⟨r_30, o_30, e_30⟩ : ∃ r9 o9, (k_X4_addLine 5 12 (g_ot o)) = (r9, o9) := ⟨_, _, rfl⟩
        rw [e_30] at hc_30 hres
        dsimp only at hc_30 hres
        refine kI_call (wc := (tb_W cs (ad 2) (ad 4) 5 12 60 (g_ot o))) (wr := (og_rO cs ad o)) (w1 := tb_W cs (ad 2) (ad 4) 5 12 60 o_30) (r := r_30) hE hP hD hS (k_rV (rest := []) (As := []) hE rfl (hc_30 H.size) (cwV 0 hts gX1_addOrder_X4_addLine rfl rfl rfl (by decide +kernel) ⟨Nat.le_of_ble_eq_true rfl, Nat.le_of_ble_eq_true rfl⟩) hP hD hS (ci := 4) (q0 := 0) rfl rfl rfl hl rfl (Nat.le_of_ble_eq_true rfl) ⟨Nat.le_of_ble_eq_true rfl, Nat.le_of_ble_eq_true rfl⟩ dX1_addOrder_30) (fun H locs hP hD hS => ?_)
        have hP := og_bOP hP
        have hD := og_bOD hD
        have hP : va_P D vwCl (og_W cs ad (o_ot o o_30)) H := hP
        have hD : va_D A (og_W cs ad (o_ot o o_30)) := hD
        refine lv_istore (lv' := [(5, .int r_30), (0, .ref (ad 0)), (1, .int vs), (2, .int vp), (3, .int vb), (4, .int vn)]) hx hb dX1_addOrder_33 hl (by decide) rfl (fun ls hl => ?_)
        refine lv_aload_n hx hb dX1_addOrder_35 rfl (lv_at hl 1 rfl) ?_
        refine va_get (D := D) (ci := 1) (v := .ref (ad 2)) (C := RX1) (T := TX1) (N := 17) hx hb hts hinX1 hown hK hP 0 rfl rfl 1 (by decide) lk_3 (fun _ h9 => h9) rfl dX1_addOrder_36 ?_
        refine lv_iload hx hb dX1_addOrder_39 (lv_at hl 0 rfl) ?_
        refine lv_iconst (v := 0) hx hb dX1_addOrder_41 (by decide) ?_
        refine lv_iload_n hx hb dX1_addOrder_42 rfl (lv_at hl 2 rfl) ?_
        have hP : va_P D vwCl ((tb_W cs (ad 2) (ad 4) 5 12 60 o_30) ++ (og_rO cs ad (o_ot o o_30))) H := og_cOP hP
        have hD : va_D A ((tb_W cs (ad 2) (ad 4) 5 12 60 o_30) ++ (og_rO cs ad (o_ot o o_30))) := og_cOD hD
        have hc_43 := c_X4_write l D cs (ad 2) (ad 4) 5 12 60 o_30 r_30 0 vs (Or.inr ⟨rfl, rfl, rfl⟩)
        refine kV_call (wc := (tb_W cs (ad 2) (ad 4) 5 12 60 o_30)) (wr := (og_rO cs ad (o_ot o o_30))) (w1 := fun _ => tb_W cs (ad 2) (ad 4) 5 12 60 (k_X4_write 5 12 o_30 r_30 0 vs)) hE hP hD hS (k_rV (rest := []) (As := [.int r_30, .int 0, .int vs]) hE rfl (hc_43 H.size) (cwV 3 hts gX1_addOrder_X4_write rfl rfl rfl (by decide +kernel) ⟨Nat.le_of_ble_eq_true rfl, Nat.le_of_ble_eq_true rfl⟩) hP hD hS (ci := 4) (q0 := 0) rfl rfl rfl hl rfl (Nat.le_of_ble_eq_true rfl) ⟨Nat.le_of_ble_eq_true rfl, Nat.le_of_ble_eq_true rfl⟩ dX1_addOrder_43) (fun _ H locs _ hP hD hS => ?_)
        have hP := og_bOP hP
        have hD := og_bOD hD
        have hP : va_P D vwCl (og_W cs ad (o_ot o (k_X4_write 5 12 o_30 r_30 0 vs))) H := hP
        have hD : va_D A (og_W cs ad (o_ot o (k_X4_write 5 12 o_30 r_30 0 vs))) := hD
        refine lv_aload_n hx hb dX1_addOrder_46 rfl (lv_at hl 1 rfl) ?_
        refine va_get (D := D) (ci := 1) (v := .ref (ad 2)) (C := RX1) (T := TX1) (N := 17) hx hb hts hinX1 hown hK hP 0 rfl rfl 1 (by decide) lk_3 (fun _ h9 => h9) rfl dX1_addOrder_47 ?_
        refine lv_iload hx hb dX1_addOrder_50 (lv_at hl 0 rfl) ?_
        refine lv_iconst (v := 1) hx hb dX1_addOrder_52 (by decide) ?_
        refine lv_iload_n hx hb dX1_addOrder_53 rfl (lv_at hl 3 rfl) ?_
        have hP : va_P D vwCl ((tb_W cs (ad 2) (ad 4) 5 12 60 (k_X4_write 5 12 o_30 r_30 0 vs)) ++ (og_rO cs ad (o_ot o (k_X4_write 5 12 o_30 r_30 0 vs)))) H := og_cOP hP
        have hD : va_D A ((tb_W cs (ad 2) (ad 4) 5 12 60 (k_X4_write 5 12 o_30 r_30 0 vs)) ++ (og_rO cs ad (o_ot o (k_X4_write 5 12 o_30 r_30 0 vs)))) := og_cOD hD
        have hc_54 := c_X4_write l D cs (ad 2) (ad 4) 5 12 60 (k_X4_write 5 12 o_30 r_30 0 vs) r_30 1 vp (Or.inr ⟨rfl, rfl, rfl⟩)
        refine kV_call (wc := (tb_W cs (ad 2) (ad 4) 5 12 60 (k_X4_write 5 12 o_30 r_30 0 vs))) (wr := (og_rO cs ad (o_ot o (k_X4_write 5 12 o_30 r_30 0 vs)))) (w1 := fun _ => tb_W cs (ad 2) (ad 4) 5 12 60 (k_X4_write 5 12 (k_X4_write 5 12 o_30 r_30 0 vs) r_30 1 vp)) hE hP hD hS (k_rV (rest := []) (As := [.int r_30, .int 1, .int vp]) hE rfl (hc_54 H.size) (cwV 3 hts gX1_addOrder_X4_write rfl rfl rfl (by decide +kernel) ⟨Nat.le_of_ble_eq_true rfl, Nat.le_of_ble_eq_true rfl⟩) hP hD hS (ci := 4) (q0 := 0) rfl rfl rfl hl rfl (Nat.le_of_ble_eq_true rfl) ⟨Nat.le_of_ble_eq_true rfl, Nat.le_of_ble_eq_true rfl⟩ dX1_addOrder_54) (fun _ H locs _ hP hD hS => ?_)
        have hP := og_bOP hP
        have hD := og_bOD hD
        have hP : va_P D vwCl (og_W cs ad (o_ot o (k_X4_write 5 12 (k_X4_write 5 12 o_30 r_30 0 vs) r_30 1 vp))) H := hP
        have hD : va_D A (og_W cs ad (o_ot o (k_X4_write 5 12 (k_X4_write 5 12 o_30 r_30 0 vs) r_30 1 vp))) := hD
        refine lv_aload_n hx hb dX1_addOrder_57 rfl (lv_at hl 1 rfl) ?_
        refine va_get (D := D) (ci := 1) (v := .ref (ad 2)) (C := RX1) (T := TX1) (N := 17) hx hb hts hinX1 hown hK hP 0 rfl rfl 1 (by decide) lk_3 (fun _ h9 => h9) rfl dX1_addOrder_58 ?_
        refine lv_iload hx hb dX1_addOrder_61 (lv_at hl 0 rfl) ?_
        refine lv_iconst (v := 2) hx hb dX1_addOrder_63 (by decide) ?_
        refine lv_iload_n hx hb dX1_addOrder_64 rfl (lv_at hl 4 rfl) ?_
        have hP : va_P D vwCl ((tb_W cs (ad 2) (ad 4) 5 12 60 (k_X4_write 5 12 (k_X4_write 5 12 o_30 r_30 0 vs) r_30 1 vp)) ++ (og_rO cs ad (o_ot o (k_X4_write 5 12 (k_X4_write 5 12 o_30 r_30 0 vs) r_30 1 vp)))) H := og_cOP hP
        have hD : va_D A ((tb_W cs (ad 2) (ad 4) 5 12 60 (k_X4_write 5 12 (k_X4_write 5 12 o_30 r_30 0 vs) r_30 1 vp)) ++ (og_rO cs ad (o_ot o (k_X4_write 5 12 (k_X4_write 5 12 o_30 r_30 0 vs) r_30 1 vp)))) := og_cOD hD
        have hc_65 := c_X4_write l D cs (ad 2) (ad 4) 5 12 60 (k_X4_write 5 12 (k_X4_write 5 12 o_30 r_30 0 vs) r_30 1 vp) r_30 2 vb (Or.inr ⟨rfl, rfl, rfl⟩)
        refine kV_call (wc := (tb_W cs (ad 2) (ad 4) 5 12 60 (k_X4_write 5 12 (k_X4_write 5 12 o_30 r_30 0 vs) r_30 1 vp))) (wr := (og_rO cs ad (o_ot o (k_X4_write 5 12 (k_X4_write 5 12 o_30 r_30 0 vs) r_30 1 vp)))) (w1 := fun _ => tb_W cs (ad 2) (ad 4) 5 12 60 (k_X4_write 5 12 (k_X4_write 5 12 (k_X4_write 5 12 o_30 r_30 0 vs) r_30 1 vp) r_30 2 vb)) hE hP hD hS (k_rV (rest := []) (As := [.int r_30, .int 2, .int vb]) hE rfl (hc_65 H.size) (cwV 3 hts gX1_addOrder_X4_write rfl rfl rfl (by decide +kernel) ⟨Nat.le_of_ble_eq_true rfl, Nat.le_of_ble_eq_true rfl⟩) hP hD hS (ci := 4) (q0 := 0) rfl rfl rfl hl rfl (Nat.le_of_ble_eq_true rfl) ⟨Nat.le_of_ble_eq_true rfl, Nat.le_of_ble_eq_true rfl⟩ dX1_addOrder_65) (fun _ H locs _ hP hD hS => ?_)
        have hP := og_bOP hP
        have hD := og_bOD hD
        have hP : va_P D vwCl (og_W cs ad (o_ot o (k_X4_write 5 12 (k_X4_write 5 12 (k_X4_write 5 12 o_30 r_30 0 vs) r_30 1 vp) r_30 2 vb))) H := hP
        have hD : va_D A (og_W cs ad (o_ot o (k_X4_write 5 12 (k_X4_write 5 12 (k_X4_write 5 12 o_30 r_30 0 vs) r_30 1 vp) r_30 2 vb))) := hD
        refine lv_aload_n hx hb dX1_addOrder_68 rfl (lv_at hl 1 rfl) ?_
        refine va_get (D := D) (ci := 1) (v := .ref (ad 2)) (C := RX1) (T := TX1) (N := 17) hx hb hts hinX1 hown hK hP 0 rfl rfl 1 (by decide) lk_3 (fun _ h9 => h9) rfl dX1_addOrder_69 ?_
        refine lv_iload hx hb dX1_addOrder_72 (lv_at hl 0 rfl) ?_
        refine lv_iconst (v := 3) hx hb dX1_addOrder_74 (by decide) ?_
        refine lv_iload hx hb dX1_addOrder_75 (lv_at hl 5 rfl) ?_
        have hP : va_P D vwCl ((tb_W cs (ad 2) (ad 4) 5 12 60 (k_X4_write 5 12 (k_X4_write 5 12 (k_X4_write 5 12 o_30 r_30 0 vs) r_30 1 vp) r_30 2 vb)) ++ (og_rO cs ad (o_ot o (k_X4_write 5 12 (k_X4_write 5 12 (k_X4_write 5 12 o_30 r_30 0 vs) r_30 1 vp) r_30 2 vb)))) H := og_cOP hP
        have hD : va_D A ((tb_W cs (ad 2) (ad 4) 5 12 60 (k_X4_write 5 12 (k_X4_write 5 12 (k_X4_write 5 12 o_30 r_30 0 vs) r_30 1 vp) r_30 2 vb)) ++ (og_rO cs ad (o_ot o (k_X4_write 5 12 (k_X4_write 5 12 (k_X4_write 5 12 o_30 r_30 0 vs) r_30 1 vp) r_30 2 vb)))) := og_cOD hD
        have hc_77 := c_X4_write l D cs (ad 2) (ad 4) 5 12 60 (k_X4_write 5 12 (k_X4_write 5 12 (k_X4_write 5 12 o_30 r_30 0 vs) r_30 1 vp) r_30 2 vb) r_30 3 vn (Or.inr ⟨rfl, rfl, rfl⟩)
        refine kV_call (wc := (tb_W cs (ad 2) (ad 4) 5 12 60 (k_X4_write 5 12 (k_X4_write 5 12 (k_X4_write 5 12 o_30 r_30 0 vs) r_30 1 vp) r_30 2 vb))) (wr := (og_rO cs ad (o_ot o (k_X4_write 5 12 (k_X4_write 5 12 (k_X4_write 5 12 o_30 r_30 0 vs) r_30 1 vp) r_30 2 vb)))) (w1 := fun _ => tb_W cs (ad 2) (ad 4) 5 12 60 (k_X4_write 5 12 (k_X4_write 5 12 (k_X4_write 5 12 (k_X4_write 5 12 o_30 r_30 0 vs) r_30 1 vp) r_30 2 vb) r_30 3 vn)) hE hP hD hS (k_rV (rest := []) (As := [.int r_30, .int 3, .int vn]) hE rfl (hc_77 H.size) (cwV 3 hts gX1_addOrder_X4_write rfl rfl rfl (by decide +kernel) ⟨Nat.le_of_ble_eq_true rfl, Nat.le_of_ble_eq_true rfl⟩) hP hD hS (ci := 4) (q0 := 0) rfl rfl rfl hl rfl (Nat.le_of_ble_eq_true rfl) ⟨Nat.le_of_ble_eq_true rfl, Nat.le_of_ble_eq_true rfl⟩ dX1_addOrder_77) (fun _ H locs _ hP hD hS => ?_)
        have hP := og_bOP hP
        have hD := og_bOD hD
        have hP : va_P D vwCl (og_W cs ad (o_ot o (k_X4_write 5 12 (k_X4_write 5 12 (k_X4_write 5 12 (k_X4_write 5 12 o_30 r_30 0 vs) r_30 1 vp) r_30 2 vb) r_30 3 vn))) H := hP
        have hD : va_D A (og_W cs ad (o_ot o (k_X4_write 5 12 (k_X4_write 5 12 (k_X4_write 5 12 (k_X4_write 5 12 o_30 r_30 0 vs) r_30 1 vp) r_30 2 vb) r_30 3 vn))) := hD
        refine lv_aload_n hx hb dX1_addOrder_80 rfl (lv_at hl 1 rfl) ?_
        refine va_get (D := D) (ci := 1) (v := .ref (ad 2)) (C := RX1) (T := TX1) (N := 17) hx hb hts hinX1 hown hK hP 0 rfl rfl 1 (by decide) lk_3 (fun _ h9 => h9) rfl dX1_addOrder_81 ?_
        refine lv_iload hx hb dX1_addOrder_84 (lv_at hl 0 rfl) ?_
        refine lv_iconst (v := 4) hx hb dX1_addOrder_86 (by decide) ?_
        refine lv_iconst (v := 0) hx hb dX1_addOrder_87 (by decide) ?_
        have hP : va_P D vwCl ((tb_W cs (ad 2) (ad 4) 5 12 60 (k_X4_write 5 12 (k_X4_write 5 12 (k_X4_write 5 12 (k_X4_write 5 12 o_30 r_30 0 vs) r_30 1 vp) r_30 2 vb) r_30 3 vn)) ++ (og_rO cs ad (o_ot o (k_X4_write 5 12 (k_X4_write 5 12 (k_X4_write 5 12 (k_X4_write 5 12 o_30 r_30 0 vs) r_30 1 vp) r_30 2 vb) r_30 3 vn)))) H := og_cOP hP
        have hD : va_D A ((tb_W cs (ad 2) (ad 4) 5 12 60 (k_X4_write 5 12 (k_X4_write 5 12 (k_X4_write 5 12 (k_X4_write 5 12 o_30 r_30 0 vs) r_30 1 vp) r_30 2 vb) r_30 3 vn)) ++ (og_rO cs ad (o_ot o (k_X4_write 5 12 (k_X4_write 5 12 (k_X4_write 5 12 (k_X4_write 5 12 o_30 r_30 0 vs) r_30 1 vp) r_30 2 vb) r_30 3 vn)))) := og_cOD hD
        have hc_88 := c_X4_write l D cs (ad 2) (ad 4) 5 12 60 (k_X4_write 5 12 (k_X4_write 5 12 (k_X4_write 5 12 (k_X4_write 5 12 o_30 r_30 0 vs) r_30 1 vp) r_30 2 vb) r_30 3 vn) r_30 4 0 (Or.inr ⟨rfl, rfl, rfl⟩)
        refine kV_call (wc := (tb_W cs (ad 2) (ad 4) 5 12 60 (k_X4_write 5 12 (k_X4_write 5 12 (k_X4_write 5 12 (k_X4_write 5 12 o_30 r_30 0 vs) r_30 1 vp) r_30 2 vb) r_30 3 vn))) (wr := (og_rO cs ad (o_ot o (k_X4_write 5 12 (k_X4_write 5 12 (k_X4_write 5 12 (k_X4_write 5 12 o_30 r_30 0 vs) r_30 1 vp) r_30 2 vb) r_30 3 vn)))) (w1 := fun _ => tb_W cs (ad 2) (ad 4) 5 12 60 (k_X4_write 5 12 (k_X4_write 5 12 (k_X4_write 5 12 (k_X4_write 5 12 (k_X4_write 5 12 o_30 r_30 0 vs) r_30 1 vp) r_30 2 vb) r_30 3 vn) r_30 4 0)) hE hP hD hS (k_rV (rest := []) (As := [.int r_30, .int 4, .int 0]) hE rfl (hc_88 H.size) (cwV 3 hts gX1_addOrder_X4_write rfl rfl rfl (by decide +kernel) ⟨Nat.le_of_ble_eq_true rfl, Nat.le_of_ble_eq_true rfl⟩) hP hD hS (ci := 4) (q0 := 0) rfl rfl rfl hl rfl (Nat.le_of_ble_eq_true rfl) ⟨Nat.le_of_ble_eq_true rfl, Nat.le_of_ble_eq_true rfl⟩ dX1_addOrder_88) (fun _ H locs _ hP hD hS => ?_)
        have hP := og_bOP hP
        have hD := og_bOD hD
        have hP : va_P D vwCl (og_W cs ad (o_ot o (k_X4_write 5 12 (k_X4_write 5 12 (k_X4_write 5 12 (k_X4_write 5 12 (k_X4_write 5 12 o_30 r_30 0 vs) r_30 1 vp) r_30 2 vb) r_30 3 vn) r_30 4 0))) H := hP
        have hD : va_D A (og_W cs ad (o_ot o (k_X4_write 5 12 (k_X4_write 5 12 (k_X4_write 5 12 (k_X4_write 5 12 (k_X4_write 5 12 o_30 r_30 0 vs) r_30 1 vp) r_30 2 vb) r_30 3 vn) r_30 4 0))) := hD
        refine lv_iload hx hb dX1_addOrder_91 (lv_at hl 0 rfl) ?_
        subst hres
        exact kI_ret hE hS hP hD rfl rfl (Nat.le_of_ble_eq_true rfl) (Nat.le_of_ble_eq_true rfl) dX1_addOrder_93
      · skip
        have c_21 : ¬ ((k_X4_isFull 5 12 (g_ot o)) = 0) := c_21
        rw [if_neg c_21] at hres
        refine lv_iconst (v := (-1)) hx hb dX1_addOrder_24 (by decide) ?_
        subst hres
        exact kI_ret hE hS hP hD rfl rfl (Nat.le_of_ble_eq_true rfl) (Nat.le_of_ble_eq_true rfl) dX1_addOrder_25
set_option maxHeartbeats 4000000 in
set_option maxRecDepth 100000 in
theorem c_X1_orderPut (l : Launch) (D : va_G) (cs : Nat → ClassId) (ad : Nat → Nat) (o : OV) (vp : Int32) (vb : Int32) (vn : Int32) : kI l yX1_orderPut wsX1_orderPut { frames := 3, cells := 0, slots := 0, locals := 70 } 0 0 D cs [.ref (ad 0), .int vp, .int vb, .int vn] (og_W cs ad o) (k_X1_orderPut o vp vb vn).1 (og_W cs ad ((k_X1_orderPut o vp vb vn).2)) := by
  generalize hres : k_X1_orderPut o vp vb vn = res
  refine kI_of (cc := cX1_orderPut) (maxL := 4) (ret := (some .int)) (by decide) rfl (Nat.le_of_ble_eq_true rfl) ?_
  intro p e s m below meth c A ls H locs hE hS hP hD hl
  obtain ⟨hx, hb, hr, hlocks, hml, hown, hts, hK, hA, hG, hnm⟩ := id hE
  have hown : s.vm.findClass RX1 = some m.cls := hown
  have hl : lv_has ls 4 [(0, .ref (ad 0)), (1, .int vp), (2, .int vb), (3, .int vn)] := hl
  have lk_0 := hts (.initialized RX5) (by decide +kernel)
  have lk_1 := hts (.static yX5_isLength) (by decide +kernel)
  unfold k_X1_orderPut at hres
  refine lv_iload_n hx hb dX1_orderPut_0 rfl (lv_at hl 3 rfl) ?_
  have hP : va_P D vwCl ([] ++ (og_W cs ad o)) H := hP
  have hD : va_D A ([] ++ (og_W cs ad o)) := hD
  have hc_1 := c_X5_isLength l D cs vn
  refine kI_call (wc := []) (wr := (og_W cs ad o)) (w1 := []) (r := (k_X5_isLength vn)) hE hP hD hS (k_rSN (rest := []) (As := [.int vn]) hE rfl (hc_1 H.size) ⟨va_cnB 1 hts gX1_orderPut_X5_isLength_n115 rfl rfl rfl (hG.1.2.1 _ _ _ _ nm_X1_115) lk_0 (by decide +kernel) ⟨Nat.le_of_ble_eq_true rfl, Nat.le_of_ble_eq_true rfl⟩, lk_1, trivial⟩ hP hD hS rfl hl rfl (Nat.le_of_ble_eq_true rfl) ⟨Nat.le_of_ble_eq_true rfl, Nat.le_of_ble_eq_true rfl⟩ dX1_orderPut_1) (fun H locs hP hD hS => ?_)
  have hP : va_P D vwCl (og_W cs ad o) H := hP
  have hD : va_D A (og_W cs ad o) := hD
  refine lv_if_eq (tgt := 18) hx hb dX1_orderPut_4 (by decide) (fun c_4 => ?_) (fun c_4 => ?_)
  · skip
    have c_4 : ((k_X5_isLength vn) = 0) := c_4
    rw [if_pos c_4] at hres
    refine lv_iconst (v := (-1)) hx hb dX1_orderPut_18 (by decide) ?_
    subst hres
    exact kI_ret hE hS hP hD rfl rfl (Nat.le_of_ble_eq_true rfl) (Nat.le_of_ble_eq_true rfl) dX1_orderPut_19
  · skip
    have c_4 : ¬ ((k_X5_isLength vn) = 0) := c_4
    rw [if_neg c_4] at hres
    refine lv_aload_n hx hb dX1_orderPut_7 rfl (lv_at hl 0 rfl) ?_
    refine lv_iconst (v := 1) hx hb dX1_orderPut_8 (by decide) ?_
    refine lv_iload_n hx hb dX1_orderPut_9 rfl (lv_at hl 1 rfl) ?_
    refine lv_iload_n hx hb dX1_orderPut_10 rfl (lv_at hl 2 rfl) ?_
    refine lv_iload_n hx hb dX1_orderPut_11 rfl (lv_at hl 3 rfl) ?_
    have hP : va_P D vwCl ((og_W cs ad o) ++ []) H := k_nP hP
    have hD : va_D A ((og_W cs ad o) ++ []) := k_nD hD
    have hc_12 := c_X1_addOrder l D cs ad o 1 vp vb vn
    obtain ⟨r_12, o_12, e_12⟩ : ∃ r9 o9, (k_X1_addOrder o 1 vp vb vn) = (r9, o9) := ⟨_, _, rfl⟩
    rw [e_12] at hc_12 hres
    dsimp only at hc_12 hres
    refine kI_call (wc := (og_W cs ad o)) (wr := []) (w1 := og_W cs ad o_12) (r := r_12) hE hP hD hS (k_rV (rest := []) (As := [.int 1, .int vp, .int vb, .int vn]) hE rfl (hc_12 H.size) (cwV 4 hts gX1_orderPut_X1_addOrder rfl rfl rfl (by decide +kernel) ⟨Nat.le_of_ble_eq_true rfl, Nat.le_of_ble_eq_true rfl⟩) hP hD hS (ci := 1) (q0 := 0) rfl rfl rfl hl rfl (Nat.le_of_ble_eq_true rfl) ⟨Nat.le_of_ble_eq_true rfl, Nat.le_of_ble_eq_true rfl⟩ dX1_orderPut_12) (fun H locs hP hD hS => ?_)
    have hP := k_uP hP
    have hD := k_uD hD
    have hP : va_P D vwCl (og_W cs ad o_12) H := hP
    have hD : va_D A (og_W cs ad o_12) := hD
    refine lv_goto (tgt := 19) hx hb dX1_orderPut_15 (by decide) ?_
    subst hres
    exact kI_ret hE hS hP hD rfl rfl (Nat.le_of_ble_eq_true rfl) (Nat.le_of_ble_eq_true rfl) dX1_orderPut_19
set_option maxHeartbeats 4000000 in
set_option maxRecDepth 100000 in
theorem c_X1_orderPull (l : Launch) (D : va_G) (cs : Nat → ClassId) (ad : Nat → Nat) (o : OV) (vp : Int32) (vb : Int32) : kI l yX1_orderPull wsX1_orderPull { frames := 3, cells := 0, slots := 0, locals := 70 } 0 0 D cs [.ref (ad 0), .int vp, .int vb] (og_W cs ad o) (k_X1_orderPull o vp vb).1 (og_W cs ad ((k_X1_orderPull o vp vb).2)) := by
  generalize hres : k_X1_orderPull o vp vb = res
  refine kI_of (cc := cX1_orderPull) (maxL := 3) (ret := (some .int)) (by decide) rfl (Nat.le_of_ble_eq_true rfl) ?_
  intro p e s m below meth c A ls H locs hE hS hP hD hl
  obtain ⟨hx, hb, hr, hlocks, hml, hown, hts, hK, hA, hG, hnm⟩ := id hE
  have hown : s.vm.findClass RX1 = some m.cls := hown
  have hl : lv_has ls 3 [(0, .ref (ad 0)), (1, .int vp), (2, .int vb)] := hl
  unfold k_X1_orderPull at hres
  refine lv_aload_n hx hb dX1_orderPull_0 rfl (lv_at hl 0 rfl) ?_
  refine lv_iconst (v := 0) hx hb dX1_orderPull_1 (by decide) ?_
  refine lv_iload_n hx hb dX1_orderPull_2 rfl (lv_at hl 1 rfl) ?_
  refine lv_iload_n hx hb dX1_orderPull_3 rfl (lv_at hl 2 rfl) ?_
  refine lv_iconst (v := 0) hx hb dX1_orderPull_4 (by decide) ?_
  have hP : va_P D vwCl ((og_W cs ad o) ++ []) H := k_nP hP
  have hD : va_D A ((og_W cs ad o) ++ []) := k_nD hD
  have hc_5 := c_X1_addOrder l D cs ad o 0 vp vb 0
  obtain ⟨r_5, o_5, e_5⟩ : ∃ r9 o9, (k_X1_addOrder o 0 vp vb 0) = (r9, o9) := ⟨_, _, rfl⟩
  rw [e_5] at hc_5 hres
  dsimp only at hc_5 hres
  refine kI_call (wc := (og_W cs ad o)) (wr := []) (w1 := og_W cs ad o_5) (r := r_5) hE hP hD hS (k_rV (rest := []) (As := [.int 0, .int vp, .int vb, .int 0]) hE rfl (hc_5 H.size) (cwV 4 hts gX1_orderPull_X1_addOrder rfl rfl rfl (by decide +kernel) ⟨Nat.le_of_ble_eq_true rfl, Nat.le_of_ble_eq_true rfl⟩) hP hD hS (ci := 1) (q0 := 0) rfl rfl rfl hl rfl (Nat.le_of_ble_eq_true rfl) ⟨Nat.le_of_ble_eq_true rfl, Nat.le_of_ble_eq_true rfl⟩ dX1_orderPull_5) (fun H locs hP hD hS => ?_)
  have hP := k_uP hP
  have hD := k_uD hD
  have hP : va_P D vwCl (og_W cs ad o_5) H := hP
  have hD : va_D A (og_W cs ad o_5) := hD
  subst hres
  exact kI_ret hE hS hP hD rfl rfl (Nat.le_of_ble_eq_true rfl) (Nat.le_of_ble_eq_true rfl) dX1_orderPull_8
set_option maxHeartbeats 4000000 in
set_option maxRecDepth 100000 in
theorem c_X1_dropOrder (l : Launch) (D : va_G) (cs : Nat → ClassId) (ad : Nat → Nat) (o : OV) (vk : Int32) (hO : OI o) : kI l yX1_dropOrder wsX1_dropOrder { frames := 2, cells := 0, slots := 0, locals := 82 } 0 0 D cs [.ref (ad 0), .int vk] (og_W cs ad o) (k_X1_dropOrder o vk).1 (og_W cs ad ((k_X1_dropOrder o vk).2)) := by
  generalize hres : k_X1_dropOrder o vk = res
  refine kI_of (cc := cX1_dropOrder) (maxL := 2) (ret := (some .int)) (by decide) rfl (Nat.le_of_ble_eq_true rfl) ?_
  intro p e s m below meth c A ls H locs hE hS hP hD hl
  obtain ⟨hx, hb, hr, hlocks, hml, hown, hts, hK, hA, hG, hnm⟩ := id hE
  have hown : s.vm.findClass RX1 = some m.cls := hown
  have hl : lv_has ls 2 [(0, .ref (ad 0)), (1, .int vk)] := hl
  have hinX1 : ∀ w ∈ wsX10, w ∈ wsX1_dropOrder := by decide +kernel
  have hinX4 : ∀ w ∈ wsX40, w ∈ wsX1_dropOrder := by decide +kernel
  have lk_0 := hts (.fieldLink RX1 20 "OrganPegs$Organ" "orders" "LOrganPegs$Table;") (by decide +kernel)
  have lk_1 := hts (.fieldLink RX1 36 "OrganPegs$Organ" "watched" "I") (by decide +kernel)
  unfold k_X1_dropOrder at hres
  refine lv_aload_n hx hb dX1_dropOrder_0 rfl (lv_at hl 0 rfl) ?_
  refine va_get (D := D) (ci := 1) (v := .ref (ad 2)) (C := RX1) (T := TX1) (N := 17) hx hb hts hinX1 hown hK hP 0 rfl rfl 1 (by decide) lk_0 (fun _ h9 => h9) rfl dX1_dropOrder_1 ?_
  refine lv_iload_n hx hb dX1_dropOrder_4 rfl (lv_at hl 1 rfl) ?_
  have hP : va_P D vwCl ((tb_W cs (ad 2) (ad 4) 5 12 60 (g_ot o)) ++ (og_rO cs ad o)) H := og_cOP hP
  have hD : va_D A ((tb_W cs (ad 2) (ad 4) 5 12 60 (g_ot o)) ++ (og_rO cs ad o)) := og_cOD hD
  have hc_5 := c_X4_has l D cs (ad 2) (ad 4) 5 12 60 (g_ot o) vk
  refine kI_call (wc := (tb_W cs (ad 2) (ad 4) 5 12 60 (g_ot o))) (wr := (og_rO cs ad o)) (w1 := tb_W cs (ad 2) (ad 4) 5 12 60 (g_ot o)) (r := (k_X4_has (g_ot o) vk)) hE hP hD hS (k_rV (rest := []) (As := [.int vk]) hE rfl (hc_5 H.size) (cwV 1 hts gX1_dropOrder_X4_has rfl rfl rfl (by decide +kernel) ⟨Nat.le_of_ble_eq_true rfl, Nat.le_of_ble_eq_true rfl⟩) hP hD hS (ci := 4) (q0 := 0) rfl rfl rfl hl rfl (Nat.le_of_ble_eq_true rfl) ⟨Nat.le_of_ble_eq_true rfl, Nat.le_of_ble_eq_true rfl⟩ dX1_dropOrder_5) (fun H locs hP hD hS => ?_)
  have hP := og_bOP hP
  have hD := og_bOD hD
  have hP : va_P D vwCl (og_W cs ad o) H := hP
  have hD : va_D A (og_W cs ad o) := hD
  refine lv_if_ne (tgt := 13) hx hb dX1_dropOrder_8 (by decide) (fun c_8 => ?_) (fun c_8 => ?_)
  · skip
    have c_8 : ¬ ((k_X4_has (g_ot o) vk) = 0) := c_8
    rw [if_neg c_8] at hres
    refine lv_aload_n hx hb dX1_dropOrder_13 rfl (lv_at hl 0 rfl) ?_
    refine va_get (D := D) (ci := 1) (v := .ref (ad 2)) (C := RX1) (T := TX1) (N := 17) hx hb hts hinX1 hown hK hP 0 rfl rfl 1 (by decide) lk_0 (fun _ h9 => h9) rfl dX1_dropOrder_14 ?_
    refine lv_iload_n hx hb dX1_dropOrder_17 rfl (lv_at hl 1 rfl) ?_
    have hP : va_P D vwCl ((tb_W cs (ad 2) (ad 4) 5 12 60 (g_ot o)) ++ (og_rO cs ad o)) H := og_cOP hP
    have hD : va_D A ((tb_W cs (ad 2) (ad 4) 5 12 60 (g_ot o)) ++ (og_rO cs ad o)) := og_cOD hD
    have hc_18 := c_X4_removeLine l D cs (ad 2) (ad 4) 5 12 60 (g_ot o) vk (Or.inr ⟨rfl, rfl, rfl⟩) hO.q
    refine kV_call (wc := (tb_W cs (ad 2) (ad 4) 5 12 60 (g_ot o))) (wr := (og_rO cs ad o)) (w1 := fun _ => tb_W cs (ad 2) (ad 4) 5 12 60 (k_X4_removeLine 5 12 (g_ot o) vk)) hE hP hD hS (k_rV (rest := []) (As := [.int vk]) hE rfl (hc_18 H.size) (cwV 1 hts gX1_dropOrder_X4_removeLine rfl rfl rfl (by decide +kernel) ⟨Nat.le_of_ble_eq_true rfl, Nat.le_of_ble_eq_true rfl⟩) hP hD hS (ci := 4) (q0 := 0) rfl rfl rfl hl rfl (Nat.le_of_ble_eq_true rfl) ⟨Nat.le_of_ble_eq_true rfl, Nat.le_of_ble_eq_true rfl⟩ dX1_dropOrder_18) (fun _ H locs _ hP hD hS => ?_)
    have hP := og_bOP hP
    have hD := og_bOD hD
    have hP : va_P D vwCl (og_W cs ad (o_ot o (k_X4_removeLine 5 12 (g_ot o) vk))) H := hP
    have hD : va_D A (og_W cs ad (o_ot o (k_X4_removeLine 5 12 (g_ot o) vk))) := hD
    refine lv_iload_n hx hb dX1_dropOrder_21 rfl (lv_at hl 1 rfl) ?_
    refine lv_aload_n hx hb dX1_dropOrder_22 rfl (lv_at hl 0 rfl) ?_
    refine va_get (D := D) (ci := 1) (v := .int (o.1 9)) (C := RX1) (T := TX1) (N := 17) hx hb hts hinX1 hown hK hP 0 rfl rfl 16 (by decide) lk_1 (fun _ h9 => h9) rfl dX1_dropOrder_23 ?_
    refine lv_icmp_ne (tgt := 37) hx hb dX1_dropOrder_26 (by decide) (fun c_26 => ?_) (fun c_26 => ?_)
    · skip
      have c_26 : ¬ (vk = (o.1 9)) := c_26
      rw [if_neg c_26] at hres
      refine lv_iload_n hx hb dX1_dropOrder_37 rfl (lv_at hl 1 rfl) ?_
      refine lv_aload_n hx hb dX1_dropOrder_38 rfl (lv_at hl 0 rfl) ?_
      refine va_get (D := D) (ci := 1) (v := .int (o.1 9)) (C := RX1) (T := TX1) (N := 17) hx hb hts hinX1 hown hK hP 0 rfl rfl 16 (by decide) lk_1 (fun _ h9 => h9) rfl dX1_dropOrder_39 ?_
      refine lv_icmp_ge (tgt := 55) hx hb dX1_dropOrder_42 (by decide) (fun c_42 => ?_) (fun c_42 => ?_)
      · skip
        have c_42 : ((o.1 9) ≤ vk) := c_42
        rw [if_pos c_42] at hres
        refine lv_aload_n hx hb dX1_dropOrder_55 rfl (lv_at hl 0 rfl) ?_
        refine va_get (D := D) (ci := 1) (v := .ref (ad 2)) (C := RX1) (T := TX1) (N := 17) hx hb hts hinX1 hown hK hP 0 rfl rfl 1 (by decide) lk_0 (fun _ h9 => h9) rfl dX1_dropOrder_56 ?_
        refine va_getN (D := D) (ci := 4) (v := .int ((k_X4_removeLine 5 12 (g_ot o) vk).1)) (C := RX4) (T := TX4) (N := 4) hx hb hts hinX4 hown hK hP 3 rfl rfl 3 (by decide) (va_Nw.use rfl (hG.1.1 _ _ _ _ _ _ nf_X1_79)) (fun _ h9 => h9) rfl dX1_dropOrder_59 ?_
        subst hres
        exact kI_ret hE hS hP hD rfl rfl (Nat.le_of_ble_eq_true rfl) (Nat.le_of_ble_eq_true rfl) dX1_dropOrder_62
      · skip
        have c_42 : ¬ ((o.1 9) ≤ vk) := c_42
        rw [if_neg c_42] at hres
        refine lv_aload_n hx hb dX1_dropOrder_45 rfl (lv_at hl 0 rfl) ?_
        refine lv_dup hx hb dX1_dropOrder_46 rfl ?_
        refine va_get (D := D) (ci := 1) (v := .int (o.1 9)) (C := RX1) (T := TX1) (N := 17) hx hb hts hinX1 hown hK hP 0 rfl rfl 16 (by decide) lk_1 (fun _ h9 => h9) rfl dX1_dropOrder_47 ?_
        refine lv_iconst (v := 1) hx hb dX1_dropOrder_50 (by decide) ?_
        refine lv_isub hx hb dX1_dropOrder_51 ?_
        refine va_put (D := D) (ci := 1) (v := .int ((o.1 9) - 1)) (ty := .int) (C := RX1) (T := TX1) (N := 17) hx hb hts hinX1 tyX1 tyX1_ok nmX1 hown hK hP hD hS 0 rfl rfl 16 (by decide) lk_1 (fun _ h9 => h9) rfl (by decide +kernel) rfl rfl (Nat.le_of_ble_eq_true rfl) dX1_dropOrder_52 (fun H locs hP hD hS => ?_)
        have hP : va_P D vwCl (og_W cs ad (o_ot (o_s o 9 ((o.1 9) - 1)) (k_X4_removeLine 5 12 (g_ot o) vk))) H := hP
        have hD : va_D A (og_W cs ad (o_ot (o_s o 9 ((o.1 9) - 1)) (k_X4_removeLine 5 12 (g_ot o) vk))) := hD
        refine lv_aload_n hx hb dX1_dropOrder_55 rfl (lv_at hl 0 rfl) ?_
        refine va_get (D := D) (ci := 1) (v := .ref (ad 2)) (C := RX1) (T := TX1) (N := 17) hx hb hts hinX1 hown hK hP 0 rfl rfl 1 (by decide) lk_0 (fun _ h9 => h9) rfl dX1_dropOrder_56 ?_
        refine va_getN (D := D) (ci := 4) (v := .int ((k_X4_removeLine 5 12 (g_ot o) vk).1)) (C := RX4) (T := TX4) (N := 4) hx hb hts hinX4 hown hK hP 3 rfl rfl 3 (by decide) (va_Nw.use rfl (hG.1.1 _ _ _ _ _ _ nf_X1_79)) (fun _ h9 => h9) rfl dX1_dropOrder_59 ?_
        subst hres
        exact kI_ret hE hS hP hD rfl rfl (Nat.le_of_ble_eq_true rfl) (Nat.le_of_ble_eq_true rfl) dX1_dropOrder_62
    · skip
      have c_26 : (vk = (o.1 9)) := c_26
      rw [if_pos c_26] at hres
      refine lv_aload_n hx hb dX1_dropOrder_29 rfl (lv_at hl 0 rfl) ?_
      refine lv_iconst (v := (-1)) hx hb dX1_dropOrder_30 (by decide) ?_
      refine va_put (D := D) (ci := 1) (v := .int (-1)) (ty := .int) (C := RX1) (T := TX1) (N := 17) hx hb hts hinX1 tyX1 tyX1_ok nmX1 hown hK hP hD hS 0 rfl rfl 16 (by decide) lk_1 (fun _ h9 => h9) rfl (by decide +kernel) rfl rfl (Nat.le_of_ble_eq_true rfl) dX1_dropOrder_31 (fun H locs hP hD hS => ?_)
      have hP : va_P D vwCl (og_W cs ad (o_ot (o_s o 9 (-1)) (k_X4_removeLine 5 12 (g_ot o) vk))) H := hP
      have hD : va_D A (og_W cs ad (o_ot (o_s o 9 (-1)) (k_X4_removeLine 5 12 (g_ot o) vk))) := hD
      refine lv_goto (tgt := 55) hx hb dX1_dropOrder_34 (by decide) ?_
      refine lv_aload_n hx hb dX1_dropOrder_55 rfl (lv_at hl 0 rfl) ?_
      refine va_get (D := D) (ci := 1) (v := .ref (ad 2)) (C := RX1) (T := TX1) (N := 17) hx hb hts hinX1 hown hK hP 0 rfl rfl 1 (by decide) lk_0 (fun _ h9 => h9) rfl dX1_dropOrder_56 ?_
      refine va_getN (D := D) (ci := 4) (v := .int ((k_X4_removeLine 5 12 (g_ot o) vk).1)) (C := RX4) (T := TX4) (N := 4) hx hb hts hinX4 hown hK hP 3 rfl rfl 3 (by decide) (va_Nw.use rfl (hG.1.1 _ _ _ _ _ _ nf_X1_79)) (fun _ h9 => h9) rfl dX1_dropOrder_59 ?_
      subst hres
      exact kI_ret hE hS hP hD rfl rfl (Nat.le_of_ble_eq_true rfl) (Nat.le_of_ble_eq_true rfl) dX1_dropOrder_62
  · skip
    have c_8 : ((k_X4_has (g_ot o) vk) = 0) := c_8
    rw [if_pos c_8] at hres
    refine lv_iconst (v := (-1)) hx hb dX1_dropOrder_11 (by decide) ?_
    subst hres
    exact kI_ret hE hS hP hD rfl rfl (Nat.le_of_ble_eq_true rfl) (Nat.le_of_ble_eq_true rfl) dX1_dropOrder_12
set_option maxHeartbeats 4000000 in
set_option maxRecDepth 100000 in
theorem c_X1_change (l : Launch) (D : va_G) (cs : Nat → ClassId) (ad : Nat → Nat) (o : OV) (vw : Int32) (vv : Int32) : kI l yX1_change wsX1_change { frames := 2, cells := 0, slots := 0, locals := 41 } 0 0 D cs [.ref (ad 0), .int vw, .int vv] (og_W cs ad o) (k_X1_change o vw vv).1 (og_W cs ad ((k_X1_change o vw vv).2)) := by
  generalize hres : k_X1_change o vw vv = res
  refine kI_of (cc := cX1_change) (maxL := 4) (ret := (some .int)) (by decide) rfl (Nat.le_of_ble_eq_true rfl) ?_
  intro p e s m below meth c A ls H locs hE hS hP hD hl
  obtain ⟨hx, hb, hr, hlocks, hml, hown, hts, hK, hA, hG, hnm⟩ := id hE
  have hown : s.vm.findClass RX1 = some m.cls := hown
  have hl : lv_has ls 4 [(0, .ref (ad 0)), (1, .int vw), (2, .int vv)] := hl
  have hinX1 : ∀ w ∈ wsX10, w ∈ wsX1_change := by decide +kernel
  have lk_0 := hts (.initialized RX5) (by decide +kernel)
  have lk_1 := hts (.static yX5_isSettingValue) (by decide +kernel)
  have lk_2 := hts (.fieldLink RX1 33 "OrganPegs$Organ" "settings" "[I") (by decide +kernel)
  unfold k_X1_change at hres
  refine lv_iload_n hx hb dX1_change_0 rfl (lv_at hl 1 rfl) ?_
  refine lv_iload_n hx hb dX1_change_1 rfl (lv_at hl 2 rfl) ?_
  have hP : va_P D vwCl ([] ++ (og_W cs ad o)) H := hP
  have hD : va_D A ([] ++ (og_W cs ad o)) := hD
  have hc_2 := c_X5_isSettingValue l D cs vw vv
  refine kI_call (wc := []) (wr := (og_W cs ad o)) (w1 := []) (r := (k_X5_isSettingValue vw vv)) hE hP hD hS (k_rSN (rest := []) (As := [.int vw, .int vv]) hE rfl (hc_2 H.size) ⟨va_cnB 2 hts gX1_change_X5_isSettingValue_n144 rfl rfl rfl (hG.1.2.1 _ _ _ _ nm_X1_144) lk_0 (by decide +kernel) ⟨Nat.le_of_ble_eq_true rfl, Nat.le_of_ble_eq_true rfl⟩, lk_1, trivial⟩ hP hD hS rfl hl rfl (Nat.le_of_ble_eq_true rfl) ⟨Nat.le_of_ble_eq_true rfl, Nat.le_of_ble_eq_true rfl⟩ dX1_change_2) (fun H locs hP hD hS => ?_)
  have hP : va_P D vwCl (og_W cs ad o) H := hP
  have hD : va_D A (og_W cs ad o) := hD
  refine lv_if_ne (tgt := 10) hx hb dX1_change_5 (by decide) (fun c_5 => ?_) (fun c_5 => ?_)
  · skip
    have c_5 : ¬ ((k_X5_isSettingValue vw vv) = 0) := c_5
    rw [if_neg c_5] at hres
    refine lv_aload_n hx hb dX1_change_10 rfl (lv_at hl 0 rfl) ?_
    refine va_get (D := D) (ci := 1) (v := .ref (ad 8)) (C := RX1) (T := TX1) (N := 17) hx hb hts hinX1 hown hK hP 0 rfl rfl 5 (by decide) lk_2 (fun _ h9 => h9) rfl dX1_change_11 ?_
    refine lv_iload_n hx hb dX1_change_14 rfl (lv_at hl 1 rfl) ?_
    refine k_iald hx hb hK hP 8 0 (v := ((o.2.2 5) vw.toNatClampNeg)) rfl rfl (smv_in c_5) rfl dX1_change_15 ?_
    refine lv_istore_n (lv' := [(3, .int ((o.2.2 5) vw.toNatClampNeg)), (0, .ref (ad 0)), (1, .int vw), (2, .int vv)]) hx hb dX1_change_16 rfl hl (by decide) rfl (fun ls hl => ?_)
    refine lv_aload_n hx hb dX1_change_17 rfl (lv_at hl 1 rfl) ?_
    refine va_get (D := D) (ci := 1) (v := .ref (ad 8)) (C := RX1) (T := TX1) (N := 17) hx hb hts hinX1 hown hK hP 0 rfl rfl 5 (by decide) lk_2 (fun _ h9 => h9) rfl dX1_change_18 ?_
    refine lv_iload_n hx hb dX1_change_21 rfl (lv_at hl 2 rfl) ?_
    refine lv_iload_n hx hb dX1_change_22 rfl (lv_at hl 3 rfl) ?_
    refine k_iast hx hb hK hP hD hS 8 0 (k := vw.toNatClampNeg) rfl rfl (smv_in c_5) rfl dX1_change_23 (fun H locs hP hD hS => ?_)
    have hP : va_P D vwCl (og_W cs ad (o_r o 5 (va_up (o.2.2 5) vw.toNatClampNeg vv))) H := hP
    have hD : va_D A (og_W cs ad (o_r o 5 (va_up (o.2.2 5) vw.toNatClampNeg vv))) := hD
    refine lv_iload_n hx hb dX1_change_24 rfl (lv_at hl 0 rfl) ?_
    subst hres
    exact kI_ret hE hS hP hD rfl rfl (Nat.le_of_ble_eq_true rfl) (Nat.le_of_ble_eq_true rfl) dX1_change_25
  · skip
    have c_5 : ((k_X5_isSettingValue vw vv) = 0) := c_5
    rw [if_pos c_5] at hres
    refine lv_iconst (v := (-1)) hx hb dX1_change_8 (by decide) ?_
    subst hres
    exact kI_ret hE hS hP hD rfl rfl (Nat.le_of_ble_eq_true rfl) (Nat.le_of_ble_eq_true rfl) dX1_change_9
