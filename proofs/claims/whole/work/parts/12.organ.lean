/-- a state of an organ whose tables are not beyond their rows -/
def OI (o : OV) : Prop := TI 30 (g_pt o) ∧ TI 12 (g_ot o)
theorem nI_lts {x : Int32} {j N : Nat} (hi : x = nI j) (hj : j < 2 ^ 31) (hN : N < 2 ^ 31) (c : ¬ nI N ≤ x) : j + 1 ≤ N := by
  rw [hi, nI_leI hN hj] at c
  omega
theorem nI_ltv {x y : Int32} {j N : Nat} (hi : x = nI j) (hj : j < 2 ^ 31) (hN : y.toInt = N) (c : ¬ y ≤ x) : j + 1 ≤ N := by
  rw [i_le, hi, nI_toInt hj, hN] at c
  omega
theorem pipe_b {vp : Int32} (h : ¬ k_X5_isPipe vp = 0) : 0 ≤ vp.toInt ∧ vp.toInt < 6 := by
  unfold k_X5_isPipe at h
  have e0 : (0 : Int32).toInt = 0 := rfl
  have e6 : (6 : Int32).toInt = 6 := rfl
  by_cases h1 : vp < 0
  · rw [if_pos h1] at h; exact absurd rfl h
  rw [if_neg h1] at h
  by_cases h2 : (6 : Int32) ≤ vp
  · rw [if_pos h2] at h; exact absurd rfl h
  rw [i_lt] at h1
  rw [i_le] at h2
  omega
theorem pipe_in {vp : Int32} (h : ¬ k_X5_isPipe vp = 0) : vp_in vp 6 := by
  obtain ⟨h1, h2⟩ := pipe_b h
  rw [vp_in_iff]
  exact ⟨h1, h2⟩
def k_X1_soundedAgo (o : OV) (vt : Int32) : Int32 := ((Int64.toInt32 (x_lushr o.2.1 (6 * vt))) &&& 63)
set_option maxHeartbeats 4000000 in
set_option maxRecDepth 100000 in
theorem c_X1_soundedAgo (l : Launch) (D : va_G) (cs : Nat → ClassId) (ad : Nat → Nat) (o : OV) (vt : Int32) : kI l yX1_soundedAgo wsX1_soundedAgo { frames := 0, cells := 0, slots := 0, locals := 0 } 0 0 D cs [.ref (ad 0), .int vt] (og_W cs ad o) (k_X1_soundedAgo o vt) (og_W cs ad o) := by
  generalize hres : k_X1_soundedAgo o vt = res
  refine kI_of (cc := cX1_soundedAgo) (maxL := 2) (ret := (some .int)) (by decide) rfl (Nat.le_of_ble_eq_true rfl) ?_
  intro p e s m below meth c A ls H locs hE hS hP hD hl
  obtain ⟨hx, hb, hr, hlocks, hml, hown, hts, hK, hA, hG, hnm⟩ := id hE
  have hown : s.vm.findClass RX1 = some m.cls := hown
  have hl : lv_has ls 2 [(0, .ref (ad 0)), (1, .int vt)] := hl
  have hinX1 : ∀ w ∈ wsX10, w ∈ wsX1_soundedAgo := by decide +kernel
  have lk_0 := hts (.fieldLink RX1 63 "OrganPegs$Organ" "past" "J") (by decide +kernel)
  unfold k_X1_soundedAgo at hres
  refine lv_aload_n hx hb dX1_soundedAgo_0 rfl (lv_at hl 0 rfl) ?_
  refine va_get (D := D) (ci := 1) (v := .long o.2.1) (C := RX1) (T := TX1) (N := 17) hx hb hts hinX1 hown hK hP 0 rfl rfl 11 (by decide) lk_0 (fun _ h9 => h9) rfl dX1_soundedAgo_1 ?_
  refine lv_bipush (v := 6) hx hb dX1_soundedAgo_4 (by decide) ?_
  refine lv_iload_n hx hb dX1_soundedAgo_6 rfl (lv_at hl 1 rfl) ?_
  refine lv_imul hx hb dX1_soundedAgo_7 ?_
  refine lv_lushr hx hb dX1_soundedAgo_8 rfl ?_
  refine lv_l2i hx hb dX1_soundedAgo_9 rfl ?_
  refine lv_bipush (v := 63) hx hb dX1_soundedAgo_10 (by decide) ?_
  refine lv_iand hx hb dX1_soundedAgo_12 ?_
  subst hres
  exact kI_ret hE hS hP hD rfl rfl (Nat.le_of_ble_eq_true rfl) (Nat.le_of_ble_eq_true rfl) dX1_soundedAgo_13
def k_X1_tell (o : OV) (what : Int32) : Int32 := (if what = 0 then (o.1 10) else (if what = 1 then (o.1 11) else (if what = 2 then (o.1 0) else (if what = 3 then (o.1 1) else (if what = 4 then (o.1 2) else (if what = 5 then (o.1 3) else (if what = 6 then (o.1 4) else (if what = 7 then (k_X1_soundedAgo o 0) else (if what = 8 then (o.1 5) else (if what = 9 then (o.1 6) else (if what = 10 then (o.1 7) else (o.1 8))))))))))))
set_option maxHeartbeats 4000000 in
set_option maxRecDepth 100000 in
theorem c_X1_tell (l : Launch) (D : va_G) (cs : Nat → ClassId) (ad : Nat → Nat) (o : OV) (what : Int32) : kI l yX1_tell wsX1_tell { frames := 1, cells := 0, slots := 0, locals := 21 } 0 0 D cs [.ref (ad 0), .int what] (og_W cs ad o) (k_X1_tell o what) (og_W cs ad o) := by
  generalize hres : k_X1_tell o what = res
  refine kI_of (cc := cX1_tell) (maxL := 2) (ret := (some .int)) (by decide) rfl (Nat.le_of_ble_eq_true rfl) ?_
  intro p e s m below meth c A ls H locs hE hS hP hD hl
  obtain ⟨hx, hb, hr, hlocks, hml, hown, hts, hK, hA, hG, hnm⟩ := id hE
  have hown : s.vm.findClass RX1 = some m.cls := hown
  have hl : lv_has ls 2 [(0, .ref (ad 0)), (1, .int what)] := hl
  have hinX1 : ∀ w ∈ wsX10, w ∈ wsX1_tell := by decide +kernel
  have hinX4 : ∀ w ∈ wsX40, w ∈ wsX1_tell := by decide +kernel
  have lk_0 := hts (.fieldLink RX1 16 "OrganPegs$Organ" "pegs" "LOrganPegs$Table;") (by decide +kernel)
  have lk_1 := hts (.fieldLink RX1 20 "OrganPegs$Organ" "orders" "LOrganPegs$Table;") (by decide +kernel)
  have lk_2 := hts (.fieldLink RX1 48 "OrganPegs$Organ" "time" "I") (by decide +kernel)
  have lk_3 := hts (.fieldLink RX1 51 "OrganPegs$Organ" "comb" "I") (by decide +kernel)
  have lk_4 := hts (.fieldLink RX1 54 "OrganPegs$Organ" "turns" "I") (by decide +kernel)
  have lk_5 := hts (.fieldLink RX1 57 "OrganPegs$Organ" "version" "I") (by decide +kernel)
  have lk_6 := hts (.fieldLink RX1 60 "OrganPegs$Organ" "wind" "I") (by decide +kernel)
  have lk_7 := hts (.fieldLink RX1 67 "OrganPegs$Organ" "heard" "I") (by decide +kernel)
  have lk_8 := hts (.fieldLink RX1 70 "OrganPegs$Organ" "notes" "I") (by decide +kernel)
  have lk_9 := hts (.fieldLink RX1 73 "OrganPegs$Organ" "lacks" "I") (by decide +kernel)
  have lk_10 := hts (.fieldLink RX1 76 "OrganPegs$Organ" "voids" "I") (by decide +kernel)
  unfold k_X1_tell at hres
  refine lv_iload_n hx hb dX1_tell_0 rfl (lv_at hl 1 rfl) ?_
  by_cases c_1_0 : what = 0
  · skip
    rw [if_pos c_1_0] at hres
    refine lv_tableIn (tgt := 60) (off := 59) hx hb dX1_tell_1 (by rw [c_1_0]; decide) (by rw [c_1_0]; decide) (by rw [c_1_0]; rfl) (by decide) ?_
    refine lv_aload_n hx hb dX1_tell_60 rfl (lv_at hl 0 rfl) ?_
    refine va_get (D := D) (ci := 1) (v := .ref (ad 1)) (C := RX1) (T := TX1) (N := 17) hx hb hts hinX1 hown hK hP 0 rfl rfl 0 (by decide) lk_0 (fun _ h9 => h9) rfl dX1_tell_61 ?_
    refine va_getN (D := D) (ci := 4) (v := .int (o.1 10)) (C := RX4) (T := TX4) (N := 4) hx hb hts hinX4 hown hK hP 1 rfl rfl 3 (by decide) (va_Nw.use rfl (hG.1.1 _ _ _ _ _ _ nf_X1_79)) (fun _ h9 => h9) rfl dX1_tell_64 ?_
    subst hres
    exact kI_ret hE hS hP hD rfl rfl (Nat.le_of_ble_eq_true rfl) (Nat.le_of_ble_eq_true rfl) dX1_tell_67
  · skip
    rw [if_neg c_1_0] at hres
    by_cases c_1_1 : what = 1
    · skip
      rw [if_pos c_1_1] at hres
      refine lv_tableIn (tgt := 68) (off := 67) hx hb dX1_tell_1 (by rw [c_1_1]; decide) (by rw [c_1_1]; decide) (by rw [c_1_1]; rfl) (by decide) ?_
      refine lv_aload_n hx hb dX1_tell_68 rfl (lv_at hl 0 rfl) ?_
      refine va_get (D := D) (ci := 1) (v := .ref (ad 2)) (C := RX1) (T := TX1) (N := 17) hx hb hts hinX1 hown hK hP 0 rfl rfl 1 (by decide) lk_1 (fun _ h9 => h9) rfl dX1_tell_69 ?_
      refine va_getN (D := D) (ci := 4) (v := .int (o.1 11)) (C := RX4) (T := TX4) (N := 4) hx hb hts hinX4 hown hK hP 3 rfl rfl 3 (by decide) (va_Nw.use rfl (hG.1.1 _ _ _ _ _ _ nf_X1_79)) (fun _ h9 => h9) rfl dX1_tell_72 ?_
      subst hres
      exact kI_ret hE hS hP hD rfl rfl (Nat.le_of_ble_eq_true rfl) (Nat.le_of_ble_eq_true rfl) dX1_tell_75
    · skip
      rw [if_neg c_1_1] at hres
      by_cases c_1_2 : what = 2
      · skip
        rw [if_pos c_1_2] at hres
        refine lv_tableIn (tgt := 76) (off := 75) hx hb dX1_tell_1 (by rw [c_1_2]; decide) (by rw [c_1_2]; decide) (by rw [c_1_2]; rfl) (by decide) ?_
        refine lv_aload_n hx hb dX1_tell_76 rfl (lv_at hl 0 rfl) ?_
        refine va_get (D := D) (ci := 1) (v := .int (o.1 0)) (C := RX1) (T := TX1) (N := 17) hx hb hts hinX1 hown hK hP 0 rfl rfl 6 (by decide) lk_2 (fun _ h9 => h9) rfl dX1_tell_77 ?_
        subst hres
        exact kI_ret hE hS hP hD rfl rfl (Nat.le_of_ble_eq_true rfl) (Nat.le_of_ble_eq_true rfl) dX1_tell_80
      · skip
        rw [if_neg c_1_2] at hres
        by_cases c_1_3 : what = 3
        · skip
          rw [if_pos c_1_3] at hres
          refine lv_tableIn (tgt := 81) (off := 80) hx hb dX1_tell_1 (by rw [c_1_3]; decide) (by rw [c_1_3]; decide) (by rw [c_1_3]; rfl) (by decide) ?_
          refine lv_aload_n hx hb dX1_tell_81 rfl (lv_at hl 0 rfl) ?_
          refine va_get (D := D) (ci := 1) (v := .int (o.1 1)) (C := RX1) (T := TX1) (N := 17) hx hb hts hinX1 hown hK hP 0 rfl rfl 7 (by decide) lk_3 (fun _ h9 => h9) rfl dX1_tell_82 ?_
          subst hres
          exact kI_ret hE hS hP hD rfl rfl (Nat.le_of_ble_eq_true rfl) (Nat.le_of_ble_eq_true rfl) dX1_tell_85
        · skip
          rw [if_neg c_1_3] at hres
          by_cases c_1_4 : what = 4
          · skip
            rw [if_pos c_1_4] at hres
            refine lv_tableIn (tgt := 86) (off := 85) hx hb dX1_tell_1 (by rw [c_1_4]; decide) (by rw [c_1_4]; decide) (by rw [c_1_4]; rfl) (by decide) ?_
            refine lv_aload_n hx hb dX1_tell_86 rfl (lv_at hl 0 rfl) ?_
            refine va_get (D := D) (ci := 1) (v := .int (o.1 2)) (C := RX1) (T := TX1) (N := 17) hx hb hts hinX1 hown hK hP 0 rfl rfl 8 (by decide) lk_4 (fun _ h9 => h9) rfl dX1_tell_87 ?_
            subst hres
            exact kI_ret hE hS hP hD rfl rfl (Nat.le_of_ble_eq_true rfl) (Nat.le_of_ble_eq_true rfl) dX1_tell_90
          · skip
            rw [if_neg c_1_4] at hres
            by_cases c_1_5 : what = 5
            · skip
              rw [if_pos c_1_5] at hres
              refine lv_tableIn (tgt := 91) (off := 90) hx hb dX1_tell_1 (by rw [c_1_5]; decide) (by rw [c_1_5]; decide) (by rw [c_1_5]; rfl) (by decide) ?_
              refine lv_aload_n hx hb dX1_tell_91 rfl (lv_at hl 0 rfl) ?_
              refine va_get (D := D) (ci := 1) (v := .int (o.1 3)) (C := RX1) (T := TX1) (N := 17) hx hb hts hinX1 hown hK hP 0 rfl rfl 9 (by decide) lk_5 (fun _ h9 => h9) rfl dX1_tell_92 ?_
              subst hres
              exact kI_ret hE hS hP hD rfl rfl (Nat.le_of_ble_eq_true rfl) (Nat.le_of_ble_eq_true rfl) dX1_tell_95
            · skip
              rw [if_neg c_1_5] at hres
              by_cases c_1_6 : what = 6
              · skip
                rw [if_pos c_1_6] at hres
                refine lv_tableIn (tgt := 96) (off := 95) hx hb dX1_tell_1 (by rw [c_1_6]; decide) (by rw [c_1_6]; decide) (by rw [c_1_6]; rfl) (by decide) ?_
                refine lv_aload_n hx hb dX1_tell_96 rfl (lv_at hl 0 rfl) ?_
                refine va_get (D := D) (ci := 1) (v := .int (o.1 4)) (C := RX1) (T := TX1) (N := 17) hx hb hts hinX1 hown hK hP 0 rfl rfl 10 (by decide) lk_6 (fun _ h9 => h9) rfl dX1_tell_97 ?_
                subst hres
                exact kI_ret hE hS hP hD rfl rfl (Nat.le_of_ble_eq_true rfl) (Nat.le_of_ble_eq_true rfl) dX1_tell_100
              · skip
                rw [if_neg c_1_6] at hres
                by_cases c_1_7 : what = 7
                · skip
                  rw [if_pos c_1_7] at hres
                  refine lv_tableIn (tgt := 101) (off := 100) hx hb dX1_tell_1 (by rw [c_1_7]; decide) (by rw [c_1_7]; decide) (by rw [c_1_7]; rfl) (by decide) ?_
                  refine lv_aload_n hx hb dX1_tell_101 rfl (lv_at hl 0 rfl) ?_
                  refine lv_iconst (v := 0) hx hb dX1_tell_102 (by decide) ?_
                  have hP : va_P D vwCl ((og_W cs ad o) ++ []) H := k_nP hP
                  have hD : va_D A ((og_W cs ad o) ++ []) := k_nD hD
                  have hc_103 := c_X1_soundedAgo l D cs ad o 0
                  refine kI_call (wc := (og_W cs ad o)) (wr := []) (w1 := og_W cs ad o) (r := (k_X1_soundedAgo o 0)) hE hP hD hS (k_rV (rest := []) (As := [.int 0]) hE rfl (hc_103 H.size) (cwV 1 hts gX1_tell_X1_soundedAgo rfl rfl rfl (by decide +kernel) ⟨Nat.le_of_ble_eq_true rfl, Nat.le_of_ble_eq_true rfl⟩) hP hD hS (ci := 1) (q0 := 0) rfl rfl rfl hl rfl (Nat.le_of_ble_eq_true rfl) ⟨Nat.le_of_ble_eq_true rfl, Nat.le_of_ble_eq_true rfl⟩ dX1_tell_103) (fun H locs hP hD hS => ?_)
                  have hP := k_uP hP
                  have hD := k_uD hD
                  have hP : va_P D vwCl (og_W cs ad o) H := hP
                  have hD : va_D A (og_W cs ad o) := hD
                  subst hres
                  exact kI_ret hE hS hP hD rfl rfl (Nat.le_of_ble_eq_true rfl) (Nat.le_of_ble_eq_true rfl) dX1_tell_106
                · skip
                  rw [if_neg c_1_7] at hres
                  by_cases c_1_8 : what = 8
                  · skip
                    rw [if_pos c_1_8] at hres
                    refine lv_tableIn (tgt := 107) (off := 106) hx hb dX1_tell_1 (by rw [c_1_8]; decide) (by rw [c_1_8]; decide) (by rw [c_1_8]; rfl) (by decide) ?_
                    refine lv_aload_n hx hb dX1_tell_107 rfl (lv_at hl 0 rfl) ?_
                    refine va_get (D := D) (ci := 1) (v := .int (o.1 5)) (C := RX1) (T := TX1) (N := 17) hx hb hts hinX1 hown hK hP 0 rfl rfl 12 (by decide) lk_7 (fun _ h9 => h9) rfl dX1_tell_108 ?_
                    subst hres
                    exact kI_ret hE hS hP hD rfl rfl (Nat.le_of_ble_eq_true rfl) (Nat.le_of_ble_eq_true rfl) dX1_tell_111
                  · skip
                    rw [if_neg c_1_8] at hres
                    by_cases c_1_9 : what = 9
                    · skip
                      rw [if_pos c_1_9] at hres
                      refine lv_tableIn (tgt := 112) (off := 111) hx hb dX1_tell_1 (by rw [c_1_9]; decide) (by rw [c_1_9]; decide) (by rw [c_1_9]; rfl) (by decide) ?_
                      refine lv_aload_n hx hb dX1_tell_112 rfl (lv_at hl 0 rfl) ?_
                      refine va_get (D := D) (ci := 1) (v := .int (o.1 6)) (C := RX1) (T := TX1) (N := 17) hx hb hts hinX1 hown hK hP 0 rfl rfl 13 (by decide) lk_8 (fun _ h9 => h9) rfl dX1_tell_113 ?_
                      subst hres
                      exact kI_ret hE hS hP hD rfl rfl (Nat.le_of_ble_eq_true rfl) (Nat.le_of_ble_eq_true rfl) dX1_tell_116
                    · skip
                      rw [if_neg c_1_9] at hres
                      by_cases c_1_10 : what = 10
                      · skip
                        rw [if_pos c_1_10] at hres
                        refine lv_tableIn (tgt := 117) (off := 116) hx hb dX1_tell_1 (by rw [c_1_10]; decide) (by rw [c_1_10]; decide) (by rw [c_1_10]; rfl) (by decide) ?_
                        refine lv_aload_n hx hb dX1_tell_117 rfl (lv_at hl 0 rfl) ?_
                        refine va_get (D := D) (ci := 1) (v := .int (o.1 7)) (C := RX1) (T := TX1) (N := 17) hx hb hts hinX1 hown hK hP 0 rfl rfl 14 (by decide) lk_9 (fun _ h9 => h9) rfl dX1_tell_118 ?_
                        subst hres
                        exact kI_ret hE hS hP hD rfl rfl (Nat.le_of_ble_eq_true rfl) (Nat.le_of_ble_eq_true rfl) dX1_tell_121
                      · skip
                        rw [if_neg c_1_10] at hres
                        refine lv_tableOut (tgt := 122) hx hb dX1_tell_1 (x_out what 0 11 (by decide) (by intro j hj; match j, hj with | 0, _ => exact c_1_0 | 1, _ => exact c_1_1 | 2, _ => exact c_1_2 | 3, _ => exact c_1_3 | 4, _ => exact c_1_4 | 5, _ => exact c_1_5 | 6, _ => exact c_1_6 | 7, _ => exact c_1_7 | 8, _ => exact c_1_8 | 9, _ => exact c_1_9 | 10, _ => exact c_1_10 | n + 11, hj => exact absurd hj (by omega))) (by decide) ?_
                        refine lv_aload_n hx hb dX1_tell_122 rfl (lv_at hl 0 rfl) ?_
                        refine va_get (D := D) (ci := 1) (v := .int (o.1 8)) (C := RX1) (T := TX1) (N := 17) hx hb hts hinX1 hown hK hP 0 rfl rfl 15 (by decide) lk_10 (fun _ h9 => h9) rfl dX1_tell_123 ?_
                        subst hres
                        exact kI_ret hE hS hP hD rfl rfl (Nat.le_of_ble_eq_true rfl) (Nat.le_of_ble_eq_true rfl) dX1_tell_126
def k_X1_settingOf (o : OV) (vw : Int32) : Int32 := (if (k_X5_isSetting vw) = 0 then 0 else ((o.2.2 5) vw.toNatClampNeg))
set_option maxHeartbeats 4000000 in
set_option maxRecDepth 100000 in
theorem c_X1_settingOf (l : Launch) (D : va_G) (cs : Nat → ClassId) (ad : Nat → Nat) (o : OV) (vw : Int32) : kI l yX1_settingOf wsX1_settingOf { frames := 1, cells := 0, slots := 0, locals := 20 } 0 0 D cs [.ref (ad 0), .int vw] (og_W cs ad o) (k_X1_settingOf o vw) (og_W cs ad o) := by
  generalize hres : k_X1_settingOf o vw = res
  refine kI_of (cc := cX1_settingOf) (maxL := 2) (ret := (some .int)) (by decide) rfl (Nat.le_of_ble_eq_true rfl) ?_
  intro p e s m below meth c A ls H locs hE hS hP hD hl
  obtain ⟨hx, hb, hr, hlocks, hml, hown, hts, hK, hA, hG, hnm⟩ := id hE
  have hown : s.vm.findClass RX1 = some m.cls := hown
  have hl : lv_has ls 2 [(0, .ref (ad 0)), (1, .int vw)] := hl
  have hinX1 : ∀ w ∈ wsX10, w ∈ wsX1_settingOf := by decide +kernel
  have lk_0 := hts (.initialized RX5) (by decide +kernel)
  have lk_1 := hts (.static yX5_isSetting) (by decide +kernel)
  have lk_2 := hts (.fieldLink RX1 33 "OrganPegs$Organ" "settings" "[I") (by decide +kernel)
  unfold k_X1_settingOf at hres
  refine lv_iload_n hx hb dX1_settingOf_0 rfl (lv_at hl 1 rfl) ?_
  have hP : va_P D vwCl ([] ++ (og_W cs ad o)) H := hP
  have hD : va_D A ([] ++ (og_W cs ad o)) := hD
  have hc_1 := c_X5_isSetting l D cs vw
  refine kI_call (wc := []) (wr := (og_W cs ad o)) (w1 := []) (r := (k_X5_isSetting vw)) hE hP hD hS (k_rSN (rest := []) (As := [.int vw]) hE rfl (hc_1 H.size) ⟨va_cnB 1 hts gX1_settingOf_X5_isSetting_n106 rfl rfl rfl (hG.1.2.1 _ _ _ _ nm_X1_106) lk_0 (by decide +kernel) ⟨Nat.le_of_ble_eq_true rfl, Nat.le_of_ble_eq_true rfl⟩, lk_1, trivial⟩ hP hD hS rfl hl rfl (Nat.le_of_ble_eq_true rfl) ⟨Nat.le_of_ble_eq_true rfl, Nat.le_of_ble_eq_true rfl⟩ dX1_settingOf_1) (fun H locs hP hD hS => ?_)
  have hP : va_P D vwCl (og_W cs ad o) H := hP
  have hD : va_D A (og_W cs ad o) := hD
  refine lv_if_eq (tgt := 16) hx hb dX1_settingOf_4 (by decide) (fun c_4 => ?_) (fun c_4 => ?_)
  · skip
    have c_4 : ((k_X5_isSetting vw) = 0) := c_4
    rw [if_pos c_4] at hres
    refine lv_iconst (v := 0) hx hb dX1_settingOf_16 (by decide) ?_
    subst hres
    exact kI_ret hE hS hP hD rfl rfl (Nat.le_of_ble_eq_true rfl) (Nat.le_of_ble_eq_true rfl) dX1_settingOf_17
  · skip
    have c_4 : ¬ ((k_X5_isSetting vw) = 0) := c_4
    rw [if_neg c_4] at hres
    refine lv_aload_n hx hb dX1_settingOf_7 rfl (lv_at hl 0 rfl) ?_
    refine va_get (D := D) (ci := 1) (v := .ref (ad 8)) (C := RX1) (T := TX1) (N := 17) hx hb hts hinX1 hown hK hP 0 rfl rfl 5 (by decide) lk_2 (fun _ h9 => h9) rfl dX1_settingOf_8 ?_
    refine lv_iload_n hx hb dX1_settingOf_11 rfl (lv_at hl 1 rfl) ?_
    refine k_iald hx hb hK hP 8 0 (v := ((o.2.2 5) vw.toNatClampNeg)) rfl rfl (sm_in c_4) rfl dX1_settingOf_12 ?_
    refine lv_goto (tgt := 17) hx hb dX1_settingOf_13 (by decide) ?_
    subst hres
    exact kI_ret hE hS hP hD rfl rfl (Nat.le_of_ble_eq_true rfl) (Nat.le_of_ble_eq_true rfl) dX1_settingOf_17
def k_X1_isOpen (o : OV) (vp : Int32) (vb : Int32) : Int32 := (if (k_X5_isPipe vp) = 0 then 0 else (if (((o.2.2 2) vp.toNatClampNeg) &&& (k_X5_span vb 1)) = 0 then 0 else 1))
set_option maxHeartbeats 4000000 in
set_option maxRecDepth 100000 in
theorem c_X1_isOpen (l : Launch) (D : va_G) (cs : Nat → ClassId) (ad : Nat → Nat) (o : OV) (vp : Int32) (vb : Int32) : kI l yX1_isOpen wsX1_isOpen { frames := 1, cells := 0, slots := 0, locals := 23 } 0 0 D cs [.ref (ad 0), .int vp, .int vb] (og_W cs ad o) (k_X1_isOpen o vp vb) (og_W cs ad o) := by
  generalize hres : k_X1_isOpen o vp vb = res
  refine kI_of (cc := cX1_isOpen) (maxL := 3) (ret := (some .boolean)) (by decide) rfl (Nat.le_of_ble_eq_true rfl) ?_
  intro p e s m below meth c A ls H locs hE hS hP hD hl
  obtain ⟨hx, hb, hr, hlocks, hml, hown, hts, hK, hA, hG, hnm⟩ := id hE
  have hown : s.vm.findClass RX1 = some m.cls := hown
  have hl : lv_has ls 3 [(0, .ref (ad 0)), (1, .int vp), (2, .int vb)] := hl
  have hinX1 : ∀ w ∈ wsX10, w ∈ wsX1_isOpen := by decide +kernel
  have lk_0 := hts (.initialized RX5) (by decide +kernel)
  have lk_1 := hts (.static yX5_isPipe) (by decide +kernel)
  have lk_2 := hts (.fieldLink RX1 23 "OrganPegs$Organ" "covers" "[I") (by decide +kernel)
  have lk_3 := hts (.static yX5_span) (by decide +kernel)
  unfold k_X1_isOpen at hres
  refine lv_iload_n hx hb dX1_isOpen_0 rfl (lv_at hl 1 rfl) ?_
  have hP : va_P D vwCl ([] ++ (og_W cs ad o)) H := hP
  have hD : va_D A ([] ++ (og_W cs ad o)) := hD
  have hc_1 := c_X5_isPipe l D cs vp
  refine kI_call (wc := []) (wr := (og_W cs ad o)) (w1 := []) (r := (k_X5_isPipe vp)) hE hP hD hS (k_rSN (rest := []) (As := [.int vp]) hE rfl (hc_1 H.size) ⟨va_cnB 1 hts gX1_isOpen_X5_isPipe_n86 rfl rfl rfl (hG.1.2.1 _ _ _ _ nm_X1_86) lk_0 (by decide +kernel) ⟨Nat.le_of_ble_eq_true rfl, Nat.le_of_ble_eq_true rfl⟩, lk_1, trivial⟩ hP hD hS rfl hl rfl (Nat.le_of_ble_eq_true rfl) ⟨Nat.le_of_ble_eq_true rfl, Nat.le_of_ble_eq_true rfl⟩ dX1_isOpen_1) (fun H locs hP hD hS => ?_)
  have hP : va_P D vwCl (og_W cs ad o) H := hP
  have hD : va_D A (og_W cs ad o) := hD
  refine lv_if_eq (tgt := 26) hx hb dX1_isOpen_4 (by decide) (fun c_4 => ?_) (fun c_4 => ?_)
  · skip
    have c_4 : ((k_X5_isPipe vp) = 0) := c_4
    rw [if_pos c_4] at hres
    refine lv_iconst (v := 0) hx hb dX1_isOpen_26 (by decide) ?_
    subst hres
    exact kI_ret hE hS hP hD rfl rfl (Nat.le_of_ble_eq_true rfl) (Nat.le_of_ble_eq_true rfl) dX1_isOpen_27
  · skip
    have c_4 : ¬ ((k_X5_isPipe vp) = 0) := c_4
    rw [if_neg c_4] at hres
    refine lv_aload_n hx hb dX1_isOpen_7 rfl (lv_at hl 0 rfl) ?_
    refine va_get (D := D) (ci := 1) (v := .ref (ad 5)) (C := RX1) (T := TX1) (N := 17) hx hb hts hinX1 hown hK hP 0 rfl rfl 2 (by decide) lk_2 (fun _ h9 => h9) rfl dX1_isOpen_8 ?_
    refine lv_iload_n hx hb dX1_isOpen_11 rfl (lv_at hl 1 rfl) ?_
    refine k_iald hx hb hK hP 5 0 (v := ((o.2.2 2) vp.toNatClampNeg)) rfl rfl (pipe_in c_4) rfl dX1_isOpen_12 ?_
    refine lv_iload_n hx hb dX1_isOpen_13 rfl (lv_at hl 2 rfl) ?_
    refine lv_iconst (v := 1) hx hb dX1_isOpen_14 (by decide) ?_
    have hP : va_P D vwCl ([] ++ (og_W cs ad o)) H := hP
    have hD : va_D A ([] ++ (og_W cs ad o)) := hD
    have hc_15 := c_X5_span l D cs vb 1
    refine kI_call (wc := []) (wr := (og_W cs ad o)) (w1 := []) (r := (k_X5_span vb 1)) hE hP hD hS (k_rSN (rest := [.int ((o.2.2 2) vp.toNatClampNeg)]) (As := [.int vb, .int 1]) hE rfl (hc_15 H.size) ⟨va_cnB 2 hts gX1_isOpen_X5_span_n109 rfl rfl rfl (hG.1.2.1 _ _ _ _ nm_X1_109) lk_0 (by decide +kernel) ⟨Nat.le_of_ble_eq_true rfl, Nat.le_of_ble_eq_true rfl⟩, lk_3, trivial⟩ hP hD hS rfl hl rfl (Nat.le_of_ble_eq_true rfl) ⟨Nat.le_of_ble_eq_true rfl, Nat.le_of_ble_eq_true rfl⟩ dX1_isOpen_15) (fun H locs hP hD hS => ?_)
    have hP : va_P D vwCl (og_W cs ad o) H := hP
    have hD : va_D A (og_W cs ad o) := hD
    refine lv_iand hx hb dX1_isOpen_18 ?_
    refine lv_if_eq (tgt := 26) hx hb dX1_isOpen_19 (by decide) (fun c_19 => ?_) (fun c_19 => ?_)
    · skip
      have c_19 : ((((o.2.2 2) vp.toNatClampNeg) &&& (k_X5_span vb 1)) = 0) := c_19
      rw [if_pos c_19] at hres
      refine lv_iconst (v := 0) hx hb dX1_isOpen_26 (by decide) ?_
      subst hres
      exact kI_ret hE hS hP hD rfl rfl (Nat.le_of_ble_eq_true rfl) (Nat.le_of_ble_eq_true rfl) dX1_isOpen_27
    · skip
      have c_19 : ¬ ((((o.2.2 2) vp.toNatClampNeg) &&& (k_X5_span vb 1)) = 0) := c_19
      rw [if_neg c_19] at hres
      refine lv_iconst (v := 1) hx hb dX1_isOpen_22 (by decide) ?_
      refine lv_goto (tgt := 27) hx hb dX1_isOpen_23 (by decide) ?_
      subst hres
      exact kI_ret hE hS hP hD rfl rfl (Nat.le_of_ble_eq_true rfl) (Nat.le_of_ble_eq_true rfl) dX1_isOpen_27
def k_X1_isFree (o : OV) (vp : Int32) (vb : Int32) : Int32 := (if (k_X5_isPipe vp) = 0 then 1 else (if (((o.2.2 2) vp.toNatClampNeg) &&& vb) = 0 then 1 else 0))
set_option maxHeartbeats 4000000 in
set_option maxRecDepth 100000 in
theorem c_X1_isFree (l : Launch) (D : va_G) (cs : Nat → ClassId) (ad : Nat → Nat) (o : OV) (vp : Int32) (vb : Int32) : kI l yX1_isFree wsX1_isFree { frames := 1, cells := 0, slots := 0, locals := 20 } 0 0 D cs [.ref (ad 0), .int vp, .int vb] (og_W cs ad o) (k_X1_isFree o vp vb) (og_W cs ad o) := by
  generalize hres : k_X1_isFree o vp vb = res
  refine kI_of (cc := cX1_isFree) (maxL := 3) (ret := (some .boolean)) (by decide) rfl (Nat.le_of_ble_eq_true rfl) ?_
  intro p e s m below meth c A ls H locs hE hS hP hD hl
  obtain ⟨hx, hb, hr, hlocks, hml, hown, hts, hK, hA, hG, hnm⟩ := id hE
  have hown : s.vm.findClass RX1 = some m.cls := hown
  have hl : lv_has ls 3 [(0, .ref (ad 0)), (1, .int vp), (2, .int vb)] := hl
  have hinX1 : ∀ w ∈ wsX10, w ∈ wsX1_isFree := by decide +kernel
  have lk_0 := hts (.initialized RX5) (by decide +kernel)
  have lk_1 := hts (.static yX5_isPipe) (by decide +kernel)
  have lk_2 := hts (.fieldLink RX1 23 "OrganPegs$Organ" "covers" "[I") (by decide +kernel)
  unfold k_X1_isFree at hres
  refine lv_iload_n hx hb dX1_isFree_0 rfl (lv_at hl 1 rfl) ?_
  have hP : va_P D vwCl ([] ++ (og_W cs ad o)) H := hP
  have hD : va_D A ([] ++ (og_W cs ad o)) := hD
  have hc_1 := c_X5_isPipe l D cs vp
  refine kI_call (wc := []) (wr := (og_W cs ad o)) (w1 := []) (r := (k_X5_isPipe vp)) hE hP hD hS (k_rSN (rest := []) (As := [.int vp]) hE rfl (hc_1 H.size) ⟨va_cnB 1 hts gX1_isFree_X5_isPipe_n86 rfl rfl rfl (hG.1.2.1 _ _ _ _ nm_X1_86) lk_0 (by decide +kernel) ⟨Nat.le_of_ble_eq_true rfl, Nat.le_of_ble_eq_true rfl⟩, lk_1, trivial⟩ hP hD hS rfl hl rfl (Nat.le_of_ble_eq_true rfl) ⟨Nat.le_of_ble_eq_true rfl, Nat.le_of_ble_eq_true rfl⟩ dX1_isFree_1) (fun H locs hP hD hS => ?_)
  have hP : va_P D vwCl (og_W cs ad o) H := hP
  have hD : va_D A (og_W cs ad o) := hD
  refine lv_if_eq (tgt := 18) hx hb dX1_isFree_4 (by decide) (fun c_4 => ?_) (fun c_4 => ?_)
  · skip
    have c_4 : ((k_X5_isPipe vp) = 0) := c_4
    rw [if_pos c_4] at hres
    refine lv_iconst (v := 1) hx hb dX1_isFree_18 (by decide) ?_
    refine lv_goto (tgt := 23) hx hb dX1_isFree_19 (by decide) ?_
    subst hres
    exact kI_ret hE hS hP hD rfl rfl (Nat.le_of_ble_eq_true rfl) (Nat.le_of_ble_eq_true rfl) dX1_isFree_23
  · skip
    have c_4 : ¬ ((k_X5_isPipe vp) = 0) := c_4
    rw [if_neg c_4] at hres
    refine lv_aload_n hx hb dX1_isFree_7 rfl (lv_at hl 0 rfl) ?_
    refine va_get (D := D) (ci := 1) (v := .ref (ad 5)) (C := RX1) (T := TX1) (N := 17) hx hb hts hinX1 hown hK hP 0 rfl rfl 2 (by decide) lk_2 (fun _ h9 => h9) rfl dX1_isFree_8 ?_
    refine lv_iload_n hx hb dX1_isFree_11 rfl (lv_at hl 1 rfl) ?_
    refine k_iald hx hb hK hP 5 0 (v := ((o.2.2 2) vp.toNatClampNeg)) rfl rfl (pipe_in c_4) rfl dX1_isFree_12 ?_
    refine lv_iload_n hx hb dX1_isFree_13 rfl (lv_at hl 2 rfl) ?_
    refine lv_iand hx hb dX1_isFree_14 ?_
    refine lv_if_ne (tgt := 22) hx hb dX1_isFree_15 (by decide) (fun c_15 => ?_) (fun c_15 => ?_)
    · skip
      have c_15 : ¬ ((((o.2.2 2) vp.toNatClampNeg) &&& vb) = 0) := c_15
      rw [if_neg c_15] at hres
      refine lv_iconst (v := 0) hx hb dX1_isFree_22 (by decide) ?_
      subst hres
      exact kI_ret hE hS hP hD rfl rfl (Nat.le_of_ble_eq_true rfl) (Nat.le_of_ble_eq_true rfl) dX1_isFree_23
    · skip
      have c_15 : ((((o.2.2 2) vp.toNatClampNeg) &&& vb) = 0) := c_15
      rw [if_pos c_15] at hres
      refine lv_iconst (v := 1) hx hb dX1_isFree_18 (by decide) ?_
      refine lv_goto (tgt := 23) hx hb dX1_isFree_19 (by decide) ?_
      subst hres
      exact kI_ret hE hS hP hD rfl rfl (Nat.le_of_ble_eq_true rfl) (Nat.le_of_ble_eq_true rfl) dX1_isFree_23
def k_X1_openPipes_L4 (o : OV) (vb : Int32) : Nat → Int32 → Int32 → Int32
  | 0, _, _ => 0
  | n + 1, i, acc => (if 6 ≤ i then acc else (if (k_X1_isOpen o i vb) = 0 then (k_X1_openPipes_L4 o vb n (i + 1) acc) else (k_X1_openPipes_L4 o vb n (i + 1) (acc ||| ((1 : Int32) <<< (i &&& 31))))))
def k_X1_openPipes (o : OV) (vb : Int32) : Int32 := (k_X1_openPipes_L4 o vb 7 0 0)
set_option maxHeartbeats 4000000 in
set_option maxRecDepth 100000 in
theorem c_X1_openPipes (l : Launch) (D : va_G) (cs : Nat → ClassId) (ad : Nat → Nat) (o : OV) (vb : Int32) : kI l yX1_openPipes wsX1_openPipes { frames := 2, cells := 0, slots := 0, locals := 45 } 0 0 D cs [.ref (ad 0), .int vb] (og_W cs ad o) (k_X1_openPipes o vb) (og_W cs ad o) := by
  generalize hres : k_X1_openPipes o vb = res
  refine kI_of (cc := cX1_openPipes) (maxL := 4) (ret := (some .int)) (by decide) rfl (Nat.le_of_ble_eq_true rfl) ?_
  intro p e s m below meth c A ls H locs hE hS hP hD hl
  obtain ⟨hx, hb, hr, hlocks, hml, hown, hts, hK, hA, hG, hnm⟩ := id hE
  have hown : s.vm.findClass RX1 = some m.cls := hown
  have hl : lv_has ls 4 [(0, .ref (ad 0)), (1, .int vb)] := hl
  have L4 : ∀ (n : Nat) (i : Int32) (acc : Int32) (j : Nat) (hi : i = nI j) (hj : j + n = 7) (hj2 : j ≤ 6) (H : Heap) (locs : List Loc) (ls : Array Slot), va_S A s.heap H locs → va_P D vwCl (og_W cs ad o) H → va_D A (og_W cs ad o) → lv_has ls 4 [(0, .ref (ad 0)), (1, .int vb), (2, .int acc), (3, .int i)] → k_X1_openPipes_L4 o vb n i acc = res → W p l e { frames := 2, cells := 0, slots := 0, locals := 45 } s m ([.ref (ad 0), .int vb]).toArray below meth c H locs 0 0 (MQ below (va_Qi (fun (r' : Int32) (_ : Unit) => r' = res) (kB D (fun _ => og_W cs ad o) A) A) ([.ref (ad 0), .int vb]).toArray s 0 0 A) (F0 m 4 ls []) := by
    intro n
    induction n with
    | zero =>
      intro i acc j hi hj hj2 H locs ls hS hP hD hl hres
      exact absurd hj2 (by omega)
    | succ n ih =>
      intro i acc j hi hj hj2 H locs ls hS hP hD hl hres
      unfold k_X1_openPipes_L4 at hres
      refine lv_iload_n hx hb dX1_openPipes_4 rfl (lv_at hl 3 rfl) ?_
      refine lv_bipush (v := 6) hx hb dX1_openPipes_5 (by decide) ?_
      refine lv_icmp_ge (tgt := 31) hx hb dX1_openPipes_7 (by decide) (fun c_7 => ?_) (fun c_7 => ?_)
      · skip
        have c_7 : (6 ≤ i) := c_7
        rw [if_pos c_7] at hres
        refine lv_iload_n hx hb dX1_openPipes_31 rfl (lv_at hl 2 rfl) ?_
        subst hres
        exact kI_ret hE hS hP hD rfl rfl (Nat.le_of_ble_eq_true rfl) (Nat.le_of_ble_eq_true rfl) dX1_openPipes_32
      · skip
        have c_7 : ¬ (6 ≤ i) := c_7
        rw [if_neg c_7] at hres
        refine lv_aload_n hx hb dX1_openPipes_10 rfl (lv_at hl 0 rfl) ?_
        refine lv_iload_n hx hb dX1_openPipes_11 rfl (lv_at hl 3 rfl) ?_
        refine lv_iload_n hx hb dX1_openPipes_12 rfl (lv_at hl 1 rfl) ?_
        have hP : va_P D vwCl ((og_W cs ad o) ++ []) H := k_nP hP
        have hD : va_D A ((og_W cs ad o) ++ []) := k_nD hD
        have hc_13 := c_X1_isOpen l D cs ad o i vb
        refine kI_call (wc := (og_W cs ad o)) (wr := []) (w1 := og_W cs ad o) (r := (k_X1_isOpen o i vb)) hE hP hD hS (k_rV (rest := []) (As := [.int i, .int vb]) hE rfl (hc_13 H.size) (cwV 2 hts gX1_openPipes_X1_isOpen rfl rfl rfl (by decide +kernel) ⟨Nat.le_of_ble_eq_true rfl, Nat.le_of_ble_eq_true rfl⟩) hP hD hS (ci := 1) (q0 := 0) rfl rfl rfl hl rfl (Nat.le_of_ble_eq_true rfl) ⟨Nat.le_of_ble_eq_true rfl, Nat.le_of_ble_eq_true rfl⟩ dX1_openPipes_13) (fun H locs hP hD hS => ?_)
        have hP := k_uP hP
        have hD := k_uD hD
        have hP : va_P D vwCl (og_W cs ad o) H := hP
        have hD : va_D A (og_W cs ad o) := hD
        refine lv_if_eq (tgt := 25) hx hb dX1_openPipes_16 (by decide) (fun c_16 => ?_) (fun c_16 => ?_)
        · skip
          have c_16 : ((k_X1_isOpen o i vb) = 0) := c_16
          rw [if_pos c_16] at hres
          refine lv_iinc (v := (i + 1)) (lv' := [(3, .int (i + 1)), (0, .ref (ad 0)), (1, .int vb), (2, .int acc)]) hx hb dX1_openPipes_25 hl (k := 3) rfl (by rfl) (by decide) rfl (fun ls hl => ?_)
          refine lv_goto (tgt := 4) hx hb dX1_openPipes_28 (by decide) ?_
          exact ih (i + 1) acc (j + 1) (by rw [hi, nI_1]) (by omega) (nI_lts hi (by omega) (by decide) c_7) _ _ _ hS hP hD (lv_sub hl [1, 2, 3, 0] rfl) hres
        · skip
          have c_16 : ¬ ((k_X1_isOpen o i vb) = 0) := c_16
          rw [if_neg c_16] at hres
          refine lv_iload_n hx hb dX1_openPipes_19 rfl (lv_at hl 2 rfl) ?_
          refine lv_iconst (v := 1) hx hb dX1_openPipes_20 (by decide) ?_
          refine lv_iload_n hx hb dX1_openPipes_21 rfl (lv_at hl 3 rfl) ?_
          refine lv_ishl hx hb dX1_openPipes_22 ?_
          refine lv_ior hx hb dX1_openPipes_23 ?_
          refine lv_istore_n (lv' := [(2, .int (acc ||| ((1 : Int32) <<< (i &&& 31)))), (0, .ref (ad 0)), (1, .int vb), (3, .int i)]) hx hb dX1_openPipes_24 rfl hl (by decide) rfl (fun ls hl => ?_)
          refine lv_iinc (v := (i + 1)) (lv' := [(3, .int (i + 1)), (2, .int (acc ||| ((1 : Int32) <<< (i &&& 31)))), (0, .ref (ad 0)), (1, .int vb)]) hx hb dX1_openPipes_25 hl (k := 3) rfl (by rfl) (by decide) rfl (fun ls hl => ?_)
          refine lv_goto (tgt := 4) hx hb dX1_openPipes_28 (by decide) ?_
          exact ih (i + 1) (acc ||| ((1 : Int32) <<< (i &&& 31))) (j + 1) (by rw [hi, nI_1]) (by omega) (nI_lts hi (by omega) (by decide) c_7) _ _ _ hS hP hD (lv_sub hl [2, 3, 1, 0] rfl) hres
  unfold k_X1_openPipes at hres
  refine lv_iconst (v := 0) hx hb dX1_openPipes_0 (by decide) ?_
  refine lv_istore_n (lv' := [(2, .int 0), (0, .ref (ad 0)), (1, .int vb)]) hx hb dX1_openPipes_1 rfl hl (by decide) rfl (fun ls hl => ?_)
  refine lv_iconst (v := 0) hx hb dX1_openPipes_2 (by decide) ?_
  refine lv_istore_n (lv' := [(3, .int 0), (2, .int 0), (0, .ref (ad 0)), (1, .int vb)]) hx hb dX1_openPipes_3 rfl hl (by decide) rfl (fun ls hl => ?_)
  exact L4 7 0 0 0 (nI_0.symm) (rfl) (Nat.zero_le _) _ _ _ hS hP hD (lv_sub hl [2, 3, 1, 0] rfl) hres
def k_X1_coveredBars_L4 (o : OV) : Nat → Int32 → Int32 → Int32
  | 0, _, _ => 0
  | n + 1, i, acc => (if 24 ≤ i then acc else (k_X1_coveredBars_L4 o n (i + 1) (acc + (k_J6_bitCount_0f7a4 (k_X1_openPipes o i)))))
def k_X1_coveredBars (o : OV) : Int32 := (k_X1_coveredBars_L4 o 25 0 0)
set_option maxHeartbeats 4000000 in
set_option maxRecDepth 100000 in
theorem c_X1_coveredBars (l : Launch) (D : va_G) (cs : Nat → ClassId) (ad : Nat → Nat) (o : OV)  : kI l yX1_coveredBars wsX1_coveredBars { frames := 3, cells := 0, slots := 0, locals := 68 } 0 0 D cs [.ref (ad 0)] (og_W cs ad o) (k_X1_coveredBars o) (og_W cs ad o) := by
  generalize hres : k_X1_coveredBars o = res
  refine kI_of (cc := cX1_coveredBars) (maxL := 3) (ret := (some .int)) (by decide) rfl (Nat.le_of_ble_eq_true rfl) ?_
  intro p e s m below meth c A ls H locs hE hS hP hD hl
  obtain ⟨hx, hb, hr, hlocks, hml, hown, hts, hK, hA, hG, hnm⟩ := id hE
  have hown : s.vm.findClass RX1 = some m.cls := hown
  have hl : lv_has ls 3 [(0, .ref (ad 0))] := hl
  have L4 : ∀ (n : Nat) (i : Int32) (acc : Int32) (j : Nat) (hi : i = nI j) (hj : j + n = 25) (hj2 : j ≤ 24) (H : Heap) (locs : List Loc) (ls : Array Slot), va_S A s.heap H locs → va_P D vwCl (og_W cs ad o) H → va_D A (og_W cs ad o) → lv_has ls 3 [(0, .ref (ad 0)), (1, .int acc), (2, .int i)] → k_X1_coveredBars_L4 o n i acc = res → W p l e { frames := 3, cells := 0, slots := 0, locals := 68 } s m ([.ref (ad 0)]).toArray below meth c H locs 0 0 (MQ below (va_Qi (fun (r' : Int32) (_ : Unit) => r' = res) (kB D (fun _ => og_W cs ad o) A) A) ([.ref (ad 0)]).toArray s 0 0 A) (F0 m 4 ls []) := by
    intro n
    induction n with
    | zero =>
      intro i acc j hi hj hj2 H locs ls hS hP hD hl hres
      exact absurd hj2 (by omega)
    | succ n ih =>
      intro i acc j hi hj hj2 H locs ls hS hP hD hl hres
      unfold k_X1_coveredBars_L4 at hres
      refine lv_iload_n hx hb dX1_coveredBars_4 rfl (lv_at hl 2 rfl) ?_
      refine lv_bipush (v := 24) hx hb dX1_coveredBars_5 (by decide) ?_
      refine lv_icmp_ge (tgt := 27) hx hb dX1_coveredBars_7 (by decide) (fun c_7 => ?_) (fun c_7 => ?_)
      · skip
        have c_7 : (24 ≤ i) := c_7
        rw [if_pos c_7] at hres
        refine lv_iload_n hx hb dX1_coveredBars_27 rfl (lv_at hl 1 rfl) ?_
        subst hres
        exact kI_ret hE hS hP hD rfl rfl (Nat.le_of_ble_eq_true rfl) (Nat.le_of_ble_eq_true rfl) dX1_coveredBars_28
      · skip
        have c_7 : ¬ (24 ≤ i) := c_7
        rw [if_neg c_7] at hres
        refine lv_iload_n hx hb dX1_coveredBars_10 rfl (lv_at hl 1 rfl) ?_
        refine lv_aload_n hx hb dX1_coveredBars_11 rfl (lv_at hl 0 rfl) ?_
        refine lv_iload_n hx hb dX1_coveredBars_12 rfl (lv_at hl 2 rfl) ?_
        have hP : va_P D vwCl ((og_W cs ad o) ++ []) H := k_nP hP
        have hD : va_D A ((og_W cs ad o) ++ []) := k_nD hD
        have hc_13 := c_X1_openPipes l D cs ad o i
        refine kI_call (wc := (og_W cs ad o)) (wr := []) (w1 := og_W cs ad o) (r := (k_X1_openPipes o i)) hE hP hD hS (k_rV (rest := [.int acc]) (As := [.int i]) hE rfl (hc_13 H.size) (cwV 1 hts gX1_coveredBars_X1_openPipes rfl rfl rfl (by decide +kernel) ⟨Nat.le_of_ble_eq_true rfl, Nat.le_of_ble_eq_true rfl⟩) hP hD hS (ci := 1) (q0 := 0) rfl rfl rfl hl rfl (Nat.le_of_ble_eq_true rfl) ⟨Nat.le_of_ble_eq_true rfl, Nat.le_of_ble_eq_true rfl⟩ dX1_coveredBars_13) (fun H locs hP hD hS => ?_)
        have hP := k_uP hP
        have hD := k_uD hD
        have hP : va_P D vwCl (og_W cs ad o) H := hP
        have hD : va_D A (og_W cs ad o) := hD
        have hP : va_P D vwCl ([] ++ (og_W cs ad o)) H := hP
        have hD : va_D A ([] ++ (og_W cs ad o)) := hD
        have hc_16 := c_J6_bitCount_0f7a4 l D cs (k_X1_openPipes o i)
        refine kI_call (wc := []) (wr := (og_W cs ad o)) (w1 := []) (r := (k_J6_bitCount_0f7a4 (k_X1_openPipes o i))) hE hP hD hS (k_rS (rest := [.int acc]) (As := [.int (k_X1_openPipes o i)]) hE rfl (hc_16 H.size) (va_cwS 1 hts gX1_coveredBars_J6_bitCount_0f7a4 rfl rfl rfl (by decide +kernel) ⟨Nat.le_of_ble_eq_true rfl, Nat.le_of_ble_eq_true rfl⟩) hP hD hS rfl hl rfl (Nat.le_of_ble_eq_true rfl) ⟨Nat.le_of_ble_eq_true rfl, Nat.le_of_ble_eq_true rfl⟩ dX1_coveredBars_16) (fun H locs hP hD hS => ?_)
        have hP : va_P D vwCl (og_W cs ad o) H := hP
        have hD : va_D A (og_W cs ad o) := hD
        refine lv_iadd hx hb dX1_coveredBars_19 ?_
        refine lv_istore_n (lv' := [(1, .int (acc + (k_J6_bitCount_0f7a4 (k_X1_openPipes o i)))), (0, .ref (ad 0)), (2, .int i)]) hx hb dX1_coveredBars_20 rfl hl (by decide) rfl (fun ls hl => ?_)
        refine lv_iinc (v := (i + 1)) (lv' := [(2, .int (i + 1)), (1, .int (acc + (k_J6_bitCount_0f7a4 (k_X1_openPipes o i)))), (0, .ref (ad 0))]) hx hb dX1_coveredBars_21 hl (k := 2) rfl (by rfl) (by decide) rfl (fun ls hl => ?_)
        refine lv_goto (tgt := 4) hx hb dX1_coveredBars_24 (by decide) ?_
        exact ih (i + 1) (acc + (k_J6_bitCount_0f7a4 (k_X1_openPipes o i))) (j + 1) (by rw [hi, nI_1]) (by omega) (nI_lts hi (by omega) (by decide) c_7) _ _ _ hS hP hD (lv_sub hl [2, 1, 0] rfl) hres
  unfold k_X1_coveredBars at hres
  refine lv_iconst (v := 0) hx hb dX1_coveredBars_0 (by decide) ?_
  refine lv_istore_n (lv' := [(1, .int 0), (0, .ref (ad 0))]) hx hb dX1_coveredBars_1 rfl hl (by decide) rfl (fun ls hl => ?_)
  refine lv_iconst (v := 0) hx hb dX1_coveredBars_2 (by decide) ?_
  refine lv_istore_n (lv' := [(2, .int 0), (1, .int 0), (0, .ref (ad 0))]) hx hb dX1_coveredBars_3 rfl hl (by decide) rfl (fun ls hl => ?_)
  exact L4 25 0 0 0 (nI_0.symm) (rfl) (Nat.zero_le _) _ _ _ hS hP hD (lv_sub hl [2, 1, 0] rfl) hres
