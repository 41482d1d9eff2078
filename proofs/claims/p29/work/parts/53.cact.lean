theorem CO_rem {cv : CV} (h : CO cv) : CO (k_X0_remember cv) := by
  unfold k_X0_remember
  have hO : OI (k_X1_copyFrom (cv.2.1 (3 + (cv.2.2.1 0).toNatClampNeg)) (cv.2.1 0)) := OI_copy (h.1 0 (by decide))
  have hn := h.2.2
  have e0 : (0 : Int32).toInt = 0 := rfl
  have e1 : (1 : Int32).toInt = 1 := rfl
  have e14 : (14 : Int32).toInt = 14 := rfl
  split
  · exact CO_s1 (CO_s0 (CO_o h hO) (by decide) (by decide))
  · rename_i c
    rw [i_le] at c
    have e2 : ((cv.2.2.1 0) + 1).toInt = (cv.2.2.1 0).toInt + 1 := i_add (by omega) (by omega)
    exact CO_s1 (CO_s0 (CO_o h hO) (show 0 ≤ ((cv.2.2.1 0) + 1).toInt by omega) (show ((cv.2.2.1 0) + 1).toInt ≤ 13 by omega))
def k_X5_put (cv : CV) (vp : Int32) (vb : Int32) (vn : Int32) : Option String × Int32 × CV := (if (k_X5_isPipe vp) = 0 then (some "java/lang/IndexOutOfBoundsException", 0, cv) else (if (k_X5_isBar vb) = 0 then (some "java/lang/IndexOutOfBoundsException", 0, cv) else (if (k_X5_isLength vn) = 0 then (some "java/lang/IllegalArgumentException", 0, cv) else (if (k_X4_isFull 5 12 (g_ot (cv.2.1 0))) = 0 then (match (k_X1_orderPut ((k_X0_remember cv).2.1 0) vp vb vn) with | (r_82, o_82) => (none, r_82, (c_o (k_X0_remember cv) 0 o_82))) else (some "java/lang/IllegalStateException", 0, cv)))))
set_option maxHeartbeats 4000000 in
set_option maxRecDepth 100000 in
theorem c_X5_put (l : Launch) (hfl : l.stackTraces = false) (D : va_G) (cs : Nat → ClassId) (ca : Nat → Nat → Nat) (cv : CV) (vp : Int32) (vb : Int32) (vn : Int32) (hC : CO cv) : kX l yX5_put wsX5_put { frames := 6, cells := 1, slots := 6, locals := 144 } 1 6 D cs [.ref (ca 0 0), .int vp, .int vb, .int vn] (ca_W cs ca cv) (k_X5_put cv vp vb vn).1 (k_X5_put cv vp vb vn).2.1 (ca_W cs ca ((k_X5_put cv vp vb vn).2.2)) := by
  generalize hres : k_X5_put cv vp vb vn = res
  refine kX_of (cc := cX5_put) (maxL := 4) (ret := (some .int)) (by decide) rfl (Nat.le_of_ble_eq_true rfl) ?_
  intro p e s m below meth c A ls H locs hE hxt hS hP hD hl
  obtain ⟨hx, hb, hr, hlocks, hml, hown, hts, hK, hA, hG, hnm⟩ := id hE
  have hown : s.vm.findClass RX5 = some m.cls := hown
  have hl : lv_has ls 4 [(0, .ref (ca 0 0)), (1, .int vp), (2, .int vb), (3, .int vn)] := hl
  have hinX1 : ∀ w ∈ wsX10, w ∈ wsX5_put := by decide +kernel
  have hinX5 : ∀ w ∈ wsX50, w ∈ wsX5_put := by decide +kernel
  have lk_0 := hts (.classLink RX5 137 "java/lang/IndexOutOfBoundsException") (by decide +kernel)
  have lk_1 := hts (.initialized "java/lang/IndexOutOfBoundsException") (by decide +kernel)
  have lk_2 := hts (.fieldLink RX5 19 "OrganPegs" "organ" "LOrganPegs$Organ;") (by decide +kernel)
  have lk_3 := hts (.fieldLink RX5 32 "OrganPegs" "history" "LOrganPegs$History;") (by decide +kernel)
  have lk_4 := hts (.classLink RX5 54 "java/lang/IllegalStateException") (by decide +kernel)
  have lk_5 := hts (.initialized "java/lang/IllegalStateException") (by decide +kernel)
  have lk_6 := hts (.classLink RX5 43 "java/lang/IllegalArgumentException") (by decide +kernel)
  have lk_7 := hts (.initialized "java/lang/IllegalArgumentException") (by decide +kernel)
  unfold k_X5_put at hres
  refine lv_iload_n hx hb dX5_put_0 rfl (lv_at hl 1 rfl) ?_
  have hP : va_P D vwCl ([] ++ (ca_W cs ca cv)) H := hP
  have hD : va_D A ([] ++ (ca_W cs ca cv)) := hD
  have hc_1 := c_X5_isPipe l D cs vp
  refine kI_call (wc := []) (wr := (ca_W cs ca cv)) (w1 := []) (r := (k_X5_isPipe vp)) hE hP hD hS (k_rS (rest := []) (As := [.int vp]) hE rfl (hc_1 H.size) (va_cwS 1 hts gX5_put_X5_isPipe rfl rfl rfl (by decide +kernel) ⟨Nat.le_of_ble_eq_true rfl, Nat.le_of_ble_eq_true rfl⟩) hP hD hS rfl hl rfl (Nat.le_of_ble_eq_true rfl) ⟨Nat.le_of_ble_eq_true rfl, Nat.le_of_ble_eq_true rfl⟩ dX5_put_1) (fun H locs hP hD hS => ?_)
  have hP : va_P D vwCl (ca_W cs ca cv) H := hP
  have hD : va_D A (ca_W cs ca cv) := hD
  refine lv_if_eq (tgt := 14) hx hb dX5_put_4 (by decide) (fun c_4 => ?_) (fun c_4 => ?_)
  · skip
    have c_4 : ((k_X5_isPipe vp) = 0) := c_4
    rw [if_pos c_4] at hres
    subst hres
    exact kX_throw hE hfl hxt hS hP hD hl rfl (by decide) lk_0 lk_1 sr_186 xg_141 (by decide +kernel) xb_141 dX5_put_14 dX5_put_17 dX5_put_18 dX5_put_20 dX5_put_23 (Nat.le_of_ble_eq_true rfl) (Nat.le_of_ble_eq_true rfl) (Nat.le_of_ble_eq_true rfl) (Nat.le_of_ble_eq_true rfl) (Nat.le_of_ble_eq_true rfl) (Nat.le_of_ble_eq_true rfl) rfl
  · skip
    have c_4 : ¬ ((k_X5_isPipe vp) = 0) := c_4
    rw [if_neg c_4] at hres
    refine lv_iload_n hx hb dX5_put_7 rfl (lv_at hl 2 rfl) ?_
    have hP : va_P D vwCl ([] ++ (ca_W cs ca cv)) H := hP
    have hD : va_D A ([] ++ (ca_W cs ca cv)) := hD
    have hc_8 := c_X5_isBar l D cs vb
    refine kI_call (wc := []) (wr := (ca_W cs ca cv)) (w1 := []) (r := (k_X5_isBar vb)) hE hP hD hS (k_rS (rest := []) (As := [.int vb]) hE rfl (hc_8 H.size) (va_cwS 1 hts gX5_put_X5_isBar rfl rfl rfl (by decide +kernel) ⟨Nat.le_of_ble_eq_true rfl, Nat.le_of_ble_eq_true rfl⟩) hP hD hS rfl hl rfl (Nat.le_of_ble_eq_true rfl) ⟨Nat.le_of_ble_eq_true rfl, Nat.le_of_ble_eq_true rfl⟩ dX5_put_8) (fun H locs hP hD hS => ?_)
    have hP : va_P D vwCl (ca_W cs ca cv) H := hP
    have hD : va_D A (ca_W cs ca cv) := hD
    refine lv_if_ne (tgt := 24) hx hb dX5_put_11 (by decide) (fun c_11 => ?_) (fun c_11 => ?_)
    · skip
      have c_11 : ¬ ((k_X5_isBar vb) = 0) := c_11
      rw [if_neg c_11] at hres
      refine lv_iload_n hx hb dX5_put_24 rfl (lv_at hl 3 rfl) ?_
      have hP : va_P D vwCl ([] ++ (ca_W cs ca cv)) H := hP
      have hD : va_D A ([] ++ (ca_W cs ca cv)) := hD
      have hc_25 := c_X5_isLength l D cs vn
      refine kI_call (wc := []) (wr := (ca_W cs ca cv)) (w1 := []) (r := (k_X5_isLength vn)) hE hP hD hS (k_rS (rest := []) (As := [.int vn]) hE rfl (hc_25 H.size) (va_cwS 1 hts gX5_put_X5_isLength rfl rfl rfl (by decide +kernel) ⟨Nat.le_of_ble_eq_true rfl, Nat.le_of_ble_eq_true rfl⟩) hP hD hS rfl hl rfl (Nat.le_of_ble_eq_true rfl) ⟨Nat.le_of_ble_eq_true rfl, Nat.le_of_ble_eq_true rfl⟩ dX5_put_25) (fun H locs hP hD hS => ?_)
      have hP : va_P D vwCl (ca_W cs ca cv) H := hP
      have hD : va_D A (ca_W cs ca cv) := hD
      refine lv_if_ne (tgt := 41) hx hb dX5_put_28 (by decide) (fun c_28 => ?_) (fun c_28 => ?_)
      · skip
        have c_28 : ¬ ((k_X5_isLength vn) = 0) := c_28
        rw [if_neg c_28] at hres
        refine lv_aload_n hx hb dX5_put_41 rfl (lv_at hl 0 rfl) ?_
        refine va_get (D := D) (ci := 5) (v := .ref (ca 10 0)) (C := RX5) (T := TX5) (N := 6) hx hb hts hinX5 hown hK hP 0 rfl rfl 1 (by decide) lk_2 (fun _ h9 => h9) rfl dX5_put_42 ?_
        refine va_getN (D := D) (ci := 1) (v := .ref (ca 10 2)) (C := RX1) (T := TX1) (N := 17) hx hb hts hinX1 hown hK (k_left (pmP (ca_pm1 (k := 0) (by decide)) hP)) 0 rfl rfl 1 (by decide) (va_Nw.use rfl (hG.1.1 _ _ _ _ _ _ nf_X5_147)) (fun _ h9 => h9) rfl dX5_put_45 ?_
        have pm9 := ((ca_pm1 (cs := cs) (ca := ca) (cv := cv) (k := 0) (by decide)).trans ((og_pmO.append_right _).trans (List.Perm.of_eq (List.append_assoc _ _ _))))
        have hP := pmP pm9 hP
        have hD := pmD pm9 hD
        have hc_48 := c_X4_isFull l D cs ((ca 10) 2) ((ca 10) 4) 5 12 60 (g_ot (cv.2.1 0))
        refine kI_call (wc := (tb_W cs ((ca 10) 2) ((ca 10) 4) 5 12 60 (g_ot (cv.2.1 0)))) (wr := (og_rO cs (ca 10) (cv.2.1 0) ++ ca_ro cs ca cv 0)) (w1 := tb_W cs ((ca 10) 2) ((ca 10) 4) 5 12 60 (g_ot (cv.2.1 0))) (r := (k_X4_isFull 5 12 (g_ot (cv.2.1 0)))) hE hP hD hS (k_rV (rest := []) (As := []) hE rfl (hc_48 H.size) (cwV 0 hts gX5_put_X4_isFull rfl rfl rfl (by decide +kernel) ⟨Nat.le_of_ble_eq_true rfl, Nat.le_of_ble_eq_true rfl⟩) hP hD hS (ci := 4) (q0 := 0) rfl rfl rfl hl rfl (Nat.le_of_ble_eq_true rfl) ⟨Nat.le_of_ble_eq_true rfl, Nat.le_of_ble_eq_true rfl⟩ dX5_put_48) (fun H locs hP hD hS => ?_)
        have hP := pmP pm9.symm hP
        have hD := pmD pm9.symm hD
        have hP : va_P D vwCl (ca_W cs ca cv) H := hP
        have hD : va_D A (ca_W cs ca cv) := hD
        refine lv_if_eq (tgt := 64) hx hb dX5_put_51 (by decide) (fun c_51 => ?_) (fun c_51 => ?_)
        · skip
          have c_51 : ((k_X4_isFull 5 12 (g_ot (cv.2.1 0))) = 0) := c_51
          rw [if_pos c_51] at hres
          refine lv_aload_n hx hb dX5_put_64 rfl (lv_at hl 0 rfl) ?_
          refine va_get (D := D) (ci := 5) (v := .ref (ca 2 0)) (C := RX5) (T := TX5) (N := 6) hx hb hts hinX5 hown hK hP 0 rfl rfl 4 (by decide) lk_3 (fun _ h9 => h9) rfl dX5_put_65 ?_
          refine lv_aload_n hx hb dX5_put_68 rfl (lv_at hl 0 rfl) ?_
          refine va_get (D := D) (ci := 5) (v := .ref (ca 10 0)) (C := RX5) (T := TX5) (N := 6) hx hb hts hinX5 hown hK hP 0 rfl rfl 1 (by decide) lk_2 (fun _ h9 => h9) rfl dX5_put_69 ?_
          have hP : va_P D vwCl ((ca_W cs ca cv) ++ []) H := k_nP hP
          have hD : va_D A ((ca_W cs ca cv) ++ []) := k_nD hD
          have hc_72 := c_X0_remember l D cs ca cv  (by assumption)
          refine kV_call (wc := (ca_W cs ca cv)) (wr := []) (w1 := fun _ => ca_W cs ca (k_X0_remember cv)) hE hP hD hS (k_rV (rest := []) (As := [.ref (ca 10 0)]) hE rfl (hc_72 H.size) (cwV 1 hts gX5_put_X0_remember rfl rfl rfl (by decide +kernel) ⟨Nat.le_of_ble_eq_true rfl, Nat.le_of_ble_eq_true rfl⟩) hP hD hS (ci := 0) (q0 := 3) rfl rfl rfl hl rfl (Nat.le_of_ble_eq_true rfl) ⟨Nat.le_of_ble_eq_true rfl, Nat.le_of_ble_eq_true rfl⟩ dX5_put_72) (fun _ H locs _ hP hD hS => ?_)
          have hP := k_uP hP
          have hD := k_uD hD
          have hP : va_P D vwCl (ca_W cs ca (k_X0_remember cv)) H := hP
          have hD : va_D A (ca_W cs ca (k_X0_remember cv)) := hD
          refine lv_aload_n hx hb dX5_put_75 rfl (lv_at hl 0 rfl) ?_
          refine va_get (D := D) (ci := 5) (v := .ref (ca 10 0)) (C := RX5) (T := TX5) (N := 6) hx hb hts hinX5 hown hK hP 0 rfl rfl 1 (by decide) lk_2 (fun _ h9 => h9) rfl dX5_put_76 ?_
          refine lv_iload_n hx hb dX5_put_79 rfl (lv_at hl 1 rfl) ?_
          refine lv_iload_n hx hb dX5_put_80 rfl (lv_at hl 2 rfl) ?_
          refine lv_iload_n hx hb dX5_put_81 rfl (lv_at hl 3 rfl) ?_
          have hP := pmP (ca_pm1 (cs := cs) (ca := ca) (cv := (k_X0_remember cv)) (k := 0) (by decide)) hP
          have hD := pmD (ca_pm1 (cs := cs) (ca := ca) (cv := (k_X0_remember cv)) (k := 0) (by decide)) hD
          have hc_82 := c_X1_orderPut l D cs (ca 10) ((k_X0_remember cv).2.1 0) vp vb vn
          obtain ⟨r_82, o_82, e_82⟩ : ∃ r9 o9, (k_X1_orderPut ((k_X0_remember cv).2.1 0) vp vb vn) = (r9, o9) := ⟨_, _, rfl⟩
          rw [e_82] at hc_82 hres
          dsimp only at hc_82 hres
          refine kI_call (wc := (og_W cs (ca 10) ((k_X0_remember cv).2.1 0))) (wr := (ca_ro cs ca (k_X0_remember cv) 0)) (w1 := og_W cs (ca 10) o_82) (r := r_82) hE hP hD hS (k_rV (rest := []) (As := [.int vp, .int vb, .int vn]) hE rfl (hc_82 H.size) (cwV 3 hts gX5_put_X1_orderPut rfl rfl rfl (by decide +kernel) ⟨Nat.le_of_ble_eq_true rfl, Nat.le_of_ble_eq_true rfl⟩) hP hD hS (ci := 1) (q0 := 0) rfl rfl rfl hl rfl (Nat.le_of_ble_eq_true rfl) ⟨Nat.le_of_ble_eq_true rfl, Nat.le_of_ble_eq_true rfl⟩ dX5_put_82) (fun H locs hP hD hS => ?_)
          have hP := pmP (ca_bk1 (cs := cs) (ca := ca) (cv := (k_X0_remember cv)) (k := 0) (by decide)) hP
          have hD := pmD (ca_bk1 (cs := cs) (ca := ca) (cv := (k_X0_remember cv)) (k := 0) (by decide)) hD
          have hP : va_P D vwCl (ca_W cs ca (c_o (k_X0_remember cv) 0 o_82)) H := hP
          have hD : va_D A (ca_W cs ca (c_o (k_X0_remember cv) 0 o_82)) := hD
          subst hres
          exact kX_ret hE hS hP hD rfl rfl rfl (Nat.le_of_ble_eq_true rfl) (Nat.le_of_ble_eq_true rfl) dX5_put_85
        · skip
          have c_51 : ¬ ((k_X4_isFull 5 12 (g_ot (cv.2.1 0))) = 0) := c_51
          rw [if_neg c_51] at hres
          subst hres
          exact kX_throw hE hfl hxt hS hP hD hl rfl (by decide) lk_4 lk_5 sr_194 xg_58 (by decide +kernel) xb_58 dX5_put_54 dX5_put_57 dX5_put_58 dX5_put_60 dX5_put_63 (Nat.le_of_ble_eq_true rfl) (Nat.le_of_ble_eq_true rfl) (Nat.le_of_ble_eq_true rfl) (Nat.le_of_ble_eq_true rfl) (Nat.le_of_ble_eq_true rfl) (Nat.le_of_ble_eq_true rfl) rfl
      · skip
        have c_28 : ((k_X5_isLength vn) = 0) := c_28
        rw [if_pos c_28] at hres
        subst hres
        exact kX_throw hE hfl hxt hS hP hD hl rfl (by decide) lk_6 lk_7 sr_191 xg_47 (by decide +kernel) xb_47 dX5_put_31 dX5_put_34 dX5_put_35 dX5_put_37 dX5_put_40 (Nat.le_of_ble_eq_true rfl) (Nat.le_of_ble_eq_true rfl) (Nat.le_of_ble_eq_true rfl) (Nat.le_of_ble_eq_true rfl) (Nat.le_of_ble_eq_true rfl) (Nat.le_of_ble_eq_true rfl) rfl
    · skip
      have c_11 : ((k_X5_isBar vb) = 0) := c_11
      rw [if_pos c_11] at hres
      subst hres
      exact kX_throw hE hfl hxt hS hP hD hl rfl (by decide) lk_0 lk_1 sr_186 xg_141 (by decide +kernel) xb_141 dX5_put_14 dX5_put_17 dX5_put_18 dX5_put_20 dX5_put_23 (Nat.le_of_ble_eq_true rfl) (Nat.le_of_ble_eq_true rfl) (Nat.le_of_ble_eq_true rfl) (Nat.le_of_ble_eq_true rfl) (Nat.le_of_ble_eq_true rfl) (Nat.le_of_ble_eq_true rfl) rfl
def k_X5_pull (cv : CV) (vp : Int32) (vb : Int32) : Option String × Int32 × CV := (if (k_X5_isPipe vp) = 0 then (some "java/lang/IndexOutOfBoundsException", 0, cv) else (if (k_X5_isBar vb) = 0 then (some "java/lang/IndexOutOfBoundsException", 0, cv) else (if (k_X4_isFull 5 12 (g_ot (cv.2.1 0))) = 0 then (match (k_X1_orderPull ((k_X0_remember cv).2.1 0) vp vb) with | (r_64, o_64) => (none, r_64, (c_o (k_X0_remember cv) 0 o_64))) else (some "java/lang/IllegalStateException", 0, cv))))
set_option maxHeartbeats 4000000 in
set_option maxRecDepth 100000 in
theorem c_X5_pull (l : Launch) (hfl : l.stackTraces = false) (D : va_G) (cs : Nat → ClassId) (ca : Nat → Nat → Nat) (cv : CV) (vp : Int32) (vb : Int32) (hC : CO cv) : kX l yX5_pull wsX5_pull { frames := 6, cells := 1, slots := 6, locals := 144 } 1 6 D cs [.ref (ca 0 0), .int vp, .int vb] (ca_W cs ca cv) (k_X5_pull cv vp vb).1 (k_X5_pull cv vp vb).2.1 (ca_W cs ca ((k_X5_pull cv vp vb).2.2)) := by
  generalize hres : k_X5_pull cv vp vb = res
  refine kX_of (cc := cX5_pull) (maxL := 3) (ret := (some .int)) (by decide) rfl (Nat.le_of_ble_eq_true rfl) ?_
  intro p e s m below meth c A ls H locs hE hxt hS hP hD hl
  obtain ⟨hx, hb, hr, hlocks, hml, hown, hts, hK, hA, hG, hnm⟩ := id hE
  have hown : s.vm.findClass RX5 = some m.cls := hown
  have hl : lv_has ls 3 [(0, .ref (ca 0 0)), (1, .int vp), (2, .int vb)] := hl
  have hinX1 : ∀ w ∈ wsX10, w ∈ wsX5_pull := by decide +kernel
  have hinX5 : ∀ w ∈ wsX50, w ∈ wsX5_pull := by decide +kernel
  have lk_0 := hts (.classLink RX5 137 "java/lang/IndexOutOfBoundsException") (by decide +kernel)
  have lk_1 := hts (.initialized "java/lang/IndexOutOfBoundsException") (by decide +kernel)
  have lk_2 := hts (.fieldLink RX5 19 "OrganPegs" "organ" "LOrganPegs$Organ;") (by decide +kernel)
  have lk_3 := hts (.fieldLink RX5 32 "OrganPegs" "history" "LOrganPegs$History;") (by decide +kernel)
  have lk_4 := hts (.classLink RX5 54 "java/lang/IllegalStateException") (by decide +kernel)
  have lk_5 := hts (.initialized "java/lang/IllegalStateException") (by decide +kernel)
  unfold k_X5_pull at hres
  refine lv_iload_n hx hb dX5_pull_0 rfl (lv_at hl 1 rfl) ?_
  have hP : va_P D vwCl ([] ++ (ca_W cs ca cv)) H := hP
  have hD : va_D A ([] ++ (ca_W cs ca cv)) := hD
  have hc_1 := c_X5_isPipe l D cs vp
  refine kI_call (wc := []) (wr := (ca_W cs ca cv)) (w1 := []) (r := (k_X5_isPipe vp)) hE hP hD hS (k_rS (rest := []) (As := [.int vp]) hE rfl (hc_1 H.size) (va_cwS 1 hts gX5_pull_X5_isPipe rfl rfl rfl (by decide +kernel) ⟨Nat.le_of_ble_eq_true rfl, Nat.le_of_ble_eq_true rfl⟩) hP hD hS rfl hl rfl (Nat.le_of_ble_eq_true rfl) ⟨Nat.le_of_ble_eq_true rfl, Nat.le_of_ble_eq_true rfl⟩ dX5_pull_1) (fun H locs hP hD hS => ?_)
  have hP : va_P D vwCl (ca_W cs ca cv) H := hP
  have hD : va_D A (ca_W cs ca cv) := hD
  refine lv_if_eq (tgt := 14) hx hb dX5_pull_4 (by decide) (fun c_4 => ?_) (fun c_4 => ?_)
  · skip
    have c_4 : ((k_X5_isPipe vp) = 0) := c_4
    rw [if_pos c_4] at hres
    subst hres
    exact kX_throw hE hfl hxt hS hP hD hl rfl (by decide) lk_0 lk_1 sr_186 xg_141 (by decide +kernel) xb_141 dX5_pull_14 dX5_pull_17 dX5_pull_18 dX5_pull_20 dX5_pull_23 (Nat.le_of_ble_eq_true rfl) (Nat.le_of_ble_eq_true rfl) (Nat.le_of_ble_eq_true rfl) (Nat.le_of_ble_eq_true rfl) (Nat.le_of_ble_eq_true rfl) (Nat.le_of_ble_eq_true rfl) rfl
  · skip
    have c_4 : ¬ ((k_X5_isPipe vp) = 0) := c_4
    rw [if_neg c_4] at hres
    refine lv_iload_n hx hb dX5_pull_7 rfl (lv_at hl 2 rfl) ?_
    have hP : va_P D vwCl ([] ++ (ca_W cs ca cv)) H := hP
    have hD : va_D A ([] ++ (ca_W cs ca cv)) := hD
    have hc_8 := c_X5_isBar l D cs vb
    refine kI_call (wc := []) (wr := (ca_W cs ca cv)) (w1 := []) (r := (k_X5_isBar vb)) hE hP hD hS (k_rS (rest := []) (As := [.int vb]) hE rfl (hc_8 H.size) (va_cwS 1 hts gX5_pull_X5_isBar rfl rfl rfl (by decide +kernel) ⟨Nat.le_of_ble_eq_true rfl, Nat.le_of_ble_eq_true rfl⟩) hP hD hS rfl hl rfl (Nat.le_of_ble_eq_true rfl) ⟨Nat.le_of_ble_eq_true rfl, Nat.le_of_ble_eq_true rfl⟩ dX5_pull_8) (fun H locs hP hD hS => ?_)
    have hP : va_P D vwCl (ca_W cs ca cv) H := hP
    have hD : va_D A (ca_W cs ca cv) := hD
    refine lv_if_ne (tgt := 24) hx hb dX5_pull_11 (by decide) (fun c_11 => ?_) (fun c_11 => ?_)
    · skip
      have c_11 : ¬ ((k_X5_isBar vb) = 0) := c_11
      rw [if_neg c_11] at hres
      refine lv_aload_n hx hb dX5_pull_24 rfl (lv_at hl 0 rfl) ?_
      refine va_get (D := D) (ci := 5) (v := .ref (ca 10 0)) (C := RX5) (T := TX5) (N := 6) hx hb hts hinX5 hown hK hP 0 rfl rfl 1 (by decide) lk_2 (fun _ h9 => h9) rfl dX5_pull_25 ?_
      refine va_getN (D := D) (ci := 1) (v := .ref (ca 10 2)) (C := RX1) (T := TX1) (N := 17) hx hb hts hinX1 hown hK (k_left (pmP (ca_pm1 (k := 0) (by decide)) hP)) 0 rfl rfl 1 (by decide) (va_Nw.use rfl (hG.1.1 _ _ _ _ _ _ nf_X5_147)) (fun _ h9 => h9) rfl dX5_pull_28 ?_
      have pm9 := ((ca_pm1 (cs := cs) (ca := ca) (cv := cv) (k := 0) (by decide)).trans ((og_pmO.append_right _).trans (List.Perm.of_eq (List.append_assoc _ _ _))))
      have hP := pmP pm9 hP
      have hD := pmD pm9 hD
      have hc_31 := c_X4_isFull l D cs ((ca 10) 2) ((ca 10) 4) 5 12 60 (g_ot (cv.2.1 0))
      refine kI_call (wc := (tb_W cs ((ca 10) 2) ((ca 10) 4) 5 12 60 (g_ot (cv.2.1 0)))) (wr := (og_rO cs (ca 10) (cv.2.1 0) ++ ca_ro cs ca cv 0)) (w1 := tb_W cs ((ca 10) 2) ((ca 10) 4) 5 12 60 (g_ot (cv.2.1 0))) (r := (k_X4_isFull 5 12 (g_ot (cv.2.1 0)))) hE hP hD hS (k_rV (rest := []) (As := []) hE rfl (hc_31 H.size) (cwV 0 hts gX5_pull_X4_isFull rfl rfl rfl (by decide +kernel) ⟨Nat.le_of_ble_eq_true rfl, Nat.le_of_ble_eq_true rfl⟩) hP hD hS (ci := 4) (q0 := 0) rfl rfl rfl hl rfl (Nat.le_of_ble_eq_true rfl) ⟨Nat.le_of_ble_eq_true rfl, Nat.le_of_ble_eq_true rfl⟩ dX5_pull_31) (fun H locs hP hD hS => ?_)
      have hP := pmP pm9.symm hP
      have hD := pmD pm9.symm hD
      have hP : va_P D vwCl (ca_W cs ca cv) H := hP
      have hD : va_D A (ca_W cs ca cv) := hD
      refine lv_if_eq (tgt := 47) hx hb dX5_pull_34 (by decide) (fun c_34 => ?_) (fun c_34 => ?_)
      · skip
        have c_34 : ((k_X4_isFull 5 12 (g_ot (cv.2.1 0))) = 0) := c_34
        rw [if_pos c_34] at hres
        refine lv_aload_n hx hb dX5_pull_47 rfl (lv_at hl 0 rfl) ?_
        refine va_get (D := D) (ci := 5) (v := .ref (ca 2 0)) (C := RX5) (T := TX5) (N := 6) hx hb hts hinX5 hown hK hP 0 rfl rfl 4 (by decide) lk_3 (fun _ h9 => h9) rfl dX5_pull_48 ?_
        refine lv_aload_n hx hb dX5_pull_51 rfl (lv_at hl 0 rfl) ?_
        refine va_get (D := D) (ci := 5) (v := .ref (ca 10 0)) (C := RX5) (T := TX5) (N := 6) hx hb hts hinX5 hown hK hP 0 rfl rfl 1 (by decide) lk_2 (fun _ h9 => h9) rfl dX5_pull_52 ?_
        have hP : va_P D vwCl ((ca_W cs ca cv) ++ []) H := k_nP hP
        have hD : va_D A ((ca_W cs ca cv) ++ []) := k_nD hD
        have hc_55 := c_X0_remember l D cs ca cv  (by assumption)
        refine kV_call (wc := (ca_W cs ca cv)) (wr := []) (w1 := fun _ => ca_W cs ca (k_X0_remember cv)) hE hP hD hS (k_rV (rest := []) (As := [.ref (ca 10 0)]) hE rfl (hc_55 H.size) (cwV 1 hts gX5_pull_X0_remember rfl rfl rfl (by decide +kernel) ⟨Nat.le_of_ble_eq_true rfl, Nat.le_of_ble_eq_true rfl⟩) hP hD hS (ci := 0) (q0 := 3) rfl rfl rfl hl rfl (Nat.le_of_ble_eq_true rfl) ⟨Nat.le_of_ble_eq_true rfl, Nat.le_of_ble_eq_true rfl⟩ dX5_pull_55) (fun _ H locs _ hP hD hS => ?_)
        have hP := k_uP hP
        have hD := k_uD hD
        have hP : va_P D vwCl (ca_W cs ca (k_X0_remember cv)) H := hP
        have hD : va_D A (ca_W cs ca (k_X0_remember cv)) := hD
        refine lv_aload_n hx hb dX5_pull_58 rfl (lv_at hl 0 rfl) ?_
        refine va_get (D := D) (ci := 5) (v := .ref (ca 10 0)) (C := RX5) (T := TX5) (N := 6) hx hb hts hinX5 hown hK hP 0 rfl rfl 1 (by decide) lk_2 (fun _ h9 => h9) rfl dX5_pull_59 ?_
        refine lv_iload_n hx hb dX5_pull_62 rfl (lv_at hl 1 rfl) ?_
        refine lv_iload_n hx hb dX5_pull_63 rfl (lv_at hl 2 rfl) ?_
        have hP := pmP (ca_pm1 (cs := cs) (ca := ca) (cv := (k_X0_remember cv)) (k := 0) (by decide)) hP
        have hD := pmD (ca_pm1 (cs := cs) (ca := ca) (cv := (k_X0_remember cv)) (k := 0) (by decide)) hD
        have hc_64 := c_X1_orderPull l D cs (ca 10) ((k_X0_remember cv).2.1 0) vp vb
        obtain ⟨r_64, o_64, e_64⟩ : ∃ r9 o9, (k_X1_orderPull ((k_X0_remember cv).2.1 0) vp vb) = (r9, o9) := ⟨_, _, rfl⟩
        rw [e_64] at hc_64 hres
        dsimp only at hc_64 hres
        refine kI_call (wc := (og_W cs (ca 10) ((k_X0_remember cv).2.1 0))) (wr := (ca_ro cs ca (k_X0_remember cv) 0)) (w1 := og_W cs (ca 10) o_64) (r := r_64) hE hP hD hS (k_rV (rest := []) (As := [.int vp, .int vb]) hE rfl (hc_64 H.size) (cwV 2 hts gX5_pull_X1_orderPull rfl rfl rfl (by decide +kernel) ⟨Nat.le_of_ble_eq_true rfl, Nat.le_of_ble_eq_true rfl⟩) hP hD hS (ci := 1) (q0 := 0) rfl rfl rfl hl rfl (Nat.le_of_ble_eq_true rfl) ⟨Nat.le_of_ble_eq_true rfl, Nat.le_of_ble_eq_true rfl⟩ dX5_pull_64) (fun H locs hP hD hS => ?_)
        have hP := pmP (ca_bk1 (cs := cs) (ca := ca) (cv := (k_X0_remember cv)) (k := 0) (by decide)) hP
        have hD := pmD (ca_bk1 (cs := cs) (ca := ca) (cv := (k_X0_remember cv)) (k := 0) (by decide)) hD
        have hP : va_P D vwCl (ca_W cs ca (c_o (k_X0_remember cv) 0 o_64)) H := hP
        have hD : va_D A (ca_W cs ca (c_o (k_X0_remember cv) 0 o_64)) := hD
        subst hres
        exact kX_ret hE hS hP hD rfl rfl rfl (Nat.le_of_ble_eq_true rfl) (Nat.le_of_ble_eq_true rfl) dX5_pull_67
      · skip
        have c_34 : ¬ ((k_X4_isFull 5 12 (g_ot (cv.2.1 0))) = 0) := c_34
        rw [if_neg c_34] at hres
        subst hres
        exact kX_throw hE hfl hxt hS hP hD hl rfl (by decide) lk_4 lk_5 sr_194 xg_58 (by decide +kernel) xb_58 dX5_pull_37 dX5_pull_40 dX5_pull_41 dX5_pull_43 dX5_pull_46 (Nat.le_of_ble_eq_true rfl) (Nat.le_of_ble_eq_true rfl) (Nat.le_of_ble_eq_true rfl) (Nat.le_of_ble_eq_true rfl) (Nat.le_of_ble_eq_true rfl) (Nat.le_of_ble_eq_true rfl) rfl
    · skip
      have c_11 : ((k_X5_isBar vb) = 0) := c_11
      rw [if_pos c_11] at hres
      subst hres
      exact kX_throw hE hfl hxt hS hP hD hl rfl (by decide) lk_0 lk_1 sr_186 xg_141 (by decide +kernel) xb_141 dX5_pull_14 dX5_pull_17 dX5_pull_18 dX5_pull_20 dX5_pull_23 (Nat.le_of_ble_eq_true rfl) (Nat.le_of_ble_eq_true rfl) (Nat.le_of_ble_eq_true rfl) (Nat.le_of_ble_eq_true rfl) (Nat.le_of_ble_eq_true rfl) (Nat.le_of_ble_eq_true rfl) rfl
def k_X5_cancel (cv : CV) (vk : Int32) : Option String × Int32 × CV := (if (k_X4_has (g_ot (cv.2.1 0)) vk) = 0 then (some "java/lang/IndexOutOfBoundsException", 0, cv) else (match (k_X1_dropOrder ((k_X0_remember cv).2.1 0) vk) with | (r_40, o_40) => (none, r_40, (c_o (k_X0_remember cv) 0 o_40))))
set_option maxHeartbeats 4000000 in
set_option maxRecDepth 100000 in
theorem c_X5_cancel (l : Launch) (hfl : l.stackTraces = false) (D : va_G) (cs : Nat → ClassId) (ca : Nat → Nat → Nat) (cv : CV) (vk : Int32) (hC : CO cv) : kX l yX5_cancel wsX5_cancel { frames := 6, cells := 1, slots := 6, locals := 144 } 1 6 D cs [.ref (ca 0 0), .int vk] (ca_W cs ca cv) (k_X5_cancel cv vk).1 (k_X5_cancel cv vk).2.1 (ca_W cs ca ((k_X5_cancel cv vk).2.2)) := by
  generalize hres : k_X5_cancel cv vk = res
  refine kX_of (cc := cX5_cancel) (maxL := 2) (ret := (some .int)) (by decide) rfl (Nat.le_of_ble_eq_true rfl) ?_
  intro p e s m below meth c A ls H locs hE hxt hS hP hD hl
  obtain ⟨hx, hb, hr, hlocks, hml, hown, hts, hK, hA, hG, hnm⟩ := id hE
  have hown : s.vm.findClass RX5 = some m.cls := hown
  have hl : lv_has ls 2 [(0, .ref (ca 0 0)), (1, .int vk)] := hl
  have hinX1 : ∀ w ∈ wsX10, w ∈ wsX5_cancel := by decide +kernel
  have hinX5 : ∀ w ∈ wsX50, w ∈ wsX5_cancel := by decide +kernel
  have lk_0 := hts (.fieldLink RX5 19 "OrganPegs" "organ" "LOrganPegs$Organ;") (by decide +kernel)
  have lk_1 := hts (.fieldLink RX5 32 "OrganPegs" "history" "LOrganPegs$History;") (by decide +kernel)
  have lk_2 := hts (.classLink RX5 137 "java/lang/IndexOutOfBoundsException") (by decide +kernel)
  have lk_3 := hts (.initialized "java/lang/IndexOutOfBoundsException") (by decide +kernel)
  unfold k_X5_cancel at hres
  refine lv_aload_n hx hb dX5_cancel_0 rfl (lv_at hl 0 rfl) ?_
  refine va_get (D := D) (ci := 5) (v := .ref (ca 10 0)) (C := RX5) (T := TX5) (N := 6) hx hb hts hinX5 hown hK hP 0 rfl rfl 1 (by decide) lk_0 (fun _ h9 => h9) rfl dX5_cancel_1 ?_
  refine va_getN (D := D) (ci := 1) (v := .ref (ca 10 2)) (C := RX1) (T := TX1) (N := 17) hx hb hts hinX1 hown hK (k_left (pmP (ca_pm1 (k := 0) (by decide)) hP)) 0 rfl rfl 1 (by decide) (va_Nw.use rfl (hG.1.1 _ _ _ _ _ _ nf_X5_147)) (fun _ h9 => h9) rfl dX5_cancel_4 ?_
  refine lv_iload_n hx hb dX5_cancel_7 rfl (lv_at hl 1 rfl) ?_
  have pm9 := ((ca_pm1 (cs := cs) (ca := ca) (cv := cv) (k := 0) (by decide)).trans ((og_pmO.append_right _).trans (List.Perm.of_eq (List.append_assoc _ _ _))))
  have hP := pmP pm9 hP
  have hD := pmD pm9 hD
  have hc_8 := c_X4_has l D cs ((ca 10) 2) ((ca 10) 4) 5 12 60 (g_ot (cv.2.1 0)) vk
  refine kI_call (wc := (tb_W cs ((ca 10) 2) ((ca 10) 4) 5 12 60 (g_ot (cv.2.1 0)))) (wr := (og_rO cs (ca 10) (cv.2.1 0) ++ ca_ro cs ca cv 0)) (w1 := tb_W cs ((ca 10) 2) ((ca 10) 4) 5 12 60 (g_ot (cv.2.1 0))) (r := (k_X4_has (g_ot (cv.2.1 0)) vk)) hE hP hD hS (k_rV (rest := []) (As := [.int vk]) hE rfl (hc_8 H.size) (cwV 1 hts gX5_cancel_X4_has rfl rfl rfl (by decide +kernel) ⟨Nat.le_of_ble_eq_true rfl, Nat.le_of_ble_eq_true rfl⟩) hP hD hS (ci := 4) (q0 := 0) rfl rfl rfl hl rfl (Nat.le_of_ble_eq_true rfl) ⟨Nat.le_of_ble_eq_true rfl, Nat.le_of_ble_eq_true rfl⟩ dX5_cancel_8) (fun H locs hP hD hS => ?_)
  have hP := pmP pm9.symm hP
  have hD := pmD pm9.symm hD
  have hP : va_P D vwCl (ca_W cs ca cv) H := hP
  have hD : va_D A (ca_W cs ca cv) := hD
  refine lv_if_ne (tgt := 24) hx hb dX5_cancel_11 (by decide) (fun c_11 => ?_) (fun c_11 => ?_)
  · skip
    have c_11 : ¬ ((k_X4_has (g_ot (cv.2.1 0)) vk) = 0) := c_11
    rw [if_neg c_11] at hres
    refine lv_aload_n hx hb dX5_cancel_24 rfl (lv_at hl 0 rfl) ?_
    refine va_get (D := D) (ci := 5) (v := .ref (ca 2 0)) (C := RX5) (T := TX5) (N := 6) hx hb hts hinX5 hown hK hP 0 rfl rfl 4 (by decide) lk_1 (fun _ h9 => h9) rfl dX5_cancel_25 ?_
    refine lv_aload_n hx hb dX5_cancel_28 rfl (lv_at hl 0 rfl) ?_
    refine va_get (D := D) (ci := 5) (v := .ref (ca 10 0)) (C := RX5) (T := TX5) (N := 6) hx hb hts hinX5 hown hK hP 0 rfl rfl 1 (by decide) lk_0 (fun _ h9 => h9) rfl dX5_cancel_29 ?_
    have hP : va_P D vwCl ((ca_W cs ca cv) ++ []) H := k_nP hP
    have hD : va_D A ((ca_W cs ca cv) ++ []) := k_nD hD
    have hc_32 := c_X0_remember l D cs ca cv  (by assumption)
    refine kV_call (wc := (ca_W cs ca cv)) (wr := []) (w1 := fun _ => ca_W cs ca (k_X0_remember cv)) hE hP hD hS (k_rV (rest := []) (As := [.ref (ca 10 0)]) hE rfl (hc_32 H.size) (cwV 1 hts gX5_cancel_X0_remember rfl rfl rfl (by decide +kernel) ⟨Nat.le_of_ble_eq_true rfl, Nat.le_of_ble_eq_true rfl⟩) hP hD hS (ci := 0) (q0 := 3) rfl rfl rfl hl rfl (Nat.le_of_ble_eq_true rfl) ⟨Nat.le_of_ble_eq_true rfl, Nat.le_of_ble_eq_true rfl⟩ dX5_cancel_32) (fun _ H locs _ hP hD hS => ?_)
    have hP := k_uP hP
    have hD := k_uD hD
    have hP : va_P D vwCl (ca_W cs ca (k_X0_remember cv)) H := hP
    have hD : va_D A (ca_W cs ca (k_X0_remember cv)) := hD
    refine lv_aload_n hx hb dX5_cancel_35 rfl (lv_at hl 0 rfl) ?_
    refine va_get (D := D) (ci := 5) (v := .ref (ca 10 0)) (C := RX5) (T := TX5) (N := 6) hx hb hts hinX5 hown hK hP 0 rfl rfl 1 (by decide) lk_0 (fun _ h9 => h9) rfl dX5_cancel_36 ?_
    refine lv_iload_n hx hb dX5_cancel_39 rfl (lv_at hl 1 rfl) ?_
    have hP := pmP (ca_pm1 (cs := cs) (ca := ca) (cv := (k_X0_remember cv)) (k := 0) (by decide)) hP
    have hD := pmD (ca_pm1 (cs := cs) (ca := ca) (cv := (k_X0_remember cv)) (k := 0) (by decide)) hD
    have hc_40 := c_X1_dropOrder l D cs (ca 10) ((k_X0_remember cv).2.1 0) vk ((CO_rem hC).1 0 (by decide))
    obtain ⟨r_40, o_40, e_40⟩ : ∃ r9 o9, (k_X1_dropOrder ((k_X0_remember cv).2.1 0) vk) = (r9, o9) := ⟨_, _, rfl⟩
    rw [e_40] at hc_40 hres
    dsimp only at hc_40 hres
    refine kI_call (wc := (og_W cs (ca 10) ((k_X0_remember cv).2.1 0))) (wr := (ca_ro cs ca (k_X0_remember cv) 0)) (w1 := og_W cs (ca 10) o_40) (r := r_40) hE hP hD hS (k_rV (rest := []) (As := [.int vk]) hE rfl (hc_40 H.size) (cwV 1 hts gX5_cancel_X1_dropOrder rfl rfl rfl (by decide +kernel) ⟨Nat.le_of_ble_eq_true rfl, Nat.le_of_ble_eq_true rfl⟩) hP hD hS (ci := 1) (q0 := 0) rfl rfl rfl hl rfl (Nat.le_of_ble_eq_true rfl) ⟨Nat.le_of_ble_eq_true rfl, Nat.le_of_ble_eq_true rfl⟩ dX5_cancel_40) (fun H locs hP hD hS => ?_)
    have hP := pmP (ca_bk1 (cs := cs) (ca := ca) (cv := (k_X0_remember cv)) (k := 0) (by decide)) hP
    have hD := pmD (ca_bk1 (cs := cs) (ca := ca) (cv := (k_X0_remember cv)) (k := 0) (by decide)) hD
    have hP : va_P D vwCl (ca_W cs ca (c_o (k_X0_remember cv) 0 o_40)) H := hP
    have hD : va_D A (ca_W cs ca (c_o (k_X0_remember cv) 0 o_40)) := hD
    subst hres
    exact kX_ret hE hS hP hD rfl rfl rfl (Nat.le_of_ble_eq_true rfl) (Nat.le_of_ble_eq_true rfl) dX5_cancel_43
  · skip
    have c_11 : ((k_X4_has (g_ot (cv.2.1 0)) vk) = 0) := c_11
    rw [if_pos c_11] at hres
    subst hres
    exact kX_throw hE hfl hxt hS hP hD hl rfl (by decide) lk_2 lk_3 sr_150 xg_141 (by decide +kernel) xb_141 dX5_cancel_14 dX5_cancel_17 dX5_cancel_18 dX5_cancel_20 dX5_cancel_23 (Nat.le_of_ble_eq_true rfl) (Nat.le_of_ble_eq_true rfl) (Nat.le_of_ble_eq_true rfl) (Nat.le_of_ble_eq_true rfl) (Nat.le_of_ble_eq_true rfl) (Nat.le_of_ble_eq_true rfl) rfl
def k_X5_ticks (cv : CV) (vn : Int32) : Option String × Int32 × CV := (if (k_X5_isTicks vn) = 0 then (some "java/lang/IllegalArgumentException", 0, cv) else (match (k_X1_play ((k_X0_remember cv).2.1 0) vn) with | (r_33, o_33) => (none, r_33, (c_o (k_X0_remember cv) 0 o_33))))
set_option maxHeartbeats 4000000 in
set_option maxRecDepth 100000 in
theorem c_X5_ticks (l : Launch) (hfl : l.stackTraces = false) (D : va_G) (cs : Nat → ClassId) (ca : Nat → Nat → Nat) (cv : CV) (vn : Int32) (hC : CO cv) : kX l yX5_ticks wsX5_ticks { frames := 6, cells := 1, slots := 6, locals := 152 } 1 6 D cs [.ref (ca 0 0), .int vn] (ca_W cs ca cv) (k_X5_ticks cv vn).1 (k_X5_ticks cv vn).2.1 (ca_W cs ca ((k_X5_ticks cv vn).2.2)) := by
  generalize hres : k_X5_ticks cv vn = res
  refine kX_of (cc := cX5_ticks) (maxL := 2) (ret := (some .int)) (by decide) rfl (Nat.le_of_ble_eq_true rfl) ?_
  intro p e s m below meth c A ls H locs hE hxt hS hP hD hl
  obtain ⟨hx, hb, hr, hlocks, hml, hown, hts, hK, hA, hG, hnm⟩ := id hE
  have hown : s.vm.findClass RX5 = some m.cls := hown
  have hl : lv_has ls 2 [(0, .ref (ca 0 0)), (1, .int vn)] := hl
  have hinX5 : ∀ w ∈ wsX50, w ∈ wsX5_ticks := by decide +kernel
  have lk_0 := hts (.fieldLink RX5 32 "OrganPegs" "history" "LOrganPegs$History;") (by decide +kernel)
  have lk_1 := hts (.fieldLink RX5 19 "OrganPegs" "organ" "LOrganPegs$Organ;") (by decide +kernel)
  have lk_2 := hts (.classLink RX5 43 "java/lang/IllegalArgumentException") (by decide +kernel)
  have lk_3 := hts (.initialized "java/lang/IllegalArgumentException") (by decide +kernel)
  unfold k_X5_ticks at hres
  refine lv_iload_n hx hb dX5_ticks_0 rfl (lv_at hl 1 rfl) ?_
  have hP : va_P D vwCl ([] ++ (ca_W cs ca cv)) H := hP
  have hD : va_D A ([] ++ (ca_W cs ca cv)) := hD
  have hc_1 := c_X5_isTicks l D cs vn
  refine kI_call (wc := []) (wr := (ca_W cs ca cv)) (w1 := []) (r := (k_X5_isTicks vn)) hE hP hD hS (k_rS (rest := []) (As := [.int vn]) hE rfl (hc_1 H.size) (va_cwS 1 hts gX5_ticks_X5_isTicks rfl rfl rfl (by decide +kernel) ⟨Nat.le_of_ble_eq_true rfl, Nat.le_of_ble_eq_true rfl⟩) hP hD hS rfl hl rfl (Nat.le_of_ble_eq_true rfl) ⟨Nat.le_of_ble_eq_true rfl, Nat.le_of_ble_eq_true rfl⟩ dX5_ticks_1) (fun H locs hP hD hS => ?_)
  have hP : va_P D vwCl (ca_W cs ca cv) H := hP
  have hD : va_D A (ca_W cs ca cv) := hD
  refine lv_if_ne (tgt := 17) hx hb dX5_ticks_4 (by decide) (fun c_4 => ?_) (fun c_4 => ?_)
  · skip
    have c_4 : ¬ ((k_X5_isTicks vn) = 0) := c_4
    rw [if_neg c_4] at hres
    refine lv_aload_n hx hb dX5_ticks_17 rfl (lv_at hl 0 rfl) ?_
    refine va_get (D := D) (ci := 5) (v := .ref (ca 2 0)) (C := RX5) (T := TX5) (N := 6) hx hb hts hinX5 hown hK hP 0 rfl rfl 4 (by decide) lk_0 (fun _ h9 => h9) rfl dX5_ticks_18 ?_
    refine lv_aload_n hx hb dX5_ticks_21 rfl (lv_at hl 0 rfl) ?_
    refine va_get (D := D) (ci := 5) (v := .ref (ca 10 0)) (C := RX5) (T := TX5) (N := 6) hx hb hts hinX5 hown hK hP 0 rfl rfl 1 (by decide) lk_1 (fun _ h9 => h9) rfl dX5_ticks_22 ?_
    have hP : va_P D vwCl ((ca_W cs ca cv) ++ []) H := k_nP hP
    have hD : va_D A ((ca_W cs ca cv) ++ []) := k_nD hD
    have hc_25 := c_X0_remember l D cs ca cv  (by assumption)
    refine kV_call (wc := (ca_W cs ca cv)) (wr := []) (w1 := fun _ => ca_W cs ca (k_X0_remember cv)) hE hP hD hS (k_rV (rest := []) (As := [.ref (ca 10 0)]) hE rfl (hc_25 H.size) (cwV 1 hts gX5_ticks_X0_remember rfl rfl rfl (by decide +kernel) ⟨Nat.le_of_ble_eq_true rfl, Nat.le_of_ble_eq_true rfl⟩) hP hD hS (ci := 0) (q0 := 3) rfl rfl rfl hl rfl (Nat.le_of_ble_eq_true rfl) ⟨Nat.le_of_ble_eq_true rfl, Nat.le_of_ble_eq_true rfl⟩ dX5_ticks_25) (fun _ H locs _ hP hD hS => ?_)
    have hP := k_uP hP
    have hD := k_uD hD
    have hP : va_P D vwCl (ca_W cs ca (k_X0_remember cv)) H := hP
    have hD : va_D A (ca_W cs ca (k_X0_remember cv)) := hD
    refine lv_aload_n hx hb dX5_ticks_28 rfl (lv_at hl 0 rfl) ?_
    refine va_get (D := D) (ci := 5) (v := .ref (ca 10 0)) (C := RX5) (T := TX5) (N := 6) hx hb hts hinX5 hown hK hP 0 rfl rfl 1 (by decide) lk_1 (fun _ h9 => h9) rfl dX5_ticks_29 ?_
    refine lv_iload_n hx hb dX5_ticks_32 rfl (lv_at hl 1 rfl) ?_
    have hP := pmP (ca_pm1 (cs := cs) (ca := ca) (cv := (k_X0_remember cv)) (k := 0) (by decide)) hP
    have hD := pmD (ca_pm1 (cs := cs) (ca := ca) (cv := (k_X0_remember cv)) (k := 0) (by decide)) hD
    have hc_33 := c_X1_play l D cs (ca 10) ((k_X0_remember cv).2.1 0) vn ((CO_rem hC).1 0 (by decide))
    obtain ⟨r_33, o_33, e_33⟩ : ∃ r9 o9, (k_X1_play ((k_X0_remember cv).2.1 0) vn) = (r9, o9) := ⟨_, _, rfl⟩
    rw [e_33] at hc_33 hres
    dsimp only at hc_33 hres
    refine kI_call (wc := (og_W cs (ca 10) ((k_X0_remember cv).2.1 0))) (wr := (ca_ro cs ca (k_X0_remember cv) 0)) (w1 := og_W cs (ca 10) o_33) (r := r_33) hE hP hD hS (k_rV (rest := []) (As := [.int vn]) hE rfl (hc_33 H.size) (cwV 1 hts gX5_ticks_X1_play rfl rfl rfl (by decide +kernel) ⟨Nat.le_of_ble_eq_true rfl, Nat.le_of_ble_eq_true rfl⟩) hP hD hS (ci := 1) (q0 := 0) rfl rfl rfl hl rfl (Nat.le_of_ble_eq_true rfl) ⟨Nat.le_of_ble_eq_true rfl, Nat.le_of_ble_eq_true rfl⟩ dX5_ticks_33) (fun H locs hP hD hS => ?_)
    have hP := pmP (ca_bk1 (cs := cs) (ca := ca) (cv := (k_X0_remember cv)) (k := 0) (by decide)) hP
    have hD := pmD (ca_bk1 (cs := cs) (ca := ca) (cv := (k_X0_remember cv)) (k := 0) (by decide)) hD
    have hP : va_P D vwCl (ca_W cs ca (c_o (k_X0_remember cv) 0 o_33)) H := hP
    have hD : va_D A (ca_W cs ca (c_o (k_X0_remember cv) 0 o_33)) := hD
    subst hres
    exact kX_ret hE hS hP hD rfl rfl rfl (Nat.le_of_ble_eq_true rfl) (Nat.le_of_ble_eq_true rfl) dX5_ticks_36
  · skip
    have c_4 : ((k_X5_isTicks vn) = 0) := c_4
    rw [if_pos c_4] at hres
    subst hres
    exact kX_throw hE hfl hxt hS hP hD hl rfl (by decide) lk_2 lk_3 sr_202 xg_47 (by decide +kernel) xb_47 dX5_ticks_7 dX5_ticks_10 dX5_ticks_11 dX5_ticks_13 dX5_ticks_16 (Nat.le_of_ble_eq_true rfl) (Nat.le_of_ble_eq_true rfl) (Nat.le_of_ble_eq_true rfl) (Nat.le_of_ble_eq_true rfl) (Nat.le_of_ble_eq_true rfl) (Nat.le_of_ble_eq_true rfl) rfl
def k_X5_set (cv : CV) (vw : Int32) (vv : Int32) : Option String × Int32 × CV := (if (k_X5_isSettingValue vw vv) = 0 then (some "java/lang/IllegalArgumentException", 0, cv) else (match (k_X1_change ((k_X0_remember cv).2.1 0) vw vv) with | (r_35, o_35) => (none, r_35, (c_o (k_X0_remember cv) 0 o_35))))
set_option maxHeartbeats 4000000 in
set_option maxRecDepth 100000 in
theorem c_X5_set (l : Launch) (hfl : l.stackTraces = false) (D : va_G) (cs : Nat → ClassId) (ca : Nat → Nat → Nat) (cv : CV) (vw : Int32) (vv : Int32) (hC : CO cv) : kX l yX5_set wsX5_set { frames := 6, cells := 1, slots := 6, locals := 144 } 1 6 D cs [.ref (ca 0 0), .int vw, .int vv] (ca_W cs ca cv) (k_X5_set cv vw vv).1 (k_X5_set cv vw vv).2.1 (ca_W cs ca ((k_X5_set cv vw vv).2.2)) := by
  generalize hres : k_X5_set cv vw vv = res
  refine kX_of (cc := cX5_set) (maxL := 3) (ret := (some .int)) (by decide) rfl (Nat.le_of_ble_eq_true rfl) ?_
  intro p e s m below meth c A ls H locs hE hxt hS hP hD hl
  obtain ⟨hx, hb, hr, hlocks, hml, hown, hts, hK, hA, hG, hnm⟩ := id hE
  have hown : s.vm.findClass RX5 = some m.cls := hown
  have hl : lv_has ls 3 [(0, .ref (ca 0 0)), (1, .int vw), (2, .int vv)] := hl
  have hinX5 : ∀ w ∈ wsX50, w ∈ wsX5_set := by decide +kernel
  have lk_0 := hts (.fieldLink RX5 32 "OrganPegs" "history" "LOrganPegs$History;") (by decide +kernel)
  have lk_1 := hts (.fieldLink RX5 19 "OrganPegs" "organ" "LOrganPegs$Organ;") (by decide +kernel)
  have lk_2 := hts (.classLink RX5 43 "java/lang/IllegalArgumentException") (by decide +kernel)
  have lk_3 := hts (.initialized "java/lang/IllegalArgumentException") (by decide +kernel)
  unfold k_X5_set at hres
  refine lv_iload_n hx hb dX5_set_0 rfl (lv_at hl 1 rfl) ?_
  refine lv_iload_n hx hb dX5_set_1 rfl (lv_at hl 2 rfl) ?_
  have hP : va_P D vwCl ([] ++ (ca_W cs ca cv)) H := hP
  have hD : va_D A ([] ++ (ca_W cs ca cv)) := hD
  have hc_2 := c_X5_isSettingValue l D cs vw vv
  refine kI_call (wc := []) (wr := (ca_W cs ca cv)) (w1 := []) (r := (k_X5_isSettingValue vw vv)) hE hP hD hS (k_rS (rest := []) (As := [.int vw, .int vv]) hE rfl (hc_2 H.size) (va_cwS 2 hts gX5_set_X5_isSettingValue rfl rfl rfl (by decide +kernel) ⟨Nat.le_of_ble_eq_true rfl, Nat.le_of_ble_eq_true rfl⟩) hP hD hS rfl hl rfl (Nat.le_of_ble_eq_true rfl) ⟨Nat.le_of_ble_eq_true rfl, Nat.le_of_ble_eq_true rfl⟩ dX5_set_2) (fun H locs hP hD hS => ?_)
  have hP : va_P D vwCl (ca_W cs ca cv) H := hP
  have hD : va_D A (ca_W cs ca cv) := hD
  refine lv_if_ne (tgt := 18) hx hb dX5_set_5 (by decide) (fun c_5 => ?_) (fun c_5 => ?_)
  · skip
    have c_5 : ¬ ((k_X5_isSettingValue vw vv) = 0) := c_5
    rw [if_neg c_5] at hres
    refine lv_aload_n hx hb dX5_set_18 rfl (lv_at hl 0 rfl) ?_
    refine va_get (D := D) (ci := 5) (v := .ref (ca 2 0)) (C := RX5) (T := TX5) (N := 6) hx hb hts hinX5 hown hK hP 0 rfl rfl 4 (by decide) lk_0 (fun _ h9 => h9) rfl dX5_set_19 ?_
    refine lv_aload_n hx hb dX5_set_22 rfl (lv_at hl 0 rfl) ?_
    refine va_get (D := D) (ci := 5) (v := .ref (ca 10 0)) (C := RX5) (T := TX5) (N := 6) hx hb hts hinX5 hown hK hP 0 rfl rfl 1 (by decide) lk_1 (fun _ h9 => h9) rfl dX5_set_23 ?_
    have hP : va_P D vwCl ((ca_W cs ca cv) ++ []) H := k_nP hP
    have hD : va_D A ((ca_W cs ca cv) ++ []) := k_nD hD
    have hc_26 := c_X0_remember l D cs ca cv  (by assumption)
    refine kV_call (wc := (ca_W cs ca cv)) (wr := []) (w1 := fun _ => ca_W cs ca (k_X0_remember cv)) hE hP hD hS (k_rV (rest := []) (As := [.ref (ca 10 0)]) hE rfl (hc_26 H.size) (cwV 1 hts gX5_set_X0_remember rfl rfl rfl (by decide +kernel) ⟨Nat.le_of_ble_eq_true rfl, Nat.le_of_ble_eq_true rfl⟩) hP hD hS (ci := 0) (q0 := 3) rfl rfl rfl hl rfl (Nat.le_of_ble_eq_true rfl) ⟨Nat.le_of_ble_eq_true rfl, Nat.le_of_ble_eq_true rfl⟩ dX5_set_26) (fun _ H locs _ hP hD hS => ?_)
    have hP := k_uP hP
    have hD := k_uD hD
    have hP : va_P D vwCl (ca_W cs ca (k_X0_remember cv)) H := hP
    have hD : va_D A (ca_W cs ca (k_X0_remember cv)) := hD
    refine lv_aload_n hx hb dX5_set_29 rfl (lv_at hl 0 rfl) ?_
    refine va_get (D := D) (ci := 5) (v := .ref (ca 10 0)) (C := RX5) (T := TX5) (N := 6) hx hb hts hinX5 hown hK hP 0 rfl rfl 1 (by decide) lk_1 (fun _ h9 => h9) rfl dX5_set_30 ?_
    refine lv_iload_n hx hb dX5_set_33 rfl (lv_at hl 1 rfl) ?_
    refine lv_iload_n hx hb dX5_set_34 rfl (lv_at hl 2 rfl) ?_
    have hP := pmP (ca_pm1 (cs := cs) (ca := ca) (cv := (k_X0_remember cv)) (k := 0) (by decide)) hP
    have hD := pmD (ca_pm1 (cs := cs) (ca := ca) (cv := (k_X0_remember cv)) (k := 0) (by decide)) hD
    have hc_35 := c_X1_change l D cs (ca 10) ((k_X0_remember cv).2.1 0) vw vv
    obtain ⟨r_35, o_35, e_35⟩ : ∃ r9 o9, (k_X1_change ((k_X0_remember cv).2.1 0) vw vv) = (r9, o9) := ⟨_, _, rfl⟩
    rw [e_35] at hc_35 hres
    dsimp only at hc_35 hres
    refine kI_call (wc := (og_W cs (ca 10) ((k_X0_remember cv).2.1 0))) (wr := (ca_ro cs ca (k_X0_remember cv) 0)) (w1 := og_W cs (ca 10) o_35) (r := r_35) hE hP hD hS (k_rV (rest := []) (As := [.int vw, .int vv]) hE rfl (hc_35 H.size) (cwV 2 hts gX5_set_X1_change rfl rfl rfl (by decide +kernel) ⟨Nat.le_of_ble_eq_true rfl, Nat.le_of_ble_eq_true rfl⟩) hP hD hS (ci := 1) (q0 := 0) rfl rfl rfl hl rfl (Nat.le_of_ble_eq_true rfl) ⟨Nat.le_of_ble_eq_true rfl, Nat.le_of_ble_eq_true rfl⟩ dX5_set_35) (fun H locs hP hD hS => ?_)
    have hP := pmP (ca_bk1 (cs := cs) (ca := ca) (cv := (k_X0_remember cv)) (k := 0) (by decide)) hP
    have hD := pmD (ca_bk1 (cs := cs) (ca := ca) (cv := (k_X0_remember cv)) (k := 0) (by decide)) hD
    have hP : va_P D vwCl (ca_W cs ca (c_o (k_X0_remember cv) 0 o_35)) H := hP
    have hD : va_D A (ca_W cs ca (c_o (k_X0_remember cv) 0 o_35)) := hD
    subst hres
    exact kX_ret hE hS hP hD rfl rfl rfl (Nat.le_of_ble_eq_true rfl) (Nat.le_of_ble_eq_true rfl) dX5_set_38
  · skip
    have c_5 : ((k_X5_isSettingValue vw vv) = 0) := c_5
    rw [if_pos c_5] at hres
    subst hres
    exact kX_throw hE hfl hxt hS hP hD hl rfl (by decide) lk_2 lk_3 sr_208 xg_47 (by decide +kernel) xb_47 dX5_set_8 dX5_set_11 dX5_set_12 dX5_set_14 dX5_set_17 (Nat.le_of_ble_eq_true rfl) (Nat.le_of_ble_eq_true rfl) (Nat.le_of_ble_eq_true rfl) (Nat.le_of_ble_eq_true rfl) (Nat.le_of_ble_eq_true rfl) (Nat.le_of_ble_eq_true rfl) rfl
def k_X5_undo (cv : CV) : Option String × Int32 × CV := (if (k_X0_isEmpty cv) = 0 then (match (k_X0_bringBack cv) with | (r_28, o_28) => (none, r_28, o_28)) else (some "java/lang/IllegalStateException", 0, cv))
set_option maxHeartbeats 4000000 in
set_option maxRecDepth 100000 in
theorem c_X5_undo (l : Launch) (hfl : l.stackTraces = false) (D : va_G) (cs : Nat → ClassId) (ca : Nat → Nat → Nat) (cv : CV) (hC : CO cv) : kX l yX5_undo wsX5_undo { frames := 6, cells := 1, slots := 6, locals := 144 } 1 6 D cs [.ref (ca 0 0)] (ca_W cs ca cv) (k_X5_undo cv).1 (k_X5_undo cv).2.1 (ca_W cs ca ((k_X5_undo cv).2.2)) := by
  generalize hres : k_X5_undo cv = res
  refine kX_of (cc := cX5_undo) (maxL := 1) (ret := (some .int)) (by decide) rfl (Nat.le_of_ble_eq_true rfl) ?_
  intro p e s m below meth c A ls H locs hE hxt hS hP hD hl
  obtain ⟨hx, hb, hr, hlocks, hml, hown, hts, hK, hA, hG, hnm⟩ := id hE
  have hown : s.vm.findClass RX5 = some m.cls := hown
  have hl : lv_has ls 1 [(0, .ref (ca 0 0))] := hl
  have hinX5 : ∀ w ∈ wsX50, w ∈ wsX5_undo := by decide +kernel
  have lk_0 := hts (.fieldLink RX5 32 "OrganPegs" "history" "LOrganPegs$History;") (by decide +kernel)
  have lk_1 := hts (.fieldLink RX5 19 "OrganPegs" "organ" "LOrganPegs$Organ;") (by decide +kernel)
  have lk_2 := hts (.classLink RX5 54 "java/lang/IllegalStateException") (by decide +kernel)
  have lk_3 := hts (.initialized "java/lang/IllegalStateException") (by decide +kernel)
  unfold k_X5_undo at hres
  refine lv_aload_n hx hb dX5_undo_0 rfl (lv_at hl 0 rfl) ?_
  refine va_get (D := D) (ci := 5) (v := .ref (ca 2 0)) (C := RX5) (T := TX5) (N := 6) hx hb hts hinX5 hown hK hP 0 rfl rfl 4 (by decide) lk_0 (fun _ h9 => h9) rfl dX5_undo_1 ?_
  have hP : va_P D vwCl ((ca_W cs ca cv) ++ []) H := k_nP hP
  have hD : va_D A ((ca_W cs ca cv) ++ []) := k_nD hD
  have hc_4 := c_X0_isEmpty l D cs ca cv  (by assumption)
  refine kI_call (wc := (ca_W cs ca cv)) (wr := []) (w1 := ca_W cs ca cv) (r := (k_X0_isEmpty cv)) hE hP hD hS (k_rV (rest := []) (As := []) hE rfl (hc_4 H.size) (cwV 0 hts gX5_undo_X0_isEmpty rfl rfl rfl (by decide +kernel) ⟨Nat.le_of_ble_eq_true rfl, Nat.le_of_ble_eq_true rfl⟩) hP hD hS (ci := 0) (q0 := 3) rfl rfl rfl hl rfl (Nat.le_of_ble_eq_true rfl) ⟨Nat.le_of_ble_eq_true rfl, Nat.le_of_ble_eq_true rfl⟩ dX5_undo_4) (fun H locs hP hD hS => ?_)
  have hP := k_uP hP
  have hD := k_uD hD
  have hP : va_P D vwCl (ca_W cs ca cv) H := hP
  have hD : va_D A (ca_W cs ca cv) := hD
  refine lv_if_eq (tgt := 20) hx hb dX5_undo_7 (by decide) (fun c_7 => ?_) (fun c_7 => ?_)
  · skip
    have c_7 : ((k_X0_isEmpty cv) = 0) := c_7
    rw [if_pos c_7] at hres
    refine lv_aload_n hx hb dX5_undo_20 rfl (lv_at hl 0 rfl) ?_
    refine va_get (D := D) (ci := 5) (v := .ref (ca 2 0)) (C := RX5) (T := TX5) (N := 6) hx hb hts hinX5 hown hK hP 0 rfl rfl 4 (by decide) lk_0 (fun _ h9 => h9) rfl dX5_undo_21 ?_
    refine lv_aload_n hx hb dX5_undo_24 rfl (lv_at hl 0 rfl) ?_
    refine va_get (D := D) (ci := 5) (v := .ref (ca 10 0)) (C := RX5) (T := TX5) (N := 6) hx hb hts hinX5 hown hK hP 0 rfl rfl 1 (by decide) lk_1 (fun _ h9 => h9) rfl dX5_undo_25 ?_
    have hP : va_P D vwCl ((ca_W cs ca cv) ++ []) H := k_nP hP
    have hD : va_D A ((ca_W cs ca cv) ++ []) := k_nD hD
    have hc_28 := c_X0_bringBack l D cs ca cv  (by assumption)
    obtain ⟨r_28, o_28, e_28⟩ : ∃ r9 o9, (k_X0_bringBack cv) = (r9, o9) := ⟨_, _, rfl⟩
    rw [e_28] at hc_28 hres
    dsimp only at hc_28 hres
    refine kI_call (wc := (ca_W cs ca cv)) (wr := []) (w1 := ca_W cs ca o_28) (r := r_28) hE hP hD hS (k_rV (rest := []) (As := [.ref (ca 10 0)]) hE rfl (hc_28 H.size) (cwV 1 hts gX5_undo_X0_bringBack rfl rfl rfl (by decide +kernel) ⟨Nat.le_of_ble_eq_true rfl, Nat.le_of_ble_eq_true rfl⟩) hP hD hS (ci := 0) (q0 := 3) rfl rfl rfl hl rfl (Nat.le_of_ble_eq_true rfl) ⟨Nat.le_of_ble_eq_true rfl, Nat.le_of_ble_eq_true rfl⟩ dX5_undo_28) (fun H locs hP hD hS => ?_)
    have hP := k_uP hP
    have hD := k_uD hD
    have hP : va_P D vwCl (ca_W cs ca o_28) H := hP
    have hD : va_D A (ca_W cs ca o_28) := hD
    subst hres
    exact kX_ret hE hS hP hD rfl rfl rfl (Nat.le_of_ble_eq_true rfl) (Nat.le_of_ble_eq_true rfl) dX5_undo_31
  · skip
    have c_7 : ¬ ((k_X0_isEmpty cv) = 0) := c_7
    rw [if_neg c_7] at hres
    subst hres
    exact kX_throw hE hfl hxt hS hP hD hl rfl (by decide) lk_2 lk_3 sr_213 xg_58 (by decide +kernel) xb_58 dX5_undo_10 dX5_undo_13 dX5_undo_14 dX5_undo_16 dX5_undo_19 (Nat.le_of_ble_eq_true rfl) (Nat.le_of_ble_eq_true rfl) (Nat.le_of_ble_eq_true rfl) (Nat.le_of_ble_eq_true rfl) (Nat.le_of_ble_eq_true rfl) (Nat.le_of_ble_eq_true rfl) rfl
def k_X5_save (cv : CV) (vs : Int32) : Option String × Int32 × CV := (if (k_X3_has cv vs) = 0 then (some "java/lang/IndexOutOfBoundsException", 0, cv) else (none, (((k_X3_store cv vs).2.1 0).1 3), (k_X3_store cv vs)))
set_option maxHeartbeats 4000000 in
set_option maxRecDepth 100000 in
theorem c_X5_save (l : Launch) (hfl : l.stackTraces = false) (D : va_G) (cs : Nat → ClassId) (ca : Nat → Nat → Nat) (cv : CV) (vs : Int32) (hC : CO cv) : kX l yX5_save wsX5_save { frames := 6, cells := 1, slots := 6, locals := 145 } 1 6 D cs [.ref (ca 0 0), .int vs] (ca_W cs ca cv) (k_X5_save cv vs).1 (k_X5_save cv vs).2.1 (ca_W cs ca ((k_X5_save cv vs).2.2)) := by
  generalize hres : k_X5_save cv vs = res
  refine kX_of (cc := cX5_save) (maxL := 2) (ret := (some .int)) (by decide) rfl (Nat.le_of_ble_eq_true rfl) ?_
  intro p e s m below meth c A ls H locs hE hxt hS hP hD hl
  obtain ⟨hx, hb, hr, hlocks, hml, hown, hts, hK, hA, hG, hnm⟩ := id hE
  have hown : s.vm.findClass RX5 = some m.cls := hown
  have hl : lv_has ls 2 [(0, .ref (ca 0 0)), (1, .int vs)] := hl
  have hinX1 : ∀ w ∈ wsX10, w ∈ wsX5_save := by decide +kernel
  have hinX5 : ∀ w ∈ wsX50, w ∈ wsX5_save := by decide +kernel
  have lk_0 := hts (.fieldLink RX5 39 "OrganPegs" "slots" "LOrganPegs$Slots;") (by decide +kernel)
  have lk_1 := hts (.fieldLink RX5 19 "OrganPegs" "organ" "LOrganPegs$Organ;") (by decide +kernel)
  have lk_2 := hts (.classLink RX5 137 "java/lang/IndexOutOfBoundsException") (by decide +kernel)
  have lk_3 := hts (.initialized "java/lang/IndexOutOfBoundsException") (by decide +kernel)
  unfold k_X5_save at hres
  refine lv_aload_n hx hb dX5_save_0 rfl (lv_at hl 0 rfl) ?_
  refine va_get (D := D) (ci := 5) (v := .ref (ca 3 0)) (C := RX5) (T := TX5) (N := 6) hx hb hts hinX5 hown hK hP 0 rfl rfl 5 (by decide) lk_0 (fun _ h9 => h9) rfl dX5_save_1 ?_
  refine lv_iload_n hx hb dX5_save_4 rfl (lv_at hl 1 rfl) ?_
  have hP : va_P D vwCl ((ca_W cs ca cv) ++ []) H := k_nP hP
  have hD : va_D A ((ca_W cs ca cv) ++ []) := k_nD hD
  have hc_5 := c_X3_has l D cs ca cv vs (by assumption)
  refine kI_call (wc := (ca_W cs ca cv)) (wr := []) (w1 := ca_W cs ca cv) (r := (k_X3_has cv vs)) hE hP hD hS (k_rV (rest := []) (As := [.int vs]) hE rfl (hc_5 H.size) (cwV 1 hts gX5_save_X3_has rfl rfl rfl (by decide +kernel) ⟨Nat.le_of_ble_eq_true rfl, Nat.le_of_ble_eq_true rfl⟩) hP hD hS (ci := 3) (q0 := 5) rfl rfl rfl hl rfl (Nat.le_of_ble_eq_true rfl) ⟨Nat.le_of_ble_eq_true rfl, Nat.le_of_ble_eq_true rfl⟩ dX5_save_5) (fun H locs hP hD hS => ?_)
  have hP := k_uP hP
  have hD := k_uD hD
  have hP : va_P D vwCl (ca_W cs ca cv) H := hP
  have hD : va_D A (ca_W cs ca cv) := hD
  refine lv_if_ne (tgt := 22) hx hb dX5_save_8 (by decide) (fun c_8 => ?_) (fun c_8 => ?_)
  · skip
    have c_8 : ¬ ((k_X3_has cv vs) = 0) := c_8
    rw [if_neg c_8] at hres
    refine lv_aload_n hx hb dX5_save_22 rfl (lv_at hl 0 rfl) ?_
    refine va_get (D := D) (ci := 5) (v := .ref (ca 3 0)) (C := RX5) (T := TX5) (N := 6) hx hb hts hinX5 hown hK hP 0 rfl rfl 5 (by decide) lk_0 (fun _ h9 => h9) rfl dX5_save_23 ?_
    refine lv_iload_n hx hb dX5_save_26 rfl (lv_at hl 1 rfl) ?_
    refine lv_aload_n hx hb dX5_save_27 rfl (lv_at hl 0 rfl) ?_
    refine va_get (D := D) (ci := 5) (v := .ref (ca 10 0)) (C := RX5) (T := TX5) (N := 6) hx hb hts hinX5 hown hK hP 0 rfl rfl 1 (by decide) lk_1 (fun _ h9 => h9) rfl dX5_save_28 ?_
    have hP : va_P D vwCl ((ca_W cs ca cv) ++ []) H := k_nP hP
    have hD : va_D A ((ca_W cs ca cv) ++ []) := k_nD hD
    have hc_31 := c_X3_store l D cs ca cv vs (by assumption)
    refine kV_call (wc := (ca_W cs ca cv)) (wr := []) (w1 := fun _ => ca_W cs ca (k_X3_store cv vs)) hE hP hD hS (k_rV (rest := []) (As := [.int vs, .ref (ca 10 0)]) hE rfl (hc_31 H.size) (cwV 2 hts gX5_save_X3_store rfl rfl rfl (by decide +kernel) ⟨Nat.le_of_ble_eq_true rfl, Nat.le_of_ble_eq_true rfl⟩) hP hD hS (ci := 3) (q0 := 5) rfl rfl rfl hl rfl (Nat.le_of_ble_eq_true rfl) ⟨Nat.le_of_ble_eq_true rfl, Nat.le_of_ble_eq_true rfl⟩ dX5_save_31) (fun _ H locs _ hP hD hS => ?_)
    have hP := k_uP hP
    have hD := k_uD hD
    have hP : va_P D vwCl (ca_W cs ca (k_X3_store cv vs)) H := hP
    have hD : va_D A (ca_W cs ca (k_X3_store cv vs)) := hD
    refine lv_aload_n hx hb dX5_save_34 rfl (lv_at hl 0 rfl) ?_
    refine va_get (D := D) (ci := 5) (v := .ref (ca 10 0)) (C := RX5) (T := TX5) (N := 6) hx hb hts hinX5 hown hK hP 0 rfl rfl 1 (by decide) lk_1 (fun _ h9 => h9) rfl dX5_save_35 ?_
    refine va_getN (D := D) (ci := 1) (v := .int (((k_X3_store cv vs).2.1 0).1 3)) (C := RX1) (T := TX1) (N := 17) hx hb hts hinX1 hown hK (k_left (pmP (ca_pm1 (k := 0) (by decide)) hP)) 0 rfl rfl 9 (by decide) (va_Nw.use rfl (hG.1.1 _ _ _ _ _ _ nf_X5_259)) (fun _ h9 => h9) rfl dX5_save_38 ?_
    subst hres
    exact kX_ret hE hS hP hD rfl rfl rfl (Nat.le_of_ble_eq_true rfl) (Nat.le_of_ble_eq_true rfl) dX5_save_41
  · skip
    have c_8 : ((k_X3_has cv vs) = 0) := c_8
    rw [if_pos c_8] at hres
    subst hres
    exact kX_throwW hE hfl hxt hS hP hD hl rfl (by decide) lk_2 lk_3 sr_279 xg_141 (by decide +kernel) xb_141 dX5_save_11 dX5_save_14 dX5_save_15 dX5_save_18 dX5_save_21 (Nat.le_of_ble_eq_true rfl) (Nat.le_of_ble_eq_true rfl) (Nat.le_of_ble_eq_true rfl) (Nat.le_of_ble_eq_true rfl) (Nat.le_of_ble_eq_true rfl) (Nat.le_of_ble_eq_true rfl) rfl
theorem CO_fet {cv : CV} {vs : Int32} (h : CO cv) : CO (k_X3_fetch cv vs) := by
  unfold k_X3_fetch
  split
  · exact h
  · rename_i c
    exact CO_o h (OI_copy (h.1 _ (k_2 (sl_b c))))
def k_X5_restore (cv : CV) (vs : Int32) : Option String × Int32 × CV := (if (k_X3_has cv vs) = 0 then (some "java/lang/IndexOutOfBoundsException", 0, cv) else (if (k_X3_isStored cv vs) = 0 then (some "java/lang/IllegalStateException", 0, cv) else (none, (((k_X0_forget (k_X3_fetch cv vs)).2.1 0).1 3), (k_X0_forget (k_X3_fetch cv vs)))))
set_option maxHeartbeats 4000000 in
set_option maxRecDepth 100000 in
theorem c_X5_restore (l : Launch) (hfl : l.stackTraces = false) (D : va_G) (cs : Nat → ClassId) (ca : Nat → Nat → Nat) (cv : CV) (vs : Int32) (hC : CO cv) : kX l yX5_restore wsX5_restore { frames := 6, cells := 1, slots := 6, locals := 145 } 1 6 D cs [.ref (ca 0 0), .int vs] (ca_W cs ca cv) (k_X5_restore cv vs).1 (k_X5_restore cv vs).2.1 (ca_W cs ca ((k_X5_restore cv vs).2.2)) := by
  generalize hres : k_X5_restore cv vs = res
  refine kX_of (cc := cX5_restore) (maxL := 2) (ret := (some .int)) (by decide) rfl (Nat.le_of_ble_eq_true rfl) ?_
  intro p e s m below meth c A ls H locs hE hxt hS hP hD hl
  obtain ⟨hx, hb, hr, hlocks, hml, hown, hts, hK, hA, hG, hnm⟩ := id hE
  have hown : s.vm.findClass RX5 = some m.cls := hown
  have hl : lv_has ls 2 [(0, .ref (ca 0 0)), (1, .int vs)] := hl
  have hinX1 : ∀ w ∈ wsX10, w ∈ wsX5_restore := by decide +kernel
  have hinX5 : ∀ w ∈ wsX50, w ∈ wsX5_restore := by decide +kernel
  have lk_0 := hts (.fieldLink RX5 39 "OrganPegs" "slots" "LOrganPegs$Slots;") (by decide +kernel)
  have lk_1 := hts (.fieldLink RX5 19 "OrganPegs" "organ" "LOrganPegs$Organ;") (by decide +kernel)
  have lk_2 := hts (.fieldLink RX5 32 "OrganPegs" "history" "LOrganPegs$History;") (by decide +kernel)
  have lk_3 := hts (.classLink RX5 54 "java/lang/IllegalStateException") (by decide +kernel)
  have lk_4 := hts (.initialized "java/lang/IllegalStateException") (by decide +kernel)
  have lk_5 := hts (.classLink RX5 137 "java/lang/IndexOutOfBoundsException") (by decide +kernel)
  have lk_6 := hts (.initialized "java/lang/IndexOutOfBoundsException") (by decide +kernel)
  unfold k_X5_restore at hres
  refine lv_aload_n hx hb dX5_restore_0 rfl (lv_at hl 0 rfl) ?_
  refine va_get (D := D) (ci := 5) (v := .ref (ca 3 0)) (C := RX5) (T := TX5) (N := 6) hx hb hts hinX5 hown hK hP 0 rfl rfl 5 (by decide) lk_0 (fun _ h9 => h9) rfl dX5_restore_1 ?_
  refine lv_iload_n hx hb dX5_restore_4 rfl (lv_at hl 1 rfl) ?_
  have hP : va_P D vwCl ((ca_W cs ca cv) ++ []) H := k_nP hP
  have hD : va_D A ((ca_W cs ca cv) ++ []) := k_nD hD
  have hc_5 := c_X3_has l D cs ca cv vs (by assumption)
  refine kI_call (wc := (ca_W cs ca cv)) (wr := []) (w1 := ca_W cs ca cv) (r := (k_X3_has cv vs)) hE hP hD hS (k_rV (rest := []) (As := [.int vs]) hE rfl (hc_5 H.size) (cwV 1 hts gX5_restore_X3_has rfl rfl rfl (by decide +kernel) ⟨Nat.le_of_ble_eq_true rfl, Nat.le_of_ble_eq_true rfl⟩) hP hD hS (ci := 3) (q0 := 5) rfl rfl rfl hl rfl (Nat.le_of_ble_eq_true rfl) ⟨Nat.le_of_ble_eq_true rfl, Nat.le_of_ble_eq_true rfl⟩ dX5_restore_5) (fun H locs hP hD hS => ?_)
  have hP := k_uP hP
  have hD := k_uD hD
  have hP : va_P D vwCl (ca_W cs ca cv) H := hP
  have hD : va_D A (ca_W cs ca cv) := hD
  refine lv_if_ne (tgt := 22) hx hb dX5_restore_8 (by decide) (fun c_8 => ?_) (fun c_8 => ?_)
  · skip
    have c_8 : ¬ ((k_X3_has cv vs) = 0) := c_8
    rw [if_neg c_8] at hres
    refine lv_aload_n hx hb dX5_restore_22 rfl (lv_at hl 0 rfl) ?_
    refine va_get (D := D) (ci := 5) (v := .ref (ca 3 0)) (C := RX5) (T := TX5) (N := 6) hx hb hts hinX5 hown hK hP 0 rfl rfl 5 (by decide) lk_0 (fun _ h9 => h9) rfl dX5_restore_23 ?_
    refine lv_iload_n hx hb dX5_restore_26 rfl (lv_at hl 1 rfl) ?_
    have hP : va_P D vwCl ((ca_W cs ca cv) ++ []) H := k_nP hP
    have hD : va_D A ((ca_W cs ca cv) ++ []) := k_nD hD
    have hc_27 := c_X3_isStored l D cs ca cv vs (by assumption)
    refine kI_call (wc := (ca_W cs ca cv)) (wr := []) (w1 := ca_W cs ca cv) (r := (k_X3_isStored cv vs)) hE hP hD hS (k_rV (rest := []) (As := [.int vs]) hE rfl (hc_27 H.size) (cwV 1 hts gX5_restore_X3_isStored rfl rfl rfl (by decide +kernel) ⟨Nat.le_of_ble_eq_true rfl, Nat.le_of_ble_eq_true rfl⟩) hP hD hS (ci := 3) (q0 := 5) rfl rfl rfl hl rfl (Nat.le_of_ble_eq_true rfl) ⟨Nat.le_of_ble_eq_true rfl, Nat.le_of_ble_eq_true rfl⟩ dX5_restore_27) (fun H locs hP hD hS => ?_)
    have hP := k_uP hP
    have hD := k_uD hD
    have hP : va_P D vwCl (ca_W cs ca cv) H := hP
    have hD : va_D A (ca_W cs ca cv) := hD
    refine lv_if_ne (tgt := 44) hx hb dX5_restore_30 (by decide) (fun c_30 => ?_) (fun c_30 => ?_)
    · skip
      have c_30 : ¬ ((k_X3_isStored cv vs) = 0) := c_30
      rw [if_neg c_30] at hres
      refine lv_aload_n hx hb dX5_restore_44 rfl (lv_at hl 0 rfl) ?_
      refine va_get (D := D) (ci := 5) (v := .ref (ca 3 0)) (C := RX5) (T := TX5) (N := 6) hx hb hts hinX5 hown hK hP 0 rfl rfl 5 (by decide) lk_0 (fun _ h9 => h9) rfl dX5_restore_45 ?_
      refine lv_iload_n hx hb dX5_restore_48 rfl (lv_at hl 1 rfl) ?_
      refine lv_aload_n hx hb dX5_restore_49 rfl (lv_at hl 0 rfl) ?_
      refine va_get (D := D) (ci := 5) (v := .ref (ca 10 0)) (C := RX5) (T := TX5) (N := 6) hx hb hts hinX5 hown hK hP 0 rfl rfl 1 (by decide) lk_1 (fun _ h9 => h9) rfl dX5_restore_50 ?_
      have hP : va_P D vwCl ((ca_W cs ca cv) ++ []) H := k_nP hP
      have hD : va_D A ((ca_W cs ca cv) ++ []) := k_nD hD
      have hc_53 := c_X3_fetch l D cs ca cv vs (by assumption)
      refine kV_call (wc := (ca_W cs ca cv)) (wr := []) (w1 := fun _ => ca_W cs ca (k_X3_fetch cv vs)) hE hP hD hS (k_rV (rest := []) (As := [.int vs, .ref (ca 10 0)]) hE rfl (hc_53 H.size) (cwV 2 hts gX5_restore_X3_fetch rfl rfl rfl (by decide +kernel) ⟨Nat.le_of_ble_eq_true rfl, Nat.le_of_ble_eq_true rfl⟩) hP hD hS (ci := 3) (q0 := 5) rfl rfl rfl hl rfl (Nat.le_of_ble_eq_true rfl) ⟨Nat.le_of_ble_eq_true rfl, Nat.le_of_ble_eq_true rfl⟩ dX5_restore_53) (fun _ H locs _ hP hD hS => ?_)
      have hP := k_uP hP
      have hD := k_uD hD
      have hP : va_P D vwCl (ca_W cs ca (k_X3_fetch cv vs)) H := hP
      have hD : va_D A (ca_W cs ca (k_X3_fetch cv vs)) := hD
      refine lv_aload_n hx hb dX5_restore_56 rfl (lv_at hl 0 rfl) ?_
      refine va_get (D := D) (ci := 5) (v := .ref (ca 2 0)) (C := RX5) (T := TX5) (N := 6) hx hb hts hinX5 hown hK hP 0 rfl rfl 4 (by decide) lk_2 (fun _ h9 => h9) rfl dX5_restore_57 ?_
      have hP : va_P D vwCl ((ca_W cs ca (k_X3_fetch cv vs)) ++ []) H := k_nP hP
      have hD : va_D A ((ca_W cs ca (k_X3_fetch cv vs)) ++ []) := k_nD hD
      have hc_60 := c_X0_forget l D cs ca (k_X3_fetch cv vs)  (CO_fet hC)
      refine kV_call (wc := (ca_W cs ca (k_X3_fetch cv vs))) (wr := []) (w1 := fun _ => ca_W cs ca (k_X0_forget (k_X3_fetch cv vs))) hE hP hD hS (k_rV (rest := []) (As := []) hE rfl (hc_60 H.size) (cwV 0 hts gX5_restore_X0_forget rfl rfl rfl (by decide +kernel) ⟨Nat.le_of_ble_eq_true rfl, Nat.le_of_ble_eq_true rfl⟩) hP hD hS (ci := 0) (q0 := 3) rfl rfl rfl hl rfl (Nat.le_of_ble_eq_true rfl) ⟨Nat.le_of_ble_eq_true rfl, Nat.le_of_ble_eq_true rfl⟩ dX5_restore_60) (fun _ H locs _ hP hD hS => ?_)
      have hP := k_uP hP
      have hD := k_uD hD
      have hP : va_P D vwCl (ca_W cs ca (k_X0_forget (k_X3_fetch cv vs))) H := hP
      have hD : va_D A (ca_W cs ca (k_X0_forget (k_X3_fetch cv vs))) := hD
      refine lv_aload_n hx hb dX5_restore_63 rfl (lv_at hl 0 rfl) ?_
      refine va_get (D := D) (ci := 5) (v := .ref (ca 10 0)) (C := RX5) (T := TX5) (N := 6) hx hb hts hinX5 hown hK hP 0 rfl rfl 1 (by decide) lk_1 (fun _ h9 => h9) rfl dX5_restore_64 ?_
      refine va_getN (D := D) (ci := 1) (v := .int (((k_X0_forget (k_X3_fetch cv vs)).2.1 0).1 3)) (C := RX1) (T := TX1) (N := 17) hx hb hts hinX1 hown hK (k_left (pmP (ca_pm1 (k := 0) (by decide)) hP)) 0 rfl rfl 9 (by decide) (va_Nw.use rfl (hG.1.1 _ _ _ _ _ _ nf_X5_259)) (fun _ h9 => h9) rfl dX5_restore_67 ?_
      subst hres
      exact kX_ret hE hS hP hD rfl rfl rfl (Nat.le_of_ble_eq_true rfl) (Nat.le_of_ble_eq_true rfl) dX5_restore_70
    · skip
      have c_30 : ((k_X3_isStored cv vs) = 0) := c_30
      rw [if_pos c_30] at hres
      subst hres
      exact kX_throwW hE hfl hxt hS hP hD hl rfl (by decide) lk_3 lk_4 sr_288 xg_58 (by decide +kernel) xb_58 dX5_restore_33 dX5_restore_36 dX5_restore_37 dX5_restore_40 dX5_restore_43 (Nat.le_of_ble_eq_true rfl) (Nat.le_of_ble_eq_true rfl) (Nat.le_of_ble_eq_true rfl) (Nat.le_of_ble_eq_true rfl) (Nat.le_of_ble_eq_true rfl) (Nat.le_of_ble_eq_true rfl) rfl
  · skip
    have c_8 : ((k_X3_has cv vs) = 0) := c_8
    rw [if_pos c_8] at hres
    subst hres
    exact kX_throwW hE hfl hxt hS hP hD hl rfl (by decide) lk_5 lk_6 sr_279 xg_141 (by decide +kernel) xb_141 dX5_restore_11 dX5_restore_14 dX5_restore_15 dX5_restore_18 dX5_restore_21 (Nat.le_of_ble_eq_true rfl) (Nat.le_of_ble_eq_true rfl) (Nat.le_of_ble_eq_true rfl) (Nat.le_of_ble_eq_true rfl) (Nat.le_of_ble_eq_true rfl) (Nat.le_of_ble_eq_true rfl) rfl
