def k_X5_doneIn_L45 (cv : CV) (vk : Int32) : Nat → Int32 → CV → (Option String × Int32 × CV)
  | 0, _, cw => (none, 0, cw)
  | n + 1, t, cw => (if 100 < t then (none, (-1), cw) else (match (k_X1_play (cw.2.1 2) 1) with | (r_56, o_56) => (if (o_56.1 9) = (-1) then (none, t, (c_o cw 2 o_56)) else (k_X5_doneIn_L45 cv vk n (t + 1) (c_o cw 2 o_56)))))
def k_X5_doneIn (cv : CV) (vk : Int32) : Option String × Int32 × CV := (if (k_X4_has (g_ot (cv.2.1 0)) vk) = 0 then (some "java/lang/IndexOutOfBoundsException", 0, cv) else (k_X5_doneIn_L45 cv vk 101 1 (c_o cv 2 (o_s (k_X1_copyFrom (cv.2.1 2) (cv.2.1 0)) 9 vk))))
set_option maxHeartbeats 4000000 in
set_option maxRecDepth 100000 in
theorem c_X5_doneIn (l : Launch) (hfl : l.stackTraces = false) (D : va_G) (cs : Nat → ClassId) (ca : Nat → Nat → Nat) (cv : CV) (vk : Int32) (hC : CO cv) : kX l yX5_doneIn wsX5_doneIn { frames := 6, cells := 1, slots := 6, locals := 152 } 1 6 D cs [.ref (ca 0 0), .int vk] (ca_W cs ca cv) (k_X5_doneIn cv vk).1 (k_X5_doneIn cv vk).2.1 (ca_W cs ca ((k_X5_doneIn cv vk).2.2)) := by
  generalize hres : k_X5_doneIn cv vk = res
  refine kX_of (cc := cX5_doneIn) (maxL := 3) (ret := (some .int)) (by decide) rfl (Nat.le_of_ble_eq_true rfl) ?_
  intro p e s m below meth c A ls H locs hE hxt hS hP hD hl
  obtain ⟨hx, hb, hr, hlocks, hml, hown, hts, hK, hA, hG, hnm⟩ := id hE
  have hown : s.vm.findClass RX5 = some m.cls := hown
  have hl : lv_has ls 3 [(0, .ref (ca 0 0)), (1, .int vk)] := hl
  have hinX1 : ∀ w ∈ wsX10, w ∈ wsX5_doneIn := by decide +kernel
  have hinX5 : ∀ w ∈ wsX50, w ∈ wsX5_doneIn := by decide +kernel
  have lk_0 := hts (.fieldLink RX5 26 "OrganPegs" "trial" "LOrganPegs$Organ;") (by decide +kernel)
  have lk_1 := hts (.fieldLink RX5 19 "OrganPegs" "organ" "LOrganPegs$Organ;") (by decide +kernel)
  have lk_2 := hts (.classLink RX5 137 "java/lang/IndexOutOfBoundsException") (by decide +kernel)
  have lk_3 := hts (.initialized "java/lang/IndexOutOfBoundsException") (by decide +kernel)
  have L45 : ∀ (n : Nat) (t : Int32) (cw : CV) (j : Nat) (hi : t = nI j) (hj : j + n = 102) (hj2 : j ≤ 101) (hC2 : CO cw) (H : Heap) (locs : List Loc) (ls : Array Slot), va_S A s.heap H locs → va_P D vwCl (ca_W cs ca cw) H → va_D A (ca_W cs ca cw) → lv_has ls 3 [(0, .ref (ca 0 0)), (1, .int vk), (2, .int t)] → k_X5_doneIn_L45 cv vk n t cw = res → W p l e { frames := 6, cells := 1, slots := 6, locals := 152 } s m ([.ref (ca 0 0), .int vk]).toArray below meth c H locs 0 0 (vx_MQ below (va_Qi (fun (r' : Int32) (_ : Unit) => res.1 = none ∧ r' = res.2.1) (kB D (fun _ => ca_W cs ca res.2.2) A) A) (kT D res.1 (ca_W cs ca res.2.2) A) ([.ref (ca 0 0), .int vk]).toArray s 1 6 A) (F0 m 45 ls []) := by
    intro n
    induction n with
    | zero =>
      intro t cw j hi hj hj2 hC2 H locs ls hS hP hD hl hres
      exact absurd hj2 (by omega)
    | succ n ih =>
      intro t cw j hi hj hj2 hC2 H locs ls hS hP hD hl hres
      unfold k_X5_doneIn_L45 at hres
      refine lv_iload_n hx hb dX5_doneIn_45 rfl (lv_at hl 2 rfl) ?_
      refine lv_bipush (v := 100) hx hb dX5_doneIn_46 (by decide) ?_
      refine lv_icmp_gt (tgt := 79) hx hb dX5_doneIn_48 (by decide) (fun c_48 => ?_) (fun c_48 => ?_)
      · skip
        have c_48 : (100 < t) := c_48
        rw [if_pos c_48] at hres
        refine lv_iconst (v := (-1)) hx hb dX5_doneIn_79 (by decide) ?_
        subst hres
        exact kX_ret hE hS hP hD rfl rfl rfl (Nat.le_of_ble_eq_true rfl) (Nat.le_of_ble_eq_true rfl) dX5_doneIn_80
      · skip
        have c_48 : ¬ (100 < t) := c_48
        rw [if_neg c_48] at hres
        refine lv_aload_n hx hb dX5_doneIn_51 rfl (lv_at hl 0 rfl) ?_
        refine va_get (D := D) (ci := 5) (v := .ref (ca 12 0)) (C := RX5) (T := TX5) (N := 6) hx hb hts hinX5 hown hK hP 0 rfl rfl 3 (by decide) lk_0 (fun _ h9 => h9) rfl dX5_doneIn_52 ?_
        refine lv_iconst (v := 1) hx hb dX5_doneIn_55 (by decide) ?_
        have hP := pmP (ca_pm1 (cs := cs) (ca := ca) (cv := cw) (k := 2) (by decide)) hP
        have hD := pmD (ca_pm1 (cs := cs) (ca := ca) (cv := cw) (k := 2) (by decide)) hD
        have hc_56 := c_X1_play l D cs (ca 12) (cw.2.1 2) 1 (hC2.1 2 (by decide))
        obtain ⟨r_56, o_56, e_56⟩ : ∃ r9 o9, (k_X1_play (cw.2.1 2) 1) = (r9, o9) := ⟨_, _, rfl⟩
        rw [e_56] at hc_56 hres
        dsimp only at hc_56 hres
        refine kI_call (wc := (og_W cs (ca 12) (cw.2.1 2))) (wr := (ca_ro cs ca cw 2)) (w1 := og_W cs (ca 12) o_56) (r := r_56) hE hP hD hS (k_rV (rest := []) (As := [.int 1]) hE rfl (hc_56 H.size) (cwV 1 hts gX5_doneIn_X1_play rfl rfl rfl (by decide +kernel) ⟨Nat.le_of_ble_eq_true rfl, Nat.le_of_ble_eq_true rfl⟩) hP hD hS (ci := 1) (q0 := 0) rfl rfl rfl hl rfl (Nat.le_of_ble_eq_true rfl) ⟨Nat.le_of_ble_eq_true rfl, Nat.le_of_ble_eq_true rfl⟩ dX5_doneIn_56) (fun H locs hP hD hS => ?_)
        have hP := pmP (ca_bk1 (cs := cs) (ca := ca) (cv := cw) (k := 2) (by decide)) hP
        have hD := pmD (ca_bk1 (cs := cs) (ca := ca) (cv := cw) (k := 2) (by decide)) hD
        have hP : va_P D vwCl (ca_W cs ca (c_o cw 2 o_56)) H := hP
        have hD : va_D A (ca_W cs ca (c_o cw 2 o_56)) := hD
        refine lv_pop hx hb dX5_doneIn_59 rfl ?_
        refine lv_aload_n hx hb dX5_doneIn_60 rfl (lv_at hl 0 rfl) ?_
        refine va_get (D := D) (ci := 5) (v := .ref (ca 12 0)) (C := RX5) (T := TX5) (N := 6) hx hb hts hinX5 hown hK hP 0 rfl rfl 3 (by decide) lk_0 (fun _ h9 => h9) rfl dX5_doneIn_61 ?_
        refine va_getN (D := D) (ci := 1) (v := .int (o_56.1 9)) (C := RX1) (T := TX1) (N := 17) hx hb hts hinX1 hown hK (k_left (pmP (ca_pm1 (k := 2) (by decide)) hP)) 0 rfl rfl 16 (by decide) (va_Nw.use rfl (hG.1.1 _ _ _ _ _ _ nf_X5_219)) (fun _ h9 => h9) rfl dX5_doneIn_64 ?_
        refine lv_iconst (v := (-1)) hx hb dX5_doneIn_67 (by decide) ?_
        refine lv_icmp_ne (tgt := 73) hx hb dX5_doneIn_68 (by decide) (fun c_68 => ?_) (fun c_68 => ?_)
        · skip
          have c_68 : ¬ ((o_56.1 9) = (-1)) := c_68
          rw [if_neg c_68] at hres
          refine lv_iinc (v := (t + 1)) (lv' := [(2, .int (t + 1)), (0, .ref (ca 0 0)), (1, .int vk)]) hx hb dX5_doneIn_73 hl (k := 2) rfl (by rfl) (by decide) rfl (fun ls hl => ?_)
          refine lv_goto (tgt := 45) hx hb dX5_doneIn_76 (by decide) ?_
          exact ih (t + 1) (c_o cw 2 o_56) (j + 1) (by rw [hi, nI_1]) (by omega) (by have := c_48; rw [i_lt, hi, nI_toInt (by omega)] at this; have e9 : (100 : Int32).toInt = 100 := rfl; omega) ((CO_o hC2 (OI_playE e_56 (hC2.1 2 (by decide))))) _ _ _ hS hP hD (lv_sub hl [1, 2, 0] rfl) hres
        · skip
          have c_68 : ((o_56.1 9) = (-1)) := c_68
          rw [if_pos c_68] at hres
          refine lv_iload_n hx hb dX5_doneIn_71 rfl (lv_at hl 2 rfl) ?_
          subst hres
          exact kX_ret hE hS hP hD rfl rfl rfl (Nat.le_of_ble_eq_true rfl) (Nat.le_of_ble_eq_true rfl) dX5_doneIn_72
  unfold k_X5_doneIn at hres
  refine lv_aload_n hx hb dX5_doneIn_0 rfl (lv_at hl 0 rfl) ?_
  refine va_get (D := D) (ci := 5) (v := .ref (ca 10 0)) (C := RX5) (T := TX5) (N := 6) hx hb hts hinX5 hown hK hP 0 rfl rfl 1 (by decide) lk_1 (fun _ h9 => h9) rfl dX5_doneIn_1 ?_
  refine va_getN (D := D) (ci := 1) (v := .ref (ca 10 2)) (C := RX1) (T := TX1) (N := 17) hx hb hts hinX1 hown hK (k_left (pmP (ca_pm1 (k := 0) (by decide)) hP)) 0 rfl rfl 1 (by decide) (va_Nw.use rfl (hG.1.1 _ _ _ _ _ _ nf_X5_147)) (fun _ h9 => h9) rfl dX5_doneIn_4 ?_
  refine lv_iload_n hx hb dX5_doneIn_7 rfl (lv_at hl 1 rfl) ?_
  have pm9 := ((ca_pm1 (cs := cs) (ca := ca) (cv := cv) (k := 0) (by decide)).trans ((og_pmO.append_right _).trans (List.Perm.of_eq (List.append_assoc _ _ _))))
  have hP := pmP pm9 hP
  have hD := pmD pm9 hD
  have hc_8 := c_X4_has l D cs ((ca 10) 2) ((ca 10) 4) 5 12 60 (g_ot (cv.2.1 0)) vk
  refine kI_call (wc := (tb_W cs ((ca 10) 2) ((ca 10) 4) 5 12 60 (g_ot (cv.2.1 0)))) (wr := (og_rO cs (ca 10) (cv.2.1 0) ++ ca_ro cs ca cv 0)) (w1 := tb_W cs ((ca 10) 2) ((ca 10) 4) 5 12 60 (g_ot (cv.2.1 0))) (r := (k_X4_has (g_ot (cv.2.1 0)) vk)) hE hP hD hS (k_rV (rest := []) (As := [.int vk]) hE rfl (hc_8 H.size) (cwV 1 hts gX5_doneIn_X4_has rfl rfl rfl (by decide +kernel) ⟨Nat.le_of_ble_eq_true rfl, Nat.le_of_ble_eq_true rfl⟩) hP hD hS (ci := 4) (q0 := 0) rfl rfl rfl hl rfl (Nat.le_of_ble_eq_true rfl) ⟨Nat.le_of_ble_eq_true rfl, Nat.le_of_ble_eq_true rfl⟩ dX5_doneIn_8) (fun H locs hP hD hS => ?_)
  have hP := pmP pm9.symm hP
  have hD := pmD pm9.symm hD
  have hP : va_P D vwCl (ca_W cs ca cv) H := hP
  have hD : va_D A (ca_W cs ca cv) := hD
  refine lv_if_ne (tgt := 24) hx hb dX5_doneIn_11 (by decide) (fun c_11 => ?_) (fun c_11 => ?_)
  · skip
    have c_11 : ¬ ((k_X4_has (g_ot (cv.2.1 0)) vk) = 0) := c_11
    rw [if_neg c_11] at hres
    refine lv_aload_n hx hb dX5_doneIn_24 rfl (lv_at hl 0 rfl) ?_
    refine va_get (D := D) (ci := 5) (v := .ref (ca 12 0)) (C := RX5) (T := TX5) (N := 6) hx hb hts hinX5 hown hK hP 0 rfl rfl 3 (by decide) lk_0 (fun _ h9 => h9) rfl dX5_doneIn_25 ?_
    refine lv_aload_n hx hb dX5_doneIn_28 rfl (lv_at hl 0 rfl) ?_
    refine va_get (D := D) (ci := 5) (v := .ref (ca 10 0)) (C := RX5) (T := TX5) (N := 6) hx hb hts hinX5 hown hK hP 0 rfl rfl 1 (by decide) lk_1 (fun _ h9 => h9) rfl dX5_doneIn_29 ?_
    have hP := pmP (ca_pm2 (cs := cs) (ca := ca) (cv := cv) (k := 2) (j := 0) (by decide) (by decide) (by decide)) hP
    have hD := pmD (ca_pm2 (cs := cs) (ca := ca) (cv := cv) (k := 2) (j := 0) (by decide) (by decide) (by decide)) hD
    have hc_32 := c_X1_copyFrom l D cs (ca 12) (ca 10) (cv.2.1 2) (cv.2.1 0)
    refine kV_call (wc := (og_W cs (ca 12) (cv.2.1 2) ++ og_W cs (ca 10) (cv.2.1 0))) (wr := (ca_r2 cs ca cv 2 0)) (w1 := fun _ => og_W cs (ca 12) (k_X1_copyFrom (cv.2.1 2) (cv.2.1 0)) ++ og_W cs (ca 10) (cv.2.1 0)) hE hP hD hS (k_rV (rest := []) (As := [.ref (ca 10 0)]) hE rfl (hc_32 H.size) (cwV 1 hts gX5_doneIn_X1_copyFrom rfl rfl rfl (by decide +kernel) ⟨Nat.le_of_ble_eq_true rfl, Nat.le_of_ble_eq_true rfl⟩) hP hD hS (ci := 1) (q0 := 0) rfl rfl rfl hl rfl (Nat.le_of_ble_eq_true rfl) ⟨Nat.le_of_ble_eq_true rfl, Nat.le_of_ble_eq_true rfl⟩ dX5_doneIn_32) (fun _ H locs _ hP hD hS => ?_)
    have hP := pmP (ca_bk2 (cs := cs) (ca := ca) (cv := cv) (k := 2) (j := 0) (by decide) (by decide) (by decide)) hP
    have hD := pmD (ca_bk2 (cs := cs) (ca := ca) (cv := cv) (k := 2) (j := 0) (by decide) (by decide) (by decide)) hD
    have hP : va_P D vwCl (ca_W cs ca (c_o cv 2 (k_X1_copyFrom (cv.2.1 2) (cv.2.1 0)))) H := hP
    have hD : va_D A (ca_W cs ca (c_o cv 2 (k_X1_copyFrom (cv.2.1 2) (cv.2.1 0)))) := hD
    refine lv_aload_n hx hb dX5_doneIn_35 rfl (lv_at hl 0 rfl) ?_
    refine va_get (D := D) (ci := 5) (v := .ref (ca 12 0)) (C := RX5) (T := TX5) (N := 6) hx hb hts hinX5 hown hK hP 0 rfl rfl 3 (by decide) lk_0 (fun _ h9 => h9) rfl dX5_doneIn_36 ?_
    refine lv_iload_n hx hb dX5_doneIn_39 rfl (lv_at hl 1 rfl) ?_
    have hP := pmP (ca_pm1 (k := 2) (by decide)) hP
    have hD := pmD (ca_pm1 (k := 2) (by decide)) hD
    refine va_putN (D := D) (ci := 1) (v := .int vk) (ty := .int) (C := RX1) (T := TX1) (N := 17) hx hb hts hinX1 tyX1 tyX1_ok nmX1 hown hK hP hD hS 0 rfl rfl 16 (by decide) (va_Nw.use rfl (hG.1.1 _ _ _ _ _ _ nf_X5_219)) (fun _ h9 => h9) rfl (by decide +kernel) rfl rfl (Nat.le_of_ble_eq_true rfl) dX5_doneIn_40 (fun H locs hP hD hS => ?_)
    have hP : va_P D vwCl (og_W cs (ca 12) (o_s (k_X1_copyFrom (cv.2.1 2) (cv.2.1 0)) 9 vk) ++ ca_ro cs ca (c_o cv 2 (k_X1_copyFrom (cv.2.1 2) (cv.2.1 0))) 2) H := hP
    have hD : va_D A (og_W cs (ca 12) (o_s (k_X1_copyFrom (cv.2.1 2) (cv.2.1 0)) 9 vk) ++ ca_ro cs ca (c_o cv 2 (k_X1_copyFrom (cv.2.1 2) (cv.2.1 0))) 2) := hD
    have hP := pmP (ca_bk1 (k := 2) (by decide)) hP
    have hD := pmD (ca_bk1 (k := 2) (by decide)) hD
    have hP : va_P D vwCl (ca_W cs ca (c_o cv 2 (o_s (k_X1_copyFrom (cv.2.1 2) (cv.2.1 0)) 9 vk))) H := hP
    have hD : va_D A (ca_W cs ca (c_o cv 2 (o_s (k_X1_copyFrom (cv.2.1 2) (cv.2.1 0)) 9 vk))) := hD
    refine lv_iconst (v := 1) hx hb dX5_doneIn_43 (by decide) ?_
    refine lv_istore_n (lv' := [(2, .int 1), (0, .ref (ca 0 0)), (1, .int vk)]) hx hb dX5_doneIn_44 rfl hl (by decide) rfl (fun ls hl => ?_)
    exact L45 101 1 (c_o cv 2 (o_s (k_X1_copyFrom (cv.2.1 2) (cv.2.1 0)) 9 vk)) 1 ((show (1 : Int32) = nI 1 from rfl)) (rfl) (by decide) ((CO_o hC (OI_s (OI_copy (hC.1 0 (by decide)))))) _ _ _ hS hP hD (lv_sub hl [1, 2, 0] rfl) hres
  · skip
    have c_11 : ((k_X4_has (g_ot (cv.2.1 0)) vk) = 0) := c_11
    rw [if_pos c_11] at hres
    subst hres
    exact kX_throw hE hfl hxt hS hP hD hl rfl (by decide) lk_2 lk_3 sr_150 xg_141 (by decide +kernel) xb_141 dX5_doneIn_14 dX5_doneIn_17 dX5_doneIn_18 dX5_doneIn_20 dX5_doneIn_23 (Nat.le_of_ble_eq_true rfl) (Nat.le_of_ble_eq_true rfl) (Nat.le_of_ble_eq_true rfl) (Nat.le_of_ble_eq_true rfl) (Nat.le_of_ble_eq_true rfl) (Nat.le_of_ble_eq_true rfl) rfl
def k_X5_soundsIn_L30 (cv : CV) (vp : Int32) : Nat → Int32 → CV → (Option String × Int32 × CV)
  | 0, _, cw => (none, 0, cw)
  | n + 1, t, cw => (if 100 < t then (none, (-1), cw) else (match (k_X1_play (cw.2.1 2) 1) with | (r_41, o_41) => (if (((k_X1_soundedAgo o_41 0) >>> (vp &&& 31)) &&& 1) = 1 then (none, t, (c_o cw 2 o_41)) else (k_X5_soundsIn_L30 cv vp n (t + 1) (c_o cw 2 o_41)))))
def k_X5_soundsIn (cv : CV) (vp : Int32) : Option String × Int32 × CV := (if (k_X5_isPipe vp) = 0 then (some "java/lang/IndexOutOfBoundsException", 0, cv) else (k_X5_soundsIn_L30 cv vp 101 1 (c_o cv 2 (k_X1_copyFrom (cv.2.1 2) (cv.2.1 0)))))
set_option maxHeartbeats 4000000 in
set_option maxRecDepth 100000 in
theorem c_X5_soundsIn (l : Launch) (hfl : l.stackTraces = false) (D : va_G) (cs : Nat → ClassId) (ca : Nat → Nat → Nat) (cv : CV) (vp : Int32) (hC : CO cv) : kX l yX5_soundsIn wsX5_soundsIn { frames := 6, cells := 1, slots := 6, locals := 152 } 1 6 D cs [.ref (ca 0 0), .int vp] (ca_W cs ca cv) (k_X5_soundsIn cv vp).1 (k_X5_soundsIn cv vp).2.1 (ca_W cs ca ((k_X5_soundsIn cv vp).2.2)) := by
  generalize hres : k_X5_soundsIn cv vp = res
  refine kX_of (cc := cX5_soundsIn) (maxL := 3) (ret := (some .int)) (by decide) rfl (Nat.le_of_ble_eq_true rfl) ?_
  intro p e s m below meth c A ls H locs hE hxt hS hP hD hl
  obtain ⟨hx, hb, hr, hlocks, hml, hown, hts, hK, hA, hG, hnm⟩ := id hE
  have hown : s.vm.findClass RX5 = some m.cls := hown
  have hl : lv_has ls 3 [(0, .ref (ca 0 0)), (1, .int vp)] := hl
  have hinX5 : ∀ w ∈ wsX50, w ∈ wsX5_soundsIn := by decide +kernel
  have lk_0 := hts (.fieldLink RX5 26 "OrganPegs" "trial" "LOrganPegs$Organ;") (by decide +kernel)
  have lk_1 := hts (.fieldLink RX5 19 "OrganPegs" "organ" "LOrganPegs$Organ;") (by decide +kernel)
  have lk_2 := hts (.classLink RX5 137 "java/lang/IndexOutOfBoundsException") (by decide +kernel)
  have lk_3 := hts (.initialized "java/lang/IndexOutOfBoundsException") (by decide +kernel)
  have L30 : ∀ (n : Nat) (t : Int32) (cw : CV) (j : Nat) (hi : t = nI j) (hj : j + n = 102) (hj2 : j ≤ 101) (hC2 : CO cw) (H : Heap) (locs : List Loc) (ls : Array Slot), va_S A s.heap H locs → va_P D vwCl (ca_W cs ca cw) H → va_D A (ca_W cs ca cw) → lv_has ls 3 [(0, .ref (ca 0 0)), (1, .int vp), (2, .int t)] → k_X5_soundsIn_L30 cv vp n t cw = res → W p l e { frames := 6, cells := 1, slots := 6, locals := 152 } s m ([.ref (ca 0 0), .int vp]).toArray below meth c H locs 0 0 (vx_MQ below (va_Qi (fun (r' : Int32) (_ : Unit) => res.1 = none ∧ r' = res.2.1) (kB D (fun _ => ca_W cs ca res.2.2) A) A) (kT D res.1 (ca_W cs ca res.2.2) A) ([.ref (ca 0 0), .int vp]).toArray s 1 6 A) (F0 m 30 ls []) := by
    intro n
    induction n with
    | zero =>
      intro t cw j hi hj hj2 hC2 H locs ls hS hP hD hl hres
      exact absurd hj2 (by omega)
    | succ n ih =>
      intro t cw j hi hj hj2 hC2 H locs ls hS hP hD hl hres
      unfold k_X5_soundsIn_L30 at hres
      refine lv_iload_n hx hb dX5_soundsIn_30 rfl (lv_at hl 2 rfl) ?_
      refine lv_bipush (v := 100) hx hb dX5_soundsIn_31 (by decide) ?_
      refine lv_icmp_gt (tgt := 69) hx hb dX5_soundsIn_33 (by decide) (fun c_33 => ?_) (fun c_33 => ?_)
      · skip
        have c_33 : (100 < t) := c_33
        rw [if_pos c_33] at hres
        refine lv_iconst (v := (-1)) hx hb dX5_soundsIn_69 (by decide) ?_
        subst hres
        exact kX_ret hE hS hP hD rfl rfl rfl (Nat.le_of_ble_eq_true rfl) (Nat.le_of_ble_eq_true rfl) dX5_soundsIn_70
      · skip
        have c_33 : ¬ (100 < t) := c_33
        rw [if_neg c_33] at hres
        refine lv_aload_n hx hb dX5_soundsIn_36 rfl (lv_at hl 0 rfl) ?_
        refine va_get (D := D) (ci := 5) (v := .ref (ca 12 0)) (C := RX5) (T := TX5) (N := 6) hx hb hts hinX5 hown hK hP 0 rfl rfl 3 (by decide) lk_0 (fun _ h9 => h9) rfl dX5_soundsIn_37 ?_
        refine lv_iconst (v := 1) hx hb dX5_soundsIn_40 (by decide) ?_
        have hP := pmP (ca_pm1 (cs := cs) (ca := ca) (cv := cw) (k := 2) (by decide)) hP
        have hD := pmD (ca_pm1 (cs := cs) (ca := ca) (cv := cw) (k := 2) (by decide)) hD
        have hc_41 := c_X1_play l D cs (ca 12) (cw.2.1 2) 1 (hC2.1 2 (by decide))
        obtain ⟨r_41, o_41, e_41⟩ : ∃ r9 o9, (k_X1_play (cw.2.1 2) 1) = (r9, o9) := ⟨_, _, rfl⟩
        rw [e_41] at hc_41 hres
        dsimp only at hc_41 hres
        refine kI_call (wc := (og_W cs (ca 12) (cw.2.1 2))) (wr := (ca_ro cs ca cw 2)) (w1 := og_W cs (ca 12) o_41) (r := r_41) hE hP hD hS (k_rV (rest := []) (As := [.int 1]) hE rfl (hc_41 H.size) (cwV 1 hts gX5_soundsIn_X1_play rfl rfl rfl (by decide +kernel) ⟨Nat.le_of_ble_eq_true rfl, Nat.le_of_ble_eq_true rfl⟩) hP hD hS (ci := 1) (q0 := 0) rfl rfl rfl hl rfl (Nat.le_of_ble_eq_true rfl) ⟨Nat.le_of_ble_eq_true rfl, Nat.le_of_ble_eq_true rfl⟩ dX5_soundsIn_41) (fun H locs hP hD hS => ?_)
        have hP := pmP (ca_bk1 (cs := cs) (ca := ca) (cv := cw) (k := 2) (by decide)) hP
        have hD := pmD (ca_bk1 (cs := cs) (ca := ca) (cv := cw) (k := 2) (by decide)) hD
        have hP : va_P D vwCl (ca_W cs ca (c_o cw 2 o_41)) H := hP
        have hD : va_D A (ca_W cs ca (c_o cw 2 o_41)) := hD
        refine lv_pop hx hb dX5_soundsIn_44 rfl ?_
        refine lv_aload_n hx hb dX5_soundsIn_45 rfl (lv_at hl 0 rfl) ?_
        refine va_get (D := D) (ci := 5) (v := .ref (ca 12 0)) (C := RX5) (T := TX5) (N := 6) hx hb hts hinX5 hown hK hP 0 rfl rfl 3 (by decide) lk_0 (fun _ h9 => h9) rfl dX5_soundsIn_46 ?_
        refine lv_iconst (v := 0) hx hb dX5_soundsIn_49 (by decide) ?_
        have hP := pmP (ca_pm1 (cs := cs) (ca := ca) (cv := (c_o cw 2 o_41)) (k := 2) (by decide)) hP
        have hD := pmD (ca_pm1 (cs := cs) (ca := ca) (cv := (c_o cw 2 o_41)) (k := 2) (by decide)) hD
        have hc_50 := c_X1_soundedAgo l D cs (ca 12) o_41 0
        refine kI_call (wc := (og_W cs (ca 12) o_41)) (wr := (ca_ro cs ca (c_o cw 2 o_41) 2)) (w1 := og_W cs (ca 12) o_41) (r := (k_X1_soundedAgo o_41 0)) hE hP hD hS (k_rV (rest := []) (As := [.int 0]) hE rfl (hc_50 H.size) (cwV 1 hts gX5_soundsIn_X1_soundedAgo rfl rfl rfl (by decide +kernel) ⟨Nat.le_of_ble_eq_true rfl, Nat.le_of_ble_eq_true rfl⟩) hP hD hS (ci := 1) (q0 := 0) rfl rfl rfl hl rfl (Nat.le_of_ble_eq_true rfl) ⟨Nat.le_of_ble_eq_true rfl, Nat.le_of_ble_eq_true rfl⟩ dX5_soundsIn_50) (fun H locs hP hD hS => ?_)
        have hP := pmP (ca_bk1 (cs := cs) (ca := ca) (cv := (c_o cw 2 o_41)) (k := 2) (by decide)) hP
        have hD := pmD (ca_bk1 (cs := cs) (ca := ca) (cv := (c_o cw 2 o_41)) (k := 2) (by decide)) hD
        have hP : va_P D vwCl (ca_W cs ca (c_o cw 2 o_41)) H := hP
        have hD : va_D A (ca_W cs ca (c_o cw 2 o_41)) := hD
        refine lv_iload_n hx hb dX5_soundsIn_53 rfl (lv_at hl 1 rfl) ?_
        refine lv_ishr hx hb dX5_soundsIn_54 ?_
        refine lv_iconst (v := 1) hx hb dX5_soundsIn_55 (by decide) ?_
        refine lv_iand hx hb dX5_soundsIn_56 ?_
        refine lv_iconst (v := 1) hx hb dX5_soundsIn_57 (by decide) ?_
        refine lv_icmp_ne (tgt := 63) hx hb dX5_soundsIn_58 (by decide) (fun c_58 => ?_) (fun c_58 => ?_)
        · skip
          have c_58 : ¬ ((((k_X1_soundedAgo o_41 0) >>> (vp &&& 31)) &&& 1) = 1) := c_58
          rw [if_neg c_58] at hres
          refine lv_iinc (v := (t + 1)) (lv' := [(2, .int (t + 1)), (0, .ref (ca 0 0)), (1, .int vp)]) hx hb dX5_soundsIn_63 hl (k := 2) rfl (by rfl) (by decide) rfl (fun ls hl => ?_)
          refine lv_goto (tgt := 30) hx hb dX5_soundsIn_66 (by decide) ?_
          exact ih (t + 1) (c_o cw 2 o_41) (j + 1) (by rw [hi, nI_1]) (by omega) (by have := c_33; rw [i_lt, hi, nI_toInt (by omega)] at this; have e9 : (100 : Int32).toInt = 100 := rfl; omega) ((CO_o hC2 (OI_playE e_41 (hC2.1 2 (by decide))))) _ _ _ hS hP hD (lv_sub hl [1, 2, 0] rfl) hres
        · skip
          have c_58 : ((((k_X1_soundedAgo o_41 0) >>> (vp &&& 31)) &&& 1) = 1) := c_58
          rw [if_pos c_58] at hres
          refine lv_iload_n hx hb dX5_soundsIn_61 rfl (lv_at hl 2 rfl) ?_
          subst hres
          exact kX_ret hE hS hP hD rfl rfl rfl (Nat.le_of_ble_eq_true rfl) (Nat.le_of_ble_eq_true rfl) dX5_soundsIn_62
  unfold k_X5_soundsIn at hres
  refine lv_iload_n hx hb dX5_soundsIn_0 rfl (lv_at hl 1 rfl) ?_
  have hP : va_P D vwCl ([] ++ (ca_W cs ca cv)) H := hP
  have hD : va_D A ([] ++ (ca_W cs ca cv)) := hD
  have hc_1 := c_X5_isPipe l D cs vp
  refine kI_call (wc := []) (wr := (ca_W cs ca cv)) (w1 := []) (r := (k_X5_isPipe vp)) hE hP hD hS (k_rS (rest := []) (As := [.int vp]) hE rfl (hc_1 H.size) (va_cwS 1 hts gX5_soundsIn_X5_isPipe rfl rfl rfl (by decide +kernel) ⟨Nat.le_of_ble_eq_true rfl, Nat.le_of_ble_eq_true rfl⟩) hP hD hS rfl hl rfl (Nat.le_of_ble_eq_true rfl) ⟨Nat.le_of_ble_eq_true rfl, Nat.le_of_ble_eq_true rfl⟩ dX5_soundsIn_1) (fun H locs hP hD hS => ?_)
  have hP : va_P D vwCl (ca_W cs ca cv) H := hP
  have hD : va_D A (ca_W cs ca cv) := hD
  refine lv_if_ne (tgt := 17) hx hb dX5_soundsIn_4 (by decide) (fun c_4 => ?_) (fun c_4 => ?_)
  · skip
    have c_4 : ¬ ((k_X5_isPipe vp) = 0) := c_4
    rw [if_neg c_4] at hres
    refine lv_aload_n hx hb dX5_soundsIn_17 rfl (lv_at hl 0 rfl) ?_
    refine va_get (D := D) (ci := 5) (v := .ref (ca 12 0)) (C := RX5) (T := TX5) (N := 6) hx hb hts hinX5 hown hK hP 0 rfl rfl 3 (by decide) lk_0 (fun _ h9 => h9) rfl dX5_soundsIn_18 ?_
    refine lv_aload_n hx hb dX5_soundsIn_21 rfl (lv_at hl 0 rfl) ?_
    refine va_get (D := D) (ci := 5) (v := .ref (ca 10 0)) (C := RX5) (T := TX5) (N := 6) hx hb hts hinX5 hown hK hP 0 rfl rfl 1 (by decide) lk_1 (fun _ h9 => h9) rfl dX5_soundsIn_22 ?_
    have hP := pmP (ca_pm2 (cs := cs) (ca := ca) (cv := cv) (k := 2) (j := 0) (by decide) (by decide) (by decide)) hP
    have hD := pmD (ca_pm2 (cs := cs) (ca := ca) (cv := cv) (k := 2) (j := 0) (by decide) (by decide) (by decide)) hD
    have hc_25 := c_X1_copyFrom l D cs (ca 12) (ca 10) (cv.2.1 2) (cv.2.1 0)
    refine kV_call (wc := (og_W cs (ca 12) (cv.2.1 2) ++ og_W cs (ca 10) (cv.2.1 0))) (wr := (ca_r2 cs ca cv 2 0)) (w1 := fun _ => og_W cs (ca 12) (k_X1_copyFrom (cv.2.1 2) (cv.2.1 0)) ++ og_W cs (ca 10) (cv.2.1 0)) hE hP hD hS (k_rV (rest := []) (As := [.ref (ca 10 0)]) hE rfl (hc_25 H.size) (cwV 1 hts gX5_soundsIn_X1_copyFrom rfl rfl rfl (by decide +kernel) ⟨Nat.le_of_ble_eq_true rfl, Nat.le_of_ble_eq_true rfl⟩) hP hD hS (ci := 1) (q0 := 0) rfl rfl rfl hl rfl (Nat.le_of_ble_eq_true rfl) ⟨Nat.le_of_ble_eq_true rfl, Nat.le_of_ble_eq_true rfl⟩ dX5_soundsIn_25) (fun _ H locs _ hP hD hS => ?_)
    have hP := pmP (ca_bk2 (cs := cs) (ca := ca) (cv := cv) (k := 2) (j := 0) (by decide) (by decide) (by decide)) hP
    have hD := pmD (ca_bk2 (cs := cs) (ca := ca) (cv := cv) (k := 2) (j := 0) (by decide) (by decide) (by decide)) hD
    have hP : va_P D vwCl (ca_W cs ca (c_o cv 2 (k_X1_copyFrom (cv.2.1 2) (cv.2.1 0)))) H := hP
    have hD : va_D A (ca_W cs ca (c_o cv 2 (k_X1_copyFrom (cv.2.1 2) (cv.2.1 0)))) := hD
    refine lv_iconst (v := 1) hx hb dX5_soundsIn_28 (by decide) ?_
    refine lv_istore_n (lv' := [(2, .int 1), (0, .ref (ca 0 0)), (1, .int vp)]) hx hb dX5_soundsIn_29 rfl hl (by decide) rfl (fun ls hl => ?_)
    exact L30 101 1 (c_o cv 2 (k_X1_copyFrom (cv.2.1 2) (cv.2.1 0))) 1 ((show (1 : Int32) = nI 1 from rfl)) (rfl) (by decide) ((CO_o hC (OI_copy (hC.1 0 (by decide))))) _ _ _ hS hP hD (lv_sub hl [1, 2, 0] rfl) hres
  · skip
    have c_4 : ((k_X5_isPipe vp) = 0) := c_4
    rw [if_pos c_4] at hres
    subst hres
    exact kX_throw hE hfl hxt hS hP hD hl rfl (by decide) lk_2 lk_3 sr_157 xg_141 (by decide +kernel) xb_141 dX5_soundsIn_7 dX5_soundsIn_10 dX5_soundsIn_11 dX5_soundsIn_13 dX5_soundsIn_16 (Nat.le_of_ble_eq_true rfl) (Nat.le_of_ble_eq_true rfl) (Nat.le_of_ble_eq_true rfl) (Nat.le_of_ble_eq_true rfl) (Nat.le_of_ble_eq_true rfl) (Nat.le_of_ble_eq_true rfl) rfl
def k_X5_leastSpeed_L19 (cv : CV) (vn : Int32) : Nat → Int32 → CV → (Option String × Int32 × CV)
  | 0, _, cw => (none, 0, cw)
  | n + 1, v, cw => (if 3 < v then (none, (-1), cw) else (match (k_X1_change (k_X1_copyFrom (cw.2.1 2) (cw.2.1 0)) 0 v) with | (r_45, o_45) => (match (k_X1_play o_45 vn) with | (r_54, o_54) => (if (o_54.1 7) = ((cw.2.1 0).1 7) then (none, v, (c_o cw 2 o_54)) else (k_X5_leastSpeed_L19 cv vn n (v + 1) (c_o cw 2 o_54))))))
def k_X5_leastSpeed (cv : CV) (vn : Int32) : Option String × Int32 × CV := (if (k_X5_isTicks vn) = 0 then (some "java/lang/IllegalArgumentException", 0, cv) else (k_X5_leastSpeed_L19 cv vn 5 0 cv))
set_option maxHeartbeats 4000000 in
set_option maxRecDepth 100000 in
theorem c_X5_leastSpeed (l : Launch) (hfl : l.stackTraces = false) (D : va_G) (cs : Nat → ClassId) (ca : Nat → Nat → Nat) (cv : CV) (vn : Int32) (hC : CO cv) : kX l yX5_leastSpeed wsX5_leastSpeed { frames := 6, cells := 1, slots := 6, locals := 152 } 1 6 D cs [.ref (ca 0 0), .int vn] (ca_W cs ca cv) (k_X5_leastSpeed cv vn).1 (k_X5_leastSpeed cv vn).2.1 (ca_W cs ca ((k_X5_leastSpeed cv vn).2.2)) := by
  generalize hres : k_X5_leastSpeed cv vn = res
  refine kX_of (cc := cX5_leastSpeed) (maxL := 3) (ret := (some .int)) (by decide) rfl (Nat.le_of_ble_eq_true rfl) ?_
  intro p e s m below meth c A ls H locs hE hxt hS hP hD hl
  obtain ⟨hx, hb, hr, hlocks, hml, hown, hts, hK, hA, hG, hnm⟩ := id hE
  have hown : s.vm.findClass RX5 = some m.cls := hown
  have hl : lv_has ls 3 [(0, .ref (ca 0 0)), (1, .int vn)] := hl
  have hinX1 : ∀ w ∈ wsX10, w ∈ wsX5_leastSpeed := by decide +kernel
  have hinX5 : ∀ w ∈ wsX50, w ∈ wsX5_leastSpeed := by decide +kernel
  have lk_0 := hts (.fieldLink RX5 225 "OrganPegs" "SETTING_MOST" "[I") (by decide +kernel)
  have lk_1 := hts (.fieldLink RX5 26 "OrganPegs" "trial" "LOrganPegs$Organ;") (by decide +kernel)
  have lk_2 := hts (.fieldLink RX5 19 "OrganPegs" "organ" "LOrganPegs$Organ;") (by decide +kernel)
  have lk_3 := hts (.classLink RX5 43 "java/lang/IllegalArgumentException") (by decide +kernel)
  have lk_4 := hts (.initialized "java/lang/IllegalArgumentException") (by decide +kernel)
  obtain ⟨⟨tSM, hZ1, hT1⟩, -, -⟩ := hG.2
  have L19 : ∀ (n : Nat) (v : Int32) (cw : CV) (j : Nat) (hi : v = nI j) (hj : j + n = 5) (hj2 : j ≤ 4) (hC2 : CO cw) (H : Heap) (locs : List Loc) (ls : Array Slot), va_S A s.heap H locs → va_P D vwCl (ca_W cs ca cw) H → va_D A (ca_W cs ca cw) → lv_has ls 3 [(0, .ref (ca 0 0)), (1, .int vn), (2, .int v)] → k_X5_leastSpeed_L19 cv vn n v cw = res → W p l e { frames := 6, cells := 1, slots := 6, locals := 152 } s m ([.ref (ca 0 0), .int vn]).toArray below meth c H locs 0 0 (vx_MQ below (va_Qi (fun (r' : Int32) (_ : Unit) => res.1 = none ∧ r' = res.2.1) (kB D (fun _ => ca_W cs ca res.2.2) A) A) (kT D res.1 (ca_W cs ca res.2.2) A) ([.ref (ca 0 0), .int vn]).toArray s 1 6 A) (F0 m 19 ls []) := by
    intro n
    induction n with
    | zero =>
      intro v cw j hi hj hj2 hC2 H locs ls hS hP hD hl hres
      exact absurd hj2 (by omega)
    | succ n ih =>
      intro v cw j hi hj hj2 hC2 H locs ls hS hP hD hl hres
      unfold k_X5_leastSpeed_L19 at hres
      refine lv_iload_n hx hb dX5_leastSpeed_19 rfl (lv_at hl 2 rfl) ?_
      refine va_gets hx hb hZ1 hS hown lk_0 (fun _ h9 => h9) dX5_leastSpeed_20 ?_
      refine lv_iconst (v := 0) hx hb dX5_leastSpeed_23 (by decide) ?_
      refine va_ti hx hb hT1 hS (i := 0) (v := .int 3) (k_inl rfl) rfl dX5_leastSpeed_24 ?_
      refine lv_icmp_gt (tgt := 83) hx hb dX5_leastSpeed_25 (by decide) (fun c_25 => ?_) (fun c_25 => ?_)
      · skip
        have c_25 : (3 < v) := c_25
        rw [if_pos c_25] at hres
        refine lv_iconst (v := (-1)) hx hb dX5_leastSpeed_83 (by decide) ?_
        subst hres
        exact kX_ret hE hS hP hD rfl rfl rfl (Nat.le_of_ble_eq_true rfl) (Nat.le_of_ble_eq_true rfl) dX5_leastSpeed_84
      · skip
        have c_25 : ¬ (3 < v) := c_25
        rw [if_neg c_25] at hres
        refine lv_aload_n hx hb dX5_leastSpeed_28 rfl (lv_at hl 0 rfl) ?_
        refine va_get (D := D) (ci := 5) (v := .ref (ca 12 0)) (C := RX5) (T := TX5) (N := 6) hx hb hts hinX5 hown hK hP 0 rfl rfl 3 (by decide) lk_1 (fun _ h9 => h9) rfl dX5_leastSpeed_29 ?_
        refine lv_aload_n hx hb dX5_leastSpeed_32 rfl (lv_at hl 0 rfl) ?_
        refine va_get (D := D) (ci := 5) (v := .ref (ca 10 0)) (C := RX5) (T := TX5) (N := 6) hx hb hts hinX5 hown hK hP 0 rfl rfl 1 (by decide) lk_2 (fun _ h9 => h9) rfl dX5_leastSpeed_33 ?_
        have hP := pmP (ca_pm2 (cs := cs) (ca := ca) (cv := cw) (k := 2) (j := 0) (by decide) (by decide) (by decide)) hP
        have hD := pmD (ca_pm2 (cs := cs) (ca := ca) (cv := cw) (k := 2) (j := 0) (by decide) (by decide) (by decide)) hD
        have hc_36 := c_X1_copyFrom l D cs (ca 12) (ca 10) (cw.2.1 2) (cw.2.1 0)
        refine kV_call (wc := (og_W cs (ca 12) (cw.2.1 2) ++ og_W cs (ca 10) (cw.2.1 0))) (wr := (ca_r2 cs ca cw 2 0)) (w1 := fun _ => og_W cs (ca 12) (k_X1_copyFrom (cw.2.1 2) (cw.2.1 0)) ++ og_W cs (ca 10) (cw.2.1 0)) hE hP hD hS (k_rV (rest := []) (As := [.ref (ca 10 0)]) hE rfl (hc_36 H.size) (cwV 1 hts gX5_leastSpeed_X1_copyFrom rfl rfl rfl (by decide +kernel) ⟨Nat.le_of_ble_eq_true rfl, Nat.le_of_ble_eq_true rfl⟩) hP hD hS (ci := 1) (q0 := 0) rfl rfl rfl hl rfl (Nat.le_of_ble_eq_true rfl) ⟨Nat.le_of_ble_eq_true rfl, Nat.le_of_ble_eq_true rfl⟩ dX5_leastSpeed_36) (fun _ H locs _ hP hD hS => ?_)
        have hP := pmP (ca_bk2 (cs := cs) (ca := ca) (cv := cw) (k := 2) (j := 0) (by decide) (by decide) (by decide)) hP
        have hD := pmD (ca_bk2 (cs := cs) (ca := ca) (cv := cw) (k := 2) (j := 0) (by decide) (by decide) (by decide)) hD
        have hP : va_P D vwCl (ca_W cs ca (c_o cw 2 (k_X1_copyFrom (cw.2.1 2) (cw.2.1 0)))) H := hP
        have hD : va_D A (ca_W cs ca (c_o cw 2 (k_X1_copyFrom (cw.2.1 2) (cw.2.1 0)))) := hD
        refine lv_aload_n hx hb dX5_leastSpeed_39 rfl (lv_at hl 0 rfl) ?_
        refine va_get (D := D) (ci := 5) (v := .ref (ca 12 0)) (C := RX5) (T := TX5) (N := 6) hx hb hts hinX5 hown hK hP 0 rfl rfl 3 (by decide) lk_1 (fun _ h9 => h9) rfl dX5_leastSpeed_40 ?_
        refine lv_iconst (v := 0) hx hb dX5_leastSpeed_43 (by decide) ?_
        refine lv_iload_n hx hb dX5_leastSpeed_44 rfl (lv_at hl 2 rfl) ?_
        have hP := pmP (ca_pm1 (cs := cs) (ca := ca) (cv := (c_o cw 2 (k_X1_copyFrom (cw.2.1 2) (cw.2.1 0)))) (k := 2) (by decide)) hP
        have hD := pmD (ca_pm1 (cs := cs) (ca := ca) (cv := (c_o cw 2 (k_X1_copyFrom (cw.2.1 2) (cw.2.1 0)))) (k := 2) (by decide)) hD
        have hc_45 := c_X1_change l D cs (ca 12) (k_X1_copyFrom (cw.2.1 2) (cw.2.1 0)) 0 v
        obtain ⟨r_45, o_45, e_45⟩ : ∃ r9 o9, (k_X1_change (k_X1_copyFrom (cw.2.1 2) (cw.2.1 0)) 0 v) = (r9, o9) := ⟨_, _, rfl⟩
        rw [e_45] at hc_45 hres
        dsimp only at hc_45 hres
        refine kI_call (wc := (og_W cs (ca 12) (k_X1_copyFrom (cw.2.1 2) (cw.2.1 0)))) (wr := (ca_ro cs ca (c_o cw 2 (k_X1_copyFrom (cw.2.1 2) (cw.2.1 0))) 2)) (w1 := og_W cs (ca 12) o_45) (r := r_45) hE hP hD hS (k_rV (rest := []) (As := [.int 0, .int v]) hE rfl (hc_45 H.size) (cwV 2 hts gX5_leastSpeed_X1_change rfl rfl rfl (by decide +kernel) ⟨Nat.le_of_ble_eq_true rfl, Nat.le_of_ble_eq_true rfl⟩) hP hD hS (ci := 1) (q0 := 0) rfl rfl rfl hl rfl (Nat.le_of_ble_eq_true rfl) ⟨Nat.le_of_ble_eq_true rfl, Nat.le_of_ble_eq_true rfl⟩ dX5_leastSpeed_45) (fun H locs hP hD hS => ?_)
        have hP := pmP (ca_bk1 (cs := cs) (ca := ca) (cv := (c_o cw 2 (k_X1_copyFrom (cw.2.1 2) (cw.2.1 0)))) (k := 2) (by decide)) hP
        have hD := pmD (ca_bk1 (cs := cs) (ca := ca) (cv := (c_o cw 2 (k_X1_copyFrom (cw.2.1 2) (cw.2.1 0)))) (k := 2) (by decide)) hD
        have hP : va_P D vwCl (ca_W cs ca (c_o cw 2 o_45)) H := hP
        have hD : va_D A (ca_W cs ca (c_o cw 2 o_45)) := hD
        refine lv_pop hx hb dX5_leastSpeed_48 rfl ?_
        refine lv_aload_n hx hb dX5_leastSpeed_49 rfl (lv_at hl 0 rfl) ?_
        refine va_get (D := D) (ci := 5) (v := .ref (ca 12 0)) (C := RX5) (T := TX5) (N := 6) hx hb hts hinX5 hown hK hP 0 rfl rfl 3 (by decide) lk_1 (fun _ h9 => h9) rfl dX5_leastSpeed_50 ?_
        refine lv_iload_n hx hb dX5_leastSpeed_53 rfl (lv_at hl 1 rfl) ?_
        have hP := pmP (ca_pm1 (cs := cs) (ca := ca) (cv := (c_o cw 2 o_45)) (k := 2) (by decide)) hP
        have hD := pmD (ca_pm1 (cs := cs) (ca := ca) (cv := (c_o cw 2 o_45)) (k := 2) (by decide)) hD
        have hc_54 := c_X1_play l D cs (ca 12) o_45 vn (OI_changeE e_45 (OI_copy (hC2.1 0 (by decide))))
        obtain ⟨r_54, o_54, e_54⟩ : ∃ r9 o9, (k_X1_play o_45 vn) = (r9, o9) := ⟨_, _, rfl⟩
        rw [e_54] at hc_54 hres
        dsimp only at hc_54 hres
        refine kI_call (wc := (og_W cs (ca 12) o_45)) (wr := (ca_ro cs ca (c_o cw 2 o_45) 2)) (w1 := og_W cs (ca 12) o_54) (r := r_54) hE hP hD hS (k_rV (rest := []) (As := [.int vn]) hE rfl (hc_54 H.size) (cwV 1 hts gX5_leastSpeed_X1_play rfl rfl rfl (by decide +kernel) ⟨Nat.le_of_ble_eq_true rfl, Nat.le_of_ble_eq_true rfl⟩) hP hD hS (ci := 1) (q0 := 0) rfl rfl rfl hl rfl (Nat.le_of_ble_eq_true rfl) ⟨Nat.le_of_ble_eq_true rfl, Nat.le_of_ble_eq_true rfl⟩ dX5_leastSpeed_54) (fun H locs hP hD hS => ?_)
        have hP := pmP (ca_bk1 (cs := cs) (ca := ca) (cv := (c_o cw 2 o_45)) (k := 2) (by decide)) hP
        have hD := pmD (ca_bk1 (cs := cs) (ca := ca) (cv := (c_o cw 2 o_45)) (k := 2) (by decide)) hD
        have hP : va_P D vwCl (ca_W cs ca (c_o cw 2 o_54)) H := hP
        have hD : va_D A (ca_W cs ca (c_o cw 2 o_54)) := hD
        refine lv_pop hx hb dX5_leastSpeed_57 rfl ?_
        refine lv_aload_n hx hb dX5_leastSpeed_58 rfl (lv_at hl 0 rfl) ?_
        refine va_get (D := D) (ci := 5) (v := .ref (ca 12 0)) (C := RX5) (T := TX5) (N := 6) hx hb hts hinX5 hown hK hP 0 rfl rfl 3 (by decide) lk_1 (fun _ h9 => h9) rfl dX5_leastSpeed_59 ?_
        refine va_getN (D := D) (ci := 1) (v := .int (o_54.1 7)) (C := RX1) (T := TX1) (N := 17) hx hb hts hinX1 hown hK (k_left (pmP (ca_pm1 (k := 2) (by decide)) hP)) 0 rfl rfl 14 (by decide) (va_Nw.use rfl (hG.1.1 _ _ _ _ _ _ nf_X5_229)) (fun _ h9 => h9) rfl dX5_leastSpeed_62 ?_
        refine lv_aload_n hx hb dX5_leastSpeed_65 rfl (lv_at hl 0 rfl) ?_
        refine va_get (D := D) (ci := 5) (v := .ref (ca 10 0)) (C := RX5) (T := TX5) (N := 6) hx hb hts hinX5 hown hK hP 0 rfl rfl 1 (by decide) lk_2 (fun _ h9 => h9) rfl dX5_leastSpeed_66 ?_
        refine va_getN (D := D) (ci := 1) (v := .int ((cw.2.1 0).1 7)) (C := RX1) (T := TX1) (N := 17) hx hb hts hinX1 hown hK (k_left (pmP (ca_pm1 (k := 0) (by decide)) hP)) 0 rfl rfl 14 (by decide) (va_Nw.use rfl (hG.1.1 _ _ _ _ _ _ nf_X5_229)) (fun _ h9 => h9) rfl dX5_leastSpeed_69 ?_
        refine lv_icmp_ne (tgt := 77) hx hb dX5_leastSpeed_72 (by decide) (fun c_72 => ?_) (fun c_72 => ?_)
        · skip
          have c_72 : ¬ ((o_54.1 7) = ((cw.2.1 0).1 7)) := c_72
          rw [if_neg c_72] at hres
          refine lv_iinc (v := (v + 1)) (lv' := [(2, .int (v + 1)), (0, .ref (ca 0 0)), (1, .int vn)]) hx hb dX5_leastSpeed_77 hl (k := 2) rfl (by rfl) (by decide) rfl (fun ls hl => ?_)
          refine lv_goto (tgt := 19) hx hb dX5_leastSpeed_80 (by decide) ?_
          exact ih (v + 1) (c_o cw 2 o_54) (j + 1) (by rw [hi, nI_1]) (by omega) (by have := c_25; rw [i_lt, hi, nI_toInt (by omega)] at this; have e9 : (3 : Int32).toInt = 3 := rfl; omega) ((CO_o hC2 (OI_playE e_54 (OI_changeE e_45 (OI_copy (hC2.1 0 (by decide))))))) _ _ _ hS hP hD (lv_sub hl [1, 2, 0] rfl) hres
        · skip
          have c_72 : ((o_54.1 7) = ((cw.2.1 0).1 7)) := c_72
          rw [if_pos c_72] at hres
          refine lv_iload_n hx hb dX5_leastSpeed_75 rfl (lv_at hl 2 rfl) ?_
          subst hres
          exact kX_ret hE hS hP hD rfl rfl rfl (Nat.le_of_ble_eq_true rfl) (Nat.le_of_ble_eq_true rfl) dX5_leastSpeed_76
  unfold k_X5_leastSpeed at hres
  refine lv_iload_n hx hb dX5_leastSpeed_0 rfl (lv_at hl 1 rfl) ?_
  have hP : va_P D vwCl ([] ++ (ca_W cs ca cv)) H := hP
  have hD : va_D A ([] ++ (ca_W cs ca cv)) := hD
  have hc_1 := c_X5_isTicks l D cs vn
  refine kI_call (wc := []) (wr := (ca_W cs ca cv)) (w1 := []) (r := (k_X5_isTicks vn)) hE hP hD hS (k_rS (rest := []) (As := [.int vn]) hE rfl (hc_1 H.size) (va_cwS 1 hts gX5_leastSpeed_X5_isTicks rfl rfl rfl (by decide +kernel) ⟨Nat.le_of_ble_eq_true rfl, Nat.le_of_ble_eq_true rfl⟩) hP hD hS rfl hl rfl (Nat.le_of_ble_eq_true rfl) ⟨Nat.le_of_ble_eq_true rfl, Nat.le_of_ble_eq_true rfl⟩ dX5_leastSpeed_1) (fun H locs hP hD hS => ?_)
  have hP : va_P D vwCl (ca_W cs ca cv) H := hP
  have hD : va_D A (ca_W cs ca cv) := hD
  refine lv_if_ne (tgt := 17) hx hb dX5_leastSpeed_4 (by decide) (fun c_4 => ?_) (fun c_4 => ?_)
  · skip
    have c_4 : ¬ ((k_X5_isTicks vn) = 0) := c_4
    rw [if_neg c_4] at hres
    refine lv_iconst (v := 0) hx hb dX5_leastSpeed_17 (by decide) ?_
    refine lv_istore_n (lv' := [(2, .int 0), (0, .ref (ca 0 0)), (1, .int vn)]) hx hb dX5_leastSpeed_18 rfl hl (by decide) rfl (fun ls hl => ?_)
    exact L19 5 0 cv 0 ((show (0 : Int32) = nI 0 from rfl)) (rfl) (by decide) (hC) _ _ _ hS hP hD (lv_sub hl [1, 2, 0] rfl) hres
  · skip
    have c_4 : ((k_X5_isTicks vn) = 0) := c_4
    rw [if_pos c_4] at hres
    subst hres
    exact kX_throw hE hfl hxt hS hP hD hl rfl (by decide) lk_3 lk_4 sr_202 xg_47 (by decide +kernel) xb_47 dX5_leastSpeed_7 dX5_leastSpeed_10 dX5_leastSpeed_11 dX5_leastSpeed_13 dX5_leastSpeed_16 (Nat.le_of_ble_eq_true rfl) (Nat.le_of_ble_eq_true rfl) (Nat.le_of_ble_eq_true rfl) (Nat.le_of_ble_eq_true rfl) (Nat.le_of_ble_eq_true rfl) (Nat.le_of_ble_eq_true rfl) rfl
