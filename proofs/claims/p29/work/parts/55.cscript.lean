def k_X5_withoutLastGroups_L5 (vs : Int64) (vn : Int32) : Nat → Int32 → Int64 → (Int64)
  | 0, _, _ => 0
  | n + 1, i, acc => (if vn ≤ i then acc else (k_X5_withoutLastGroups_L5 vs vn n (i + 1) (acc / 100000)))
def k_X5_withoutLastGroups (vs : Int64) (vn : Int32) : Int64 := (k_X5_withoutLastGroups_L5 vs vn (vn.toInt.toNat + 2) 0 vs)
set_option maxHeartbeats 4000000 in
set_option maxRecDepth 100000 in
theorem c_X5_withoutLastGroups (l : Launch) (D : va_G) (cs : Nat → ClassId) (vs : Int64) (vn : Int32) : kJ l yX5_withoutLastGroups wsX5_withoutLastGroups { frames := 0, cells := 0, slots := 0, locals := 0 } 0 0 D cs [.long vs, .int vn] ([]) (k_X5_withoutLastGroups vs vn) ([]) := by
  generalize hres : k_X5_withoutLastGroups vs vn = res
  refine kJ_of (cc := cX5_withoutLastGroups) (maxL := 6) (ret := (some .long)) (by decide) rfl (Nat.le_of_ble_eq_true rfl) ?_
  intro p e s m below meth c A ls H locs hE hS hP hD hl
  obtain ⟨hx, hb, hr, hlocks, hml, hown, hts, hK, hA, hG, hnm⟩ := id hE
  have hown : s.vm.findClass RX5 = some m.cls := hown
  have hl : lv_has ls 6 [(0, .long vs), (2, .int vn)] := hl
  have lk_0 := hts (.constantLong RX5 251 100000) (by decide +kernel)
  have L5 : ∀ (n : Nat) (i : Int32) (acc : Int64) (j : Nat) (hi : i = nI j) (hj : j + n = vn.toInt.toNat + 2) (hj2 : j ≤ vn.toInt.toNat) (H : Heap) (locs : List Loc) (ls : Array Slot), va_S A s.heap H locs → va_P D vwCl ([]) H → va_D A ([]) → lv_has ls 6 [(0, .long vs), (2, .int vn), (3, .long acc), (5, .int i)] → k_X5_withoutLastGroups_L5 vs vn n i acc = res → W p l e { frames := 0, cells := 0, slots := 0, locals := 0 } s m ([.long vs, .int vn]).toArray below meth c H locs 0 0 (MQ below (va_Ql (fun (r' : Int64) (_ : Unit) => r' = res) (kB D (fun _ => []) A) A) ([.long vs, .int vn]).toArray s 0 0 A) (F0 m 5 ls []) := by
    intro n
    induction n with
    | zero =>
      intro i acc j hi hj hj2 H locs ls hS hP hD hl hres
      exact absurd hj2 (by omega)
    | succ n ih =>
      intro i acc j hi hj hj2 H locs ls hS hP hD hl hres
      unfold k_X5_withoutLastGroups_L5 at hres
      refine lv_iload hx hb dX5_withoutLastGroups_5 (lv_at hl 3 rfl) ?_
      refine lv_iload_n hx hb dX5_withoutLastGroups_7 rfl (lv_at hl 1 rfl) ?_
      refine lv_icmp_ge (tgt := 23) hx hb dX5_withoutLastGroups_8 (by decide) (fun c_8 => ?_) (fun c_8 => ?_)
      · skip
        have c_8 : (vn ≤ i) := c_8
        rw [if_pos c_8] at hres
        refine lv_lload_n hx hb dX5_withoutLastGroups_23 rfl (lv_at hl 2 rfl) ?_
        subst hres
        exact kJ_ret hE hS hP hD rfl (Nat.le_of_ble_eq_true rfl) (Nat.le_of_ble_eq_true rfl) dX5_withoutLastGroups_24
      · skip
        have c_8 : ¬ (vn ≤ i) := c_8
        rw [if_neg c_8] at hres
        refine lv_lload_n hx hb dX5_withoutLastGroups_11 rfl (lv_at hl 2 rfl) ?_
        refine lv_ldc2 (v := 100000) hx hb hown lk_0 dX5_withoutLastGroups_12 ?_
        refine lv_ldiv hx hb dX5_withoutLastGroups_15 (by decide) ?_
        refine lv_lstore_n (lv' := [(3, .long (acc / 100000)), (0, .long vs), (2, .int vn), (5, .int i)]) hx hb dX5_withoutLastGroups_16 rfl hl (by decide) rfl (fun ls hl => ?_)
        refine lv_iinc (v := (i + 1)) (lv' := [(5, .int (i + 1)), (3, .long (acc / 100000)), (0, .long vs), (2, .int vn)]) hx hb dX5_withoutLastGroups_17 hl (k := 3) rfl (by rfl) (by decide) rfl (fun ls hl => ?_)
        refine lv_goto (tgt := 5) hx hb dX5_withoutLastGroups_20 (by decide) ?_
        exact ih (i + 1) (acc / 100000) (j + 1) (by rw [hi, nI_1]) (by omega) (by have hq9 := Int32.toInt_lt vn; rw [i_le, hi, nI_toInt (by omega)] at c_8; omega) _ _ _ hS hP hD (lv_sub hl [2, 3, 1, 0] rfl) hres
  unfold k_X5_withoutLastGroups at hres
  refine lv_lload_n hx hb dX5_withoutLastGroups_0 rfl (lv_at hl 0 rfl) ?_
  refine lv_lstore_n (lv' := [(3, .long vs), (0, .long vs), (2, .int vn)]) hx hb dX5_withoutLastGroups_1 rfl hl (by decide) rfl (fun ls hl => ?_)
  refine lv_iconst (v := 0) hx hb dX5_withoutLastGroups_2 (by decide) ?_
  refine lv_istore (lv' := [(5, .int 0), (3, .long vs), (0, .long vs), (2, .int vn)]) hx hb dX5_withoutLastGroups_3 hl (by decide) rfl (fun ls hl => ?_)
  exact L5 (vn.toInt.toNat + 2) 0 vs 0 (nI_0.symm) (Nat.zero_add _) (Nat.zero_le _) _ _ _ hS hP hD (lv_sub hl [2, 3, 1, 0] rfl) hres
def k_X5_obeysGroup (cv : CV) (vg : Int32) : Int32 × CV := (if (vg / 10000) = 1 then (match (k_X1_orderPut (cv.2.1 2) ((vg / 1000) - (vg / 1000) / 10 * 10) ((10 * ((vg / 100) - (vg / 100) / 10 * 10)) + ((vg / 10) - (vg / 10) / 10 * 10)) (vg - vg / 10 * 10)) with | (r_117, o_117) => (if r_117 = (-1) then (0, (c_o cv 2 o_117)) else (1, (c_o cv 2 o_117)))) else (if (vg / 10000) = 2 then (if (vg - vg / 10 * 10) = 0 then (match (k_X1_orderPull (cv.2.1 2) ((vg / 1000) - (vg / 1000) / 10 * 10) ((10 * ((vg / 100) - (vg / 100) / 10 * 10)) + ((vg / 10) - (vg / 10) / 10 * 10))) with | (r_142, o_142) => (if r_142 = (-1) then (0, (c_o cv 2 o_142)) else (1, (c_o cv 2 o_142)))) else (0, cv)) else (if (vg / 10000) = 3 then (if ((vg / 1000) - (vg / 1000) / 10 * 10) = 0 then (if ((vg / 100) - (vg / 100) / 10 * 10) = 0 then (match (k_X1_play (cv.2.1 2) ((10 * ((vg / 10) - (vg / 10) / 10 * 10)) + (vg - vg / 10 * 10))) with | (r_169, o_169) => (if r_169 = (-1) then (0, (c_o cv 2 o_169)) else (1, (c_o cv 2 o_169)))) else (0, cv)) else (0, cv)) else (if (vg / 10000) = 4 then (if ((vg / 100) - (vg / 100) / 10 * 10) = 0 then (match (k_X1_change (cv.2.1 2) ((vg / 1000) - (vg / 1000) / 10 * 10) ((10 * ((vg / 10) - (vg / 10) / 10 * 10)) + (vg - vg / 10 * 10))) with | (r_193, o_193) => (if r_193 = (-1) then (0, (c_o cv 2 o_193)) else (1, (c_o cv 2 o_193)))) else (0, cv)) else (if (vg / 10000) = 5 then (if ((vg / 1000) - (vg / 1000) / 10 * 10) = 0 then (if (vg - vg / 10 * 10) = 0 then (match (k_X1_dropOrder (cv.2.1 2) ((10 * ((vg / 100) - (vg / 100) / 10 * 10)) + ((vg / 10) - (vg / 10) / 10 * 10))) with | (r_221, o_221) => (if r_221 = (-1) then (0, (c_o cv 2 o_221)) else (1, (c_o cv 2 o_221)))) else (0, cv)) else (0, cv)) else (if (vg / 10000) = 6 then (if (vg - vg / 10 * 10) = 0 then (if (k_X5_isPipe ((vg / 1000) - (vg / 1000) / 10 * 10)) = 0 then (0, cv) else (if (k_X5_isBar ((10 * ((vg / 100) - (vg / 100) / 10 * 10)) + ((vg / 10) - (vg / 10) / 10 * 10))) = 0 then (0, cv) else (if (k_X1_isOpen (cv.2.1 2) ((vg / 1000) - (vg / 1000) / 10 * 10) ((10 * ((vg / 100) - (vg / 100) / 10 * 10)) + ((vg / 10) - (vg / 10) / 10 * 10))) = 0 then (0, cv) else (1, cv)))) else (0, cv)) else (if (vg / 10000) = 7 then (if ((vg / 1000) - (vg / 1000) / 10 * 10) = 0 then (if ((vg / 100) - (vg / 100) / 10 * 10) = 0 then (if ((cv.2.1 2).1 3) < ((10 * ((vg / 10) - (vg / 10) / 10 * 10)) + (vg - vg / 10 * 10)) then (0, cv) else (1, cv)) else (0, cv)) else (0, cv)) else (if (vg / 10000) = 8 then (if ((vg / 1000) - (vg / 1000) / 10 * 10) = 0 then (if ((vg / 100) - (vg / 100) / 10 * 10) = 0 then (if ((vg / 10) - (vg / 10) / 10 * 10) = 0 then (if (vg - vg / 10 * 10) < ((cv.2.1 2).1 11) then (0, cv) else (1, cv)) else (0, cv)) else (0, cv)) else (0, cv)) else (if (vg / 10000) = 9 then (if ((vg / 1000) - (vg / 1000) / 10 * 10) = 0 then (if ((vg / 100) - (vg / 100) / 10 * 10) = 0 then (if (k_X1_soundedAgo (cv.2.1 2) 0) = ((10 * ((vg / 10) - (vg / 10) / 10 * 10)) + (vg - vg / 10 * 10)) then (1, cv) else (0, cv)) else (0, cv)) else (0, cv)) else (0, cv))))))))))
set_option maxHeartbeats 4000000 in
set_option maxRecDepth 100000 in
theorem c_X5_obeysGroup (l : Launch) (D : va_G) (cs : Nat → ClassId) (ca : Nat → Nat → Nat) (cv : CV) (vg : Int32) (hC : CO cv) : kI l yX5_obeysGroup wsX5_obeysGroup { frames := 6, cells := 0, slots := 0, locals := 152 } 0 0 D cs [.ref (ca 0 0), .int vg] (ca_W cs ca cv) (k_X5_obeysGroup cv vg).1 (ca_W cs ca ((k_X5_obeysGroup cv vg).2)) := by
  generalize hres : k_X5_obeysGroup cv vg = res
  refine kI_of (cc := cX5_obeysGroup) (maxL := 8) (ret := (some .boolean)) (by decide) rfl (Nat.le_of_ble_eq_true rfl) ?_
  intro p e s m below meth c A ls H locs hE hS hP hD hl
  obtain ⟨hx, hb, hr, hlocks, hml, hown, hts, hK, hA, hG, hnm⟩ := id hE
  have hown : s.vm.findClass RX5 = some m.cls := hown
  have hl : lv_has ls 8 [(0, .ref (ca 0 0)), (1, .int vg)] := hl
  have hinX1 : ∀ w ∈ wsX10, w ∈ wsX5_obeysGroup := by decide +kernel
  have hinX4 : ∀ w ∈ wsX40, w ∈ wsX5_obeysGroup := by decide +kernel
  have hinX5 : ∀ w ∈ wsX50, w ∈ wsX5_obeysGroup := by decide +kernel
  have lk_0 := hts (.fieldLink RX5 26 "OrganPegs" "trial" "LOrganPegs$Organ;") (by decide +kernel)
  unfold k_X5_obeysGroup at hres
  refine lv_iload_n hx hb dX5_obeysGroup_0 rfl (lv_at hl 1 rfl) ?_
  refine lv_sipush (v := 1000) hx hb dX5_obeysGroup_1 (by decide) ?_
  refine lv_idiv hx hb dX5_obeysGroup_4 (by decide) ?_
  refine lv_bipush (v := 10) hx hb dX5_obeysGroup_5 (by decide) ?_
  refine lv_irem hx hb dX5_obeysGroup_7 (by decide) ?_
  refine lv_istore_n (lv' := [(2, .int ((vg / 1000) - (vg / 1000) / 10 * 10)), (0, .ref (ca 0 0)), (1, .int vg)]) hx hb dX5_obeysGroup_8 rfl hl (by decide) rfl (fun ls hl => ?_)
  refine lv_iload_n hx hb dX5_obeysGroup_9 rfl (lv_at hl 2 rfl) ?_
  refine lv_bipush (v := 100) hx hb dX5_obeysGroup_10 (by decide) ?_
  refine lv_idiv hx hb dX5_obeysGroup_12 (by decide) ?_
  refine lv_bipush (v := 10) hx hb dX5_obeysGroup_13 (by decide) ?_
  refine lv_irem hx hb dX5_obeysGroup_15 (by decide) ?_
  refine lv_istore_n (lv' := [(3, .int ((vg / 100) - (vg / 100) / 10 * 10)), (2, .int ((vg / 1000) - (vg / 1000) / 10 * 10)), (0, .ref (ca 0 0)), (1, .int vg)]) hx hb dX5_obeysGroup_16 rfl hl (by decide) rfl (fun ls hl => ?_)
  refine lv_iload_n hx hb dX5_obeysGroup_17 rfl (lv_at hl 3 rfl) ?_
  refine lv_bipush (v := 10) hx hb dX5_obeysGroup_18 (by decide) ?_
  refine lv_idiv hx hb dX5_obeysGroup_20 (by decide) ?_
  refine lv_bipush (v := 10) hx hb dX5_obeysGroup_21 (by decide) ?_
  refine lv_irem hx hb dX5_obeysGroup_23 (by decide) ?_
  refine lv_istore (lv' := [(4, .int ((vg / 10) - (vg / 10) / 10 * 10)), (3, .int ((vg / 100) - (vg / 100) / 10 * 10)), (2, .int ((vg / 1000) - (vg / 1000) / 10 * 10)), (0, .ref (ca 0 0)), (1, .int vg)]) hx hb dX5_obeysGroup_24 hl (by decide) rfl (fun ls hl => ?_)
  refine lv_iload_n hx hb dX5_obeysGroup_26 rfl (lv_at hl 4 rfl) ?_
  refine lv_bipush (v := 10) hx hb dX5_obeysGroup_27 (by decide) ?_
  refine lv_irem hx hb dX5_obeysGroup_29 (by decide) ?_
  refine lv_istore (lv' := [(5, .int (vg - vg / 10 * 10)), (4, .int ((vg / 10) - (vg / 10) / 10 * 10)), (3, .int ((vg / 100) - (vg / 100) / 10 * 10)), (2, .int ((vg / 1000) - (vg / 1000) / 10 * 10)), (0, .ref (ca 0 0)), (1, .int vg)]) hx hb dX5_obeysGroup_30 hl (by decide) rfl (fun ls hl => ?_)
  refine lv_bipush (v := 10) hx hb dX5_obeysGroup_32 (by decide) ?_
  refine lv_iload_n hx hb dX5_obeysGroup_34 rfl (lv_at hl 2 rfl) ?_
  refine lv_imul hx hb dX5_obeysGroup_35 ?_
  refine lv_iload hx hb dX5_obeysGroup_36 (lv_at hl 1 rfl) ?_
  refine lv_iadd hx hb dX5_obeysGroup_38 ?_
  refine lv_istore (lv' := [(6, .int ((10 * ((vg / 100) - (vg / 100) / 10 * 10)) + ((vg / 10) - (vg / 10) / 10 * 10))), (5, .int (vg - vg / 10 * 10)), (4, .int ((vg / 10) - (vg / 10) / 10 * 10)), (3, .int ((vg / 100) - (vg / 100) / 10 * 10)), (2, .int ((vg / 1000) - (vg / 1000) / 10 * 10)), (0, .ref (ca 0 0)), (1, .int vg)]) hx hb dX5_obeysGroup_39 hl (by decide) rfl (fun ls hl => ?_)
  refine lv_bipush (v := 10) hx hb dX5_obeysGroup_41 (by decide) ?_
  refine lv_iload hx hb dX5_obeysGroup_43 (lv_at hl 2 rfl) ?_
  refine lv_imul hx hb dX5_obeysGroup_45 ?_
  refine lv_iload hx hb dX5_obeysGroup_46 (lv_at hl 1 rfl) ?_
  refine lv_iadd hx hb dX5_obeysGroup_48 ?_
  refine lv_istore (lv' := [(7, .int ((10 * ((vg / 10) - (vg / 10) / 10 * 10)) + (vg - vg / 10 * 10))), (6, .int ((10 * ((vg / 100) - (vg / 100) / 10 * 10)) + ((vg / 10) - (vg / 10) / 10 * 10))), (5, .int (vg - vg / 10 * 10)), (4, .int ((vg / 10) - (vg / 10) / 10 * 10)), (3, .int ((vg / 100) - (vg / 100) / 10 * 10)), (2, .int ((vg / 1000) - (vg / 1000) / 10 * 10)), (0, .ref (ca 0 0)), (1, .int vg)]) hx hb dX5_obeysGroup_49 hl (by decide) rfl (fun ls hl => ?_)
  refine lv_iload_n hx hb dX5_obeysGroup_51 rfl (lv_at hl 7 rfl) ?_
  refine lv_sipush (v := 10000) hx hb dX5_obeysGroup_52 (by decide) ?_
  refine lv_idiv hx hb dX5_obeysGroup_55 (by decide) ?_
  by_cases c_56_1 : (vg / 10000) = 1
  · skip
    rw [if_pos c_56_1] at hres
    refine lv_tableIn (tgt := 108) (off := 52) hx hb dX5_obeysGroup_56 (by rw [c_56_1]; decide) (by rw [c_56_1]; decide) (by rw [c_56_1]; rfl) (by decide) ?_
    refine lv_aload_n hx hb dX5_obeysGroup_108 rfl (lv_at hl 6 rfl) ?_
    refine va_get (D := D) (ci := 5) (v := .ref (ca 12 0)) (C := RX5) (T := TX5) (N := 6) hx hb hts hinX5 hown hK hP 0 rfl rfl 3 (by decide) lk_0 (fun _ h9 => h9) rfl dX5_obeysGroup_109 ?_
    refine lv_iload_n hx hb dX5_obeysGroup_112 rfl (lv_at hl 5 rfl) ?_
    refine lv_iload hx hb dX5_obeysGroup_113 (lv_at hl 1 rfl) ?_
    refine lv_iload hx hb dX5_obeysGroup_115 (lv_at hl 2 rfl) ?_
    have hP := pmP (ca_pm1 (cs := cs) (ca := ca) (cv := cv) (k := 2) (by decide)) hP
    have hD := pmD (ca_pm1 (cs := cs) (ca := ca) (cv := cv) (k := 2) (by decide)) hD
    have hc_117 := c_X1_orderPut l D cs (ca 12) (cv.2.1 2) ((vg / 1000) - (vg / 1000) / 10 * 10) ((10 * ((vg / 100) - (vg / 100) / 10 * 10)) + ((vg / 10) - (vg / 10) / 10 * 10)) (vg - vg / 10 * 10)
    obtain ⟨r_117, o_117, e_117⟩ : ∃ r9 o9, (k_X1_orderPut (cv.2.1 2) ((vg / 1000) - (vg / 1000) / 10 * 10) ((10 * ((vg / 100) - (vg / 100) / 10 * 10)) + ((vg / 10) - (vg / 10) / 10 * 10)) (vg - vg / 10 * 10)) = (r9, o9) := ⟨_, _, rfl⟩
    rw [e_117] at hc_117 hres
    dsimp only at hc_117 hres
    refine kI_call (wc := (og_W cs (ca 12) (cv.2.1 2))) (wr := (ca_ro cs ca cv 2)) (w1 := og_W cs (ca 12) o_117) (r := r_117) hE hP hD hS (k_rV (rest := []) (As := [.int ((vg / 1000) - (vg / 1000) / 10 * 10), .int ((10 * ((vg / 100) - (vg / 100) / 10 * 10)) + ((vg / 10) - (vg / 10) / 10 * 10)), .int (vg - vg / 10 * 10)]) hE rfl (hc_117 H.size) (cwV 3 hts gX5_obeysGroup_X1_orderPut rfl rfl rfl (by decide +kernel) ⟨Nat.le_of_ble_eq_true rfl, Nat.le_of_ble_eq_true rfl⟩) hP hD hS (ci := 1) (q0 := 0) rfl rfl rfl hl rfl (Nat.le_of_ble_eq_true rfl) ⟨Nat.le_of_ble_eq_true rfl, Nat.le_of_ble_eq_true rfl⟩ dX5_obeysGroup_117) (fun H locs hP hD hS => ?_)
    have hP := pmP (ca_bk1 (cs := cs) (ca := ca) (cv := cv) (k := 2) (by decide)) hP
    have hD := pmD (ca_bk1 (cs := cs) (ca := ca) (cv := cv) (k := 2) (by decide)) hD
    have hP : va_P D vwCl (ca_W cs ca (c_o cv 2 o_117)) H := hP
    have hD : va_D A (ca_W cs ca (c_o cv 2 o_117)) := hD
    refine lv_iconst (v := (-1)) hx hb dX5_obeysGroup_120 (by decide) ?_
    refine lv_icmp_eq (tgt := 128) hx hb dX5_obeysGroup_121 (by decide) (fun c_121 => ?_) (fun c_121 => ?_)
    · skip
      have c_121 : (r_117 = (-1)) := c_121
      rw [if_pos c_121] at hres
      refine lv_iconst (v := 0) hx hb dX5_obeysGroup_128 (by decide) ?_
      subst hres
      exact kI_ret hE hS hP hD rfl rfl (Nat.le_of_ble_eq_true rfl) (Nat.le_of_ble_eq_true rfl) dX5_obeysGroup_129
    · skip
      have c_121 : ¬ (r_117 = (-1)) := c_121
      rw [if_neg c_121] at hres
      refine lv_iconst (v := 1) hx hb dX5_obeysGroup_124 (by decide) ?_
      refine lv_goto (tgt := 129) hx hb dX5_obeysGroup_125 (by decide) ?_
      subst hres
      exact kI_ret hE hS hP hD rfl rfl (Nat.le_of_ble_eq_true rfl) (Nat.le_of_ble_eq_true rfl) dX5_obeysGroup_129
  · skip
    rw [if_neg c_56_1] at hres
    by_cases c_56_2 : (vg / 10000) = 2
    · skip
      rw [if_pos c_56_2] at hres
      refine lv_tableIn (tgt := 130) (off := 74) hx hb dX5_obeysGroup_56 (by rw [c_56_2]; decide) (by rw [c_56_2]; decide) (by rw [c_56_2]; rfl) (by decide) ?_
      refine lv_iload hx hb dX5_obeysGroup_130 (lv_at hl 2 rfl) ?_
      refine lv_if_ne (tgt := 153) hx hb dX5_obeysGroup_132 (by decide) (fun c_132 => ?_) (fun c_132 => ?_)
      · skip
        have c_132 : ¬ ((vg - vg / 10 * 10) = 0) := c_132
        rw [if_neg c_132] at hres
        refine lv_iconst (v := 0) hx hb dX5_obeysGroup_153 (by decide) ?_
        subst hres
        exact kI_ret hE hS hP hD rfl rfl (Nat.le_of_ble_eq_true rfl) (Nat.le_of_ble_eq_true rfl) dX5_obeysGroup_154
      · skip
        have c_132 : ((vg - vg / 10 * 10) = 0) := c_132
        rw [if_pos c_132] at hres
        refine lv_aload_n hx hb dX5_obeysGroup_135 rfl (lv_at hl 6 rfl) ?_
        refine va_get (D := D) (ci := 5) (v := .ref (ca 12 0)) (C := RX5) (T := TX5) (N := 6) hx hb hts hinX5 hown hK hP 0 rfl rfl 3 (by decide) lk_0 (fun _ h9 => h9) rfl dX5_obeysGroup_136 ?_
        refine lv_iload_n hx hb dX5_obeysGroup_139 rfl (lv_at hl 5 rfl) ?_
        refine lv_iload hx hb dX5_obeysGroup_140 (lv_at hl 1 rfl) ?_
        have hP := pmP (ca_pm1 (cs := cs) (ca := ca) (cv := cv) (k := 2) (by decide)) hP
        have hD := pmD (ca_pm1 (cs := cs) (ca := ca) (cv := cv) (k := 2) (by decide)) hD
        have hc_142 := c_X1_orderPull l D cs (ca 12) (cv.2.1 2) ((vg / 1000) - (vg / 1000) / 10 * 10) ((10 * ((vg / 100) - (vg / 100) / 10 * 10)) + ((vg / 10) - (vg / 10) / 10 * 10))
        obtain ⟨r_142, o_142, e_142⟩ : ∃ r9 o9, (k_X1_orderPull (cv.2.1 2) ((vg / 1000) - (vg / 1000) / 10 * 10) ((10 * ((vg / 100) - (vg / 100) / 10 * 10)) + ((vg / 10) - (vg / 10) / 10 * 10))) = (r9, o9) := ⟨_, _, rfl⟩
        rw [e_142] at hc_142 hres
        dsimp only at hc_142 hres
        refine kI_call (wc := (og_W cs (ca 12) (cv.2.1 2))) (wr := (ca_ro cs ca cv 2)) (w1 := og_W cs (ca 12) o_142) (r := r_142) hE hP hD hS (k_rV (rest := []) (As := [.int ((vg / 1000) - (vg / 1000) / 10 * 10), .int ((10 * ((vg / 100) - (vg / 100) / 10 * 10)) + ((vg / 10) - (vg / 10) / 10 * 10))]) hE rfl (hc_142 H.size) (cwV 2 hts gX5_obeysGroup_X1_orderPull rfl rfl rfl (by decide +kernel) ⟨Nat.le_of_ble_eq_true rfl, Nat.le_of_ble_eq_true rfl⟩) hP hD hS (ci := 1) (q0 := 0) rfl rfl rfl hl rfl (Nat.le_of_ble_eq_true rfl) ⟨Nat.le_of_ble_eq_true rfl, Nat.le_of_ble_eq_true rfl⟩ dX5_obeysGroup_142) (fun H locs hP hD hS => ?_)
        have hP := pmP (ca_bk1 (cs := cs) (ca := ca) (cv := cv) (k := 2) (by decide)) hP
        have hD := pmD (ca_bk1 (cs := cs) (ca := ca) (cv := cv) (k := 2) (by decide)) hD
        have hP : va_P D vwCl (ca_W cs ca (c_o cv 2 o_142)) H := hP
        have hD : va_D A (ca_W cs ca (c_o cv 2 o_142)) := hD
        refine lv_iconst (v := (-1)) hx hb dX5_obeysGroup_145 (by decide) ?_
        refine lv_icmp_eq (tgt := 153) hx hb dX5_obeysGroup_146 (by decide) (fun c_146 => ?_) (fun c_146 => ?_)
        · skip
          have c_146 : (r_142 = (-1)) := c_146
          rw [if_pos c_146] at hres
          refine lv_iconst (v := 0) hx hb dX5_obeysGroup_153 (by decide) ?_
          subst hres
          exact kI_ret hE hS hP hD rfl rfl (Nat.le_of_ble_eq_true rfl) (Nat.le_of_ble_eq_true rfl) dX5_obeysGroup_154
        · skip
          have c_146 : ¬ (r_142 = (-1)) := c_146
          rw [if_neg c_146] at hres
          refine lv_iconst (v := 1) hx hb dX5_obeysGroup_149 (by decide) ?_
          refine lv_goto (tgt := 154) hx hb dX5_obeysGroup_150 (by decide) ?_
          subst hres
          exact kI_ret hE hS hP hD rfl rfl (Nat.le_of_ble_eq_true rfl) (Nat.le_of_ble_eq_true rfl) dX5_obeysGroup_154
    · skip
      rw [if_neg c_56_2] at hres
      by_cases c_56_3 : (vg / 10000) = 3
      · skip
        rw [if_pos c_56_3] at hres
        refine lv_tableIn (tgt := 155) (off := 99) hx hb dX5_obeysGroup_56 (by rw [c_56_3]; decide) (by rw [c_56_3]; decide) (by rw [c_56_3]; rfl) (by decide) ?_
        refine lv_iload_n hx hb dX5_obeysGroup_155 rfl (lv_at hl 5 rfl) ?_
        refine lv_if_ne (tgt := 180) hx hb dX5_obeysGroup_156 (by decide) (fun c_156 => ?_) (fun c_156 => ?_)
        · skip
          have c_156 : ¬ (((vg / 1000) - (vg / 1000) / 10 * 10) = 0) := c_156
          rw [if_neg c_156] at hres
          refine lv_iconst (v := 0) hx hb dX5_obeysGroup_180 (by decide) ?_
          subst hres
          exact kI_ret hE hS hP hD rfl rfl (Nat.le_of_ble_eq_true rfl) (Nat.le_of_ble_eq_true rfl) dX5_obeysGroup_181
        · skip
          have c_156 : (((vg / 1000) - (vg / 1000) / 10 * 10) = 0) := c_156
          rw [if_pos c_156] at hres
          refine lv_iload_n hx hb dX5_obeysGroup_159 rfl (lv_at hl 4 rfl) ?_
          refine lv_if_ne (tgt := 180) hx hb dX5_obeysGroup_160 (by decide) (fun c_160 => ?_) (fun c_160 => ?_)
          · skip
            have c_160 : ¬ (((vg / 100) - (vg / 100) / 10 * 10) = 0) := c_160
            rw [if_neg c_160] at hres
            refine lv_iconst (v := 0) hx hb dX5_obeysGroup_180 (by decide) ?_
            subst hres
            exact kI_ret hE hS hP hD rfl rfl (Nat.le_of_ble_eq_true rfl) (Nat.le_of_ble_eq_true rfl) dX5_obeysGroup_181
          · skip
            have c_160 : (((vg / 100) - (vg / 100) / 10 * 10) = 0) := c_160
            rw [if_pos c_160] at hres
            refine lv_aload_n hx hb dX5_obeysGroup_163 rfl (lv_at hl 6 rfl) ?_
            refine va_get (D := D) (ci := 5) (v := .ref (ca 12 0)) (C := RX5) (T := TX5) (N := 6) hx hb hts hinX5 hown hK hP 0 rfl rfl 3 (by decide) lk_0 (fun _ h9 => h9) rfl dX5_obeysGroup_164 ?_
            refine lv_iload hx hb dX5_obeysGroup_167 (lv_at hl 0 rfl) ?_
            have hP := pmP (ca_pm1 (cs := cs) (ca := ca) (cv := cv) (k := 2) (by decide)) hP
            have hD := pmD (ca_pm1 (cs := cs) (ca := ca) (cv := cv) (k := 2) (by decide)) hD
            have hc_169 := c_X1_play l D cs (ca 12) (cv.2.1 2) ((10 * ((vg / 10) - (vg / 10) / 10 * 10)) + (vg - vg / 10 * 10)) (hC.1 2 (by decide))
            obtain ⟨r_169, o_169, e_169⟩ : ∃ r9 o9, (k_X1_play (cv.2.1 2) ((10 * ((vg / 10) - (vg / 10) / 10 * 10)) + (vg - vg / 10 * 10))) = (r9, o9) := ⟨_, _, rfl⟩
            rw [e_169] at hc_169 hres
            dsimp only at hc_169 hres
            refine kI_call (wc := (og_W cs (ca 12) (cv.2.1 2))) (wr := (ca_ro cs ca cv 2)) (w1 := og_W cs (ca 12) o_169) (r := r_169) hE hP hD hS (k_rV (rest := []) (As := [.int ((10 * ((vg / 10) - (vg / 10) / 10 * 10)) + (vg - vg / 10 * 10))]) hE rfl (hc_169 H.size) (cwV 1 hts gX5_obeysGroup_X1_play rfl rfl rfl (by decide +kernel) ⟨Nat.le_of_ble_eq_true rfl, Nat.le_of_ble_eq_true rfl⟩) hP hD hS (ci := 1) (q0 := 0) rfl rfl rfl hl rfl (Nat.le_of_ble_eq_true rfl) ⟨Nat.le_of_ble_eq_true rfl, Nat.le_of_ble_eq_true rfl⟩ dX5_obeysGroup_169) (fun H locs hP hD hS => ?_)
            have hP := pmP (ca_bk1 (cs := cs) (ca := ca) (cv := cv) (k := 2) (by decide)) hP
            have hD := pmD (ca_bk1 (cs := cs) (ca := ca) (cv := cv) (k := 2) (by decide)) hD
            have hP : va_P D vwCl (ca_W cs ca (c_o cv 2 o_169)) H := hP
            have hD : va_D A (ca_W cs ca (c_o cv 2 o_169)) := hD
            refine lv_iconst (v := (-1)) hx hb dX5_obeysGroup_172 (by decide) ?_
            refine lv_icmp_eq (tgt := 180) hx hb dX5_obeysGroup_173 (by decide) (fun c_173 => ?_) (fun c_173 => ?_)
            · skip
              have c_173 : (r_169 = (-1)) := c_173
              rw [if_pos c_173] at hres
              refine lv_iconst (v := 0) hx hb dX5_obeysGroup_180 (by decide) ?_
              subst hres
              exact kI_ret hE hS hP hD rfl rfl (Nat.le_of_ble_eq_true rfl) (Nat.le_of_ble_eq_true rfl) dX5_obeysGroup_181
            · skip
              have c_173 : ¬ (r_169 = (-1)) := c_173
              rw [if_neg c_173] at hres
              refine lv_iconst (v := 1) hx hb dX5_obeysGroup_176 (by decide) ?_
              refine lv_goto (tgt := 181) hx hb dX5_obeysGroup_177 (by decide) ?_
              subst hres
              exact kI_ret hE hS hP hD rfl rfl (Nat.le_of_ble_eq_true rfl) (Nat.le_of_ble_eq_true rfl) dX5_obeysGroup_181
      · skip
        rw [if_neg c_56_3] at hres
        by_cases c_56_4 : (vg / 10000) = 4
        · skip
          rw [if_pos c_56_4] at hres
          refine lv_tableIn (tgt := 182) (off := 126) hx hb dX5_obeysGroup_56 (by rw [c_56_4]; decide) (by rw [c_56_4]; decide) (by rw [c_56_4]; rfl) (by decide) ?_
          refine lv_iload_n hx hb dX5_obeysGroup_182 rfl (lv_at hl 4 rfl) ?_
          refine lv_if_ne (tgt := 204) hx hb dX5_obeysGroup_183 (by decide) (fun c_183 => ?_) (fun c_183 => ?_)
          · skip
            have c_183 : ¬ (((vg / 100) - (vg / 100) / 10 * 10) = 0) := c_183
            rw [if_neg c_183] at hres
            refine lv_iconst (v := 0) hx hb dX5_obeysGroup_204 (by decide) ?_
            subst hres
            exact kI_ret hE hS hP hD rfl rfl (Nat.le_of_ble_eq_true rfl) (Nat.le_of_ble_eq_true rfl) dX5_obeysGroup_205
          · skip
            have c_183 : (((vg / 100) - (vg / 100) / 10 * 10) = 0) := c_183
            rw [if_pos c_183] at hres
            refine lv_aload_n hx hb dX5_obeysGroup_186 rfl (lv_at hl 6 rfl) ?_
            refine va_get (D := D) (ci := 5) (v := .ref (ca 12 0)) (C := RX5) (T := TX5) (N := 6) hx hb hts hinX5 hown hK hP 0 rfl rfl 3 (by decide) lk_0 (fun _ h9 => h9) rfl dX5_obeysGroup_187 ?_
            refine lv_iload_n hx hb dX5_obeysGroup_190 rfl (lv_at hl 5 rfl) ?_
            refine lv_iload hx hb dX5_obeysGroup_191 (lv_at hl 0 rfl) ?_
            have hP := pmP (ca_pm1 (cs := cs) (ca := ca) (cv := cv) (k := 2) (by decide)) hP
            have hD := pmD (ca_pm1 (cs := cs) (ca := ca) (cv := cv) (k := 2) (by decide)) hD
            have hc_193 := c_X1_change l D cs (ca 12) (cv.2.1 2) ((vg / 1000) - (vg / 1000) / 10 * 10) ((10 * ((vg / 10) - (vg / 10) / 10 * 10)) + (vg - vg / 10 * 10))
            obtain ⟨r_193, o_193, e_193⟩ : ∃ r9 o9, (k_X1_change (cv.2.1 2) ((vg / 1000) - (vg / 1000) / 10 * 10) ((10 * ((vg / 10) - (vg / 10) / 10 * 10)) + (vg - vg / 10 * 10))) = (r9, o9) := ⟨_, _, rfl⟩
            rw [e_193] at hc_193 hres
            dsimp only at hc_193 hres
            refine kI_call (wc := (og_W cs (ca 12) (cv.2.1 2))) (wr := (ca_ro cs ca cv 2)) (w1 := og_W cs (ca 12) o_193) (r := r_193) hE hP hD hS (k_rV (rest := []) (As := [.int ((vg / 1000) - (vg / 1000) / 10 * 10), .int ((10 * ((vg / 10) - (vg / 10) / 10 * 10)) + (vg - vg / 10 * 10))]) hE rfl (hc_193 H.size) (cwV 2 hts gX5_obeysGroup_X1_change rfl rfl rfl (by decide +kernel) ⟨Nat.le_of_ble_eq_true rfl, Nat.le_of_ble_eq_true rfl⟩) hP hD hS (ci := 1) (q0 := 0) rfl rfl rfl hl rfl (Nat.le_of_ble_eq_true rfl) ⟨Nat.le_of_ble_eq_true rfl, Nat.le_of_ble_eq_true rfl⟩ dX5_obeysGroup_193) (fun H locs hP hD hS => ?_)
            have hP := pmP (ca_bk1 (cs := cs) (ca := ca) (cv := cv) (k := 2) (by decide)) hP
            have hD := pmD (ca_bk1 (cs := cs) (ca := ca) (cv := cv) (k := 2) (by decide)) hD
            have hP : va_P D vwCl (ca_W cs ca (c_o cv 2 o_193)) H := hP
            have hD : va_D A (ca_W cs ca (c_o cv 2 o_193)) := hD
            refine lv_iconst (v := (-1)) hx hb dX5_obeysGroup_196 (by decide) ?_
            refine lv_icmp_eq (tgt := 204) hx hb dX5_obeysGroup_197 (by decide) (fun c_197 => ?_) (fun c_197 => ?_)
            · skip
              have c_197 : (r_193 = (-1)) := c_197
              rw [if_pos c_197] at hres
              refine lv_iconst (v := 0) hx hb dX5_obeysGroup_204 (by decide) ?_
              subst hres
              exact kI_ret hE hS hP hD rfl rfl (Nat.le_of_ble_eq_true rfl) (Nat.le_of_ble_eq_true rfl) dX5_obeysGroup_205
            · skip
              have c_197 : ¬ (r_193 = (-1)) := c_197
              rw [if_neg c_197] at hres
              refine lv_iconst (v := 1) hx hb dX5_obeysGroup_200 (by decide) ?_
              refine lv_goto (tgt := 205) hx hb dX5_obeysGroup_201 (by decide) ?_
              subst hres
              exact kI_ret hE hS hP hD rfl rfl (Nat.le_of_ble_eq_true rfl) (Nat.le_of_ble_eq_true rfl) dX5_obeysGroup_205
        · skip
          rw [if_neg c_56_4] at hres
          by_cases c_56_5 : (vg / 10000) = 5
          · skip
            rw [if_pos c_56_5] at hres
            refine lv_tableIn (tgt := 206) (off := 150) hx hb dX5_obeysGroup_56 (by rw [c_56_5]; decide) (by rw [c_56_5]; decide) (by rw [c_56_5]; rfl) (by decide) ?_
            refine lv_iload_n hx hb dX5_obeysGroup_206 rfl (lv_at hl 5 rfl) ?_
            refine lv_if_ne (tgt := 232) hx hb dX5_obeysGroup_207 (by decide) (fun c_207 => ?_) (fun c_207 => ?_)
            · skip
              have c_207 : ¬ (((vg / 1000) - (vg / 1000) / 10 * 10) = 0) := c_207
              rw [if_neg c_207] at hres
              refine lv_iconst (v := 0) hx hb dX5_obeysGroup_232 (by decide) ?_
              subst hres
              exact kI_ret hE hS hP hD rfl rfl (Nat.le_of_ble_eq_true rfl) (Nat.le_of_ble_eq_true rfl) dX5_obeysGroup_233
            · skip
              have c_207 : (((vg / 1000) - (vg / 1000) / 10 * 10) = 0) := c_207
              rw [if_pos c_207] at hres
              refine lv_iload hx hb dX5_obeysGroup_210 (lv_at hl 2 rfl) ?_
              refine lv_if_ne (tgt := 232) hx hb dX5_obeysGroup_212 (by decide) (fun c_212 => ?_) (fun c_212 => ?_)
              · skip
                have c_212 : ¬ ((vg - vg / 10 * 10) = 0) := c_212
                rw [if_neg c_212] at hres
                refine lv_iconst (v := 0) hx hb dX5_obeysGroup_232 (by decide) ?_
                subst hres
                exact kI_ret hE hS hP hD rfl rfl (Nat.le_of_ble_eq_true rfl) (Nat.le_of_ble_eq_true rfl) dX5_obeysGroup_233
              · skip
                have c_212 : ((vg - vg / 10 * 10) = 0) := c_212
                rw [if_pos c_212] at hres
                refine lv_aload_n hx hb dX5_obeysGroup_215 rfl (lv_at hl 6 rfl) ?_
                refine va_get (D := D) (ci := 5) (v := .ref (ca 12 0)) (C := RX5) (T := TX5) (N := 6) hx hb hts hinX5 hown hK hP 0 rfl rfl 3 (by decide) lk_0 (fun _ h9 => h9) rfl dX5_obeysGroup_216 ?_
                refine lv_iload hx hb dX5_obeysGroup_219 (lv_at hl 1 rfl) ?_
                have hP := pmP (ca_pm1 (cs := cs) (ca := ca) (cv := cv) (k := 2) (by decide)) hP
                have hD := pmD (ca_pm1 (cs := cs) (ca := ca) (cv := cv) (k := 2) (by decide)) hD
                have hc_221 := c_X1_dropOrder l D cs (ca 12) (cv.2.1 2) ((10 * ((vg / 100) - (vg / 100) / 10 * 10)) + ((vg / 10) - (vg / 10) / 10 * 10)) (hC.1 2 (by decide))
                obtain ⟨r_221, o_221, e_221⟩ : ∃ r9 o9, (k_X1_dropOrder (cv.2.1 2) ((10 * ((vg / 100) - (vg / 100) / 10 * 10)) + ((vg / 10) - (vg / 10) / 10 * 10))) = (r9, o9) := ⟨_, _, rfl⟩
                rw [e_221] at hc_221 hres
                dsimp only at hc_221 hres
                refine kI_call (wc := (og_W cs (ca 12) (cv.2.1 2))) (wr := (ca_ro cs ca cv 2)) (w1 := og_W cs (ca 12) o_221) (r := r_221) hE hP hD hS (k_rV (rest := []) (As := [.int ((10 * ((vg / 100) - (vg / 100) / 10 * 10)) + ((vg / 10) - (vg / 10) / 10 * 10))]) hE rfl (hc_221 H.size) (cwV 1 hts gX5_obeysGroup_X1_dropOrder rfl rfl rfl (by decide +kernel) ⟨Nat.le_of_ble_eq_true rfl, Nat.le_of_ble_eq_true rfl⟩) hP hD hS (ci := 1) (q0 := 0) rfl rfl rfl hl rfl (Nat.le_of_ble_eq_true rfl) ⟨Nat.le_of_ble_eq_true rfl, Nat.le_of_ble_eq_true rfl⟩ dX5_obeysGroup_221) (fun H locs hP hD hS => ?_)
                have hP := pmP (ca_bk1 (cs := cs) (ca := ca) (cv := cv) (k := 2) (by decide)) hP
                have hD := pmD (ca_bk1 (cs := cs) (ca := ca) (cv := cv) (k := 2) (by decide)) hD
                have hP : va_P D vwCl (ca_W cs ca (c_o cv 2 o_221)) H := hP
                have hD : va_D A (ca_W cs ca (c_o cv 2 o_221)) := hD
                refine lv_iconst (v := (-1)) hx hb dX5_obeysGroup_224 (by decide) ?_
                refine lv_icmp_eq (tgt := 232) hx hb dX5_obeysGroup_225 (by decide) (fun c_225 => ?_) (fun c_225 => ?_)
                · skip
                  have c_225 : (r_221 = (-1)) := c_225
                  rw [if_pos c_225] at hres
                  refine lv_iconst (v := 0) hx hb dX5_obeysGroup_232 (by decide) ?_
                  subst hres
                  exact kI_ret hE hS hP hD rfl rfl (Nat.le_of_ble_eq_true rfl) (Nat.le_of_ble_eq_true rfl) dX5_obeysGroup_233
                · skip
                  have c_225 : ¬ (r_221 = (-1)) := c_225
                  rw [if_neg c_225] at hres
                  refine lv_iconst (v := 1) hx hb dX5_obeysGroup_228 (by decide) ?_
                  refine lv_goto (tgt := 233) hx hb dX5_obeysGroup_229 (by decide) ?_
                  subst hres
                  exact kI_ret hE hS hP hD rfl rfl (Nat.le_of_ble_eq_true rfl) (Nat.le_of_ble_eq_true rfl) dX5_obeysGroup_233
          · skip
            rw [if_neg c_56_5] at hres
            by_cases c_56_6 : (vg / 10000) = 6
            · skip
              rw [if_pos c_56_6] at hres
              refine lv_tableIn (tgt := 234) (off := 178) hx hb dX5_obeysGroup_56 (by rw [c_56_6]; decide) (by rw [c_56_6]; decide) (by rw [c_56_6]; rfl) (by decide) ?_
              refine lv_iload hx hb dX5_obeysGroup_234 (lv_at hl 2 rfl) ?_
              refine lv_if_ne (tgt := 271) hx hb dX5_obeysGroup_236 (by decide) (fun c_236 => ?_) (fun c_236 => ?_)
              · skip
                have c_236 : ¬ ((vg - vg / 10 * 10) = 0) := c_236
                rw [if_neg c_236] at hres
                refine lv_iconst (v := 0) hx hb dX5_obeysGroup_271 (by decide) ?_
                subst hres
                exact kI_ret hE hS hP hD rfl rfl (Nat.le_of_ble_eq_true rfl) (Nat.le_of_ble_eq_true rfl) dX5_obeysGroup_272
              · skip
                have c_236 : ((vg - vg / 10 * 10) = 0) := c_236
                rw [if_pos c_236] at hres
                refine lv_iload_n hx hb dX5_obeysGroup_239 rfl (lv_at hl 5 rfl) ?_
                have hP : va_P D vwCl ([] ++ (ca_W cs ca cv)) H := hP
                have hD : va_D A ([] ++ (ca_W cs ca cv)) := hD
                have hc_240 := c_X5_isPipe l D cs ((vg / 1000) - (vg / 1000) / 10 * 10)
                refine kI_call (wc := []) (wr := (ca_W cs ca cv)) (w1 := []) (r := (k_X5_isPipe ((vg / 1000) - (vg / 1000) / 10 * 10))) hE hP hD hS (k_rS (rest := []) (As := [.int ((vg / 1000) - (vg / 1000) / 10 * 10)]) hE rfl (hc_240 H.size) (va_cwS 1 hts gX5_obeysGroup_X5_isPipe rfl rfl rfl (by decide +kernel) ⟨Nat.le_of_ble_eq_true rfl, Nat.le_of_ble_eq_true rfl⟩) hP hD hS rfl hl rfl (Nat.le_of_ble_eq_true rfl) ⟨Nat.le_of_ble_eq_true rfl, Nat.le_of_ble_eq_true rfl⟩ dX5_obeysGroup_240) (fun H locs hP hD hS => ?_)
                have hP : va_P D vwCl (ca_W cs ca cv) H := hP
                have hD : va_D A (ca_W cs ca cv) := hD
                refine lv_if_eq (tgt := 271) hx hb dX5_obeysGroup_243 (by decide) (fun c_243 => ?_) (fun c_243 => ?_)
                · skip
                  have c_243 : ((k_X5_isPipe ((vg / 1000) - (vg / 1000) / 10 * 10)) = 0) := c_243
                  rw [if_pos c_243] at hres
                  refine lv_iconst (v := 0) hx hb dX5_obeysGroup_271 (by decide) ?_
                  subst hres
                  exact kI_ret hE hS hP hD rfl rfl (Nat.le_of_ble_eq_true rfl) (Nat.le_of_ble_eq_true rfl) dX5_obeysGroup_272
                · skip
                  have c_243 : ¬ ((k_X5_isPipe ((vg / 1000) - (vg / 1000) / 10 * 10)) = 0) := c_243
                  rw [if_neg c_243] at hres
                  refine lv_iload hx hb dX5_obeysGroup_246 (lv_at hl 1 rfl) ?_
                  have hP : va_P D vwCl ([] ++ (ca_W cs ca cv)) H := hP
                  have hD : va_D A ([] ++ (ca_W cs ca cv)) := hD
                  have hc_248 := c_X5_isBar l D cs ((10 * ((vg / 100) - (vg / 100) / 10 * 10)) + ((vg / 10) - (vg / 10) / 10 * 10))
                  refine kI_call (wc := []) (wr := (ca_W cs ca cv)) (w1 := []) (r := (k_X5_isBar ((10 * ((vg / 100) - (vg / 100) / 10 * 10)) + ((vg / 10) - (vg / 10) / 10 * 10)))) hE hP hD hS (k_rS (rest := []) (As := [.int ((10 * ((vg / 100) - (vg / 100) / 10 * 10)) + ((vg / 10) - (vg / 10) / 10 * 10))]) hE rfl (hc_248 H.size) (va_cwS 1 hts gX5_obeysGroup_X5_isBar rfl rfl rfl (by decide +kernel) ⟨Nat.le_of_ble_eq_true rfl, Nat.le_of_ble_eq_true rfl⟩) hP hD hS rfl hl rfl (Nat.le_of_ble_eq_true rfl) ⟨Nat.le_of_ble_eq_true rfl, Nat.le_of_ble_eq_true rfl⟩ dX5_obeysGroup_248) (fun H locs hP hD hS => ?_)
                  have hP : va_P D vwCl (ca_W cs ca cv) H := hP
                  have hD : va_D A (ca_W cs ca cv) := hD
                  refine lv_if_eq (tgt := 271) hx hb dX5_obeysGroup_251 (by decide) (fun c_251 => ?_) (fun c_251 => ?_)
                  · skip
                    have c_251 : ((k_X5_isBar ((10 * ((vg / 100) - (vg / 100) / 10 * 10)) + ((vg / 10) - (vg / 10) / 10 * 10))) = 0) := c_251
                    rw [if_pos c_251] at hres
                    refine lv_iconst (v := 0) hx hb dX5_obeysGroup_271 (by decide) ?_
                    subst hres
                    exact kI_ret hE hS hP hD rfl rfl (Nat.le_of_ble_eq_true rfl) (Nat.le_of_ble_eq_true rfl) dX5_obeysGroup_272
                  · skip
                    have c_251 : ¬ ((k_X5_isBar ((10 * ((vg / 100) - (vg / 100) / 10 * 10)) + ((vg / 10) - (vg / 10) / 10 * 10))) = 0) := c_251
                    rw [if_neg c_251] at hres
                    refine lv_aload_n hx hb dX5_obeysGroup_254 rfl (lv_at hl 6 rfl) ?_
                    refine va_get (D := D) (ci := 5) (v := .ref (ca 12 0)) (C := RX5) (T := TX5) (N := 6) hx hb hts hinX5 hown hK hP 0 rfl rfl 3 (by decide) lk_0 (fun _ h9 => h9) rfl dX5_obeysGroup_255 ?_
                    refine lv_iload_n hx hb dX5_obeysGroup_258 rfl (lv_at hl 5 rfl) ?_
                    refine lv_iload hx hb dX5_obeysGroup_259 (lv_at hl 1 rfl) ?_
                    have hP := pmP (ca_pm1 (cs := cs) (ca := ca) (cv := cv) (k := 2) (by decide)) hP
                    have hD := pmD (ca_pm1 (cs := cs) (ca := ca) (cv := cv) (k := 2) (by decide)) hD
                    have hc_261 := c_X1_isOpen l D cs (ca 12) (cv.2.1 2) ((vg / 1000) - (vg / 1000) / 10 * 10) ((10 * ((vg / 100) - (vg / 100) / 10 * 10)) + ((vg / 10) - (vg / 10) / 10 * 10))
                    refine kI_call (wc := (og_W cs (ca 12) (cv.2.1 2))) (wr := (ca_ro cs ca cv 2)) (w1 := og_W cs (ca 12) (cv.2.1 2)) (r := (k_X1_isOpen (cv.2.1 2) ((vg / 1000) - (vg / 1000) / 10 * 10) ((10 * ((vg / 100) - (vg / 100) / 10 * 10)) + ((vg / 10) - (vg / 10) / 10 * 10)))) hE hP hD hS (k_rV (rest := []) (As := [.int ((vg / 1000) - (vg / 1000) / 10 * 10), .int ((10 * ((vg / 100) - (vg / 100) / 10 * 10)) + ((vg / 10) - (vg / 10) / 10 * 10))]) hE rfl (hc_261 H.size) (cwV 2 hts gX5_obeysGroup_X1_isOpen rfl rfl rfl (by decide +kernel) ⟨Nat.le_of_ble_eq_true rfl, Nat.le_of_ble_eq_true rfl⟩) hP hD hS (ci := 1) (q0 := 0) rfl rfl rfl hl rfl (Nat.le_of_ble_eq_true rfl) ⟨Nat.le_of_ble_eq_true rfl, Nat.le_of_ble_eq_true rfl⟩ dX5_obeysGroup_261) (fun H locs hP hD hS => ?_)
                    have hP := pmP (ca_bk1 (cs := cs) (ca := ca) (cv := cv) (k := 2) (by decide)) hP
                    have hD := pmD (ca_bk1 (cs := cs) (ca := ca) (cv := cv) (k := 2) (by decide)) hD
                    have hP : va_P D vwCl (ca_W cs ca cv) H := hP
                    have hD : va_D A (ca_W cs ca cv) := hD
                    refine lv_if_eq (tgt := 271) hx hb dX5_obeysGroup_264 (by decide) (fun c_264 => ?_) (fun c_264 => ?_)
                    · skip
                      have c_264 : ((k_X1_isOpen (cv.2.1 2) ((vg / 1000) - (vg / 1000) / 10 * 10) ((10 * ((vg / 100) - (vg / 100) / 10 * 10)) + ((vg / 10) - (vg / 10) / 10 * 10))) = 0) := c_264
                      rw [if_pos c_264] at hres
                      refine lv_iconst (v := 0) hx hb dX5_obeysGroup_271 (by decide) ?_
                      subst hres
                      exact kI_ret hE hS hP hD rfl rfl (Nat.le_of_ble_eq_true rfl) (Nat.le_of_ble_eq_true rfl) dX5_obeysGroup_272
                    · skip
                      have c_264 : ¬ ((k_X1_isOpen (cv.2.1 2) ((vg / 1000) - (vg / 1000) / 10 * 10) ((10 * ((vg / 100) - (vg / 100) / 10 * 10)) + ((vg / 10) - (vg / 10) / 10 * 10))) = 0) := c_264
                      rw [if_neg c_264] at hres
                      refine lv_iconst (v := 1) hx hb dX5_obeysGroup_267 (by decide) ?_
                      refine lv_goto (tgt := 272) hx hb dX5_obeysGroup_268 (by decide) ?_
                      subst hres
                      exact kI_ret hE hS hP hD rfl rfl (Nat.le_of_ble_eq_true rfl) (Nat.le_of_ble_eq_true rfl) dX5_obeysGroup_272
            · skip
              rw [if_neg c_56_6] at hres
              by_cases c_56_7 : (vg / 10000) = 7
              · skip
                rw [if_pos c_56_7] at hres
                refine lv_tableIn (tgt := 273) (off := 217) hx hb dX5_obeysGroup_56 (by rw [c_56_7]; decide) (by rw [c_56_7]; decide) (by rw [c_56_7]; rfl) (by decide) ?_
                refine lv_iload_n hx hb dX5_obeysGroup_273 rfl (lv_at hl 5 rfl) ?_
                refine lv_if_ne (tgt := 297) hx hb dX5_obeysGroup_274 (by decide) (fun c_274 => ?_) (fun c_274 => ?_)
                · skip
                  have c_274 : ¬ (((vg / 1000) - (vg / 1000) / 10 * 10) = 0) := c_274
                  rw [if_neg c_274] at hres
                  refine lv_iconst (v := 0) hx hb dX5_obeysGroup_297 (by decide) ?_
                  subst hres
                  exact kI_ret hE hS hP hD rfl rfl (Nat.le_of_ble_eq_true rfl) (Nat.le_of_ble_eq_true rfl) dX5_obeysGroup_298
                · skip
                  have c_274 : (((vg / 1000) - (vg / 1000) / 10 * 10) = 0) := c_274
                  rw [if_pos c_274] at hres
                  refine lv_iload_n hx hb dX5_obeysGroup_277 rfl (lv_at hl 4 rfl) ?_
                  refine lv_if_ne (tgt := 297) hx hb dX5_obeysGroup_278 (by decide) (fun c_278 => ?_) (fun c_278 => ?_)
                  · skip
                    have c_278 : ¬ (((vg / 100) - (vg / 100) / 10 * 10) = 0) := c_278
                    rw [if_neg c_278] at hres
                    refine lv_iconst (v := 0) hx hb dX5_obeysGroup_297 (by decide) ?_
                    subst hres
                    exact kI_ret hE hS hP hD rfl rfl (Nat.le_of_ble_eq_true rfl) (Nat.le_of_ble_eq_true rfl) dX5_obeysGroup_298
                  · skip
                    have c_278 : (((vg / 100) - (vg / 100) / 10 * 10) = 0) := c_278
                    rw [if_pos c_278] at hres
                    refine lv_aload_n hx hb dX5_obeysGroup_281 rfl (lv_at hl 6 rfl) ?_
                    refine va_get (D := D) (ci := 5) (v := .ref (ca 12 0)) (C := RX5) (T := TX5) (N := 6) hx hb hts hinX5 hown hK hP 0 rfl rfl 3 (by decide) lk_0 (fun _ h9 => h9) rfl dX5_obeysGroup_282 ?_
                    refine va_getN (D := D) (ci := 1) (v := .int ((cv.2.1 2).1 3)) (C := RX1) (T := TX1) (N := 17) hx hb hts hinX1 hown hK (k_left (pmP (ca_pm1 (k := 2) (by decide)) hP)) 0 rfl rfl 9 (by decide) (va_Nw.use rfl (hG.1.1 _ _ _ _ _ _ nf_X5_259)) (fun _ h9 => h9) rfl dX5_obeysGroup_285 ?_
                    refine lv_iload hx hb dX5_obeysGroup_288 (lv_at hl 0 rfl) ?_
                    refine lv_icmp_lt (tgt := 297) hx hb dX5_obeysGroup_290 (by decide) (fun c_290 => ?_) (fun c_290 => ?_)
                    · skip
                      have c_290 : (((cv.2.1 2).1 3) < ((10 * ((vg / 10) - (vg / 10) / 10 * 10)) + (vg - vg / 10 * 10))) := c_290
                      rw [if_pos c_290] at hres
                      refine lv_iconst (v := 0) hx hb dX5_obeysGroup_297 (by decide) ?_
                      subst hres
                      exact kI_ret hE hS hP hD rfl rfl (Nat.le_of_ble_eq_true rfl) (Nat.le_of_ble_eq_true rfl) dX5_obeysGroup_298
                    · skip
                      have c_290 : ¬ (((cv.2.1 2).1 3) < ((10 * ((vg / 10) - (vg / 10) / 10 * 10)) + (vg - vg / 10 * 10))) := c_290
                      rw [if_neg c_290] at hres
                      refine lv_iconst (v := 1) hx hb dX5_obeysGroup_293 (by decide) ?_
                      refine lv_goto (tgt := 298) hx hb dX5_obeysGroup_294 (by decide) ?_
                      subst hres
                      exact kI_ret hE hS hP hD rfl rfl (Nat.le_of_ble_eq_true rfl) (Nat.le_of_ble_eq_true rfl) dX5_obeysGroup_298
              · skip
                rw [if_neg c_56_7] at hres
                by_cases c_56_8 : (vg / 10000) = 8
                · skip
                  rw [if_pos c_56_8] at hres
                  refine lv_tableIn (tgt := 299) (off := 243) hx hb dX5_obeysGroup_56 (by rw [c_56_8]; decide) (by rw [c_56_8]; decide) (by rw [c_56_8]; rfl) (by decide) ?_
                  refine lv_iload_n hx hb dX5_obeysGroup_299 rfl (lv_at hl 5 rfl) ?_
                  refine lv_if_ne (tgt := 331) hx hb dX5_obeysGroup_300 (by decide) (fun c_300 => ?_) (fun c_300 => ?_)
                  · skip
                    have c_300 : ¬ (((vg / 1000) - (vg / 1000) / 10 * 10) = 0) := c_300
                    rw [if_neg c_300] at hres
                    refine lv_iconst (v := 0) hx hb dX5_obeysGroup_331 (by decide) ?_
                    subst hres
                    exact kI_ret hE hS hP hD rfl rfl (Nat.le_of_ble_eq_true rfl) (Nat.le_of_ble_eq_true rfl) dX5_obeysGroup_332
                  · skip
                    have c_300 : (((vg / 1000) - (vg / 1000) / 10 * 10) = 0) := c_300
                    rw [if_pos c_300] at hres
                    refine lv_iload_n hx hb dX5_obeysGroup_303 rfl (lv_at hl 4 rfl) ?_
                    refine lv_if_ne (tgt := 331) hx hb dX5_obeysGroup_304 (by decide) (fun c_304 => ?_) (fun c_304 => ?_)
                    · skip
                      have c_304 : ¬ (((vg / 100) - (vg / 100) / 10 * 10) = 0) := c_304
                      rw [if_neg c_304] at hres
                      refine lv_iconst (v := 0) hx hb dX5_obeysGroup_331 (by decide) ?_
                      subst hres
                      exact kI_ret hE hS hP hD rfl rfl (Nat.le_of_ble_eq_true rfl) (Nat.le_of_ble_eq_true rfl) dX5_obeysGroup_332
                    · skip
                      have c_304 : (((vg / 100) - (vg / 100) / 10 * 10) = 0) := c_304
                      rw [if_pos c_304] at hres
                      refine lv_iload hx hb dX5_obeysGroup_307 (lv_at hl 3 rfl) ?_
                      refine lv_if_ne (tgt := 331) hx hb dX5_obeysGroup_309 (by decide) (fun c_309 => ?_) (fun c_309 => ?_)
                      · skip
                        have c_309 : ¬ (((vg / 10) - (vg / 10) / 10 * 10) = 0) := c_309
                        rw [if_neg c_309] at hres
                        refine lv_iconst (v := 0) hx hb dX5_obeysGroup_331 (by decide) ?_
                        subst hres
                        exact kI_ret hE hS hP hD rfl rfl (Nat.le_of_ble_eq_true rfl) (Nat.le_of_ble_eq_true rfl) dX5_obeysGroup_332
                      · skip
                        have c_309 : (((vg / 10) - (vg / 10) / 10 * 10) = 0) := c_309
                        rw [if_pos c_309] at hres
                        refine lv_aload_n hx hb dX5_obeysGroup_312 rfl (lv_at hl 6 rfl) ?_
                        refine va_get (D := D) (ci := 5) (v := .ref (ca 12 0)) (C := RX5) (T := TX5) (N := 6) hx hb hts hinX5 hown hK hP 0 rfl rfl 3 (by decide) lk_0 (fun _ h9 => h9) rfl dX5_obeysGroup_313 ?_
                        refine va_getN (D := D) (ci := 1) (v := .ref (ca 12 2)) (C := RX1) (T := TX1) (N := 17) hx hb hts hinX1 hown hK (k_left (pmP (ca_pm1 (k := 2) (by decide)) hP)) 0 rfl rfl 1 (by decide) (va_Nw.use rfl (hG.1.1 _ _ _ _ _ _ nf_X5_147)) (fun _ h9 => h9) rfl dX5_obeysGroup_316 ?_
                        refine va_getN (D := D) (ci := 4) (v := .int ((cv.2.1 2).1 11)) (C := RX4) (T := TX4) (N := 4) hx hb hts hinX4 hown hK (k_left (pmP (ca_pm1 (k := 2) (by decide)) hP)) 3 rfl rfl 3 (by decide) (va_Nw.use rfl (hG.1.1 _ _ _ _ _ _ nf_X5_262)) (fun _ h9 => h9) rfl dX5_obeysGroup_319 ?_
                        refine lv_iload hx hb dX5_obeysGroup_322 (lv_at hl 2 rfl) ?_
                        refine lv_icmp_gt (tgt := 331) hx hb dX5_obeysGroup_324 (by decide) (fun c_324 => ?_) (fun c_324 => ?_)
                        · skip
                          have c_324 : ((vg - vg / 10 * 10) < ((cv.2.1 2).1 11)) := c_324
                          rw [if_pos c_324] at hres
                          refine lv_iconst (v := 0) hx hb dX5_obeysGroup_331 (by decide) ?_
                          subst hres
                          exact kI_ret hE hS hP hD rfl rfl (Nat.le_of_ble_eq_true rfl) (Nat.le_of_ble_eq_true rfl) dX5_obeysGroup_332
                        · skip
                          have c_324 : ¬ ((vg - vg / 10 * 10) < ((cv.2.1 2).1 11)) := c_324
                          rw [if_neg c_324] at hres
                          refine lv_iconst (v := 1) hx hb dX5_obeysGroup_327 (by decide) ?_
                          refine lv_goto (tgt := 332) hx hb dX5_obeysGroup_328 (by decide) ?_
                          subst hres
                          exact kI_ret hE hS hP hD rfl rfl (Nat.le_of_ble_eq_true rfl) (Nat.le_of_ble_eq_true rfl) dX5_obeysGroup_332
                · skip
                  rw [if_neg c_56_8] at hres
                  by_cases c_56_9 : (vg / 10000) = 9
                  · skip
                    rw [if_pos c_56_9] at hres
                    refine lv_tableIn (tgt := 333) (off := 277) hx hb dX5_obeysGroup_56 (by rw [c_56_9]; decide) (by rw [c_56_9]; decide) (by rw [c_56_9]; rfl) (by decide) ?_
                    refine lv_iload_n hx hb dX5_obeysGroup_333 rfl (lv_at hl 5 rfl) ?_
                    refine lv_if_ne (tgt := 358) hx hb dX5_obeysGroup_334 (by decide) (fun c_334 => ?_) (fun c_334 => ?_)
                    · skip
                      have c_334 : ¬ (((vg / 1000) - (vg / 1000) / 10 * 10) = 0) := c_334
                      rw [if_neg c_334] at hres
                      refine lv_iconst (v := 0) hx hb dX5_obeysGroup_358 (by decide) ?_
                      subst hres
                      exact kI_ret hE hS hP hD rfl rfl (Nat.le_of_ble_eq_true rfl) (Nat.le_of_ble_eq_true rfl) dX5_obeysGroup_359
                    · skip
                      have c_334 : (((vg / 1000) - (vg / 1000) / 10 * 10) = 0) := c_334
                      rw [if_pos c_334] at hres
                      refine lv_iload_n hx hb dX5_obeysGroup_337 rfl (lv_at hl 4 rfl) ?_
                      refine lv_if_ne (tgt := 358) hx hb dX5_obeysGroup_338 (by decide) (fun c_338 => ?_) (fun c_338 => ?_)
                      · skip
                        have c_338 : ¬ (((vg / 100) - (vg / 100) / 10 * 10) = 0) := c_338
                        rw [if_neg c_338] at hres
                        refine lv_iconst (v := 0) hx hb dX5_obeysGroup_358 (by decide) ?_
                        subst hres
                        exact kI_ret hE hS hP hD rfl rfl (Nat.le_of_ble_eq_true rfl) (Nat.le_of_ble_eq_true rfl) dX5_obeysGroup_359
                      · skip
                        have c_338 : (((vg / 100) - (vg / 100) / 10 * 10) = 0) := c_338
                        rw [if_pos c_338] at hres
                        refine lv_aload_n hx hb dX5_obeysGroup_341 rfl (lv_at hl 6 rfl) ?_
                        refine va_get (D := D) (ci := 5) (v := .ref (ca 12 0)) (C := RX5) (T := TX5) (N := 6) hx hb hts hinX5 hown hK hP 0 rfl rfl 3 (by decide) lk_0 (fun _ h9 => h9) rfl dX5_obeysGroup_342 ?_
                        refine lv_iconst (v := 0) hx hb dX5_obeysGroup_345 (by decide) ?_
                        have hP := pmP (ca_pm1 (cs := cs) (ca := ca) (cv := cv) (k := 2) (by decide)) hP
                        have hD := pmD (ca_pm1 (cs := cs) (ca := ca) (cv := cv) (k := 2) (by decide)) hD
                        have hc_346 := c_X1_soundedAgo l D cs (ca 12) (cv.2.1 2) 0
                        refine kI_call (wc := (og_W cs (ca 12) (cv.2.1 2))) (wr := (ca_ro cs ca cv 2)) (w1 := og_W cs (ca 12) (cv.2.1 2)) (r := (k_X1_soundedAgo (cv.2.1 2) 0)) hE hP hD hS (k_rV (rest := []) (As := [.int 0]) hE rfl (hc_346 H.size) (cwV 1 hts gX5_obeysGroup_X1_soundedAgo rfl rfl rfl (by decide +kernel) ⟨Nat.le_of_ble_eq_true rfl, Nat.le_of_ble_eq_true rfl⟩) hP hD hS (ci := 1) (q0 := 0) rfl rfl rfl hl rfl (Nat.le_of_ble_eq_true rfl) ⟨Nat.le_of_ble_eq_true rfl, Nat.le_of_ble_eq_true rfl⟩ dX5_obeysGroup_346) (fun H locs hP hD hS => ?_)
                        have hP := pmP (ca_bk1 (cs := cs) (ca := ca) (cv := cv) (k := 2) (by decide)) hP
                        have hD := pmD (ca_bk1 (cs := cs) (ca := ca) (cv := cv) (k := 2) (by decide)) hD
                        have hP : va_P D vwCl (ca_W cs ca cv) H := hP
                        have hD : va_D A (ca_W cs ca cv) := hD
                        refine lv_iload hx hb dX5_obeysGroup_349 (lv_at hl 0 rfl) ?_
                        refine lv_icmp_ne (tgt := 358) hx hb dX5_obeysGroup_351 (by decide) (fun c_351 => ?_) (fun c_351 => ?_)
                        · skip
                          have c_351 : ¬ ((k_X1_soundedAgo (cv.2.1 2) 0) = ((10 * ((vg / 10) - (vg / 10) / 10 * 10)) + (vg - vg / 10 * 10))) := c_351
                          rw [if_neg c_351] at hres
                          refine lv_iconst (v := 0) hx hb dX5_obeysGroup_358 (by decide) ?_
                          subst hres
                          exact kI_ret hE hS hP hD rfl rfl (Nat.le_of_ble_eq_true rfl) (Nat.le_of_ble_eq_true rfl) dX5_obeysGroup_359
                        · skip
                          have c_351 : ((k_X1_soundedAgo (cv.2.1 2) 0) = ((10 * ((vg / 10) - (vg / 10) / 10 * 10)) + (vg - vg / 10 * 10))) := c_351
                          rw [if_pos c_351] at hres
                          refine lv_iconst (v := 1) hx hb dX5_obeysGroup_354 (by decide) ?_
                          refine lv_goto (tgt := 359) hx hb dX5_obeysGroup_355 (by decide) ?_
                          subst hres
                          exact kI_ret hE hS hP hD rfl rfl (Nat.le_of_ble_eq_true rfl) (Nat.le_of_ble_eq_true rfl) dX5_obeysGroup_359
                  · skip
                    rw [if_neg c_56_9] at hres
                    refine lv_tableOut (tgt := 360) hx hb dX5_obeysGroup_56 (x_out (vg / 10000) 1 9 (by decide) (by intro j hj; match j, hj with | 0, _ => exact c_56_1 | 1, _ => exact c_56_2 | 2, _ => exact c_56_3 | 3, _ => exact c_56_4 | 4, _ => exact c_56_5 | 5, _ => exact c_56_6 | 6, _ => exact c_56_7 | 7, _ => exact c_56_8 | 8, _ => exact c_56_9 | n + 9, hj => exact absurd hj (by omega))) (by decide) ?_
                    refine lv_iconst (v := 0) hx hb dX5_obeysGroup_360 (by decide) ?_
                    subst hres
                    exact kI_ret hE hS hP hD rfl rfl (Nat.le_of_ble_eq_true rfl) (Nat.le_of_ble_eq_true rfl) dX5_obeysGroup_361
def k_X5_simulateTurn (cv : CV) (vr : Int32) : CV := (if (vr - vr / 8 * 8) = 0 then (match (k_X1_orderPut (cv.2.1 2) ((vr / 8) - (vr / 8) / 6 * 6) (((vr / 8) / 8) - ((vr / 8) / 8) / 24 * 24) (1 + (((vr / 8) / 256) - ((vr / 8) / 256) / 6 * 6))) with | (r_73, o_73) => (c_o cv 2 o_73)) else (if (vr - vr / 8 * 8) = 1 then (match (k_X1_orderPut (cv.2.1 2) ((vr / 8) - (vr / 8) / 6 * 6) (((vr / 8) / 8) - ((vr / 8) / 8) / 24 * 24) (1 + (((vr / 8) / 256) - ((vr / 8) / 256) / 6 * 6))) with | (r_73, o_73) => (c_o cv 2 o_73)) else (if (vr - vr / 8 * 8) = 2 then (match (k_X1_orderPut (cv.2.1 2) ((vr / 8) - (vr / 8) / 6 * 6) (((vr / 8) / 8) - ((vr / 8) / 8) / 24 * 24) (1 + (((vr / 8) / 256) - ((vr / 8) / 256) / 6 * 6))) with | (r_73, o_73) => (c_o cv 2 o_73)) else (if (vr - vr / 8 * 8) = 3 then (match (k_X1_orderPull (cv.2.1 2) ((vr / 8) - (vr / 8) / 6 * 6) (((vr / 8) / 8) - ((vr / 8) / 8) / 24 * 24)) with | (r_95, o_95) => (c_o cv 2 o_95)) else (if (vr - vr / 8 * 8) = 4 then (if (((vr / 8) / 4) - ((vr / 8) / 4) / 2 * 2) = 0 then (match (k_X1_change (cv.2.1 2) 0 ((vr / 8) - (vr / 8) / 4 * 4)) with | (r_118, o_118) => (c_o cv 2 o_118)) else (match (k_X1_change (cv.2.1 2) 1 (((vr / 8) / 8) - ((vr / 8) / 8) / 10 * 10)) with | (r_137, o_137) => (c_o cv 2 o_137))) else (if (vr - vr / 8 * 8) = 5 then (if (((vr / 8) / 16) - ((vr / 8) / 16) / 4 * 4) = 0 then (match (k_X1_dropOrder (cv.2.1 2) ((vr / 8) - (vr / 8) / 12 * 12)) with | (r_161, o_161) => (c_o cv 2 o_161)) else (match (k_X1_change (cv.2.1 2) 2 (((vr / 8) / 64) - ((vr / 8) / 64) / 61 * 61)) with | (r_180, o_180) => (c_o cv 2 o_180))) else (match (k_X1_play (cv.2.1 2) (1 + ((vr / 8) - (vr / 8) / 12 * 12))) with | (r_197, o_197) => (c_o cv 2 o_197))))))))
set_option maxHeartbeats 4000000 in
set_option maxRecDepth 100000 in
theorem c_X5_simulateTurn (l : Launch) (D : va_G) (cs : Nat → ClassId) (ca : Nat → Nat → Nat) (cv : CV) (vr : Int32) (hC : CO cv) : kV l yX5_simulateTurn wsX5_simulateTurn { frames := 6, cells := 0, slots := 0, locals := 152 } 0 0 D cs [.ref (ca 0 0), .int vr] (ca_W cs ca cv) (fun (_ : Unit) => True) (fun _ => ca_W cs ca (k_X5_simulateTurn cv vr)) := by
  generalize hres : k_X5_simulateTurn cv vr = res
  refine kV_of (cc := cX5_simulateTurn) (maxL := 3) (ret := none) (by decide) rfl (Nat.le_of_ble_eq_true rfl) ?_
  intro p e s m below meth c A ls H locs hE hS hP hD hl
  obtain ⟨hx, hb, hr, hlocks, hml, hown, hts, hK, hA, hG, hnm⟩ := id hE
  have hown : s.vm.findClass RX5 = some m.cls := hown
  have hl : lv_has ls 3 [(0, .ref (ca 0 0)), (1, .int vr)] := hl
  have hinX5 : ∀ w ∈ wsX50, w ∈ wsX5_simulateTurn := by decide +kernel
  have lk_0 := hts (.fieldLink RX5 26 "OrganPegs" "trial" "LOrganPegs$Organ;") (by decide +kernel)
  unfold k_X5_simulateTurn at hres
  refine lv_iload_n hx hb dX5_simulateTurn_0 rfl (lv_at hl 1 rfl) ?_
  refine lv_bipush (v := 8) hx hb dX5_simulateTurn_1 (by decide) ?_
  refine lv_idiv hx hb dX5_simulateTurn_3 (by decide) ?_
  refine lv_istore_n (lv' := [(2, .int (vr / 8)), (0, .ref (ca 0 0)), (1, .int vr)]) hx hb dX5_simulateTurn_4 rfl hl (by decide) rfl (fun ls hl => ?_)
  refine lv_iload_n hx hb dX5_simulateTurn_5 rfl (lv_at hl 2 rfl) ?_
  refine lv_bipush (v := 8) hx hb dX5_simulateTurn_6 (by decide) ?_
  refine lv_irem hx hb dX5_simulateTurn_8 (by decide) ?_
  by_cases c_9_0 : (vr - vr / 8 * 8) = 0
  · skip
    rw [if_pos c_9_0] at hres
    refine lv_tableIn (tgt := 48) (off := 39) hx hb dX5_simulateTurn_9 (by rw [c_9_0]; decide) (by rw [c_9_0]; decide) (by rw [c_9_0]; rfl) (by decide) ?_
    refine lv_aload_n hx hb dX5_simulateTurn_48 rfl (lv_at hl 1 rfl) ?_
    refine va_get (D := D) (ci := 5) (v := .ref (ca 12 0)) (C := RX5) (T := TX5) (N := 6) hx hb hts hinX5 hown hK hP 0 rfl rfl 3 (by decide) lk_0 (fun _ h9 => h9) rfl dX5_simulateTurn_49 ?_
    refine lv_iload_n hx hb dX5_simulateTurn_52 rfl (lv_at hl 0 rfl) ?_
    refine lv_bipush (v := 6) hx hb dX5_simulateTurn_53 (by decide) ?_
    refine lv_irem hx hb dX5_simulateTurn_55 (by decide) ?_
    refine lv_iload_n hx hb dX5_simulateTurn_56 rfl (lv_at hl 0 rfl) ?_
    refine lv_bipush (v := 8) hx hb dX5_simulateTurn_57 (by decide) ?_
    refine lv_idiv hx hb dX5_simulateTurn_59 (by decide) ?_
    refine lv_bipush (v := 24) hx hb dX5_simulateTurn_60 (by decide) ?_
    refine lv_irem hx hb dX5_simulateTurn_62 (by decide) ?_
    refine lv_iconst (v := 1) hx hb dX5_simulateTurn_63 (by decide) ?_
    refine lv_iload_n hx hb dX5_simulateTurn_64 rfl (lv_at hl 0 rfl) ?_
    refine lv_sipush (v := 256) hx hb dX5_simulateTurn_65 (by decide) ?_
    refine lv_idiv hx hb dX5_simulateTurn_68 (by decide) ?_
    refine lv_bipush (v := 6) hx hb dX5_simulateTurn_69 (by decide) ?_
    refine lv_irem hx hb dX5_simulateTurn_71 (by decide) ?_
    refine lv_iadd hx hb dX5_simulateTurn_72 ?_
    have hP := pmP (ca_pm1 (cs := cs) (ca := ca) (cv := cv) (k := 2) (by decide)) hP
    have hD := pmD (ca_pm1 (cs := cs) (ca := ca) (cv := cv) (k := 2) (by decide)) hD
    have hc_73 := c_X1_orderPut l D cs (ca 12) (cv.2.1 2) ((vr / 8) - (vr / 8) / 6 * 6) (((vr / 8) / 8) - ((vr / 8) / 8) / 24 * 24) (1 + (((vr / 8) / 256) - ((vr / 8) / 256) / 6 * 6))
    obtain ⟨r_73, o_73, e_73⟩ : ∃ r9 o9, (k_X1_orderPut (cv.2.1 2) ((vr / 8) - (vr / 8) / 6 * 6) (((vr / 8) / 8) - ((vr / 8) / 8) / 24 * 24) (1 + (((vr / 8) / 256) - ((vr / 8) / 256) / 6 * 6))) = (r9, o9) := ⟨_, _, rfl⟩
    rw [e_73] at hc_73 hres
    dsimp only at hc_73 hres
    refine kI_call (wc := (og_W cs (ca 12) (cv.2.1 2))) (wr := (ca_ro cs ca cv 2)) (w1 := og_W cs (ca 12) o_73) (r := r_73) hE hP hD hS (k_rV (rest := []) (As := [.int ((vr / 8) - (vr / 8) / 6 * 6), .int (((vr / 8) / 8) - ((vr / 8) / 8) / 24 * 24), .int (1 + (((vr / 8) / 256) - ((vr / 8) / 256) / 6 * 6))]) hE rfl (hc_73 H.size) (cwV 3 hts gX5_simulateTurn_X1_orderPut rfl rfl rfl (by decide +kernel) ⟨Nat.le_of_ble_eq_true rfl, Nat.le_of_ble_eq_true rfl⟩) hP hD hS (ci := 1) (q0 := 0) rfl rfl rfl hl rfl (Nat.le_of_ble_eq_true rfl) ⟨Nat.le_of_ble_eq_true rfl, Nat.le_of_ble_eq_true rfl⟩ dX5_simulateTurn_73) (fun H locs hP hD hS => ?_)
    have hP := pmP (ca_bk1 (cs := cs) (ca := ca) (cv := cv) (k := 2) (by decide)) hP
    have hD := pmD (ca_bk1 (cs := cs) (ca := ca) (cv := cv) (k := 2) (by decide)) hD
    have hP : va_P D vwCl (ca_W cs ca (c_o cv 2 o_73)) H := hP
    have hD : va_D A (ca_W cs ca (c_o cv 2 o_73)) := hD
    refine lv_pop hx hb dX5_simulateTurn_76 rfl ?_
    refine lv_goto (tgt := 201) hx hb dX5_simulateTurn_77 (by decide) ?_
    subst hres
    exact kV_ret () hE hS hP hD trivial (Nat.le_of_ble_eq_true rfl) (Nat.le_of_ble_eq_true rfl) dX5_simulateTurn_201
  · skip
    rw [if_neg c_9_0] at hres
    by_cases c_9_1 : (vr - vr / 8 * 8) = 1
    · skip
      rw [if_pos c_9_1] at hres
      refine lv_tableIn (tgt := 48) (off := 39) hx hb dX5_simulateTurn_9 (by rw [c_9_1]; decide) (by rw [c_9_1]; decide) (by rw [c_9_1]; rfl) (by decide) ?_
      refine lv_aload_n hx hb dX5_simulateTurn_48 rfl (lv_at hl 1 rfl) ?_
      refine va_get (D := D) (ci := 5) (v := .ref (ca 12 0)) (C := RX5) (T := TX5) (N := 6) hx hb hts hinX5 hown hK hP 0 rfl rfl 3 (by decide) lk_0 (fun _ h9 => h9) rfl dX5_simulateTurn_49 ?_
      refine lv_iload_n hx hb dX5_simulateTurn_52 rfl (lv_at hl 0 rfl) ?_
      refine lv_bipush (v := 6) hx hb dX5_simulateTurn_53 (by decide) ?_
      refine lv_irem hx hb dX5_simulateTurn_55 (by decide) ?_
      refine lv_iload_n hx hb dX5_simulateTurn_56 rfl (lv_at hl 0 rfl) ?_
      refine lv_bipush (v := 8) hx hb dX5_simulateTurn_57 (by decide) ?_
      refine lv_idiv hx hb dX5_simulateTurn_59 (by decide) ?_
      refine lv_bipush (v := 24) hx hb dX5_simulateTurn_60 (by decide) ?_
      refine lv_irem hx hb dX5_simulateTurn_62 (by decide) ?_
      refine lv_iconst (v := 1) hx hb dX5_simulateTurn_63 (by decide) ?_
      refine lv_iload_n hx hb dX5_simulateTurn_64 rfl (lv_at hl 0 rfl) ?_
      refine lv_sipush (v := 256) hx hb dX5_simulateTurn_65 (by decide) ?_
      refine lv_idiv hx hb dX5_simulateTurn_68 (by decide) ?_
      refine lv_bipush (v := 6) hx hb dX5_simulateTurn_69 (by decide) ?_
      refine lv_irem hx hb dX5_simulateTurn_71 (by decide) ?_
      refine lv_iadd hx hb dX5_simulateTurn_72 ?_
      have hP := pmP (ca_pm1 (cs := cs) (ca := ca) (cv := cv) (k := 2) (by decide)) hP
      have hD := pmD (ca_pm1 (cs := cs) (ca := ca) (cv := cv) (k := 2) (by decide)) hD
      have hc_73 := c_X1_orderPut l D cs (ca 12) (cv.2.1 2) ((vr / 8) - (vr / 8) / 6 * 6) (((vr / 8) / 8) - ((vr / 8) / 8) / 24 * 24) (1 + (((vr / 8) / 256) - ((vr / 8) / 256) / 6 * 6))
      obtain ⟨r_73, o_73, e_73⟩ : ∃ r9 o9, (k_X1_orderPut (cv.2.1 2) ((vr / 8) - (vr / 8) / 6 * 6) (((vr / 8) / 8) - ((vr / 8) / 8) / 24 * 24) (1 + (((vr / 8) / 256) - ((vr / 8) / 256) / 6 * 6))) = (r9, o9) := ⟨_, _, rfl⟩
      rw [e_73] at hc_73 hres
      dsimp only at hc_73 hres
      refine kI_call (wc := (og_W cs (ca 12) (cv.2.1 2))) (wr := (ca_ro cs ca cv 2)) (w1 := og_W cs (ca 12) o_73) (r := r_73) hE hP hD hS (k_rV (rest := []) (As := [.int ((vr / 8) - (vr / 8) / 6 * 6), .int (((vr / 8) / 8) - ((vr / 8) / 8) / 24 * 24), .int (1 + (((vr / 8) / 256) - ((vr / 8) / 256) / 6 * 6))]) hE rfl (hc_73 H.size) (cwV 3 hts gX5_simulateTurn_X1_orderPut rfl rfl rfl (by decide +kernel) ⟨Nat.le_of_ble_eq_true rfl, Nat.le_of_ble_eq_true rfl⟩) hP hD hS (ci := 1) (q0 := 0) rfl rfl rfl hl rfl (Nat.le_of_ble_eq_true rfl) ⟨Nat.le_of_ble_eq_true rfl, Nat.le_of_ble_eq_true rfl⟩ dX5_simulateTurn_73) (fun H locs hP hD hS => ?_)
      have hP := pmP (ca_bk1 (cs := cs) (ca := ca) (cv := cv) (k := 2) (by decide)) hP
      have hD := pmD (ca_bk1 (cs := cs) (ca := ca) (cv := cv) (k := 2) (by decide)) hD
      have hP : va_P D vwCl (ca_W cs ca (c_o cv 2 o_73)) H := hP
      have hD : va_D A (ca_W cs ca (c_o cv 2 o_73)) := hD
      refine lv_pop hx hb dX5_simulateTurn_76 rfl ?_
      refine lv_goto (tgt := 201) hx hb dX5_simulateTurn_77 (by decide) ?_
      subst hres
      exact kV_ret () hE hS hP hD trivial (Nat.le_of_ble_eq_true rfl) (Nat.le_of_ble_eq_true rfl) dX5_simulateTurn_201
    · skip
      rw [if_neg c_9_1] at hres
      by_cases c_9_2 : (vr - vr / 8 * 8) = 2
      · skip
        rw [if_pos c_9_2] at hres
        refine lv_tableIn (tgt := 48) (off := 39) hx hb dX5_simulateTurn_9 (by rw [c_9_2]; decide) (by rw [c_9_2]; decide) (by rw [c_9_2]; rfl) (by decide) ?_
        refine lv_aload_n hx hb dX5_simulateTurn_48 rfl (lv_at hl 1 rfl) ?_
        refine va_get (D := D) (ci := 5) (v := .ref (ca 12 0)) (C := RX5) (T := TX5) (N := 6) hx hb hts hinX5 hown hK hP 0 rfl rfl 3 (by decide) lk_0 (fun _ h9 => h9) rfl dX5_simulateTurn_49 ?_
        refine lv_iload_n hx hb dX5_simulateTurn_52 rfl (lv_at hl 0 rfl) ?_
        refine lv_bipush (v := 6) hx hb dX5_simulateTurn_53 (by decide) ?_
        refine lv_irem hx hb dX5_simulateTurn_55 (by decide) ?_
        refine lv_iload_n hx hb dX5_simulateTurn_56 rfl (lv_at hl 0 rfl) ?_
        refine lv_bipush (v := 8) hx hb dX5_simulateTurn_57 (by decide) ?_
        refine lv_idiv hx hb dX5_simulateTurn_59 (by decide) ?_
        refine lv_bipush (v := 24) hx hb dX5_simulateTurn_60 (by decide) ?_
        refine lv_irem hx hb dX5_simulateTurn_62 (by decide) ?_
        refine lv_iconst (v := 1) hx hb dX5_simulateTurn_63 (by decide) ?_
        refine lv_iload_n hx hb dX5_simulateTurn_64 rfl (lv_at hl 0 rfl) ?_
        refine lv_sipush (v := 256) hx hb dX5_simulateTurn_65 (by decide) ?_
        refine lv_idiv hx hb dX5_simulateTurn_68 (by decide) ?_
        refine lv_bipush (v := 6) hx hb dX5_simulateTurn_69 (by decide) ?_
        refine lv_irem hx hb dX5_simulateTurn_71 (by decide) ?_
        refine lv_iadd hx hb dX5_simulateTurn_72 ?_
        have hP := pmP (ca_pm1 (cs := cs) (ca := ca) (cv := cv) (k := 2) (by decide)) hP
        have hD := pmD (ca_pm1 (cs := cs) (ca := ca) (cv := cv) (k := 2) (by decide)) hD
        have hc_73 := c_X1_orderPut l D cs (ca 12) (cv.2.1 2) ((vr / 8) - (vr / 8) / 6 * 6) (((vr / 8) / 8) - ((vr / 8) / 8) / 24 * 24) (1 + (((vr / 8) / 256) - ((vr / 8) / 256) / 6 * 6))
        obtain ⟨r_73, o_73, e_73⟩ : ∃ r9 o9, (k_X1_orderPut (cv.2.1 2) ((vr / 8) - (vr / 8) / 6 * 6) (((vr / 8) / 8) - ((vr / 8) / 8) / 24 * 24) (1 + (((vr / 8) / 256) - ((vr / 8) / 256) / 6 * 6))) = (r9, o9) := ⟨_, _, rfl⟩
        rw [e_73] at hc_73 hres
        dsimp only at hc_73 hres
        refine kI_call (wc := (og_W cs (ca 12) (cv.2.1 2))) (wr := (ca_ro cs ca cv 2)) (w1 := og_W cs (ca 12) o_73) (r := r_73) hE hP hD hS (k_rV (rest := []) (As := [.int ((vr / 8) - (vr / 8) / 6 * 6), .int (((vr / 8) / 8) - ((vr / 8) / 8) / 24 * 24), .int (1 + (((vr / 8) / 256) - ((vr / 8) / 256) / 6 * 6))]) hE rfl (hc_73 H.size) (cwV 3 hts gX5_simulateTurn_X1_orderPut rfl rfl rfl (by decide +kernel) ⟨Nat.le_of_ble_eq_true rfl, Nat.le_of_ble_eq_true rfl⟩) hP hD hS (ci := 1) (q0 := 0) rfl rfl rfl hl rfl (Nat.le_of_ble_eq_true rfl) ⟨Nat.le_of_ble_eq_true rfl, Nat.le_of_ble_eq_true rfl⟩ dX5_simulateTurn_73) (fun H locs hP hD hS => ?_)
        have hP := pmP (ca_bk1 (cs := cs) (ca := ca) (cv := cv) (k := 2) (by decide)) hP
        have hD := pmD (ca_bk1 (cs := cs) (ca := ca) (cv := cv) (k := 2) (by decide)) hD
        have hP : va_P D vwCl (ca_W cs ca (c_o cv 2 o_73)) H := hP
        have hD : va_D A (ca_W cs ca (c_o cv 2 o_73)) := hD
        refine lv_pop hx hb dX5_simulateTurn_76 rfl ?_
        refine lv_goto (tgt := 201) hx hb dX5_simulateTurn_77 (by decide) ?_
        subst hres
        exact kV_ret () hE hS hP hD trivial (Nat.le_of_ble_eq_true rfl) (Nat.le_of_ble_eq_true rfl) dX5_simulateTurn_201
      · skip
        rw [if_neg c_9_2] at hres
        by_cases c_9_3 : (vr - vr / 8 * 8) = 3
        · skip
          rw [if_pos c_9_3] at hres
          refine lv_tableIn (tgt := 80) (off := 71) hx hb dX5_simulateTurn_9 (by rw [c_9_3]; decide) (by rw [c_9_3]; decide) (by rw [c_9_3]; rfl) (by decide) ?_
          refine lv_aload_n hx hb dX5_simulateTurn_80 rfl (lv_at hl 1 rfl) ?_
          refine va_get (D := D) (ci := 5) (v := .ref (ca 12 0)) (C := RX5) (T := TX5) (N := 6) hx hb hts hinX5 hown hK hP 0 rfl rfl 3 (by decide) lk_0 (fun _ h9 => h9) rfl dX5_simulateTurn_81 ?_
          refine lv_iload_n hx hb dX5_simulateTurn_84 rfl (lv_at hl 0 rfl) ?_
          refine lv_bipush (v := 6) hx hb dX5_simulateTurn_85 (by decide) ?_
          refine lv_irem hx hb dX5_simulateTurn_87 (by decide) ?_
          refine lv_iload_n hx hb dX5_simulateTurn_88 rfl (lv_at hl 0 rfl) ?_
          refine lv_bipush (v := 8) hx hb dX5_simulateTurn_89 (by decide) ?_
          refine lv_idiv hx hb dX5_simulateTurn_91 (by decide) ?_
          refine lv_bipush (v := 24) hx hb dX5_simulateTurn_92 (by decide) ?_
          refine lv_irem hx hb dX5_simulateTurn_94 (by decide) ?_
          have hP := pmP (ca_pm1 (cs := cs) (ca := ca) (cv := cv) (k := 2) (by decide)) hP
          have hD := pmD (ca_pm1 (cs := cs) (ca := ca) (cv := cv) (k := 2) (by decide)) hD
          have hc_95 := c_X1_orderPull l D cs (ca 12) (cv.2.1 2) ((vr / 8) - (vr / 8) / 6 * 6) (((vr / 8) / 8) - ((vr / 8) / 8) / 24 * 24)
          obtain ⟨r_95, o_95, e_95⟩ : ∃ r9 o9, (k_X1_orderPull (cv.2.1 2) ((vr / 8) - (vr / 8) / 6 * 6) (((vr / 8) / 8) - ((vr / 8) / 8) / 24 * 24)) = (r9, o9) := ⟨_, _, rfl⟩
          rw [e_95] at hc_95 hres
          dsimp only at hc_95 hres
          refine kI_call (wc := (og_W cs (ca 12) (cv.2.1 2))) (wr := (ca_ro cs ca cv 2)) (w1 := og_W cs (ca 12) o_95) (r := r_95) hE hP hD hS (k_rV (rest := []) (As := [.int ((vr / 8) - (vr / 8) / 6 * 6), .int (((vr / 8) / 8) - ((vr / 8) / 8) / 24 * 24)]) hE rfl (hc_95 H.size) (cwV 2 hts gX5_simulateTurn_X1_orderPull rfl rfl rfl (by decide +kernel) ⟨Nat.le_of_ble_eq_true rfl, Nat.le_of_ble_eq_true rfl⟩) hP hD hS (ci := 1) (q0 := 0) rfl rfl rfl hl rfl (Nat.le_of_ble_eq_true rfl) ⟨Nat.le_of_ble_eq_true rfl, Nat.le_of_ble_eq_true rfl⟩ dX5_simulateTurn_95) (fun H locs hP hD hS => ?_)
          have hP := pmP (ca_bk1 (cs := cs) (ca := ca) (cv := cv) (k := 2) (by decide)) hP
          have hD := pmD (ca_bk1 (cs := cs) (ca := ca) (cv := cv) (k := 2) (by decide)) hD
          have hP : va_P D vwCl (ca_W cs ca (c_o cv 2 o_95)) H := hP
          have hD : va_D A (ca_W cs ca (c_o cv 2 o_95)) := hD
          refine lv_pop hx hb dX5_simulateTurn_98 rfl ?_
          refine lv_goto (tgt := 201) hx hb dX5_simulateTurn_99 (by decide) ?_
          subst hres
          exact kV_ret () hE hS hP hD trivial (Nat.le_of_ble_eq_true rfl) (Nat.le_of_ble_eq_true rfl) dX5_simulateTurn_201
        · skip
          rw [if_neg c_9_3] at hres
          by_cases c_9_4 : (vr - vr / 8 * 8) = 4
          · skip
            rw [if_pos c_9_4] at hres
            refine lv_tableIn (tgt := 102) (off := 93) hx hb dX5_simulateTurn_9 (by rw [c_9_4]; decide) (by rw [c_9_4]; decide) (by rw [c_9_4]; rfl) (by decide) ?_
            refine lv_iload_n hx hb dX5_simulateTurn_102 rfl (lv_at hl 0 rfl) ?_
            refine lv_iconst (v := 4) hx hb dX5_simulateTurn_103 (by decide) ?_
            refine lv_idiv hx hb dX5_simulateTurn_104 (by decide) ?_
            refine lv_iconst (v := 2) hx hb dX5_simulateTurn_105 (by decide) ?_
            refine lv_irem hx hb dX5_simulateTurn_106 (by decide) ?_
            refine lv_if_ne (tgt := 125) hx hb dX5_simulateTurn_107 (by decide) (fun c_107 => ?_) (fun c_107 => ?_)
            · skip
              have c_107 : ¬ ((((vr / 8) / 4) - ((vr / 8) / 4) / 2 * 2) = 0) := c_107
              rw [if_neg c_107] at hres
              refine lv_aload_n hx hb dX5_simulateTurn_125 rfl (lv_at hl 1 rfl) ?_
              refine va_get (D := D) (ci := 5) (v := .ref (ca 12 0)) (C := RX5) (T := TX5) (N := 6) hx hb hts hinX5 hown hK hP 0 rfl rfl 3 (by decide) lk_0 (fun _ h9 => h9) rfl dX5_simulateTurn_126 ?_
              refine lv_iconst (v := 1) hx hb dX5_simulateTurn_129 (by decide) ?_
              refine lv_iload_n hx hb dX5_simulateTurn_130 rfl (lv_at hl 0 rfl) ?_
              refine lv_bipush (v := 8) hx hb dX5_simulateTurn_131 (by decide) ?_
              refine lv_idiv hx hb dX5_simulateTurn_133 (by decide) ?_
              refine lv_bipush (v := 10) hx hb dX5_simulateTurn_134 (by decide) ?_
              refine lv_irem hx hb dX5_simulateTurn_136 (by decide) ?_
              have hP := pmP (ca_pm1 (cs := cs) (ca := ca) (cv := cv) (k := 2) (by decide)) hP
              have hD := pmD (ca_pm1 (cs := cs) (ca := ca) (cv := cv) (k := 2) (by decide)) hD
              have hc_137 := c_X1_change l D cs (ca 12) (cv.2.1 2) 1 (((vr / 8) / 8) - ((vr / 8) / 8) / 10 * 10)
              obtain ⟨r_137, o_137, e_137⟩ : ∃ r9 o9, (k_X1_change (cv.2.1 2) 1 (((vr / 8) / 8) - ((vr / 8) / 8) / 10 * 10)) = (r9, o9) := ⟨_, _, rfl⟩
              rw [e_137] at hc_137 hres
              dsimp only at hc_137 hres
              refine kI_call (wc := (og_W cs (ca 12) (cv.2.1 2))) (wr := (ca_ro cs ca cv 2)) (w1 := og_W cs (ca 12) o_137) (r := r_137) hE hP hD hS (k_rV (rest := []) (As := [.int 1, .int (((vr / 8) / 8) - ((vr / 8) / 8) / 10 * 10)]) hE rfl (hc_137 H.size) (cwV 2 hts gX5_simulateTurn_X1_change rfl rfl rfl (by decide +kernel) ⟨Nat.le_of_ble_eq_true rfl, Nat.le_of_ble_eq_true rfl⟩) hP hD hS (ci := 1) (q0 := 0) rfl rfl rfl hl rfl (Nat.le_of_ble_eq_true rfl) ⟨Nat.le_of_ble_eq_true rfl, Nat.le_of_ble_eq_true rfl⟩ dX5_simulateTurn_137) (fun H locs hP hD hS => ?_)
              have hP := pmP (ca_bk1 (cs := cs) (ca := ca) (cv := cv) (k := 2) (by decide)) hP
              have hD := pmD (ca_bk1 (cs := cs) (ca := ca) (cv := cv) (k := 2) (by decide)) hD
              have hP : va_P D vwCl (ca_W cs ca (c_o cv 2 o_137)) H := hP
              have hD : va_D A (ca_W cs ca (c_o cv 2 o_137)) := hD
              refine lv_pop hx hb dX5_simulateTurn_140 rfl ?_
              refine lv_goto (tgt := 201) hx hb dX5_simulateTurn_141 (by decide) ?_
              subst hres
              exact kV_ret () hE hS hP hD trivial (Nat.le_of_ble_eq_true rfl) (Nat.le_of_ble_eq_true rfl) dX5_simulateTurn_201
            · skip
              have c_107 : ((((vr / 8) / 4) - ((vr / 8) / 4) / 2 * 2) = 0) := c_107
              rw [if_pos c_107] at hres
              refine lv_aload_n hx hb dX5_simulateTurn_110 rfl (lv_at hl 1 rfl) ?_
              refine va_get (D := D) (ci := 5) (v := .ref (ca 12 0)) (C := RX5) (T := TX5) (N := 6) hx hb hts hinX5 hown hK hP 0 rfl rfl 3 (by decide) lk_0 (fun _ h9 => h9) rfl dX5_simulateTurn_111 ?_
              refine lv_iconst (v := 0) hx hb dX5_simulateTurn_114 (by decide) ?_
              refine lv_iload_n hx hb dX5_simulateTurn_115 rfl (lv_at hl 0 rfl) ?_
              refine lv_iconst (v := 4) hx hb dX5_simulateTurn_116 (by decide) ?_
              refine lv_irem hx hb dX5_simulateTurn_117 (by decide) ?_
              have hP := pmP (ca_pm1 (cs := cs) (ca := ca) (cv := cv) (k := 2) (by decide)) hP
              have hD := pmD (ca_pm1 (cs := cs) (ca := ca) (cv := cv) (k := 2) (by decide)) hD
              have hc_118 := c_X1_change l D cs (ca 12) (cv.2.1 2) 0 ((vr / 8) - (vr / 8) / 4 * 4)
              obtain ⟨r_118, o_118, e_118⟩ : ∃ r9 o9, (k_X1_change (cv.2.1 2) 0 ((vr / 8) - (vr / 8) / 4 * 4)) = (r9, o9) := ⟨_, _, rfl⟩
              rw [e_118] at hc_118 hres
              dsimp only at hc_118 hres
              refine kI_call (wc := (og_W cs (ca 12) (cv.2.1 2))) (wr := (ca_ro cs ca cv 2)) (w1 := og_W cs (ca 12) o_118) (r := r_118) hE hP hD hS (k_rV (rest := []) (As := [.int 0, .int ((vr / 8) - (vr / 8) / 4 * 4)]) hE rfl (hc_118 H.size) (cwV 2 hts gX5_simulateTurn_X1_change rfl rfl rfl (by decide +kernel) ⟨Nat.le_of_ble_eq_true rfl, Nat.le_of_ble_eq_true rfl⟩) hP hD hS (ci := 1) (q0 := 0) rfl rfl rfl hl rfl (Nat.le_of_ble_eq_true rfl) ⟨Nat.le_of_ble_eq_true rfl, Nat.le_of_ble_eq_true rfl⟩ dX5_simulateTurn_118) (fun H locs hP hD hS => ?_)
              have hP := pmP (ca_bk1 (cs := cs) (ca := ca) (cv := cv) (k := 2) (by decide)) hP
              have hD := pmD (ca_bk1 (cs := cs) (ca := ca) (cv := cv) (k := 2) (by decide)) hD
              have hP : va_P D vwCl (ca_W cs ca (c_o cv 2 o_118)) H := hP
              have hD : va_D A (ca_W cs ca (c_o cv 2 o_118)) := hD
              refine lv_pop hx hb dX5_simulateTurn_121 rfl ?_
              refine lv_goto (tgt := 201) hx hb dX5_simulateTurn_122 (by decide) ?_
              subst hres
              exact kV_ret () hE hS hP hD trivial (Nat.le_of_ble_eq_true rfl) (Nat.le_of_ble_eq_true rfl) dX5_simulateTurn_201
          · skip
            rw [if_neg c_9_4] at hres
            by_cases c_9_5 : (vr - vr / 8 * 8) = 5
            · skip
              rw [if_pos c_9_5] at hres
              refine lv_tableIn (tgt := 144) (off := 135) hx hb dX5_simulateTurn_9 (by rw [c_9_5]; decide) (by rw [c_9_5]; decide) (by rw [c_9_5]; rfl) (by decide) ?_
              refine lv_iload_n hx hb dX5_simulateTurn_144 rfl (lv_at hl 0 rfl) ?_
              refine lv_bipush (v := 16) hx hb dX5_simulateTurn_145 (by decide) ?_
              refine lv_idiv hx hb dX5_simulateTurn_147 (by decide) ?_
              refine lv_iconst (v := 4) hx hb dX5_simulateTurn_148 (by decide) ?_
              refine lv_irem hx hb dX5_simulateTurn_149 (by decide) ?_
              refine lv_if_ne (tgt := 168) hx hb dX5_simulateTurn_150 (by decide) (fun c_150 => ?_) (fun c_150 => ?_)
              · skip
                have c_150 : ¬ ((((vr / 8) / 16) - ((vr / 8) / 16) / 4 * 4) = 0) := c_150
                rw [if_neg c_150] at hres
                refine lv_aload_n hx hb dX5_simulateTurn_168 rfl (lv_at hl 1 rfl) ?_
                refine va_get (D := D) (ci := 5) (v := .ref (ca 12 0)) (C := RX5) (T := TX5) (N := 6) hx hb hts hinX5 hown hK hP 0 rfl rfl 3 (by decide) lk_0 (fun _ h9 => h9) rfl dX5_simulateTurn_169 ?_
                refine lv_iconst (v := 2) hx hb dX5_simulateTurn_172 (by decide) ?_
                refine lv_iload_n hx hb dX5_simulateTurn_173 rfl (lv_at hl 0 rfl) ?_
                refine lv_bipush (v := 64) hx hb dX5_simulateTurn_174 (by decide) ?_
                refine lv_idiv hx hb dX5_simulateTurn_176 (by decide) ?_
                refine lv_bipush (v := 61) hx hb dX5_simulateTurn_177 (by decide) ?_
                refine lv_irem hx hb dX5_simulateTurn_179 (by decide) ?_
                have hP := pmP (ca_pm1 (cs := cs) (ca := ca) (cv := cv) (k := 2) (by decide)) hP
                have hD := pmD (ca_pm1 (cs := cs) (ca := ca) (cv := cv) (k := 2) (by decide)) hD
                have hc_180 := c_X1_change l D cs (ca 12) (cv.2.1 2) 2 (((vr / 8) / 64) - ((vr / 8) / 64) / 61 * 61)
                obtain ⟨r_180, o_180, e_180⟩ : ∃ r9 o9, (k_X1_change (cv.2.1 2) 2 (((vr / 8) / 64) - ((vr / 8) / 64) / 61 * 61)) = (r9, o9) := ⟨_, _, rfl⟩
                rw [e_180] at hc_180 hres
                dsimp only at hc_180 hres
                refine kI_call (wc := (og_W cs (ca 12) (cv.2.1 2))) (wr := (ca_ro cs ca cv 2)) (w1 := og_W cs (ca 12) o_180) (r := r_180) hE hP hD hS (k_rV (rest := []) (As := [.int 2, .int (((vr / 8) / 64) - ((vr / 8) / 64) / 61 * 61)]) hE rfl (hc_180 H.size) (cwV 2 hts gX5_simulateTurn_X1_change rfl rfl rfl (by decide +kernel) ⟨Nat.le_of_ble_eq_true rfl, Nat.le_of_ble_eq_true rfl⟩) hP hD hS (ci := 1) (q0 := 0) rfl rfl rfl hl rfl (Nat.le_of_ble_eq_true rfl) ⟨Nat.le_of_ble_eq_true rfl, Nat.le_of_ble_eq_true rfl⟩ dX5_simulateTurn_180) (fun H locs hP hD hS => ?_)
                have hP := pmP (ca_bk1 (cs := cs) (ca := ca) (cv := cv) (k := 2) (by decide)) hP
                have hD := pmD (ca_bk1 (cs := cs) (ca := ca) (cv := cv) (k := 2) (by decide)) hD
                have hP : va_P D vwCl (ca_W cs ca (c_o cv 2 o_180)) H := hP
                have hD : va_D A (ca_W cs ca (c_o cv 2 o_180)) := hD
                refine lv_pop hx hb dX5_simulateTurn_183 rfl ?_
                refine lv_goto (tgt := 201) hx hb dX5_simulateTurn_184 (by decide) ?_
                subst hres
                exact kV_ret () hE hS hP hD trivial (Nat.le_of_ble_eq_true rfl) (Nat.le_of_ble_eq_true rfl) dX5_simulateTurn_201
              · skip
                have c_150 : ((((vr / 8) / 16) - ((vr / 8) / 16) / 4 * 4) = 0) := c_150
                rw [if_pos c_150] at hres
                refine lv_aload_n hx hb dX5_simulateTurn_153 rfl (lv_at hl 1 rfl) ?_
                refine va_get (D := D) (ci := 5) (v := .ref (ca 12 0)) (C := RX5) (T := TX5) (N := 6) hx hb hts hinX5 hown hK hP 0 rfl rfl 3 (by decide) lk_0 (fun _ h9 => h9) rfl dX5_simulateTurn_154 ?_
                refine lv_iload_n hx hb dX5_simulateTurn_157 rfl (lv_at hl 0 rfl) ?_
                refine lv_bipush (v := 12) hx hb dX5_simulateTurn_158 (by decide) ?_
                refine lv_irem hx hb dX5_simulateTurn_160 (by decide) ?_
                have hP := pmP (ca_pm1 (cs := cs) (ca := ca) (cv := cv) (k := 2) (by decide)) hP
                have hD := pmD (ca_pm1 (cs := cs) (ca := ca) (cv := cv) (k := 2) (by decide)) hD
                have hc_161 := c_X1_dropOrder l D cs (ca 12) (cv.2.1 2) ((vr / 8) - (vr / 8) / 12 * 12) (hC.1 2 (by decide))
                obtain ⟨r_161, o_161, e_161⟩ : ∃ r9 o9, (k_X1_dropOrder (cv.2.1 2) ((vr / 8) - (vr / 8) / 12 * 12)) = (r9, o9) := ⟨_, _, rfl⟩
                rw [e_161] at hc_161 hres
                dsimp only at hc_161 hres
                refine kI_call (wc := (og_W cs (ca 12) (cv.2.1 2))) (wr := (ca_ro cs ca cv 2)) (w1 := og_W cs (ca 12) o_161) (r := r_161) hE hP hD hS (k_rV (rest := []) (As := [.int ((vr / 8) - (vr / 8) / 12 * 12)]) hE rfl (hc_161 H.size) (cwV 1 hts gX5_simulateTurn_X1_dropOrder rfl rfl rfl (by decide +kernel) ⟨Nat.le_of_ble_eq_true rfl, Nat.le_of_ble_eq_true rfl⟩) hP hD hS (ci := 1) (q0 := 0) rfl rfl rfl hl rfl (Nat.le_of_ble_eq_true rfl) ⟨Nat.le_of_ble_eq_true rfl, Nat.le_of_ble_eq_true rfl⟩ dX5_simulateTurn_161) (fun H locs hP hD hS => ?_)
                have hP := pmP (ca_bk1 (cs := cs) (ca := ca) (cv := cv) (k := 2) (by decide)) hP
                have hD := pmD (ca_bk1 (cs := cs) (ca := ca) (cv := cv) (k := 2) (by decide)) hD
                have hP : va_P D vwCl (ca_W cs ca (c_o cv 2 o_161)) H := hP
                have hD : va_D A (ca_W cs ca (c_o cv 2 o_161)) := hD
                refine lv_pop hx hb dX5_simulateTurn_164 rfl ?_
                refine lv_goto (tgt := 201) hx hb dX5_simulateTurn_165 (by decide) ?_
                subst hres
                exact kV_ret () hE hS hP hD trivial (Nat.le_of_ble_eq_true rfl) (Nat.le_of_ble_eq_true rfl) dX5_simulateTurn_201
            · skip
              rw [if_neg c_9_5] at hres
              refine lv_tableOut (tgt := 187) hx hb dX5_simulateTurn_9 (x_out (vr - vr / 8 * 8) 0 6 (by decide) (by intro j hj; match j, hj with | 0, _ => exact c_9_0 | 1, _ => exact c_9_1 | 2, _ => exact c_9_2 | 3, _ => exact c_9_3 | 4, _ => exact c_9_4 | 5, _ => exact c_9_5 | n + 6, hj => exact absurd hj (by omega))) (by decide) ?_
              refine lv_aload_n hx hb dX5_simulateTurn_187 rfl (lv_at hl 1 rfl) ?_
              refine va_get (D := D) (ci := 5) (v := .ref (ca 12 0)) (C := RX5) (T := TX5) (N := 6) hx hb hts hinX5 hown hK hP 0 rfl rfl 3 (by decide) lk_0 (fun _ h9 => h9) rfl dX5_simulateTurn_188 ?_
              refine lv_iconst (v := 1) hx hb dX5_simulateTurn_191 (by decide) ?_
              refine lv_iload_n hx hb dX5_simulateTurn_192 rfl (lv_at hl 0 rfl) ?_
              refine lv_bipush (v := 12) hx hb dX5_simulateTurn_193 (by decide) ?_
              refine lv_irem hx hb dX5_simulateTurn_195 (by decide) ?_
              refine lv_iadd hx hb dX5_simulateTurn_196 ?_
              have hP := pmP (ca_pm1 (cs := cs) (ca := ca) (cv := cv) (k := 2) (by decide)) hP
              have hD := pmD (ca_pm1 (cs := cs) (ca := ca) (cv := cv) (k := 2) (by decide)) hD
              have hc_197 := c_X1_play l D cs (ca 12) (cv.2.1 2) (1 + ((vr / 8) - (vr / 8) / 12 * 12)) (hC.1 2 (by decide))
              obtain ⟨r_197, o_197, e_197⟩ : ∃ r9 o9, (k_X1_play (cv.2.1 2) (1 + ((vr / 8) - (vr / 8) / 12 * 12))) = (r9, o9) := ⟨_, _, rfl⟩
              rw [e_197] at hc_197 hres
              dsimp only at hc_197 hres
              refine kI_call (wc := (og_W cs (ca 12) (cv.2.1 2))) (wr := (ca_ro cs ca cv 2)) (w1 := og_W cs (ca 12) o_197) (r := r_197) hE hP hD hS (k_rV (rest := []) (As := [.int (1 + ((vr / 8) - (vr / 8) / 12 * 12))]) hE rfl (hc_197 H.size) (cwV 1 hts gX5_simulateTurn_X1_play rfl rfl rfl (by decide +kernel) ⟨Nat.le_of_ble_eq_true rfl, Nat.le_of_ble_eq_true rfl⟩) hP hD hS (ci := 1) (q0 := 0) rfl rfl rfl hl rfl (Nat.le_of_ble_eq_true rfl) ⟨Nat.le_of_ble_eq_true rfl, Nat.le_of_ble_eq_true rfl⟩ dX5_simulateTurn_197) (fun H locs hP hD hS => ?_)
              have hP := pmP (ca_bk1 (cs := cs) (ca := ca) (cv := cv) (k := 2) (by decide)) hP
              have hD := pmD (ca_bk1 (cs := cs) (ca := ca) (cv := cv) (k := 2) (by decide)) hD
              have hP : va_P D vwCl (ca_W cs ca (c_o cv 2 o_197)) H := hP
              have hD : va_D A (ca_W cs ca (c_o cv 2 o_197)) := hD
              refine lv_pop hx hb dX5_simulateTurn_200 rfl ?_
              subst hres
              exact kV_ret () hE hS hP hD trivial (Nat.le_of_ble_eq_true rfl) (Nat.le_of_ble_eq_true rfl) dX5_simulateTurn_201
theorem ite_C1 {c : Prop} [Decidable c] {a b : CV} (h1 : CO a) (h2 : CO b) : CO (ite c a b) := by split <;> assumption
theorem ite_C2 {c : Prop} [Decidable c] {a b : Int32 × CV} (h1 : CO a.2) (h2 : CO b.2) : CO (ite c a b).2 := by split <;> assumption
theorem OI_put9 {o : OV} {a b c : Int32} (h : OI o) : OI (k_X1_orderPut o a b c).2 := OI_putE (Prod.eta _).symm h
theorem OI_pull9 {o : OV} {a b : Int32} (h : OI o) : OI (k_X1_orderPull o a b).2 := OI_pullE (Prod.eta _).symm h
theorem OI_drop9 {o : OV} {a : Int32} (h : OI o) : OI (k_X1_dropOrder o a).2 := OI_dropE (Prod.eta _).symm h
theorem OI_change9 {o : OV} {a b : Int32} (h : OI o) : OI (k_X1_change o a b).2 := OI_changeE (Prod.eta _).symm h
theorem OI_play9 {o : OV} {a : Int32} (h : OI o) : OI (k_X1_play o a).2 := OI_playE (Prod.eta _).symm h
theorem CO_grpE {cv c2 : CV} {vg r : Int32} (e : k_X5_obeysGroup cv vg = (r, c2)) (h : CO cv) : CO c2 := by
  have o2 := h.1 2 (by decide)
  suffices hq : CO (k_X5_obeysGroup cv vg).2 by rw [e] at hq; exact hq
  unfold k_X5_obeysGroup
  dsimp only
  repeat' with_reducible refine ite_C2 ?_ ?_
  all_goals (try dsimp only)
  all_goals first | with_reducible exact h | with_reducible exact CO_o h (OI_put9 o2) | with_reducible exact CO_o h (OI_pull9 o2) | with_reducible exact CO_o h (OI_drop9 o2) | with_reducible exact CO_o h (OI_change9 o2) | with_reducible exact CO_o h (OI_play9 o2)
theorem CO_turn {cv : CV} {vr : Int32} (h : CO cv) : CO (k_X5_simulateTurn cv vr) := by
  have o2 := h.1 2 (by decide)
  unfold k_X5_simulateTurn
  dsimp only
  repeat' with_reducible refine ite_C1 ?_ ?_
  all_goals (try dsimp only)
  all_goals first | with_reducible exact h | with_reducible exact CO_o h (OI_put9 o2) | with_reducible exact CO_o h (OI_pull9 o2) | with_reducible exact CO_o h (OI_drop9 o2) | with_reducible exact CO_o h (OI_change9 o2) | with_reducible exact CO_o h (OI_play9 o2)
def k_X5_runScript_L60 (cv : CV) (vn : Int32) (vs : Int64) : Nat → Int32 → CV → (Option String × Int32 × CV)
  | 0, _, cw => (none, 0, cw)
  | n + 1, i, cw => (if vn ≤ i then (none, (-1), cw) else (match (k_X5_obeysGroup cw (Int64.toInt32 ((k_X5_withoutLastGroups vs ((vn - 1) - i)) - (k_X5_withoutLastGroups vs ((vn - 1) - i)) / 100000 * 100000))) with | (r_86, o_86) => (if r_86 = 0 then (none, i, o_86) else (k_X5_runScript_L60 cv vn vs n (i + 1) o_86))))
def k_X5_runScript (cv : CV) (vn : Int32) (vs : Int64) : Option String × Int32 × CV := (if vn < 1 then (some "java/lang/IllegalArgumentException", 0, cv) else (if vn ≤ 3 then (if (lg_cmp vs 0) < 0 then (some "java/lang/IllegalArgumentException", 0, cv) else (if (lg_cmp (k_X5_withoutLastGroups vs vn) 0) = 0 then (k_X5_runScript_L60 cv vn vs 4 0 (c_o cv 2 (k_X1_copyFrom (cv.2.1 2) (cv.2.1 0)))) else (some "java/lang/IllegalArgumentException", 0, cv))) else (some "java/lang/IllegalArgumentException", 0, cv)))
set_option maxHeartbeats 4000000 in
set_option maxRecDepth 100000 in
theorem c_X5_runScript (l : Launch) (hfl : l.stackTraces = false) (D : va_G) (cs : Nat → ClassId) (ca : Nat → Nat → Nat) (cv : CV) (vn : Int32) (vs : Int64) (hC : CO cv) : kX l yX5_runScript wsX5_runScript { frames := 7, cells := 1, slots := 6, locals := 179 } 1 6 D cs [.ref (ca 0 0), .int vn, .long vs] (ca_W cs ca cv) (k_X5_runScript cv vn vs).1 (k_X5_runScript cv vn vs).2.1 (ca_W cs ca ((k_X5_runScript cv vn vs).2.2)) := by
  generalize hres : k_X5_runScript cv vn vs = res
  refine kX_of (cc := cX5_runScript) (maxL := 6) (ret := (some .int)) (by decide) rfl (Nat.le_of_ble_eq_true rfl) ?_
  intro p e s m below meth c A ls H locs hE hxt hS hP hD hl
  obtain ⟨hx, hb, hr, hlocks, hml, hown, hts, hK, hA, hG, hnm⟩ := id hE
  have hown : s.vm.findClass RX5 = some m.cls := hown
  have hl : lv_has ls 6 [(0, .ref (ca 0 0)), (1, .int vn), (2, .long vs)] := hl
  have hinX5 : ∀ w ∈ wsX50, w ∈ wsX5_runScript := by decide +kernel
  have lk_0 := hts (.constantLong RX5 251 100000) (by decide +kernel)
  have lk_1 := hts (.classLink RX5 43 "java/lang/IllegalArgumentException") (by decide +kernel)
  have lk_2 := hts (.initialized "java/lang/IllegalArgumentException") (by decide +kernel)
  have lk_3 := hts (.fieldLink RX5 26 "OrganPegs" "trial" "LOrganPegs$Organ;") (by decide +kernel)
  have lk_4 := hts (.fieldLink RX5 19 "OrganPegs" "organ" "LOrganPegs$Organ;") (by decide +kernel)
  have L60 : ∀ (n : Nat) (i : Int32) (cw : CV) (j : Nat) (hi : i = nI j) (hj : j + n = 4) (hj2 : j ≤ 3) (hv : vn.toInt ≤ 3) (hC2 : CO cw) (H : Heap) (locs : List Loc) (ls : Array Slot), va_S A s.heap H locs → va_P D vwCl (ca_W cs ca cw) H → va_D A (ca_W cs ca cw) → lv_has ls 6 [(0, .ref (ca 0 0)), (1, .int vn), (2, .long vs), (4, .int i)] → k_X5_runScript_L60 cv vn vs n i cw = res → W p l e { frames := 7, cells := 1, slots := 6, locals := 179 } s m ([.ref (ca 0 0), .int vn, .long vs]).toArray below meth c H locs 0 0 (vx_MQ below (va_Qi (fun (r' : Int32) (_ : Unit) => res.1 = none ∧ r' = res.2.1) (kB D (fun _ => ca_W cs ca res.2.2) A) A) (kT D res.1 (ca_W cs ca res.2.2) A) ([.ref (ca 0 0), .int vn, .long vs]).toArray s 1 6 A) (F0 m 60 ls []) := by
    intro n
    induction n with
    | zero =>
      intro i cw j hi hj hj2 hv hC2 H locs ls hS hP hD hl hres
      exact absurd hj2 (by omega)
    | succ n ih =>
      intro i cw j hi hj hj2 hv hC2 H locs ls hS hP hD hl hres
      unfold k_X5_runScript_L60 at hres
      refine lv_iload hx hb dX5_runScript_60 (lv_at hl 3 rfl) ?_
      refine lv_iload_n hx hb dX5_runScript_62 rfl (lv_at hl 1 rfl) ?_
      refine lv_icmp_ge (tgt := 101) hx hb dX5_runScript_63 (by decide) (fun c_63 => ?_) (fun c_63 => ?_)
      · skip
        have c_63 : (vn ≤ i) := c_63
        rw [if_pos c_63] at hres
        refine lv_iconst (v := (-1)) hx hb dX5_runScript_101 (by decide) ?_
        subst hres
        exact kX_ret hE hS hP hD rfl rfl rfl (Nat.le_of_ble_eq_true rfl) (Nat.le_of_ble_eq_true rfl) dX5_runScript_102
      · skip
        have c_63 : ¬ (vn ≤ i) := c_63
        rw [if_neg c_63] at hres
        refine lv_lload_n hx hb dX5_runScript_66 rfl (lv_at hl 2 rfl) ?_
        refine lv_iload_n hx hb dX5_runScript_67 rfl (lv_at hl 1 rfl) ?_
        refine lv_iconst (v := 1) hx hb dX5_runScript_68 (by decide) ?_
        refine lv_isub hx hb dX5_runScript_69 ?_
        refine lv_iload hx hb dX5_runScript_70 (lv_at hl 3 rfl) ?_
        refine lv_isub hx hb dX5_runScript_72 ?_
        have hP : va_P D vwCl ([] ++ (ca_W cs ca cw)) H := hP
        have hD : va_D A ([] ++ (ca_W cs ca cw)) := hD
        have hc_73 := c_X5_withoutLastGroups l D cs vs ((vn - 1) - i)
        refine kJ_call (wc := []) (wr := (ca_W cs ca cw)) (w1 := []) (r := (k_X5_withoutLastGroups vs ((vn - 1) - i))) hE hP hD hS (k_rS (rest := []) (As := [.long vs, .int ((vn - 1) - i)]) hE rfl (hc_73 H.size) (va_cwS 2 hts gX5_runScript_X5_withoutLastGroups rfl rfl rfl (by decide +kernel) ⟨Nat.le_of_ble_eq_true rfl, Nat.le_of_ble_eq_true rfl⟩) hP hD hS rfl hl rfl (Nat.le_of_ble_eq_true rfl) ⟨Nat.le_of_ble_eq_true rfl, Nat.le_of_ble_eq_true rfl⟩ dX5_runScript_73) (fun H locs hP hD hS => ?_)
        have hP : va_P D vwCl (ca_W cs ca cw) H := hP
        have hD : va_D A (ca_W cs ca cw) := hD
        refine lv_ldc2 (v := 100000) hx hb hown lk_0 dX5_runScript_76 ?_
        refine lv_lrem hx hb dX5_runScript_79 (by decide) ?_
        refine lv_l2i hx hb dX5_runScript_80 rfl ?_
        refine lv_istore (lv' := [(5, .int (Int64.toInt32 ((k_X5_withoutLastGroups vs ((vn - 1) - i)) - (k_X5_withoutLastGroups vs ((vn - 1) - i)) / 100000 * 100000))), (0, .ref (ca 0 0)), (1, .int vn), (2, .long vs), (4, .int i)]) hx hb dX5_runScript_81 hl (by decide) rfl (fun ls hl => ?_)
        refine lv_aload_n hx hb dX5_runScript_83 rfl (lv_at hl 1 rfl) ?_
        refine lv_iload hx hb dX5_runScript_84 (lv_at hl 0 rfl) ?_
        have hP : va_P D vwCl ((ca_W cs ca cw) ++ []) H := k_nP hP
        have hD : va_D A ((ca_W cs ca cw) ++ []) := k_nD hD
        have hc_86 := c_X5_obeysGroup l D cs ca cw (Int64.toInt32 ((k_X5_withoutLastGroups vs ((vn - 1) - i)) - (k_X5_withoutLastGroups vs ((vn - 1) - i)) / 100000 * 100000)) hC2
        obtain ⟨r_86, o_86, e_86⟩ : ∃ r9 o9, (k_X5_obeysGroup cw (Int64.toInt32 ((k_X5_withoutLastGroups vs ((vn - 1) - i)) - (k_X5_withoutLastGroups vs ((vn - 1) - i)) / 100000 * 100000))) = (r9, o9) := ⟨_, _, rfl⟩
        rw [e_86] at hc_86 hres
        dsimp only at hc_86 hres
        refine kI_call (wc := (ca_W cs ca cw)) (wr := []) (w1 := ca_W cs ca o_86) (r := r_86) hE hP hD hS (k_rV (rest := []) (As := [.int (Int64.toInt32 ((k_X5_withoutLastGroups vs ((vn - 1) - i)) - (k_X5_withoutLastGroups vs ((vn - 1) - i)) / 100000 * 100000))]) hE rfl (hc_86 H.size) (cwV 1 hts gX5_runScript_X5_obeysGroup rfl rfl rfl (by decide +kernel) ⟨Nat.le_of_ble_eq_true rfl, Nat.le_of_ble_eq_true rfl⟩) hP hD hS (ci := 5) (q0 := 0) rfl rfl rfl hl rfl (Nat.le_of_ble_eq_true rfl) ⟨Nat.le_of_ble_eq_true rfl, Nat.le_of_ble_eq_true rfl⟩ dX5_runScript_86) (fun H locs hP hD hS => ?_)
        have hP := k_uP hP
        have hD := k_uD hD
        have hP : va_P D vwCl (ca_W cs ca o_86) H := hP
        have hD : va_D A (ca_W cs ca o_86) := hD
        refine lv_if_ne (tgt := 95) hx hb dX5_runScript_89 (by decide) (fun c_89 => ?_) (fun c_89 => ?_)
        · skip
          have c_89 : ¬ (r_86 = 0) := c_89
          rw [if_neg c_89] at hres
          refine lv_iinc (v := (i + 1)) (lv' := [(4, .int (i + 1)), (5, .int (Int64.toInt32 ((k_X5_withoutLastGroups vs ((vn - 1) - i)) - (k_X5_withoutLastGroups vs ((vn - 1) - i)) / 100000 * 100000))), (0, .ref (ca 0 0)), (1, .int vn), (2, .long vs)]) hx hb dX5_runScript_95 hl (k := 4) rfl (by rfl) (by decide) rfl (fun ls hl => ?_)
          refine lv_goto (tgt := 60) hx hb dX5_runScript_98 (by decide) ?_
          exact ih (i + 1) o_86 (j + 1) (by rw [hi, nI_1]) (by omega) (nI_ltb (N := 3) hi (by omega) hv c_63) (hv) ((CO_grpE e_86 hC2)) _ _ _ hS hP hD (lv_sub hl [2, 3, 4, 0] rfl) hres
        · skip
          have c_89 : (r_86 = 0) := c_89
          rw [if_pos c_89] at hres
          refine lv_iload hx hb dX5_runScript_92 (lv_at hl 4 rfl) ?_
          subst hres
          exact kX_ret hE hS hP hD rfl rfl rfl (Nat.le_of_ble_eq_true rfl) (Nat.le_of_ble_eq_true rfl) dX5_runScript_94
  unfold k_X5_runScript at hres
  refine lv_iload_n hx hb dX5_runScript_0 rfl (lv_at hl 1 rfl) ?_
  refine lv_iconst (v := 1) hx hb dX5_runScript_1 (by decide) ?_
  refine lv_icmp_lt (tgt := 10) hx hb dX5_runScript_2 (by decide) (fun c_2 => ?_) (fun c_2 => ?_)
  · skip
    have c_2 : (vn < 1) := c_2
    rw [if_pos c_2] at hres
    subst hres
    exact kX_throw hE hfl hxt hS hP hD hl rfl (by decide) lk_1 lk_2 sr_243 xg_47 (by decide +kernel) xb_47 dX5_runScript_10 dX5_runScript_13 dX5_runScript_14 dX5_runScript_16 dX5_runScript_19 (Nat.le_of_ble_eq_true rfl) (Nat.le_of_ble_eq_true rfl) (Nat.le_of_ble_eq_true rfl) (Nat.le_of_ble_eq_true rfl) (Nat.le_of_ble_eq_true rfl) (Nat.le_of_ble_eq_true rfl) rfl
  · skip
    have c_2 : ¬ (vn < 1) := c_2
    rw [if_neg c_2] at hres
    refine lv_iload_n hx hb dX5_runScript_5 rfl (lv_at hl 1 rfl) ?_
    refine lv_iconst (v := 3) hx hb dX5_runScript_6 (by decide) ?_
    refine lv_icmp_le (tgt := 20) hx hb dX5_runScript_7 (by decide) (fun c_7 => ?_) (fun c_7 => ?_)
    · skip
      have c_7 : (vn ≤ 3) := c_7
      rw [if_pos c_7] at hres
      refine lv_lload_n hx hb dX5_runScript_20 rfl (lv_at hl 2 rfl) ?_
      refine lv_lconst (v := 0) hx hb dX5_runScript_21 (by decide) ?_
      refine W.lcmp hx hb dX5_runScript_22 ?_
      refine lv_if_lt (tgt := 36) hx hb dX5_runScript_23 (by decide) (fun c_23 => ?_) (fun c_23 => ?_)
      · skip
        have c_23 : ((lg_cmp vs 0) < 0) := c_23
        rw [if_pos c_23] at hres
        subst hres
        exact kX_throw hE hfl hxt hS hP hD hl rfl (by decide) lk_1 lk_2 sr_249 xg_47 (by decide +kernel) xb_47 dX5_runScript_36 dX5_runScript_39 dX5_runScript_40 dX5_runScript_42 dX5_runScript_45 (Nat.le_of_ble_eq_true rfl) (Nat.le_of_ble_eq_true rfl) (Nat.le_of_ble_eq_true rfl) (Nat.le_of_ble_eq_true rfl) (Nat.le_of_ble_eq_true rfl) (Nat.le_of_ble_eq_true rfl) rfl
      · skip
        have c_23 : ¬ ((lg_cmp vs 0) < 0) := c_23
        rw [if_neg c_23] at hres
        refine lv_lload_n hx hb dX5_runScript_26 rfl (lv_at hl 2 rfl) ?_
        refine lv_iload_n hx hb dX5_runScript_27 rfl (lv_at hl 1 rfl) ?_
        have hP : va_P D vwCl ([] ++ (ca_W cs ca cv)) H := hP
        have hD : va_D A ([] ++ (ca_W cs ca cv)) := hD
        have hc_28 := c_X5_withoutLastGroups l D cs vs vn
        refine kJ_call (wc := []) (wr := (ca_W cs ca cv)) (w1 := []) (r := (k_X5_withoutLastGroups vs vn)) hE hP hD hS (k_rS (rest := []) (As := [.long vs, .int vn]) hE rfl (hc_28 H.size) (va_cwS 2 hts gX5_runScript_X5_withoutLastGroups rfl rfl rfl (by decide +kernel) ⟨Nat.le_of_ble_eq_true rfl, Nat.le_of_ble_eq_true rfl⟩) hP hD hS rfl hl rfl (Nat.le_of_ble_eq_true rfl) ⟨Nat.le_of_ble_eq_true rfl, Nat.le_of_ble_eq_true rfl⟩ dX5_runScript_28) (fun H locs hP hD hS => ?_)
        have hP : va_P D vwCl (ca_W cs ca cv) H := hP
        have hD : va_D A (ca_W cs ca cv) := hD
        refine lv_lconst (v := 0) hx hb dX5_runScript_31 (by decide) ?_
        refine W.lcmp hx hb dX5_runScript_32 ?_
        refine lv_if_eq (tgt := 46) hx hb dX5_runScript_33 (by decide) (fun c_33 => ?_) (fun c_33 => ?_)
        · skip
          have c_33 : ((lg_cmp (k_X5_withoutLastGroups vs vn) 0) = 0) := c_33
          rw [if_pos c_33] at hres
          refine lv_aload_n hx hb dX5_runScript_46 rfl (lv_at hl 0 rfl) ?_
          refine va_get (D := D) (ci := 5) (v := .ref (ca 12 0)) (C := RX5) (T := TX5) (N := 6) hx hb hts hinX5 hown hK hP 0 rfl rfl 3 (by decide) lk_3 (fun _ h9 => h9) rfl dX5_runScript_47 ?_
          refine lv_aload_n hx hb dX5_runScript_50 rfl (lv_at hl 0 rfl) ?_
          refine va_get (D := D) (ci := 5) (v := .ref (ca 10 0)) (C := RX5) (T := TX5) (N := 6) hx hb hts hinX5 hown hK hP 0 rfl rfl 1 (by decide) lk_4 (fun _ h9 => h9) rfl dX5_runScript_51 ?_
          have hP := pmP (ca_pm2 (cs := cs) (ca := ca) (cv := cv) (k := 2) (j := 0) (by decide) (by decide) (by decide)) hP
          have hD := pmD (ca_pm2 (cs := cs) (ca := ca) (cv := cv) (k := 2) (j := 0) (by decide) (by decide) (by decide)) hD
          have hc_54 := c_X1_copyFrom l D cs (ca 12) (ca 10) (cv.2.1 2) (cv.2.1 0)
          refine kV_call (wc := (og_W cs (ca 12) (cv.2.1 2) ++ og_W cs (ca 10) (cv.2.1 0))) (wr := (ca_r2 cs ca cv 2 0)) (w1 := fun _ => og_W cs (ca 12) (k_X1_copyFrom (cv.2.1 2) (cv.2.1 0)) ++ og_W cs (ca 10) (cv.2.1 0)) hE hP hD hS (k_rV (rest := []) (As := [.ref (ca 10 0)]) hE rfl (hc_54 H.size) (cwV 1 hts gX5_runScript_X1_copyFrom rfl rfl rfl (by decide +kernel) ⟨Nat.le_of_ble_eq_true rfl, Nat.le_of_ble_eq_true rfl⟩) hP hD hS (ci := 1) (q0 := 0) rfl rfl rfl hl rfl (Nat.le_of_ble_eq_true rfl) ⟨Nat.le_of_ble_eq_true rfl, Nat.le_of_ble_eq_true rfl⟩ dX5_runScript_54) (fun _ H locs _ hP hD hS => ?_)
          have hP := pmP (ca_bk2 (cs := cs) (ca := ca) (cv := cv) (k := 2) (j := 0) (by decide) (by decide) (by decide)) hP
          have hD := pmD (ca_bk2 (cs := cs) (ca := ca) (cv := cv) (k := 2) (j := 0) (by decide) (by decide) (by decide)) hD
          have hP : va_P D vwCl (ca_W cs ca (c_o cv 2 (k_X1_copyFrom (cv.2.1 2) (cv.2.1 0)))) H := hP
          have hD : va_D A (ca_W cs ca (c_o cv 2 (k_X1_copyFrom (cv.2.1 2) (cv.2.1 0)))) := hD
          refine lv_iconst (v := 0) hx hb dX5_runScript_57 (by decide) ?_
          refine lv_istore (lv' := [(4, .int 0), (0, .ref (ca 0 0)), (1, .int vn), (2, .long vs)]) hx hb dX5_runScript_58 hl (by decide) rfl (fun ls hl => ?_)
          exact L60 4 0 (c_o cv 2 (k_X1_copyFrom (cv.2.1 2) (cv.2.1 0))) 0 (nI_0.symm) (rfl) (Nat.zero_le _) ((by have := c_7; rw [i_le] at this; have e9 : (3 : Int32).toInt = 3 := rfl; omega)) ((CO_o hC (OI_copy (hC.1 0 (by decide))))) _ _ _ hS hP hD (lv_sub hl [1, 2, 3, 0] rfl) hres
        · skip
          have c_33 : ¬ ((lg_cmp (k_X5_withoutLastGroups vs vn) 0) = 0) := c_33
          rw [if_neg c_33] at hres
          subst hres
          exact kX_throw hE hfl hxt hS hP hD hl rfl (by decide) lk_1 lk_2 sr_249 xg_47 (by decide +kernel) xb_47 dX5_runScript_36 dX5_runScript_39 dX5_runScript_40 dX5_runScript_42 dX5_runScript_45 (Nat.le_of_ble_eq_true rfl) (Nat.le_of_ble_eq_true rfl) (Nat.le_of_ble_eq_true rfl) (Nat.le_of_ble_eq_true rfl) (Nat.le_of_ble_eq_true rfl) (Nat.le_of_ble_eq_true rfl) rfl
    · skip
      have c_7 : ¬ (vn ≤ 3) := c_7
      rw [if_neg c_7] at hres
      subst hres
      exact kX_throw hE hfl hxt hS hP hD hl rfl (by decide) lk_1 lk_2 sr_243 xg_47 (by decide +kernel) xb_47 dX5_runScript_10 dX5_runScript_13 dX5_runScript_14 dX5_runScript_16 dX5_runScript_19 (Nat.le_of_ble_eq_true rfl) (Nat.le_of_ble_eq_true rfl) (Nat.le_of_ble_eq_true rfl) (Nat.le_of_ble_eq_true rfl) (Nat.le_of_ble_eq_true rfl) (Nat.le_of_ble_eq_true rfl) rfl
def k_X5_simulate_L39 (cv : CV) (vs : Int64) (vn : Int32) : Nat → Int64 → Int32 → CV → (Option String × Int32 × CV)
  | 0, _, _, cw => (none, 0, cw)
  | n + 1, x, i, cw => (if vn ≤ i then (none, (((10000 * ((((cw.2.1 2).1 6) - ((cw.2.1 0).1 6)) - (((cw.2.1 2).1 6) - ((cw.2.1 0).1 6)) / 10000 * 10000)) + (100 * ((((cw.2.1 2).1 7) - ((cw.2.1 0).1 7)) - (((cw.2.1 2).1 7) - ((cw.2.1 0).1 7)) / 100 * 100))) + ((cw.2.1 2).1 10)), cw) else (kbind (k_X5_simulateTurn cw (Int64.toInt32 (x_lushr ((x * 6364136223846793005) + 1442695040888963407) 33))) (fun (o_64 : CV) => (k_X5_simulate_L39 cv vs vn n ((x * 6364136223846793005) + 1442695040888963407) (i + 1) o_64))))
def k_X5_simulate (cv : CV) (vs : Int64) (vn : Int32) : Option String × Int32 × CV := (if vn < 1 then (some "java/lang/IllegalArgumentException", 0, cv) else (if vn ≤ 60 then (k_X5_simulate_L39 cv vs vn 61 vs 0 (c_o cv 2 (k_X1_copyFrom (cv.2.1 2) (cv.2.1 0)))) else (some "java/lang/IllegalArgumentException", 0, cv)))
set_option maxHeartbeats 4000000 in
set_option maxRecDepth 100000 in
theorem c_X5_simulate (l : Launch) (hfl : l.stackTraces = false) (D : va_G) (cs : Nat → ClassId) (ca : Nat → Nat → Nat) (cv : CV) (vs : Int64) (vn : Int32) (hC : CO cv) : kX l yX5_simulate wsX5_simulate { frames := 7, cells := 1, slots := 6, locals := 174 } 1 6 D cs [.ref (ca 0 0), .long vs, .int vn] (ca_W cs ca cv) (k_X5_simulate cv vs vn).1 (k_X5_simulate cv vs vn).2.1 (ca_W cs ca ((k_X5_simulate cv vs vn).2.2)) := by
  generalize hres : k_X5_simulate cv vs vn = res
  refine kX_of (cc := cX5_simulate) (maxL := 8) (ret := (some .int)) (by decide) rfl (Nat.le_of_ble_eq_true rfl) ?_
  intro p e s m below meth c A ls H locs hE hxt hS hP hD hl
  obtain ⟨hx, hb, hr, hlocks, hml, hown, hts, hK, hA, hG, hnm⟩ := id hE
  have hown : s.vm.findClass RX5 = some m.cls := hown
  have hl : lv_has ls 8 [(0, .ref (ca 0 0)), (1, .long vs), (3, .int vn)] := hl
  have hinX1 : ∀ w ∈ wsX10, w ∈ wsX5_simulate := by decide +kernel
  have hinX4 : ∀ w ∈ wsX40, w ∈ wsX5_simulate := by decide +kernel
  have hinX5 : ∀ w ∈ wsX50, w ∈ wsX5_simulate := by decide +kernel
  have lk_0 := hts (.fieldLink RX5 26 "OrganPegs" "trial" "LOrganPegs$Organ;") (by decide +kernel)
  have lk_1 := hts (.fieldLink RX5 19 "OrganPegs" "organ" "LOrganPegs$Organ;") (by decide +kernel)
  have lk_2 := hts (.constantLong RX5 267 6364136223846793005) (by decide +kernel)
  have lk_3 := hts (.constantLong RX5 269 1442695040888963407) (by decide +kernel)
  have lk_4 := hts (.classLink RX5 43 "java/lang/IllegalArgumentException") (by decide +kernel)
  have lk_5 := hts (.initialized "java/lang/IllegalArgumentException") (by decide +kernel)
  have L39 : ∀ (n : Nat) (x : Int64) (i : Int32) (cw : CV) (j : Nat) (hi : i = nI j) (hj : j + n = 61) (hj2 : j ≤ 60) (hv : vn.toInt ≤ 60) (hC2 : CO cw) (H : Heap) (locs : List Loc) (ls : Array Slot), va_S A s.heap H locs → va_P D vwCl (ca_W cs ca cw) H → va_D A (ca_W cs ca cw) → lv_has ls 8 [(0, .ref (ca 0 0)), (1, .long vs), (3, .int vn), (4, .long x), (6, .int i)] → k_X5_simulate_L39 cv vs vn n x i cw = res → W p l e { frames := 7, cells := 1, slots := 6, locals := 174 } s m ([.ref (ca 0 0), .long vs, .int vn]).toArray below meth c H locs 0 0 (vx_MQ below (va_Qi (fun (r' : Int32) (_ : Unit) => res.1 = none ∧ r' = res.2.1) (kB D (fun _ => ca_W cs ca res.2.2) A) A) (kT D res.1 (ca_W cs ca res.2.2) A) ([.ref (ca 0 0), .long vs, .int vn]).toArray s 1 6 A) (F0 m 39 ls []) := by
    intro n
    induction n with
    | zero =>
      intro x i cw j hi hj hj2 hv hC2 H locs ls hS hP hD hl hres
      exact absurd hj2 (by omega)
    | succ n ih =>
      intro x i cw j hi hj hj2 hv hC2 H locs ls hS hP hD hl hres
      unfold k_X5_simulate_L39 at hres
      refine lv_iload hx hb dX5_simulate_39 (lv_at hl 4 rfl) ?_
      refine lv_iload_n hx hb dX5_simulate_41 rfl (lv_at hl 2 rfl) ?_
      refine lv_icmp_ge (tgt := 73) hx hb dX5_simulate_42 (by decide) (fun c_42 => ?_) (fun c_42 => ?_)
      · skip
        have c_42 : (vn ≤ i) := c_42
        rw [if_pos c_42] at hres
        refine lv_aload_n hx hb dX5_simulate_73 rfl (lv_at hl 0 rfl) ?_
        refine va_get (D := D) (ci := 5) (v := .ref (ca 12 0)) (C := RX5) (T := TX5) (N := 6) hx hb hts hinX5 hown hK hP 0 rfl rfl 3 (by decide) lk_0 (fun _ h9 => h9) rfl dX5_simulate_74 ?_
        refine va_getN (D := D) (ci := 1) (v := .int ((cw.2.1 2).1 6)) (C := RX1) (T := TX1) (N := 17) hx hb hts hinX1 hown hK (k_left (pmP (ca_pm1 (k := 2) (by decide)) hP)) 0 rfl rfl 13 (by decide) (va_Nw.use rfl (hG.1.1 _ _ _ _ _ _ nf_X5_275)) (fun _ h9 => h9) rfl dX5_simulate_77 ?_
        refine lv_aload_n hx hb dX5_simulate_80 rfl (lv_at hl 0 rfl) ?_
        refine va_get (D := D) (ci := 5) (v := .ref (ca 10 0)) (C := RX5) (T := TX5) (N := 6) hx hb hts hinX5 hown hK hP 0 rfl rfl 1 (by decide) lk_1 (fun _ h9 => h9) rfl dX5_simulate_81 ?_
        refine va_getN (D := D) (ci := 1) (v := .int ((cw.2.1 0).1 6)) (C := RX1) (T := TX1) (N := 17) hx hb hts hinX1 hown hK (k_left (pmP (ca_pm1 (k := 0) (by decide)) hP)) 0 rfl rfl 13 (by decide) (va_Nw.use rfl (hG.1.1 _ _ _ _ _ _ nf_X5_275)) (fun _ h9 => h9) rfl dX5_simulate_84 ?_
        refine lv_isub hx hb dX5_simulate_87 ?_
        refine lv_istore (lv' := [(6, .int (((cw.2.1 2).1 6) - ((cw.2.1 0).1 6))), (0, .ref (ca 0 0)), (1, .long vs), (3, .int vn), (4, .long x)]) hx hb dX5_simulate_88 hl (by decide) rfl (fun ls hl => ?_)
        refine lv_aload_n hx hb dX5_simulate_90 rfl (lv_at hl 1 rfl) ?_
        refine va_get (D := D) (ci := 5) (v := .ref (ca 12 0)) (C := RX5) (T := TX5) (N := 6) hx hb hts hinX5 hown hK hP 0 rfl rfl 3 (by decide) lk_0 (fun _ h9 => h9) rfl dX5_simulate_91 ?_
        refine va_getN (D := D) (ci := 1) (v := .int ((cw.2.1 2).1 7)) (C := RX1) (T := TX1) (N := 17) hx hb hts hinX1 hown hK (k_left (pmP (ca_pm1 (k := 2) (by decide)) hP)) 0 rfl rfl 14 (by decide) (va_Nw.use rfl (hG.1.1 _ _ _ _ _ _ nf_X5_229)) (fun _ h9 => h9) rfl dX5_simulate_94 ?_
        refine lv_aload_n hx hb dX5_simulate_97 rfl (lv_at hl 1 rfl) ?_
        refine va_get (D := D) (ci := 5) (v := .ref (ca 10 0)) (C := RX5) (T := TX5) (N := 6) hx hb hts hinX5 hown hK hP 0 rfl rfl 1 (by decide) lk_1 (fun _ h9 => h9) rfl dX5_simulate_98 ?_
        refine va_getN (D := D) (ci := 1) (v := .int ((cw.2.1 0).1 7)) (C := RX1) (T := TX1) (N := 17) hx hb hts hinX1 hown hK (k_left (pmP (ca_pm1 (k := 0) (by decide)) hP)) 0 rfl rfl 14 (by decide) (va_Nw.use rfl (hG.1.1 _ _ _ _ _ _ nf_X5_229)) (fun _ h9 => h9) rfl dX5_simulate_101 ?_
        refine lv_isub hx hb dX5_simulate_104 ?_
        refine lv_istore (lv' := [(7, .int (((cw.2.1 2).1 7) - ((cw.2.1 0).1 7))), (6, .int (((cw.2.1 2).1 6) - ((cw.2.1 0).1 6))), (0, .ref (ca 0 0)), (1, .long vs), (3, .int vn), (4, .long x)]) hx hb dX5_simulate_105 hl (by decide) rfl (fun ls hl => ?_)
        refine lv_sipush (v := 10000) hx hb dX5_simulate_107 (by decide) ?_
        refine lv_iload hx hb dX5_simulate_110 (lv_at hl 1 rfl) ?_
        refine lv_sipush (v := 10000) hx hb dX5_simulate_112 (by decide) ?_
        refine lv_irem hx hb dX5_simulate_115 (by decide) ?_
        refine lv_imul hx hb dX5_simulate_116 ?_
        refine lv_bipush (v := 100) hx hb dX5_simulate_117 (by decide) ?_
        refine lv_iload hx hb dX5_simulate_119 (lv_at hl 0 rfl) ?_
        refine lv_bipush (v := 100) hx hb dX5_simulate_121 (by decide) ?_
        refine lv_irem hx hb dX5_simulate_123 (by decide) ?_
        refine lv_imul hx hb dX5_simulate_124 ?_
        refine lv_iadd hx hb dX5_simulate_125 ?_
        refine lv_aload_n hx hb dX5_simulate_126 rfl (lv_at hl 2 rfl) ?_
        refine va_get (D := D) (ci := 5) (v := .ref (ca 12 0)) (C := RX5) (T := TX5) (N := 6) hx hb hts hinX5 hown hK hP 0 rfl rfl 3 (by decide) lk_0 (fun _ h9 => h9) rfl dX5_simulate_127 ?_
        refine va_getN (D := D) (ci := 1) (v := .ref (ca 12 1)) (C := RX1) (T := TX1) (N := 17) hx hb hts hinX1 hown hK (k_left (pmP (ca_pm1 (k := 2) (by decide)) hP)) 0 rfl rfl 0 (by decide) (va_Nw.use rfl (hG.1.1 _ _ _ _ _ _ nf_X5_127)) (fun _ h9 => h9) rfl dX5_simulate_130 ?_
        refine va_getN (D := D) (ci := 4) (v := .int ((cw.2.1 2).1 10)) (C := RX4) (T := TX4) (N := 4) hx hb hts hinX4 hown hK (k_left (pmP (ca_pm1 (k := 2) (by decide)) hP)) 1 rfl rfl 3 (by decide) (va_Nw.use rfl (hG.1.1 _ _ _ _ _ _ nf_X5_262)) (fun _ h9 => h9) rfl dX5_simulate_133 ?_
        refine lv_iadd hx hb dX5_simulate_136 ?_
        subst hres
        exact kX_ret hE hS hP hD rfl rfl rfl (Nat.le_of_ble_eq_true rfl) (Nat.le_of_ble_eq_true rfl) dX5_simulate_137
      · skip
        have c_42 : ¬ (vn ≤ i) := c_42
        rw [if_neg c_42] at hres
        refine lv_lload hx hb dX5_simulate_45 (lv_at hl 3 rfl) ?_
        refine lv_ldc2 (v := 6364136223846793005) hx hb hown lk_2 dX5_simulate_47 ?_
        refine lv_lmul hx hb dX5_simulate_50 ?_
        refine lv_ldc2 (v := 1442695040888963407) hx hb hown lk_3 dX5_simulate_51 ?_
        refine lv_ladd hx hb dX5_simulate_54 ?_
        refine lv_lstore (lv' := [(4, .long ((x * 6364136223846793005) + 1442695040888963407)), (0, .ref (ca 0 0)), (1, .long vs), (3, .int vn), (6, .int i)]) hx hb dX5_simulate_55 hl (by decide) rfl (fun ls hl => ?_)
        refine lv_aload_n hx hb dX5_simulate_57 rfl (lv_at hl 1 rfl) ?_
        refine lv_lload hx hb dX5_simulate_58 (lv_at hl 0 rfl) ?_
        refine lv_bipush (v := 33) hx hb dX5_simulate_60 (by decide) ?_
        refine lv_lushr hx hb dX5_simulate_62 rfl ?_
        refine lv_l2i hx hb dX5_simulate_63 rfl ?_
        have hP : va_P D vwCl ((ca_W cs ca cw) ++ []) H := k_nP hP
        have hD : va_D A ((ca_W cs ca cw) ++ []) := k_nD hD
        have hc_64 := c_X5_simulateTurn l D cs ca cw (Int64.toInt32 (x_lushr ((x * 6364136223846793005) + 1442695040888963407) 33)) hC2
        generalize e_64 : (k_X5_simulateTurn cw (Int64.toInt32 (x_lushr ((x * 6364136223846793005) + 1442695040888963407) 33))) = o_64 at hc_64 hres
        have hres := (kbind_eq _ _).symm.trans hres
        refine kV_call (wc := (ca_W cs ca cw)) (wr := []) (w1 := fun _ => ca_W cs ca o_64) hE hP hD hS (k_rV (rest := []) (As := [.int (Int64.toInt32 (x_lushr ((x * 6364136223846793005) + 1442695040888963407) 33))]) hE rfl (hc_64 H.size) (cwV 1 hts gX5_simulate_X5_simulateTurn rfl rfl rfl (by decide +kernel) ⟨Nat.le_of_ble_eq_true rfl, Nat.le_of_ble_eq_true rfl⟩) hP hD hS (ci := 5) (q0 := 0) rfl rfl rfl hl rfl (Nat.le_of_ble_eq_true rfl) ⟨Nat.le_of_ble_eq_true rfl, Nat.le_of_ble_eq_true rfl⟩ dX5_simulate_64) (fun _ H locs _ hP hD hS => ?_)
        have hP := k_uP hP
        have hD := k_uD hD
        have hP : va_P D vwCl (ca_W cs ca o_64) H := hP
        have hD : va_D A (ca_W cs ca o_64) := hD
        refine lv_iinc (v := (i + 1)) (lv' := [(6, .int (i + 1)), (4, .long ((x * 6364136223846793005) + 1442695040888963407)), (0, .ref (ca 0 0)), (1, .long vs), (3, .int vn)]) hx hb dX5_simulate_67 hl (k := 4) rfl (by rfl) (by decide) rfl (fun ls hl => ?_)
        refine lv_goto (tgt := 39) hx hb dX5_simulate_70 (by decide) ?_
        exact ih ((x * 6364136223846793005) + 1442695040888963407) (i + 1) o_64 (j + 1) (by rw [hi, nI_1]) (by omega) (nI_ltb (N := 60) hi (by omega) hv c_42) (hv) ((e_64 ▸ CO_turn hC2)) _ _ _ hS hP hD (lv_sub hl [2, 3, 4, 1, 0] rfl) hres
  unfold k_X5_simulate at hres
  refine lv_iload_n hx hb dX5_simulate_0 rfl (lv_at hl 2 rfl) ?_
  refine lv_iconst (v := 1) hx hb dX5_simulate_1 (by decide) ?_
  refine lv_icmp_lt (tgt := 11) hx hb dX5_simulate_2 (by decide) (fun c_2 => ?_) (fun c_2 => ?_)
  · skip
    have c_2 : (vn < 1) := c_2
    rw [if_pos c_2] at hres
    subst hres
    exact kX_throwW hE hfl hxt hS hP hD hl rfl (by decide) lk_4 lk_5 sr_265 xg_47 (by decide +kernel) xb_47 dX5_simulate_11 dX5_simulate_14 dX5_simulate_15 dX5_simulate_18 dX5_simulate_21 (Nat.le_of_ble_eq_true rfl) (Nat.le_of_ble_eq_true rfl) (Nat.le_of_ble_eq_true rfl) (Nat.le_of_ble_eq_true rfl) (Nat.le_of_ble_eq_true rfl) (Nat.le_of_ble_eq_true rfl) rfl
  · skip
    have c_2 : ¬ (vn < 1) := c_2
    rw [if_neg c_2] at hres
    refine lv_iload_n hx hb dX5_simulate_5 rfl (lv_at hl 2 rfl) ?_
    refine lv_bipush (v := 60) hx hb dX5_simulate_6 (by decide) ?_
    refine lv_icmp_le (tgt := 22) hx hb dX5_simulate_8 (by decide) (fun c_8 => ?_) (fun c_8 => ?_)
    · skip
      have c_8 : (vn ≤ 60) := c_8
      rw [if_pos c_8] at hres
      refine lv_aload_n hx hb dX5_simulate_22 rfl (lv_at hl 0 rfl) ?_
      refine va_get (D := D) (ci := 5) (v := .ref (ca 12 0)) (C := RX5) (T := TX5) (N := 6) hx hb hts hinX5 hown hK hP 0 rfl rfl 3 (by decide) lk_0 (fun _ h9 => h9) rfl dX5_simulate_23 ?_
      refine lv_aload_n hx hb dX5_simulate_26 rfl (lv_at hl 0 rfl) ?_
      refine va_get (D := D) (ci := 5) (v := .ref (ca 10 0)) (C := RX5) (T := TX5) (N := 6) hx hb hts hinX5 hown hK hP 0 rfl rfl 1 (by decide) lk_1 (fun _ h9 => h9) rfl dX5_simulate_27 ?_
      have hP := pmP (ca_pm2 (cs := cs) (ca := ca) (cv := cv) (k := 2) (j := 0) (by decide) (by decide) (by decide)) hP
      have hD := pmD (ca_pm2 (cs := cs) (ca := ca) (cv := cv) (k := 2) (j := 0) (by decide) (by decide) (by decide)) hD
      have hc_30 := c_X1_copyFrom l D cs (ca 12) (ca 10) (cv.2.1 2) (cv.2.1 0)
      refine kV_call (wc := (og_W cs (ca 12) (cv.2.1 2) ++ og_W cs (ca 10) (cv.2.1 0))) (wr := (ca_r2 cs ca cv 2 0)) (w1 := fun _ => og_W cs (ca 12) (k_X1_copyFrom (cv.2.1 2) (cv.2.1 0)) ++ og_W cs (ca 10) (cv.2.1 0)) hE hP hD hS (k_rV (rest := []) (As := [.ref (ca 10 0)]) hE rfl (hc_30 H.size) (cwV 1 hts gX5_simulate_X1_copyFrom rfl rfl rfl (by decide +kernel) ⟨Nat.le_of_ble_eq_true rfl, Nat.le_of_ble_eq_true rfl⟩) hP hD hS (ci := 1) (q0 := 0) rfl rfl rfl hl rfl (Nat.le_of_ble_eq_true rfl) ⟨Nat.le_of_ble_eq_true rfl, Nat.le_of_ble_eq_true rfl⟩ dX5_simulate_30) (fun _ H locs _ hP hD hS => ?_)
      have hP := pmP (ca_bk2 (cs := cs) (ca := ca) (cv := cv) (k := 2) (j := 0) (by decide) (by decide) (by decide)) hP
      have hD := pmD (ca_bk2 (cs := cs) (ca := ca) (cv := cv) (k := 2) (j := 0) (by decide) (by decide) (by decide)) hD
      have hP : va_P D vwCl (ca_W cs ca (c_o cv 2 (k_X1_copyFrom (cv.2.1 2) (cv.2.1 0)))) H := hP
      have hD : va_D A (ca_W cs ca (c_o cv 2 (k_X1_copyFrom (cv.2.1 2) (cv.2.1 0)))) := hD
      refine lv_lload_n hx hb dX5_simulate_33 rfl (lv_at hl 1 rfl) ?_
      refine lv_lstore (lv' := [(4, .long vs), (0, .ref (ca 0 0)), (1, .long vs), (3, .int vn)]) hx hb dX5_simulate_34 hl (by decide) rfl (fun ls hl => ?_)
      refine lv_iconst (v := 0) hx hb dX5_simulate_36 (by decide) ?_
      refine lv_istore (lv' := [(6, .int 0), (4, .long vs), (0, .ref (ca 0 0)), (1, .long vs), (3, .int vn)]) hx hb dX5_simulate_37 hl (by decide) rfl (fun ls hl => ?_)
      exact L39 61 vs 0 (c_o cv 2 (k_X1_copyFrom (cv.2.1 2) (cv.2.1 0))) 0 (nI_0.symm) (rfl) (Nat.zero_le _) ((by have := c_8; rw [i_le] at this; have e9 : (60 : Int32).toInt = 60 := rfl; omega)) ((CO_o hC (OI_copy (hC.1 0 (by decide))))) _ _ _ hS hP hD (lv_sub hl [2, 3, 4, 1, 0] rfl) hres
    · skip
      have c_8 : ¬ (vn ≤ 60) := c_8
      rw [if_neg c_8] at hres
      subst hres
      exact kX_throwW hE hfl hxt hS hP hD hl rfl (by decide) lk_4 lk_5 sr_265 xg_47 (by decide +kernel) xb_47 dX5_simulate_11 dX5_simulate_14 dX5_simulate_15 dX5_simulate_18 dX5_simulate_21 (Nat.le_of_ble_eq_true rfl) (Nat.le_of_ble_eq_true rfl) (Nat.le_of_ble_eq_true rfl) (Nat.le_of_ble_eq_true rfl) (Nat.le_of_ble_eq_true rfl) (Nat.le_of_ble_eq_true rfl) rfl
def k_X5_obeysCommand (cv : CV) : Int32 × CV := (if (cv.1.1 3) = 99 then (match (k_X1_dropOrder (cv.2.1 0) (cv.1.1 4)) with | (r_191, o_191) => (if r_191 = (-1) then (0, (c_o cv 0 o_191)) else (1, (c_o cv 0 o_191)))) else (if (cv.1.1 3) = 108 then (match (k_X1_orderPull (cv.2.1 0) (cv.1.1 4) (cv.1.1 5)) with | (r_112, o_112) => (if r_112 = (-1) then (0, (c_o cv 0 o_112)) else (1, (c_o cv 0 o_112)))) else (if (cv.1.1 3) = 112 then (match (k_X1_orderPut (cv.2.1 0) (cv.1.1 4) (cv.1.1 5) (cv.1.1 6)) with | (r_81, o_81) => (if r_81 = (-1) then (0, (c_o cv 0 o_81)) else (1, (c_o cv 0 o_81)))) else (if (cv.1.1 3) = 116 then (match (k_X1_play (cv.2.1 0) (cv.1.1 4)) with | (r_167, o_167) => (if r_167 = (-1) then (0, (c_o cv 0 o_167)) else (1, (c_o cv 0 o_167)))) else (if (cv.1.1 3) = 118 then (match (k_X1_change (cv.2.1 0) (cv.1.1 4) (cv.1.1 5)) with | (r_143, o_143) => (if r_143 = (-1) then (0, (c_o cv 0 o_143)) else (1, (c_o cv 0 o_143)))) else (0, cv))))))
set_option maxHeartbeats 4000000 in
set_option maxRecDepth 100000 in
theorem c_X5_obeysCommand (l : Launch) (D : va_G) (cs : Nat → ClassId) (ca : Nat → Nat → Nat) (cv : CV) (hC : CO cv) : kI l yX5_obeysCommand wsX5_obeysCommand { frames := 6, cells := 0, slots := 0, locals := 152 } 0 0 D cs [.ref (ca 0 0)] (ca_W cs ca cv) (k_X5_obeysCommand cv).1 (ca_W cs ca ((k_X5_obeysCommand cv).2)) := by
  generalize hres : k_X5_obeysCommand cv = res
  refine kI_of (cc := cX5_obeysCommand) (maxL := 1) (ret := (some .boolean)) (by decide) rfl (Nat.le_of_ble_eq_true rfl) ?_
  intro p e s m below meth c A ls H locs hE hS hP hD hl
  obtain ⟨hx, hb, hr, hlocks, hml, hown, hts, hK, hA, hG, hnm⟩ := id hE
  have hown : s.vm.findClass RX5 = some m.cls := hown
  have hl : lv_has ls 1 [(0, .ref (ca 0 0))] := hl
  have hinX2 : ∀ w ∈ wsX20, w ∈ wsX5_obeysCommand := by decide +kernel
  have hinX5 : ∀ w ∈ wsX50, w ∈ wsX5_obeysCommand := by decide +kernel
  have lk_0 := hts (.fieldLink RX5 10 "OrganPegs" "roll" "LOrganPegs$Roll;") (by decide +kernel)
  have lk_1 := hts (.fieldLink RX5 19 "OrganPegs" "organ" "LOrganPegs$Organ;") (by decide +kernel)
  unfold k_X5_obeysCommand at hres
  refine lv_aload_n hx hb dX5_obeysCommand_0 rfl (lv_at hl 0 rfl) ?_
  refine va_get (D := D) (ci := 5) (v := .ref (ca 1 0)) (C := RX5) (T := TX5) (N := 6) hx hb hts hinX5 hown hK hP 0 rfl rfl 0 (by decide) lk_0 (fun _ h9 => h9) rfl dX5_obeysCommand_1 ?_
  refine va_getN (D := D) (ci := 2) (v := .int (cv.1.1 3)) (C := RX2) (T := TX2) (N := 8) hx hb hts hinX2 hown hK hP 1 rfl rfl 4 (by decide) (va_Nw.use rfl (hG.1.1 _ _ _ _ _ _ nf_X5_90)) (fun _ h9 => h9) rfl dX5_obeysCommand_4 ?_
  by_cases c_7_99 : (cv.1.1 3) = 99
  · skip
    rw [if_pos c_7_99] at hres
    refine lv_lookup (tgt := 180) (off := 173) hx hb dX5_obeysCommand_7 (by decide) (by rw [c_7_99]; rfl) (by decide) ?_
    refine lv_aload_n hx hb dX5_obeysCommand_180 rfl (lv_at hl 0 rfl) ?_
    refine va_get (D := D) (ci := 5) (v := .ref (ca 10 0)) (C := RX5) (T := TX5) (N := 6) hx hb hts hinX5 hown hK hP 0 rfl rfl 1 (by decide) lk_1 (fun _ h9 => h9) rfl dX5_obeysCommand_181 ?_
    refine lv_aload_n hx hb dX5_obeysCommand_184 rfl (lv_at hl 0 rfl) ?_
    refine va_get (D := D) (ci := 5) (v := .ref (ca 1 0)) (C := RX5) (T := TX5) (N := 6) hx hb hts hinX5 hown hK hP 0 rfl rfl 0 (by decide) lk_0 (fun _ h9 => h9) rfl dX5_obeysCommand_185 ?_
    refine va_getN (D := D) (ci := 2) (v := .int (cv.1.1 4)) (C := RX2) (T := TX2) (N := 8) hx hb hts hinX2 hown hK hP 1 rfl rfl 5 (by decide) (va_Nw.use rfl (hG.1.1 _ _ _ _ _ _ nf_X5_94)) (fun _ h9 => h9) rfl dX5_obeysCommand_188 ?_
    have hP := pmP (ca_pm1 (cs := cs) (ca := ca) (cv := cv) (k := 0) (by decide)) hP
    have hD := pmD (ca_pm1 (cs := cs) (ca := ca) (cv := cv) (k := 0) (by decide)) hD
    have hc_191 := c_X1_dropOrder l D cs (ca 10) (cv.2.1 0) (cv.1.1 4) (hC.1 0 (by decide))
    obtain ⟨r_191, o_191, e_191⟩ : ∃ r9 o9, (k_X1_dropOrder (cv.2.1 0) (cv.1.1 4)) = (r9, o9) := ⟨_, _, rfl⟩
    rw [e_191] at hc_191 hres
    dsimp only at hc_191 hres
    refine kI_call (wc := (og_W cs (ca 10) (cv.2.1 0))) (wr := (ca_ro cs ca cv 0)) (w1 := og_W cs (ca 10) o_191) (r := r_191) hE hP hD hS (k_rV (rest := []) (As := [.int (cv.1.1 4)]) hE rfl (hc_191 H.size) (cwV 1 hts gX5_obeysCommand_X1_dropOrder rfl rfl rfl (by decide +kernel) ⟨Nat.le_of_ble_eq_true rfl, Nat.le_of_ble_eq_true rfl⟩) hP hD hS (ci := 1) (q0 := 0) rfl rfl rfl hl rfl (Nat.le_of_ble_eq_true rfl) ⟨Nat.le_of_ble_eq_true rfl, Nat.le_of_ble_eq_true rfl⟩ dX5_obeysCommand_191) (fun H locs hP hD hS => ?_)
    have hP := pmP (ca_bk1 (cs := cs) (ca := ca) (cv := cv) (k := 0) (by decide)) hP
    have hD := pmD (ca_bk1 (cs := cs) (ca := ca) (cv := cv) (k := 0) (by decide)) hD
    have hP : va_P D vwCl (ca_W cs ca (c_o cv 0 o_191)) H := hP
    have hD : va_D A (ca_W cs ca (c_o cv 0 o_191)) := hD
    refine lv_iconst (v := (-1)) hx hb dX5_obeysCommand_194 (by decide) ?_
    refine lv_icmp_eq (tgt := 202) hx hb dX5_obeysCommand_195 (by decide) (fun c_195 => ?_) (fun c_195 => ?_)
    · skip
      have c_195 : (r_191 = (-1)) := c_195
      rw [if_pos c_195] at hres
      refine lv_iconst (v := 0) hx hb dX5_obeysCommand_202 (by decide) ?_
      subst hres
      exact kI_ret hE hS hP hD rfl rfl (Nat.le_of_ble_eq_true rfl) (Nat.le_of_ble_eq_true rfl) dX5_obeysCommand_203
    · skip
      have c_195 : ¬ (r_191 = (-1)) := c_195
      rw [if_neg c_195] at hres
      refine lv_iconst (v := 1) hx hb dX5_obeysCommand_198 (by decide) ?_
      refine lv_goto (tgt := 203) hx hb dX5_obeysCommand_199 (by decide) ?_
      subst hres
      exact kI_ret hE hS hP hD rfl rfl (Nat.le_of_ble_eq_true rfl) (Nat.le_of_ble_eq_true rfl) dX5_obeysCommand_203
  · skip
    rw [if_neg c_7_99] at hres
    by_cases c_7_108 : (cv.1.1 3) = 108
    · skip
      rw [if_pos c_7_108] at hres
      refine lv_lookup (tgt := 94) (off := 87) hx hb dX5_obeysCommand_7 (by decide) (by rw [c_7_108]; rfl) (by decide) ?_
      refine lv_aload_n hx hb dX5_obeysCommand_94 rfl (lv_at hl 0 rfl) ?_
      refine va_get (D := D) (ci := 5) (v := .ref (ca 10 0)) (C := RX5) (T := TX5) (N := 6) hx hb hts hinX5 hown hK hP 0 rfl rfl 1 (by decide) lk_1 (fun _ h9 => h9) rfl dX5_obeysCommand_95 ?_
      refine lv_aload_n hx hb dX5_obeysCommand_98 rfl (lv_at hl 0 rfl) ?_
      refine va_get (D := D) (ci := 5) (v := .ref (ca 1 0)) (C := RX5) (T := TX5) (N := 6) hx hb hts hinX5 hown hK hP 0 rfl rfl 0 (by decide) lk_0 (fun _ h9 => h9) rfl dX5_obeysCommand_99 ?_
      refine va_getN (D := D) (ci := 2) (v := .int (cv.1.1 4)) (C := RX2) (T := TX2) (N := 8) hx hb hts hinX2 hown hK hP 1 rfl rfl 5 (by decide) (va_Nw.use rfl (hG.1.1 _ _ _ _ _ _ nf_X5_94)) (fun _ h9 => h9) rfl dX5_obeysCommand_102 ?_
      refine lv_aload_n hx hb dX5_obeysCommand_105 rfl (lv_at hl 0 rfl) ?_
      refine va_get (D := D) (ci := 5) (v := .ref (ca 1 0)) (C := RX5) (T := TX5) (N := 6) hx hb hts hinX5 hown hK hP 0 rfl rfl 0 (by decide) lk_0 (fun _ h9 => h9) rfl dX5_obeysCommand_106 ?_
      refine va_getN (D := D) (ci := 2) (v := .int (cv.1.1 5)) (C := RX2) (T := TX2) (N := 8) hx hb hts hinX2 hown hK hP 1 rfl rfl 6 (by decide) (va_Nw.use rfl (hG.1.1 _ _ _ _ _ _ nf_X5_98)) (fun _ h9 => h9) rfl dX5_obeysCommand_109 ?_
      have hP := pmP (ca_pm1 (cs := cs) (ca := ca) (cv := cv) (k := 0) (by decide)) hP
      have hD := pmD (ca_pm1 (cs := cs) (ca := ca) (cv := cv) (k := 0) (by decide)) hD
      have hc_112 := c_X1_orderPull l D cs (ca 10) (cv.2.1 0) (cv.1.1 4) (cv.1.1 5)
      obtain ⟨r_112, o_112, e_112⟩ : ∃ r9 o9, (k_X1_orderPull (cv.2.1 0) (cv.1.1 4) (cv.1.1 5)) = (r9, o9) := ⟨_, _, rfl⟩
      rw [e_112] at hc_112 hres
      dsimp only at hc_112 hres
      refine kI_call (wc := (og_W cs (ca 10) (cv.2.1 0))) (wr := (ca_ro cs ca cv 0)) (w1 := og_W cs (ca 10) o_112) (r := r_112) hE hP hD hS (k_rV (rest := []) (As := [.int (cv.1.1 4), .int (cv.1.1 5)]) hE rfl (hc_112 H.size) (cwV 2 hts gX5_obeysCommand_X1_orderPull rfl rfl rfl (by decide +kernel) ⟨Nat.le_of_ble_eq_true rfl, Nat.le_of_ble_eq_true rfl⟩) hP hD hS (ci := 1) (q0 := 0) rfl rfl rfl hl rfl (Nat.le_of_ble_eq_true rfl) ⟨Nat.le_of_ble_eq_true rfl, Nat.le_of_ble_eq_true rfl⟩ dX5_obeysCommand_112) (fun H locs hP hD hS => ?_)
      have hP := pmP (ca_bk1 (cs := cs) (ca := ca) (cv := cv) (k := 0) (by decide)) hP
      have hD := pmD (ca_bk1 (cs := cs) (ca := ca) (cv := cv) (k := 0) (by decide)) hD
      have hP : va_P D vwCl (ca_W cs ca (c_o cv 0 o_112)) H := hP
      have hD : va_D A (ca_W cs ca (c_o cv 0 o_112)) := hD
      refine lv_iconst (v := (-1)) hx hb dX5_obeysCommand_115 (by decide) ?_
      refine lv_icmp_eq (tgt := 123) hx hb dX5_obeysCommand_116 (by decide) (fun c_116 => ?_) (fun c_116 => ?_)
      · skip
        have c_116 : (r_112 = (-1)) := c_116
        rw [if_pos c_116] at hres
        refine lv_iconst (v := 0) hx hb dX5_obeysCommand_123 (by decide) ?_
        subst hres
        exact kI_ret hE hS hP hD rfl rfl (Nat.le_of_ble_eq_true rfl) (Nat.le_of_ble_eq_true rfl) dX5_obeysCommand_124
      · skip
        have c_116 : ¬ (r_112 = (-1)) := c_116
        rw [if_neg c_116] at hres
        refine lv_iconst (v := 1) hx hb dX5_obeysCommand_119 (by decide) ?_
        refine lv_goto (tgt := 124) hx hb dX5_obeysCommand_120 (by decide) ?_
        subst hres
        exact kI_ret hE hS hP hD rfl rfl (Nat.le_of_ble_eq_true rfl) (Nat.le_of_ble_eq_true rfl) dX5_obeysCommand_124
    · skip
      rw [if_neg c_7_108] at hres
      by_cases c_7_112 : (cv.1.1 3) = 112
      · skip
        rw [if_pos c_7_112] at hres
        refine lv_lookup (tgt := 56) (off := 49) hx hb dX5_obeysCommand_7 (by decide) (by rw [c_7_112]; rfl) (by decide) ?_
        refine lv_aload_n hx hb dX5_obeysCommand_56 rfl (lv_at hl 0 rfl) ?_
        refine va_get (D := D) (ci := 5) (v := .ref (ca 10 0)) (C := RX5) (T := TX5) (N := 6) hx hb hts hinX5 hown hK hP 0 rfl rfl 1 (by decide) lk_1 (fun _ h9 => h9) rfl dX5_obeysCommand_57 ?_
        refine lv_aload_n hx hb dX5_obeysCommand_60 rfl (lv_at hl 0 rfl) ?_
        refine va_get (D := D) (ci := 5) (v := .ref (ca 1 0)) (C := RX5) (T := TX5) (N := 6) hx hb hts hinX5 hown hK hP 0 rfl rfl 0 (by decide) lk_0 (fun _ h9 => h9) rfl dX5_obeysCommand_61 ?_
        refine va_getN (D := D) (ci := 2) (v := .int (cv.1.1 4)) (C := RX2) (T := TX2) (N := 8) hx hb hts hinX2 hown hK hP 1 rfl rfl 5 (by decide) (va_Nw.use rfl (hG.1.1 _ _ _ _ _ _ nf_X5_94)) (fun _ h9 => h9) rfl dX5_obeysCommand_64 ?_
        refine lv_aload_n hx hb dX5_obeysCommand_67 rfl (lv_at hl 0 rfl) ?_
        refine va_get (D := D) (ci := 5) (v := .ref (ca 1 0)) (C := RX5) (T := TX5) (N := 6) hx hb hts hinX5 hown hK hP 0 rfl rfl 0 (by decide) lk_0 (fun _ h9 => h9) rfl dX5_obeysCommand_68 ?_
        refine va_getN (D := D) (ci := 2) (v := .int (cv.1.1 5)) (C := RX2) (T := TX2) (N := 8) hx hb hts hinX2 hown hK hP 1 rfl rfl 6 (by decide) (va_Nw.use rfl (hG.1.1 _ _ _ _ _ _ nf_X5_98)) (fun _ h9 => h9) rfl dX5_obeysCommand_71 ?_
        refine lv_aload_n hx hb dX5_obeysCommand_74 rfl (lv_at hl 0 rfl) ?_
        refine va_get (D := D) (ci := 5) (v := .ref (ca 1 0)) (C := RX5) (T := TX5) (N := 6) hx hb hts hinX5 hown hK hP 0 rfl rfl 0 (by decide) lk_0 (fun _ h9 => h9) rfl dX5_obeysCommand_75 ?_
        refine va_getN (D := D) (ci := 2) (v := .int (cv.1.1 6)) (C := RX2) (T := TX2) (N := 8) hx hb hts hinX2 hown hK hP 1 rfl rfl 7 (by decide) (va_Nw.use rfl (hG.1.1 _ _ _ _ _ _ nf_X5_101)) (fun _ h9 => h9) rfl dX5_obeysCommand_78 ?_
        have hP := pmP (ca_pm1 (cs := cs) (ca := ca) (cv := cv) (k := 0) (by decide)) hP
        have hD := pmD (ca_pm1 (cs := cs) (ca := ca) (cv := cv) (k := 0) (by decide)) hD
        have hc_81 := c_X1_orderPut l D cs (ca 10) (cv.2.1 0) (cv.1.1 4) (cv.1.1 5) (cv.1.1 6)
        obtain ⟨r_81, o_81, e_81⟩ : ∃ r9 o9, (k_X1_orderPut (cv.2.1 0) (cv.1.1 4) (cv.1.1 5) (cv.1.1 6)) = (r9, o9) := ⟨_, _, rfl⟩
        rw [e_81] at hc_81 hres
        dsimp only at hc_81 hres
        refine kI_call (wc := (og_W cs (ca 10) (cv.2.1 0))) (wr := (ca_ro cs ca cv 0)) (w1 := og_W cs (ca 10) o_81) (r := r_81) hE hP hD hS (k_rV (rest := []) (As := [.int (cv.1.1 4), .int (cv.1.1 5), .int (cv.1.1 6)]) hE rfl (hc_81 H.size) (cwV 3 hts gX5_obeysCommand_X1_orderPut rfl rfl rfl (by decide +kernel) ⟨Nat.le_of_ble_eq_true rfl, Nat.le_of_ble_eq_true rfl⟩) hP hD hS (ci := 1) (q0 := 0) rfl rfl rfl hl rfl (Nat.le_of_ble_eq_true rfl) ⟨Nat.le_of_ble_eq_true rfl, Nat.le_of_ble_eq_true rfl⟩ dX5_obeysCommand_81) (fun H locs hP hD hS => ?_)
        have hP := pmP (ca_bk1 (cs := cs) (ca := ca) (cv := cv) (k := 0) (by decide)) hP
        have hD := pmD (ca_bk1 (cs := cs) (ca := ca) (cv := cv) (k := 0) (by decide)) hD
        have hP : va_P D vwCl (ca_W cs ca (c_o cv 0 o_81)) H := hP
        have hD : va_D A (ca_W cs ca (c_o cv 0 o_81)) := hD
        refine lv_iconst (v := (-1)) hx hb dX5_obeysCommand_84 (by decide) ?_
        refine lv_icmp_eq (tgt := 92) hx hb dX5_obeysCommand_85 (by decide) (fun c_85 => ?_) (fun c_85 => ?_)
        · skip
          have c_85 : (r_81 = (-1)) := c_85
          rw [if_pos c_85] at hres
          refine lv_iconst (v := 0) hx hb dX5_obeysCommand_92 (by decide) ?_
          subst hres
          exact kI_ret hE hS hP hD rfl rfl (Nat.le_of_ble_eq_true rfl) (Nat.le_of_ble_eq_true rfl) dX5_obeysCommand_93
        · skip
          have c_85 : ¬ (r_81 = (-1)) := c_85
          rw [if_neg c_85] at hres
          refine lv_iconst (v := 1) hx hb dX5_obeysCommand_88 (by decide) ?_
          refine lv_goto (tgt := 93) hx hb dX5_obeysCommand_89 (by decide) ?_
          subst hres
          exact kI_ret hE hS hP hD rfl rfl (Nat.le_of_ble_eq_true rfl) (Nat.le_of_ble_eq_true rfl) dX5_obeysCommand_93
      · skip
        rw [if_neg c_7_112] at hres
        by_cases c_7_116 : (cv.1.1 3) = 116
        · skip
          rw [if_pos c_7_116] at hres
          refine lv_lookup (tgt := 156) (off := 149) hx hb dX5_obeysCommand_7 (by decide) (by rw [c_7_116]; rfl) (by decide) ?_
          refine lv_aload_n hx hb dX5_obeysCommand_156 rfl (lv_at hl 0 rfl) ?_
          refine va_get (D := D) (ci := 5) (v := .ref (ca 10 0)) (C := RX5) (T := TX5) (N := 6) hx hb hts hinX5 hown hK hP 0 rfl rfl 1 (by decide) lk_1 (fun _ h9 => h9) rfl dX5_obeysCommand_157 ?_
          refine lv_aload_n hx hb dX5_obeysCommand_160 rfl (lv_at hl 0 rfl) ?_
          refine va_get (D := D) (ci := 5) (v := .ref (ca 1 0)) (C := RX5) (T := TX5) (N := 6) hx hb hts hinX5 hown hK hP 0 rfl rfl 0 (by decide) lk_0 (fun _ h9 => h9) rfl dX5_obeysCommand_161 ?_
          refine va_getN (D := D) (ci := 2) (v := .int (cv.1.1 4)) (C := RX2) (T := TX2) (N := 8) hx hb hts hinX2 hown hK hP 1 rfl rfl 5 (by decide) (va_Nw.use rfl (hG.1.1 _ _ _ _ _ _ nf_X5_94)) (fun _ h9 => h9) rfl dX5_obeysCommand_164 ?_
          have hP := pmP (ca_pm1 (cs := cs) (ca := ca) (cv := cv) (k := 0) (by decide)) hP
          have hD := pmD (ca_pm1 (cs := cs) (ca := ca) (cv := cv) (k := 0) (by decide)) hD
          have hc_167 := c_X1_play l D cs (ca 10) (cv.2.1 0) (cv.1.1 4) (hC.1 0 (by decide))
          obtain ⟨r_167, o_167, e_167⟩ : ∃ r9 o9, (k_X1_play (cv.2.1 0) (cv.1.1 4)) = (r9, o9) := ⟨_, _, rfl⟩
          rw [e_167] at hc_167 hres
          dsimp only at hc_167 hres
          refine kI_call (wc := (og_W cs (ca 10) (cv.2.1 0))) (wr := (ca_ro cs ca cv 0)) (w1 := og_W cs (ca 10) o_167) (r := r_167) hE hP hD hS (k_rV (rest := []) (As := [.int (cv.1.1 4)]) hE rfl (hc_167 H.size) (cwV 1 hts gX5_obeysCommand_X1_play rfl rfl rfl (by decide +kernel) ⟨Nat.le_of_ble_eq_true rfl, Nat.le_of_ble_eq_true rfl⟩) hP hD hS (ci := 1) (q0 := 0) rfl rfl rfl hl rfl (Nat.le_of_ble_eq_true rfl) ⟨Nat.le_of_ble_eq_true rfl, Nat.le_of_ble_eq_true rfl⟩ dX5_obeysCommand_167) (fun H locs hP hD hS => ?_)
          have hP := pmP (ca_bk1 (cs := cs) (ca := ca) (cv := cv) (k := 0) (by decide)) hP
          have hD := pmD (ca_bk1 (cs := cs) (ca := ca) (cv := cv) (k := 0) (by decide)) hD
          have hP : va_P D vwCl (ca_W cs ca (c_o cv 0 o_167)) H := hP
          have hD : va_D A (ca_W cs ca (c_o cv 0 o_167)) := hD
          refine lv_iconst (v := (-1)) hx hb dX5_obeysCommand_170 (by decide) ?_
          refine lv_icmp_eq (tgt := 178) hx hb dX5_obeysCommand_171 (by decide) (fun c_171 => ?_) (fun c_171 => ?_)
          · skip
            have c_171 : (r_167 = (-1)) := c_171
            rw [if_pos c_171] at hres
            refine lv_iconst (v := 0) hx hb dX5_obeysCommand_178 (by decide) ?_
            subst hres
            exact kI_ret hE hS hP hD rfl rfl (Nat.le_of_ble_eq_true rfl) (Nat.le_of_ble_eq_true rfl) dX5_obeysCommand_179
          · skip
            have c_171 : ¬ (r_167 = (-1)) := c_171
            rw [if_neg c_171] at hres
            refine lv_iconst (v := 1) hx hb dX5_obeysCommand_174 (by decide) ?_
            refine lv_goto (tgt := 179) hx hb dX5_obeysCommand_175 (by decide) ?_
            subst hres
            exact kI_ret hE hS hP hD rfl rfl (Nat.le_of_ble_eq_true rfl) (Nat.le_of_ble_eq_true rfl) dX5_obeysCommand_179
        · skip
          rw [if_neg c_7_116] at hres
          by_cases c_7_118 : (cv.1.1 3) = 118
          · skip
            rw [if_pos c_7_118] at hres
            refine lv_lookup (tgt := 125) (off := 118) hx hb dX5_obeysCommand_7 (by decide) (by rw [c_7_118]; rfl) (by decide) ?_
            refine lv_aload_n hx hb dX5_obeysCommand_125 rfl (lv_at hl 0 rfl) ?_
            refine va_get (D := D) (ci := 5) (v := .ref (ca 10 0)) (C := RX5) (T := TX5) (N := 6) hx hb hts hinX5 hown hK hP 0 rfl rfl 1 (by decide) lk_1 (fun _ h9 => h9) rfl dX5_obeysCommand_126 ?_
            refine lv_aload_n hx hb dX5_obeysCommand_129 rfl (lv_at hl 0 rfl) ?_
            refine va_get (D := D) (ci := 5) (v := .ref (ca 1 0)) (C := RX5) (T := TX5) (N := 6) hx hb hts hinX5 hown hK hP 0 rfl rfl 0 (by decide) lk_0 (fun _ h9 => h9) rfl dX5_obeysCommand_130 ?_
            refine va_getN (D := D) (ci := 2) (v := .int (cv.1.1 4)) (C := RX2) (T := TX2) (N := 8) hx hb hts hinX2 hown hK hP 1 rfl rfl 5 (by decide) (va_Nw.use rfl (hG.1.1 _ _ _ _ _ _ nf_X5_94)) (fun _ h9 => h9) rfl dX5_obeysCommand_133 ?_
            refine lv_aload_n hx hb dX5_obeysCommand_136 rfl (lv_at hl 0 rfl) ?_
            refine va_get (D := D) (ci := 5) (v := .ref (ca 1 0)) (C := RX5) (T := TX5) (N := 6) hx hb hts hinX5 hown hK hP 0 rfl rfl 0 (by decide) lk_0 (fun _ h9 => h9) rfl dX5_obeysCommand_137 ?_
            refine va_getN (D := D) (ci := 2) (v := .int (cv.1.1 5)) (C := RX2) (T := TX2) (N := 8) hx hb hts hinX2 hown hK hP 1 rfl rfl 6 (by decide) (va_Nw.use rfl (hG.1.1 _ _ _ _ _ _ nf_X5_98)) (fun _ h9 => h9) rfl dX5_obeysCommand_140 ?_
            have hP := pmP (ca_pm1 (cs := cs) (ca := ca) (cv := cv) (k := 0) (by decide)) hP
            have hD := pmD (ca_pm1 (cs := cs) (ca := ca) (cv := cv) (k := 0) (by decide)) hD
            have hc_143 := c_X1_change l D cs (ca 10) (cv.2.1 0) (cv.1.1 4) (cv.1.1 5)
            obtain ⟨r_143, o_143, e_143⟩ : ∃ r9 o9, (k_X1_change (cv.2.1 0) (cv.1.1 4) (cv.1.1 5)) = (r9, o9) := ⟨_, _, rfl⟩
            rw [e_143] at hc_143 hres
            dsimp only at hc_143 hres
            refine kI_call (wc := (og_W cs (ca 10) (cv.2.1 0))) (wr := (ca_ro cs ca cv 0)) (w1 := og_W cs (ca 10) o_143) (r := r_143) hE hP hD hS (k_rV (rest := []) (As := [.int (cv.1.1 4), .int (cv.1.1 5)]) hE rfl (hc_143 H.size) (cwV 2 hts gX5_obeysCommand_X1_change rfl rfl rfl (by decide +kernel) ⟨Nat.le_of_ble_eq_true rfl, Nat.le_of_ble_eq_true rfl⟩) hP hD hS (ci := 1) (q0 := 0) rfl rfl rfl hl rfl (Nat.le_of_ble_eq_true rfl) ⟨Nat.le_of_ble_eq_true rfl, Nat.le_of_ble_eq_true rfl⟩ dX5_obeysCommand_143) (fun H locs hP hD hS => ?_)
            have hP := pmP (ca_bk1 (cs := cs) (ca := ca) (cv := cv) (k := 0) (by decide)) hP
            have hD := pmD (ca_bk1 (cs := cs) (ca := ca) (cv := cv) (k := 0) (by decide)) hD
            have hP : va_P D vwCl (ca_W cs ca (c_o cv 0 o_143)) H := hP
            have hD : va_D A (ca_W cs ca (c_o cv 0 o_143)) := hD
            refine lv_iconst (v := (-1)) hx hb dX5_obeysCommand_146 (by decide) ?_
            refine lv_icmp_eq (tgt := 154) hx hb dX5_obeysCommand_147 (by decide) (fun c_147 => ?_) (fun c_147 => ?_)
            · skip
              have c_147 : (r_143 = (-1)) := c_147
              rw [if_pos c_147] at hres
              refine lv_iconst (v := 0) hx hb dX5_obeysCommand_154 (by decide) ?_
              subst hres
              exact kI_ret hE hS hP hD rfl rfl (Nat.le_of_ble_eq_true rfl) (Nat.le_of_ble_eq_true rfl) dX5_obeysCommand_155
            · skip
              have c_147 : ¬ (r_143 = (-1)) := c_147
              rw [if_neg c_147] at hres
              refine lv_iconst (v := 1) hx hb dX5_obeysCommand_150 (by decide) ?_
              refine lv_goto (tgt := 155) hx hb dX5_obeysCommand_151 (by decide) ?_
              subst hres
              exact kI_ret hE hS hP hD rfl rfl (Nat.le_of_ble_eq_true rfl) (Nat.le_of_ble_eq_true rfl) dX5_obeysCommand_155
          · skip
            rw [if_neg c_7_118] at hres
            refine lv_lookup (tgt := 204) (off := 197) hx hb dX5_obeysCommand_7 (by decide) ((lv_osw c_7_99 rfl).trans ((lv_osw c_7_108 rfl).trans ((lv_osw c_7_112 rfl).trans ((lv_osw c_7_116 rfl).trans ((lv_osw c_7_118 rfl).trans rfl))))) (by decide) ?_
            refine lv_iconst (v := 0) hx hb dX5_obeysCommand_204 (by decide) ?_
            subst hres
            exact kI_ret hE hS hP hD rfl rfl (Nat.le_of_ble_eq_true rfl) (Nat.le_of_ble_eq_true rfl) dX5_obeysCommand_205
theorem CO_cmdE {cv c2 : CV} {r : Int32} (e : k_X5_obeysCommand cv = (r, c2)) (h : CO cv) : CO c2 := by
  have o2 := h.1 0 (by decide)
  suffices hq : CO (k_X5_obeysCommand cv).2 by rw [e] at hq; exact hq
  unfold k_X5_obeysCommand
  dsimp only
  repeat' with_reducible refine ite_C2 ?_ ?_
  all_goals (try dsimp only)
  all_goals first | with_reducible exact h | with_reducible exact CO_o h (OI_put9 o2) | with_reducible exact CO_o h (OI_pull9 o2) | with_reducible exact CO_o h (OI_drop9 o2) | with_reducible exact CO_o h (OI_change9 o2) | with_reducible exact CO_o h (OI_play9 o2)
theorem RT_fwL {r : RV} : ∀ (n : Nat) (k : Int32) (rr : RV) (v : Int32) (r2 : RV), k_X2_firstWrong_L6 r n k rr = (v, r2) → RT rr → RT r2 := by
  intro n
  induction n with
  | zero => intro k rr v r2 e h; cases e; exact h
  | succ n ih =>
    intro k rr v r2 e h
    rw [k_X2_firstWrong_L6] at e
    split at e
    · split at e <;> (cases e; exact h)
    · have h2 : RT (k_X2_readCommand rr).2 := RT_cmdE (Prod.eta _).symm h
      dsimp only at e
      split at e
      · split at e <;> (cases e; exact h2)
      · exact ih _ _ _ _ e h2
theorem RT_fwE {r r2 : RV} {v : Int32} (e : k_X2_firstWrong r = (v, r2)) (h : RT r) : RT r2 := RT_fwL _ _ _ _ _ e (RT_rew h)
theorem CO_wipeL {cv : CV} : ∀ (n : Nat) (i : Int32) (cw : CV), CO cw → CO (k_X3_wipe_L2 cv n i cw) := by
  intro n
  induction n with
  | zero => intro i cw h; exact h
  | succ n ih =>
    intro i cw h
    rw [k_X3_wipe_L2]
    split
    · exact h
    · exact ih _ _ h
theorem CO_wipe {cv : CV} (h : CO cv) : CO (k_X3_wipe cv) := CO_wipeL _ _ _ h
def k_X5_load_L57 (cv : CV) : Nat → Int32 → Int32 → CV → (Option String × Int32 × CV)
  | 0, _, _, cw => (none, 0, cw)
  | n + 1, i, acc, cw => (if 120 ≤ i then (none, acc, cw) else (match (k_X2_readCommand cw.1) with | (r_67, o_67) => (if r_67 = 0 then (none, acc, (c_r cw o_67)) else (match (k_X5_obeysCommand (c_r cw o_67)) with | (r_74, o_74) => (if r_74 = 0 then (k_X5_load_L57 cv n (i + 1) (acc + 1) o_74) else (k_X5_load_L57 cv n (i + 1) acc o_74))))))
def k_X5_load (cv : CV) : Option String × Int32 × CV := (match (k_X2_firstWrong cv.1) with | (r_4, o_4) => (if r_4 = (-1) then (k_X5_load_L57 cv 121 0 0 (c_r (k_X3_wipe (k_X0_forget (c_o (c_r cv o_4) 0 (k_X1_copyFrom (cv.2.1 0) (cv.2.1 1))))) (k_X2_rewind ((k_X3_wipe (k_X0_forget (c_o (c_r cv o_4) 0 (k_X1_copyFrom (cv.2.1 0) (cv.2.1 1))))).1)))) else (some "java/lang/IllegalStateException", 0, (c_r cv o_4))))
set_option maxHeartbeats 4000000 in
set_option maxRecDepth 100000 in
theorem c_X5_load (l : Launch) (hfl : l.stackTraces = false) (D : va_G) (cs : Nat → ClassId) (ca : Nat → Nat → Nat) (cv : CV) (hC : CO cv) : kX l yX5_load wsX5_load { frames := 7, cells := 1, slots := 6, locals := 172 } 1 6 D cs [.ref (ca 0 0)] (ca_W cs ca cv) (k_X5_load cv).1 (k_X5_load cv).2.1 (ca_W cs ca ((k_X5_load cv).2.2)) := by
  generalize hres : k_X5_load cv = res
  refine kX_of (cc := cX5_load) (maxL := 3) (ret := (some .int)) (by decide) rfl (Nat.le_of_ble_eq_true rfl) ?_
  intro p e s m below meth c A ls H locs hE hxt hS hP hD hl
  obtain ⟨hx, hb, hr, hlocks, hml, hown, hts, hK, hA, hG, hnm⟩ := id hE
  have hown : s.vm.findClass RX5 = some m.cls := hown
  have hl : lv_has ls 3 [(0, .ref (ca 0 0))] := hl
  have hinX5 : ∀ w ∈ wsX50, w ∈ wsX5_load := by decide +kernel
  have lk_0 := hts (.fieldLink RX5 10 "OrganPegs" "roll" "LOrganPegs$Roll;") (by decide +kernel)
  have lk_1 := hts (.fieldLink RX5 19 "OrganPegs" "organ" "LOrganPegs$Organ;") (by decide +kernel)
  have lk_2 := hts (.fieldLink RX5 23 "OrganPegs" "untouched" "LOrganPegs$Organ;") (by decide +kernel)
  have lk_3 := hts (.fieldLink RX5 32 "OrganPegs" "history" "LOrganPegs$History;") (by decide +kernel)
  have lk_4 := hts (.fieldLink RX5 39 "OrganPegs" "slots" "LOrganPegs$Slots;") (by decide +kernel)
  have lk_5 := hts (.classLink RX5 54 "java/lang/IllegalStateException") (by decide +kernel)
  have lk_6 := hts (.initialized "java/lang/IllegalStateException") (by decide +kernel)
  have L57 : ∀ (n : Nat) (i : Int32) (acc : Int32) (cw : CV) (j : Nat) (hi : i = nI j) (hj : j + n = 121) (hj2 : j ≤ 120) (hC2 : CO cw) (H : Heap) (locs : List Loc) (ls : Array Slot), va_S A s.heap H locs → va_P D vwCl (ca_W cs ca cw) H → va_D A (ca_W cs ca cw) → lv_has ls 3 [(0, .ref (ca 0 0)), (1, .int acc), (2, .int i)] → k_X5_load_L57 cv n i acc cw = res → W p l e { frames := 7, cells := 1, slots := 6, locals := 172 } s m ([.ref (ca 0 0)]).toArray below meth c H locs 0 0 (vx_MQ below (va_Qi (fun (r' : Int32) (_ : Unit) => res.1 = none ∧ r' = res.2.1) (kB D (fun _ => ca_W cs ca res.2.2) A) A) (kT D res.1 (ca_W cs ca res.2.2) A) ([.ref (ca 0 0)]).toArray s 1 6 A) (F0 m 57 ls []) := by
    intro n
    induction n with
    | zero =>
      intro i acc cw j hi hj hj2 hC2 H locs ls hS hP hD hl hres
      exact absurd hj2 (by omega)
    | succ n ih =>
      intro i acc cw j hi hj hj2 hC2 H locs ls hS hP hD hl hres
      unfold k_X5_load_L57 at hres
      refine lv_iload_n hx hb dX5_load_57 rfl (lv_at hl 2 rfl) ?_
      refine lv_bipush (v := 120) hx hb dX5_load_58 (by decide) ?_
      refine lv_icmp_ge (tgt := 89) hx hb dX5_load_60 (by decide) (fun c_60 => ?_) (fun c_60 => ?_)
      · skip
        have c_60 : (120 ≤ i) := c_60
        rw [if_pos c_60] at hres
        refine lv_iload_n hx hb dX5_load_89 rfl (lv_at hl 1 rfl) ?_
        subst hres
        exact kX_ret hE hS hP hD rfl rfl rfl (Nat.le_of_ble_eq_true rfl) (Nat.le_of_ble_eq_true rfl) dX5_load_90
      · skip
        have c_60 : ¬ (120 ≤ i) := c_60
        rw [if_neg c_60] at hres
        refine lv_aload_n hx hb dX5_load_63 rfl (lv_at hl 0 rfl) ?_
        refine va_get (D := D) (ci := 5) (v := .ref (ca 1 0)) (C := RX5) (T := TX5) (N := 6) hx hb hts hinX5 hown hK hP 0 rfl rfl 0 (by decide) lk_0 (fun _ h9 => h9) rfl dX5_load_64 ?_
        have hP := pmP (ca_pmr (cs := cs) (ca := ca) (cv := cw)) hP
        have hD := pmD (ca_pmr (cs := cs) (ca := ca) (cv := cw)) hD
        have hc_67 := c_X2_readCommand l D cs (ca 1) cw.1  hC2.2.1
        obtain ⟨r_67, o_67, e_67⟩ : ∃ r9 o9, (k_X2_readCommand cw.1) = (r9, o9) := ⟨_, _, rfl⟩
        rw [e_67] at hc_67 hres
        dsimp only at hc_67 hres
        refine kI_call (wc := (rl_W cs (ca 1) cw.1)) (wr := (ca_rr cs ca cw)) (w1 := rl_W cs (ca 1) o_67) (r := r_67) hE hP hD hS (k_rV (rest := []) (As := []) hE rfl (hc_67 H.size) (cwV 0 hts gX5_load_X2_readCommand rfl rfl rfl (by decide +kernel) ⟨Nat.le_of_ble_eq_true rfl, Nat.le_of_ble_eq_true rfl⟩) hP hD hS (ci := 2) (q0 := 0) rfl rfl rfl hl rfl (Nat.le_of_ble_eq_true rfl) ⟨Nat.le_of_ble_eq_true rfl, Nat.le_of_ble_eq_true rfl⟩ dX5_load_67) (fun H locs hP hD hS => ?_)
        have hP := pmP (ca_bkr (cs := cs) (ca := ca) (cv := cw)) hP
        have hD := pmD (ca_bkr (cs := cs) (ca := ca) (cv := cw)) hD
        have hP : va_P D vwCl (ca_W cs ca (c_r cw o_67)) H := hP
        have hD : va_D A (ca_W cs ca (c_r cw o_67)) := hD
        refine lv_if_eq (tgt := 89) hx hb dX5_load_70 (by decide) (fun c_70 => ?_) (fun c_70 => ?_)
        · skip
          have c_70 : (r_67 = 0) := c_70
          rw [if_pos c_70] at hres
          refine lv_iload_n hx hb dX5_load_89 rfl (lv_at hl 1 rfl) ?_
          subst hres
          exact kX_ret hE hS hP hD rfl rfl rfl (Nat.le_of_ble_eq_true rfl) (Nat.le_of_ble_eq_true rfl) dX5_load_90
        · skip
          have c_70 : ¬ (r_67 = 0) := c_70
          rw [if_neg c_70] at hres
          refine lv_aload_n hx hb dX5_load_73 rfl (lv_at hl 0 rfl) ?_
          have hP : va_P D vwCl ((ca_W cs ca (c_r cw o_67)) ++ []) H := k_nP hP
          have hD : va_D A ((ca_W cs ca (c_r cw o_67)) ++ []) := k_nD hD
          have hc_74 := c_X5_obeysCommand l D cs ca (c_r cw o_67)  (CO_r hC2 (RT_cmdE e_67 hC2.2.1))
          obtain ⟨r_74, o_74, e_74⟩ : ∃ r9 o9, (k_X5_obeysCommand (c_r cw o_67)) = (r9, o9) := ⟨_, _, rfl⟩
          rw [e_74] at hc_74 hres
          dsimp only at hc_74 hres
          refine kI_call (wc := (ca_W cs ca (c_r cw o_67))) (wr := []) (w1 := ca_W cs ca o_74) (r := r_74) hE hP hD hS (k_rV (rest := []) (As := []) hE rfl (hc_74 H.size) (cwV 0 hts gX5_load_X5_obeysCommand rfl rfl rfl (by decide +kernel) ⟨Nat.le_of_ble_eq_true rfl, Nat.le_of_ble_eq_true rfl⟩) hP hD hS (ci := 5) (q0 := 0) rfl rfl rfl hl rfl (Nat.le_of_ble_eq_true rfl) ⟨Nat.le_of_ble_eq_true rfl, Nat.le_of_ble_eq_true rfl⟩ dX5_load_74) (fun H locs hP hD hS => ?_)
          have hP := k_uP hP
          have hD := k_uD hD
          have hP : va_P D vwCl (ca_W cs ca o_74) H := hP
          have hD : va_D A (ca_W cs ca o_74) := hD
          refine lv_if_ne (tgt := 83) hx hb dX5_load_77 (by decide) (fun c_77 => ?_) (fun c_77 => ?_)
          · skip
            have c_77 : ¬ (r_74 = 0) := c_77
            rw [if_neg c_77] at hres
            refine lv_iinc (v := (i + 1)) (lv' := [(2, .int (i + 1)), (0, .ref (ca 0 0)), (1, .int acc)]) hx hb dX5_load_83 hl (k := 2) rfl (by rfl) (by decide) rfl (fun ls hl => ?_)
            refine lv_goto (tgt := 57) hx hb dX5_load_86 (by decide) ?_
            exact ih (i + 1) acc o_74 (j + 1) (by rw [hi, nI_1]) (by omega) (nI_lts hi (by omega) (by decide) c_60) ((CO_cmdE e_74 (CO_r hC2 (RT_cmdE e_67 hC2.2.1)))) _ _ _ hS hP hD (lv_sub hl [1, 2, 0] rfl) hres
          · skip
            have c_77 : (r_74 = 0) := c_77
            rw [if_pos c_77] at hres
            refine lv_iinc (v := (acc + 1)) (lv' := [(1, .int (acc + 1)), (0, .ref (ca 0 0)), (2, .int i)]) hx hb dX5_load_80 hl (k := 1) rfl (by rfl) (by decide) rfl (fun ls hl => ?_)
            refine lv_iinc (v := (i + 1)) (lv' := [(2, .int (i + 1)), (1, .int (acc + 1)), (0, .ref (ca 0 0))]) hx hb dX5_load_83 hl (k := 2) rfl (by rfl) (by decide) rfl (fun ls hl => ?_)
            refine lv_goto (tgt := 57) hx hb dX5_load_86 (by decide) ?_
            exact ih (i + 1) (acc + 1) o_74 (j + 1) (by rw [hi, nI_1]) (by omega) (nI_lts hi (by omega) (by decide) c_60) ((CO_cmdE e_74 (CO_r hC2 (RT_cmdE e_67 hC2.2.1)))) _ _ _ hS hP hD (lv_sub hl [2, 1, 0] rfl) hres
  unfold k_X5_load at hres
  refine lv_aload_n hx hb dX5_load_0 rfl (lv_at hl 0 rfl) ?_
  refine va_get (D := D) (ci := 5) (v := .ref (ca 1 0)) (C := RX5) (T := TX5) (N := 6) hx hb hts hinX5 hown hK hP 0 rfl rfl 0 (by decide) lk_0 (fun _ h9 => h9) rfl dX5_load_1 ?_
  have hP := pmP (ca_pmr (cs := cs) (ca := ca) (cv := cv)) hP
  have hD := pmD (ca_pmr (cs := cs) (ca := ca) (cv := cv)) hD
  have hc_4 := c_X2_firstWrong l D cs (ca 1) cv.1  hC.2.1
  obtain ⟨r_4, o_4, e_4⟩ : ∃ r9 o9, (k_X2_firstWrong cv.1) = (r9, o9) := ⟨_, _, rfl⟩
  rw [e_4] at hc_4 hres
  dsimp only at hc_4 hres
  refine kI_call (wc := (rl_W cs (ca 1) cv.1)) (wr := (ca_rr cs ca cv)) (w1 := rl_W cs (ca 1) o_4) (r := r_4) hE hP hD hS (k_rV (rest := []) (As := []) hE rfl (hc_4 H.size) (cwV 0 hts gX5_load_X2_firstWrong rfl rfl rfl (by decide +kernel) ⟨Nat.le_of_ble_eq_true rfl, Nat.le_of_ble_eq_true rfl⟩) hP hD hS (ci := 2) (q0 := 0) rfl rfl rfl hl rfl (Nat.le_of_ble_eq_true rfl) ⟨Nat.le_of_ble_eq_true rfl, Nat.le_of_ble_eq_true rfl⟩ dX5_load_4) (fun H locs hP hD hS => ?_)
  have hP := pmP (ca_bkr (cs := cs) (ca := ca) (cv := cv)) hP
  have hD := pmD (ca_bkr (cs := cs) (ca := ca) (cv := cv)) hD
  have hP : va_P D vwCl (ca_W cs ca (c_r cv o_4)) H := hP
  have hD : va_D A (ca_W cs ca (c_r cv o_4)) := hD
  refine lv_iconst (v := (-1)) hx hb dX5_load_7 (by decide) ?_
  refine lv_icmp_eq (tgt := 21) hx hb dX5_load_8 (by decide) (fun c_8 => ?_) (fun c_8 => ?_)
  · skip
    have c_8 : (r_4 = (-1)) := c_8
    rw [if_pos c_8] at hres
    refine lv_aload_n hx hb dX5_load_21 rfl (lv_at hl 0 rfl) ?_
    refine va_get (D := D) (ci := 5) (v := .ref (ca 10 0)) (C := RX5) (T := TX5) (N := 6) hx hb hts hinX5 hown hK hP 0 rfl rfl 1 (by decide) lk_1 (fun _ h9 => h9) rfl dX5_load_22 ?_
    refine lv_aload_n hx hb dX5_load_25 rfl (lv_at hl 0 rfl) ?_
    refine va_get (D := D) (ci := 5) (v := .ref (ca 11 0)) (C := RX5) (T := TX5) (N := 6) hx hb hts hinX5 hown hK hP 0 rfl rfl 2 (by decide) lk_2 (fun _ h9 => h9) rfl dX5_load_26 ?_
    have hP := pmP (ca_pm2 (cs := cs) (ca := ca) (cv := (c_r cv o_4)) (k := 0) (j := 1) (by decide) (by decide) (by decide)) hP
    have hD := pmD (ca_pm2 (cs := cs) (ca := ca) (cv := (c_r cv o_4)) (k := 0) (j := 1) (by decide) (by decide) (by decide)) hD
    have hc_29 := c_X1_copyFrom l D cs (ca 10) (ca 11) (cv.2.1 0) (cv.2.1 1)
    refine kV_call (wc := (og_W cs (ca 10) (cv.2.1 0) ++ og_W cs (ca 11) (cv.2.1 1))) (wr := (ca_r2 cs ca (c_r cv o_4) 0 1)) (w1 := fun _ => og_W cs (ca 10) (k_X1_copyFrom (cv.2.1 0) (cv.2.1 1)) ++ og_W cs (ca 11) (cv.2.1 1)) hE hP hD hS (k_rV (rest := []) (As := [.ref (ca 11 0)]) hE rfl (hc_29 H.size) (cwV 1 hts gX5_load_X1_copyFrom rfl rfl rfl (by decide +kernel) ⟨Nat.le_of_ble_eq_true rfl, Nat.le_of_ble_eq_true rfl⟩) hP hD hS (ci := 1) (q0 := 0) rfl rfl rfl hl rfl (Nat.le_of_ble_eq_true rfl) ⟨Nat.le_of_ble_eq_true rfl, Nat.le_of_ble_eq_true rfl⟩ dX5_load_29) (fun _ H locs _ hP hD hS => ?_)
    have hP := pmP (ca_bk2 (cs := cs) (ca := ca) (cv := (c_r cv o_4)) (k := 0) (j := 1) (by decide) (by decide) (by decide)) hP
    have hD := pmD (ca_bk2 (cs := cs) (ca := ca) (cv := (c_r cv o_4)) (k := 0) (j := 1) (by decide) (by decide) (by decide)) hD
    have hP : va_P D vwCl (ca_W cs ca (c_o (c_r cv o_4) 0 (k_X1_copyFrom (cv.2.1 0) (cv.2.1 1)))) H := hP
    have hD : va_D A (ca_W cs ca (c_o (c_r cv o_4) 0 (k_X1_copyFrom (cv.2.1 0) (cv.2.1 1)))) := hD
    refine lv_aload_n hx hb dX5_load_32 rfl (lv_at hl 0 rfl) ?_
    refine va_get (D := D) (ci := 5) (v := .ref (ca 2 0)) (C := RX5) (T := TX5) (N := 6) hx hb hts hinX5 hown hK hP 0 rfl rfl 4 (by decide) lk_3 (fun _ h9 => h9) rfl dX5_load_33 ?_
    have hP : va_P D vwCl ((ca_W cs ca (c_o (c_r cv o_4) 0 (k_X1_copyFrom (cv.2.1 0) (cv.2.1 1)))) ++ []) H := k_nP hP
    have hD : va_D A ((ca_W cs ca (c_o (c_r cv o_4) 0 (k_X1_copyFrom (cv.2.1 0) (cv.2.1 1)))) ++ []) := k_nD hD
    have hc_36 := c_X0_forget l D cs ca (c_o (c_r cv o_4) 0 (k_X1_copyFrom (cv.2.1 0) (cv.2.1 1)))  (CO_o (CO_r hC (RT_fwE e_4 hC.2.1)) (OI_copy (hC.1 1 (by decide))))
    refine kV_call (wc := (ca_W cs ca (c_o (c_r cv o_4) 0 (k_X1_copyFrom (cv.2.1 0) (cv.2.1 1))))) (wr := []) (w1 := fun _ => ca_W cs ca (k_X0_forget (c_o (c_r cv o_4) 0 (k_X1_copyFrom (cv.2.1 0) (cv.2.1 1))))) hE hP hD hS (k_rV (rest := []) (As := []) hE rfl (hc_36 H.size) (cwV 0 hts gX5_load_X0_forget rfl rfl rfl (by decide +kernel) ⟨Nat.le_of_ble_eq_true rfl, Nat.le_of_ble_eq_true rfl⟩) hP hD hS (ci := 0) (q0 := 3) rfl rfl rfl hl rfl (Nat.le_of_ble_eq_true rfl) ⟨Nat.le_of_ble_eq_true rfl, Nat.le_of_ble_eq_true rfl⟩ dX5_load_36) (fun _ H locs _ hP hD hS => ?_)
    have hP := k_uP hP
    have hD := k_uD hD
    have hP : va_P D vwCl (ca_W cs ca (k_X0_forget (c_o (c_r cv o_4) 0 (k_X1_copyFrom (cv.2.1 0) (cv.2.1 1))))) H := hP
    have hD : va_D A (ca_W cs ca (k_X0_forget (c_o (c_r cv o_4) 0 (k_X1_copyFrom (cv.2.1 0) (cv.2.1 1))))) := hD
    refine lv_aload_n hx hb dX5_load_39 rfl (lv_at hl 0 rfl) ?_
    refine va_get (D := D) (ci := 5) (v := .ref (ca 3 0)) (C := RX5) (T := TX5) (N := 6) hx hb hts hinX5 hown hK hP 0 rfl rfl 5 (by decide) lk_4 (fun _ h9 => h9) rfl dX5_load_40 ?_
    have hP : va_P D vwCl ((ca_W cs ca (k_X0_forget (c_o (c_r cv o_4) 0 (k_X1_copyFrom (cv.2.1 0) (cv.2.1 1))))) ++ []) H := k_nP hP
    have hD : va_D A ((ca_W cs ca (k_X0_forget (c_o (c_r cv o_4) 0 (k_X1_copyFrom (cv.2.1 0) (cv.2.1 1))))) ++ []) := k_nD hD
    have hc_43 := c_X3_wipe l D cs ca (k_X0_forget (c_o (c_r cv o_4) 0 (k_X1_copyFrom (cv.2.1 0) (cv.2.1 1))))  (CO_s1 (CO_o (CO_r hC (RT_fwE e_4 hC.2.1)) (OI_copy (hC.1 1 (by decide)))))
    refine kV_call (wc := (ca_W cs ca (k_X0_forget (c_o (c_r cv o_4) 0 (k_X1_copyFrom (cv.2.1 0) (cv.2.1 1)))))) (wr := []) (w1 := fun _ => ca_W cs ca (k_X3_wipe (k_X0_forget (c_o (c_r cv o_4) 0 (k_X1_copyFrom (cv.2.1 0) (cv.2.1 1)))))) hE hP hD hS (k_rV (rest := []) (As := []) hE rfl (hc_43 H.size) (cwV 0 hts gX5_load_X3_wipe rfl rfl rfl (by decide +kernel) ⟨Nat.le_of_ble_eq_true rfl, Nat.le_of_ble_eq_true rfl⟩) hP hD hS (ci := 3) (q0 := 5) rfl rfl rfl hl rfl (Nat.le_of_ble_eq_true rfl) ⟨Nat.le_of_ble_eq_true rfl, Nat.le_of_ble_eq_true rfl⟩ dX5_load_43) (fun _ H locs _ hP hD hS => ?_)
    have hP := k_uP hP
    have hD := k_uD hD
    have hP : va_P D vwCl (ca_W cs ca (k_X3_wipe (k_X0_forget (c_o (c_r cv o_4) 0 (k_X1_copyFrom (cv.2.1 0) (cv.2.1 1)))))) H := hP
    have hD : va_D A (ca_W cs ca (k_X3_wipe (k_X0_forget (c_o (c_r cv o_4) 0 (k_X1_copyFrom (cv.2.1 0) (cv.2.1 1)))))) := hD
    refine lv_aload_n hx hb dX5_load_46 rfl (lv_at hl 0 rfl) ?_
    refine va_get (D := D) (ci := 5) (v := .ref (ca 1 0)) (C := RX5) (T := TX5) (N := 6) hx hb hts hinX5 hown hK hP 0 rfl rfl 0 (by decide) lk_0 (fun _ h9 => h9) rfl dX5_load_47 ?_
    have hP := pmP (ca_pmr (cs := cs) (ca := ca) (cv := (k_X3_wipe (k_X0_forget (c_o (c_r cv o_4) 0 (k_X1_copyFrom (cv.2.1 0) (cv.2.1 1))))))) hP
    have hD := pmD (ca_pmr (cs := cs) (ca := ca) (cv := (k_X3_wipe (k_X0_forget (c_o (c_r cv o_4) 0 (k_X1_copyFrom (cv.2.1 0) (cv.2.1 1))))))) hD
    have hc_50 := c_X2_rewind l D cs (ca 1) ((k_X3_wipe (k_X0_forget (c_o (c_r cv o_4) 0 (k_X1_copyFrom (cv.2.1 0) (cv.2.1 1))))).1)  (CO_wipe (CO_s1 (CO_o (CO_r hC (RT_fwE e_4 hC.2.1)) (OI_copy (hC.1 1 (by decide)))))).2.1
    refine kV_call (wc := (rl_W cs (ca 1) ((k_X3_wipe (k_X0_forget (c_o (c_r cv o_4) 0 (k_X1_copyFrom (cv.2.1 0) (cv.2.1 1))))).1))) (wr := (ca_rr cs ca (k_X3_wipe (k_X0_forget (c_o (c_r cv o_4) 0 (k_X1_copyFrom (cv.2.1 0) (cv.2.1 1))))))) (w1 := fun _ => rl_W cs (ca 1) (k_X2_rewind ((k_X3_wipe (k_X0_forget (c_o (c_r cv o_4) 0 (k_X1_copyFrom (cv.2.1 0) (cv.2.1 1))))).1))) hE hP hD hS (k_rV (rest := []) (As := []) hE rfl (hc_50 H.size) (cwV 0 hts gX5_load_X2_rewind rfl rfl rfl (by decide +kernel) ⟨Nat.le_of_ble_eq_true rfl, Nat.le_of_ble_eq_true rfl⟩) hP hD hS (ci := 2) (q0 := 0) rfl rfl rfl hl rfl (Nat.le_of_ble_eq_true rfl) ⟨Nat.le_of_ble_eq_true rfl, Nat.le_of_ble_eq_true rfl⟩ dX5_load_50) (fun _ H locs _ hP hD hS => ?_)
    have hP := pmP (ca_bkr (cs := cs) (ca := ca) (cv := (k_X3_wipe (k_X0_forget (c_o (c_r cv o_4) 0 (k_X1_copyFrom (cv.2.1 0) (cv.2.1 1))))))) hP
    have hD := pmD (ca_bkr (cs := cs) (ca := ca) (cv := (k_X3_wipe (k_X0_forget (c_o (c_r cv o_4) 0 (k_X1_copyFrom (cv.2.1 0) (cv.2.1 1))))))) hD
    have hP : va_P D vwCl (ca_W cs ca (c_r (k_X3_wipe (k_X0_forget (c_o (c_r cv o_4) 0 (k_X1_copyFrom (cv.2.1 0) (cv.2.1 1))))) (k_X2_rewind ((k_X3_wipe (k_X0_forget (c_o (c_r cv o_4) 0 (k_X1_copyFrom (cv.2.1 0) (cv.2.1 1))))).1)))) H := hP
    have hD : va_D A (ca_W cs ca (c_r (k_X3_wipe (k_X0_forget (c_o (c_r cv o_4) 0 (k_X1_copyFrom (cv.2.1 0) (cv.2.1 1))))) (k_X2_rewind ((k_X3_wipe (k_X0_forget (c_o (c_r cv o_4) 0 (k_X1_copyFrom (cv.2.1 0) (cv.2.1 1))))).1)))) := hD
    refine lv_iconst (v := 0) hx hb dX5_load_53 (by decide) ?_
    refine lv_istore_n (lv' := [(1, .int 0), (0, .ref (ca 0 0))]) hx hb dX5_load_54 rfl hl (by decide) rfl (fun ls hl => ?_)
    refine lv_iconst (v := 0) hx hb dX5_load_55 (by decide) ?_
    refine lv_istore_n (lv' := [(2, .int 0), (1, .int 0), (0, .ref (ca 0 0))]) hx hb dX5_load_56 rfl hl (by decide) rfl (fun ls hl => ?_)
    exact L57 121 0 0 (c_r (k_X3_wipe (k_X0_forget (c_o (c_r cv o_4) 0 (k_X1_copyFrom (cv.2.1 0) (cv.2.1 1))))) (k_X2_rewind ((k_X3_wipe (k_X0_forget (c_o (c_r cv o_4) 0 (k_X1_copyFrom (cv.2.1 0) (cv.2.1 1))))).1))) 0 ((show (0 : Int32) = nI 0 from rfl)) (rfl) (by decide) (CO_r (CO_wipe (CO_s1 (CO_o (CO_r hC (RT_fwE e_4 hC.2.1)) (OI_copy (hC.1 1 (by decide)))))) (RT_rew (CO_wipe (CO_s1 (CO_o (CO_r hC (RT_fwE e_4 hC.2.1)) (OI_copy (hC.1 1 (by decide)))))).2.1)) _ _ _ hS hP hD (lv_sub hl [2, 1, 0] rfl) hres
  · skip
    have c_8 : ¬ (r_4 = (-1)) := c_8
    rw [if_neg c_8] at hres
    subst hres
    exact kX_throw hE hfl hxt hS hP hD hl rfl (by decide) lk_5 lk_6 sr_70 xg_58 (by decide +kernel) xb_58 dX5_load_11 dX5_load_14 dX5_load_15 dX5_load_17 dX5_load_20 (Nat.le_of_ble_eq_true rfl) (Nat.le_of_ble_eq_true rfl) (Nat.le_of_ble_eq_true rfl) (Nat.le_of_ble_eq_true rfl) (Nat.le_of_ble_eq_true rfl) (Nat.le_of_ble_eq_true rfl) rfl
