set_option maxHeartbeats 4000000 in
set_option maxRecDepth 100000 in
theorem c_X6_in (l : Launch) (D : va_G) (cs : Nat → ClassId) (xv : Int64) (xl : Int64) (xh : Int64) : kI l yX6_in wsX6_in { frames := 0, cells := 0, slots := 0, locals := 0 } 0 0 D cs [.long xv, .long xl, .long xh] ([]) (k_X6_in xv xl xh) ([]) := by
  generalize hres : k_X6_in xv xl xh = res
  refine kI_of (cc := cX6_in) (maxL := 6) (ret := (some .boolean)) (by decide) rfl (Nat.le_of_ble_eq_true rfl) ?_
  intro p e s m below meth c A ls H locs hE hS hP hD hl
  obtain ⟨hx, hb, hr, hlocks, hml, hown, hts, hK, hA, hG, hnm⟩ := id hE
  have hown : s.vm.findClass RX6 = some m.cls := hown
  have hl : lv_has ls 6 [(0, .long xv), (2, .long xl), (4, .long xh)] := hl
  unfold k_X6_in at hres
  refine lv_lload_n hx hb dX6_in_0 rfl (lv_at hl 0 rfl) ?_
  refine lv_lload_n hx hb dX6_in_1 rfl (lv_at hl 1 rfl) ?_
  refine W.lcmp hx hb dX6_in_2 ?_
  refine lv_if_lt (tgt := 17) hx hb dX6_in_3 (by decide) (fun c_3 => ?_) (fun c_3 => ?_)
  · skip
    have c_3 : ((lg_cmp xv xl) < 0) := c_3
    rw [if_pos c_3] at hres
    refine lv_iconst (v := 0) hx hb dX6_in_17 (by decide) ?_
    subst hres
    exact kI_ret hE hS hP hD rfl rfl (Nat.le_of_ble_eq_true rfl) (Nat.le_of_ble_eq_true rfl) dX6_in_18
  · skip
    have c_3 : ¬ ((lg_cmp xv xl) < 0) := c_3
    rw [if_neg c_3] at hres
    refine lv_lload_n hx hb dX6_in_6 rfl (lv_at hl 0 rfl) ?_
    refine lv_lload hx hb dX6_in_7 (lv_at hl 2 rfl) ?_
    refine W.lcmp hx hb dX6_in_9 ?_
    refine lv_if_gt (tgt := 17) hx hb dX6_in_10 (by decide) (fun c_10 => ?_) (fun c_10 => ?_)
    · skip
      have c_10 : (0 < (lg_cmp xv xh)) := c_10
      rw [if_pos c_10] at hres
      refine lv_iconst (v := 0) hx hb dX6_in_17 (by decide) ?_
      subst hres
      exact kI_ret hE hS hP hD rfl rfl (Nat.le_of_ble_eq_true rfl) (Nat.le_of_ble_eq_true rfl) dX6_in_18
    · skip
      have c_10 : ¬ (0 < (lg_cmp xv xh)) := c_10
      rw [if_neg c_10] at hres
      refine lv_iconst (v := 1) hx hb dX6_in_13 (by decide) ?_
      refine lv_goto (tgt := 18) hx hb dX6_in_14 (by decide) ?_
      subst hres
      exact kI_ret hE hS hP hD rfl rfl (Nat.le_of_ble_eq_true rfl) (Nat.le_of_ble_eq_true rfl) dX6_in_18
theorem nar_b {v : Int32} (h : v = 0 ∨ v = 1) : narrow .boolean (.int v) = .int v := by
  rcases h with rfl | rfl <;> rfl
def cp_W (cs : Nat → ClassId) (a1 a2 n1 n2 : Nat) (fa ga : Nat → Int32) : va_W := [(a1, .inl (cs 0, n1, .inl fa)), (a2, .inl (cs 0, n2, .inl ga))]
set_option maxHeartbeats 4000000 in
set_option maxRecDepth 100000 in
theorem c_X6_copyState (l : Launch) (D : va_G) (cs : Nat → ClassId) (a1 a2 n1 n2 : Nat) (fa ga : Nat → Int32) (vf vt : Int32) (hf : 0 ≤ vf.toInt ∧ vf.toInt + 217 ≤ n1 ∧ n1 ≤ 4000) (ht : 0 ≤ vt.toInt ∧ vt.toInt + 217 ≤ n2 ∧ n2 ≤ 4000) : kV l yX6_copyState wsX6_copyState { frames := 0, cells := 0, slots := 0, locals := 0 } 0 0 D cs [.ref a1, .int vf, .ref a2, .int vt] (cp_W cs a1 a2 n1 n2 fa ga) (fun (_ : Unit) => True) (fun _ => cp_W cs a1 a2 n1 n2 fa (k_X6_copyState fa ga vf vt)) := by
  generalize hres : k_X6_copyState fa ga vf vt = res
  refine kV_of (cc := cX6_copyState) (maxL := 5) (ret := none) (by decide) rfl (Nat.le_of_ble_eq_true rfl) ?_
  intro p e s m below meth c A ls H locs hE hS hP hD hl
  obtain ⟨hx, hb, hr, hlocks, hml, hown, hts, hK, hA, hG, hnm⟩ := id hE
  have hown : s.vm.findClass RX6 = some m.cls := hown
  have hl : lv_has ls 5 [(0, .ref a1), (1, .int vf), (2, .ref a2), (3, .int vt)] := hl
  have L3 : ∀ (n : Nat) (k : Int32) (gw : Nat → Int32) (j : Nat) (hi : k = nI j) (hj : j + n = 218) (hj2 : j ≤ 217) (H : Heap) (locs : List Loc) (ls : Array Slot), va_S A s.heap H locs → va_P D vwCl (cp_W cs a1 a2 n1 n2 fa gw) H → va_D A (cp_W cs a1 a2 n1 n2 fa gw) → lv_has ls 5 [(0, .ref a1), (1, .int vf), (2, .ref a2), (3, .int vt), (4, .int k)] → k_X6_copyState_L3 fa ga vf vt n k gw = res → W p l e { frames := 0, cells := 0, slots := 0, locals := 0 } s m ([.ref a1, .int vf, .ref a2, .int vt]).toArray below meth c H locs 0 0 (MQ below (va_Qv (fun (_ : Unit) => True) (kB D (fun _ => cp_W cs a1 a2 n1 n2 fa res) A) A) ([.ref a1, .int vf, .ref a2, .int vt]).toArray s 0 0 A) (F0 m 3 ls []) := by
    intro n
    induction n with
    | zero =>
      intro k gw j hi hj hj2 H locs ls hS hP hD hl hres
      exact absurd hj2 (by omega)
    | succ n ih =>
      intro k gw j hi hj hj2 H locs ls hS hP hD hl hres
      unfold k_X6_copyState_L3 at hres
      refine lv_iload hx hb dX6_copyState_3 (lv_at hl 4 rfl) ?_
      refine lv_sipush (v := 217) hx hb dX6_copyState_5 (by decide) ?_
      refine lv_icmp_ge (tgt := 29) hx hb dX6_copyState_8 (by decide) (fun c_8 => ?_) (fun c_8 => ?_)
      · skip
        have c_8 : (217 ≤ k) := c_8
        rw [if_pos c_8] at hres
        subst hres
        exact kV_ret () hE hS hP hD trivial (Nat.le_of_ble_eq_true rfl) (Nat.le_of_ble_eq_true rfl) dX6_copyState_29
      · skip
        have c_8 : ¬ (217 ≤ k) := c_8
        rw [if_neg c_8] at hres
        refine lv_aload_n hx hb dX6_copyState_11 rfl (lv_at hl 2 rfl) ?_
        refine lv_iload_n hx hb dX6_copyState_12 rfl (lv_at hl 3 rfl) ?_
        refine lv_iload hx hb dX6_copyState_13 (lv_at hl 4 rfl) ?_
        refine lv_iadd hx hb dX6_copyState_15 ?_
        refine lv_aload_n hx hb dX6_copyState_16 rfl (lv_at hl 0 rfl) ?_
        refine lv_iload_n hx hb dX6_copyState_17 rfl (lv_at hl 1 rfl) ?_
        refine lv_iload hx hb dX6_copyState_18 (lv_at hl 4 rfl) ?_
        refine lv_iadd hx hb dX6_copyState_20 ?_
        refine k_iald hx hb hK hP 0 0 (v := (fa ((vf + k).toNatClampNeg))) rfl rfl (add_in rfl (by have := (nI_b hi (by omega) hj2).1; omega) (by have := nI_lts (N := 217) hi (by omega) (by decide) c_8; rw [hi, nI_toInt (by omega)]; omega) (by omega)) rfl dX6_copyState_21 ?_
        refine k_iast hx hb hK hP hD hS 1 0 (k := (vt + k).toNatClampNeg) rfl rfl (add_in rfl (by have := (nI_b hi (by omega) hj2).1; omega) (by have := nI_lts (N := 217) hi (by omega) (by decide) c_8; rw [hi, nI_toInt (by omega)]; omega) (by omega)) rfl dX6_copyState_22 (fun H locs hP hD hS => ?_)
        have hP : va_P D vwCl (cp_W cs a1 a2 n1 n2 fa (va_up gw ((vt + k).toNatClampNeg) (fa ((vf + k).toNatClampNeg)))) H := hP
        have hD : va_D A (cp_W cs a1 a2 n1 n2 fa (va_up gw ((vt + k).toNatClampNeg) (fa ((vf + k).toNatClampNeg)))) := hD
        refine lv_iinc (v := (k + 1)) (lv' := [(4, .int (k + 1)), (0, .ref a1), (1, .int vf), (2, .ref a2), (3, .int vt)]) hx hb dX6_copyState_23 hl (k := 4) rfl (by rfl) (by decide) rfl (fun ls hl => ?_)
        refine lv_goto (tgt := 3) hx hb dX6_copyState_26 (by decide) ?_
        exact ih (k + 1) (va_up gw ((vt + k).toNatClampNeg) (fa ((vf + k).toNatClampNeg))) (j + 1) (by rw [hi, nI_1]) (by omega) (nI_lts hi (by omega) (by decide) c_8) _ _ _ hS hP hD (lv_sub hl [1, 2, 3, 4, 0] rfl) hres
  unfold k_X6_copyState at hres
  refine lv_iconst (v := 0) hx hb dX6_copyState_0 (by decide) ?_
  refine lv_istore (lv' := [(4, .int 0), (0, .ref a1), (1, .int vf), (2, .ref a2), (3, .int vt)]) hx hb dX6_copyState_1 hl (by decide) rfl (fun ls hl => ?_)
  exact L3 218 0 ga 0 (nI_0.symm) (rfl) (Nat.zero_le _) _ _ _ hS hP hD (lv_sub hl [1, 2, 3, 4, 0] rfl) hres
set_option maxHeartbeats 4000000 in
set_option maxRecDepth 100000 in
theorem c_X6_clear (l : Launch) (D : va_G) (cs : Nat → ClassId) (sa : Nat) (sx : Nat → Int32)  : kV l yX6_clear wsX6_clear { frames := 0, cells := 0, slots := 0, locals := 0 } 0 0 D cs [.ref sa] (st_W cs sa sx) (fun (_ : Unit) => True) (fun _ => st_W cs sa (k_X6_clear sx)) := by
  generalize hres : k_X6_clear sx = res
  refine kV_of (cc := cX6_clear) (maxL := 2) (ret := none) (by decide) rfl (Nat.le_of_ble_eq_true rfl) ?_
  intro p e s m below meth c A ls H locs hE hS hP hD hl
  obtain ⟨hx, hb, hr, hlocks, hml, hown, hts, hK, hA, hG, hnm⟩ := id hE
  have hown : s.vm.findClass RX6 = some m.cls := hown
  have hl : lv_has ls 2 [(0, .ref sa)] := hl
  have L2 : ∀ (n : Nat) (k : Int32) (xw : Nat → Int32) (j : Nat) (hi : k = nI j) (hj : j + n = 218) (hj2 : j ≤ 217) (H : Heap) (locs : List Loc) (ls : Array Slot), va_S A s.heap H locs → va_P D vwCl (st_W cs sa xw) H → va_D A (st_W cs sa xw) → lv_has ls 2 [(0, .ref sa), (1, .int k)] → k_X6_clear_L2 sx n k xw = res → W p l e { frames := 0, cells := 0, slots := 0, locals := 0 } s m ([.ref sa]).toArray below meth c H locs 0 0 (MQ below (va_Qv (fun (_ : Unit) => True) (kB D (fun _ => st_W cs sa res) A) A) ([.ref sa]).toArray s 0 0 A) (F0 m 2 ls []) := by
    intro n
    induction n with
    | zero =>
      intro k xw j hi hj hj2 H locs ls hS hP hD hl hres
      exact absurd hj2 (by omega)
    | succ n ih =>
      intro k xw j hi hj hj2 H locs ls hS hP hD hl hres
      unfold k_X6_clear_L2 at hres
      refine lv_iload_n hx hb dX6_clear_2 rfl (lv_at hl 1 rfl) ?_
      refine lv_sipush (v := 217) hx hb dX6_clear_3 (by decide) ?_
      refine lv_icmp_ge (tgt := 19) hx hb dX6_clear_6 (by decide) (fun c_6 => ?_) (fun c_6 => ?_)
      · skip
        have c_6 : (217 ≤ k) := c_6
        rw [if_pos c_6] at hres
        refine lv_aload_n hx hb dX6_clear_19 rfl (lv_at hl 0 rfl) ?_
        refine lv_bipush (v := 12) hx hb dX6_clear_20 (by decide) ?_
        refine lv_iconst (v := 1) hx hb dX6_clear_22 (by decide) ?_
        refine k_iast hx hb hK hP hD hS 0 0 (k := 12) rfl rfl (k_inl rfl) rfl dX6_clear_23 (fun H locs hP hD hS => ?_)
        have hP : va_P D vwCl (st_W cs sa (va_up xw 12 1)) H := hP
        have hD : va_D A (st_W cs sa (va_up xw 12 1)) := hD
        refine lv_aload_n hx hb dX6_clear_24 rfl (lv_at hl 0 rfl) ?_
        refine lv_bipush (v := 14) hx hb dX6_clear_25 (by decide) ?_
        refine lv_bipush (v := 20) hx hb dX6_clear_27 (by decide) ?_
        refine k_iast hx hb hK hP hD hS 0 0 (k := 14) rfl rfl (k_inl rfl) rfl dX6_clear_29 (fun H locs hP hD hS => ?_)
        have hP : va_P D vwCl (st_W cs sa (va_up (va_up xw 12 1) 14 20)) H := hP
        have hD : va_D A (st_W cs sa (va_up (va_up xw 12 1) 14 20)) := hD
        subst hres
        exact kV_ret () hE hS hP hD trivial (Nat.le_of_ble_eq_true rfl) (Nat.le_of_ble_eq_true rfl) dX6_clear_30
      · skip
        have c_6 : ¬ (217 ≤ k) := c_6
        rw [if_neg c_6] at hres
        refine lv_aload_n hx hb dX6_clear_9 rfl (lv_at hl 0 rfl) ?_
        refine lv_iload_n hx hb dX6_clear_10 rfl (lv_at hl 1 rfl) ?_
        refine lv_iconst (v := 0) hx hb dX6_clear_11 (by decide) ?_
        refine k_iast hx hb hK hP hD hS 0 0 (k := k.toNatClampNeg) rfl rfl (by have := nI_lts (N := 217) hi (by omega) (by decide) c_6; rw [hi]; exact vp_in_nI (by omega) (by decide)) rfl dX6_clear_12 (fun H locs hP hD hS => ?_)
        have hP : va_P D vwCl (st_W cs sa (va_up xw k.toNatClampNeg 0)) H := hP
        have hD : va_D A (st_W cs sa (va_up xw k.toNatClampNeg 0)) := hD
        refine lv_iinc (v := (k + 1)) (lv' := [(1, .int (k + 1)), (0, .ref sa)]) hx hb dX6_clear_13 hl (k := 1) rfl (by rfl) (by decide) rfl (fun ls hl => ?_)
        refine lv_goto (tgt := 2) hx hb dX6_clear_16 (by decide) ?_
        exact ih (k + 1) (va_up xw k.toNatClampNeg 0) (j + 1) (by rw [hi, nI_1]) (by omega) (nI_lts hi (by omega) (by decide) c_6) _ _ _ hS hP hD (lv_sub hl [1, 0] rfl) hres
  unfold k_X6_clear at hres
  refine lv_iconst (v := 0) hx hb dX6_clear_0 (by decide) ?_
  refine lv_istore_n (lv' := [(1, .int 0), (0, .ref sa)]) hx hb dX6_clear_1 rfl hl (by decide) rfl (fun ls hl => ?_)
  exact L2 218 0 sx 0 (nI_0.symm) (rfl) (Nat.zero_le _) _ _ _ hS hP hD (lv_sub hl [1, 0] rfl) hres
set_option maxHeartbeats 4000000 in
set_option maxRecDepth 100000 in
theorem c_X6_peg (l : Launch) (D : va_G) (cs : Nat → ClassId) (sa : Nat) (sx : Nat → Int32) (vk : Int32) (vw : Int32) (hk : 0 ≤ vk.toInt ∧ vk.toInt ≤ 30) (hw : 0 ≤ vw.toInt ∧ vw.toInt ≤ 3) : kI l yX6_peg wsX6_peg { frames := 0, cells := 0, slots := 0, locals := 0 } 0 0 D cs [.ref sa, .int vk, .int vw] (st_W cs sa sx) (k_X6_peg sx vk vw) (st_W cs sa sx) := by
  generalize hres : k_X6_peg sx vk vw = res
  refine kI_of (cc := cX6_peg) (maxL := 3) (ret := (some .int)) (by decide) rfl (Nat.le_of_ble_eq_true rfl) ?_
  intro p e s m below meth c A ls H locs hE hS hP hD hl
  obtain ⟨hx, hb, hr, hlocks, hml, hown, hts, hK, hA, hG, hnm⟩ := id hE
  have hown : s.vm.findClass RX6 = some m.cls := hown
  have hl : lv_has ls 3 [(0, .ref sa), (1, .int vk), (2, .int vw)] := hl
  unfold k_X6_peg at hres
  refine lv_aload_n hx hb dX6_peg_0 rfl (lv_at hl 0 rfl) ?_
  refine lv_bipush (v := 37) hx hb dX6_peg_1 (by decide) ?_
  refine lv_iconst (v := 4) hx hb dX6_peg_3 (by decide) ?_
  refine lv_iload_n hx hb dX6_peg_4 rfl (lv_at hl 1 rfl) ?_
  refine lv_imul hx hb dX6_peg_5 ?_
  refine lv_iadd hx hb dX6_peg_6 ?_
  refine lv_iload_n hx hb dX6_peg_7 rfl (lv_at hl 2 rfl) ?_
  refine lv_iadd hx hb dX6_peg_8 ?_
  refine k_iald hx hb hK hP 0 0 (v := (sx (((37 + (4 * vk)) + vw).toNatClampNeg))) rfl rfl (peg_in hk hw) rfl dX6_peg_9 ?_
  subst hres
  exact kI_ret hE hS hP hD rfl rfl (Nat.le_of_ble_eq_true rfl) (Nat.le_of_ble_eq_true rfl) dX6_peg_10
set_option maxHeartbeats 4000000 in
set_option maxRecDepth 100000 in
theorem c_X6_order (l : Launch) (D : va_G) (cs : Nat → ClassId) (sa : Nat) (sx : Nat → Int32) (vk : Int32) (vw : Int32) (hk : 0 ≤ vk.toInt ∧ vk.toInt ≤ 11) (hw : 0 ≤ vw.toInt ∧ vw.toInt ≤ 4) : kI l yX6_order wsX6_order { frames := 0, cells := 0, slots := 0, locals := 0 } 0 0 D cs [.ref sa, .int vk, .int vw] (st_W cs sa sx) (k_X6_order sx vk vw) (st_W cs sa sx) := by
  generalize hres : k_X6_order sx vk vw = res
  refine kI_of (cc := cX6_order) (maxL := 3) (ret := (some .int)) (by decide) rfl (Nat.le_of_ble_eq_true rfl) ?_
  intro p e s m below meth c A ls H locs hE hS hP hD hl
  obtain ⟨hx, hb, hr, hlocks, hml, hown, hts, hK, hA, hG, hnm⟩ := id hE
  have hown : s.vm.findClass RX6 = some m.cls := hown
  have hl : lv_has ls 3 [(0, .ref sa), (1, .int vk), (2, .int vw)] := hl
  unfold k_X6_order at hres
  refine lv_aload_n hx hb dX6_order_0 rfl (lv_at hl 0 rfl) ?_
  refine lv_sipush (v := 157) hx hb dX6_order_1 (by decide) ?_
  refine lv_iconst (v := 5) hx hb dX6_order_4 (by decide) ?_
  refine lv_iload_n hx hb dX6_order_5 rfl (lv_at hl 1 rfl) ?_
  refine lv_imul hx hb dX6_order_6 ?_
  refine lv_iadd hx hb dX6_order_7 ?_
  refine lv_iload_n hx hb dX6_order_8 rfl (lv_at hl 2 rfl) ?_
  refine lv_iadd hx hb dX6_order_9 ?_
  refine k_iald hx hb hK hP 0 0 (v := (sx (((157 + (5 * vk)) + vw).toNatClampNeg))) rfl rfl (ord_in hk hw) rfl dX6_order_10 ?_
  subst hres
  exact kI_ret hE hS hP hD rfl rfl (Nat.le_of_ble_eq_true rfl) (Nat.le_of_ble_eq_true rfl) dX6_order_11
set_option maxHeartbeats 4000000 in
set_option maxRecDepth 100000 in
theorem c_X6_isPipe (l : Launch) (D : va_G) (cs : Nat → ClassId) (vp : Int32) : kI l yX6_isPipe wsX6_isPipe { frames := 1, cells := 0, slots := 0, locals := 25 } 0 0 D cs [.int vp] ([]) (k_X6_isPipe vp) ([]) := by
  generalize hres : k_X6_isPipe vp = res
  refine kI_of (cc := cX6_isPipe) (maxL := 1) (ret := (some .boolean)) (by decide) rfl (Nat.le_of_ble_eq_true rfl) ?_
  intro p e s m below meth c A ls H locs hE hS hP hD hl
  obtain ⟨hx, hb, hr, hlocks, hml, hown, hts, hK, hA, hG, hnm⟩ := id hE
  have hown : s.vm.findClass RX6 = some m.cls := hown
  have hl : lv_has ls 1 [(0, .int vp)] := hl
  have lk_0 := hts (.constantLong RX6 37 5) (by decide +kernel)
  unfold k_X6_isPipe at hres
  refine lv_iload_n hx hb dX6_isPipe_0 rfl (lv_at hl 0 rfl) ?_
  refine lv_i2l hx hb dX6_isPipe_1 rfl ?_
  refine lv_lconst (v := 0) hx hb dX6_isPipe_2 (by decide) ?_
  refine lv_ldc2 (v := 5) hx hb hown lk_0 dX6_isPipe_3 ?_
  have hP : va_P D vwCl ([] ++ []) H := hP
  have hD : va_D A ([] ++ []) := hD
  have hc_6 := c_X6_in l D cs (vp.toInt64) 0 5
  refine kI_call (wc := []) (wr := []) (w1 := []) (r := (k_X6_in (vp.toInt64) 0 5)) hE hP hD hS (k_rS (rest := []) (As := [.long (vp.toInt64), .long 0, .long 5]) hE rfl (hc_6 H.size) (va_cwS 3 hts gX6_isPipe_X6_in rfl rfl rfl (by decide +kernel) ⟨Nat.le_of_ble_eq_true rfl, Nat.le_of_ble_eq_true rfl⟩) hP hD hS rfl hl rfl (Nat.le_of_ble_eq_true rfl) ⟨Nat.le_of_ble_eq_true rfl, Nat.le_of_ble_eq_true rfl⟩ dX6_isPipe_6) (fun H locs hP hD hS => ?_)
  have hP : va_P D vwCl ([]) H := hP
  have hD : va_D A ([]) := hD
  subst hres
  exact kI_ret hE hS hP hD (nar_b in01) rfl (Nat.le_of_ble_eq_true rfl) (Nat.le_of_ble_eq_true rfl) dX6_isPipe_9
set_option maxHeartbeats 4000000 in
set_option maxRecDepth 100000 in
theorem c_X6_isBar (l : Launch) (D : va_G) (cs : Nat → ClassId) (vb : Int32) : kI l yX6_isBar wsX6_isBar { frames := 1, cells := 0, slots := 0, locals := 25 } 0 0 D cs [.int vb] ([]) (k_X6_isBar vb) ([]) := by
  generalize hres : k_X6_isBar vb = res
  refine kI_of (cc := cX6_isBar) (maxL := 1) (ret := (some .boolean)) (by decide) rfl (Nat.le_of_ble_eq_true rfl) ?_
  intro p e s m below meth c A ls H locs hE hS hP hD hl
  obtain ⟨hx, hb, hr, hlocks, hml, hown, hts, hK, hA, hG, hnm⟩ := id hE
  have hown : s.vm.findClass RX6 = some m.cls := hown
  have hl : lv_has ls 1 [(0, .int vb)] := hl
  have lk_0 := hts (.constantLong RX6 43 23) (by decide +kernel)
  unfold k_X6_isBar at hres
  refine lv_iload_n hx hb dX6_isBar_0 rfl (lv_at hl 0 rfl) ?_
  refine lv_i2l hx hb dX6_isBar_1 rfl ?_
  refine lv_lconst (v := 0) hx hb dX6_isBar_2 (by decide) ?_
  refine lv_ldc2 (v := 23) hx hb hown lk_0 dX6_isBar_3 ?_
  have hP : va_P D vwCl ([] ++ []) H := hP
  have hD : va_D A ([] ++ []) := hD
  have hc_6 := c_X6_in l D cs (vb.toInt64) 0 23
  refine kI_call (wc := []) (wr := []) (w1 := []) (r := (k_X6_in (vb.toInt64) 0 23)) hE hP hD hS (k_rS (rest := []) (As := [.long (vb.toInt64), .long 0, .long 23]) hE rfl (hc_6 H.size) (va_cwS 3 hts gX6_isBar_X6_in rfl rfl rfl (by decide +kernel) ⟨Nat.le_of_ble_eq_true rfl, Nat.le_of_ble_eq_true rfl⟩) hP hD hS rfl hl rfl (Nat.le_of_ble_eq_true rfl) ⟨Nat.le_of_ble_eq_true rfl, Nat.le_of_ble_eq_true rfl⟩ dX6_isBar_6) (fun H locs hP hD hS => ?_)
  have hP : va_P D vwCl ([]) H := hP
  have hD : va_D A ([]) := hD
  subst hres
  exact kI_ret hE hS hP hD (nar_b in01) rfl (Nat.le_of_ble_eq_true rfl) (Nat.le_of_ble_eq_true rfl) dX6_isBar_9
set_option maxHeartbeats 4000000 in
set_option maxRecDepth 100000 in
theorem c_X6_isPeg (l : Launch) (D : va_G) (cs : Nat → ClassId) (sa : Nat) (sx : Nat → Int32) (vk : Int32) : kI l yX6_isPeg wsX6_isPeg { frames := 1, cells := 0, slots := 0, locals := 25 } 0 0 D cs [.ref sa, .int vk] (st_W cs sa sx) (k_X6_isPeg sx vk) (st_W cs sa sx) := by
  generalize hres : k_X6_isPeg sx vk = res
  refine kI_of (cc := cX6_isPeg) (maxL := 2) (ret := (some .boolean)) (by decide) rfl (Nat.le_of_ble_eq_true rfl) ?_
  intro p e s m below meth c A ls H locs hE hS hP hD hl
  obtain ⟨hx, hb, hr, hlocks, hml, hown, hts, hK, hA, hG, hnm⟩ := id hE
  have hown : s.vm.findClass RX6 = some m.cls := hown
  have hl : lv_has ls 2 [(0, .ref sa), (1, .int vk)] := hl
  unfold k_X6_isPeg at hres
  refine lv_iload_n hx hb dX6_isPeg_0 rfl (lv_at hl 1 rfl) ?_
  refine lv_i2l hx hb dX6_isPeg_1 rfl ?_
  refine lv_lconst (v := 0) hx hb dX6_isPeg_2 (by decide) ?_
  refine lv_aload_n hx hb dX6_isPeg_3 rfl (lv_at hl 0 rfl) ?_
  refine lv_iconst (v := 0) hx hb dX6_isPeg_4 (by decide) ?_
  refine k_iald hx hb hK hP 0 0 (v := (sx 0)) rfl rfl (k_inl rfl) rfl dX6_isPeg_5 ?_
  refine lv_iconst (v := 1) hx hb dX6_isPeg_6 (by decide) ?_
  refine lv_isub hx hb dX6_isPeg_7 ?_
  refine lv_i2l hx hb dX6_isPeg_8 rfl ?_
  have hP : va_P D vwCl ([] ++ (st_W cs sa sx)) H := hP
  have hD : va_D A ([] ++ (st_W cs sa sx)) := hD
  have hc_9 := c_X6_in l D cs (vk.toInt64) 0 (((sx 0) - 1).toInt64)
  refine kI_call (wc := []) (wr := (st_W cs sa sx)) (w1 := []) (r := (k_X6_in (vk.toInt64) 0 (((sx 0) - 1).toInt64))) hE hP hD hS (k_rS (rest := []) (As := [.long (vk.toInt64), .long 0, .long (((sx 0) - 1).toInt64)]) hE rfl (hc_9 H.size) (va_cwS 3 hts gX6_isPeg_X6_in rfl rfl rfl (by decide +kernel) ⟨Nat.le_of_ble_eq_true rfl, Nat.le_of_ble_eq_true rfl⟩) hP hD hS rfl hl rfl (Nat.le_of_ble_eq_true rfl) ⟨Nat.le_of_ble_eq_true rfl, Nat.le_of_ble_eq_true rfl⟩ dX6_isPeg_9) (fun H locs hP hD hS => ?_)
  have hP : va_P D vwCl (st_W cs sa sx) H := hP
  have hD : va_D A (st_W cs sa sx) := hD
  subst hres
  exact kI_ret hE hS hP hD (nar_b in01) rfl (Nat.le_of_ble_eq_true rfl) (Nat.le_of_ble_eq_true rfl) dX6_isPeg_12
set_option maxHeartbeats 4000000 in
set_option maxRecDepth 100000 in
theorem c_X6_isOrder (l : Launch) (D : va_G) (cs : Nat → ClassId) (sa : Nat) (sx : Nat → Int32) (vk : Int32) : kI l yX6_isOrder wsX6_isOrder { frames := 1, cells := 0, slots := 0, locals := 25 } 0 0 D cs [.ref sa, .int vk] (st_W cs sa sx) (k_X6_isOrder sx vk) (st_W cs sa sx) := by
  generalize hres : k_X6_isOrder sx vk = res
  refine kI_of (cc := cX6_isOrder) (maxL := 2) (ret := (some .boolean)) (by decide) rfl (Nat.le_of_ble_eq_true rfl) ?_
  intro p e s m below meth c A ls H locs hE hS hP hD hl
  obtain ⟨hx, hb, hr, hlocks, hml, hown, hts, hK, hA, hG, hnm⟩ := id hE
  have hown : s.vm.findClass RX6 = some m.cls := hown
  have hl : lv_has ls 2 [(0, .ref sa), (1, .int vk)] := hl
  unfold k_X6_isOrder at hres
  refine lv_iload_n hx hb dX6_isOrder_0 rfl (lv_at hl 1 rfl) ?_
  refine lv_i2l hx hb dX6_isOrder_1 rfl ?_
  refine lv_lconst (v := 0) hx hb dX6_isOrder_2 (by decide) ?_
  refine lv_aload_n hx hb dX6_isOrder_3 rfl (lv_at hl 0 rfl) ?_
  refine lv_iconst (v := 1) hx hb dX6_isOrder_4 (by decide) ?_
  refine k_iald hx hb hK hP 0 0 (v := (sx 1)) rfl rfl (k_inl rfl) rfl dX6_isOrder_5 ?_
  refine lv_iconst (v := 1) hx hb dX6_isOrder_6 (by decide) ?_
  refine lv_isub hx hb dX6_isOrder_7 ?_
  refine lv_i2l hx hb dX6_isOrder_8 rfl ?_
  have hP : va_P D vwCl ([] ++ (st_W cs sa sx)) H := hP
  have hD : va_D A ([] ++ (st_W cs sa sx)) := hD
  have hc_9 := c_X6_in l D cs (vk.toInt64) 0 (((sx 1) - 1).toInt64)
  refine kI_call (wc := []) (wr := (st_W cs sa sx)) (w1 := []) (r := (k_X6_in (vk.toInt64) 0 (((sx 1) - 1).toInt64))) hE hP hD hS (k_rS (rest := []) (As := [.long (vk.toInt64), .long 0, .long (((sx 1) - 1).toInt64)]) hE rfl (hc_9 H.size) (va_cwS 3 hts gX6_isOrder_X6_in rfl rfl rfl (by decide +kernel) ⟨Nat.le_of_ble_eq_true rfl, Nat.le_of_ble_eq_true rfl⟩) hP hD hS rfl hl rfl (Nat.le_of_ble_eq_true rfl) ⟨Nat.le_of_ble_eq_true rfl, Nat.le_of_ble_eq_true rfl⟩ dX6_isOrder_9) (fun H locs hP hD hS => ?_)
  have hP : va_P D vwCl (st_W cs sa sx) H := hP
  have hD : va_D A (st_W cs sa sx) := hD
  subst hres
  exact kI_ret hE hS hP hD (nar_b in01) rfl (Nat.le_of_ble_eq_true rfl) (Nat.le_of_ble_eq_true rfl) dX6_isOrder_12
set_option maxHeartbeats 4000000 in
set_option maxRecDepth 100000 in
theorem c_X6_isSetting (l : Launch) (D : va_G) (cs : Nat → ClassId) (vw : Int32) (vv : Int32) : kI l yX6_isSetting wsX6_isSetting { frames := 1, cells := 0, slots := 0, locals := 25 } 0 0 D cs [.int vw, .int vv] ([]) (k_X6_isSetting vw vv) ([]) := by
  generalize hres : k_X6_isSetting vw vv = res
  refine kI_of (cc := cX6_isSetting) (maxL := 2) (ret := (some .boolean)) (by decide) rfl (Nat.le_of_ble_eq_true rfl) ?_
  intro p e s m below meth c A ls H locs hE hS hP hD hl
  obtain ⟨hx, hb, hr, hlocks, hml, hown, hts, hK, hA, hG, hnm⟩ := id hE
  have hown : s.vm.findClass RX6 = some m.cls := hown
  have hl : lv_has ls 2 [(0, .int vw), (1, .int vv)] := hl
  have lk_0 := hts (.constantLong RX6 49 60) (by decide +kernel)
  have lk_1 := hts (.constantLong RX6 47 9) (by decide +kernel)
  have lk_2 := hts (.constantLong RX6 45 3) (by decide +kernel)
  unfold k_X6_isSetting at hres
  refine lv_iload_n hx hb dX6_isSetting_0 rfl (lv_at hl 0 rfl) ?_
  refine lv_if_ne (tgt := 16) hx hb dX6_isSetting_1 (by decide) (fun c_1 => ?_) (fun c_1 => ?_)
  · skip
    have c_1 : ¬ (vw = 0) := c_1
    rw [if_neg c_1] at hres
    refine lv_iload_n hx hb dX6_isSetting_16 rfl (lv_at hl 0 rfl) ?_
    refine lv_iconst (v := 1) hx hb dX6_isSetting_17 (by decide) ?_
    refine lv_icmp_ne (tgt := 33) hx hb dX6_isSetting_18 (by decide) (fun c_18 => ?_) (fun c_18 => ?_)
    · skip
      have c_18 : ¬ (vw = 1) := c_18
      rw [if_neg c_18] at hres
      refine lv_iload_n hx hb dX6_isSetting_33 rfl (lv_at hl 0 rfl) ?_
      refine lv_iconst (v := 2) hx hb dX6_isSetting_34 (by decide) ?_
      refine lv_icmp_ne (tgt := 54) hx hb dX6_isSetting_35 (by decide) (fun c_35 => ?_) (fun c_35 => ?_)
      · skip
        have c_35 : ¬ (vw = 2) := c_35
        rw [if_neg c_35] at hres
        refine lv_iconst (v := 0) hx hb dX6_isSetting_54 (by decide) ?_
        subst hres
        exact kI_ret hE hS hP hD rfl rfl (Nat.le_of_ble_eq_true rfl) (Nat.le_of_ble_eq_true rfl) dX6_isSetting_55
      · skip
        have c_35 : (vw = 2) := c_35
        rw [if_pos c_35] at hres
        refine lv_iload_n hx hb dX6_isSetting_38 rfl (lv_at hl 1 rfl) ?_
        refine lv_i2l hx hb dX6_isSetting_39 rfl ?_
        refine lv_lconst (v := 0) hx hb dX6_isSetting_40 (by decide) ?_
        refine lv_ldc2 (v := 60) hx hb hown lk_0 dX6_isSetting_41 ?_
        have hP : va_P D vwCl ([] ++ []) H := hP
        have hD : va_D A ([] ++ []) := hD
        have hc_44 := c_X6_in l D cs (vv.toInt64) 0 60
        refine kI_call (wc := []) (wr := []) (w1 := []) (r := (k_X6_in (vv.toInt64) 0 60)) hE hP hD hS (k_rS (rest := []) (As := [.long (vv.toInt64), .long 0, .long 60]) hE rfl (hc_44 H.size) (va_cwS 3 hts gX6_isSetting_X6_in rfl rfl rfl (by decide +kernel) ⟨Nat.le_of_ble_eq_true rfl, Nat.le_of_ble_eq_true rfl⟩) hP hD hS rfl hl rfl (Nat.le_of_ble_eq_true rfl) ⟨Nat.le_of_ble_eq_true rfl, Nat.le_of_ble_eq_true rfl⟩ dX6_isSetting_44) (fun H locs hP hD hS => ?_)
        have hP : va_P D vwCl ([]) H := hP
        have hD : va_D A ([]) := hD
        refine lv_if_eq (tgt := 54) hx hb dX6_isSetting_47 (by decide) (fun c_47 => ?_) (fun c_47 => ?_)
        · skip
          have c_47 : ((k_X6_in (vv.toInt64) 0 60) = 0) := c_47
          rw [if_pos c_47] at hres
          refine lv_iconst (v := 0) hx hb dX6_isSetting_54 (by decide) ?_
          subst hres
          exact kI_ret hE hS hP hD rfl rfl (Nat.le_of_ble_eq_true rfl) (Nat.le_of_ble_eq_true rfl) dX6_isSetting_55
        · skip
          have c_47 : ¬ ((k_X6_in (vv.toInt64) 0 60) = 0) := c_47
          rw [if_neg c_47] at hres
          refine lv_iconst (v := 1) hx hb dX6_isSetting_50 (by decide) ?_
          refine lv_goto (tgt := 55) hx hb dX6_isSetting_51 (by decide) ?_
          subst hres
          exact kI_ret hE hS hP hD rfl rfl (Nat.le_of_ble_eq_true rfl) (Nat.le_of_ble_eq_true rfl) dX6_isSetting_55
    · skip
      have c_18 : (vw = 1) := c_18
      rw [if_pos c_18] at hres
      refine lv_iload_n hx hb dX6_isSetting_21 rfl (lv_at hl 1 rfl) ?_
      refine lv_i2l hx hb dX6_isSetting_22 rfl ?_
      refine lv_lconst (v := 0) hx hb dX6_isSetting_23 (by decide) ?_
      refine lv_ldc2 (v := 9) hx hb hown lk_1 dX6_isSetting_24 ?_
      have hP : va_P D vwCl ([] ++ []) H := hP
      have hD : va_D A ([] ++ []) := hD
      have hc_27 := c_X6_in l D cs (vv.toInt64) 0 9
      refine kI_call (wc := []) (wr := []) (w1 := []) (r := (k_X6_in (vv.toInt64) 0 9)) hE hP hD hS (k_rS (rest := []) (As := [.long (vv.toInt64), .long 0, .long 9]) hE rfl (hc_27 H.size) (va_cwS 3 hts gX6_isSetting_X6_in rfl rfl rfl (by decide +kernel) ⟨Nat.le_of_ble_eq_true rfl, Nat.le_of_ble_eq_true rfl⟩) hP hD hS rfl hl rfl (Nat.le_of_ble_eq_true rfl) ⟨Nat.le_of_ble_eq_true rfl, Nat.le_of_ble_eq_true rfl⟩ dX6_isSetting_27) (fun H locs hP hD hS => ?_)
      have hP : va_P D vwCl ([]) H := hP
      have hD : va_D A ([]) := hD
      refine lv_if_ne (tgt := 50) hx hb dX6_isSetting_30 (by decide) (fun c_30 => ?_) (fun c_30 => ?_)
      · skip
        have c_30 : ¬ ((k_X6_in (vv.toInt64) 0 9) = 0) := c_30
        rw [if_neg c_30] at hres
        refine lv_iconst (v := 1) hx hb dX6_isSetting_50 (by decide) ?_
        refine lv_goto (tgt := 55) hx hb dX6_isSetting_51 (by decide) ?_
        subst hres
        exact kI_ret hE hS hP hD rfl rfl (Nat.le_of_ble_eq_true rfl) (Nat.le_of_ble_eq_true rfl) dX6_isSetting_55
      · skip
        have c_30 : ((k_X6_in (vv.toInt64) 0 9) = 0) := c_30
        rw [if_pos c_30] at hres
        refine lv_iload_n hx hb dX6_isSetting_33 rfl (lv_at hl 0 rfl) ?_
        refine lv_iconst (v := 2) hx hb dX6_isSetting_34 (by decide) ?_
        refine lv_icmp_ne (tgt := 54) hx hb dX6_isSetting_35 (by decide) (fun c_35 => ?_) (fun c_35 => ?_)
        · skip
          have c_35 : ¬ (vw = 2) := c_35
          rw [if_neg c_35] at hres
          refine lv_iconst (v := 0) hx hb dX6_isSetting_54 (by decide) ?_
          subst hres
          exact kI_ret hE hS hP hD rfl rfl (Nat.le_of_ble_eq_true rfl) (Nat.le_of_ble_eq_true rfl) dX6_isSetting_55
        · skip
          have c_35 : (vw = 2) := c_35
          rw [if_pos c_35] at hres
          refine lv_iload_n hx hb dX6_isSetting_38 rfl (lv_at hl 1 rfl) ?_
          refine lv_i2l hx hb dX6_isSetting_39 rfl ?_
          refine lv_lconst (v := 0) hx hb dX6_isSetting_40 (by decide) ?_
          refine lv_ldc2 (v := 60) hx hb hown lk_0 dX6_isSetting_41 ?_
          have hP : va_P D vwCl ([] ++ []) H := hP
          have hD : va_D A ([] ++ []) := hD
          have hc_44 := c_X6_in l D cs (vv.toInt64) 0 60
          refine kI_call (wc := []) (wr := []) (w1 := []) (r := (k_X6_in (vv.toInt64) 0 60)) hE hP hD hS (k_rS (rest := []) (As := [.long (vv.toInt64), .long 0, .long 60]) hE rfl (hc_44 H.size) (va_cwS 3 hts gX6_isSetting_X6_in rfl rfl rfl (by decide +kernel) ⟨Nat.le_of_ble_eq_true rfl, Nat.le_of_ble_eq_true rfl⟩) hP hD hS rfl hl rfl (Nat.le_of_ble_eq_true rfl) ⟨Nat.le_of_ble_eq_true rfl, Nat.le_of_ble_eq_true rfl⟩ dX6_isSetting_44) (fun H locs hP hD hS => ?_)
          have hP : va_P D vwCl ([]) H := hP
          have hD : va_D A ([]) := hD
          refine lv_if_eq (tgt := 54) hx hb dX6_isSetting_47 (by decide) (fun c_47 => ?_) (fun c_47 => ?_)
          · skip
            have c_47 : ((k_X6_in (vv.toInt64) 0 60) = 0) := c_47
            rw [if_pos c_47] at hres
            refine lv_iconst (v := 0) hx hb dX6_isSetting_54 (by decide) ?_
            subst hres
            exact kI_ret hE hS hP hD rfl rfl (Nat.le_of_ble_eq_true rfl) (Nat.le_of_ble_eq_true rfl) dX6_isSetting_55
          · skip
            have c_47 : ¬ ((k_X6_in (vv.toInt64) 0 60) = 0) := c_47
            rw [if_neg c_47] at hres
            refine lv_iconst (v := 1) hx hb dX6_isSetting_50 (by decide) ?_
            refine lv_goto (tgt := 55) hx hb dX6_isSetting_51 (by decide) ?_
            subst hres
            exact kI_ret hE hS hP hD rfl rfl (Nat.le_of_ble_eq_true rfl) (Nat.le_of_ble_eq_true rfl) dX6_isSetting_55
  · skip
    have c_1 : (vw = 0) := c_1
    rw [if_pos c_1] at hres
    refine lv_iload_n hx hb dX6_isSetting_4 rfl (lv_at hl 1 rfl) ?_
    refine lv_i2l hx hb dX6_isSetting_5 rfl ?_
    refine lv_lconst (v := 0) hx hb dX6_isSetting_6 (by decide) ?_
    refine lv_ldc2 (v := 3) hx hb hown lk_2 dX6_isSetting_7 ?_
    have hP : va_P D vwCl ([] ++ []) H := hP
    have hD : va_D A ([] ++ []) := hD
    have hc_10 := c_X6_in l D cs (vv.toInt64) 0 3
    refine kI_call (wc := []) (wr := []) (w1 := []) (r := (k_X6_in (vv.toInt64) 0 3)) hE hP hD hS (k_rS (rest := []) (As := [.long (vv.toInt64), .long 0, .long 3]) hE rfl (hc_10 H.size) (va_cwS 3 hts gX6_isSetting_X6_in rfl rfl rfl (by decide +kernel) ⟨Nat.le_of_ble_eq_true rfl, Nat.le_of_ble_eq_true rfl⟩) hP hD hS rfl hl rfl (Nat.le_of_ble_eq_true rfl) ⟨Nat.le_of_ble_eq_true rfl, Nat.le_of_ble_eq_true rfl⟩ dX6_isSetting_10) (fun H locs hP hD hS => ?_)
    have hP : va_P D vwCl ([]) H := hP
    have hD : va_D A ([]) := hD
    refine lv_if_ne (tgt := 50) hx hb dX6_isSetting_13 (by decide) (fun c_13 => ?_) (fun c_13 => ?_)
    · skip
      have c_13 : ¬ ((k_X6_in (vv.toInt64) 0 3) = 0) := c_13
      rw [if_neg c_13] at hres
      refine lv_iconst (v := 1) hx hb dX6_isSetting_50 (by decide) ?_
      refine lv_goto (tgt := 55) hx hb dX6_isSetting_51 (by decide) ?_
      subst hres
      exact kI_ret hE hS hP hD rfl rfl (Nat.le_of_ble_eq_true rfl) (Nat.le_of_ble_eq_true rfl) dX6_isSetting_55
    · skip
      have c_13 : ((k_X6_in (vv.toInt64) 0 3) = 0) := c_13
      rw [if_pos c_13] at hres
      refine lv_iload_n hx hb dX6_isSetting_16 rfl (lv_at hl 0 rfl) ?_
      refine lv_iconst (v := 1) hx hb dX6_isSetting_17 (by decide) ?_
      refine lv_icmp_ne (tgt := 33) hx hb dX6_isSetting_18 (by decide) (fun c_18 => ?_) (fun c_18 => ?_)
      · skip
        have c_18 : ¬ (vw = 1) := c_18
        rw [if_neg c_18] at hres
        refine lv_iload_n hx hb dX6_isSetting_33 rfl (lv_at hl 0 rfl) ?_
        refine lv_iconst (v := 2) hx hb dX6_isSetting_34 (by decide) ?_
        refine lv_icmp_ne (tgt := 54) hx hb dX6_isSetting_35 (by decide) (fun c_35 => ?_) (fun c_35 => ?_)
        · skip
          have c_35 : ¬ (vw = 2) := c_35
          rw [if_neg c_35] at hres
          refine lv_iconst (v := 0) hx hb dX6_isSetting_54 (by decide) ?_
          subst hres
          exact kI_ret hE hS hP hD rfl rfl (Nat.le_of_ble_eq_true rfl) (Nat.le_of_ble_eq_true rfl) dX6_isSetting_55
        · skip
          have c_35 : (vw = 2) := c_35
          rw [if_pos c_35] at hres
          refine lv_iload_n hx hb dX6_isSetting_38 rfl (lv_at hl 1 rfl) ?_
          refine lv_i2l hx hb dX6_isSetting_39 rfl ?_
          refine lv_lconst (v := 0) hx hb dX6_isSetting_40 (by decide) ?_
          refine lv_ldc2 (v := 60) hx hb hown lk_0 dX6_isSetting_41 ?_
          have hP : va_P D vwCl ([] ++ []) H := hP
          have hD : va_D A ([] ++ []) := hD
          have hc_44 := c_X6_in l D cs (vv.toInt64) 0 60
          refine kI_call (wc := []) (wr := []) (w1 := []) (r := (k_X6_in (vv.toInt64) 0 60)) hE hP hD hS (k_rS (rest := []) (As := [.long (vv.toInt64), .long 0, .long 60]) hE rfl (hc_44 H.size) (va_cwS 3 hts gX6_isSetting_X6_in rfl rfl rfl (by decide +kernel) ⟨Nat.le_of_ble_eq_true rfl, Nat.le_of_ble_eq_true rfl⟩) hP hD hS rfl hl rfl (Nat.le_of_ble_eq_true rfl) ⟨Nat.le_of_ble_eq_true rfl, Nat.le_of_ble_eq_true rfl⟩ dX6_isSetting_44) (fun H locs hP hD hS => ?_)
          have hP : va_P D vwCl ([]) H := hP
          have hD : va_D A ([]) := hD
          refine lv_if_eq (tgt := 54) hx hb dX6_isSetting_47 (by decide) (fun c_47 => ?_) (fun c_47 => ?_)
          · skip
            have c_47 : ((k_X6_in (vv.toInt64) 0 60) = 0) := c_47
            rw [if_pos c_47] at hres
            refine lv_iconst (v := 0) hx hb dX6_isSetting_54 (by decide) ?_
            subst hres
            exact kI_ret hE hS hP hD rfl rfl (Nat.le_of_ble_eq_true rfl) (Nat.le_of_ble_eq_true rfl) dX6_isSetting_55
          · skip
            have c_47 : ¬ ((k_X6_in (vv.toInt64) 0 60) = 0) := c_47
            rw [if_neg c_47] at hres
            refine lv_iconst (v := 1) hx hb dX6_isSetting_50 (by decide) ?_
            refine lv_goto (tgt := 55) hx hb dX6_isSetting_51 (by decide) ?_
            subst hres
            exact kI_ret hE hS hP hD rfl rfl (Nat.le_of_ble_eq_true rfl) (Nat.le_of_ble_eq_true rfl) dX6_isSetting_55
      · skip
        have c_18 : (vw = 1) := c_18
        rw [if_pos c_18] at hres
        refine lv_iload_n hx hb dX6_isSetting_21 rfl (lv_at hl 1 rfl) ?_
        refine lv_i2l hx hb dX6_isSetting_22 rfl ?_
        refine lv_lconst (v := 0) hx hb dX6_isSetting_23 (by decide) ?_
        refine lv_ldc2 (v := 9) hx hb hown lk_1 dX6_isSetting_24 ?_
        have hP : va_P D vwCl ([] ++ []) H := hP
        have hD : va_D A ([] ++ []) := hD
        have hc_27 := c_X6_in l D cs (vv.toInt64) 0 9
        refine kI_call (wc := []) (wr := []) (w1 := []) (r := (k_X6_in (vv.toInt64) 0 9)) hE hP hD hS (k_rS (rest := []) (As := [.long (vv.toInt64), .long 0, .long 9]) hE rfl (hc_27 H.size) (va_cwS 3 hts gX6_isSetting_X6_in rfl rfl rfl (by decide +kernel) ⟨Nat.le_of_ble_eq_true rfl, Nat.le_of_ble_eq_true rfl⟩) hP hD hS rfl hl rfl (Nat.le_of_ble_eq_true rfl) ⟨Nat.le_of_ble_eq_true rfl, Nat.le_of_ble_eq_true rfl⟩ dX6_isSetting_27) (fun H locs hP hD hS => ?_)
        have hP : va_P D vwCl ([]) H := hP
        have hD : va_D A ([]) := hD
        refine lv_if_ne (tgt := 50) hx hb dX6_isSetting_30 (by decide) (fun c_30 => ?_) (fun c_30 => ?_)
        · skip
          have c_30 : ¬ ((k_X6_in (vv.toInt64) 0 9) = 0) := c_30
          rw [if_neg c_30] at hres
          refine lv_iconst (v := 1) hx hb dX6_isSetting_50 (by decide) ?_
          refine lv_goto (tgt := 55) hx hb dX6_isSetting_51 (by decide) ?_
          subst hres
          exact kI_ret hE hS hP hD rfl rfl (Nat.le_of_ble_eq_true rfl) (Nat.le_of_ble_eq_true rfl) dX6_isSetting_55
        · skip
          have c_30 : ((k_X6_in (vv.toInt64) 0 9) = 0) := c_30
          rw [if_pos c_30] at hres
          refine lv_iload_n hx hb dX6_isSetting_33 rfl (lv_at hl 0 rfl) ?_
          refine lv_iconst (v := 2) hx hb dX6_isSetting_34 (by decide) ?_
          refine lv_icmp_ne (tgt := 54) hx hb dX6_isSetting_35 (by decide) (fun c_35 => ?_) (fun c_35 => ?_)
          · skip
            have c_35 : ¬ (vw = 2) := c_35
            rw [if_neg c_35] at hres
            refine lv_iconst (v := 0) hx hb dX6_isSetting_54 (by decide) ?_
            subst hres
            exact kI_ret hE hS hP hD rfl rfl (Nat.le_of_ble_eq_true rfl) (Nat.le_of_ble_eq_true rfl) dX6_isSetting_55
          · skip
            have c_35 : (vw = 2) := c_35
            rw [if_pos c_35] at hres
            refine lv_iload_n hx hb dX6_isSetting_38 rfl (lv_at hl 1 rfl) ?_
            refine lv_i2l hx hb dX6_isSetting_39 rfl ?_
            refine lv_lconst (v := 0) hx hb dX6_isSetting_40 (by decide) ?_
            refine lv_ldc2 (v := 60) hx hb hown lk_0 dX6_isSetting_41 ?_
            have hP : va_P D vwCl ([] ++ []) H := hP
            have hD : va_D A ([] ++ []) := hD
            have hc_44 := c_X6_in l D cs (vv.toInt64) 0 60
            refine kI_call (wc := []) (wr := []) (w1 := []) (r := (k_X6_in (vv.toInt64) 0 60)) hE hP hD hS (k_rS (rest := []) (As := [.long (vv.toInt64), .long 0, .long 60]) hE rfl (hc_44 H.size) (va_cwS 3 hts gX6_isSetting_X6_in rfl rfl rfl (by decide +kernel) ⟨Nat.le_of_ble_eq_true rfl, Nat.le_of_ble_eq_true rfl⟩) hP hD hS rfl hl rfl (Nat.le_of_ble_eq_true rfl) ⟨Nat.le_of_ble_eq_true rfl, Nat.le_of_ble_eq_true rfl⟩ dX6_isSetting_44) (fun H locs hP hD hS => ?_)
            have hP : va_P D vwCl ([]) H := hP
            have hD : va_D A ([]) := hD
            refine lv_if_eq (tgt := 54) hx hb dX6_isSetting_47 (by decide) (fun c_47 => ?_) (fun c_47 => ?_)
            · skip
              have c_47 : ((k_X6_in (vv.toInt64) 0 60) = 0) := c_47
              rw [if_pos c_47] at hres
              refine lv_iconst (v := 0) hx hb dX6_isSetting_54 (by decide) ?_
              subst hres
              exact kI_ret hE hS hP hD rfl rfl (Nat.le_of_ble_eq_true rfl) (Nat.le_of_ble_eq_true rfl) dX6_isSetting_55
            · skip
              have c_47 : ¬ ((k_X6_in (vv.toInt64) 0 60) = 0) := c_47
              rw [if_neg c_47] at hres
              refine lv_iconst (v := 1) hx hb dX6_isSetting_50 (by decide) ?_
              refine lv_goto (tgt := 55) hx hb dX6_isSetting_51 (by decide) ?_
              subst hres
              exact kI_ret hE hS hP hD rfl rfl (Nat.le_of_ble_eq_true rfl) (Nat.le_of_ble_eq_true rfl) dX6_isSetting_55
set_option maxHeartbeats 4000000 in
set_option maxRecDepth 100000 in
theorem c_X6_isOver (l : Launch) (D : va_G) (cs : Nat → ClassId) (vf : Int32) (vn : Int32) (vb : Int32) : kI l yX6_isOver wsX6_isOver { frames := 0, cells := 0, slots := 0, locals := 0 } 0 0 D cs [.int vf, .int vn, .int vb] ([]) (k_X6_isOver vf vn vb) ([]) := by
  generalize hres : k_X6_isOver vf vn vb = res
  refine kI_of (cc := cX6_isOver) (maxL := 3) (ret := (some .boolean)) (by decide) rfl (Nat.le_of_ble_eq_true rfl) ?_
  intro p e s m below meth c A ls H locs hE hS hP hD hl
  obtain ⟨hx, hb, hr, hlocks, hml, hown, hts, hK, hA, hG, hnm⟩ := id hE
  have hown : s.vm.findClass RX6 = some m.cls := hown
  have hl : lv_has ls 3 [(0, .int vf), (1, .int vn), (2, .int vb)] := hl
  unfold k_X6_isOver at hres
  refine lv_iload_n hx hb dX6_isOver_0 rfl (lv_at hl 2 rfl) ?_
  refine lv_iload_n hx hb dX6_isOver_1 rfl (lv_at hl 0 rfl) ?_
  refine lv_isub hx hb dX6_isOver_2 ?_
  refine lv_bipush (v := 24) hx hb dX6_isOver_3 (by decide) ?_
  refine lv_iadd hx hb dX6_isOver_5 ?_
  refine lv_bipush (v := 24) hx hb dX6_isOver_6 (by decide) ?_
  refine lv_irem hx hb dX6_isOver_8 (by decide) ?_
  refine lv_iload_n hx hb dX6_isOver_9 rfl (lv_at hl 1 rfl) ?_
  refine lv_icmp_ge (tgt := 17) hx hb dX6_isOver_10 (by decide) (fun c_10 => ?_) (fun c_10 => ?_)
  · skip
    have c_10 : (vn ≤ (((vb - vf) + 24) - ((vb - vf) + 24) / 24 * 24)) := c_10
    rw [if_pos c_10] at hres
    refine lv_iconst (v := 0) hx hb dX6_isOver_17 (by decide) ?_
    subst hres
    exact kI_ret hE hS hP hD rfl rfl (Nat.le_of_ble_eq_true rfl) (Nat.le_of_ble_eq_true rfl) dX6_isOver_18
  · skip
    have c_10 : ¬ (vn ≤ (((vb - vf) + 24) - ((vb - vf) + 24) / 24 * 24)) := c_10
    rw [if_neg c_10] at hres
    refine lv_iconst (v := 1) hx hb dX6_isOver_13 (by decide) ?_
    refine lv_goto (tgt := 18) hx hb dX6_isOver_14 (by decide) ?_
    subst hres
    exact kI_ret hE hS hP hD rfl rfl (Nat.le_of_ble_eq_true rfl) (Nat.le_of_ble_eq_true rfl) dX6_isOver_18
set_option maxHeartbeats 4000000 in
set_option maxRecDepth 100000 in
theorem c_X6_isCovered (l : Launch) (D : va_G) (cs : Nat → ClassId) (sa : Nat) (sx : Nat → Int32) (vp : Int32) (vb : Int32) (hI : SI sx) : kI l yX6_isCovered wsX6_isCovered { frames := 1, cells := 0, slots := 0, locals := 22 } 0 0 D cs [.ref sa, .int vp, .int vb] (st_W cs sa sx) (k_X6_isCovered sx vp vb) (st_W cs sa sx) := by
  generalize hres : k_X6_isCovered sx vp vb = res
  refine kI_of (cc := cX6_isCovered) (maxL := 5) (ret := (some .boolean)) (by decide) rfl (Nat.le_of_ble_eq_true rfl) ?_
  intro p e s m below meth c A ls H locs hE hS hP hD hl
  obtain ⟨hx, hb, hr, hlocks, hml, hown, hts, hK, hA, hG, hnm⟩ := id hE
  have hown : s.vm.findClass RX6 = some m.cls := hown
  have hl : lv_has ls 5 [(0, .ref sa), (1, .int vp), (2, .int vb)] := hl
  obtain ⟨⟨hX1, hX2⟩, ⟨hX3, hX4⟩, hX5, hX6⟩ := id hI
  have hLn : (sx 0).toInt = (((sx 0).toInt.toNat : Nat) : Int) := (Int.toNat_of_nonneg hX1).symm
  have L5 : ∀ (n : Nat) (k : Int32) (acc : Int32) (j : Nat) (hi : k = nI j) (hj : j + n = 31) (hj2 : j ≤ (sx 0).toInt.toNat) (hb9 : acc = 0 ∨ acc = 1) (H : Heap) (locs : List Loc) (ls : Array Slot), va_S A s.heap H locs → va_P D vwCl (st_W cs sa sx) H → va_D A (st_W cs sa sx) → lv_has ls 5 [(0, .ref sa), (1, .int vp), (2, .int vb), (3, .int acc), (4, .int k)] → k_X6_isCovered_L5 sx vp vb n k acc = res → W p l e { frames := 1, cells := 0, slots := 0, locals := 22 } s m ([.ref sa, .int vp, .int vb]).toArray below meth c H locs 0 0 (MQ below (va_Qi (fun (r' : Int32) (_ : Unit) => r' = res) (kB D (fun _ => st_W cs sa sx) A) A) ([.ref sa, .int vp, .int vb]).toArray s 0 0 A) (F0 m 5 ls []) := by
    intro n
    induction n with
    | zero =>
      intro k acc j hi hj hj2 hb9 H locs ls hS hP hD hl hres
      exact absurd hj2 (by omega)
    | succ n ih =>
      intro k acc j hi hj hj2 hb9 H locs ls hS hP hD hl hres
      unfold k_X6_isCovered_L5 at hres
      have hk9 := nI_b (N := 30) hi (by omega) (by omega)
      refine lv_iload hx hb dX6_isCovered_5 (lv_at hl 4 rfl) ?_
      refine lv_aload_n hx hb dX6_isCovered_7 rfl (lv_at hl 0 rfl) ?_
      refine lv_iconst (v := 0) hx hb dX6_isCovered_8 (by decide) ?_
      refine k_iald hx hb hK hP 0 0 (v := (sx 0)) rfl rfl (k_inl rfl) rfl dX6_isCovered_9 ?_
      refine lv_icmp_ge (tgt := 61) hx hb dX6_isCovered_10 (by decide) (fun c_10 => ?_) (fun c_10 => ?_)
      · skip
        have c_10 : ((sx 0) ≤ k) := c_10
        rw [if_pos c_10] at hres
        refine lv_iload_n hx hb dX6_isCovered_61 rfl (lv_at hl 3 rfl) ?_
        subst hres
        exact kI_ret hE hS hP hD (nar_b hb9) rfl (Nat.le_of_ble_eq_true rfl) (Nat.le_of_ble_eq_true rfl) dX6_isCovered_62
      · skip
        have c_10 : ¬ ((sx 0) ≤ k) := c_10
        rw [if_neg c_10] at hres
        refine lv_iload_n hx hb dX6_isCovered_13 rfl (lv_at hl 3 rfl) ?_
        refine lv_if_ne (tgt := 49) hx hb dX6_isCovered_14 (by decide) (fun c_14 => ?_) (fun c_14 => ?_)
        · skip
          have c_14 : ¬ (acc = 0) := c_14
          rw [if_neg c_14] at hres
          refine lv_iconst (v := 1) hx hb dX6_isCovered_49 (by decide) ?_
          refine lv_goto (tgt := 54) hx hb dX6_isCovered_50 (by decide) ?_
          refine lv_istore_n (lv' := [(3, .int 1), (0, .ref sa), (1, .int vp), (2, .int vb), (4, .int k)]) hx hb dX6_isCovered_54 rfl hl (by decide) rfl (fun ls hl => ?_)
          refine lv_iinc (v := (k + 1)) (lv' := [(4, .int (k + 1)), (3, .int 1), (0, .ref sa), (1, .int vp), (2, .int vb)]) hx hb dX6_isCovered_55 hl (k := 4) rfl (by rfl) (by decide) rfl (fun ls hl => ?_)
          refine lv_goto (tgt := 5) hx hb dX6_isCovered_58 (by decide) ?_
          exact ih (k + 1) 1 (j + 1) (by rw [hi, nI_1]) (by omega) (nI_ltv hi (by omega) hLn c_10) (by first | exact Or.inl rfl | exact Or.inr rfl) _ _ _ hS hP hD (lv_sub hl [2, 3, 4, 1, 0] rfl) hres
        · skip
          have c_14 : (acc = 0) := c_14
          rw [if_pos c_14] at hres
          refine lv_aload_n hx hb dX6_isCovered_17 rfl (lv_at hl 0 rfl) ?_
          refine lv_iload hx hb dX6_isCovered_18 (lv_at hl 4 rfl) ?_
          refine lv_iconst (v := 0) hx hb dX6_isCovered_20 (by decide) ?_
          have hP : va_P D vwCl ((st_W cs sa sx) ++ []) H := k_nP hP
          have hD : va_D A ((st_W cs sa sx) ++ []) := k_nD hD
          have hc_21 := c_X6_peg l D cs sa sx k 0 hk9 (by decide)
          refine kI_call (wc := (st_W cs sa sx)) (wr := []) (w1 := st_W cs sa sx) (r := (k_X6_peg sx k 0)) hE hP hD hS (k_rS (rest := []) (As := [.ref sa, .int k, .int 0]) hE rfl (hc_21 H.size) (va_cwS 3 hts gX6_isCovered_X6_peg rfl rfl rfl (by decide +kernel) ⟨Nat.le_of_ble_eq_true rfl, Nat.le_of_ble_eq_true rfl⟩) hP hD hS rfl hl rfl (Nat.le_of_ble_eq_true rfl) ⟨Nat.le_of_ble_eq_true rfl, Nat.le_of_ble_eq_true rfl⟩ dX6_isCovered_21) (fun H locs hP hD hS => ?_)
          have hP := k_uP hP
          have hD := k_uD hD
          have hP : va_P D vwCl (st_W cs sa sx) H := hP
          have hD : va_D A (st_W cs sa sx) := hD
          refine lv_iload_n hx hb dX6_isCovered_24 rfl (lv_at hl 1 rfl) ?_
          refine lv_icmp_ne (tgt := 53) hx hb dX6_isCovered_25 (by decide) (fun c_25 => ?_) (fun c_25 => ?_)
          · skip
            have c_25 : ¬ ((k_X6_peg sx k 0) = vp) := c_25
            rw [if_neg c_25] at hres
            refine lv_iconst (v := 0) hx hb dX6_isCovered_53 (by decide) ?_
            refine lv_istore_n (lv' := [(3, .int 0), (0, .ref sa), (1, .int vp), (2, .int vb), (4, .int k)]) hx hb dX6_isCovered_54 rfl hl (by decide) rfl (fun ls hl => ?_)
            refine lv_iinc (v := (k + 1)) (lv' := [(4, .int (k + 1)), (3, .int 0), (0, .ref sa), (1, .int vp), (2, .int vb)]) hx hb dX6_isCovered_55 hl (k := 4) rfl (by rfl) (by decide) rfl (fun ls hl => ?_)
            refine lv_goto (tgt := 5) hx hb dX6_isCovered_58 (by decide) ?_
            exact ih (k + 1) 0 (j + 1) (by rw [hi, nI_1]) (by omega) (nI_ltv hi (by omega) hLn c_10) (by first | exact Or.inl rfl | exact Or.inr rfl) _ _ _ hS hP hD (lv_sub hl [2, 3, 4, 1, 0] rfl) hres
          · skip
            have c_25 : ((k_X6_peg sx k 0) = vp) := c_25
            rw [if_pos c_25] at hres
            refine lv_aload_n hx hb dX6_isCovered_28 rfl (lv_at hl 0 rfl) ?_
            refine lv_iload hx hb dX6_isCovered_29 (lv_at hl 4 rfl) ?_
            refine lv_iconst (v := 1) hx hb dX6_isCovered_31 (by decide) ?_
            have hP : va_P D vwCl ((st_W cs sa sx) ++ []) H := k_nP hP
            have hD : va_D A ((st_W cs sa sx) ++ []) := k_nD hD
            have hc_32 := c_X6_peg l D cs sa sx k 1 hk9 (by decide)
            refine kI_call (wc := (st_W cs sa sx)) (wr := []) (w1 := st_W cs sa sx) (r := (k_X6_peg sx k 1)) hE hP hD hS (k_rS (rest := []) (As := [.ref sa, .int k, .int 1]) hE rfl (hc_32 H.size) (va_cwS 3 hts gX6_isCovered_X6_peg rfl rfl rfl (by decide +kernel) ⟨Nat.le_of_ble_eq_true rfl, Nat.le_of_ble_eq_true rfl⟩) hP hD hS rfl hl rfl (Nat.le_of_ble_eq_true rfl) ⟨Nat.le_of_ble_eq_true rfl, Nat.le_of_ble_eq_true rfl⟩ dX6_isCovered_32) (fun H locs hP hD hS => ?_)
            have hP := k_uP hP
            have hD := k_uD hD
            have hP : va_P D vwCl (st_W cs sa sx) H := hP
            have hD : va_D A (st_W cs sa sx) := hD
            refine lv_aload_n hx hb dX6_isCovered_35 rfl (lv_at hl 0 rfl) ?_
            refine lv_iload hx hb dX6_isCovered_36 (lv_at hl 4 rfl) ?_
            refine lv_iconst (v := 2) hx hb dX6_isCovered_38 (by decide) ?_
            have hP : va_P D vwCl ((st_W cs sa sx) ++ []) H := k_nP hP
            have hD : va_D A ((st_W cs sa sx) ++ []) := k_nD hD
            have hc_39 := c_X6_peg l D cs sa sx k 2 hk9 (by decide)
            refine kI_call (wc := (st_W cs sa sx)) (wr := []) (w1 := st_W cs sa sx) (r := (k_X6_peg sx k 2)) hE hP hD hS (k_rS (rest := [.int (k_X6_peg sx k 1)]) (As := [.ref sa, .int k, .int 2]) hE rfl (hc_39 H.size) (va_cwS 3 hts gX6_isCovered_X6_peg rfl rfl rfl (by decide +kernel) ⟨Nat.le_of_ble_eq_true rfl, Nat.le_of_ble_eq_true rfl⟩) hP hD hS rfl hl rfl (Nat.le_of_ble_eq_true rfl) ⟨Nat.le_of_ble_eq_true rfl, Nat.le_of_ble_eq_true rfl⟩ dX6_isCovered_39) (fun H locs hP hD hS => ?_)
            have hP := k_uP hP
            have hD := k_uD hD
            have hP : va_P D vwCl (st_W cs sa sx) H := hP
            have hD : va_D A (st_W cs sa sx) := hD
            refine lv_iload_n hx hb dX6_isCovered_42 rfl (lv_at hl 2 rfl) ?_
            have hP : va_P D vwCl ([] ++ (st_W cs sa sx)) H := hP
            have hD : va_D A ([] ++ (st_W cs sa sx)) := hD
            have hc_43 := c_X6_isOver l D cs (k_X6_peg sx k 1) (k_X6_peg sx k 2) vb
            refine kI_call (wc := []) (wr := (st_W cs sa sx)) (w1 := []) (r := (k_X6_isOver (k_X6_peg sx k 1) (k_X6_peg sx k 2) vb)) hE hP hD hS (k_rS (rest := []) (As := [.int (k_X6_peg sx k 1), .int (k_X6_peg sx k 2), .int vb]) hE rfl (hc_43 H.size) (va_cwS 3 hts gX6_isCovered_X6_isOver rfl rfl rfl (by decide +kernel) ⟨Nat.le_of_ble_eq_true rfl, Nat.le_of_ble_eq_true rfl⟩) hP hD hS rfl hl rfl (Nat.le_of_ble_eq_true rfl) ⟨Nat.le_of_ble_eq_true rfl, Nat.le_of_ble_eq_true rfl⟩ dX6_isCovered_43) (fun H locs hP hD hS => ?_)
            have hP : va_P D vwCl (st_W cs sa sx) H := hP
            have hD : va_D A (st_W cs sa sx) := hD
            refine lv_if_eq (tgt := 53) hx hb dX6_isCovered_46 (by decide) (fun c_46 => ?_) (fun c_46 => ?_)
            · skip
              have c_46 : ((k_X6_isOver (k_X6_peg sx k 1) (k_X6_peg sx k 2) vb) = 0) := c_46
              rw [if_pos c_46] at hres
              refine lv_iconst (v := 0) hx hb dX6_isCovered_53 (by decide) ?_
              refine lv_istore_n (lv' := [(3, .int 0), (0, .ref sa), (1, .int vp), (2, .int vb), (4, .int k)]) hx hb dX6_isCovered_54 rfl hl (by decide) rfl (fun ls hl => ?_)
              refine lv_iinc (v := (k + 1)) (lv' := [(4, .int (k + 1)), (3, .int 0), (0, .ref sa), (1, .int vp), (2, .int vb)]) hx hb dX6_isCovered_55 hl (k := 4) rfl (by rfl) (by decide) rfl (fun ls hl => ?_)
              refine lv_goto (tgt := 5) hx hb dX6_isCovered_58 (by decide) ?_
              exact ih (k + 1) 0 (j + 1) (by rw [hi, nI_1]) (by omega) (nI_ltv hi (by omega) hLn c_10) (by first | exact Or.inl rfl | exact Or.inr rfl) _ _ _ hS hP hD (lv_sub hl [2, 3, 4, 1, 0] rfl) hres
            · skip
              have c_46 : ¬ ((k_X6_isOver (k_X6_peg sx k 1) (k_X6_peg sx k 2) vb) = 0) := c_46
              rw [if_neg c_46] at hres
              refine lv_iconst (v := 1) hx hb dX6_isCovered_49 (by decide) ?_
              refine lv_goto (tgt := 54) hx hb dX6_isCovered_50 (by decide) ?_
              refine lv_istore_n (lv' := [(3, .int 1), (0, .ref sa), (1, .int vp), (2, .int vb), (4, .int k)]) hx hb dX6_isCovered_54 rfl hl (by decide) rfl (fun ls hl => ?_)
              refine lv_iinc (v := (k + 1)) (lv' := [(4, .int (k + 1)), (3, .int 1), (0, .ref sa), (1, .int vp), (2, .int vb)]) hx hb dX6_isCovered_55 hl (k := 4) rfl (by rfl) (by decide) rfl (fun ls hl => ?_)
              refine lv_goto (tgt := 5) hx hb dX6_isCovered_58 (by decide) ?_
              exact ih (k + 1) 1 (j + 1) (by rw [hi, nI_1]) (by omega) (nI_ltv hi (by omega) hLn c_10) (by first | exact Or.inl rfl | exact Or.inr rfl) _ _ _ hS hP hD (lv_sub hl [2, 3, 4, 1, 0] rfl) hres
  unfold k_X6_isCovered at hres
  refine lv_iconst (v := 0) hx hb dX6_isCovered_0 (by decide) ?_
  refine lv_istore_n (lv' := [(3, .int 0), (0, .ref sa), (1, .int vp), (2, .int vb)]) hx hb dX6_isCovered_1 rfl hl (by decide) rfl (fun ls hl => ?_)
  refine lv_iconst (v := 0) hx hb dX6_isCovered_2 (by decide) ?_
  refine lv_istore (lv' := [(4, .int 0), (3, .int 0), (0, .ref sa), (1, .int vp), (2, .int vb)]) hx hb dX6_isCovered_3 hl (by decide) rfl (fun ls hl => ?_)
  exact L5 31 0 0 0 (nI_0.symm) (rfl) (Nat.zero_le _) (Or.inl rfl) _ _ _ hS hP hD (lv_sub hl [2, 3, 4, 1, 0] rfl) hres
