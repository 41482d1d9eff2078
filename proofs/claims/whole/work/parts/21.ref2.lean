set_option maxHeartbeats 4000000 in
set_option maxRecDepth 100000 in
theorem c_X6_isOpen (l : Launch) (D : va_G) (cs : Nat → ClassId) (sa : Nat) (sx : Nat → Int32) (vp : Int32) (hI : SI sx) : kI l yX6_isOpen wsX6_isOpen { frames := 2, cells := 0, slots := 0, locals := 46 } 0 0 D cs [.ref sa, .int vp] (st_W cs sa sx) (k_X6_isOpen sx vp) (st_W cs sa sx) := by
  generalize hres : k_X6_isOpen sx vp = res
  refine kI_of (cc := cX6_isOpen) (maxL := 2) (ret := (some .boolean)) (by decide) rfl (Nat.le_of_ble_eq_true rfl) ?_
  intro p e s m below meth c A ls H locs hE hS hP hD hl
  obtain ⟨hx, hb, hr, hlocks, hml, hown, hts, hK, hA, hG, hnm⟩ := id hE
  have hown : s.vm.findClass RX6 = some m.cls := hown
  have hl : lv_has ls 2 [(0, .ref sa), (1, .int vp)] := hl
  unfold k_X6_isOpen at hres
  refine lv_aload_n hx hb dX6_isOpen_0 rfl (lv_at hl 0 rfl) ?_
  refine lv_iload_n hx hb dX6_isOpen_1 rfl (lv_at hl 1 rfl) ?_
  refine lv_aload_n hx hb dX6_isOpen_2 rfl (lv_at hl 0 rfl) ?_
  refine lv_iconst (v := 3) hx hb dX6_isOpen_3 (by decide) ?_
  refine k_iald hx hb hK hP 0 0 (v := (sx 3)) rfl rfl (k_inl rfl) rfl dX6_isOpen_4 ?_
  have hP : va_P D vwCl ((st_W cs sa sx) ++ []) H := k_nP hP
  have hD : va_D A ((st_W cs sa sx) ++ []) := k_nD hD
  have hc_5 := c_X6_isCovered l D cs sa sx vp (sx 3) (by assumption)
  refine kI_call (wc := (st_W cs sa sx)) (wr := []) (w1 := st_W cs sa sx) (r := (k_X6_isCovered sx vp (sx 3))) hE hP hD hS (k_rS (rest := []) (As := [.ref sa, .int vp, .int (sx 3)]) hE rfl (hc_5 H.size) (va_cwS 3 hts gX6_isOpen_X6_isCovered rfl rfl rfl (by decide +kernel) ⟨Nat.le_of_ble_eq_true rfl, Nat.le_of_ble_eq_true rfl⟩) hP hD hS rfl hl rfl (Nat.le_of_ble_eq_true rfl) ⟨Nat.le_of_ble_eq_true rfl, Nat.le_of_ble_eq_true rfl⟩ dX6_isOpen_5) (fun H locs hP hD hS => ?_)
  have hP := k_uP hP
  have hD := k_uD hD
  have hP : va_P D vwCl (st_W cs sa sx) H := hP
  have hD : va_D A (st_W cs sa sx) := hD
  subst hres
  exact kI_ret hE hS hP hD (nar_b cov01) rfl (Nat.le_of_ble_eq_true rfl) (Nat.le_of_ble_eq_true rfl) dX6_isOpen_8
set_option maxHeartbeats 4000000 in
set_option maxRecDepth 100000 in
theorem c_X6_chordAt (l : Launch) (D : va_G) (cs : Nat → ClassId) (sa : Nat) (sx : Nat → Int32) (vb : Int32) (hI : SI sx) : kI l yX6_chordAt wsX6_chordAt { frames := 2, cells := 0, slots := 0, locals := 46 } 0 0 D cs [.ref sa, .int vb] (st_W cs sa sx) (k_X6_chordAt sx vb) (st_W cs sa sx) := by
  generalize hres : k_X6_chordAt sx vb = res
  refine kI_of (cc := cX6_chordAt) (maxL := 4) (ret := (some .int)) (by decide) rfl (Nat.le_of_ble_eq_true rfl) ?_
  intro p e s m below meth c A ls H locs hE hS hP hD hl
  obtain ⟨hx, hb, hr, hlocks, hml, hown, hts, hK, hA, hG, hnm⟩ := id hE
  have hown : s.vm.findClass RX6 = some m.cls := hown
  have hl : lv_has ls 4 [(0, .ref sa), (1, .int vb)] := hl
  have L4 : ∀ (n : Nat) (i : Int32) (acc : Int32) (j : Nat) (hi : i = nI j) (hj : j + n = 7) (hj2 : j ≤ 6) (H : Heap) (locs : List Loc) (ls : Array Slot), va_S A s.heap H locs → va_P D vwCl (st_W cs sa sx) H → va_D A (st_W cs sa sx) → lv_has ls 4 [(0, .ref sa), (1, .int vb), (2, .int acc), (3, .int i)] → k_X6_chordAt_L4 sx vb n i acc = res → W p l e { frames := 2, cells := 0, slots := 0, locals := 46 } s m ([.ref sa, .int vb]).toArray below meth c H locs 0 0 (MQ below (va_Qi (fun (r' : Int32) (_ : Unit) => r' = res) (kB D (fun _ => st_W cs sa sx) A) A) ([.ref sa, .int vb]).toArray s 0 0 A) (F0 m 4 ls []) := by
    intro n
    induction n with
    | zero =>
      intro i acc j hi hj hj2 H locs ls hS hP hD hl hres
      exact absurd hj2 (by omega)
    | succ n ih =>
      intro i acc j hi hj hj2 H locs ls hS hP hD hl hres
      unfold k_X6_chordAt_L4 at hres
      refine lv_iload_n hx hb dX6_chordAt_4 rfl (lv_at hl 3 rfl) ?_
      refine lv_bipush (v := 6) hx hb dX6_chordAt_5 (by decide) ?_
      refine lv_icmp_ge (tgt := 35) hx hb dX6_chordAt_7 (by decide) (fun c_7 => ?_) (fun c_7 => ?_)
      · skip
        have c_7 : (6 ≤ i) := c_7
        rw [if_pos c_7] at hres
        refine lv_iload_n hx hb dX6_chordAt_35 rfl (lv_at hl 2 rfl) ?_
        subst hres
        exact kI_ret hE hS hP hD rfl rfl (Nat.le_of_ble_eq_true rfl) (Nat.le_of_ble_eq_true rfl) dX6_chordAt_36
      · skip
        have c_7 : ¬ (6 ≤ i) := c_7
        rw [if_neg c_7] at hres
        refine lv_iload_n hx hb dX6_chordAt_10 rfl (lv_at hl 2 rfl) ?_
        refine lv_aload_n hx hb dX6_chordAt_11 rfl (lv_at hl 0 rfl) ?_
        refine lv_iload_n hx hb dX6_chordAt_12 rfl (lv_at hl 3 rfl) ?_
        refine lv_iload_n hx hb dX6_chordAt_13 rfl (lv_at hl 1 rfl) ?_
        have hP : va_P D vwCl ((st_W cs sa sx) ++ []) H := k_nP hP
        have hD : va_D A ((st_W cs sa sx) ++ []) := k_nD hD
        have hc_14 := c_X6_isCovered l D cs sa sx i vb (by assumption)
        refine kI_call (wc := (st_W cs sa sx)) (wr := []) (w1 := st_W cs sa sx) (r := (k_X6_isCovered sx i vb)) hE hP hD hS (k_rS (rest := [.int acc]) (As := [.ref sa, .int i, .int vb]) hE rfl (hc_14 H.size) (va_cwS 3 hts gX6_chordAt_X6_isCovered rfl rfl rfl (by decide +kernel) ⟨Nat.le_of_ble_eq_true rfl, Nat.le_of_ble_eq_true rfl⟩) hP hD hS rfl hl rfl (Nat.le_of_ble_eq_true rfl) ⟨Nat.le_of_ble_eq_true rfl, Nat.le_of_ble_eq_true rfl⟩ dX6_chordAt_14) (fun H locs hP hD hS => ?_)
        have hP := k_uP hP
        have hD := k_uD hD
        have hP : va_P D vwCl (st_W cs sa sx) H := hP
        have hD : va_D A (st_W cs sa sx) := hD
        refine lv_if_eq (tgt := 26) hx hb dX6_chordAt_17 (by decide) (fun c_17 => ?_) (fun c_17 => ?_)
        · skip
          have c_17 : ((k_X6_isCovered sx i vb) = 0) := c_17
          rw [if_pos c_17] at hres
          refine lv_iconst (v := 0) hx hb dX6_chordAt_26 (by decide) ?_
          refine lv_ior hx hb dX6_chordAt_27 ?_
          refine lv_istore_n (lv' := [(2, .int (acc ||| 0)), (0, .ref sa), (1, .int vb), (3, .int i)]) hx hb dX6_chordAt_28 rfl hl (by decide) rfl (fun ls hl => ?_)
          refine lv_iinc (v := (i + 1)) (lv' := [(3, .int (i + 1)), (2, .int (acc ||| 0)), (0, .ref sa), (1, .int vb)]) hx hb dX6_chordAt_29 hl (k := 3) rfl (by rfl) (by decide) rfl (fun ls hl => ?_)
          refine lv_goto (tgt := 4) hx hb dX6_chordAt_32 (by decide) ?_
          exact ih (i + 1) (acc ||| 0) (j + 1) (by rw [hi, nI_1]) (by omega) (nI_lts hi (by omega) (by decide) c_7) _ _ _ hS hP hD (lv_sub hl [2, 3, 1, 0] rfl) hres
        · skip
          have c_17 : ¬ ((k_X6_isCovered sx i vb) = 0) := c_17
          rw [if_neg c_17] at hres
          refine lv_iconst (v := 1) hx hb dX6_chordAt_20 (by decide) ?_
          refine lv_iload_n hx hb dX6_chordAt_21 rfl (lv_at hl 3 rfl) ?_
          refine lv_ishl hx hb dX6_chordAt_22 ?_
          refine lv_goto (tgt := 27) hx hb dX6_chordAt_23 (by decide) ?_
          refine lv_ior hx hb dX6_chordAt_27 ?_
          refine lv_istore_n (lv' := [(2, .int (acc ||| ((1 : Int32) <<< (i &&& 31)))), (0, .ref sa), (1, .int vb), (3, .int i)]) hx hb dX6_chordAt_28 rfl hl (by decide) rfl (fun ls hl => ?_)
          refine lv_iinc (v := (i + 1)) (lv' := [(3, .int (i + 1)), (2, .int (acc ||| ((1 : Int32) <<< (i &&& 31)))), (0, .ref sa), (1, .int vb)]) hx hb dX6_chordAt_29 hl (k := 3) rfl (by rfl) (by decide) rfl (fun ls hl => ?_)
          refine lv_goto (tgt := 4) hx hb dX6_chordAt_32 (by decide) ?_
          exact ih (i + 1) (acc ||| ((1 : Int32) <<< (i &&& 31))) (j + 1) (by rw [hi, nI_1]) (by omega) (nI_lts hi (by omega) (by decide) c_7) _ _ _ hS hP hD (lv_sub hl [2, 3, 1, 0] rfl) hres
  unfold k_X6_chordAt at hres
  refine lv_iconst (v := 0) hx hb dX6_chordAt_0 (by decide) ?_
  refine lv_istore_n (lv' := [(2, .int 0), (0, .ref sa), (1, .int vb)]) hx hb dX6_chordAt_1 rfl hl (by decide) rfl (fun ls hl => ?_)
  refine lv_iconst (v := 0) hx hb dX6_chordAt_2 (by decide) ?_
  refine lv_istore_n (lv' := [(3, .int 0), (2, .int 0), (0, .ref sa), (1, .int vb)]) hx hb dX6_chordAt_3 rfl hl (by decide) rfl (fun ls hl => ?_)
  exact L4 7 0 0 0 (nI_0.symm) (rfl) (Nat.zero_le _) _ _ _ hS hP hD (lv_sub hl [2, 3, 1, 0] rfl) hres
set_option maxHeartbeats 4000000 in
set_option maxRecDepth 100000 in
theorem c_X6_bits (l : Launch) (D : va_G) (cs : Nat → ClassId) (vx : Int32) : kI l yX6_bits wsX6_bits { frames := 0, cells := 0, slots := 0, locals := 0 } 0 0 D cs [.int vx] ([]) (k_X6_bits vx) ([]) := by
  generalize hres : k_X6_bits vx = res
  refine kI_of (cc := cX6_bits) (maxL := 3) (ret := (some .int)) (by decide) rfl (Nat.le_of_ble_eq_true rfl) ?_
  intro p e s m below meth c A ls H locs hE hS hP hD hl
  obtain ⟨hx, hb, hr, hlocks, hml, hown, hts, hK, hA, hG, hnm⟩ := id hE
  have hown : s.vm.findClass RX6 = some m.cls := hown
  have hl : lv_has ls 3 [(0, .int vx)] := hl
  have L4 : ∀ (n : Nat) (i : Int32) (acc : Int32) (j : Nat) (hi : i = nI j) (hj : j + n = 7) (hj2 : j ≤ 6) (H : Heap) (locs : List Loc) (ls : Array Slot), va_S A s.heap H locs → va_P D vwCl ([]) H → va_D A ([]) → lv_has ls 3 [(0, .int vx), (1, .int acc), (2, .int i)] → k_X6_bits_L4 vx n i acc = res → W p l e { frames := 0, cells := 0, slots := 0, locals := 0 } s m ([.int vx]).toArray below meth c H locs 0 0 (MQ below (va_Qi (fun (r' : Int32) (_ : Unit) => r' = res) (kB D (fun _ => []) A) A) ([.int vx]).toArray s 0 0 A) (F0 m 4 ls []) := by
    intro n
    induction n with
    | zero =>
      intro i acc j hi hj hj2 H locs ls hS hP hD hl hres
      exact absurd hj2 (by omega)
    | succ n ih =>
      intro i acc j hi hj hj2 H locs ls hS hP hD hl hres
      unfold k_X6_bits_L4 at hres
      refine lv_iload_n hx hb dX6_bits_4 rfl (lv_at hl 2 rfl) ?_
      refine lv_bipush (v := 6) hx hb dX6_bits_5 (by decide) ?_
      refine lv_icmp_ge (tgt := 24) hx hb dX6_bits_7 (by decide) (fun c_7 => ?_) (fun c_7 => ?_)
      · skip
        have c_7 : (6 ≤ i) := c_7
        rw [if_pos c_7] at hres
        refine lv_iload_n hx hb dX6_bits_24 rfl (lv_at hl 1 rfl) ?_
        subst hres
        exact kI_ret hE hS hP hD rfl rfl (Nat.le_of_ble_eq_true rfl) (Nat.le_of_ble_eq_true rfl) dX6_bits_25
      · skip
        have c_7 : ¬ (6 ≤ i) := c_7
        rw [if_neg c_7] at hres
        refine lv_iload_n hx hb dX6_bits_10 rfl (lv_at hl 1 rfl) ?_
        refine lv_iload_n hx hb dX6_bits_11 rfl (lv_at hl 0 rfl) ?_
        refine lv_iload_n hx hb dX6_bits_12 rfl (lv_at hl 2 rfl) ?_
        refine lv_ishr hx hb dX6_bits_13 ?_
        refine lv_iconst (v := 1) hx hb dX6_bits_14 (by decide) ?_
        refine lv_iand hx hb dX6_bits_15 ?_
        refine lv_iadd hx hb dX6_bits_16 ?_
        refine lv_istore_n (lv' := [(1, .int (acc + ((vx >>> (i &&& 31)) &&& 1))), (0, .int vx), (2, .int i)]) hx hb dX6_bits_17 rfl hl (by decide) rfl (fun ls hl => ?_)
        refine lv_iinc (v := (i + 1)) (lv' := [(2, .int (i + 1)), (1, .int (acc + ((vx >>> (i &&& 31)) &&& 1))), (0, .int vx)]) hx hb dX6_bits_18 hl (k := 2) rfl (by rfl) (by decide) rfl (fun ls hl => ?_)
        refine lv_goto (tgt := 4) hx hb dX6_bits_21 (by decide) ?_
        exact ih (i + 1) (acc + ((vx >>> (i &&& 31)) &&& 1)) (j + 1) (by rw [hi, nI_1]) (by omega) (nI_lts hi (by omega) (by decide) c_7) _ _ _ hS hP hD (lv_sub hl [2, 1, 0] rfl) hres
  unfold k_X6_bits at hres
  refine lv_iconst (v := 0) hx hb dX6_bits_0 (by decide) ?_
  refine lv_istore_n (lv' := [(1, .int 0), (0, .int vx)]) hx hb dX6_bits_1 rfl hl (by decide) rfl (fun ls hl => ?_)
  refine lv_iconst (v := 0) hx hb dX6_bits_2 (by decide) ?_
  refine lv_istore_n (lv' := [(2, .int 0), (1, .int 0), (0, .int vx)]) hx hb dX6_bits_3 rfl hl (by decide) rfl (fun ls hl => ?_)
  exact L4 7 0 0 0 (nI_0.symm) (rfl) (Nat.zero_le _) _ _ _ hS hP hD (lv_sub hl [2, 1, 0] rfl) hres
set_option maxHeartbeats 4000000 in
set_option maxRecDepth 100000 in
theorem c_X6_barsOf (l : Launch) (D : va_G) (cs : Nat → ClassId) (sa : Nat) (sx : Nat → Int32) (vp : Int32) (hI : SI sx) : kI l yX6_barsOf wsX6_barsOf { frames := 2, cells := 0, slots := 0, locals := 46 } 0 0 D cs [.ref sa, .int vp] (st_W cs sa sx) (k_X6_barsOf sx vp) (st_W cs sa sx) := by
  generalize hres : k_X6_barsOf sx vp = res
  refine kI_of (cc := cX6_barsOf) (maxL := 4) (ret := (some .int)) (by decide) rfl (Nat.le_of_ble_eq_true rfl) ?_
  intro p e s m below meth c A ls H locs hE hS hP hD hl
  obtain ⟨hx, hb, hr, hlocks, hml, hown, hts, hK, hA, hG, hnm⟩ := id hE
  have hown : s.vm.findClass RX6 = some m.cls := hown
  have hl : lv_has ls 4 [(0, .ref sa), (1, .int vp)] := hl
  have L4 : ∀ (n : Nat) (i : Int32) (acc : Int32) (j : Nat) (hi : i = nI j) (hj : j + n = 25) (hj2 : j ≤ 24) (H : Heap) (locs : List Loc) (ls : Array Slot), va_S A s.heap H locs → va_P D vwCl (st_W cs sa sx) H → va_D A (st_W cs sa sx) → lv_has ls 4 [(0, .ref sa), (1, .int vp), (2, .int acc), (3, .int i)] → k_X6_barsOf_L4 sx vp n i acc = res → W p l e { frames := 2, cells := 0, slots := 0, locals := 46 } s m ([.ref sa, .int vp]).toArray below meth c H locs 0 0 (MQ below (va_Qi (fun (r' : Int32) (_ : Unit) => r' = res) (kB D (fun _ => st_W cs sa sx) A) A) ([.ref sa, .int vp]).toArray s 0 0 A) (F0 m 4 ls []) := by
    intro n
    induction n with
    | zero =>
      intro i acc j hi hj hj2 H locs ls hS hP hD hl hres
      exact absurd hj2 (by omega)
    | succ n ih =>
      intro i acc j hi hj hj2 H locs ls hS hP hD hl hres
      unfold k_X6_barsOf_L4 at hres
      refine lv_iload_n hx hb dX6_barsOf_4 rfl (lv_at hl 3 rfl) ?_
      refine lv_bipush (v := 24) hx hb dX6_barsOf_5 (by decide) ?_
      refine lv_icmp_ge (tgt := 33) hx hb dX6_barsOf_7 (by decide) (fun c_7 => ?_) (fun c_7 => ?_)
      · skip
        have c_7 : (24 ≤ i) := c_7
        rw [if_pos c_7] at hres
        refine lv_iload_n hx hb dX6_barsOf_33 rfl (lv_at hl 2 rfl) ?_
        subst hres
        exact kI_ret hE hS hP hD rfl rfl (Nat.le_of_ble_eq_true rfl) (Nat.le_of_ble_eq_true rfl) dX6_barsOf_34
      · skip
        have c_7 : ¬ (24 ≤ i) := c_7
        rw [if_neg c_7] at hres
        refine lv_iload_n hx hb dX6_barsOf_10 rfl (lv_at hl 2 rfl) ?_
        refine lv_aload_n hx hb dX6_barsOf_11 rfl (lv_at hl 0 rfl) ?_
        refine lv_iload_n hx hb dX6_barsOf_12 rfl (lv_at hl 1 rfl) ?_
        refine lv_iload_n hx hb dX6_barsOf_13 rfl (lv_at hl 3 rfl) ?_
        have hP : va_P D vwCl ((st_W cs sa sx) ++ []) H := k_nP hP
        have hD : va_D A ((st_W cs sa sx) ++ []) := k_nD hD
        have hc_14 := c_X6_isCovered l D cs sa sx vp i (by assumption)
        refine kI_call (wc := (st_W cs sa sx)) (wr := []) (w1 := st_W cs sa sx) (r := (k_X6_isCovered sx vp i)) hE hP hD hS (k_rS (rest := [.int acc]) (As := [.ref sa, .int vp, .int i]) hE rfl (hc_14 H.size) (va_cwS 3 hts gX6_barsOf_X6_isCovered rfl rfl rfl (by decide +kernel) ⟨Nat.le_of_ble_eq_true rfl, Nat.le_of_ble_eq_true rfl⟩) hP hD hS rfl hl rfl (Nat.le_of_ble_eq_true rfl) ⟨Nat.le_of_ble_eq_true rfl, Nat.le_of_ble_eq_true rfl⟩ dX6_barsOf_14) (fun H locs hP hD hS => ?_)
        have hP := k_uP hP
        have hD := k_uD hD
        have hP : va_P D vwCl (st_W cs sa sx) H := hP
        have hD : va_D A (st_W cs sa sx) := hD
        refine lv_if_eq (tgt := 24) hx hb dX6_barsOf_17 (by decide) (fun c_17 => ?_) (fun c_17 => ?_)
        · skip
          have c_17 : ((k_X6_isCovered sx vp i) = 0) := c_17
          rw [if_pos c_17] at hres
          refine lv_iconst (v := 0) hx hb dX6_barsOf_24 (by decide) ?_
          refine lv_iadd hx hb dX6_barsOf_25 ?_
          refine lv_istore_n (lv' := [(2, .int (acc + 0)), (0, .ref sa), (1, .int vp), (3, .int i)]) hx hb dX6_barsOf_26 rfl hl (by decide) rfl (fun ls hl => ?_)
          refine lv_iinc (v := (i + 1)) (lv' := [(3, .int (i + 1)), (2, .int (acc + 0)), (0, .ref sa), (1, .int vp)]) hx hb dX6_barsOf_27 hl (k := 3) rfl (by rfl) (by decide) rfl (fun ls hl => ?_)
          refine lv_goto (tgt := 4) hx hb dX6_barsOf_30 (by decide) ?_
          exact ih (i + 1) (acc + 0) (j + 1) (by rw [hi, nI_1]) (by omega) (nI_lts hi (by omega) (by decide) c_7) _ _ _ hS hP hD (lv_sub hl [2, 3, 1, 0] rfl) hres
        · skip
          have c_17 : ¬ ((k_X6_isCovered sx vp i) = 0) := c_17
          rw [if_neg c_17] at hres
          refine lv_iconst (v := 1) hx hb dX6_barsOf_20 (by decide) ?_
          refine lv_goto (tgt := 25) hx hb dX6_barsOf_21 (by decide) ?_
          refine lv_iadd hx hb dX6_barsOf_25 ?_
          refine lv_istore_n (lv' := [(2, .int (acc + 1)), (0, .ref sa), (1, .int vp), (3, .int i)]) hx hb dX6_barsOf_26 rfl hl (by decide) rfl (fun ls hl => ?_)
          refine lv_iinc (v := (i + 1)) (lv' := [(3, .int (i + 1)), (2, .int (acc + 1)), (0, .ref sa), (1, .int vp)]) hx hb dX6_barsOf_27 hl (k := 3) rfl (by rfl) (by decide) rfl (fun ls hl => ?_)
          refine lv_goto (tgt := 4) hx hb dX6_barsOf_30 (by decide) ?_
          exact ih (i + 1) (acc + 1) (j + 1) (by rw [hi, nI_1]) (by omega) (nI_lts hi (by omega) (by decide) c_7) _ _ _ hS hP hD (lv_sub hl [2, 3, 1, 0] rfl) hres
  unfold k_X6_barsOf at hres
  refine lv_iconst (v := 0) hx hb dX6_barsOf_0 (by decide) ?_
  refine lv_istore_n (lv' := [(2, .int 0), (0, .ref sa), (1, .int vp)]) hx hb dX6_barsOf_1 rfl hl (by decide) rfl (fun ls hl => ?_)
  refine lv_iconst (v := 0) hx hb dX6_barsOf_2 (by decide) ?_
  refine lv_istore_n (lv' := [(3, .int 0), (2, .int 0), (0, .ref sa), (1, .int vp)]) hx hb dX6_barsOf_3 rfl hl (by decide) rfl (fun ls hl => ?_)
  exact L4 25 0 0 0 (nI_0.symm) (rfl) (Nat.zero_le _) _ _ _ hS hP hD (lv_sub hl [2, 3, 1, 0] rfl) hres
set_option maxHeartbeats 4000000 in
set_option maxRecDepth 100000 in
theorem c_X6_isTaken (l : Launch) (D : va_G) (cs : Nat → ClassId) (sa : Nat) (sx : Nat → Int32) (vp : Int32) (vb : Int32) (vn : Int32) (hI : SI sx) : kI l yX6_isTaken wsX6_isTaken { frames := 2, cells := 0, slots := 0, locals := 46 } 0 0 D cs [.ref sa, .int vp, .int vb, .int vn] (st_W cs sa sx) (k_X6_isTaken sx vp vb vn) (st_W cs sa sx) := by
  generalize hres : k_X6_isTaken sx vp vb vn = res
  refine kI_of (cc := cX6_isTaken) (maxL := 6) (ret := (some .boolean)) (by decide) rfl (Nat.le_of_ble_eq_true rfl) ?_
  intro p e s m below meth c A ls H locs hE hS hP hD hl
  obtain ⟨hx, hb, hr, hlocks, hml, hown, hts, hK, hA, hG, hnm⟩ := id hE
  have hown : s.vm.findClass RX6 = some m.cls := hown
  have hl : lv_has ls 6 [(0, .ref sa), (1, .int vp), (2, .int vb), (3, .int vn)] := hl
  have L6 : ∀ (n : Nat) (i : Int32) (acc : Int32) (j : Nat) (hi : i = nI j) (hj : j + n = vn.toInt.toNat + 2) (hj2 : j ≤ vn.toInt.toNat) (hb9 : acc = 0 ∨ acc = 1) (H : Heap) (locs : List Loc) (ls : Array Slot), va_S A s.heap H locs → va_P D vwCl (st_W cs sa sx) H → va_D A (st_W cs sa sx) → lv_has ls 6 [(0, .ref sa), (1, .int vp), (2, .int vb), (3, .int vn), (4, .int acc), (5, .int i)] → k_X6_isTaken_L6 sx vp vb vn n i acc = res → W p l e { frames := 2, cells := 0, slots := 0, locals := 46 } s m ([.ref sa, .int vp, .int vb, .int vn]).toArray below meth c H locs 0 0 (MQ below (va_Qi (fun (r' : Int32) (_ : Unit) => r' = res) (kB D (fun _ => st_W cs sa sx) A) A) ([.ref sa, .int vp, .int vb, .int vn]).toArray s 0 0 A) (F0 m 6 ls []) := by
    intro n
    induction n with
    | zero =>
      intro i acc j hi hj hj2 hb9 H locs ls hS hP hD hl hres
      exact absurd hj2 (by omega)
    | succ n ih =>
      intro i acc j hi hj hj2 hb9 H locs ls hS hP hD hl hres
      unfold k_X6_isTaken_L6 at hres
      refine lv_iload hx hb dX6_isTaken_6 (lv_at hl 5 rfl) ?_
      refine lv_iload_n hx hb dX6_isTaken_8 rfl (lv_at hl 3 rfl) ?_
      refine lv_icmp_ge (tgt := 45) hx hb dX6_isTaken_9 (by decide) (fun c_9 => ?_) (fun c_9 => ?_)
      · skip
        have c_9 : (vn ≤ i) := c_9
        rw [if_pos c_9] at hres
        refine lv_iload hx hb dX6_isTaken_45 (lv_at hl 4 rfl) ?_
        subst hres
        exact kI_ret hE hS hP hD (nar_b hb9) rfl (Nat.le_of_ble_eq_true rfl) (Nat.le_of_ble_eq_true rfl) dX6_isTaken_47
      · skip
        have c_9 : ¬ (vn ≤ i) := c_9
        rw [if_neg c_9] at hres
        refine lv_iload hx hb dX6_isTaken_12 (lv_at hl 4 rfl) ?_
        refine lv_if_ne (tgt := 32) hx hb dX6_isTaken_14 (by decide) (fun c_14 => ?_) (fun c_14 => ?_)
        · skip
          have c_14 : ¬ (acc = 0) := c_14
          rw [if_neg c_14] at hres
          refine lv_iconst (v := 1) hx hb dX6_isTaken_32 (by decide) ?_
          refine lv_goto (tgt := 37) hx hb dX6_isTaken_33 (by decide) ?_
          refine lv_istore (lv' := [(4, .int 1), (0, .ref sa), (1, .int vp), (2, .int vb), (3, .int vn), (5, .int i)]) hx hb dX6_isTaken_37 hl (by decide) rfl (fun ls hl => ?_)
          refine lv_iinc (v := (i + 1)) (lv' := [(5, .int (i + 1)), (4, .int 1), (0, .ref sa), (1, .int vp), (2, .int vb), (3, .int vn)]) hx hb dX6_isTaken_39 hl (k := 5) rfl (by rfl) (by decide) rfl (fun ls hl => ?_)
          refine lv_goto (tgt := 6) hx hb dX6_isTaken_42 (by decide) ?_
          exact ih (i + 1) 1 (j + 1) (by rw [hi, nI_1]) (by omega) (by have hq9 := Int32.toInt_lt vn; rw [i_le, hi, nI_toInt (by omega)] at c_9; omega) (by first | exact Or.inl rfl | exact Or.inr rfl) _ _ _ hS hP hD (lv_sub hl [2, 3, 4, 5, 1, 0] rfl) hres
        · skip
          have c_14 : (acc = 0) := c_14
          rw [if_pos c_14] at hres
          refine lv_aload_n hx hb dX6_isTaken_17 rfl (lv_at hl 0 rfl) ?_
          refine lv_iload_n hx hb dX6_isTaken_18 rfl (lv_at hl 1 rfl) ?_
          refine lv_iload_n hx hb dX6_isTaken_19 rfl (lv_at hl 2 rfl) ?_
          refine lv_iload hx hb dX6_isTaken_20 (lv_at hl 5 rfl) ?_
          refine lv_iadd hx hb dX6_isTaken_22 ?_
          refine lv_bipush (v := 24) hx hb dX6_isTaken_23 (by decide) ?_
          refine lv_irem hx hb dX6_isTaken_25 (by decide) ?_
          have hP : va_P D vwCl ((st_W cs sa sx) ++ []) H := k_nP hP
          have hD : va_D A ((st_W cs sa sx) ++ []) := k_nD hD
          have hc_26 := c_X6_isCovered l D cs sa sx vp ((vb + i) - (vb + i) / 24 * 24) (by assumption)
          refine kI_call (wc := (st_W cs sa sx)) (wr := []) (w1 := st_W cs sa sx) (r := (k_X6_isCovered sx vp ((vb + i) - (vb + i) / 24 * 24))) hE hP hD hS (k_rS (rest := []) (As := [.ref sa, .int vp, .int ((vb + i) - (vb + i) / 24 * 24)]) hE rfl (hc_26 H.size) (va_cwS 3 hts gX6_isTaken_X6_isCovered rfl rfl rfl (by decide +kernel) ⟨Nat.le_of_ble_eq_true rfl, Nat.le_of_ble_eq_true rfl⟩) hP hD hS rfl hl rfl (Nat.le_of_ble_eq_true rfl) ⟨Nat.le_of_ble_eq_true rfl, Nat.le_of_ble_eq_true rfl⟩ dX6_isTaken_26) (fun H locs hP hD hS => ?_)
          have hP := k_uP hP
          have hD := k_uD hD
          have hP : va_P D vwCl (st_W cs sa sx) H := hP
          have hD : va_D A (st_W cs sa sx) := hD
          refine lv_if_eq (tgt := 36) hx hb dX6_isTaken_29 (by decide) (fun c_29 => ?_) (fun c_29 => ?_)
          · skip
            have c_29 : ((k_X6_isCovered sx vp ((vb + i) - (vb + i) / 24 * 24)) = 0) := c_29
            rw [if_pos c_29] at hres
            refine lv_iconst (v := 0) hx hb dX6_isTaken_36 (by decide) ?_
            refine lv_istore (lv' := [(4, .int 0), (0, .ref sa), (1, .int vp), (2, .int vb), (3, .int vn), (5, .int i)]) hx hb dX6_isTaken_37 hl (by decide) rfl (fun ls hl => ?_)
            refine lv_iinc (v := (i + 1)) (lv' := [(5, .int (i + 1)), (4, .int 0), (0, .ref sa), (1, .int vp), (2, .int vb), (3, .int vn)]) hx hb dX6_isTaken_39 hl (k := 5) rfl (by rfl) (by decide) rfl (fun ls hl => ?_)
            refine lv_goto (tgt := 6) hx hb dX6_isTaken_42 (by decide) ?_
            exact ih (i + 1) 0 (j + 1) (by rw [hi, nI_1]) (by omega) (by have hq9 := Int32.toInt_lt vn; rw [i_le, hi, nI_toInt (by omega)] at c_9; omega) (by first | exact Or.inl rfl | exact Or.inr rfl) _ _ _ hS hP hD (lv_sub hl [2, 3, 4, 5, 1, 0] rfl) hres
          · skip
            have c_29 : ¬ ((k_X6_isCovered sx vp ((vb + i) - (vb + i) / 24 * 24)) = 0) := c_29
            rw [if_neg c_29] at hres
            refine lv_iconst (v := 1) hx hb dX6_isTaken_32 (by decide) ?_
            refine lv_goto (tgt := 37) hx hb dX6_isTaken_33 (by decide) ?_
            refine lv_istore (lv' := [(4, .int 1), (0, .ref sa), (1, .int vp), (2, .int vb), (3, .int vn), (5, .int i)]) hx hb dX6_isTaken_37 hl (by decide) rfl (fun ls hl => ?_)
            refine lv_iinc (v := (i + 1)) (lv' := [(5, .int (i + 1)), (4, .int 1), (0, .ref sa), (1, .int vp), (2, .int vb), (3, .int vn)]) hx hb dX6_isTaken_39 hl (k := 5) rfl (by rfl) (by decide) rfl (fun ls hl => ?_)
            refine lv_goto (tgt := 6) hx hb dX6_isTaken_42 (by decide) ?_
            exact ih (i + 1) 1 (j + 1) (by rw [hi, nI_1]) (by omega) (by have hq9 := Int32.toInt_lt vn; rw [i_le, hi, nI_toInt (by omega)] at c_9; omega) (by first | exact Or.inl rfl | exact Or.inr rfl) _ _ _ hS hP hD (lv_sub hl [2, 3, 4, 5, 1, 0] rfl) hres
  unfold k_X6_isTaken at hres
  refine lv_iconst (v := 0) hx hb dX6_isTaken_0 (by decide) ?_
  refine lv_istore (lv' := [(4, .int 0), (0, .ref sa), (1, .int vp), (2, .int vb), (3, .int vn)]) hx hb dX6_isTaken_1 hl (by decide) rfl (fun ls hl => ?_)
  refine lv_iconst (v := 0) hx hb dX6_isTaken_3 (by decide) ?_
  refine lv_istore (lv' := [(5, .int 0), (4, .int 0), (0, .ref sa), (1, .int vp), (2, .int vb), (3, .int vn)]) hx hb dX6_isTaken_4 hl (by decide) rfl (fun ls hl => ?_)
  exact L6 (vn.toInt.toNat + 2) 0 0 0 (nI_0.symm) (Nat.zero_add _) (Nat.zero_le _) (Or.inl rfl) _ _ _ hS hP hD (lv_sub hl [2, 3, 4, 5, 1, 0] rfl) hres
set_option maxHeartbeats 4000000 in
set_option maxRecDepth 100000 in
theorem c_X6_pegAt (l : Launch) (D : va_G) (cs : Nat → ClassId) (sa : Nat) (sx : Nat → Int32) (vp : Int32) (vb : Int32) (hI : SI sx) : kI l yX6_pegAt wsX6_pegAt { frames := 1, cells := 0, slots := 0, locals := 22 } 0 0 D cs [.ref sa, .int vp, .int vb] (st_W cs sa sx) (k_X6_pegAt sx vp vb) (st_W cs sa sx) := by
  generalize hres : k_X6_pegAt sx vp vb = res
  refine kI_of (cc := cX6_pegAt) (maxL := 4) (ret := (some .int)) (by decide) rfl (Nat.le_of_ble_eq_true rfl) ?_
  intro p e s m below meth c A ls H locs hE hS hP hD hl
  obtain ⟨hx, hb, hr, hlocks, hml, hown, hts, hK, hA, hG, hnm⟩ := id hE
  have hown : s.vm.findClass RX6 = some m.cls := hown
  have hl : lv_has ls 4 [(0, .ref sa), (1, .int vp), (2, .int vb)] := hl
  obtain ⟨⟨hX1, hX2⟩, ⟨hX3, hX4⟩, hX5, hX6⟩ := id hI
  have hLn : (sx 0).toInt = (((sx 0).toInt.toNat : Nat) : Int) := (Int.toNat_of_nonneg hX1).symm
  have L2 : ∀ (n : Nat) (k : Int32) (j : Nat) (hi : k = nI j) (hj : j + n = 31) (hj2 : j ≤ (sx 0).toInt.toNat) (H : Heap) (locs : List Loc) (ls : Array Slot), va_S A s.heap H locs → va_P D vwCl (st_W cs sa sx) H → va_D A (st_W cs sa sx) → lv_has ls 4 [(0, .ref sa), (1, .int vp), (2, .int vb), (3, .int k)] → k_X6_pegAt_L2 sx vp vb n k = res → W p l e { frames := 1, cells := 0, slots := 0, locals := 22 } s m ([.ref sa, .int vp, .int vb]).toArray below meth c H locs 0 0 (MQ below (va_Qi (fun (r' : Int32) (_ : Unit) => r' = res) (kB D (fun _ => st_W cs sa sx) A) A) ([.ref sa, .int vp, .int vb]).toArray s 0 0 A) (F0 m 2 ls []) := by
    intro n
    induction n with
    | zero =>
      intro k j hi hj hj2 H locs ls hS hP hD hl hres
      exact absurd hj2 (by omega)
    | succ n ih =>
      intro k j hi hj hj2 H locs ls hS hP hD hl hres
      unfold k_X6_pegAt_L2 at hres
      have hk9 := nI_b (N := 30) hi (by omega) (by omega)
      refine lv_iload_n hx hb dX6_pegAt_2 rfl (lv_at hl 3 rfl) ?_
      refine lv_aload_n hx hb dX6_pegAt_3 rfl (lv_at hl 0 rfl) ?_
      refine lv_iconst (v := 0) hx hb dX6_pegAt_4 (by decide) ?_
      refine k_iald hx hb hK hP 0 0 (v := (sx 0)) rfl rfl (k_inl rfl) rfl dX6_pegAt_5 ?_
      refine lv_icmp_ge (tgt := 37) hx hb dX6_pegAt_6 (by decide) (fun c_6 => ?_) (fun c_6 => ?_)
      · skip
        have c_6 : ((sx 0) ≤ k) := c_6
        rw [if_pos c_6] at hres
        refine lv_iconst (v := (-1)) hx hb dX6_pegAt_37 (by decide) ?_
        subst hres
        exact kI_ret hE hS hP hD rfl rfl (Nat.le_of_ble_eq_true rfl) (Nat.le_of_ble_eq_true rfl) dX6_pegAt_38
      · skip
        have c_6 : ¬ ((sx 0) ≤ k) := c_6
        rw [if_neg c_6] at hres
        refine lv_aload_n hx hb dX6_pegAt_9 rfl (lv_at hl 0 rfl) ?_
        refine lv_iload_n hx hb dX6_pegAt_10 rfl (lv_at hl 3 rfl) ?_
        refine lv_iconst (v := 0) hx hb dX6_pegAt_11 (by decide) ?_
        have hP : va_P D vwCl ((st_W cs sa sx) ++ []) H := k_nP hP
        have hD : va_D A ((st_W cs sa sx) ++ []) := k_nD hD
        have hc_12 := c_X6_peg l D cs sa sx k 0 hk9 (by decide)
        refine kI_call (wc := (st_W cs sa sx)) (wr := []) (w1 := st_W cs sa sx) (r := (k_X6_peg sx k 0)) hE hP hD hS (k_rS (rest := []) (As := [.ref sa, .int k, .int 0]) hE rfl (hc_12 H.size) (va_cwS 3 hts gX6_pegAt_X6_peg rfl rfl rfl (by decide +kernel) ⟨Nat.le_of_ble_eq_true rfl, Nat.le_of_ble_eq_true rfl⟩) hP hD hS rfl hl rfl (Nat.le_of_ble_eq_true rfl) ⟨Nat.le_of_ble_eq_true rfl, Nat.le_of_ble_eq_true rfl⟩ dX6_pegAt_12) (fun H locs hP hD hS => ?_)
        have hP := k_uP hP
        have hD := k_uD hD
        have hP : va_P D vwCl (st_W cs sa sx) H := hP
        have hD : va_D A (st_W cs sa sx) := hD
        refine lv_iload_n hx hb dX6_pegAt_15 rfl (lv_at hl 1 rfl) ?_
        refine lv_icmp_ne (tgt := 31) hx hb dX6_pegAt_16 (by decide) (fun c_16 => ?_) (fun c_16 => ?_)
        · skip
          have c_16 : ¬ ((k_X6_peg sx k 0) = vp) := c_16
          rw [if_neg c_16] at hres
          refine lv_iinc (v := (k + 1)) (lv' := [(3, .int (k + 1)), (0, .ref sa), (1, .int vp), (2, .int vb)]) hx hb dX6_pegAt_31 hl (k := 3) rfl (by rfl) (by decide) rfl (fun ls hl => ?_)
          refine lv_goto (tgt := 2) hx hb dX6_pegAt_34 (by decide) ?_
          exact ih (k + 1) (j + 1) (by rw [hi, nI_1]) (by omega) (nI_ltv hi (by omega) hLn c_6) _ _ _ hS hP hD (lv_sub hl [1, 2, 3, 0] rfl) hres
        · skip
          have c_16 : ((k_X6_peg sx k 0) = vp) := c_16
          rw [if_pos c_16] at hres
          refine lv_aload_n hx hb dX6_pegAt_19 rfl (lv_at hl 0 rfl) ?_
          refine lv_iload_n hx hb dX6_pegAt_20 rfl (lv_at hl 3 rfl) ?_
          refine lv_iconst (v := 1) hx hb dX6_pegAt_21 (by decide) ?_
          have hP : va_P D vwCl ((st_W cs sa sx) ++ []) H := k_nP hP
          have hD : va_D A ((st_W cs sa sx) ++ []) := k_nD hD
          have hc_22 := c_X6_peg l D cs sa sx k 1 hk9 (by decide)
          refine kI_call (wc := (st_W cs sa sx)) (wr := []) (w1 := st_W cs sa sx) (r := (k_X6_peg sx k 1)) hE hP hD hS (k_rS (rest := []) (As := [.ref sa, .int k, .int 1]) hE rfl (hc_22 H.size) (va_cwS 3 hts gX6_pegAt_X6_peg rfl rfl rfl (by decide +kernel) ⟨Nat.le_of_ble_eq_true rfl, Nat.le_of_ble_eq_true rfl⟩) hP hD hS rfl hl rfl (Nat.le_of_ble_eq_true rfl) ⟨Nat.le_of_ble_eq_true rfl, Nat.le_of_ble_eq_true rfl⟩ dX6_pegAt_22) (fun H locs hP hD hS => ?_)
          have hP := k_uP hP
          have hD := k_uD hD
          have hP : va_P D vwCl (st_W cs sa sx) H := hP
          have hD : va_D A (st_W cs sa sx) := hD
          refine lv_iload_n hx hb dX6_pegAt_25 rfl (lv_at hl 2 rfl) ?_
          refine lv_icmp_ne (tgt := 31) hx hb dX6_pegAt_26 (by decide) (fun c_26 => ?_) (fun c_26 => ?_)
          · skip
            have c_26 : ¬ ((k_X6_peg sx k 1) = vb) := c_26
            rw [if_neg c_26] at hres
            refine lv_iinc (v := (k + 1)) (lv' := [(3, .int (k + 1)), (0, .ref sa), (1, .int vp), (2, .int vb)]) hx hb dX6_pegAt_31 hl (k := 3) rfl (by rfl) (by decide) rfl (fun ls hl => ?_)
            refine lv_goto (tgt := 2) hx hb dX6_pegAt_34 (by decide) ?_
            exact ih (k + 1) (j + 1) (by rw [hi, nI_1]) (by omega) (nI_ltv hi (by omega) hLn c_6) _ _ _ hS hP hD (lv_sub hl [1, 2, 3, 0] rfl) hres
          · skip
            have c_26 : ((k_X6_peg sx k 1) = vb) := c_26
            rw [if_pos c_26] at hres
            refine lv_iload_n hx hb dX6_pegAt_29 rfl (lv_at hl 3 rfl) ?_
            subst hres
            exact kI_ret hE hS hP hD rfl rfl (Nat.le_of_ble_eq_true rfl) (Nat.le_of_ble_eq_true rfl) dX6_pegAt_30
  unfold k_X6_pegAt at hres
  refine lv_iconst (v := 0) hx hb dX6_pegAt_0 (by decide) ?_
  refine lv_istore_n (lv' := [(3, .int 0), (0, .ref sa), (1, .int vp), (2, .int vb)]) hx hb dX6_pegAt_1 rfl hl (by decide) rfl (fun ls hl => ?_)
  exact L2 31 0 0 (nI_0.symm) (rfl) (Nat.zero_le _) _ _ _ hS hP hD (lv_sub hl [1, 2, 3, 0] rfl) hres
set_option maxHeartbeats 4000000 in
set_option maxRecDepth 100000 in
theorem c_X6_dropOrder (l : Launch) (D : va_G) (cs : Nat → ClassId) (sa : Nat) (sx : Nat → Int32) (vk : Int32) (hI : SI sx) (hk : 0 ≤ vk.toInt ∧ vk.toInt < (sx 1).toInt) : kV l yX6_dropOrder wsX6_dropOrder { frames := 0, cells := 0, slots := 0, locals := 0 } 0 0 D cs [.ref sa, .int vk] (st_W cs sa sx) (fun (_ : Unit) => True) (fun _ => st_W cs sa (k_X6_dropOrder sx vk)) := by
  generalize hres : k_X6_dropOrder sx vk = res
  refine kV_of (cc := cX6_dropOrder) (maxL := 3) (ret := none) (by decide) rfl (Nat.le_of_ble_eq_true rfl) ?_
  intro p e s m below meth c A ls H locs hE hS hP hD hl
  obtain ⟨hx, hb, hr, hlocks, hml, hown, hts, hK, hA, hG, hnm⟩ := id hE
  have hown : s.vm.findClass RX6 = some m.cls := hown
  have hl : lv_has ls 3 [(0, .ref sa), (1, .int vk)] := hl
  obtain ⟨⟨hX1, hX2⟩, ⟨hX3, hX4⟩, hX5, hX6⟩ := id hI
  have hLn : (sx 0).toInt = (((sx 0).toInt.toNat : Nat) : Int) := (Int.toNat_of_nonneg hX1).symm
  have L8 : ∀ (n : Nat) (i : Int32) (xw : Nat → Int32)  (h1 : xw 1 = sx 1) (h2 : 157 ≤ i.toInt) (h3 : i.toInt ≤ (157 + 5 * ((sx 1).toInt - 1))) (h4 : (157 + 5 * ((sx 1).toInt - 1)) - i.toInt < n) (H : Heap) (locs : List Loc) (ls : Array Slot), va_S A s.heap H locs → va_P D vwCl (st_W cs sa xw) H → va_D A (st_W cs sa xw) → lv_has ls 3 [(0, .ref sa), (1, .int vk), (2, .int i)] → k_X6_dropOrder_L8 sx vk n i xw = res → W p l e { frames := 0, cells := 0, slots := 0, locals := 0 } s m ([.ref sa, .int vk]).toArray below meth c H locs 0 0 (MQ below (va_Qv (fun (_ : Unit) => True) (kB D (fun _ => st_W cs sa res) A) A) ([.ref sa, .int vk]).toArray s 0 0 A) (F0 m 8 ls []) := by
    intro n
    induction n with
    | zero =>
      intro i xw h1 h2 h3 h4 H locs ls hS hP hD hl hres
      exact absurd h4 (by omega)
    | succ n ih =>
      intro i xw h1 h2 h3 h4 H locs ls hS hP hD hl hres
      unfold k_X6_dropOrder_L8 at hres
      have e1 : (xw 1 - 1).toInt = (sx 1).toInt - 1 := by rw [h1, i_sub (by have e9 : (1 : Int32).toInt = 1 := rfl; omega) (by have e9 : (1 : Int32).toInt = 1 := rfl; omega)]; rfl
      have eB : (157 + 5 * (xw 1 - 1)).toInt = (157 + 5 * ((sx 1).toInt - 1)) := by rw [i_add' (A := 157) rfl (by rw [i_mul' (A := 5) rfl (by rw [e1]; omega) (by rw [e1]; omega), e1]; omega) (by rw [i_mul' (A := 5) rfl (by rw [e1]; omega) (by rw [e1]; omega), e1]; omega), i_mul' (A := 5) rfl (by rw [e1]; omega) (by rw [e1]; omega), e1]
      refine lv_iload_n hx hb dX6_dropOrder_8 rfl (lv_at hl 2 rfl) ?_
      refine lv_sipush (v := 157) hx hb dX6_dropOrder_9 (by decide) ?_
      refine lv_iconst (v := 5) hx hb dX6_dropOrder_12 (by decide) ?_
      refine lv_aload_n hx hb dX6_dropOrder_13 rfl (lv_at hl 0 rfl) ?_
      refine lv_iconst (v := 1) hx hb dX6_dropOrder_14 (by decide) ?_
      refine k_iald hx hb hK hP 0 0 (v := (xw 1)) rfl rfl (k_inl rfl) rfl dX6_dropOrder_15 ?_
      refine lv_iconst (v := 1) hx hb dX6_dropOrder_16 (by decide) ?_
      refine lv_isub hx hb dX6_dropOrder_17 ?_
      refine lv_imul hx hb dX6_dropOrder_18 ?_
      refine lv_iadd hx hb dX6_dropOrder_19 ?_
      refine lv_icmp_ge (tgt := 37) hx hb dX6_dropOrder_20 (by decide) (fun c_20 => ?_) (fun c_20 => ?_)
      · skip
        have c_20 : ((157 + (5 * ((xw 1) - 1))) ≤ i) := c_20
        rw [if_pos c_20] at hres
        refine lv_aload_n hx hb dX6_dropOrder_37 rfl (lv_at hl 0 rfl) ?_
        refine lv_iconst (v := 1) hx hb dX6_dropOrder_38 (by decide) ?_
        refine lv_dup2_11 hx hb dX6_dropOrder_39 rfl rfl ?_
        refine k_iald hx hb hK hP 0 0 (v := (xw 1)) rfl rfl (k_inl rfl) rfl dX6_dropOrder_40 ?_
        refine lv_iconst (v := 1) hx hb dX6_dropOrder_41 (by decide) ?_
        refine lv_isub hx hb dX6_dropOrder_42 ?_
        refine k_iast hx hb hK hP hD hS 0 0 (k := 1) rfl rfl (k_inl rfl) rfl dX6_dropOrder_43 (fun H locs hP hD hS => ?_)
        have hP : va_P D vwCl (st_W cs sa (va_up xw 1 ((xw 1) - 1))) H := hP
        have hD : va_D A (st_W cs sa (va_up xw 1 ((xw 1) - 1))) := hD
        subst hres
        exact kV_ret () hE hS hP hD trivial (Nat.le_of_ble_eq_true rfl) (Nat.le_of_ble_eq_true rfl) dX6_dropOrder_44
      · skip
        have c_20 : ¬ ((157 + (5 * ((xw 1) - 1))) ≤ i) := c_20
        rw [if_neg c_20] at hres
        refine lv_aload_n hx hb dX6_dropOrder_23 rfl (lv_at hl 0 rfl) ?_
        refine lv_iload_n hx hb dX6_dropOrder_24 rfl (lv_at hl 2 rfl) ?_
        refine lv_aload_n hx hb dX6_dropOrder_25 rfl (lv_at hl 0 rfl) ?_
        refine lv_iload_n hx hb dX6_dropOrder_26 rfl (lv_at hl 2 rfl) ?_
        refine lv_iconst (v := 5) hx hb dX6_dropOrder_27 (by decide) ?_
        refine lv_iadd hx hb dX6_dropOrder_28 ?_
        refine k_iald hx hb hK hP 0 0 (v := (xw ((i + 5).toNatClampNeg))) rfl rfl (by have hc := c_20; rw [i_le, eB] at hc; rw [vp_in_iff, i_addr (A := 5) rfl (by omega) (by omega)]; omega) rfl dX6_dropOrder_29 ?_
        refine k_iast hx hb hK hP hD hS 0 0 (k := i.toNatClampNeg) rfl rfl (by rw [vp_in_iff]; omega) rfl dX6_dropOrder_30 (fun H locs hP hD hS => ?_)
        have hP : va_P D vwCl (st_W cs sa (va_up xw i.toNatClampNeg (xw ((i + 5).toNatClampNeg)))) H := hP
        have hD : va_D A (st_W cs sa (va_up xw i.toNatClampNeg (xw ((i + 5).toNatClampNeg)))) := hD
        refine lv_iinc (v := (i + 1)) (lv' := [(2, .int (i + 1)), (0, .ref sa), (1, .int vk)]) hx hb dX6_dropOrder_31 hl (k := 2) rfl (by rfl) (by decide) rfl (fun ls hl => ?_)
        refine lv_goto (tgt := 8) hx hb dX6_dropOrder_34 (by decide) ?_
        exact ih (i + 1) (va_up xw i.toNatClampNeg (xw ((i + 5).toNatClampNeg))) ((up_lo (by omega)).trans h1) (by rw [i_inc (by omega)]; omega) (by have hc := c_20; rw [i_le, eB] at hc; rw [i_inc (by omega)]; omega) (by rw [i_inc (by omega)]; omega) _ _ _ hS hP hD (lv_sub hl [1, 2, 0] rfl) hres
  unfold k_X6_dropOrder at hres
  refine lv_sipush (v := 157) hx hb dX6_dropOrder_0 (by decide) ?_
  refine lv_iconst (v := 5) hx hb dX6_dropOrder_3 (by decide) ?_
  refine lv_iload_n hx hb dX6_dropOrder_4 rfl (lv_at hl 1 rfl) ?_
  refine lv_imul hx hb dX6_dropOrder_5 ?_
  refine lv_iadd hx hb dX6_dropOrder_6 ?_
  refine lv_istore_n (lv' := [(2, .int (157 + (5 * vk))), (0, .ref sa), (1, .int vk)]) hx hb dX6_dropOrder_7 rfl hl (by decide) rfl (fun ls hl => ?_)
  exact L8 150 (157 + (5 * vk)) sx (rfl) ((drop_i (base := 157) (mul := 5) (B := 157) (M := 5) rfl rfl (by omega) (by omega) hk (by omega)).1) ((drop_i (base := 157) (mul := 5) (B := 157) (M := 5) rfl rfl (by omega) (by omega) hk (by omega)).2.1) ((drop_i (base := 157) (mul := 5) (B := 157) (M := 5) rfl rfl (by omega) (by omega) hk (by omega)).2.2.1) _ _ _ hS hP hD (lv_sub hl [1, 2, 0] rfl) hres
set_option maxHeartbeats 4000000 in
set_option maxRecDepth 100000 in
theorem c_X6_dropPeg (l : Launch) (D : va_G) (cs : Nat → ClassId) (sa : Nat) (sx : Nat → Int32) (vk : Int32) (hI : SI sx) (hk : 0 ≤ vk.toInt ∧ vk.toInt < (sx 0).toInt) : kV l yX6_dropPeg wsX6_dropPeg { frames := 0, cells := 0, slots := 0, locals := 0 } 0 0 D cs [.ref sa, .int vk] (st_W cs sa sx) (fun (_ : Unit) => True) (fun _ => st_W cs sa (k_X6_dropPeg sx vk)) := by
  generalize hres : k_X6_dropPeg sx vk = res
  refine kV_of (cc := cX6_dropPeg) (maxL := 3) (ret := none) (by decide) rfl (Nat.le_of_ble_eq_true rfl) ?_
  intro p e s m below meth c A ls H locs hE hS hP hD hl
  obtain ⟨hx, hb, hr, hlocks, hml, hown, hts, hK, hA, hG, hnm⟩ := id hE
  have hown : s.vm.findClass RX6 = some m.cls := hown
  have hl : lv_has ls 3 [(0, .ref sa), (1, .int vk)] := hl
  obtain ⟨⟨hX1, hX2⟩, ⟨hX3, hX4⟩, hX5, hX6⟩ := id hI
  have hLn : (sx 0).toInt = (((sx 0).toInt.toNat : Nat) : Int) := (Int.toNat_of_nonneg hX1).symm
  have L7 : ∀ (n : Nat) (i : Int32) (xw : Nat → Int32)  (h1 : xw 0 = sx 0) (h2 : 37 ≤ i.toInt) (h3 : i.toInt ≤ (37 + 4 * ((sx 0).toInt - 1))) (h4 : (37 + 4 * ((sx 0).toInt - 1)) - i.toInt < n) (H : Heap) (locs : List Loc) (ls : Array Slot), va_S A s.heap H locs → va_P D vwCl (st_W cs sa xw) H → va_D A (st_W cs sa xw) → lv_has ls 3 [(0, .ref sa), (1, .int vk), (2, .int i)] → k_X6_dropPeg_L7 sx vk n i xw = res → W p l e { frames := 0, cells := 0, slots := 0, locals := 0 } s m ([.ref sa, .int vk]).toArray below meth c H locs 0 0 (MQ below (va_Qv (fun (_ : Unit) => True) (kB D (fun _ => st_W cs sa res) A) A) ([.ref sa, .int vk]).toArray s 0 0 A) (F0 m 7 ls []) := by
    intro n
    induction n with
    | zero =>
      intro i xw h1 h2 h3 h4 H locs ls hS hP hD hl hres
      exact absurd h4 (by omega)
    | succ n ih =>
      intro i xw h1 h2 h3 h4 H locs ls hS hP hD hl hres
      unfold k_X6_dropPeg_L7 at hres
      have e1 : (xw 0 - 1).toInt = (sx 0).toInt - 1 := by rw [h1, i_sub (by have e9 : (1 : Int32).toInt = 1 := rfl; omega) (by have e9 : (1 : Int32).toInt = 1 := rfl; omega)]; rfl
      have eB : (37 + 4 * (xw 0 - 1)).toInt = (37 + 4 * ((sx 0).toInt - 1)) := by rw [i_add' (A := 37) rfl (by rw [i_mul' (A := 4) rfl (by rw [e1]; omega) (by rw [e1]; omega), e1]; omega) (by rw [i_mul' (A := 4) rfl (by rw [e1]; omega) (by rw [e1]; omega), e1]; omega), i_mul' (A := 4) rfl (by rw [e1]; omega) (by rw [e1]; omega), e1]
      refine lv_iload_n hx hb dX6_dropPeg_7 rfl (lv_at hl 2 rfl) ?_
      refine lv_bipush (v := 37) hx hb dX6_dropPeg_8 (by decide) ?_
      refine lv_iconst (v := 4) hx hb dX6_dropPeg_10 (by decide) ?_
      refine lv_aload_n hx hb dX6_dropPeg_11 rfl (lv_at hl 0 rfl) ?_
      refine lv_iconst (v := 0) hx hb dX6_dropPeg_12 (by decide) ?_
      refine k_iald hx hb hK hP 0 0 (v := (xw 0)) rfl rfl (k_inl rfl) rfl dX6_dropPeg_13 ?_
      refine lv_iconst (v := 1) hx hb dX6_dropPeg_14 (by decide) ?_
      refine lv_isub hx hb dX6_dropPeg_15 ?_
      refine lv_imul hx hb dX6_dropPeg_16 ?_
      refine lv_iadd hx hb dX6_dropPeg_17 ?_
      refine lv_icmp_ge (tgt := 35) hx hb dX6_dropPeg_18 (by decide) (fun c_18 => ?_) (fun c_18 => ?_)
      · skip
        have c_18 : ((37 + (4 * ((xw 0) - 1))) ≤ i) := c_18
        rw [if_pos c_18] at hres
        refine lv_aload_n hx hb dX6_dropPeg_35 rfl (lv_at hl 0 rfl) ?_
        refine lv_iconst (v := 0) hx hb dX6_dropPeg_36 (by decide) ?_
        refine lv_dup2_11 hx hb dX6_dropPeg_37 rfl rfl ?_
        refine k_iald hx hb hK hP 0 0 (v := (xw 0)) rfl rfl (k_inl rfl) rfl dX6_dropPeg_38 ?_
        refine lv_iconst (v := 1) hx hb dX6_dropPeg_39 (by decide) ?_
        refine lv_isub hx hb dX6_dropPeg_40 ?_
        refine k_iast hx hb hK hP hD hS 0 0 (k := 0) rfl rfl (k_inl rfl) rfl dX6_dropPeg_41 (fun H locs hP hD hS => ?_)
        have hP : va_P D vwCl (st_W cs sa (va_up xw 0 ((xw 0) - 1))) H := hP
        have hD : va_D A (st_W cs sa (va_up xw 0 ((xw 0) - 1))) := hD
        subst hres
        exact kV_ret () hE hS hP hD trivial (Nat.le_of_ble_eq_true rfl) (Nat.le_of_ble_eq_true rfl) dX6_dropPeg_42
      · skip
        have c_18 : ¬ ((37 + (4 * ((xw 0) - 1))) ≤ i) := c_18
        rw [if_neg c_18] at hres
        refine lv_aload_n hx hb dX6_dropPeg_21 rfl (lv_at hl 0 rfl) ?_
        refine lv_iload_n hx hb dX6_dropPeg_22 rfl (lv_at hl 2 rfl) ?_
        refine lv_aload_n hx hb dX6_dropPeg_23 rfl (lv_at hl 0 rfl) ?_
        refine lv_iload_n hx hb dX6_dropPeg_24 rfl (lv_at hl 2 rfl) ?_
        refine lv_iconst (v := 4) hx hb dX6_dropPeg_25 (by decide) ?_
        refine lv_iadd hx hb dX6_dropPeg_26 ?_
        refine k_iald hx hb hK hP 0 0 (v := (xw ((i + 4).toNatClampNeg))) rfl rfl (by have hc := c_18; rw [i_le, eB] at hc; rw [vp_in_iff, i_addr (A := 4) rfl (by omega) (by omega)]; omega) rfl dX6_dropPeg_27 ?_
        refine k_iast hx hb hK hP hD hS 0 0 (k := i.toNatClampNeg) rfl rfl (by rw [vp_in_iff]; omega) rfl dX6_dropPeg_28 (fun H locs hP hD hS => ?_)
        have hP : va_P D vwCl (st_W cs sa (va_up xw i.toNatClampNeg (xw ((i + 4).toNatClampNeg)))) H := hP
        have hD : va_D A (st_W cs sa (va_up xw i.toNatClampNeg (xw ((i + 4).toNatClampNeg)))) := hD
        refine lv_iinc (v := (i + 1)) (lv' := [(2, .int (i + 1)), (0, .ref sa), (1, .int vk)]) hx hb dX6_dropPeg_29 hl (k := 2) rfl (by rfl) (by decide) rfl (fun ls hl => ?_)
        refine lv_goto (tgt := 7) hx hb dX6_dropPeg_32 (by decide) ?_
        exact ih (i + 1) (va_up xw i.toNatClampNeg (xw ((i + 4).toNatClampNeg))) ((up_lo (by omega)).trans h1) (by rw [i_inc (by omega)]; omega) (by have hc := c_18; rw [i_le, eB] at hc; rw [i_inc (by omega)]; omega) (by rw [i_inc (by omega)]; omega) _ _ _ hS hP hD (lv_sub hl [1, 2, 0] rfl) hres
  unfold k_X6_dropPeg at hres
  refine lv_bipush (v := 37) hx hb dX6_dropPeg_0 (by decide) ?_
  refine lv_iconst (v := 4) hx hb dX6_dropPeg_2 (by decide) ?_
  refine lv_iload_n hx hb dX6_dropPeg_3 rfl (lv_at hl 1 rfl) ?_
  refine lv_imul hx hb dX6_dropPeg_4 ?_
  refine lv_iadd hx hb dX6_dropPeg_5 ?_
  refine lv_istore_n (lv' := [(2, .int (37 + (4 * vk))), (0, .ref sa), (1, .int vk)]) hx hb dX6_dropPeg_6 rfl hl (by decide) rfl (fun ls hl => ?_)
  exact L7 150 (37 + (4 * vk)) sx (rfl) ((drop_i (base := 37) (mul := 4) (B := 37) (M := 4) rfl rfl (by omega) (by omega) hk (by omega)).1) ((drop_i (base := 37) (mul := 4) (B := 37) (M := 4) rfl rfl (by omega) (by omega) hk (by omega)).2.1) ((drop_i (base := 37) (mul := 4) (B := 37) (M := 4) rfl rfl (by omega) (by omega) hk (by omega)).2.2.1) _ _ _ hS hP hD (lv_sub hl [1, 2, 0] rfl) hres
set_option maxHeartbeats 4000000 in
set_option maxRecDepth 100000 in
theorem c_X6_waits (l : Launch) (D : va_G) (cs : Nat → ClassId) (sa : Nat) (sx : Nat → Int32) (vk : Int32) (hI : SI sx) (hk : 0 ≤ vk.toInt ∧ vk.toInt ≤ 11) : kI l yX6_waits wsX6_waits { frames := 3, cells := 0, slots := 0, locals := 67 } 0 0 D cs [.ref sa, .int vk] (st_W cs sa sx) (k_X6_waits sx vk) (st_W cs sa sx) := by
  generalize hres : k_X6_waits sx vk = res
  refine kI_of (cc := cX6_waits) (maxL := 3) (ret := (some .boolean)) (by decide) rfl (Nat.le_of_ble_eq_true rfl) ?_
  intro p e s m below meth c A ls H locs hE hS hP hD hl
  obtain ⟨hx, hb, hr, hlocks, hml, hown, hts, hK, hA, hG, hnm⟩ := id hE
  have hown : s.vm.findClass RX6 = some m.cls := hown
  have hl : lv_has ls 3 [(0, .ref sa), (1, .int vk)] := hl
  unfold k_X6_waits at hres
  refine lv_aload_n hx hb dX6_waits_0 rfl (lv_at hl 0 rfl) ?_
  refine lv_iload_n hx hb dX6_waits_1 rfl (lv_at hl 1 rfl) ?_
  refine lv_iconst (v := 0) hx hb dX6_waits_2 (by decide) ?_
  have hP : va_P D vwCl ((st_W cs sa sx) ++ []) H := k_nP hP
  have hD : va_D A ((st_W cs sa sx) ++ []) := k_nD hD
  have hc_3 := c_X6_order l D cs sa sx vk 0 hk (by decide)
  refine kI_call (wc := (st_W cs sa sx)) (wr := []) (w1 := st_W cs sa sx) (r := (k_X6_order sx vk 0)) hE hP hD hS (k_rS (rest := []) (As := [.ref sa, .int vk, .int 0]) hE rfl (hc_3 H.size) (va_cwS 3 hts gX6_waits_X6_order rfl rfl rfl (by decide +kernel) ⟨Nat.le_of_ble_eq_true rfl, Nat.le_of_ble_eq_true rfl⟩) hP hD hS rfl hl rfl (Nat.le_of_ble_eq_true rfl) ⟨Nat.le_of_ble_eq_true rfl, Nat.le_of_ble_eq_true rfl⟩ dX6_waits_3) (fun H locs hP hD hS => ?_)
  have hP := k_uP hP
  have hD := k_uD hD
  have hP : va_P D vwCl (st_W cs sa sx) H := hP
  have hD : va_D A (st_W cs sa sx) := hD
  refine lv_iconst (v := 1) hx hb dX6_waits_6 (by decide) ?_
  refine lv_icmp_ne (tgt := 14) hx hb dX6_waits_7 (by decide) (fun c_7 => ?_) (fun c_7 => ?_)
  · skip
    have c_7 : ¬ ((k_X6_order sx vk 0) = 1) := c_7
    rw [if_neg c_7] at hres
    refine lv_iconst (v := 0) hx hb dX6_waits_14 (by decide) ?_
    refine lv_istore_n (lv' := [(2, .int 0), (0, .ref sa), (1, .int vk)]) hx hb dX6_waits_15 rfl hl (by decide) rfl (fun ls hl => ?_)
    refine lv_aload_n hx hb dX6_waits_16 rfl (lv_at hl 1 rfl) ?_
    refine lv_aload_n hx hb dX6_waits_17 rfl (lv_at hl 1 rfl) ?_
    refine lv_iload_n hx hb dX6_waits_18 rfl (lv_at hl 2 rfl) ?_
    refine lv_iconst (v := 1) hx hb dX6_waits_19 (by decide) ?_
    have hP : va_P D vwCl ((st_W cs sa sx) ++ []) H := k_nP hP
    have hD : va_D A ((st_W cs sa sx) ++ []) := k_nD hD
    have hc_20 := c_X6_order l D cs sa sx vk 1 hk (by decide)
    refine kI_call (wc := (st_W cs sa sx)) (wr := []) (w1 := st_W cs sa sx) (r := (k_X6_order sx vk 1)) hE hP hD hS (k_rS (rest := [.ref sa]) (As := [.ref sa, .int vk, .int 1]) hE rfl (hc_20 H.size) (va_cwS 3 hts gX6_waits_X6_order rfl rfl rfl (by decide +kernel) ⟨Nat.le_of_ble_eq_true rfl, Nat.le_of_ble_eq_true rfl⟩) hP hD hS rfl hl rfl (Nat.le_of_ble_eq_true rfl) ⟨Nat.le_of_ble_eq_true rfl, Nat.le_of_ble_eq_true rfl⟩ dX6_waits_20) (fun H locs hP hD hS => ?_)
    have hP := k_uP hP
    have hD := k_uD hD
    have hP : va_P D vwCl (st_W cs sa sx) H := hP
    have hD : va_D A (st_W cs sa sx) := hD
    have hP : va_P D vwCl ((st_W cs sa sx) ++ []) H := k_nP hP
    have hD : va_D A ((st_W cs sa sx) ++ []) := k_nD hD
    have hc_23 := c_X6_isOpen l D cs sa sx (k_X6_order sx vk 1) (by assumption)
    refine kI_call (wc := (st_W cs sa sx)) (wr := []) (w1 := st_W cs sa sx) (r := (k_X6_isOpen sx (k_X6_order sx vk 1))) hE hP hD hS (k_rS (rest := []) (As := [.ref sa, .int (k_X6_order sx vk 1)]) hE rfl (hc_23 H.size) (va_cwS 2 hts gX6_waits_X6_isOpen rfl rfl rfl (by decide +kernel) ⟨Nat.le_of_ble_eq_true rfl, Nat.le_of_ble_eq_true rfl⟩) hP hD hS rfl hl rfl (Nat.le_of_ble_eq_true rfl) ⟨Nat.le_of_ble_eq_true rfl, Nat.le_of_ble_eq_true rfl⟩ dX6_waits_23) (fun H locs hP hD hS => ?_)
    have hP := k_uP hP
    have hD := k_uD hD
    have hP : va_P D vwCl (st_W cs sa sx) H := hP
    have hD : va_D A (st_W cs sa sx) := hD
    refine lv_if_ne (tgt := 54) hx hb dX6_waits_26 (by decide) (fun c_26 => ?_) (fun c_26 => ?_)
    · skip
      have c_26 : ¬ ((k_X6_isOpen sx (k_X6_order sx vk 1)) = 0) := c_26
      rw [if_neg c_26] at hres
      refine lv_iconst (v := 1) hx hb dX6_waits_54 (by decide) ?_
      refine lv_goto (tgt := 59) hx hb dX6_waits_55 (by decide) ?_
      subst hres
      exact kI_ret hE hS hP hD rfl rfl (Nat.le_of_ble_eq_true rfl) (Nat.le_of_ble_eq_true rfl) dX6_waits_59
    · skip
      have c_26 : ((k_X6_isOpen sx (k_X6_order sx vk 1)) = 0) := c_26
      rw [if_pos c_26] at hres
      refine lv_iload_n hx hb dX6_waits_29 rfl (lv_at hl 0 rfl) ?_
      refine lv_if_eq (tgt := 58) hx hb dX6_waits_30 (by decide) (fun c_30 => ?_) (fun c_30 => ?_)
      · skip
        have c_30 : ((0 : Int32) = 0) := c_30
        refine lv_iconst (v := 0) hx hb dX6_waits_58 (by decide) ?_
        subst hres
        exact kI_ret hE hS hP hD rfl rfl (Nat.le_of_ble_eq_true rfl) (Nat.le_of_ble_eq_true rfl) dX6_waits_59
      · skip
        exact absurd c_30 (by decide)
  · skip
    have c_7 : ((k_X6_order sx vk 0) = 1) := c_7
    rw [if_pos c_7] at hres
    refine lv_iconst (v := 1) hx hb dX6_waits_10 (by decide) ?_
    refine lv_goto (tgt := 15) hx hb dX6_waits_11 (by decide) ?_
    refine lv_istore_n (lv' := [(2, .int 1), (0, .ref sa), (1, .int vk)]) hx hb dX6_waits_15 rfl hl (by decide) rfl (fun ls hl => ?_)
    refine lv_aload_n hx hb dX6_waits_16 rfl (lv_at hl 1 rfl) ?_
    refine lv_aload_n hx hb dX6_waits_17 rfl (lv_at hl 1 rfl) ?_
    refine lv_iload_n hx hb dX6_waits_18 rfl (lv_at hl 2 rfl) ?_
    refine lv_iconst (v := 1) hx hb dX6_waits_19 (by decide) ?_
    have hP : va_P D vwCl ((st_W cs sa sx) ++ []) H := k_nP hP
    have hD : va_D A ((st_W cs sa sx) ++ []) := k_nD hD
    have hc_20 := c_X6_order l D cs sa sx vk 1 hk (by decide)
    refine kI_call (wc := (st_W cs sa sx)) (wr := []) (w1 := st_W cs sa sx) (r := (k_X6_order sx vk 1)) hE hP hD hS (k_rS (rest := [.ref sa]) (As := [.ref sa, .int vk, .int 1]) hE rfl (hc_20 H.size) (va_cwS 3 hts gX6_waits_X6_order rfl rfl rfl (by decide +kernel) ⟨Nat.le_of_ble_eq_true rfl, Nat.le_of_ble_eq_true rfl⟩) hP hD hS rfl hl rfl (Nat.le_of_ble_eq_true rfl) ⟨Nat.le_of_ble_eq_true rfl, Nat.le_of_ble_eq_true rfl⟩ dX6_waits_20) (fun H locs hP hD hS => ?_)
    have hP := k_uP hP
    have hD := k_uD hD
    have hP : va_P D vwCl (st_W cs sa sx) H := hP
    have hD : va_D A (st_W cs sa sx) := hD
    have hP : va_P D vwCl ((st_W cs sa sx) ++ []) H := k_nP hP
    have hD : va_D A ((st_W cs sa sx) ++ []) := k_nD hD
    have hc_23 := c_X6_isOpen l D cs sa sx (k_X6_order sx vk 1) (by assumption)
    refine kI_call (wc := (st_W cs sa sx)) (wr := []) (w1 := st_W cs sa sx) (r := (k_X6_isOpen sx (k_X6_order sx vk 1))) hE hP hD hS (k_rS (rest := []) (As := [.ref sa, .int (k_X6_order sx vk 1)]) hE rfl (hc_23 H.size) (va_cwS 2 hts gX6_waits_X6_isOpen rfl rfl rfl (by decide +kernel) ⟨Nat.le_of_ble_eq_true rfl, Nat.le_of_ble_eq_true rfl⟩) hP hD hS rfl hl rfl (Nat.le_of_ble_eq_true rfl) ⟨Nat.le_of_ble_eq_true rfl, Nat.le_of_ble_eq_true rfl⟩ dX6_waits_23) (fun H locs hP hD hS => ?_)
    have hP := k_uP hP
    have hD := k_uD hD
    have hP : va_P D vwCl (st_W cs sa sx) H := hP
    have hD : va_D A (st_W cs sa sx) := hD
    refine lv_if_ne (tgt := 54) hx hb dX6_waits_26 (by decide) (fun c_26 => ?_) (fun c_26 => ?_)
    · skip
      have c_26 : ¬ ((k_X6_isOpen sx (k_X6_order sx vk 1)) = 0) := c_26
      rw [if_neg c_26] at hres
      refine lv_iconst (v := 1) hx hb dX6_waits_54 (by decide) ?_
      refine lv_goto (tgt := 59) hx hb dX6_waits_55 (by decide) ?_
      subst hres
      exact kI_ret hE hS hP hD rfl rfl (Nat.le_of_ble_eq_true rfl) (Nat.le_of_ble_eq_true rfl) dX6_waits_59
    · skip
      have c_26 : ((k_X6_isOpen sx (k_X6_order sx vk 1)) = 0) := c_26
      rw [if_pos c_26] at hres
      refine lv_iload_n hx hb dX6_waits_29 rfl (lv_at hl 0 rfl) ?_
      refine lv_if_eq (tgt := 58) hx hb dX6_waits_30 (by decide) (fun c_30 => ?_) (fun c_30 => ?_)
      · skip
        exact absurd c_30 (by decide)
      · skip
        have c_30 : ¬ ((1 : Int32) = 0) := c_30
        refine lv_aload_n hx hb dX6_waits_33 rfl (lv_at hl 1 rfl) ?_
        refine lv_iload_n hx hb dX6_waits_34 rfl (lv_at hl 2 rfl) ?_
        refine lv_iconst (v := 2) hx hb dX6_waits_35 (by decide) ?_
        have hP : va_P D vwCl ((st_W cs sa sx) ++ []) H := k_nP hP
        have hD : va_D A ((st_W cs sa sx) ++ []) := k_nD hD
        have hc_36 := c_X6_order l D cs sa sx vk 2 hk (by decide)
        refine kI_call (wc := (st_W cs sa sx)) (wr := []) (w1 := st_W cs sa sx) (r := (k_X6_order sx vk 2)) hE hP hD hS (k_rS (rest := []) (As := [.ref sa, .int vk, .int 2]) hE rfl (hc_36 H.size) (va_cwS 3 hts gX6_waits_X6_order rfl rfl rfl (by decide +kernel) ⟨Nat.le_of_ble_eq_true rfl, Nat.le_of_ble_eq_true rfl⟩) hP hD hS rfl hl rfl (Nat.le_of_ble_eq_true rfl) ⟨Nat.le_of_ble_eq_true rfl, Nat.le_of_ble_eq_true rfl⟩ dX6_waits_36) (fun H locs hP hD hS => ?_)
        have hP := k_uP hP
        have hD := k_uD hD
        have hP : va_P D vwCl (st_W cs sa sx) H := hP
        have hD : va_D A (st_W cs sa sx) := hD
        refine lv_aload_n hx hb dX6_waits_39 rfl (lv_at hl 1 rfl) ?_
        refine lv_iload_n hx hb dX6_waits_40 rfl (lv_at hl 2 rfl) ?_
        refine lv_iconst (v := 3) hx hb dX6_waits_41 (by decide) ?_
        have hP : va_P D vwCl ((st_W cs sa sx) ++ []) H := k_nP hP
        have hD : va_D A ((st_W cs sa sx) ++ []) := k_nD hD
        have hc_42 := c_X6_order l D cs sa sx vk 3 hk (by decide)
        refine kI_call (wc := (st_W cs sa sx)) (wr := []) (w1 := st_W cs sa sx) (r := (k_X6_order sx vk 3)) hE hP hD hS (k_rS (rest := [.int (k_X6_order sx vk 2)]) (As := [.ref sa, .int vk, .int 3]) hE rfl (hc_42 H.size) (va_cwS 3 hts gX6_waits_X6_order rfl rfl rfl (by decide +kernel) ⟨Nat.le_of_ble_eq_true rfl, Nat.le_of_ble_eq_true rfl⟩) hP hD hS rfl hl rfl (Nat.le_of_ble_eq_true rfl) ⟨Nat.le_of_ble_eq_true rfl, Nat.le_of_ble_eq_true rfl⟩ dX6_waits_42) (fun H locs hP hD hS => ?_)
        have hP := k_uP hP
        have hD := k_uD hD
        have hP : va_P D vwCl (st_W cs sa sx) H := hP
        have hD : va_D A (st_W cs sa sx) := hD
        refine lv_aload_n hx hb dX6_waits_45 rfl (lv_at hl 1 rfl) ?_
        refine lv_iconst (v := 3) hx hb dX6_waits_46 (by decide) ?_
        refine k_iald hx hb hK hP 0 0 (v := (sx 3)) rfl rfl (k_inl rfl) rfl dX6_waits_47 ?_
        have hP : va_P D vwCl ([] ++ (st_W cs sa sx)) H := hP
        have hD : va_D A ([] ++ (st_W cs sa sx)) := hD
        have hc_48 := c_X6_isOver l D cs (k_X6_order sx vk 2) (k_X6_order sx vk 3) (sx 3)
        refine kI_call (wc := []) (wr := (st_W cs sa sx)) (w1 := []) (r := (k_X6_isOver (k_X6_order sx vk 2) (k_X6_order sx vk 3) (sx 3))) hE hP hD hS (k_rS (rest := []) (As := [.int (k_X6_order sx vk 2), .int (k_X6_order sx vk 3), .int (sx 3)]) hE rfl (hc_48 H.size) (va_cwS 3 hts gX6_waits_X6_isOver rfl rfl rfl (by decide +kernel) ⟨Nat.le_of_ble_eq_true rfl, Nat.le_of_ble_eq_true rfl⟩) hP hD hS rfl hl rfl (Nat.le_of_ble_eq_true rfl) ⟨Nat.le_of_ble_eq_true rfl, Nat.le_of_ble_eq_true rfl⟩ dX6_waits_48) (fun H locs hP hD hS => ?_)
        have hP : va_P D vwCl (st_W cs sa sx) H := hP
        have hD : va_D A (st_W cs sa sx) := hD
        refine lv_if_eq (tgt := 58) hx hb dX6_waits_51 (by decide) (fun c_51 => ?_) (fun c_51 => ?_)
        · skip
          have c_51 : ((k_X6_isOver (k_X6_order sx vk 2) (k_X6_order sx vk 3) (sx 3)) = 0) := c_51
          rw [if_pos c_51] at hres
          refine lv_iconst (v := 0) hx hb dX6_waits_58 (by decide) ?_
          subst hres
          exact kI_ret hE hS hP hD rfl rfl (Nat.le_of_ble_eq_true rfl) (Nat.le_of_ble_eq_true rfl) dX6_waits_59
        · skip
          have c_51 : ¬ ((k_X6_isOver (k_X6_order sx vk 2) (k_X6_order sx vk 3) (sx 3)) = 0) := c_51
          rw [if_neg c_51] at hres
          refine lv_iconst (v := 1) hx hb dX6_waits_54 (by decide) ?_
          refine lv_goto (tgt := 59) hx hb dX6_waits_55 (by decide) ?_
          subst hres
          exact kI_ret hE hS hP hD rfl rfl (Nat.le_of_ble_eq_true rfl) (Nat.le_of_ble_eq_true rfl) dX6_waits_59
set_option maxHeartbeats 4000000 in
set_option maxRecDepth 100000 in
theorem c_X6_isVoid (l : Launch) (D : va_G) (cs : Nat → ClassId) (sa : Nat) (sx : Nat → Int32) (vk : Int32) (hI : SI sx) (hk : 0 ≤ vk.toInt ∧ vk.toInt ≤ 11) : kI l yX6_isVoid wsX6_isVoid { frames := 3, cells := 0, slots := 0, locals := 71 } 0 0 D cs [.ref sa, .int vk] (st_W cs sa sx) (k_X6_isVoid sx vk) (st_W cs sa sx) := by
  generalize hres : k_X6_isVoid sx vk = res
  refine kI_of (cc := cX6_isVoid) (maxL := 4) (ret := (some .boolean)) (by decide) rfl (Nat.le_of_ble_eq_true rfl) ?_
  intro p e s m below meth c A ls H locs hE hS hP hD hl
  obtain ⟨hx, hb, hr, hlocks, hml, hown, hts, hK, hA, hG, hnm⟩ := id hE
  have hown : s.vm.findClass RX6 = some m.cls := hown
  have hl : lv_has ls 4 [(0, .ref sa), (1, .int vk)] := hl
  unfold k_X6_isVoid at hres
  refine lv_aload_n hx hb dX6_isVoid_0 rfl (lv_at hl 0 rfl) ?_
  refine lv_iload_n hx hb dX6_isVoid_1 rfl (lv_at hl 1 rfl) ?_
  refine lv_iconst (v := 1) hx hb dX6_isVoid_2 (by decide) ?_
  have hP : va_P D vwCl ((st_W cs sa sx) ++ []) H := k_nP hP
  have hD : va_D A ((st_W cs sa sx) ++ []) := k_nD hD
  have hc_3 := c_X6_order l D cs sa sx vk 1 hk (by decide)
  refine kI_call (wc := (st_W cs sa sx)) (wr := []) (w1 := st_W cs sa sx) (r := (k_X6_order sx vk 1)) hE hP hD hS (k_rS (rest := []) (As := [.ref sa, .int vk, .int 1]) hE rfl (hc_3 H.size) (va_cwS 3 hts gX6_isVoid_X6_order rfl rfl rfl (by decide +kernel) ⟨Nat.le_of_ble_eq_true rfl, Nat.le_of_ble_eq_true rfl⟩) hP hD hS rfl hl rfl (Nat.le_of_ble_eq_true rfl) ⟨Nat.le_of_ble_eq_true rfl, Nat.le_of_ble_eq_true rfl⟩ dX6_isVoid_3) (fun H locs hP hD hS => ?_)
  have hP := k_uP hP
  have hD := k_uD hD
  have hP : va_P D vwCl (st_W cs sa sx) H := hP
  have hD : va_D A (st_W cs sa sx) := hD
  refine lv_istore_n (lv' := [(2, .int (k_X6_order sx vk 1)), (0, .ref sa), (1, .int vk)]) hx hb dX6_isVoid_6 rfl hl (by decide) rfl (fun ls hl => ?_)
  refine lv_aload_n hx hb dX6_isVoid_7 rfl (lv_at hl 1 rfl) ?_
  refine lv_iload_n hx hb dX6_isVoid_8 rfl (lv_at hl 2 rfl) ?_
  refine lv_iconst (v := 2) hx hb dX6_isVoid_9 (by decide) ?_
  have hP : va_P D vwCl ((st_W cs sa sx) ++ []) H := k_nP hP
  have hD : va_D A ((st_W cs sa sx) ++ []) := k_nD hD
  have hc_10 := c_X6_order l D cs sa sx vk 2 hk (by decide)
  refine kI_call (wc := (st_W cs sa sx)) (wr := []) (w1 := st_W cs sa sx) (r := (k_X6_order sx vk 2)) hE hP hD hS (k_rS (rest := []) (As := [.ref sa, .int vk, .int 2]) hE rfl (hc_10 H.size) (va_cwS 3 hts gX6_isVoid_X6_order rfl rfl rfl (by decide +kernel) ⟨Nat.le_of_ble_eq_true rfl, Nat.le_of_ble_eq_true rfl⟩) hP hD hS rfl hl rfl (Nat.le_of_ble_eq_true rfl) ⟨Nat.le_of_ble_eq_true rfl, Nat.le_of_ble_eq_true rfl⟩ dX6_isVoid_10) (fun H locs hP hD hS => ?_)
  have hP := k_uP hP
  have hD := k_uD hD
  have hP : va_P D vwCl (st_W cs sa sx) H := hP
  have hD : va_D A (st_W cs sa sx) := hD
  refine lv_istore_n (lv' := [(3, .int (k_X6_order sx vk 2)), (2, .int (k_X6_order sx vk 1)), (0, .ref sa), (1, .int vk)]) hx hb dX6_isVoid_13 rfl hl (by decide) rfl (fun ls hl => ?_)
  refine lv_aload_n hx hb dX6_isVoid_14 rfl (lv_at hl 2 rfl) ?_
  refine lv_iload_n hx hb dX6_isVoid_15 rfl (lv_at hl 3 rfl) ?_
  refine lv_iconst (v := 0) hx hb dX6_isVoid_16 (by decide) ?_
  have hP : va_P D vwCl ((st_W cs sa sx) ++ []) H := k_nP hP
  have hD : va_D A ((st_W cs sa sx) ++ []) := k_nD hD
  have hc_17 := c_X6_order l D cs sa sx vk 0 hk (by decide)
  refine kI_call (wc := (st_W cs sa sx)) (wr := []) (w1 := st_W cs sa sx) (r := (k_X6_order sx vk 0)) hE hP hD hS (k_rS (rest := []) (As := [.ref sa, .int vk, .int 0]) hE rfl (hc_17 H.size) (va_cwS 3 hts gX6_isVoid_X6_order rfl rfl rfl (by decide +kernel) ⟨Nat.le_of_ble_eq_true rfl, Nat.le_of_ble_eq_true rfl⟩) hP hD hS rfl hl rfl (Nat.le_of_ble_eq_true rfl) ⟨Nat.le_of_ble_eq_true rfl, Nat.le_of_ble_eq_true rfl⟩ dX6_isVoid_17) (fun H locs hP hD hS => ?_)
  have hP := k_uP hP
  have hD := k_uD hD
  have hP : va_P D vwCl (st_W cs sa sx) H := hP
  have hD : va_D A (st_W cs sa sx) := hD
  refine lv_iconst (v := 1) hx hb dX6_isVoid_20 (by decide) ?_
  refine lv_icmp_ne (tgt := 55) hx hb dX6_isVoid_21 (by decide) (fun c_21 => ?_) (fun c_21 => ?_)
  · skip
    have c_21 : ¬ ((k_X6_order sx vk 0) = 1) := c_21
    rw [if_neg c_21] at hres
    refine lv_aload_n hx hb dX6_isVoid_55 rfl (lv_at hl 2 rfl) ?_
    refine lv_iload_n hx hb dX6_isVoid_56 rfl (lv_at hl 1 rfl) ?_
    refine lv_iload_n hx hb dX6_isVoid_57 rfl (lv_at hl 0 rfl) ?_
    have hP : va_P D vwCl ((st_W cs sa sx) ++ []) H := k_nP hP
    have hD : va_D A ((st_W cs sa sx) ++ []) := k_nD hD
    have hc_58 := c_X6_pegAt l D cs sa sx (k_X6_order sx vk 1) (k_X6_order sx vk 2) (by assumption)
    refine kI_call (wc := (st_W cs sa sx)) (wr := []) (w1 := st_W cs sa sx) (r := (k_X6_pegAt sx (k_X6_order sx vk 1) (k_X6_order sx vk 2))) hE hP hD hS (k_rS (rest := []) (As := [.ref sa, .int (k_X6_order sx vk 1), .int (k_X6_order sx vk 2)]) hE rfl (hc_58 H.size) (va_cwS 3 hts gX6_isVoid_X6_pegAt rfl rfl rfl (by decide +kernel) ⟨Nat.le_of_ble_eq_true rfl, Nat.le_of_ble_eq_true rfl⟩) hP hD hS rfl hl rfl (Nat.le_of_ble_eq_true rfl) ⟨Nat.le_of_ble_eq_true rfl, Nat.le_of_ble_eq_true rfl⟩ dX6_isVoid_58) (fun H locs hP hD hS => ?_)
    have hP := k_uP hP
    have hD := k_uD hD
    have hP : va_P D vwCl (st_W cs sa sx) H := hP
    have hD : va_D A (st_W cs sa sx) := hD
    refine lv_iconst (v := (-1)) hx hb dX6_isVoid_61 (by decide) ?_
    refine lv_icmp_ne (tgt := 69) hx hb dX6_isVoid_62 (by decide) (fun c_62 => ?_) (fun c_62 => ?_)
    · skip
      have c_62 : ¬ ((k_X6_pegAt sx (k_X6_order sx vk 1) (k_X6_order sx vk 2)) = (-1)) := c_62
      rw [if_neg c_62] at hres
      refine lv_iconst (v := 0) hx hb dX6_isVoid_69 (by decide) ?_
      subst hres
      exact kI_ret hE hS hP hD rfl rfl (Nat.le_of_ble_eq_true rfl) (Nat.le_of_ble_eq_true rfl) dX6_isVoid_70
    · skip
      have c_62 : ((k_X6_pegAt sx (k_X6_order sx vk 1) (k_X6_order sx vk 2)) = (-1)) := c_62
      rw [if_pos c_62] at hres
      refine lv_iconst (v := 1) hx hb dX6_isVoid_65 (by decide) ?_
      refine lv_goto (tgt := 70) hx hb dX6_isVoid_66 (by decide) ?_
      subst hres
      exact kI_ret hE hS hP hD rfl rfl (Nat.le_of_ble_eq_true rfl) (Nat.le_of_ble_eq_true rfl) dX6_isVoid_70
  · skip
    have c_21 : ((k_X6_order sx vk 0) = 1) := c_21
    rw [if_pos c_21] at hres
    refine lv_aload_n hx hb dX6_isVoid_24 rfl (lv_at hl 2 rfl) ?_
    refine lv_iload_n hx hb dX6_isVoid_25 rfl (lv_at hl 1 rfl) ?_
    refine lv_iload_n hx hb dX6_isVoid_26 rfl (lv_at hl 0 rfl) ?_
    refine lv_aload_n hx hb dX6_isVoid_27 rfl (lv_at hl 2 rfl) ?_
    refine lv_iload_n hx hb dX6_isVoid_28 rfl (lv_at hl 3 rfl) ?_
    refine lv_iconst (v := 3) hx hb dX6_isVoid_29 (by decide) ?_
    have hP : va_P D vwCl ((st_W cs sa sx) ++ []) H := k_nP hP
    have hD : va_D A ((st_W cs sa sx) ++ []) := k_nD hD
    have hc_30 := c_X6_order l D cs sa sx vk 3 hk (by decide)
    refine kI_call (wc := (st_W cs sa sx)) (wr := []) (w1 := st_W cs sa sx) (r := (k_X6_order sx vk 3)) hE hP hD hS (k_rS (rest := [.int (k_X6_order sx vk 2), .int (k_X6_order sx vk 1), .ref sa]) (As := [.ref sa, .int vk, .int 3]) hE rfl (hc_30 H.size) (va_cwS 3 hts gX6_isVoid_X6_order rfl rfl rfl (by decide +kernel) ⟨Nat.le_of_ble_eq_true rfl, Nat.le_of_ble_eq_true rfl⟩) hP hD hS rfl hl rfl (Nat.le_of_ble_eq_true rfl) ⟨Nat.le_of_ble_eq_true rfl, Nat.le_of_ble_eq_true rfl⟩ dX6_isVoid_30) (fun H locs hP hD hS => ?_)
    have hP := k_uP hP
    have hD := k_uD hD
    have hP : va_P D vwCl (st_W cs sa sx) H := hP
    have hD : va_D A (st_W cs sa sx) := hD
    have hP : va_P D vwCl ((st_W cs sa sx) ++ []) H := k_nP hP
    have hD : va_D A ((st_W cs sa sx) ++ []) := k_nD hD
    have hc_33 := c_X6_isTaken l D cs sa sx (k_X6_order sx vk 1) (k_X6_order sx vk 2) (k_X6_order sx vk 3) (by assumption)
    refine kI_call (wc := (st_W cs sa sx)) (wr := []) (w1 := st_W cs sa sx) (r := (k_X6_isTaken sx (k_X6_order sx vk 1) (k_X6_order sx vk 2) (k_X6_order sx vk 3))) hE hP hD hS (k_rS (rest := []) (As := [.ref sa, .int (k_X6_order sx vk 1), .int (k_X6_order sx vk 2), .int (k_X6_order sx vk 3)]) hE rfl (hc_33 H.size) (va_cwS 4 hts gX6_isVoid_X6_isTaken rfl rfl rfl (by decide +kernel) ⟨Nat.le_of_ble_eq_true rfl, Nat.le_of_ble_eq_true rfl⟩) hP hD hS rfl hl rfl (Nat.le_of_ble_eq_true rfl) ⟨Nat.le_of_ble_eq_true rfl, Nat.le_of_ble_eq_true rfl⟩ dX6_isVoid_33) (fun H locs hP hD hS => ?_)
    have hP := k_uP hP
    have hD := k_uD hD
    have hP : va_P D vwCl (st_W cs sa sx) H := hP
    have hD : va_D A (st_W cs sa sx) := hD
    refine lv_if_ne (tgt := 47) hx hb dX6_isVoid_36 (by decide) (fun c_36 => ?_) (fun c_36 => ?_)
    · skip
      have c_36 : ¬ ((k_X6_isTaken sx (k_X6_order sx vk 1) (k_X6_order sx vk 2) (k_X6_order sx vk 3)) = 0) := c_36
      rw [if_neg c_36] at hres
      refine lv_iconst (v := 1) hx hb dX6_isVoid_47 (by decide) ?_
      refine lv_goto (tgt := 70) hx hb dX6_isVoid_48 (by decide) ?_
      subst hres
      exact kI_ret hE hS hP hD rfl rfl (Nat.le_of_ble_eq_true rfl) (Nat.le_of_ble_eq_true rfl) dX6_isVoid_70
    · skip
      have c_36 : ((k_X6_isTaken sx (k_X6_order sx vk 1) (k_X6_order sx vk 2) (k_X6_order sx vk 3)) = 0) := c_36
      rw [if_pos c_36] at hres
      refine lv_aload_n hx hb dX6_isVoid_39 rfl (lv_at hl 2 rfl) ?_
      refine lv_iconst (v := 0) hx hb dX6_isVoid_40 (by decide) ?_
      refine k_iald hx hb hK hP 0 0 (v := (sx 0)) rfl rfl (k_inl rfl) rfl dX6_isVoid_41 ?_
      refine lv_bipush (v := 30) hx hb dX6_isVoid_42 (by decide) ?_
      refine lv_icmp_ne (tgt := 51) hx hb dX6_isVoid_44 (by decide) (fun c_44 => ?_) (fun c_44 => ?_)
      · skip
        have c_44 : ¬ ((sx 0) = 30) := c_44
        rw [if_neg c_44] at hres
        refine lv_iconst (v := 0) hx hb dX6_isVoid_51 (by decide) ?_
        refine lv_goto (tgt := 70) hx hb dX6_isVoid_52 (by decide) ?_
        subst hres
        exact kI_ret hE hS hP hD rfl rfl (Nat.le_of_ble_eq_true rfl) (Nat.le_of_ble_eq_true rfl) dX6_isVoid_70
      · skip
        have c_44 : ((sx 0) = 30) := c_44
        rw [if_pos c_44] at hres
        refine lv_iconst (v := 1) hx hb dX6_isVoid_47 (by decide) ?_
        refine lv_goto (tgt := 70) hx hb dX6_isVoid_48 (by decide) ?_
        subst hres
        exact kI_ret hE hS hP hD rfl rfl (Nat.le_of_ble_eq_true rfl) (Nat.le_of_ble_eq_true rfl) dX6_isVoid_70
set_option maxHeartbeats 4000000 in
set_option maxRecDepth 100000 in
theorem c_X6_orderOn (l : Launch) (D : va_G) (cs : Nat → ClassId) (sa : Nat) (sx : Nat → Int32) (vs : Int32) (vp : Int32) (vb : Int32) (vn : Int32) (hI : SI sx) (h11 : (sx 1).toInt ≤ 11) : kI l yX6_orderOn wsX6_orderOn { frames := 0, cells := 0, slots := 0, locals := 0 } 0 0 D cs [.ref sa, .int vs, .int vp, .int vb, .int vn] (st_W cs sa sx) (k_X6_orderOn sx vs vp vb vn).1 (st_W cs sa ((k_X6_orderOn sx vs vp vb vn).2)) := by
  generalize hres : k_X6_orderOn sx vs vp vb vn = res
  refine kI_of (cc := cX6_orderOn) (maxL := 6) (ret := (some .int)) (by decide) rfl (Nat.le_of_ble_eq_true rfl) ?_
  intro p e s m below meth c A ls H locs hE hS hP hD hl
  obtain ⟨hx, hb, hr, hlocks, hml, hown, hts, hK, hA, hG, hnm⟩ := id hE
  have hown : s.vm.findClass RX6 = some m.cls := hown
  have hl : lv_has ls 6 [(0, .ref sa), (1, .int vs), (2, .int vp), (3, .int vb), (4, .int vn)] := hl
  obtain ⟨⟨hX1, hX2⟩, ⟨hX3, hX4⟩, hX5, hX6⟩ := id hI
  have hLn : (sx 0).toInt = (((sx 0).toInt.toNat : Nat) : Int) := (Int.toNat_of_nonneg hX1).symm
  have eB : (157 + (5 * (sx 1))).toInt = 157 + 5 * (sx 1).toInt := (drop_i (base := 157) (mul := 5) (B := 157) (M := 5) (n := 13) rfl rfl (by omega) (by omega) ⟨hX3, by omega⟩ (by omega)).2.2.2
  unfold k_X6_orderOn at hres
  refine lv_sipush (v := 157) hx hb dX6_orderOn_0 (by decide) ?_
  refine lv_iconst (v := 5) hx hb dX6_orderOn_3 (by decide) ?_
  refine lv_aload_n hx hb dX6_orderOn_4 rfl (lv_at hl 0 rfl) ?_
  refine lv_iconst (v := 1) hx hb dX6_orderOn_5 (by decide) ?_
  refine k_iald hx hb hK hP 0 0 (v := (sx 1)) rfl rfl (k_inl rfl) rfl dX6_orderOn_6 ?_
  refine lv_imul hx hb dX6_orderOn_7 ?_
  refine lv_iadd hx hb dX6_orderOn_8 ?_
  refine lv_istore (lv' := [(5, .int (157 + (5 * (sx 1)))), (0, .ref sa), (1, .int vs), (2, .int vp), (3, .int vb), (4, .int vn)]) hx hb dX6_orderOn_9 hl (by decide) rfl (fun ls hl => ?_)
  refine lv_aload_n hx hb dX6_orderOn_11 rfl (lv_at hl 1 rfl) ?_
  refine lv_iload hx hb dX6_orderOn_12 (lv_at hl 0 rfl) ?_
  refine lv_iload_n hx hb dX6_orderOn_14 rfl (lv_at hl 2 rfl) ?_
  refine k_iast hx hb hK hP hD hS 0 0 (k := (157 + (5 * (sx 1))).toNatClampNeg) rfl rfl (by rw [vp_in_iff]; omega) rfl dX6_orderOn_15 (fun H locs hP hD hS => ?_)
  have hP : va_P D vwCl (st_W cs sa (va_up sx ((157 + (5 * (sx 1))).toNatClampNeg) vs)) H := hP
  have hD : va_D A (st_W cs sa (va_up sx ((157 + (5 * (sx 1))).toNatClampNeg) vs)) := hD
  refine lv_aload_n hx hb dX6_orderOn_16 rfl (lv_at hl 1 rfl) ?_
  refine lv_iload hx hb dX6_orderOn_17 (lv_at hl 0 rfl) ?_
  refine lv_iconst (v := 1) hx hb dX6_orderOn_19 (by decide) ?_
  refine lv_iadd hx hb dX6_orderOn_20 ?_
  refine lv_iload_n hx hb dX6_orderOn_21 rfl (lv_at hl 3 rfl) ?_
  refine k_iast hx hb hK hP hD hS 0 0 (k := ((157 + (5 * (sx 1))) + 1).toNatClampNeg) rfl rfl (by rw [vp_in_iff, i_addr (A := 1) rfl (by omega) (by omega)]; omega) rfl dX6_orderOn_22 (fun H locs hP hD hS => ?_)
  have hP : va_P D vwCl (st_W cs sa (va_up (va_up sx ((157 + (5 * (sx 1))).toNatClampNeg) vs) (((157 + (5 * (sx 1))) + 1).toNatClampNeg) vp)) H := hP
  have hD : va_D A (st_W cs sa (va_up (va_up sx ((157 + (5 * (sx 1))).toNatClampNeg) vs) (((157 + (5 * (sx 1))) + 1).toNatClampNeg) vp)) := hD
  refine lv_aload_n hx hb dX6_orderOn_23 rfl (lv_at hl 1 rfl) ?_
  refine lv_iload hx hb dX6_orderOn_24 (lv_at hl 0 rfl) ?_
  refine lv_iconst (v := 2) hx hb dX6_orderOn_26 (by decide) ?_
  refine lv_iadd hx hb dX6_orderOn_27 ?_
  refine lv_iload_n hx hb dX6_orderOn_28 rfl (lv_at hl 4 rfl) ?_
  refine k_iast hx hb hK hP hD hS 0 0 (k := ((157 + (5 * (sx 1))) + 2).toNatClampNeg) rfl rfl (by rw [vp_in_iff, i_addr (A := 2) rfl (by omega) (by omega)]; omega) rfl dX6_orderOn_29 (fun H locs hP hD hS => ?_)
  have hP : va_P D vwCl (st_W cs sa (va_up (va_up (va_up sx ((157 + (5 * (sx 1))).toNatClampNeg) vs) (((157 + (5 * (sx 1))) + 1).toNatClampNeg) vp) (((157 + (5 * (sx 1))) + 2).toNatClampNeg) vb)) H := hP
  have hD : va_D A (st_W cs sa (va_up (va_up (va_up sx ((157 + (5 * (sx 1))).toNatClampNeg) vs) (((157 + (5 * (sx 1))) + 1).toNatClampNeg) vp) (((157 + (5 * (sx 1))) + 2).toNatClampNeg) vb)) := hD
  refine lv_aload_n hx hb dX6_orderOn_30 rfl (lv_at hl 1 rfl) ?_
  refine lv_iload hx hb dX6_orderOn_31 (lv_at hl 0 rfl) ?_
  refine lv_iconst (v := 3) hx hb dX6_orderOn_33 (by decide) ?_
  refine lv_iadd hx hb dX6_orderOn_34 ?_
  refine lv_iload hx hb dX6_orderOn_35 (lv_at hl 5 rfl) ?_
  refine k_iast hx hb hK hP hD hS 0 0 (k := ((157 + (5 * (sx 1))) + 3).toNatClampNeg) rfl rfl (by rw [vp_in_iff, i_addr (A := 3) rfl (by omega) (by omega)]; omega) rfl dX6_orderOn_37 (fun H locs hP hD hS => ?_)
  have hP : va_P D vwCl (st_W cs sa (va_up (va_up (va_up (va_up sx ((157 + (5 * (sx 1))).toNatClampNeg) vs) (((157 + (5 * (sx 1))) + 1).toNatClampNeg) vp) (((157 + (5 * (sx 1))) + 2).toNatClampNeg) vb) (((157 + (5 * (sx 1))) + 3).toNatClampNeg) vn)) H := hP
  have hD : va_D A (st_W cs sa (va_up (va_up (va_up (va_up sx ((157 + (5 * (sx 1))).toNatClampNeg) vs) (((157 + (5 * (sx 1))) + 1).toNatClampNeg) vp) (((157 + (5 * (sx 1))) + 2).toNatClampNeg) vb) (((157 + (5 * (sx 1))) + 3).toNatClampNeg) vn)) := hD
  refine lv_aload_n hx hb dX6_orderOn_38 rfl (lv_at hl 1 rfl) ?_
  refine lv_iload hx hb dX6_orderOn_39 (lv_at hl 0 rfl) ?_
  refine lv_iconst (v := 4) hx hb dX6_orderOn_41 (by decide) ?_
  refine lv_iadd hx hb dX6_orderOn_42 ?_
  refine lv_iconst (v := 0) hx hb dX6_orderOn_43 (by decide) ?_
  refine k_iast hx hb hK hP hD hS 0 0 (k := ((157 + (5 * (sx 1))) + 4).toNatClampNeg) rfl rfl (by rw [vp_in_iff, i_addr (A := 4) rfl (by omega) (by omega)]; omega) rfl dX6_orderOn_44 (fun H locs hP hD hS => ?_)
  have hP : va_P D vwCl (st_W cs sa (va_up (va_up (va_up (va_up (va_up sx ((157 + (5 * (sx 1))).toNatClampNeg) vs) (((157 + (5 * (sx 1))) + 1).toNatClampNeg) vp) (((157 + (5 * (sx 1))) + 2).toNatClampNeg) vb) (((157 + (5 * (sx 1))) + 3).toNatClampNeg) vn) (((157 + (5 * (sx 1))) + 4).toNatClampNeg) 0)) H := hP
  have hD : va_D A (st_W cs sa (va_up (va_up (va_up (va_up (va_up sx ((157 + (5 * (sx 1))).toNatClampNeg) vs) (((157 + (5 * (sx 1))) + 1).toNatClampNeg) vp) (((157 + (5 * (sx 1))) + 2).toNatClampNeg) vb) (((157 + (5 * (sx 1))) + 3).toNatClampNeg) vn) (((157 + (5 * (sx 1))) + 4).toNatClampNeg) 0)) := hD
  generalize e_44 : (va_up (va_up (va_up (va_up (va_up sx ((157 + (5 * (sx 1))).toNatClampNeg) vs) (((157 + (5 * (sx 1))) + 1).toNatClampNeg) vp) (((157 + (5 * (sx 1))) + 2).toNatClampNeg) vb) (((157 + (5 * (sx 1))) + 3).toNatClampNeg) vn) (((157 + (5 * (sx 1))) + 4).toNatClampNeg) 0) = x_44 at hP hD hres
  have hres := (kbind_eq _ _).symm.trans hres
  refine lv_aload_n hx hb dX6_orderOn_45 rfl (lv_at hl 1 rfl) ?_
  refine lv_iconst (v := 1) hx hb dX6_orderOn_46 (by decide) ?_
  refine lv_dup2_11 hx hb dX6_orderOn_47 rfl rfl ?_
  refine k_iald hx hb hK hP 0 0 (v := (x_44 1)) rfl rfl (k_inl rfl) rfl dX6_orderOn_48 ?_
  refine lv_iconst (v := 1) hx hb dX6_orderOn_49 (by decide) ?_
  refine lv_iadd hx hb dX6_orderOn_50 ?_
  refine k_iast hx hb hK hP hD hS 0 0 (k := 1) rfl rfl (k_inl rfl) rfl dX6_orderOn_51 (fun H locs hP hD hS => ?_)
  have hP : va_P D vwCl (st_W cs sa (va_up x_44 1 ((x_44 1) + 1))) H := hP
  have hD : va_D A (st_W cs sa (va_up x_44 1 ((x_44 1) + 1))) := hD
  refine lv_aload_n hx hb dX6_orderOn_52 rfl (lv_at hl 1 rfl) ?_
  refine lv_iconst (v := 1) hx hb dX6_orderOn_53 (by decide) ?_
  refine k_iald hx hb hK hP 0 0 (v := ((x_44 1) + 1)) rfl rfl (k_inl rfl) rfl dX6_orderOn_54 ?_
  refine lv_iconst (v := 1) hx hb dX6_orderOn_55 (by decide) ?_
  refine lv_isub hx hb dX6_orderOn_56 ?_
  subst hres
  exact kI_ret hE hS hP hD rfl rfl (Nat.le_of_ble_eq_true rfl) (Nat.le_of_ble_eq_true rfl) dX6_orderOn_57
set_option maxHeartbeats 4000000 in
set_option maxRecDepth 100000 in
theorem c_X6_cancelOn (l : Launch) (D : va_G) (cs : Nat → ClassId) (sa : Nat) (sx : Nat → Int32) (vk : Int32) (hI : SI sx) (hk : 0 ≤ vk.toInt ∧ vk.toInt < (sx 1).toInt) : kI l yX6_cancelOn wsX6_cancelOn { frames := 1, cells := 0, slots := 0, locals := 22 } 0 0 D cs [.ref sa, .int vk] (st_W cs sa sx) (k_X6_cancelOn sx vk).1 (st_W cs sa ((k_X6_cancelOn sx vk).2)) := by
  generalize hres : k_X6_cancelOn sx vk = res
  refine kI_of (cc := cX6_cancelOn) (maxL := 2) (ret := (some .int)) (by decide) rfl (Nat.le_of_ble_eq_true rfl) ?_
  intro p e s m below meth c A ls H locs hE hS hP hD hl
  obtain ⟨hx, hb, hr, hlocks, hml, hown, hts, hK, hA, hG, hnm⟩ := id hE
  have hown : s.vm.findClass RX6 = some m.cls := hown
  have hl : lv_has ls 2 [(0, .ref sa), (1, .int vk)] := hl
  unfold k_X6_cancelOn at hres
  refine lv_aload_n hx hb dX6_cancelOn_0 rfl (lv_at hl 0 rfl) ?_
  refine lv_iload_n hx hb dX6_cancelOn_1 rfl (lv_at hl 1 rfl) ?_
  have hP : va_P D vwCl ((st_W cs sa sx) ++ []) H := k_nP hP
  have hD : va_D A ((st_W cs sa sx) ++ []) := k_nD hD
  have hc_2 := c_X6_dropOrder l D cs sa sx vk (by assumption) (by assumption)
  refine kV_call (wc := (st_W cs sa sx)) (wr := []) (w1 := fun _ => st_W cs sa (k_X6_dropOrder sx vk)) hE hP hD hS (k_rS (rest := []) (As := [.ref sa, .int vk]) hE rfl (hc_2 H.size) (va_cwS 2 hts gX6_cancelOn_X6_dropOrder rfl rfl rfl (by decide +kernel) ⟨Nat.le_of_ble_eq_true rfl, Nat.le_of_ble_eq_true rfl⟩) hP hD hS rfl hl rfl (Nat.le_of_ble_eq_true rfl) ⟨Nat.le_of_ble_eq_true rfl, Nat.le_of_ble_eq_true rfl⟩ dX6_cancelOn_2) (fun _ H locs _ hP hD hS => ?_)
  have hP := k_uP hP
  have hD := k_uD hD
  have hP : va_P D vwCl (st_W cs sa (k_X6_dropOrder sx vk)) H := hP
  have hD : va_D A (st_W cs sa (k_X6_dropOrder sx vk)) := hD
  refine lv_aload_n hx hb dX6_cancelOn_5 rfl (lv_at hl 0 rfl) ?_
  refine lv_iconst (v := 1) hx hb dX6_cancelOn_6 (by decide) ?_
  refine k_iald hx hb hK hP 0 0 (v := ((k_X6_dropOrder sx vk) 1)) rfl rfl (k_inl rfl) rfl dX6_cancelOn_7 ?_
  subst hres
  exact kI_ret hE hS hP hD rfl rfl (Nat.le_of_ble_eq_true rfl) (Nat.le_of_ble_eq_true rfl) dX6_cancelOn_8
set_option maxHeartbeats 4000000 in
set_option maxRecDepth 100000 in
theorem c_X6_change (l : Launch) (D : va_G) (cs : Nat → ClassId) (sa : Nat) (sx : Nat → Int32) (vw : Int32) (vv : Int32) (hw : 0 ≤ vw.toInt ∧ vw.toInt ≤ 2) : kI l yX6_change wsX6_change { frames := 0, cells := 0, slots := 0, locals := 0 } 0 0 D cs [.ref sa, .int vw, .int vv] (st_W cs sa sx) (k_X6_change sx vw vv).1 (st_W cs sa ((k_X6_change sx vw vv).2)) := by
  generalize hres : k_X6_change sx vw vv = res
  refine kI_of (cc := cX6_change) (maxL := 4) (ret := (some .int)) (by decide) rfl (Nat.le_of_ble_eq_true rfl) ?_
  intro p e s m below meth c A ls H locs hE hS hP hD hl
  obtain ⟨hx, hb, hr, hlocks, hml, hown, hts, hK, hA, hG, hnm⟩ := id hE
  have hown : s.vm.findClass RX6 = some m.cls := hown
  have hl : lv_has ls 4 [(0, .ref sa), (1, .int vw), (2, .int vv)] := hl
  unfold k_X6_change at hres
  refine lv_aload_n hx hb dX6_change_0 rfl (lv_at hl 0 rfl) ?_
  refine lv_bipush (v := 12) hx hb dX6_change_1 (by decide) ?_
  refine lv_iload_n hx hb dX6_change_3 rfl (lv_at hl 1 rfl) ?_
  refine lv_iadd hx hb dX6_change_4 ?_
  refine k_iald hx hb hK hP 0 0 (v := (sx ((12 + vw).toNatClampNeg))) rfl rfl (add_in (A := 12) rfl (by omega) (by omega) (by decide)) rfl dX6_change_5 ?_
  refine lv_istore_n (lv' := [(3, .int (sx ((12 + vw).toNatClampNeg))), (0, .ref sa), (1, .int vw), (2, .int vv)]) hx hb dX6_change_6 rfl hl (by decide) rfl (fun ls hl => ?_)
  refine lv_aload_n hx hb dX6_change_7 rfl (lv_at hl 1 rfl) ?_
  refine lv_bipush (v := 12) hx hb dX6_change_8 (by decide) ?_
  refine lv_iload_n hx hb dX6_change_10 rfl (lv_at hl 2 rfl) ?_
  refine lv_iadd hx hb dX6_change_11 ?_
  refine lv_iload_n hx hb dX6_change_12 rfl (lv_at hl 3 rfl) ?_
  refine k_iast hx hb hK hP hD hS 0 0 (k := (12 + vw).toNatClampNeg) rfl rfl (add_in (A := 12) rfl (by omega) (by omega) (by decide)) rfl dX6_change_13 (fun H locs hP hD hS => ?_)
  have hP : va_P D vwCl (st_W cs sa (va_up sx ((12 + vw).toNatClampNeg) vv)) H := hP
  have hD : va_D A (st_W cs sa (va_up sx ((12 + vw).toNatClampNeg) vv)) := hD
  refine lv_iload_n hx hb dX6_change_14 rfl (lv_at hl 0 rfl) ?_
  subst hres
  exact kI_ret hE hS hP hD rfl rfl (Nat.le_of_ble_eq_true rfl) (Nat.le_of_ble_eq_true rfl) dX6_change_15
set_option maxHeartbeats 4000000 in
set_option maxRecDepth 100000 in
theorem c_X6_doOrder (l : Launch) (D : va_G) (cs : Nat → ClassId) (sa : Nat) (sx : Nat → Int32) (vk : Int32) (hI : SI sx) (hk : 0 ≤ vk.toInt ∧ vk.toInt ≤ 11) (hdp : ¬ (k_X6_order (va_up sx 5 ((sx 5) + 1)) vk 0) = 1 → 0 ≤ (k_X6_pegAt (va_up sx 5 ((sx 5) + 1)) (k_X6_order (va_up sx 5 ((sx 5) + 1)) vk 1) (k_X6_order (va_up sx 5 ((sx 5) + 1)) vk 2)).toInt ∧ (k_X6_pegAt (va_up sx 5 ((sx 5) + 1)) (k_X6_order (va_up sx 5 ((sx 5) + 1)) vk 1) (k_X6_order (va_up sx 5 ((sx 5) + 1)) vk 2)).toInt < ((va_up sx 5 ((sx 5) + 1)) 0).toInt) : kV l yX6_doOrder wsX6_doOrder { frames := 2, cells := 0, slots := 0, locals := 45 } 0 0 D cs [.ref sa, .int vk] (st_W cs sa sx) (fun (_ : Unit) => True) (fun _ => st_W cs sa (k_X6_doOrder sx vk)) := by
  generalize hres : k_X6_doOrder sx vk = res
  refine kV_of (cc := cX6_doOrder) (maxL := 3) (ret := none) (by decide) rfl (Nat.le_of_ble_eq_true rfl) ?_
  intro p e s m below meth c A ls H locs hE hS hP hD hl
  obtain ⟨hx, hb, hr, hlocks, hml, hown, hts, hK, hA, hG, hnm⟩ := id hE
  have hown : s.vm.findClass RX6 = some m.cls := hown
  have hl : lv_has ls 3 [(0, .ref sa), (1, .int vk)] := hl
  obtain ⟨⟨hX1, hX2⟩, ⟨hX3, hX4⟩, hX5, hX6⟩ := id hI
  have hLn : (sx 0).toInt = (((sx 0).toInt.toNat : Nat) : Int) := (Int.toNat_of_nonneg hX1).symm
  have eB : (37 + (4 * (sx 0))).toInt = 37 + 4 * (sx 0).toInt := drop_i2 (base := 37) (mul := 4) (B := 37) (M := 4) rfl rfl (by omega) (by omega) ⟨hX1, hX2⟩
  unfold k_X6_doOrder at hres
  refine lv_aload_n hx hb dX6_doOrder_0 rfl (lv_at hl 0 rfl) ?_
  refine lv_iconst (v := 5) hx hb dX6_doOrder_1 (by decide) ?_
  refine lv_dup2_11 hx hb dX6_doOrder_2 rfl rfl ?_
  refine k_iald hx hb hK hP 0 0 (v := (sx 5)) rfl rfl (k_inl rfl) rfl dX6_doOrder_3 ?_
  refine lv_iconst (v := 1) hx hb dX6_doOrder_4 (by decide) ?_
  refine lv_iadd hx hb dX6_doOrder_5 ?_
  refine k_iast hx hb hK hP hD hS 0 0 (k := 5) rfl rfl (k_inl rfl) rfl dX6_doOrder_6 (fun H locs hP hD hS => ?_)
  have hP : va_P D vwCl (st_W cs sa (va_up sx 5 ((sx 5) + 1))) H := hP
  have hD : va_D A (st_W cs sa (va_up sx 5 ((sx 5) + 1))) := hD
  refine lv_aload_n hx hb dX6_doOrder_7 rfl (lv_at hl 0 rfl) ?_
  refine lv_iload_n hx hb dX6_doOrder_8 rfl (lv_at hl 1 rfl) ?_
  refine lv_iconst (v := 0) hx hb dX6_doOrder_9 (by decide) ?_
  have hP : va_P D vwCl ((st_W cs sa (va_up sx 5 ((sx 5) + 1))) ++ []) H := k_nP hP
  have hD : va_D A ((st_W cs sa (va_up sx 5 ((sx 5) + 1))) ++ []) := k_nD hD
  have hc_10 := c_X6_order l D cs sa (va_up sx 5 ((sx 5) + 1)) vk 0 hk (by decide)
  refine kI_call (wc := (st_W cs sa (va_up sx 5 ((sx 5) + 1)))) (wr := []) (w1 := st_W cs sa (va_up sx 5 ((sx 5) + 1))) (r := (k_X6_order (va_up sx 5 ((sx 5) + 1)) vk 0)) hE hP hD hS (k_rS (rest := []) (As := [.ref sa, .int vk, .int 0]) hE rfl (hc_10 H.size) (va_cwS 3 hts gX6_doOrder_X6_order rfl rfl rfl (by decide +kernel) ⟨Nat.le_of_ble_eq_true rfl, Nat.le_of_ble_eq_true rfl⟩) hP hD hS rfl hl rfl (Nat.le_of_ble_eq_true rfl) ⟨Nat.le_of_ble_eq_true rfl, Nat.le_of_ble_eq_true rfl⟩ dX6_doOrder_10) (fun H locs hP hD hS => ?_)
  have hP := k_uP hP
  have hD := k_uD hD
  have hP : va_P D vwCl (st_W cs sa (va_up sx 5 ((sx 5) + 1))) H := hP
  have hD : va_D A (st_W cs sa (va_up sx 5 ((sx 5) + 1))) := hD
  refine lv_iconst (v := 1) hx hb dX6_doOrder_13 (by decide) ?_
  refine lv_icmp_ne (tgt := 75) hx hb dX6_doOrder_14 (by decide) (fun c_14 => ?_) (fun c_14 => ?_)
  · skip
    have c_14 : ¬ ((k_X6_order (va_up sx 5 ((sx 5) + 1)) vk 0) = 1) := c_14
    rw [if_neg c_14] at hres
    refine lv_aload_n hx hb dX6_doOrder_75 rfl (lv_at hl 0 rfl) ?_
    refine lv_aload_n hx hb dX6_doOrder_76 rfl (lv_at hl 0 rfl) ?_
    refine lv_aload_n hx hb dX6_doOrder_77 rfl (lv_at hl 0 rfl) ?_
    refine lv_iload_n hx hb dX6_doOrder_78 rfl (lv_at hl 1 rfl) ?_
    refine lv_iconst (v := 1) hx hb dX6_doOrder_79 (by decide) ?_
    have hP : va_P D vwCl ((st_W cs sa (va_up sx 5 ((sx 5) + 1))) ++ []) H := k_nP hP
    have hD : va_D A ((st_W cs sa (va_up sx 5 ((sx 5) + 1))) ++ []) := k_nD hD
    have hc_80 := c_X6_order l D cs sa (va_up sx 5 ((sx 5) + 1)) vk 1 hk (by decide)
    refine kI_call (wc := (st_W cs sa (va_up sx 5 ((sx 5) + 1)))) (wr := []) (w1 := st_W cs sa (va_up sx 5 ((sx 5) + 1))) (r := (k_X6_order (va_up sx 5 ((sx 5) + 1)) vk 1)) hE hP hD hS (k_rS (rest := [.ref sa, .ref sa]) (As := [.ref sa, .int vk, .int 1]) hE rfl (hc_80 H.size) (va_cwS 3 hts gX6_doOrder_X6_order rfl rfl rfl (by decide +kernel) ⟨Nat.le_of_ble_eq_true rfl, Nat.le_of_ble_eq_true rfl⟩) hP hD hS rfl hl rfl (Nat.le_of_ble_eq_true rfl) ⟨Nat.le_of_ble_eq_true rfl, Nat.le_of_ble_eq_true rfl⟩ dX6_doOrder_80) (fun H locs hP hD hS => ?_)
    have hP := k_uP hP
    have hD := k_uD hD
    have hP : va_P D vwCl (st_W cs sa (va_up sx 5 ((sx 5) + 1))) H := hP
    have hD : va_D A (st_W cs sa (va_up sx 5 ((sx 5) + 1))) := hD
    refine lv_aload_n hx hb dX6_doOrder_83 rfl (lv_at hl 0 rfl) ?_
    refine lv_iload_n hx hb dX6_doOrder_84 rfl (lv_at hl 1 rfl) ?_
    refine lv_iconst (v := 2) hx hb dX6_doOrder_85 (by decide) ?_
    have hP : va_P D vwCl ((st_W cs sa (va_up sx 5 ((sx 5) + 1))) ++ []) H := k_nP hP
    have hD : va_D A ((st_W cs sa (va_up sx 5 ((sx 5) + 1))) ++ []) := k_nD hD
    have hc_86 := c_X6_order l D cs sa (va_up sx 5 ((sx 5) + 1)) vk 2 hk (by decide)
    refine kI_call (wc := (st_W cs sa (va_up sx 5 ((sx 5) + 1)))) (wr := []) (w1 := st_W cs sa (va_up sx 5 ((sx 5) + 1))) (r := (k_X6_order (va_up sx 5 ((sx 5) + 1)) vk 2)) hE hP hD hS (k_rS (rest := [.int (k_X6_order (va_up sx 5 ((sx 5) + 1)) vk 1), .ref sa, .ref sa]) (As := [.ref sa, .int vk, .int 2]) hE rfl (hc_86 H.size) (va_cwS 3 hts gX6_doOrder_X6_order rfl rfl rfl (by decide +kernel) ⟨Nat.le_of_ble_eq_true rfl, Nat.le_of_ble_eq_true rfl⟩) hP hD hS rfl hl rfl (Nat.le_of_ble_eq_true rfl) ⟨Nat.le_of_ble_eq_true rfl, Nat.le_of_ble_eq_true rfl⟩ dX6_doOrder_86) (fun H locs hP hD hS => ?_)
    have hP := k_uP hP
    have hD := k_uD hD
    have hP : va_P D vwCl (st_W cs sa (va_up sx 5 ((sx 5) + 1))) H := hP
    have hD : va_D A (st_W cs sa (va_up sx 5 ((sx 5) + 1))) := hD
    have hP : va_P D vwCl ((st_W cs sa (va_up sx 5 ((sx 5) + 1))) ++ []) H := k_nP hP
    have hD : va_D A ((st_W cs sa (va_up sx 5 ((sx 5) + 1))) ++ []) := k_nD hD
    have hc_89 := c_X6_pegAt l D cs sa (va_up sx 5 ((sx 5) + 1)) (k_X6_order (va_up sx 5 ((sx 5) + 1)) vk 1) (k_X6_order (va_up sx 5 ((sx 5) + 1)) vk 2) (show SI _ from hI)
    refine kI_call (wc := (st_W cs sa (va_up sx 5 ((sx 5) + 1)))) (wr := []) (w1 := st_W cs sa (va_up sx 5 ((sx 5) + 1))) (r := (k_X6_pegAt (va_up sx 5 ((sx 5) + 1)) (k_X6_order (va_up sx 5 ((sx 5) + 1)) vk 1) (k_X6_order (va_up sx 5 ((sx 5) + 1)) vk 2))) hE hP hD hS (k_rS (rest := [.ref sa]) (As := [.ref sa, .int (k_X6_order (va_up sx 5 ((sx 5) + 1)) vk 1), .int (k_X6_order (va_up sx 5 ((sx 5) + 1)) vk 2)]) hE rfl (hc_89 H.size) (va_cwS 3 hts gX6_doOrder_X6_pegAt rfl rfl rfl (by decide +kernel) ⟨Nat.le_of_ble_eq_true rfl, Nat.le_of_ble_eq_true rfl⟩) hP hD hS rfl hl rfl (Nat.le_of_ble_eq_true rfl) ⟨Nat.le_of_ble_eq_true rfl, Nat.le_of_ble_eq_true rfl⟩ dX6_doOrder_89) (fun H locs hP hD hS => ?_)
    have hP := k_uP hP
    have hD := k_uD hD
    have hP : va_P D vwCl (st_W cs sa (va_up sx 5 ((sx 5) + 1))) H := hP
    have hD : va_D A (st_W cs sa (va_up sx 5 ((sx 5) + 1))) := hD
    have hP : va_P D vwCl ((st_W cs sa (va_up sx 5 ((sx 5) + 1))) ++ []) H := k_nP hP
    have hD : va_D A ((st_W cs sa (va_up sx 5 ((sx 5) + 1))) ++ []) := k_nD hD
    have hc_92 := c_X6_dropPeg l D cs sa (va_up sx 5 ((sx 5) + 1)) (k_X6_pegAt (va_up sx 5 ((sx 5) + 1)) (k_X6_order (va_up sx 5 ((sx 5) + 1)) vk 1) (k_X6_order (va_up sx 5 ((sx 5) + 1)) vk 2)) (show SI _ from hI) (hdp c_14)
    refine kV_call (wc := (st_W cs sa (va_up sx 5 ((sx 5) + 1)))) (wr := []) (w1 := fun _ => st_W cs sa (k_X6_dropPeg (va_up sx 5 ((sx 5) + 1)) (k_X6_pegAt (va_up sx 5 ((sx 5) + 1)) (k_X6_order (va_up sx 5 ((sx 5) + 1)) vk 1) (k_X6_order (va_up sx 5 ((sx 5) + 1)) vk 2)))) hE hP hD hS (k_rS (rest := []) (As := [.ref sa, .int (k_X6_pegAt (va_up sx 5 ((sx 5) + 1)) (k_X6_order (va_up sx 5 ((sx 5) + 1)) vk 1) (k_X6_order (va_up sx 5 ((sx 5) + 1)) vk 2))]) hE rfl (hc_92 H.size) (va_cwS 2 hts gX6_doOrder_X6_dropPeg rfl rfl rfl (by decide +kernel) ⟨Nat.le_of_ble_eq_true rfl, Nat.le_of_ble_eq_true rfl⟩) hP hD hS rfl hl rfl (Nat.le_of_ble_eq_true rfl) ⟨Nat.le_of_ble_eq_true rfl, Nat.le_of_ble_eq_true rfl⟩ dX6_doOrder_92) (fun _ H locs _ hP hD hS => ?_)
    have hP := k_uP hP
    have hD := k_uD hD
    have hP : va_P D vwCl (st_W cs sa (k_X6_dropPeg (va_up sx 5 ((sx 5) + 1)) (k_X6_pegAt (va_up sx 5 ((sx 5) + 1)) (k_X6_order (va_up sx 5 ((sx 5) + 1)) vk 1) (k_X6_order (va_up sx 5 ((sx 5) + 1)) vk 2)))) H := hP
    have hD : va_D A (st_W cs sa (k_X6_dropPeg (va_up sx 5 ((sx 5) + 1)) (k_X6_pegAt (va_up sx 5 ((sx 5) + 1)) (k_X6_order (va_up sx 5 ((sx 5) + 1)) vk 1) (k_X6_order (va_up sx 5 ((sx 5) + 1)) vk 2)))) := hD
    subst hres
    exact kV_ret () hE hS hP hD trivial (Nat.le_of_ble_eq_true rfl) (Nat.le_of_ble_eq_true rfl) dX6_doOrder_95
  · skip
    have c_14 : ((k_X6_order (va_up sx 5 ((sx 5) + 1)) vk 0) = 1) := c_14
    rw [if_pos c_14] at hres
    refine lv_bipush (v := 37) hx hb dX6_doOrder_17 (by decide) ?_
    refine lv_iconst (v := 4) hx hb dX6_doOrder_19 (by decide) ?_
    refine lv_aload_n hx hb dX6_doOrder_20 rfl (lv_at hl 0 rfl) ?_
    refine lv_iconst (v := 0) hx hb dX6_doOrder_21 (by decide) ?_
    refine k_iald hx hb hK hP 0 0 (v := (sx 0)) rfl rfl (k_inl rfl) rfl dX6_doOrder_22 ?_
    refine lv_imul hx hb dX6_doOrder_23 ?_
    refine lv_iadd hx hb dX6_doOrder_24 ?_
    refine lv_istore_n (lv' := [(2, .int (37 + (4 * (sx 0)))), (0, .ref sa), (1, .int vk)]) hx hb dX6_doOrder_25 rfl hl (by decide) rfl (fun ls hl => ?_)
    refine lv_aload_n hx hb dX6_doOrder_26 rfl (lv_at hl 1 rfl) ?_
    refine lv_iload_n hx hb dX6_doOrder_27 rfl (lv_at hl 0 rfl) ?_
    refine lv_aload_n hx hb dX6_doOrder_28 rfl (lv_at hl 1 rfl) ?_
    refine lv_iload_n hx hb dX6_doOrder_29 rfl (lv_at hl 2 rfl) ?_
    refine lv_iconst (v := 1) hx hb dX6_doOrder_30 (by decide) ?_
    have hP : va_P D vwCl ((st_W cs sa (va_up sx 5 ((sx 5) + 1))) ++ []) H := k_nP hP
    have hD : va_D A ((st_W cs sa (va_up sx 5 ((sx 5) + 1))) ++ []) := k_nD hD
    have hc_31 := c_X6_order l D cs sa (va_up sx 5 ((sx 5) + 1)) vk 1 hk (by decide)
    refine kI_call (wc := (st_W cs sa (va_up sx 5 ((sx 5) + 1)))) (wr := []) (w1 := st_W cs sa (va_up sx 5 ((sx 5) + 1))) (r := (k_X6_order (va_up sx 5 ((sx 5) + 1)) vk 1)) hE hP hD hS (k_rS (rest := [.int (37 + (4 * (sx 0))), .ref sa]) (As := [.ref sa, .int vk, .int 1]) hE rfl (hc_31 H.size) (va_cwS 3 hts gX6_doOrder_X6_order rfl rfl rfl (by decide +kernel) ⟨Nat.le_of_ble_eq_true rfl, Nat.le_of_ble_eq_true rfl⟩) hP hD hS rfl hl rfl (Nat.le_of_ble_eq_true rfl) ⟨Nat.le_of_ble_eq_true rfl, Nat.le_of_ble_eq_true rfl⟩ dX6_doOrder_31) (fun H locs hP hD hS => ?_)
    have hP := k_uP hP
    have hD := k_uD hD
    have hP : va_P D vwCl (st_W cs sa (va_up sx 5 ((sx 5) + 1))) H := hP
    have hD : va_D A (st_W cs sa (va_up sx 5 ((sx 5) + 1))) := hD
    refine k_iast hx hb hK hP hD hS 0 0 (k := (37 + (4 * (sx 0))).toNatClampNeg) rfl rfl (by rw [vp_in_iff]; omega) rfl dX6_doOrder_34 (fun H locs hP hD hS => ?_)
    have hP : va_P D vwCl (st_W cs sa (va_up (va_up sx 5 ((sx 5) + 1)) ((37 + (4 * (sx 0))).toNatClampNeg) (k_X6_order (va_up sx 5 ((sx 5) + 1)) vk 1))) H := hP
    have hD : va_D A (st_W cs sa (va_up (va_up sx 5 ((sx 5) + 1)) ((37 + (4 * (sx 0))).toNatClampNeg) (k_X6_order (va_up sx 5 ((sx 5) + 1)) vk 1))) := hD
    generalize e_34 : (va_up (va_up sx 5 ((sx 5) + 1)) ((37 + (4 * (sx 0))).toNatClampNeg) (k_X6_order (va_up sx 5 ((sx 5) + 1)) vk 1)) = x_34 at hP hD hres
    have hres := (kbind_eq _ _).symm.trans hres
    refine lv_aload_n hx hb dX6_doOrder_35 rfl (lv_at hl 1 rfl) ?_
    refine lv_iload_n hx hb dX6_doOrder_36 rfl (lv_at hl 0 rfl) ?_
    refine lv_iconst (v := 1) hx hb dX6_doOrder_37 (by decide) ?_
    refine lv_iadd hx hb dX6_doOrder_38 ?_
    refine lv_aload_n hx hb dX6_doOrder_39 rfl (lv_at hl 1 rfl) ?_
    refine lv_iload_n hx hb dX6_doOrder_40 rfl (lv_at hl 2 rfl) ?_
    refine lv_iconst (v := 2) hx hb dX6_doOrder_41 (by decide) ?_
    have hP : va_P D vwCl ((st_W cs sa x_34) ++ []) H := k_nP hP
    have hD : va_D A ((st_W cs sa x_34) ++ []) := k_nD hD
    have hc_42 := c_X6_order l D cs sa x_34 vk 2 hk (by decide)
    refine kI_call (wc := (st_W cs sa x_34)) (wr := []) (w1 := st_W cs sa x_34) (r := (k_X6_order x_34 vk 2)) hE hP hD hS (k_rS (rest := [.int ((37 + (4 * (sx 0))) + 1), .ref sa]) (As := [.ref sa, .int vk, .int 2]) hE rfl (hc_42 H.size) (va_cwS 3 hts gX6_doOrder_X6_order rfl rfl rfl (by decide +kernel) ⟨Nat.le_of_ble_eq_true rfl, Nat.le_of_ble_eq_true rfl⟩) hP hD hS rfl hl rfl (Nat.le_of_ble_eq_true rfl) ⟨Nat.le_of_ble_eq_true rfl, Nat.le_of_ble_eq_true rfl⟩ dX6_doOrder_42) (fun H locs hP hD hS => ?_)
    have hP := k_uP hP
    have hD := k_uD hD
    have hP : va_P D vwCl (st_W cs sa x_34) H := hP
    have hD : va_D A (st_W cs sa x_34) := hD
    refine k_iast hx hb hK hP hD hS 0 0 (k := ((37 + (4 * (sx 0))) + 1).toNatClampNeg) rfl rfl (by rw [vp_in_iff, i_addr (A := 1) rfl (by omega) (by omega)]; omega) rfl dX6_doOrder_45 (fun H locs hP hD hS => ?_)
    have hP : va_P D vwCl (st_W cs sa (va_up x_34 (((37 + (4 * (sx 0))) + 1).toNatClampNeg) (k_X6_order x_34 vk 2))) H := hP
    have hD : va_D A (st_W cs sa (va_up x_34 (((37 + (4 * (sx 0))) + 1).toNatClampNeg) (k_X6_order x_34 vk 2))) := hD
    generalize e_45 : (va_up x_34 (((37 + (4 * (sx 0))) + 1).toNatClampNeg) (k_X6_order x_34 vk 2)) = x_45 at hP hD hres
    have hres := (kbind_eq _ _).symm.trans hres
    refine lv_aload_n hx hb dX6_doOrder_46 rfl (lv_at hl 1 rfl) ?_
    refine lv_iload_n hx hb dX6_doOrder_47 rfl (lv_at hl 0 rfl) ?_
    refine lv_iconst (v := 2) hx hb dX6_doOrder_48 (by decide) ?_
    refine lv_iadd hx hb dX6_doOrder_49 ?_
    refine lv_aload_n hx hb dX6_doOrder_50 rfl (lv_at hl 1 rfl) ?_
    refine lv_iload_n hx hb dX6_doOrder_51 rfl (lv_at hl 2 rfl) ?_
    refine lv_iconst (v := 3) hx hb dX6_doOrder_52 (by decide) ?_
    have hP : va_P D vwCl ((st_W cs sa x_45) ++ []) H := k_nP hP
    have hD : va_D A ((st_W cs sa x_45) ++ []) := k_nD hD
    have hc_53 := c_X6_order l D cs sa x_45 vk 3 hk (by decide)
    refine kI_call (wc := (st_W cs sa x_45)) (wr := []) (w1 := st_W cs sa x_45) (r := (k_X6_order x_45 vk 3)) hE hP hD hS (k_rS (rest := [.int ((37 + (4 * (sx 0))) + 2), .ref sa]) (As := [.ref sa, .int vk, .int 3]) hE rfl (hc_53 H.size) (va_cwS 3 hts gX6_doOrder_X6_order rfl rfl rfl (by decide +kernel) ⟨Nat.le_of_ble_eq_true rfl, Nat.le_of_ble_eq_true rfl⟩) hP hD hS rfl hl rfl (Nat.le_of_ble_eq_true rfl) ⟨Nat.le_of_ble_eq_true rfl, Nat.le_of_ble_eq_true rfl⟩ dX6_doOrder_53) (fun H locs hP hD hS => ?_)
    have hP := k_uP hP
    have hD := k_uD hD
    have hP : va_P D vwCl (st_W cs sa x_45) H := hP
    have hD : va_D A (st_W cs sa x_45) := hD
    refine k_iast hx hb hK hP hD hS 0 0 (k := ((37 + (4 * (sx 0))) + 2).toNatClampNeg) rfl rfl (by rw [vp_in_iff, i_addr (A := 2) rfl (by omega) (by omega)]; omega) rfl dX6_doOrder_56 (fun H locs hP hD hS => ?_)
    have hP : va_P D vwCl (st_W cs sa (va_up x_45 (((37 + (4 * (sx 0))) + 2).toNatClampNeg) (k_X6_order x_45 vk 3))) H := hP
    have hD : va_D A (st_W cs sa (va_up x_45 (((37 + (4 * (sx 0))) + 2).toNatClampNeg) (k_X6_order x_45 vk 3))) := hD
    generalize e_56 : (va_up x_45 (((37 + (4 * (sx 0))) + 2).toNatClampNeg) (k_X6_order x_45 vk 3)) = x_56 at hP hD hres
    have hres := (kbind_eq _ _).symm.trans hres
    refine lv_aload_n hx hb dX6_doOrder_57 rfl (lv_at hl 1 rfl) ?_
    refine lv_iload_n hx hb dX6_doOrder_58 rfl (lv_at hl 0 rfl) ?_
    refine lv_iconst (v := 3) hx hb dX6_doOrder_59 (by decide) ?_
    refine lv_iadd hx hb dX6_doOrder_60 ?_
    refine lv_aload_n hx hb dX6_doOrder_61 rfl (lv_at hl 1 rfl) ?_
    refine lv_iconst (v := 5) hx hb dX6_doOrder_62 (by decide) ?_
    refine k_iald hx hb hK hP 0 0 (v := (x_56 5)) rfl rfl (k_inl rfl) rfl dX6_doOrder_63 ?_
    refine k_iast hx hb hK hP hD hS 0 0 (k := ((37 + (4 * (sx 0))) + 3).toNatClampNeg) rfl rfl (by rw [vp_in_iff, i_addr (A := 3) rfl (by omega) (by omega)]; omega) rfl dX6_doOrder_64 (fun H locs hP hD hS => ?_)
    have hP : va_P D vwCl (st_W cs sa (va_up x_56 (((37 + (4 * (sx 0))) + 3).toNatClampNeg) (x_56 5))) H := hP
    have hD : va_D A (st_W cs sa (va_up x_56 (((37 + (4 * (sx 0))) + 3).toNatClampNeg) (x_56 5))) := hD
    generalize e_64 : (va_up x_56 (((37 + (4 * (sx 0))) + 3).toNatClampNeg) (x_56 5)) = x_64 at hP hD hres
    have hres := (kbind_eq _ _).symm.trans hres
    refine lv_aload_n hx hb dX6_doOrder_65 rfl (lv_at hl 1 rfl) ?_
    refine lv_iconst (v := 0) hx hb dX6_doOrder_66 (by decide) ?_
    refine lv_dup2_11 hx hb dX6_doOrder_67 rfl rfl ?_
    refine k_iald hx hb hK hP 0 0 (v := (x_64 0)) rfl rfl (k_inl rfl) rfl dX6_doOrder_68 ?_
    refine lv_iconst (v := 1) hx hb dX6_doOrder_69 (by decide) ?_
    refine lv_iadd hx hb dX6_doOrder_70 ?_
    refine k_iast hx hb hK hP hD hS 0 0 (k := 0) rfl rfl (k_inl rfl) rfl dX6_doOrder_71 (fun H locs hP hD hS => ?_)
    have hP : va_P D vwCl (st_W cs sa (va_up x_64 0 ((x_64 0) + 1))) H := hP
    have hD : va_D A (st_W cs sa (va_up x_64 0 ((x_64 0) + 1))) := hD
    refine lv_goto (tgt := 95) hx hb dX6_doOrder_72 (by decide) ?_
    subst hres
    exact kV_ret () hE hS hP hD trivial (Nat.le_of_ble_eq_true rfl) (Nat.le_of_ble_eq_true rfl) dX6_doOrder_95
set_option maxHeartbeats 4000000 in
set_option maxRecDepth 100000 in
theorem c_X6_lookAtOrders (l : Launch) (D : va_G) (cs : Nat → ClassId) (sa : Nat) (sx : Nat → Int32) (hI : SI sx) : kV l yX6_lookAtOrders wsX6_lookAtOrders { frames := 4, cells := 0, slots := 0, locals := 94 } 0 0 D cs [.ref sa] (st_W cs sa sx) (fun (_ : Unit) => True) (fun _ => st_W cs sa (k_X6_lookAtOrders sx)) := by
  generalize hres : k_X6_lookAtOrders sx = res
  refine kV_of (cc := cX6_lookAtOrders) (maxL := 2) (ret := none) (by decide) rfl (Nat.le_of_ble_eq_true rfl) ?_
  intro p e s m below meth c A ls H locs hE hS hP hD hl
  obtain ⟨hx, hb, hr, hlocks, hml, hown, hts, hK, hA, hG, hnm⟩ := id hE
  have hown : s.vm.findClass RX6 = some m.cls := hown
  have hl : lv_has ls 2 [(0, .ref sa)] := hl
  obtain ⟨⟨hX1, hX2⟩, ⟨hX3, hX4⟩, hX5, hX6⟩ := id hI
  have hLn : (sx 0).toInt = (((sx 0).toInt.toNat : Nat) : Int) := (Int.toNat_of_nonneg hX1).symm
  have L2 : ∀ (n : Nat) (k : Int32) (xw : Nat → Int32)  (hw : SI xw) (h0 : 0 ≤ k.toInt) (h1 : k.toInt ≤ (xw 1).toInt) (h2 : (xw 1).toInt - k.toInt < n) (H : Heap) (locs : List Loc) (ls : Array Slot), va_S A s.heap H locs → va_P D vwCl (st_W cs sa xw) H → va_D A (st_W cs sa xw) → lv_has ls 2 [(0, .ref sa), (1, .int k)] → k_X6_lookAtOrders_L2 sx n k xw = res → W p l e { frames := 4, cells := 0, slots := 0, locals := 94 } s m ([.ref sa]).toArray below meth c H locs 0 0 (MQ below (va_Qv (fun (_ : Unit) => True) (kB D (fun _ => st_W cs sa res) A) A) ([.ref sa]).toArray s 0 0 A) (F0 m 2 ls []) := by
    intro n
    induction n with
    | zero =>
      intro k xw hw h0 h1 h2 H locs ls hS hP hD hl hres
      exact absurd h2 (by omega)
    | succ n ih =>
      intro k xw hw h0 h1 h2 H locs ls hS hP hD hl hres
      unfold k_X6_lookAtOrders_L2 at hres
      obtain ⟨⟨hY1, hY2⟩, ⟨hY3, hY4⟩, hY5, hY6⟩ := id hw
      refine lv_iload_n hx hb dX6_lookAtOrders_2 rfl (lv_at hl 1 rfl) ?_
      refine lv_aload_n hx hb dX6_lookAtOrders_3 rfl (lv_at hl 0 rfl) ?_
      refine lv_iconst (v := 1) hx hb dX6_lookAtOrders_4 (by decide) ?_
      refine k_iald hx hb hK hP 0 0 (v := (xw 1)) rfl rfl (k_inl rfl) rfl dX6_lookAtOrders_5 ?_
      refine lv_icmp_ge (tgt := 70) hx hb dX6_lookAtOrders_6 (by decide) (fun c_6 => ?_) (fun c_6 => ?_)
      · skip
        have c_6 : ((xw 1) ≤ k) := c_6
        rw [if_pos c_6] at hres
        subst hres
        exact kV_ret () hE hS hP hD trivial (Nat.le_of_ble_eq_true rfl) (Nat.le_of_ble_eq_true rfl) dX6_lookAtOrders_70
      · skip
        have c_6 : ¬ ((xw 1) ≤ k) := c_6
        rw [if_neg c_6] at hres
        have hk9 : 0 ≤ k.toInt ∧ k.toInt ≤ 11 := by rw [i_le] at c_6; omega
        have hk8 : 0 ≤ k.toInt ∧ k.toInt < (xw 1).toInt := by rw [i_le] at c_6; omega
        have hki := i_inc (i := k) (by omega)
        have eBo : (157 + (5 * k)).toInt = 157 + 5 * k.toInt := drop_i2 (base := 157) (mul := 5) (B := 157) (M := 5) rfl rfl (by omega) (by omega) (by omega)
        have eB4 : ((157 + (5 * k)) + 4).toInt = 157 + 5 * k.toInt + 4 := by rw [i_addr (A := 4) rfl (by omega) (by omega), eBo]
        refine lv_aload_n hx hb dX6_lookAtOrders_9 rfl (lv_at hl 0 rfl) ?_
        refine lv_iload_n hx hb dX6_lookAtOrders_10 rfl (lv_at hl 1 rfl) ?_
        have hP : va_P D vwCl ((st_W cs sa xw) ++ []) H := k_nP hP
        have hD : va_D A ((st_W cs sa xw) ++ []) := k_nD hD
        have hc_11 := c_X6_waits l D cs sa xw k hw hk9
        refine kI_call (wc := (st_W cs sa xw)) (wr := []) (w1 := st_W cs sa xw) (r := (k_X6_waits xw k)) hE hP hD hS (k_rS (rest := []) (As := [.ref sa, .int k]) hE rfl (hc_11 H.size) (va_cwS 2 hts gX6_lookAtOrders_X6_waits rfl rfl rfl (by decide +kernel) ⟨Nat.le_of_ble_eq_true rfl, Nat.le_of_ble_eq_true rfl⟩) hP hD hS rfl hl rfl (Nat.le_of_ble_eq_true rfl) ⟨Nat.le_of_ble_eq_true rfl, Nat.le_of_ble_eq_true rfl⟩ dX6_lookAtOrders_11) (fun H locs hP hD hS => ?_)
        have hP := k_uP hP
        have hD := k_uD hD
        have hP : va_P D vwCl (st_W cs sa xw) H := hP
        have hD : va_D A (st_W cs sa xw) := hD
        refine lv_if_eq (tgt := 38) hx hb dX6_lookAtOrders_14 (by decide) (fun c_14 => ?_) (fun c_14 => ?_)
        · skip
          have c_14 : ((k_X6_waits xw k) = 0) := c_14
          rw [if_pos c_14] at hres
          refine lv_aload_n hx hb dX6_lookAtOrders_38 rfl (lv_at hl 0 rfl) ?_
          refine lv_iload_n hx hb dX6_lookAtOrders_39 rfl (lv_at hl 1 rfl) ?_
          have hP : va_P D vwCl ((st_W cs sa xw) ++ []) H := k_nP hP
          have hD : va_D A ((st_W cs sa xw) ++ []) := k_nD hD
          have hc_40 := c_X6_isVoid l D cs sa xw k hw hk9
          refine kI_call (wc := (st_W cs sa xw)) (wr := []) (w1 := st_W cs sa xw) (r := (k_X6_isVoid xw k)) hE hP hD hS (k_rS (rest := []) (As := [.ref sa, .int k]) hE rfl (hc_40 H.size) (va_cwS 2 hts gX6_lookAtOrders_X6_isVoid rfl rfl rfl (by decide +kernel) ⟨Nat.le_of_ble_eq_true rfl, Nat.le_of_ble_eq_true rfl⟩) hP hD hS rfl hl rfl (Nat.le_of_ble_eq_true rfl) ⟨Nat.le_of_ble_eq_true rfl, Nat.le_of_ble_eq_true rfl⟩ dX6_lookAtOrders_40) (fun H locs hP hD hS => ?_)
          have hP := k_uP hP
          have hD := k_uD hD
          have hP : va_P D vwCl (st_W cs sa xw) H := hP
          have hD : va_D A (st_W cs sa xw) := hD
          refine lv_if_eq (tgt := 57) hx hb dX6_lookAtOrders_43 (by decide) (fun c_43 => ?_) (fun c_43 => ?_)
          · skip
            have c_43 : ((k_X6_isVoid xw k) = 0) := c_43
            rw [if_pos c_43] at hres
            refine lv_aload_n hx hb dX6_lookAtOrders_57 rfl (lv_at hl 0 rfl) ?_
            refine lv_iload_n hx hb dX6_lookAtOrders_58 rfl (lv_at hl 1 rfl) ?_
            have hP : va_P D vwCl ((st_W cs sa xw) ++ []) H := k_nP hP
            have hD : va_D A ((st_W cs sa xw) ++ []) := k_nD hD
            have hc_59 := c_X6_doOrder l D cs sa xw k hw hk9 (do_pre hw hk9 c_43)
            refine kV_call (wc := (st_W cs sa xw)) (wr := []) (w1 := fun _ => st_W cs sa (k_X6_doOrder xw k)) hE hP hD hS (k_rS (rest := []) (As := [.ref sa, .int k]) hE rfl (hc_59 H.size) (va_cwS 2 hts gX6_lookAtOrders_X6_doOrder rfl rfl rfl (by decide +kernel) ⟨Nat.le_of_ble_eq_true rfl, Nat.le_of_ble_eq_true rfl⟩) hP hD hS rfl hl rfl (Nat.le_of_ble_eq_true rfl) ⟨Nat.le_of_ble_eq_true rfl, Nat.le_of_ble_eq_true rfl⟩ dX6_lookAtOrders_59) (fun _ H locs _ hP hD hS => ?_)
            have hP := k_uP hP
            have hD := k_uD hD
            have hP : va_P D vwCl (st_W cs sa (k_X6_doOrder xw k)) H := hP
            have hD : va_D A (st_W cs sa (k_X6_doOrder xw k)) := hD
            generalize e_xd : (k_X6_doOrder xw k) = xd at hP hD hres
            have hres := (kbind_eq _ _).symm.trans hres
            have hdv : SI xd ∧ xd 1 = xw 1 := by first | exact x_doS hw hk9 c_43 e_xd | exact x_voS hw c_43 e_xd
            have hdr := SI_dropO (vk := k) hdv.1 (by rw [hdv.2]; exact hk8)
            have hds : (xd 1 - 1).toInt = (xw 1).toInt - 1 := by rw [hdv.2, i_sub (by have e9 : (1 : Int32).toInt = 1 := rfl; omega) (by have e9 : (1 : Int32).toInt = 1 := rfl; omega)]; rfl
            refine lv_aload_n hx hb dX6_lookAtOrders_62 rfl (lv_at hl 0 rfl) ?_
            refine lv_iload_n hx hb dX6_lookAtOrders_63 rfl (lv_at hl 1 rfl) ?_
            have hP : va_P D vwCl ((st_W cs sa xd) ++ []) H := k_nP hP
            have hD : va_D A ((st_W cs sa xd) ++ []) := k_nD hD
            have hc_64 := c_X6_dropOrder l D cs sa xd k hdv.1 (by rw [hdv.2]; exact hk8)
            refine kV_call (wc := (st_W cs sa xd)) (wr := []) (w1 := fun _ => st_W cs sa (k_X6_dropOrder xd k)) hE hP hD hS (k_rS (rest := []) (As := [.ref sa, .int k]) hE rfl (hc_64 H.size) (va_cwS 2 hts gX6_lookAtOrders_X6_dropOrder rfl rfl rfl (by decide +kernel) ⟨Nat.le_of_ble_eq_true rfl, Nat.le_of_ble_eq_true rfl⟩) hP hD hS rfl hl rfl (Nat.le_of_ble_eq_true rfl) ⟨Nat.le_of_ble_eq_true rfl, Nat.le_of_ble_eq_true rfl⟩ dX6_lookAtOrders_64) (fun _ H locs _ hP hD hS => ?_)
            have hP := k_uP hP
            have hD := k_uD hD
            have hP : va_P D vwCl (st_W cs sa (k_X6_dropOrder xd k)) H := hP
            have hD : va_D A (st_W cs sa (k_X6_dropOrder xd k)) := hD
            refine lv_goto (tgt := 2) hx hb dX6_lookAtOrders_67 (by decide) ?_
            exact ih k (k_X6_dropOrder xd k) (by first | exact hdr.1 | exact SI_upc hw (by omega)) (by omega) (by first | (rw [hdr.2.1, hds]; omega) | (rw [up_lo (by omega)]; omega)) (by first | (rw [hdr.2.1, hds]; omega) | (rw [up_lo (by omega)]; omega)) _ _ _ hS hP hD (lv_sub hl [0, 1] rfl) hres
          · skip
            have c_43 : ¬ ((k_X6_isVoid xw k) = 0) := c_43
            rw [if_neg c_43] at hres
            refine lv_aload_n hx hb dX6_lookAtOrders_46 rfl (lv_at hl 0 rfl) ?_
            refine lv_bipush (v := 11) hx hb dX6_lookAtOrders_47 (by decide) ?_
            refine lv_dup2_11 hx hb dX6_lookAtOrders_49 rfl rfl ?_
            refine k_iald hx hb hK hP 0 0 (v := (xw 11)) rfl rfl (k_inl rfl) rfl dX6_lookAtOrders_50 ?_
            refine lv_iconst (v := 1) hx hb dX6_lookAtOrders_51 (by decide) ?_
            refine lv_iadd hx hb dX6_lookAtOrders_52 ?_
            refine k_iast hx hb hK hP hD hS 0 0 (k := 11) rfl rfl (k_inl rfl) rfl dX6_lookAtOrders_53 (fun H locs hP hD hS => ?_)
            have hP : va_P D vwCl (st_W cs sa (va_up xw 11 ((xw 11) + 1))) H := hP
            have hD : va_D A (st_W cs sa (va_up xw 11 ((xw 11) + 1))) := hD
            refine lv_goto (tgt := 62) hx hb dX6_lookAtOrders_54 (by decide) ?_
            generalize e_xd : (va_up xw 11 ((xw 11) + 1)) = xd at hP hD hres
            have hres := (kbind_eq _ _).symm.trans hres
            have hdv : SI xd ∧ xd 1 = xw 1 := by first | exact x_doS hw hk9 c_43 e_xd | exact x_voS hw c_43 e_xd
            have hdr := SI_dropO (vk := k) hdv.1 (by rw [hdv.2]; exact hk8)
            have hds : (xd 1 - 1).toInt = (xw 1).toInt - 1 := by rw [hdv.2, i_sub (by have e9 : (1 : Int32).toInt = 1 := rfl; omega) (by have e9 : (1 : Int32).toInt = 1 := rfl; omega)]; rfl
            refine lv_aload_n hx hb dX6_lookAtOrders_62 rfl (lv_at hl 0 rfl) ?_
            refine lv_iload_n hx hb dX6_lookAtOrders_63 rfl (lv_at hl 1 rfl) ?_
            have hP : va_P D vwCl ((st_W cs sa xd) ++ []) H := k_nP hP
            have hD : va_D A ((st_W cs sa xd) ++ []) := k_nD hD
            have hc_64 := c_X6_dropOrder l D cs sa xd k hdv.1 (by rw [hdv.2]; exact hk8)
            refine kV_call (wc := (st_W cs sa xd)) (wr := []) (w1 := fun _ => st_W cs sa (k_X6_dropOrder xd k)) hE hP hD hS (k_rS (rest := []) (As := [.ref sa, .int k]) hE rfl (hc_64 H.size) (va_cwS 2 hts gX6_lookAtOrders_X6_dropOrder rfl rfl rfl (by decide +kernel) ⟨Nat.le_of_ble_eq_true rfl, Nat.le_of_ble_eq_true rfl⟩) hP hD hS rfl hl rfl (Nat.le_of_ble_eq_true rfl) ⟨Nat.le_of_ble_eq_true rfl, Nat.le_of_ble_eq_true rfl⟩ dX6_lookAtOrders_64) (fun _ H locs _ hP hD hS => ?_)
            have hP := k_uP hP
            have hD := k_uD hD
            have hP : va_P D vwCl (st_W cs sa (k_X6_dropOrder xd k)) H := hP
            have hD : va_D A (st_W cs sa (k_X6_dropOrder xd k)) := hD
            refine lv_goto (tgt := 2) hx hb dX6_lookAtOrders_67 (by decide) ?_
            exact ih k (k_X6_dropOrder xd k) (by first | exact hdr.1 | exact SI_upc hw (by omega)) (by omega) (by first | (rw [hdr.2.1, hds]; omega) | (rw [up_lo (by omega)]; omega)) (by first | (rw [hdr.2.1, hds]; omega) | (rw [up_lo (by omega)]; omega)) _ _ _ hS hP hD (lv_sub hl [0, 1] rfl) hres
        · skip
          have c_14 : ¬ ((k_X6_waits xw k) = 0) := c_14
          rw [if_neg c_14] at hres
          refine lv_aload_n hx hb dX6_lookAtOrders_17 rfl (lv_at hl 0 rfl) ?_
          refine lv_sipush (v := 157) hx hb dX6_lookAtOrders_18 (by decide) ?_
          refine lv_iconst (v := 5) hx hb dX6_lookAtOrders_21 (by decide) ?_
          refine lv_iload_n hx hb dX6_lookAtOrders_22 rfl (lv_at hl 1 rfl) ?_
          refine lv_imul hx hb dX6_lookAtOrders_23 ?_
          refine lv_iadd hx hb dX6_lookAtOrders_24 ?_
          refine lv_iconst (v := 4) hx hb dX6_lookAtOrders_25 (by decide) ?_
          refine lv_iadd hx hb dX6_lookAtOrders_26 ?_
          refine lv_dup2_11 hx hb dX6_lookAtOrders_27 rfl rfl ?_
          refine k_iald hx hb hK hP 0 0 (v := (xw (((157 + (5 * k)) + 4).toNatClampNeg))) rfl rfl (by rw [vp_in_iff]; omega) rfl dX6_lookAtOrders_28 ?_
          refine lv_iconst (v := 1) hx hb dX6_lookAtOrders_29 (by decide) ?_
          refine lv_iadd hx hb dX6_lookAtOrders_30 ?_
          refine k_iast hx hb hK hP hD hS 0 0 (k := ((157 + (5 * k)) + 4).toNatClampNeg) rfl rfl (by rw [vp_in_iff]; omega) rfl dX6_lookAtOrders_31 (fun H locs hP hD hS => ?_)
          have hP : va_P D vwCl (st_W cs sa (va_up xw (((157 + (5 * k)) + 4).toNatClampNeg) ((xw (((157 + (5 * k)) + 4).toNatClampNeg)) + 1))) H := hP
          have hD : va_D A (st_W cs sa (va_up xw (((157 + (5 * k)) + 4).toNatClampNeg) ((xw (((157 + (5 * k)) + 4).toNatClampNeg)) + 1))) := hD
          refine lv_iinc (v := (k + 1)) (lv' := [(1, .int (k + 1)), (0, .ref sa)]) hx hb dX6_lookAtOrders_32 hl (k := 1) rfl (by rfl) (by decide) rfl (fun ls hl => ?_)
          refine lv_goto (tgt := 2) hx hb dX6_lookAtOrders_35 (by decide) ?_
          exact ih (k + 1) (va_up xw (((157 + (5 * k)) + 4).toNatClampNeg) ((xw (((157 + (5 * k)) + 4).toNatClampNeg)) + 1)) (by first | exact hdr.1 | exact SI_upc hw (by omega)) (by omega) (by first | (rw [hdr.2.1, hds]; omega) | (rw [up_lo (by omega)]; omega)) (by first | (rw [hdr.2.1, hds]; omega) | (rw [up_lo (by omega)]; omega)) _ _ _ hS hP hD (lv_sub hl [1, 0] rfl) hres
  unfold k_X6_lookAtOrders at hres
  refine lv_iconst (v := 0) hx hb dX6_lookAtOrders_0 (by decide) ?_
  refine lv_istore_n (lv' := [(1, .int 0), (0, .ref sa)]) hx hb dX6_lookAtOrders_1 rfl hl (by decide) rfl (fun ls hl => ?_)
  exact L2 14 0 sx (hI) ((by decide)) (hX3) ((show (sx 1).toInt - 0 < 14 by omega)) _ _ _ hS hP hD (lv_sub hl [1, 0] rfl) hres
