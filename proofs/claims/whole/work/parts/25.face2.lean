set_option maxHeartbeats 4000000 in
set_option maxRecDepth 100000 in
theorem c_X6_doneIn (l : Launch) (D : va_G) (cs : Nat → ClassId) (ma : Nat → Nat) (mv : MV) (vk : Int32) (hM : MO mv) : kI l yX6_doneIn wsX6_doneIn { frames := 6, cells := 0, slots := 0, locals := 136 } 0 0 D cs [.ref (ma 0), .int vk] (md_W cs ma mv) (k_X6_doneIn mv vk).1 (md_W cs ma ((k_X6_doneIn mv vk).2)) := by
  generalize hres : k_X6_doneIn mv vk = res
  refine kI_of (cc := cX6_doneIn) (maxL := 5) (ret := (some .int)) (by decide) rfl (Nat.le_of_ble_eq_true rfl) ?_
  intro p e s m below meth c A ls H locs hE hS hP hD hl
  obtain ⟨hx, hb, hr, hlocks, hml, hown, hts, hK, hA, hG, hnm⟩ := id hE
  have hown : s.vm.findClass RX6 = some m.cls := hown
  have hl : lv_has ls 5 [(0, .ref (ma 0)), (1, .int vk)] := hl
  have hinX6 : ∀ w ∈ wsX60, w ∈ wsX6_doneIn := by decide +kernel
  have lk_0 := hts (.fieldLink RX6 16 "OrganPegsModel" "trial" "[I") (by decide +kernel)
  have lk_1 := hts (.fieldLink RX6 13 "OrganPegsModel" "now" "[I") (by decide +kernel)
  have L102 : ∀ (n : Nat) (i : Int32) (acc : Int32) (mx : MV) (tt : Int32) (j2 : Nat) (hi2 : i = nI j2) (hq : j2 + n = 13) (hq2 : j2 ≤ 12) (hI3 : SI (mx.2 2)) (H : Heap) (locs : List Loc) (ls : Array Slot), va_S A s.heap H locs → va_P D vwCl (md_W cs ma mx) H → va_D A (md_W cs ma mx) → lv_has ls 5 [(0, .ref (ma 0)), (1, .int vk), (2, .int tt), (3, .int acc), (4, .int i)] → ∀ (r9 : Int32), k_X6_doneIn_L102 mv vk n i acc mx = r9 → (∀ (H : Heap) (locs : List Loc) (ls : Array Slot), va_S A s.heap H locs → va_P D vwCl (md_W cs ma mx) H → va_D A (md_W cs ma mx) → lv_has ls 5 [(0, .ref (ma 0)), (1, .int vk), (2, .int tt), (3, .int r9)] → W p l e { frames := 6, cells := 0, slots := 0, locals := 136 } s m ([.ref (ma 0), .int vk]).toArray below meth c H locs 0 0 (MQ below (va_Qi (fun (r' : Int32) (_ : Unit) => r' = res.1) (kB D (fun _ => md_W cs ma res.2) A) A) ([.ref (ma 0), .int vk]).toArray s 0 0 A) (F0 m 145 ls [])) → W p l e { frames := 6, cells := 0, slots := 0, locals := 136 } s m ([.ref (ma 0), .int vk]).toArray below meth c H locs 0 0 (MQ below (va_Qi (fun (r' : Int32) (_ : Unit) => r' = res.1) (kB D (fun _ => md_W cs ma res.2) A) A) ([.ref (ma 0), .int vk]).toArray s 0 0 A) (F0 m 102 ls []) := by
    intro n
    induction n with
    | zero =>
      intro i acc mx tt j2 hi2 hq hq2 hI3 H locs ls hS hP hD hl r9 hres hk9
      exact absurd hq2 (by omega)
    | succ n ih =>
      intro i acc mx tt j2 hi2 hq hq2 hI3 H locs ls hS hP hD hl r9 hres hk9
      unfold k_X6_doneIn_L102 at hres
      refine lv_iload hx hb dX6_doneIn_102 (lv_at hl 4 rfl) ?_
      refine lv_aload_n hx hb dX6_doneIn_104 rfl (lv_at hl 0 rfl) ?_
      refine va_get (D := D) (ci := 6) (v := .ref (ma 3)) (C := RX6) (T := TX6) (N := 11) hx hb hts hinX6 hown hK hP 0 rfl rfl 4 (by decide) lk_0 (fun _ h9 => h9) rfl dX6_doneIn_105 ?_
      refine lv_iconst (v := 1) hx hb dX6_doneIn_108 (by decide) ?_
      refine k_iald hx hb hK hP 3 0 (v := ((mx.2 2) 1)) rfl rfl (k_inl rfl) rfl dX6_doneIn_109 ?_
      refine lv_icmp_ge (tgt := 145) hx hb dX6_doneIn_110 (by decide) (fun c_110 => ?_) (fun c_110 => ?_)
      · skip
        have c_110 : (((mx.2 2) 1) ≤ i) := c_110
        rw [if_pos c_110] at hres
        subst hres
        exact hk9 _ _ _ hS hP hD (lv_sub hl [0, 1, 2, 3] rfl)
      · skip
        have c_110 : ¬ (((mx.2 2) 1) ≤ i) := c_110
        rw [if_neg c_110] at hres
        refine lv_iload_n hx hb dX6_doneIn_113 rfl (lv_at hl 3 rfl) ?_
        refine lv_if_ne (tgt := 133) hx hb dX6_doneIn_114 (by decide) (fun c_114 => ?_) (fun c_114 => ?_)
        · skip
          have c_114 : ¬ (acc = 0) := c_114
          rw [if_neg c_114] at hres
          refine lv_iconst (v := 1) hx hb dX6_doneIn_133 (by decide) ?_
          refine lv_goto (tgt := 138) hx hb dX6_doneIn_134 (by decide) ?_
          refine lv_istore_n (lv' := [(3, .int 1), (0, .ref (ma 0)), (1, .int vk), (2, .int tt), (4, .int i)]) hx hb dX6_doneIn_138 rfl hl (by decide) rfl (fun ls hl => ?_)
          refine lv_iinc (v := (i + 1)) (lv' := [(4, .int (i + 1)), (3, .int 1), (0, .ref (ma 0)), (1, .int vk), (2, .int tt)]) hx hb dX6_doneIn_139 hl (k := 4) rfl (by rfl) (by decide) rfl (fun ls hl => ?_)
          refine lv_goto (tgt := 102) hx hb dX6_doneIn_142 (by decide) ?_
          exact ih (i + 1) 1 mx tt (j2 + 1) (by rw [hi2, nI_1]) (by omega) (nI_ltb (N := 12) hi2 (by omega) hI3.2.1.2 c_110) (hI3) _ _ _ hS hP hD (lv_sub hl [2, 3, 4, 1, 0] rfl) _ hres hk9
        · skip
          have c_114 : (acc = 0) := c_114
          rw [if_pos c_114] at hres
          refine lv_aload_n hx hb dX6_doneIn_117 rfl (lv_at hl 0 rfl) ?_
          refine va_get (D := D) (ci := 6) (v := .ref (ma 3)) (C := RX6) (T := TX6) (N := 11) hx hb hts hinX6 hown hK hP 0 rfl rfl 4 (by decide) lk_0 (fun _ h9 => h9) rfl dX6_doneIn_118 ?_
          refine lv_iload hx hb dX6_doneIn_121 (lv_at hl 4 rfl) ?_
          refine lv_iconst (v := 4) hx hb dX6_doneIn_123 (by decide) ?_
          have hP := hP.sub (ws' := (st_W cs (ma 3) (mx.2 2)) ++ (x_pick (md_W cs ma mx) [0, 1, 2, 4, 5, 6])) [3, 0, 1, 2, 4, 5, 6] rfl
          have hD := hD.sub (ws' := (st_W cs (ma 3) (mx.2 2)) ++ (x_pick (md_W cs ma mx) [0, 1, 2, 4, 5, 6])) [3, 0, 1, 2, 4, 5, 6] (by decide) rfl
          have hc_124 := c_X6_order l D cs (ma 3) (mx.2 2) i 4 (nI_b (N := 11) hi2 (by omega) (by have := nI_ltb (N := 12) hi2 (by omega) hI3.2.1.2 c_110; omega)) (by decide)
          refine kI_call (wc := (st_W cs (ma 3) (mx.2 2))) (wr := (x_pick (md_W cs ma mx) [0, 1, 2, 4, 5, 6])) (w1 := (st_W cs (ma 3) (mx.2 2))) (r := (k_X6_order (mx.2 2) i 4)) hE hP hD hS (k_rS (rest := []) (As := [.ref (ma 3), .int i, .int 4]) hE rfl (hc_124 H.size) (va_cwS 3 hts gX6_doneIn_X6_order rfl rfl rfl (by decide +kernel) ⟨Nat.le_of_ble_eq_true rfl, Nat.le_of_ble_eq_true rfl⟩) hP hD hS rfl hl rfl (Nat.le_of_ble_eq_true rfl) ⟨Nat.le_of_ble_eq_true rfl, Nat.le_of_ble_eq_true rfl⟩ dX6_doneIn_124) (fun H locs hP hD hS => ?_)
          have hP := hP.sub (ws' := md_W cs ma mx) [1, 2, 3, 0, 4, 5, 6] rfl
          have hD := hD.sub (ws' := md_W cs ma mx) [1, 2, 3, 0, 4, 5, 6] (by decide) rfl
          have hP : va_P D vwCl (md_W cs ma mx) H := hP
          have hD : va_D A (md_W cs ma mx) := hD
          refine lv_sipush (v := 1000) hx hb dX6_doneIn_127 (by decide) ?_
          refine lv_icmp_lt (tgt := 137) hx hb dX6_doneIn_130 (by decide) (fun c_130 => ?_) (fun c_130 => ?_)
          · skip
            have c_130 : ((k_X6_order (mx.2 2) i 4) < 1000) := c_130
            rw [if_pos c_130] at hres
            refine lv_iconst (v := 0) hx hb dX6_doneIn_137 (by decide) ?_
            refine lv_istore_n (lv' := [(3, .int 0), (0, .ref (ma 0)), (1, .int vk), (2, .int tt), (4, .int i)]) hx hb dX6_doneIn_138 rfl hl (by decide) rfl (fun ls hl => ?_)
            refine lv_iinc (v := (i + 1)) (lv' := [(4, .int (i + 1)), (3, .int 0), (0, .ref (ma 0)), (1, .int vk), (2, .int tt)]) hx hb dX6_doneIn_139 hl (k := 4) rfl (by rfl) (by decide) rfl (fun ls hl => ?_)
            refine lv_goto (tgt := 102) hx hb dX6_doneIn_142 (by decide) ?_
            exact ih (i + 1) 0 mx tt (j2 + 1) (by rw [hi2, nI_1]) (by omega) (nI_ltb (N := 12) hi2 (by omega) hI3.2.1.2 c_110) (hI3) _ _ _ hS hP hD (lv_sub hl [2, 3, 4, 1, 0] rfl) _ hres hk9
          · skip
            have c_130 : ¬ ((k_X6_order (mx.2 2) i 4) < 1000) := c_130
            rw [if_neg c_130] at hres
            refine lv_iconst (v := 1) hx hb dX6_doneIn_133 (by decide) ?_
            refine lv_goto (tgt := 138) hx hb dX6_doneIn_134 (by decide) ?_
            refine lv_istore_n (lv' := [(3, .int 1), (0, .ref (ma 0)), (1, .int vk), (2, .int tt), (4, .int i)]) hx hb dX6_doneIn_138 rfl hl (by decide) rfl (fun ls hl => ?_)
            refine lv_iinc (v := (i + 1)) (lv' := [(4, .int (i + 1)), (3, .int 1), (0, .ref (ma 0)), (1, .int vk), (2, .int tt)]) hx hb dX6_doneIn_139 hl (k := 4) rfl (by rfl) (by decide) rfl (fun ls hl => ?_)
            refine lv_goto (tgt := 102) hx hb dX6_doneIn_142 (by decide) ?_
            exact ih (i + 1) 1 mx tt (j2 + 1) (by rw [hi2, nI_1]) (by omega) (nI_ltb (N := 12) hi2 (by omega) hI3.2.1.2 c_110) (hI3) _ _ _ hS hP hD (lv_sub hl [2, 3, 4, 1, 0] rfl) _ hres hk9
  have L84 : ∀ (n : Nat) (t : Int32) (mw : MV) (j : Nat) (hi : t = nI j) (hj : j + n = 102) (hj2 : j ≤ 101) (hI2 : SI (mw.2 2)) (H : Heap) (locs : List Loc) (ls : Array Slot), va_S A s.heap H locs → va_P D vwCl (md_W cs ma mw) H → va_D A (md_W cs ma mw) → lv_has ls 5 [(0, .ref (ma 0)), (1, .int vk), (2, .int t)] → k_X6_doneIn_L84 mv vk n t mw = res → W p l e { frames := 6, cells := 0, slots := 0, locals := 136 } s m ([.ref (ma 0), .int vk]).toArray below meth c H locs 0 0 (MQ below (va_Qi (fun (r' : Int32) (_ : Unit) => r' = res.1) (kB D (fun _ => md_W cs ma res.2) A) A) ([.ref (ma 0), .int vk]).toArray s 0 0 A) (F0 m 84 ls []) := by
    intro n
    induction n with
    | zero =>
      intro t mw j hi hj hj2 hI2 H locs ls hS hP hD hl hres
      exact absurd hj2 (by omega)
    | succ n ih =>
      intro t mw j hi hj hj2 hI2 H locs ls hS hP hD hl hres
      unfold k_X6_doneIn_L84 at hres
      refine lv_iload_n hx hb dX6_doneIn_84 rfl (lv_at hl 2 rfl) ?_
      refine lv_bipush (v := 100) hx hb dX6_doneIn_85 (by decide) ?_
      refine lv_icmp_gt (tgt := 157) hx hb dX6_doneIn_87 (by decide) (fun c_87 => ?_) (fun c_87 => ?_)
      · skip
        have c_87 : (100 < t) := c_87
        rw [if_pos c_87] at hres
        refine lv_iconst (v := (-1)) hx hb dX6_doneIn_157 (by decide) ?_
        subst hres
        exact kI_ret hE hS hP hD rfl rfl (Nat.le_of_ble_eq_true rfl) (Nat.le_of_ble_eq_true rfl) dX6_doneIn_158
      · skip
        have c_87 : ¬ (100 < t) := c_87
        rw [if_neg c_87] at hres
        refine lv_aload_n hx hb dX6_doneIn_90 rfl (lv_at hl 0 rfl) ?_
        refine va_get (D := D) (ci := 6) (v := .ref (ma 3)) (C := RX6) (T := TX6) (N := 11) hx hb hts hinX6 hown hK hP 0 rfl rfl 4 (by decide) lk_0 (fun _ h9 => h9) rfl dX6_doneIn_91 ?_
        have hP := hP.sub (ws' := (st_W cs (ma 3) (mw.2 2)) ++ (x_pick (md_W cs ma mw) [0, 1, 2, 4, 5, 6])) [3, 0, 1, 2, 4, 5, 6] rfl
        have hD := hD.sub (ws' := (st_W cs (ma 3) (mw.2 2)) ++ (x_pick (md_W cs ma mw) [0, 1, 2, 4, 5, 6])) [3, 0, 1, 2, 4, 5, 6] (by decide) rfl
        have hc_94 := c_X6_tick l D cs (ma 3) (mw.2 2)  hI2
        refine kV_call (wc := (st_W cs (ma 3) (mw.2 2))) (wr := (x_pick (md_W cs ma mw) [0, 1, 2, 4, 5, 6])) (w1 := fun _ => st_W cs (ma 3) (k_X6_tick (mw.2 2))) hE hP hD hS (k_rS (rest := []) (As := [.ref (ma 3)]) hE rfl (hc_94 H.size) (va_cwS 1 hts gX6_doneIn_X6_tick rfl rfl rfl (by decide +kernel) ⟨Nat.le_of_ble_eq_true rfl, Nat.le_of_ble_eq_true rfl⟩) hP hD hS rfl hl rfl (Nat.le_of_ble_eq_true rfl) ⟨Nat.le_of_ble_eq_true rfl, Nat.le_of_ble_eq_true rfl⟩ dX6_doneIn_94) (fun _ H locs _ hP hD hS => ?_)
        have hP := hP.sub (ws' := md_W cs ma (m_r mw 2 (k_X6_tick (mw.2 2)))) [1, 2, 3, 0, 4, 5, 6] rfl
        have hD := hD.sub (ws' := md_W cs ma (m_r mw 2 (k_X6_tick (mw.2 2)))) [1, 2, 3, 0, 4, 5, 6] (by decide) rfl
        have hP : va_P D vwCl (md_W cs ma (m_r mw 2 (k_X6_tick (mw.2 2)))) H := hP
        have hD : va_D A (md_W cs ma (m_r mw 2 (k_X6_tick (mw.2 2)))) := hD
        refine lv_iconst (v := 0) hx hb dX6_doneIn_97 (by decide) ?_
        refine lv_istore_n (lv' := [(3, .int 0), (0, .ref (ma 0)), (1, .int vk), (2, .int t)]) hx hb dX6_doneIn_98 rfl hl (by decide) rfl (fun ls hl => ?_)
        refine lv_iconst (v := 0) hx hb dX6_doneIn_99 (by decide) ?_
        refine lv_istore (lv' := [(4, .int 0), (3, .int 0), (0, .ref (ma 0)), (1, .int vk), (2, .int t)]) hx hb dX6_doneIn_100 hl (by decide) rfl (fun ls hl => ?_)
        refine L102 13 0 0 (m_r mw 2 (k_X6_tick (mw.2 2))) t 0 (nI_0.symm) (rfl) (Nat.zero_le _) (SI_tick hI2) _ _ _ hS hP hD (lv_sub hl [2, 3, 4, 1, 0] rfl) _ rfl (fun H locs ls hS hP hD hl => ?_)
        refine lv_iload_n hx hb dX6_doneIn_145 rfl (lv_at hl 3 rfl) ?_
        refine lv_if_ne (tgt := 151) hx hb dX6_doneIn_146 (by decide) (fun c_146 => ?_) (fun c_146 => ?_)
        · skip
          have c_146 : ¬ ((k_X6_doneIn_L102 mv vk 13 0 0 (m_r mw 2 (k_X6_tick (mw.2 2)))) = 0) := c_146
          rw [if_neg c_146] at hres
          refine lv_iinc (v := (t + 1)) (lv' := [(2, .int (t + 1)), (0, .ref (ma 0)), (1, .int vk), (3, .int (k_X6_doneIn_L102 mv vk 13 0 0 (m_r mw 2 (k_X6_tick (mw.2 2)))))]) hx hb dX6_doneIn_151 hl (k := 2) rfl (by rfl) (by decide) rfl (fun ls hl => ?_)
          refine lv_goto (tgt := 84) hx hb dX6_doneIn_154 (by decide) ?_
          exact ih (t + 1) (m_r mw 2 (k_X6_tick (mw.2 2))) (j + 1) (by rw [hi, nI_1]) (by omega) (by have := c_87; rw [i_lt, hi, nI_toInt (by omega)] at this; have e9 : (100 : Int32).toInt = 100 := rfl; omega) (SI_tick hI2) _ _ _ hS hP hD (lv_sub hl [1, 2, 0] rfl) hres
        · skip
          have c_146 : ((k_X6_doneIn_L102 mv vk 13 0 0 (m_r mw 2 (k_X6_tick (mw.2 2)))) = 0) := c_146
          rw [if_pos c_146] at hres
          refine lv_iload_n hx hb dX6_doneIn_149 rfl (lv_at hl 2 rfl) ?_
          subst hres
          exact kI_ret hE hS hP hD rfl rfl (Nat.le_of_ble_eq_true rfl) (Nat.le_of_ble_eq_true rfl) dX6_doneIn_150
  have L40 : ∀ (n : Nat) (k : Int32) (mw : MV) (j : Nat) (hi : k = nI j) (hj : j + n = 13) (hj2 : j ≤ 12) (hI2 : SI (mw.2 2)) (H : Heap) (locs : List Loc) (ls : Array Slot), va_S A s.heap H locs → va_P D vwCl (md_W cs ma mw) H → va_D A (md_W cs ma mw) → lv_has ls 5 [(0, .ref (ma 0)), (1, .int vk), (2, .int k)] → k_X6_doneIn_L40 mv vk n k mw = res → W p l e { frames := 6, cells := 0, slots := 0, locals := 136 } s m ([.ref (ma 0), .int vk]).toArray below meth c H locs 0 0 (MQ below (va_Qi (fun (r' : Int32) (_ : Unit) => r' = res.1) (kB D (fun _ => md_W cs ma res.2) A) A) ([.ref (ma 0), .int vk]).toArray s 0 0 A) (F0 m 40 ls []) := by
    intro n
    induction n with
    | zero =>
      intro k mw j hi hj hj2 hI2 H locs ls hS hP hD hl hres
      exact absurd hj2 (by omega)
    | succ n ih =>
      intro k mw j hi hj hj2 hI2 H locs ls hS hP hD hl hres
      unfold k_X6_doneIn_L40 at hres
      refine lv_iload_n hx hb dX6_doneIn_40 rfl (lv_at hl 2 rfl) ?_
      refine lv_aload_n hx hb dX6_doneIn_41 rfl (lv_at hl 0 rfl) ?_
      refine va_get (D := D) (ci := 6) (v := .ref (ma 3)) (C := RX6) (T := TX6) (N := 11) hx hb hts hinX6 hown hK hP 0 rfl rfl 4 (by decide) lk_0 (fun _ h9 => h9) rfl dX6_doneIn_42 ?_
      refine lv_iconst (v := 1) hx hb dX6_doneIn_45 (by decide) ?_
      refine k_iald hx hb hK hP 3 0 (v := ((mw.2 2) 1)) rfl rfl (k_inl rfl) rfl dX6_doneIn_46 ?_
      refine lv_icmp_ge (tgt := 82) hx hb dX6_doneIn_47 (by decide) (fun c_47 => ?_) (fun c_47 => ?_)
      · skip
        have c_47 : (((mw.2 2) 1) ≤ k) := c_47
        rw [if_pos c_47] at hres
        refine lv_iconst (v := 1) hx hb dX6_doneIn_82 (by decide) ?_
        refine lv_istore_n (lv' := [(2, .int 1), (0, .ref (ma 0)), (1, .int vk)]) hx hb dX6_doneIn_83 rfl hl (by decide) rfl (fun ls hl => ?_)
        exact L84 101 1 mw 1 ((show (1 : Int32) = nI 1 from rfl)) (rfl) (by decide) (hI2) _ _ _ hS hP hD (lv_sub hl [1, 2, 0] rfl) hres
      · skip
        have c_47 : ¬ (((mw.2 2) 1) ≤ k) := c_47
        rw [if_neg c_47] at hres
        refine lv_aload_n hx hb dX6_doneIn_50 rfl (lv_at hl 0 rfl) ?_
        refine va_get (D := D) (ci := 6) (v := .ref (ma 3)) (C := RX6) (T := TX6) (N := 11) hx hb hts hinX6 hown hK hP 0 rfl rfl 4 (by decide) lk_0 (fun _ h9 => h9) rfl dX6_doneIn_51 ?_
        refine lv_sipush (v := 157) hx hb dX6_doneIn_54 (by decide) ?_
        refine lv_iconst (v := 5) hx hb dX6_doneIn_57 (by decide) ?_
        refine lv_iload_n hx hb dX6_doneIn_58 rfl (lv_at hl 2 rfl) ?_
        refine lv_imul hx hb dX6_doneIn_59 ?_
        refine lv_iadd hx hb dX6_doneIn_60 ?_
        refine lv_iconst (v := 4) hx hb dX6_doneIn_61 (by decide) ?_
        refine lv_iadd hx hb dX6_doneIn_62 ?_
        refine lv_iload_n hx hb dX6_doneIn_63 rfl (lv_at hl 2 rfl) ?_
        refine lv_iload_n hx hb dX6_doneIn_64 rfl (lv_at hl 1 rfl) ?_
        refine lv_icmp_ne (tgt := 74) hx hb dX6_doneIn_65 (by decide) (fun c_65 => ?_) (fun c_65 => ?_)
        · skip
          have c_65 : ¬ (k = vk) := c_65
          rw [if_neg c_65] at hres
          refine lv_iconst (v := 0) hx hb dX6_doneIn_74 (by decide) ?_
          refine k_iast hx hb hK hP hD hS 3 0 (k := ((157 + (5 * k)) + 4).toNatClampNeg) rfl rfl (ord_in (nI_b (N := 11) hi (by omega) (by have := nI_ltb (N := 12) hi (by omega) hI2.2.1.2 c_47; omega)) (by decide)) rfl dX6_doneIn_75 (fun H locs hP hD hS => ?_)
          have hP : va_P D vwCl (md_W cs ma (m_r mw 2 (va_up (mw.2 2) (((157 + (5 * k)) + 4).toNatClampNeg) 0))) H := hP
          have hD : va_D A (md_W cs ma (m_r mw 2 (va_up (mw.2 2) (((157 + (5 * k)) + 4).toNatClampNeg) 0))) := hD
          refine lv_iinc (v := (k + 1)) (lv' := [(2, .int (k + 1)), (0, .ref (ma 0)), (1, .int vk)]) hx hb dX6_doneIn_76 hl (k := 2) rfl (by rfl) (by decide) rfl (fun ls hl => ?_)
          refine lv_goto (tgt := 40) hx hb dX6_doneIn_79 (by decide) ?_
          exact ih (k + 1) (m_r mw 2 (va_up (mw.2 2) (((157 + (5 * k)) + 4).toNatClampNeg) 0)) (j + 1) (by rw [hi, nI_1]) (by omega) (nI_ltb (N := 12) hi (by omega) hI2.2.1.2 c_47) (SI_upc hI2 (ord_14 (nI_b (N := 11) hi (by omega) (by have := nI_ltb (N := 12) hi (by omega) hI2.2.1.2 c_47; omega)) (by decide))) _ _ _ hS hP hD (lv_sub hl [1, 2, 0] rfl) hres
        · skip
          have c_65 : (k = vk) := c_65
          rw [if_pos c_65] at hres
          refine lv_sipush (v := 1000) hx hb dX6_doneIn_68 (by decide) ?_
          refine lv_goto (tgt := 75) hx hb dX6_doneIn_71 (by decide) ?_
          refine k_iast hx hb hK hP hD hS 3 0 (k := ((157 + (5 * k)) + 4).toNatClampNeg) rfl rfl (ord_in (nI_b (N := 11) hi (by omega) (by have := nI_ltb (N := 12) hi (by omega) hI2.2.1.2 c_47; omega)) (by decide)) rfl dX6_doneIn_75 (fun H locs hP hD hS => ?_)
          have hP : va_P D vwCl (md_W cs ma (m_r mw 2 (va_up (mw.2 2) (((157 + (5 * k)) + 4).toNatClampNeg) 1000))) H := hP
          have hD : va_D A (md_W cs ma (m_r mw 2 (va_up (mw.2 2) (((157 + (5 * k)) + 4).toNatClampNeg) 1000))) := hD
          refine lv_iinc (v := (k + 1)) (lv' := [(2, .int (k + 1)), (0, .ref (ma 0)), (1, .int vk)]) hx hb dX6_doneIn_76 hl (k := 2) rfl (by rfl) (by decide) rfl (fun ls hl => ?_)
          refine lv_goto (tgt := 40) hx hb dX6_doneIn_79 (by decide) ?_
          exact ih (k + 1) (m_r mw 2 (va_up (mw.2 2) (((157 + (5 * k)) + 4).toNatClampNeg) 1000)) (j + 1) (by rw [hi, nI_1]) (by omega) (nI_ltb (N := 12) hi (by omega) hI2.2.1.2 c_47) (SI_upc hI2 (ord_14 (nI_b (N := 11) hi (by omega) (by have := nI_ltb (N := 12) hi (by omega) hI2.2.1.2 c_47; omega)) (by decide))) _ _ _ hS hP hD (lv_sub hl [1, 2, 0] rfl) hres
  unfold k_X6_doneIn at hres
  refine lv_aload_n hx hb dX6_doneIn_0 rfl (lv_at hl 0 rfl) ?_
  refine lv_aload_n hx hb dX6_doneIn_1 rfl (lv_at hl 0 rfl) ?_
  refine va_get (D := D) (ci := 6) (v := .ref (ma 2)) (C := RX6) (T := TX6) (N := 11) hx hb hts hinX6 hown hK hP 0 rfl rfl 3 (by decide) lk_1 (fun _ h9 => h9) rfl dX6_doneIn_2 ?_
  refine lv_iload_n hx hb dX6_doneIn_5 rfl (lv_at hl 1 rfl) ?_
  have hP := hP.sub (ws' := (st_W cs (ma 2) (mv.2 1)) ++ (x_pick (md_W cs ma mv) [0, 1, 3, 4, 5, 6])) [2, 0, 1, 3, 4, 5, 6] rfl
  have hD := hD.sub (ws' := (st_W cs (ma 2) (mv.2 1)) ++ (x_pick (md_W cs ma mv) [0, 1, 3, 4, 5, 6])) [2, 0, 1, 3, 4, 5, 6] (by decide) rfl
  have hc_6 := c_X6_isOrder l D cs (ma 2) (mv.2 1) vk
  refine kI_call (wc := (st_W cs (ma 2) (mv.2 1))) (wr := (x_pick (md_W cs ma mv) [0, 1, 3, 4, 5, 6])) (w1 := (st_W cs (ma 2) (mv.2 1))) (r := (k_X6_isOrder (mv.2 1) vk)) hE hP hD hS (k_rS (rest := [.ref (ma 0)]) (As := [.ref (ma 2), .int vk]) hE rfl (hc_6 H.size) (va_cwS 2 hts gX6_doneIn_X6_isOrder rfl rfl rfl (by decide +kernel) ⟨Nat.le_of_ble_eq_true rfl, Nat.le_of_ble_eq_true rfl⟩) hP hD hS rfl hl rfl (Nat.le_of_ble_eq_true rfl) ⟨Nat.le_of_ble_eq_true rfl, Nat.le_of_ble_eq_true rfl⟩ dX6_doneIn_6) (fun H locs hP hD hS => ?_)
  have hP := hP.sub (ws' := md_W cs ma mv) [1, 2, 0, 3, 4, 5, 6] rfl
  have hD := hD.sub (ws' := md_W cs ma mv) [1, 2, 0, 3, 4, 5, 6] (by decide) rfl
  have hP : va_P D vwCl (md_W cs ma mv) H := hP
  have hD : va_D A (md_W cs ma mv) := hD
  refine lv_if_eq (tgt := 16) hx hb dX6_doneIn_9 (by decide) (fun c_9 => ?_) (fun c_9 => ?_)
  · skip
    have c_9 : ((k_X6_isOrder (mv.2 1) vk) = 0) := c_9
    rw [if_pos c_9] at hres
    refine lv_iconst (v := 1) hx hb dX6_doneIn_16 (by decide) ?_
    have hP : va_P D vwCl ((md_W cs ma mv) ++ []) H := k_nP hP
    have hD : va_D A ((md_W cs ma mv) ++ []) := k_nD hD
    have hc_17 := c_X6_refused l D cs ma mv 1
    obtain ⟨r_17, o_17, e_17⟩ : ∃ r9 o9, (k_X6_refused mv 1) = (r9, o9) := ⟨_, _, rfl⟩
    rw [e_17] at hc_17 hres
    dsimp only at hc_17 hres
    refine kI_call (wc := (md_W cs ma mv)) (wr := []) (w1 := md_W cs ma o_17) (r := r_17) hE hP hD hS (k_rV (rest := []) (As := [.int 1]) hE rfl (hc_17 H.size) (cwV 1 hts gX6_doneIn_X6_refused rfl rfl rfl (by decide +kernel) ⟨Nat.le_of_ble_eq_true rfl, Nat.le_of_ble_eq_true rfl⟩) hP hD hS (ci := 6) (q0 := 0) rfl rfl rfl hl rfl (Nat.le_of_ble_eq_true rfl) ⟨Nat.le_of_ble_eq_true rfl, Nat.le_of_ble_eq_true rfl⟩ dX6_doneIn_17) (fun H locs hP hD hS => ?_)
    have hP := k_uP hP
    have hD := k_uD hD
    have hP : va_P D vwCl (md_W cs ma o_17) H := hP
    have hD : va_D A (md_W cs ma o_17) := hD
    refine lv_if_eq (tgt := 25) hx hb dX6_doneIn_20 (by decide) (fun c_20 => ?_) (fun c_20 => ?_)
    · skip
      have c_20 : (r_17 = 0) := c_20
      rw [if_pos c_20] at hres
      refine lv_aload_n hx hb dX6_doneIn_25 rfl (lv_at hl 0 rfl) ?_
      refine va_get (D := D) (ci := 6) (v := .ref (ma 2)) (C := RX6) (T := TX6) (N := 11) hx hb hts hinX6 hown hK hP 0 rfl rfl 3 (by decide) lk_1 (fun _ h9 => h9) rfl dX6_doneIn_26 ?_
      refine lv_iconst (v := 0) hx hb dX6_doneIn_29 (by decide) ?_
      refine lv_aload_n hx hb dX6_doneIn_30 rfl (lv_at hl 0 rfl) ?_
      refine va_get (D := D) (ci := 6) (v := .ref (ma 3)) (C := RX6) (T := TX6) (N := 11) hx hb hts hinX6 hown hK hP 0 rfl rfl 4 (by decide) lk_0 (fun _ h9 => h9) rfl dX6_doneIn_31 ?_
      refine lv_iconst (v := 0) hx hb dX6_doneIn_34 (by decide) ?_
      have hP := hP.sub (ws' := (cp_W cs (ma 2) (ma 3) 217 217 (o_17.2 1) (o_17.2 2)) ++ (x_pick (md_W cs ma o_17) [0, 1, 4, 5, 6])) [2, 3, 0, 1, 4, 5, 6] rfl
      have hD := hD.sub (ws' := (cp_W cs (ma 2) (ma 3) 217 217 (o_17.2 1) (o_17.2 2)) ++ (x_pick (md_W cs ma o_17) [0, 1, 4, 5, 6])) [2, 3, 0, 1, 4, 5, 6] (by decide) rfl
      have hc_35 := c_X6_copyState l D cs (ma 2) (ma 3) 217 217 (o_17.2 1) (o_17.2 2) 0 0 (cp_0 (by decide) (by decide)) (cp_0 (by decide) (by decide))
      refine kV_call (wc := (cp_W cs (ma 2) (ma 3) 217 217 (o_17.2 1) (o_17.2 2))) (wr := (x_pick (md_W cs ma o_17) [0, 1, 4, 5, 6])) (w1 := fun _ => cp_W cs (ma 2) (ma 3) 217 217 (o_17.2 1) (k_X6_copyState (o_17.2 1) (o_17.2 2) 0 0)) hE hP hD hS (k_rS (rest := []) (As := [.ref (ma 2), .int 0, .ref (ma 3), .int 0]) hE rfl (hc_35 H.size) (va_cwS 4 hts gX6_doneIn_X6_copyState rfl rfl rfl (by decide +kernel) ⟨Nat.le_of_ble_eq_true rfl, Nat.le_of_ble_eq_true rfl⟩) hP hD hS rfl hl rfl (Nat.le_of_ble_eq_true rfl) ⟨Nat.le_of_ble_eq_true rfl, Nat.le_of_ble_eq_true rfl⟩ dX6_doneIn_35) (fun _ H locs _ hP hD hS => ?_)
      have hP := hP.sub (ws' := md_W cs ma (m_r o_17 2 (k_X6_copyState (o_17.2 1) (o_17.2 2) 0 0))) [2, 3, 0, 1, 4, 5, 6] rfl
      have hD := hD.sub (ws' := md_W cs ma (m_r o_17 2 (k_X6_copyState (o_17.2 1) (o_17.2 2) 0 0))) [2, 3, 0, 1, 4, 5, 6] (by decide) rfl
      have hP : va_P D vwCl (md_W cs ma (m_r o_17 2 (k_X6_copyState (o_17.2 1) (o_17.2 2) 0 0))) H := hP
      have hD : va_D A (md_W cs ma (m_r o_17 2 (k_X6_copyState (o_17.2 1) (o_17.2 2) 0 0))) := hD
      refine lv_iconst (v := 0) hx hb dX6_doneIn_38 (by decide) ?_
      refine lv_istore_n (lv' := [(2, .int 0), (0, .ref (ma 0)), (1, .int vk)]) hx hb dX6_doneIn_39 rfl hl (by decide) rfl (fun ls hl => ?_)
      exact L40 13 0 (m_r o_17 2 (k_X6_copyState (o_17.2 1) (o_17.2 2) 0 0)) 0 (nI_0.symm) (rfl) (Nat.zero_le _) (SI_cps (MO_rf e_17 hM).1) _ _ _ hS hP hD (lv_sub hl [1, 2, 0] rfl) hres
    · skip
      have c_20 : ¬ (r_17 = 0) := c_20
      rw [if_neg c_20] at hres
      refine lv_iconst (v := 0) hx hb dX6_doneIn_23 (by decide) ?_
      subst hres
      exact kI_ret hE hS hP hD rfl rfl (Nat.le_of_ble_eq_true rfl) (Nat.le_of_ble_eq_true rfl) dX6_doneIn_24
  · skip
    have c_9 : ¬ ((k_X6_isOrder (mv.2 1) vk) = 0) := c_9
    rw [if_neg c_9] at hres
    refine lv_iconst (v := 0) hx hb dX6_doneIn_12 (by decide) ?_
    refine lv_goto (tgt := 17) hx hb dX6_doneIn_13 (by decide) ?_
    have hP : va_P D vwCl ((md_W cs ma mv) ++ []) H := k_nP hP
    have hD : va_D A ((md_W cs ma mv) ++ []) := k_nD hD
    have hc_17 := c_X6_refused l D cs ma mv 0
    obtain ⟨r_17, o_17, e_17⟩ : ∃ r9 o9, (k_X6_refused mv 0) = (r9, o9) := ⟨_, _, rfl⟩
    rw [e_17] at hc_17 hres
    dsimp only at hc_17 hres
    refine kI_call (wc := (md_W cs ma mv)) (wr := []) (w1 := md_W cs ma o_17) (r := r_17) hE hP hD hS (k_rV (rest := []) (As := [.int 0]) hE rfl (hc_17 H.size) (cwV 1 hts gX6_doneIn_X6_refused rfl rfl rfl (by decide +kernel) ⟨Nat.le_of_ble_eq_true rfl, Nat.le_of_ble_eq_true rfl⟩) hP hD hS (ci := 6) (q0 := 0) rfl rfl rfl hl rfl (Nat.le_of_ble_eq_true rfl) ⟨Nat.le_of_ble_eq_true rfl, Nat.le_of_ble_eq_true rfl⟩ dX6_doneIn_17) (fun H locs hP hD hS => ?_)
    have hP := k_uP hP
    have hD := k_uD hD
    have hP : va_P D vwCl (md_W cs ma o_17) H := hP
    have hD : va_D A (md_W cs ma o_17) := hD
    refine lv_if_eq (tgt := 25) hx hb dX6_doneIn_20 (by decide) (fun c_20 => ?_) (fun c_20 => ?_)
    · skip
      have c_20 : (r_17 = 0) := c_20
      rw [if_pos c_20] at hres
      refine lv_aload_n hx hb dX6_doneIn_25 rfl (lv_at hl 0 rfl) ?_
      refine va_get (D := D) (ci := 6) (v := .ref (ma 2)) (C := RX6) (T := TX6) (N := 11) hx hb hts hinX6 hown hK hP 0 rfl rfl 3 (by decide) lk_1 (fun _ h9 => h9) rfl dX6_doneIn_26 ?_
      refine lv_iconst (v := 0) hx hb dX6_doneIn_29 (by decide) ?_
      refine lv_aload_n hx hb dX6_doneIn_30 rfl (lv_at hl 0 rfl) ?_
      refine va_get (D := D) (ci := 6) (v := .ref (ma 3)) (C := RX6) (T := TX6) (N := 11) hx hb hts hinX6 hown hK hP 0 rfl rfl 4 (by decide) lk_0 (fun _ h9 => h9) rfl dX6_doneIn_31 ?_
      refine lv_iconst (v := 0) hx hb dX6_doneIn_34 (by decide) ?_
      have hP := hP.sub (ws' := (cp_W cs (ma 2) (ma 3) 217 217 (o_17.2 1) (o_17.2 2)) ++ (x_pick (md_W cs ma o_17) [0, 1, 4, 5, 6])) [2, 3, 0, 1, 4, 5, 6] rfl
      have hD := hD.sub (ws' := (cp_W cs (ma 2) (ma 3) 217 217 (o_17.2 1) (o_17.2 2)) ++ (x_pick (md_W cs ma o_17) [0, 1, 4, 5, 6])) [2, 3, 0, 1, 4, 5, 6] (by decide) rfl
      have hc_35 := c_X6_copyState l D cs (ma 2) (ma 3) 217 217 (o_17.2 1) (o_17.2 2) 0 0 (cp_0 (by decide) (by decide)) (cp_0 (by decide) (by decide))
      refine kV_call (wc := (cp_W cs (ma 2) (ma 3) 217 217 (o_17.2 1) (o_17.2 2))) (wr := (x_pick (md_W cs ma o_17) [0, 1, 4, 5, 6])) (w1 := fun _ => cp_W cs (ma 2) (ma 3) 217 217 (o_17.2 1) (k_X6_copyState (o_17.2 1) (o_17.2 2) 0 0)) hE hP hD hS (k_rS (rest := []) (As := [.ref (ma 2), .int 0, .ref (ma 3), .int 0]) hE rfl (hc_35 H.size) (va_cwS 4 hts gX6_doneIn_X6_copyState rfl rfl rfl (by decide +kernel) ⟨Nat.le_of_ble_eq_true rfl, Nat.le_of_ble_eq_true rfl⟩) hP hD hS rfl hl rfl (Nat.le_of_ble_eq_true rfl) ⟨Nat.le_of_ble_eq_true rfl, Nat.le_of_ble_eq_true rfl⟩ dX6_doneIn_35) (fun _ H locs _ hP hD hS => ?_)
      have hP := hP.sub (ws' := md_W cs ma (m_r o_17 2 (k_X6_copyState (o_17.2 1) (o_17.2 2) 0 0))) [2, 3, 0, 1, 4, 5, 6] rfl
      have hD := hD.sub (ws' := md_W cs ma (m_r o_17 2 (k_X6_copyState (o_17.2 1) (o_17.2 2) 0 0))) [2, 3, 0, 1, 4, 5, 6] (by decide) rfl
      have hP : va_P D vwCl (md_W cs ma (m_r o_17 2 (k_X6_copyState (o_17.2 1) (o_17.2 2) 0 0))) H := hP
      have hD : va_D A (md_W cs ma (m_r o_17 2 (k_X6_copyState (o_17.2 1) (o_17.2 2) 0 0))) := hD
      refine lv_iconst (v := 0) hx hb dX6_doneIn_38 (by decide) ?_
      refine lv_istore_n (lv' := [(2, .int 0), (0, .ref (ma 0)), (1, .int vk)]) hx hb dX6_doneIn_39 rfl hl (by decide) rfl (fun ls hl => ?_)
      exact L40 13 0 (m_r o_17 2 (k_X6_copyState (o_17.2 1) (o_17.2 2) 0 0)) 0 (nI_0.symm) (rfl) (Nat.zero_le _) (SI_cps (MO_rf e_17 hM).1) _ _ _ hS hP hD (lv_sub hl [1, 2, 0] rfl) hres
    · skip
      have c_20 : ¬ (r_17 = 0) := c_20
      rw [if_neg c_20] at hres
      refine lv_iconst (v := 0) hx hb dX6_doneIn_23 (by decide) ?_
      subst hres
      exact kI_ret hE hS hP hD rfl rfl (Nat.le_of_ble_eq_true rfl) (Nat.le_of_ble_eq_true rfl) dX6_doneIn_24
set_option maxHeartbeats 4000000 in
set_option maxRecDepth 100000 in
theorem c_X6_soundsIn (l : Launch) (D : va_G) (cs : Nat → ClassId) (ma : Nat → Nat) (mv : MV) (vk : Int32) (hM : MO mv) : kI l yX6_soundsIn wsX6_soundsIn { frames := 6, cells := 0, slots := 0, locals := 136 } 0 0 D cs [.ref (ma 0), .int vk] (md_W cs ma mv) (k_X6_soundsIn mv vk).1 (md_W cs ma ((k_X6_soundsIn mv vk).2)) := by
  generalize hres : k_X6_soundsIn mv vk = res
  refine kI_of (cc := cX6_soundsIn) (maxL := 3) (ret := (some .int)) (by decide) rfl (Nat.le_of_ble_eq_true rfl) ?_
  intro p e s m below meth c A ls H locs hE hS hP hD hl
  obtain ⟨hx, hb, hr, hlocks, hml, hown, hts, hK, hA, hG, hnm⟩ := id hE
  have hown : s.vm.findClass RX6 = some m.cls := hown
  have hl : lv_has ls 3 [(0, .ref (ma 0)), (1, .int vk)] := hl
  have hinX6 : ∀ w ∈ wsX60, w ∈ wsX6_soundsIn := by decide +kernel
  have lk_0 := hts (.fieldLink RX6 16 "OrganPegsModel" "trial" "[I") (by decide +kernel)
  have lk_1 := hts (.fieldLink RX6 13 "OrganPegsModel" "now" "[I") (by decide +kernel)
  have L36 : ∀ (n : Nat) (t : Int32) (mw : MV) (j : Nat) (hi : t = nI j) (hj : j + n = 102) (hj2 : j ≤ 101) (hI2 : SI (mw.2 2)) (H : Heap) (locs : List Loc) (ls : Array Slot), va_S A s.heap H locs → va_P D vwCl (md_W cs ma mw) H → va_D A (md_W cs ma mw) → lv_has ls 3 [(0, .ref (ma 0)), (1, .int vk), (2, .int t)] → k_X6_soundsIn_L36 mv vk n t mw = res → W p l e { frames := 6, cells := 0, slots := 0, locals := 136 } s m ([.ref (ma 0), .int vk]).toArray below meth c H locs 0 0 (MQ below (va_Qi (fun (r' : Int32) (_ : Unit) => r' = res.1) (kB D (fun _ => md_W cs ma res.2) A) A) ([.ref (ma 0), .int vk]).toArray s 0 0 A) (F0 m 36 ls []) := by
    intro n
    induction n with
    | zero =>
      intro t mw j hi hj hj2 hI2 H locs ls hS hP hD hl hres
      exact absurd hj2 (by omega)
    | succ n ih =>
      intro t mw j hi hj hj2 hI2 H locs ls hS hP hD hl hres
      unfold k_X6_soundsIn_L36 at hres
      refine lv_iload_n hx hb dX6_soundsIn_36 rfl (lv_at hl 2 rfl) ?_
      refine lv_bipush (v := 100) hx hb dX6_soundsIn_37 (by decide) ?_
      refine lv_icmp_gt (tgt := 72) hx hb dX6_soundsIn_39 (by decide) (fun c_39 => ?_) (fun c_39 => ?_)
      · skip
        have c_39 : (100 < t) := c_39
        rw [if_pos c_39] at hres
        refine lv_iconst (v := (-1)) hx hb dX6_soundsIn_72 (by decide) ?_
        subst hres
        exact kI_ret hE hS hP hD rfl rfl (Nat.le_of_ble_eq_true rfl) (Nat.le_of_ble_eq_true rfl) dX6_soundsIn_73
      · skip
        have c_39 : ¬ (100 < t) := c_39
        rw [if_neg c_39] at hres
        refine lv_aload_n hx hb dX6_soundsIn_42 rfl (lv_at hl 0 rfl) ?_
        refine va_get (D := D) (ci := 6) (v := .ref (ma 3)) (C := RX6) (T := TX6) (N := 11) hx hb hts hinX6 hown hK hP 0 rfl rfl 4 (by decide) lk_0 (fun _ h9 => h9) rfl dX6_soundsIn_43 ?_
        have hP := hP.sub (ws' := (st_W cs (ma 3) (mw.2 2)) ++ (x_pick (md_W cs ma mw) [0, 1, 2, 4, 5, 6])) [3, 0, 1, 2, 4, 5, 6] rfl
        have hD := hD.sub (ws' := (st_W cs (ma 3) (mw.2 2)) ++ (x_pick (md_W cs ma mw) [0, 1, 2, 4, 5, 6])) [3, 0, 1, 2, 4, 5, 6] (by decide) rfl
        have hc_46 := c_X6_tick l D cs (ma 3) (mw.2 2)  hI2
        refine kV_call (wc := (st_W cs (ma 3) (mw.2 2))) (wr := (x_pick (md_W cs ma mw) [0, 1, 2, 4, 5, 6])) (w1 := fun _ => st_W cs (ma 3) (k_X6_tick (mw.2 2))) hE hP hD hS (k_rS (rest := []) (As := [.ref (ma 3)]) hE rfl (hc_46 H.size) (va_cwS 1 hts gX6_soundsIn_X6_tick rfl rfl rfl (by decide +kernel) ⟨Nat.le_of_ble_eq_true rfl, Nat.le_of_ble_eq_true rfl⟩) hP hD hS rfl hl rfl (Nat.le_of_ble_eq_true rfl) ⟨Nat.le_of_ble_eq_true rfl, Nat.le_of_ble_eq_true rfl⟩ dX6_soundsIn_46) (fun _ H locs _ hP hD hS => ?_)
        have hP := hP.sub (ws' := md_W cs ma (m_r mw 2 (k_X6_tick (mw.2 2)))) [1, 2, 3, 0, 4, 5, 6] rfl
        have hD := hD.sub (ws' := md_W cs ma (m_r mw 2 (k_X6_tick (mw.2 2)))) [1, 2, 3, 0, 4, 5, 6] (by decide) rfl
        have hP : va_P D vwCl (md_W cs ma (m_r mw 2 (k_X6_tick (mw.2 2)))) H := hP
        have hD : va_D A (md_W cs ma (m_r mw 2 (k_X6_tick (mw.2 2)))) := hD
        refine lv_aload_n hx hb dX6_soundsIn_49 rfl (lv_at hl 0 rfl) ?_
        refine va_get (D := D) (ci := 6) (v := .ref (ma 3)) (C := RX6) (T := TX6) (N := 11) hx hb hts hinX6 hown hK hP 0 rfl rfl 4 (by decide) lk_0 (fun _ h9 => h9) rfl dX6_soundsIn_50 ?_
        refine lv_bipush (v := 7) hx hb dX6_soundsIn_53 (by decide) ?_
        refine k_iald hx hb hK hP 3 0 (v := ((k_X6_tick (mw.2 2)) 7)) rfl rfl (k_inl rfl) rfl dX6_soundsIn_55 ?_
        refine lv_iload_n hx hb dX6_soundsIn_56 rfl (lv_at hl 1 rfl) ?_
        refine lv_ishr hx hb dX6_soundsIn_57 ?_
        refine lv_iconst (v := 1) hx hb dX6_soundsIn_58 (by decide) ?_
        refine lv_iand hx hb dX6_soundsIn_59 ?_
        refine lv_iconst (v := 1) hx hb dX6_soundsIn_60 (by decide) ?_
        refine lv_icmp_ne (tgt := 66) hx hb dX6_soundsIn_61 (by decide) (fun c_61 => ?_) (fun c_61 => ?_)
        · skip
          have c_61 : ¬ (((((k_X6_tick (mw.2 2)) 7) >>> (vk &&& 31)) &&& 1) = 1) := c_61
          rw [if_neg c_61] at hres
          refine lv_iinc (v := (t + 1)) (lv' := [(2, .int (t + 1)), (0, .ref (ma 0)), (1, .int vk)]) hx hb dX6_soundsIn_66 hl (k := 2) rfl (by rfl) (by decide) rfl (fun ls hl => ?_)
          refine lv_goto (tgt := 36) hx hb dX6_soundsIn_69 (by decide) ?_
          exact ih (t + 1) (m_r mw 2 (k_X6_tick (mw.2 2))) (j + 1) (by rw [hi, nI_1]) (by omega) (by have := c_39; rw [i_lt, hi, nI_toInt (by omega)] at this; have e9 : (100 : Int32).toInt = 100 := rfl; omega) (SI_tick hI2) _ _ _ hS hP hD (lv_sub hl [1, 2, 0] rfl) hres
        · skip
          have c_61 : (((((k_X6_tick (mw.2 2)) 7) >>> (vk &&& 31)) &&& 1) = 1) := c_61
          rw [if_pos c_61] at hres
          refine lv_iload_n hx hb dX6_soundsIn_64 rfl (lv_at hl 2 rfl) ?_
          subst hres
          exact kI_ret hE hS hP hD rfl rfl (Nat.le_of_ble_eq_true rfl) (Nat.le_of_ble_eq_true rfl) dX6_soundsIn_65
  unfold k_X6_soundsIn at hres
  refine lv_aload_n hx hb dX6_soundsIn_0 rfl (lv_at hl 0 rfl) ?_
  refine lv_iload_n hx hb dX6_soundsIn_1 rfl (lv_at hl 1 rfl) ?_
  have hP : va_P D vwCl ([] ++ (md_W cs ma mv)) H := hP
  have hD : va_D A ([] ++ (md_W cs ma mv)) := hD
  have hc_2 := c_X6_isPipe l D cs vk
  refine kI_call (wc := []) (wr := (md_W cs ma mv)) (w1 := []) (r := (k_X6_isPipe vk)) hE hP hD hS (k_rS (rest := [.ref (ma 0)]) (As := [.int vk]) hE rfl (hc_2 H.size) (va_cwS 1 hts gX6_soundsIn_X6_isPipe rfl rfl rfl (by decide +kernel) ⟨Nat.le_of_ble_eq_true rfl, Nat.le_of_ble_eq_true rfl⟩) hP hD hS rfl hl rfl (Nat.le_of_ble_eq_true rfl) ⟨Nat.le_of_ble_eq_true rfl, Nat.le_of_ble_eq_true rfl⟩ dX6_soundsIn_2) (fun H locs hP hD hS => ?_)
  have hP : va_P D vwCl (md_W cs ma mv) H := hP
  have hD : va_D A (md_W cs ma mv) := hD
  refine lv_if_eq (tgt := 12) hx hb dX6_soundsIn_5 (by decide) (fun c_5 => ?_) (fun c_5 => ?_)
  · skip
    have c_5 : ((k_X6_isPipe vk) = 0) := c_5
    rw [if_pos c_5] at hres
    refine lv_iconst (v := 1) hx hb dX6_soundsIn_12 (by decide) ?_
    have hP : va_P D vwCl ((md_W cs ma mv) ++ []) H := k_nP hP
    have hD : va_D A ((md_W cs ma mv) ++ []) := k_nD hD
    have hc_13 := c_X6_refused l D cs ma mv 1
    obtain ⟨r_13, o_13, e_13⟩ : ∃ r9 o9, (k_X6_refused mv 1) = (r9, o9) := ⟨_, _, rfl⟩
    rw [e_13] at hc_13 hres
    dsimp only at hc_13 hres
    refine kI_call (wc := (md_W cs ma mv)) (wr := []) (w1 := md_W cs ma o_13) (r := r_13) hE hP hD hS (k_rV (rest := []) (As := [.int 1]) hE rfl (hc_13 H.size) (cwV 1 hts gX6_soundsIn_X6_refused rfl rfl rfl (by decide +kernel) ⟨Nat.le_of_ble_eq_true rfl, Nat.le_of_ble_eq_true rfl⟩) hP hD hS (ci := 6) (q0 := 0) rfl rfl rfl hl rfl (Nat.le_of_ble_eq_true rfl) ⟨Nat.le_of_ble_eq_true rfl, Nat.le_of_ble_eq_true rfl⟩ dX6_soundsIn_13) (fun H locs hP hD hS => ?_)
    have hP := k_uP hP
    have hD := k_uD hD
    have hP : va_P D vwCl (md_W cs ma o_13) H := hP
    have hD : va_D A (md_W cs ma o_13) := hD
    refine lv_if_eq (tgt := 21) hx hb dX6_soundsIn_16 (by decide) (fun c_16 => ?_) (fun c_16 => ?_)
    · skip
      have c_16 : (r_13 = 0) := c_16
      rw [if_pos c_16] at hres
      refine lv_aload_n hx hb dX6_soundsIn_21 rfl (lv_at hl 0 rfl) ?_
      refine va_get (D := D) (ci := 6) (v := .ref (ma 2)) (C := RX6) (T := TX6) (N := 11) hx hb hts hinX6 hown hK hP 0 rfl rfl 3 (by decide) lk_1 (fun _ h9 => h9) rfl dX6_soundsIn_22 ?_
      refine lv_iconst (v := 0) hx hb dX6_soundsIn_25 (by decide) ?_
      refine lv_aload_n hx hb dX6_soundsIn_26 rfl (lv_at hl 0 rfl) ?_
      refine va_get (D := D) (ci := 6) (v := .ref (ma 3)) (C := RX6) (T := TX6) (N := 11) hx hb hts hinX6 hown hK hP 0 rfl rfl 4 (by decide) lk_0 (fun _ h9 => h9) rfl dX6_soundsIn_27 ?_
      refine lv_iconst (v := 0) hx hb dX6_soundsIn_30 (by decide) ?_
      have hP := hP.sub (ws' := (cp_W cs (ma 2) (ma 3) 217 217 (o_13.2 1) (o_13.2 2)) ++ (x_pick (md_W cs ma o_13) [0, 1, 4, 5, 6])) [2, 3, 0, 1, 4, 5, 6] rfl
      have hD := hD.sub (ws' := (cp_W cs (ma 2) (ma 3) 217 217 (o_13.2 1) (o_13.2 2)) ++ (x_pick (md_W cs ma o_13) [0, 1, 4, 5, 6])) [2, 3, 0, 1, 4, 5, 6] (by decide) rfl
      have hc_31 := c_X6_copyState l D cs (ma 2) (ma 3) 217 217 (o_13.2 1) (o_13.2 2) 0 0 (cp_0 (by decide) (by decide)) (cp_0 (by decide) (by decide))
      refine kV_call (wc := (cp_W cs (ma 2) (ma 3) 217 217 (o_13.2 1) (o_13.2 2))) (wr := (x_pick (md_W cs ma o_13) [0, 1, 4, 5, 6])) (w1 := fun _ => cp_W cs (ma 2) (ma 3) 217 217 (o_13.2 1) (k_X6_copyState (o_13.2 1) (o_13.2 2) 0 0)) hE hP hD hS (k_rS (rest := []) (As := [.ref (ma 2), .int 0, .ref (ma 3), .int 0]) hE rfl (hc_31 H.size) (va_cwS 4 hts gX6_soundsIn_X6_copyState rfl rfl rfl (by decide +kernel) ⟨Nat.le_of_ble_eq_true rfl, Nat.le_of_ble_eq_true rfl⟩) hP hD hS rfl hl rfl (Nat.le_of_ble_eq_true rfl) ⟨Nat.le_of_ble_eq_true rfl, Nat.le_of_ble_eq_true rfl⟩ dX6_soundsIn_31) (fun _ H locs _ hP hD hS => ?_)
      have hP := hP.sub (ws' := md_W cs ma (m_r o_13 2 (k_X6_copyState (o_13.2 1) (o_13.2 2) 0 0))) [2, 3, 0, 1, 4, 5, 6] rfl
      have hD := hD.sub (ws' := md_W cs ma (m_r o_13 2 (k_X6_copyState (o_13.2 1) (o_13.2 2) 0 0))) [2, 3, 0, 1, 4, 5, 6] (by decide) rfl
      have hP : va_P D vwCl (md_W cs ma (m_r o_13 2 (k_X6_copyState (o_13.2 1) (o_13.2 2) 0 0))) H := hP
      have hD : va_D A (md_W cs ma (m_r o_13 2 (k_X6_copyState (o_13.2 1) (o_13.2 2) 0 0))) := hD
      refine lv_iconst (v := 1) hx hb dX6_soundsIn_34 (by decide) ?_
      refine lv_istore_n (lv' := [(2, .int 1), (0, .ref (ma 0)), (1, .int vk)]) hx hb dX6_soundsIn_35 rfl hl (by decide) rfl (fun ls hl => ?_)
      exact L36 101 1 (m_r o_13 2 (k_X6_copyState (o_13.2 1) (o_13.2 2) 0 0)) 1 ((show (1 : Int32) = nI 1 from rfl)) (rfl) (by decide) (SI_cps (MO_rf e_13 hM).1) _ _ _ hS hP hD (lv_sub hl [1, 2, 0] rfl) hres
    · skip
      have c_16 : ¬ (r_13 = 0) := c_16
      rw [if_neg c_16] at hres
      refine lv_iconst (v := 0) hx hb dX6_soundsIn_19 (by decide) ?_
      subst hres
      exact kI_ret hE hS hP hD rfl rfl (Nat.le_of_ble_eq_true rfl) (Nat.le_of_ble_eq_true rfl) dX6_soundsIn_20
  · skip
    have c_5 : ¬ ((k_X6_isPipe vk) = 0) := c_5
    rw [if_neg c_5] at hres
    refine lv_iconst (v := 0) hx hb dX6_soundsIn_8 (by decide) ?_
    refine lv_goto (tgt := 13) hx hb dX6_soundsIn_9 (by decide) ?_
    have hP : va_P D vwCl ((md_W cs ma mv) ++ []) H := k_nP hP
    have hD : va_D A ((md_W cs ma mv) ++ []) := k_nD hD
    have hc_13 := c_X6_refused l D cs ma mv 0
    obtain ⟨r_13, o_13, e_13⟩ : ∃ r9 o9, (k_X6_refused mv 0) = (r9, o9) := ⟨_, _, rfl⟩
    rw [e_13] at hc_13 hres
    dsimp only at hc_13 hres
    refine kI_call (wc := (md_W cs ma mv)) (wr := []) (w1 := md_W cs ma o_13) (r := r_13) hE hP hD hS (k_rV (rest := []) (As := [.int 0]) hE rfl (hc_13 H.size) (cwV 1 hts gX6_soundsIn_X6_refused rfl rfl rfl (by decide +kernel) ⟨Nat.le_of_ble_eq_true rfl, Nat.le_of_ble_eq_true rfl⟩) hP hD hS (ci := 6) (q0 := 0) rfl rfl rfl hl rfl (Nat.le_of_ble_eq_true rfl) ⟨Nat.le_of_ble_eq_true rfl, Nat.le_of_ble_eq_true rfl⟩ dX6_soundsIn_13) (fun H locs hP hD hS => ?_)
    have hP := k_uP hP
    have hD := k_uD hD
    have hP : va_P D vwCl (md_W cs ma o_13) H := hP
    have hD : va_D A (md_W cs ma o_13) := hD
    refine lv_if_eq (tgt := 21) hx hb dX6_soundsIn_16 (by decide) (fun c_16 => ?_) (fun c_16 => ?_)
    · skip
      have c_16 : (r_13 = 0) := c_16
      rw [if_pos c_16] at hres
      refine lv_aload_n hx hb dX6_soundsIn_21 rfl (lv_at hl 0 rfl) ?_
      refine va_get (D := D) (ci := 6) (v := .ref (ma 2)) (C := RX6) (T := TX6) (N := 11) hx hb hts hinX6 hown hK hP 0 rfl rfl 3 (by decide) lk_1 (fun _ h9 => h9) rfl dX6_soundsIn_22 ?_
      refine lv_iconst (v := 0) hx hb dX6_soundsIn_25 (by decide) ?_
      refine lv_aload_n hx hb dX6_soundsIn_26 rfl (lv_at hl 0 rfl) ?_
      refine va_get (D := D) (ci := 6) (v := .ref (ma 3)) (C := RX6) (T := TX6) (N := 11) hx hb hts hinX6 hown hK hP 0 rfl rfl 4 (by decide) lk_0 (fun _ h9 => h9) rfl dX6_soundsIn_27 ?_
      refine lv_iconst (v := 0) hx hb dX6_soundsIn_30 (by decide) ?_
      have hP := hP.sub (ws' := (cp_W cs (ma 2) (ma 3) 217 217 (o_13.2 1) (o_13.2 2)) ++ (x_pick (md_W cs ma o_13) [0, 1, 4, 5, 6])) [2, 3, 0, 1, 4, 5, 6] rfl
      have hD := hD.sub (ws' := (cp_W cs (ma 2) (ma 3) 217 217 (o_13.2 1) (o_13.2 2)) ++ (x_pick (md_W cs ma o_13) [0, 1, 4, 5, 6])) [2, 3, 0, 1, 4, 5, 6] (by decide) rfl
      have hc_31 := c_X6_copyState l D cs (ma 2) (ma 3) 217 217 (o_13.2 1) (o_13.2 2) 0 0 (cp_0 (by decide) (by decide)) (cp_0 (by decide) (by decide))
      refine kV_call (wc := (cp_W cs (ma 2) (ma 3) 217 217 (o_13.2 1) (o_13.2 2))) (wr := (x_pick (md_W cs ma o_13) [0, 1, 4, 5, 6])) (w1 := fun _ => cp_W cs (ma 2) (ma 3) 217 217 (o_13.2 1) (k_X6_copyState (o_13.2 1) (o_13.2 2) 0 0)) hE hP hD hS (k_rS (rest := []) (As := [.ref (ma 2), .int 0, .ref (ma 3), .int 0]) hE rfl (hc_31 H.size) (va_cwS 4 hts gX6_soundsIn_X6_copyState rfl rfl rfl (by decide +kernel) ⟨Nat.le_of_ble_eq_true rfl, Nat.le_of_ble_eq_true rfl⟩) hP hD hS rfl hl rfl (Nat.le_of_ble_eq_true rfl) ⟨Nat.le_of_ble_eq_true rfl, Nat.le_of_ble_eq_true rfl⟩ dX6_soundsIn_31) (fun _ H locs _ hP hD hS => ?_)
      have hP := hP.sub (ws' := md_W cs ma (m_r o_13 2 (k_X6_copyState (o_13.2 1) (o_13.2 2) 0 0))) [2, 3, 0, 1, 4, 5, 6] rfl
      have hD := hD.sub (ws' := md_W cs ma (m_r o_13 2 (k_X6_copyState (o_13.2 1) (o_13.2 2) 0 0))) [2, 3, 0, 1, 4, 5, 6] (by decide) rfl
      have hP : va_P D vwCl (md_W cs ma (m_r o_13 2 (k_X6_copyState (o_13.2 1) (o_13.2 2) 0 0))) H := hP
      have hD : va_D A (md_W cs ma (m_r o_13 2 (k_X6_copyState (o_13.2 1) (o_13.2 2) 0 0))) := hD
      refine lv_iconst (v := 1) hx hb dX6_soundsIn_34 (by decide) ?_
      refine lv_istore_n (lv' := [(2, .int 1), (0, .ref (ma 0)), (1, .int vk)]) hx hb dX6_soundsIn_35 rfl hl (by decide) rfl (fun ls hl => ?_)
      exact L36 101 1 (m_r o_13 2 (k_X6_copyState (o_13.2 1) (o_13.2 2) 0 0)) 1 ((show (1 : Int32) = nI 1 from rfl)) (rfl) (by decide) (SI_cps (MO_rf e_13 hM).1) _ _ _ hS hP hD (lv_sub hl [1, 2, 0] rfl) hres
    · skip
      have c_16 : ¬ (r_13 = 0) := c_16
      rw [if_neg c_16] at hres
      refine lv_iconst (v := 0) hx hb dX6_soundsIn_19 (by decide) ?_
      subst hres
      exact kI_ret hE hS hP hD rfl rfl (Nat.le_of_ble_eq_true rfl) (Nat.le_of_ble_eq_true rfl) dX6_soundsIn_20
set_option maxHeartbeats 4000000 in
set_option maxRecDepth 100000 in
theorem c_X6_leastSpeed (l : Launch) (D : va_G) (cs : Nat → ClassId) (ma : Nat → Nat) (mv : MV) (vk : Int32) (hM : MO mv) : kI l yX6_leastSpeed wsX6_leastSpeed { frames := 7, cells := 0, slots := 0, locals := 159 } 0 0 D cs [.ref (ma 0), .int vk] (md_W cs ma mv) (k_X6_leastSpeed mv vk).1 (md_W cs ma ((k_X6_leastSpeed mv vk).2)) := by
  generalize hres : k_X6_leastSpeed mv vk = res
  refine kI_of (cc := cX6_leastSpeed) (maxL := 3) (ret := (some .int)) (by decide) rfl (Nat.le_of_ble_eq_true rfl) ?_
  intro p e s m below meth c A ls H locs hE hS hP hD hl
  obtain ⟨hx, hb, hr, hlocks, hml, hown, hts, hK, hA, hG, hnm⟩ := id hE
  have hown : s.vm.findClass RX6 = some m.cls := hown
  have hl : lv_has ls 3 [(0, .ref (ma 0)), (1, .int vk)] := hl
  have hinX6 : ∀ w ∈ wsX60, w ∈ wsX6_leastSpeed := by decide +kernel
  have lk_0 := hts (.fieldLink RX6 13 "OrganPegsModel" "now" "[I") (by decide +kernel)
  have lk_1 := hts (.fieldLink RX6 16 "OrganPegsModel" "trial" "[I") (by decide +kernel)
  have lk_2 := hts (.constantLong RX6 191 99) (by decide +kernel)
  have L28 : ∀ (n : Nat) (v : Int32) (mw : MV) (j : Nat) (hi : v = nI j) (hj : j + n = 5) (hj2 : j ≤ 4) (hM2 : MO mw) (hv : vk.toInt ≤ 99) (H : Heap) (locs : List Loc) (ls : Array Slot), va_S A s.heap H locs → va_P D vwCl (md_W cs ma mw) H → va_D A (md_W cs ma mw) → lv_has ls 3 [(0, .ref (ma 0)), (1, .int vk), (2, .int v)] → k_X6_leastSpeed_L28 mv vk n v mw = res → W p l e { frames := 7, cells := 0, slots := 0, locals := 159 } s m ([.ref (ma 0), .int vk]).toArray below meth c H locs 0 0 (MQ below (va_Qi (fun (r' : Int32) (_ : Unit) => r' = res.1) (kB D (fun _ => md_W cs ma res.2) A) A) ([.ref (ma 0), .int vk]).toArray s 0 0 A) (F0 m 28 ls []) := by
    intro n
    induction n with
    | zero =>
      intro v mw j hi hj hj2 hM2 hv H locs ls hS hP hD hl hres
      exact absurd hj2 (by omega)
    | succ n ih =>
      intro v mw j hi hj hj2 hM2 hv H locs ls hS hP hD hl hres
      unfold k_X6_leastSpeed_L28 at hres
      refine lv_iload_n hx hb dX6_leastSpeed_28 rfl (lv_at hl 2 rfl) ?_
      refine lv_iconst (v := 3) hx hb dX6_leastSpeed_29 (by decide) ?_
      refine lv_icmp_gt (tgt := 90) hx hb dX6_leastSpeed_30 (by decide) (fun c_30 => ?_) (fun c_30 => ?_)
      · skip
        have c_30 : (3 < v) := c_30
        rw [if_pos c_30] at hres
        refine lv_iconst (v := (-1)) hx hb dX6_leastSpeed_90 (by decide) ?_
        subst hres
        exact kI_ret hE hS hP hD rfl rfl (Nat.le_of_ble_eq_true rfl) (Nat.le_of_ble_eq_true rfl) dX6_leastSpeed_91
      · skip
        have c_30 : ¬ (3 < v) := c_30
        rw [if_neg c_30] at hres
        refine lv_aload_n hx hb dX6_leastSpeed_33 rfl (lv_at hl 0 rfl) ?_
        refine va_get (D := D) (ci := 6) (v := .ref (ma 2)) (C := RX6) (T := TX6) (N := 11) hx hb hts hinX6 hown hK hP 0 rfl rfl 3 (by decide) lk_0 (fun _ h9 => h9) rfl dX6_leastSpeed_34 ?_
        refine lv_iconst (v := 0) hx hb dX6_leastSpeed_37 (by decide) ?_
        refine lv_aload_n hx hb dX6_leastSpeed_38 rfl (lv_at hl 0 rfl) ?_
        refine va_get (D := D) (ci := 6) (v := .ref (ma 3)) (C := RX6) (T := TX6) (N := 11) hx hb hts hinX6 hown hK hP 0 rfl rfl 4 (by decide) lk_1 (fun _ h9 => h9) rfl dX6_leastSpeed_39 ?_
        refine lv_iconst (v := 0) hx hb dX6_leastSpeed_42 (by decide) ?_
        have hP := hP.sub (ws' := (cp_W cs (ma 2) (ma 3) 217 217 (mw.2 1) (mw.2 2)) ++ (x_pick (md_W cs ma mw) [0, 1, 4, 5, 6])) [2, 3, 0, 1, 4, 5, 6] rfl
        have hD := hD.sub (ws' := (cp_W cs (ma 2) (ma 3) 217 217 (mw.2 1) (mw.2 2)) ++ (x_pick (md_W cs ma mw) [0, 1, 4, 5, 6])) [2, 3, 0, 1, 4, 5, 6] (by decide) rfl
        have hc_43 := c_X6_copyState l D cs (ma 2) (ma 3) 217 217 (mw.2 1) (mw.2 2) 0 0 (cp_0 (by decide) (by decide)) (cp_0 (by decide) (by decide))
        refine kV_call (wc := (cp_W cs (ma 2) (ma 3) 217 217 (mw.2 1) (mw.2 2))) (wr := (x_pick (md_W cs ma mw) [0, 1, 4, 5, 6])) (w1 := fun _ => cp_W cs (ma 2) (ma 3) 217 217 (mw.2 1) (k_X6_copyState (mw.2 1) (mw.2 2) 0 0)) hE hP hD hS (k_rS (rest := []) (As := [.ref (ma 2), .int 0, .ref (ma 3), .int 0]) hE rfl (hc_43 H.size) (va_cwS 4 hts gX6_leastSpeed_X6_copyState rfl rfl rfl (by decide +kernel) ⟨Nat.le_of_ble_eq_true rfl, Nat.le_of_ble_eq_true rfl⟩) hP hD hS rfl hl rfl (Nat.le_of_ble_eq_true rfl) ⟨Nat.le_of_ble_eq_true rfl, Nat.le_of_ble_eq_true rfl⟩ dX6_leastSpeed_43) (fun _ H locs _ hP hD hS => ?_)
        have hP := hP.sub (ws' := md_W cs ma (m_r mw 2 (k_X6_copyState (mw.2 1) (mw.2 2) 0 0))) [2, 3, 0, 1, 4, 5, 6] rfl
        have hD := hD.sub (ws' := md_W cs ma (m_r mw 2 (k_X6_copyState (mw.2 1) (mw.2 2) 0 0))) [2, 3, 0, 1, 4, 5, 6] (by decide) rfl
        have hP : va_P D vwCl (md_W cs ma (m_r mw 2 (k_X6_copyState (mw.2 1) (mw.2 2) 0 0))) H := hP
        have hD : va_D A (md_W cs ma (m_r mw 2 (k_X6_copyState (mw.2 1) (mw.2 2) 0 0))) := hD
        refine lv_aload_n hx hb dX6_leastSpeed_46 rfl (lv_at hl 0 rfl) ?_
        refine va_get (D := D) (ci := 6) (v := .ref (ma 3)) (C := RX6) (T := TX6) (N := 11) hx hb hts hinX6 hown hK hP 0 rfl rfl 4 (by decide) lk_1 (fun _ h9 => h9) rfl dX6_leastSpeed_47 ?_
        refine lv_iconst (v := 0) hx hb dX6_leastSpeed_50 (by decide) ?_
        refine lv_iload_n hx hb dX6_leastSpeed_51 rfl (lv_at hl 2 rfl) ?_
        have hP := hP.sub (ws' := (st_W cs (ma 3) (k_X6_copyState (mw.2 1) (mw.2 2) 0 0)) ++ (x_pick (md_W cs ma (m_r mw 2 (k_X6_copyState (mw.2 1) (mw.2 2) 0 0))) [0, 1, 2, 4, 5, 6])) [3, 0, 1, 2, 4, 5, 6] rfl
        have hD := hD.sub (ws' := (st_W cs (ma 3) (k_X6_copyState (mw.2 1) (mw.2 2) 0 0)) ++ (x_pick (md_W cs ma (m_r mw 2 (k_X6_copyState (mw.2 1) (mw.2 2) 0 0))) [0, 1, 2, 4, 5, 6])) [3, 0, 1, 2, 4, 5, 6] (by decide) rfl
        have hc_52 := c_X6_change l D cs (ma 3) (k_X6_copyState (mw.2 1) (mw.2 2) 0 0) 0 v (by decide)
        obtain ⟨r_52, o_52, e_52⟩ : ∃ r9 o9, (k_X6_change (k_X6_copyState (mw.2 1) (mw.2 2) 0 0) 0 v) = (r9, o9) := ⟨_, _, rfl⟩
        rw [e_52] at hc_52 hres
        dsimp only at hc_52 hres
        refine kI_call (wc := (st_W cs (ma 3) (k_X6_copyState (mw.2 1) (mw.2 2) 0 0))) (wr := (x_pick (md_W cs ma (m_r mw 2 (k_X6_copyState (mw.2 1) (mw.2 2) 0 0))) [0, 1, 2, 4, 5, 6])) (w1 := st_W cs (ma 3) o_52) (r := r_52) hE hP hD hS (k_rS (rest := []) (As := [.ref (ma 3), .int 0, .int v]) hE rfl (hc_52 H.size) (va_cwS 3 hts gX6_leastSpeed_X6_change rfl rfl rfl (by decide +kernel) ⟨Nat.le_of_ble_eq_true rfl, Nat.le_of_ble_eq_true rfl⟩) hP hD hS rfl hl rfl (Nat.le_of_ble_eq_true rfl) ⟨Nat.le_of_ble_eq_true rfl, Nat.le_of_ble_eq_true rfl⟩ dX6_leastSpeed_52) (fun H locs hP hD hS => ?_)
        have hP := hP.sub (ws' := md_W cs ma (m_r mw 2 o_52)) [1, 2, 3, 0, 4, 5, 6] rfl
        have hD := hD.sub (ws' := md_W cs ma (m_r mw 2 o_52)) [1, 2, 3, 0, 4, 5, 6] (by decide) rfl
        have hP : va_P D vwCl (md_W cs ma (m_r mw 2 o_52)) H := hP
        have hD : va_D A (md_W cs ma (m_r mw 2 o_52)) := hD
        refine lv_pop hx hb dX6_leastSpeed_55 rfl ?_
        refine lv_aload_n hx hb dX6_leastSpeed_56 rfl (lv_at hl 0 rfl) ?_
        refine va_get (D := D) (ci := 6) (v := .ref (ma 3)) (C := RX6) (T := TX6) (N := 11) hx hb hts hinX6 hown hK hP 0 rfl rfl 4 (by decide) lk_1 (fun _ h9 => h9) rfl dX6_leastSpeed_57 ?_
        refine lv_iload_n hx hb dX6_leastSpeed_60 rfl (lv_at hl 1 rfl) ?_
        have hP := hP.sub (ws' := (st_W cs (ma 3) o_52) ++ (x_pick (md_W cs ma (m_r mw 2 o_52)) [0, 1, 2, 4, 5, 6])) [3, 0, 1, 2, 4, 5, 6] rfl
        have hD := hD.sub (ws' := (st_W cs (ma 3) o_52) ++ (x_pick (md_W cs ma (m_r mw 2 o_52)) [0, 1, 2, 4, 5, 6])) [3, 0, 1, 2, 4, 5, 6] (by decide) rfl
        have hc_61 := c_X6_ticksOn l D cs (ma 3) o_52 vk (SI_chgE e_52 (set_y (Or.inl ⟨rfl, (by have := nI_b (N := 4) hi (by omega) hj2; omega), (by have := c_30; rw [i_lt] at this; have e9 : (3 : Int32).toInt = 3 := rfl; omega)⟩)) (SI_cps hM2.1)) hv
        obtain ⟨r_61, o_61, e_61⟩ : ∃ r9 o9, (k_X6_ticksOn o_52 vk) = (r9, o9) := ⟨_, _, rfl⟩
        rw [e_61] at hc_61 hres
        dsimp only at hc_61 hres
        refine kI_call (wc := (st_W cs (ma 3) o_52)) (wr := (x_pick (md_W cs ma (m_r mw 2 o_52)) [0, 1, 2, 4, 5, 6])) (w1 := st_W cs (ma 3) o_61) (r := r_61) hE hP hD hS (k_rS (rest := []) (As := [.ref (ma 3), .int vk]) hE rfl (hc_61 H.size) (va_cwS 2 hts gX6_leastSpeed_X6_ticksOn rfl rfl rfl (by decide +kernel) ⟨Nat.le_of_ble_eq_true rfl, Nat.le_of_ble_eq_true rfl⟩) hP hD hS rfl hl rfl (Nat.le_of_ble_eq_true rfl) ⟨Nat.le_of_ble_eq_true rfl, Nat.le_of_ble_eq_true rfl⟩ dX6_leastSpeed_61) (fun H locs hP hD hS => ?_)
        have hP := hP.sub (ws' := md_W cs ma (m_r mw 2 o_61)) [1, 2, 3, 0, 4, 5, 6] rfl
        have hD := hD.sub (ws' := md_W cs ma (m_r mw 2 o_61)) [1, 2, 3, 0, 4, 5, 6] (by decide) rfl
        have hP : va_P D vwCl (md_W cs ma (m_r mw 2 o_61)) H := hP
        have hD : va_D A (md_W cs ma (m_r mw 2 o_61)) := hD
        refine lv_pop hx hb dX6_leastSpeed_64 rfl ?_
        refine lv_aload_n hx hb dX6_leastSpeed_65 rfl (lv_at hl 0 rfl) ?_
        refine va_get (D := D) (ci := 6) (v := .ref (ma 3)) (C := RX6) (T := TX6) (N := 11) hx hb hts hinX6 hown hK hP 0 rfl rfl 4 (by decide) lk_1 (fun _ h9 => h9) rfl dX6_leastSpeed_66 ?_
        refine lv_bipush (v := 10) hx hb dX6_leastSpeed_69 (by decide) ?_
        refine k_iald hx hb hK hP 3 0 (v := (o_61 10)) rfl rfl (k_inl rfl) rfl dX6_leastSpeed_71 ?_
        refine lv_aload_n hx hb dX6_leastSpeed_72 rfl (lv_at hl 0 rfl) ?_
        refine va_get (D := D) (ci := 6) (v := .ref (ma 2)) (C := RX6) (T := TX6) (N := 11) hx hb hts hinX6 hown hK hP 0 rfl rfl 3 (by decide) lk_0 (fun _ h9 => h9) rfl dX6_leastSpeed_73 ?_
        refine lv_bipush (v := 10) hx hb dX6_leastSpeed_76 (by decide) ?_
        refine k_iald hx hb hK hP 2 0 (v := ((mw.2 1) 10)) rfl rfl (k_inl rfl) rfl dX6_leastSpeed_78 ?_
        refine lv_icmp_ne (tgt := 84) hx hb dX6_leastSpeed_79 (by decide) (fun c_79 => ?_) (fun c_79 => ?_)
        · skip
          have c_79 : ¬ ((o_61 10) = ((mw.2 1) 10)) := c_79
          rw [if_neg c_79] at hres
          refine lv_iinc (v := (v + 1)) (lv' := [(2, .int (v + 1)), (0, .ref (ma 0)), (1, .int vk)]) hx hb dX6_leastSpeed_84 hl (k := 2) rfl (by rfl) (by decide) rfl (fun ls hl => ?_)
          refine lv_goto (tgt := 28) hx hb dX6_leastSpeed_87 (by decide) ?_
          exact ih (v + 1) (m_r mw 2 o_61) (j + 1) (by rw [hi, nI_1]) (by omega) (by have := c_30; rw [i_lt, hi, nI_toInt (by omega)] at this; have e9 : (3 : Int32).toInt = 3 := rfl; omega) (hM2) (hv) _ _ _ hS hP hD (lv_sub hl [1, 2, 0] rfl) hres
        · skip
          have c_79 : ((o_61 10) = ((mw.2 1) 10)) := c_79
          rw [if_pos c_79] at hres
          refine lv_iload_n hx hb dX6_leastSpeed_82 rfl (lv_at hl 2 rfl) ?_
          subst hres
          exact kI_ret hE hS hP hD rfl rfl (Nat.le_of_ble_eq_true rfl) (Nat.le_of_ble_eq_true rfl) dX6_leastSpeed_83
  unfold k_X6_leastSpeed at hres
  refine lv_aload_n hx hb dX6_leastSpeed_0 rfl (lv_at hl 0 rfl) ?_
  refine lv_iload_n hx hb dX6_leastSpeed_1 rfl (lv_at hl 1 rfl) ?_
  refine lv_i2l hx hb dX6_leastSpeed_2 rfl ?_
  refine lv_lconst (v := 1) hx hb dX6_leastSpeed_3 (by decide) ?_
  refine lv_ldc2 (v := 99) hx hb hown lk_2 dX6_leastSpeed_4 ?_
  have hP : va_P D vwCl ([] ++ (md_W cs ma mv)) H := hP
  have hD : va_D A ([] ++ (md_W cs ma mv)) := hD
  have hc_7 := c_X6_in l D cs (vk.toInt64) 1 99
  refine kI_call (wc := []) (wr := (md_W cs ma mv)) (w1 := []) (r := (k_X6_in (vk.toInt64) 1 99)) hE hP hD hS (k_rS (rest := [.ref (ma 0)]) (As := [.long (vk.toInt64), .long 1, .long 99]) hE rfl (hc_7 H.size) (va_cwS 3 hts gX6_leastSpeed_X6_in rfl rfl rfl (by decide +kernel) ⟨Nat.le_of_ble_eq_true rfl, Nat.le_of_ble_eq_true rfl⟩) hP hD hS rfl hl rfl (Nat.le_of_ble_eq_true rfl) ⟨Nat.le_of_ble_eq_true rfl, Nat.le_of_ble_eq_true rfl⟩ dX6_leastSpeed_7) (fun H locs hP hD hS => ?_)
  have hP : va_P D vwCl (md_W cs ma mv) H := hP
  have hD : va_D A (md_W cs ma mv) := hD
  refine lv_if_eq (tgt := 17) hx hb dX6_leastSpeed_10 (by decide) (fun c_10 => ?_) (fun c_10 => ?_)
  · skip
    have c_10 : ((k_X6_in (vk.toInt64) 1 99) = 0) := c_10
    rw [if_pos c_10] at hres
    refine lv_iconst (v := 1) hx hb dX6_leastSpeed_17 (by decide) ?_
    have hP : va_P D vwCl ((md_W cs ma mv) ++ []) H := k_nP hP
    have hD : va_D A ((md_W cs ma mv) ++ []) := k_nD hD
    have hc_18 := c_X6_refused l D cs ma mv 1
    obtain ⟨r_18, o_18, e_18⟩ : ∃ r9 o9, (k_X6_refused mv 1) = (r9, o9) := ⟨_, _, rfl⟩
    rw [e_18] at hc_18 hres
    dsimp only at hc_18 hres
    refine kI_call (wc := (md_W cs ma mv)) (wr := []) (w1 := md_W cs ma o_18) (r := r_18) hE hP hD hS (k_rV (rest := []) (As := [.int 1]) hE rfl (hc_18 H.size) (cwV 1 hts gX6_leastSpeed_X6_refused rfl rfl rfl (by decide +kernel) ⟨Nat.le_of_ble_eq_true rfl, Nat.le_of_ble_eq_true rfl⟩) hP hD hS (ci := 6) (q0 := 0) rfl rfl rfl hl rfl (Nat.le_of_ble_eq_true rfl) ⟨Nat.le_of_ble_eq_true rfl, Nat.le_of_ble_eq_true rfl⟩ dX6_leastSpeed_18) (fun H locs hP hD hS => ?_)
    have hP := k_uP hP
    have hD := k_uD hD
    have hP : va_P D vwCl (md_W cs ma o_18) H := hP
    have hD : va_D A (md_W cs ma o_18) := hD
    refine lv_if_eq (tgt := 26) hx hb dX6_leastSpeed_21 (by decide) (fun c_21 => ?_) (fun c_21 => ?_)
    · skip
      have c_21 : (r_18 = 0) := c_21
      rw [if_pos c_21] at hres
      refine lv_iconst (v := 0) hx hb dX6_leastSpeed_26 (by decide) ?_
      refine lv_istore_n (lv' := [(2, .int 0), (0, .ref (ma 0)), (1, .int vk)]) hx hb dX6_leastSpeed_27 rfl hl (by decide) rfl (fun ls hl => ?_)
      exact L28 5 0 o_18 0 (nI_0.symm) (rfl) (Nat.zero_le _) (MO_rf e_18 hM) ((by first | exact (in_n (A := 1) (B := 99) rfl rfl c_10).2 | exact absurd (rfd_n e_18 c_21) (by decide))) _ _ _ hS hP hD (lv_sub hl [1, 2, 0] rfl) hres
    · skip
      have c_21 : ¬ (r_18 = 0) := c_21
      rw [if_neg c_21] at hres
      refine lv_iconst (v := 0) hx hb dX6_leastSpeed_24 (by decide) ?_
      subst hres
      exact kI_ret hE hS hP hD rfl rfl (Nat.le_of_ble_eq_true rfl) (Nat.le_of_ble_eq_true rfl) dX6_leastSpeed_25
  · skip
    have c_10 : ¬ ((k_X6_in (vk.toInt64) 1 99) = 0) := c_10
    rw [if_neg c_10] at hres
    refine lv_iconst (v := 0) hx hb dX6_leastSpeed_13 (by decide) ?_
    refine lv_goto (tgt := 18) hx hb dX6_leastSpeed_14 (by decide) ?_
    have hP : va_P D vwCl ((md_W cs ma mv) ++ []) H := k_nP hP
    have hD : va_D A ((md_W cs ma mv) ++ []) := k_nD hD
    have hc_18 := c_X6_refused l D cs ma mv 0
    obtain ⟨r_18, o_18, e_18⟩ : ∃ r9 o9, (k_X6_refused mv 0) = (r9, o9) := ⟨_, _, rfl⟩
    rw [e_18] at hc_18 hres
    dsimp only at hc_18 hres
    refine kI_call (wc := (md_W cs ma mv)) (wr := []) (w1 := md_W cs ma o_18) (r := r_18) hE hP hD hS (k_rV (rest := []) (As := [.int 0]) hE rfl (hc_18 H.size) (cwV 1 hts gX6_leastSpeed_X6_refused rfl rfl rfl (by decide +kernel) ⟨Nat.le_of_ble_eq_true rfl, Nat.le_of_ble_eq_true rfl⟩) hP hD hS (ci := 6) (q0 := 0) rfl rfl rfl hl rfl (Nat.le_of_ble_eq_true rfl) ⟨Nat.le_of_ble_eq_true rfl, Nat.le_of_ble_eq_true rfl⟩ dX6_leastSpeed_18) (fun H locs hP hD hS => ?_)
    have hP := k_uP hP
    have hD := k_uD hD
    have hP : va_P D vwCl (md_W cs ma o_18) H := hP
    have hD : va_D A (md_W cs ma o_18) := hD
    refine lv_if_eq (tgt := 26) hx hb dX6_leastSpeed_21 (by decide) (fun c_21 => ?_) (fun c_21 => ?_)
    · skip
      have c_21 : (r_18 = 0) := c_21
      rw [if_pos c_21] at hres
      refine lv_iconst (v := 0) hx hb dX6_leastSpeed_26 (by decide) ?_
      refine lv_istore_n (lv' := [(2, .int 0), (0, .ref (ma 0)), (1, .int vk)]) hx hb dX6_leastSpeed_27 rfl hl (by decide) rfl (fun ls hl => ?_)
      exact L28 5 0 o_18 0 (nI_0.symm) (rfl) (Nat.zero_le _) (MO_rf e_18 hM) ((by first | exact (in_n (A := 1) (B := 99) rfl rfl c_10).2 | exact absurd (rfd_n e_18 c_21) (by decide))) _ _ _ hS hP hD (lv_sub hl [1, 2, 0] rfl) hres
    · skip
      have c_21 : ¬ (r_18 = 0) := c_21
      rw [if_neg c_21] at hres
      refine lv_iconst (v := 0) hx hb dX6_leastSpeed_24 (by decide) ?_
      subst hres
      exact kI_ret hE hS hP hD rfl rfl (Nat.le_of_ble_eq_true rfl) (Nat.le_of_ble_eq_true rfl) dX6_leastSpeed_25
set_option maxHeartbeats 4000000 in
set_option maxRecDepth 100000 in
theorem c_X6_fullest (l : Launch) (D : va_G) (cs : Nat → ClassId) (ma : Nat → Nat) (mv : MV) (hM : MO mv) : kI l yX6_fullest wsX6_fullest { frames := 3, cells := 0, slots := 0, locals := 69 } 0 0 D cs [.ref (ma 0)] (md_W cs ma mv) (k_X6_fullest mv).1 (md_W cs ma ((k_X6_fullest mv).2)) := by
  generalize hres : k_X6_fullest mv = res
  refine kI_of (cc := cX6_fullest) (maxL := 3) (ret := (some .int)) (by decide) rfl (Nat.le_of_ble_eq_true rfl) ?_
  intro p e s m below meth c A ls H locs hE hS hP hD hl
  obtain ⟨hx, hb, hr, hlocks, hml, hown, hts, hK, hA, hG, hnm⟩ := id hE
  have hown : s.vm.findClass RX6 = some m.cls := hown
  have hl : lv_has ls 3 [(0, .ref (ma 0))] := hl
  have hinX6 : ∀ w ∈ wsX60, w ∈ wsX6_fullest := by decide +kernel
  have lk_0 := hts (.fieldLink RX6 13 "OrganPegsModel" "now" "[I") (by decide +kernel)
  have lk_1 := hts (.fieldLink RX6 33 "OrganPegsModel" "refusal" "I") (by decide +kernel)
  have L9 : ∀ (n : Nat) (i : Int32) (acc : Int32) (mw : MV) (j : Nat) (hi : i = nI j) (hj : j + n = 25) (hj2 : j ≤ 24) (hM2 : MO mw) (H : Heap) (locs : List Loc) (ls : Array Slot), va_S A s.heap H locs → va_P D vwCl (md_W cs ma mw) H → va_D A (md_W cs ma mw) → lv_has ls 3 [(0, .ref (ma 0)), (1, .int acc), (2, .int i)] → k_X6_fullest_L9 mv n i acc mw = res → W p l e { frames := 3, cells := 0, slots := 0, locals := 69 } s m ([.ref (ma 0)]).toArray below meth c H locs 0 0 (MQ below (va_Qi (fun (r' : Int32) (_ : Unit) => r' = res.1) (kB D (fun _ => md_W cs ma res.2) A) A) ([.ref (ma 0)]).toArray s 0 0 A) (F0 m 9 ls []) := by
    intro n
    induction n with
    | zero =>
      intro i acc mw j hi hj hj2 hM2 H locs ls hS hP hD hl hres
      exact absurd hj2 (by omega)
    | succ n ih =>
      intro i acc mw j hi hj hj2 hM2 H locs ls hS hP hD hl hres
      unfold k_X6_fullest_L9 at hres
      refine lv_iload_n hx hb dX6_fullest_9 rfl (lv_at hl 2 rfl) ?_
      refine lv_bipush (v := 24) hx hb dX6_fullest_10 (by decide) ?_
      refine lv_icmp_ge (tgt := 52) hx hb dX6_fullest_12 (by decide) (fun c_12 => ?_) (fun c_12 => ?_)
      · skip
        have c_12 : (24 ≤ i) := c_12
        rw [if_pos c_12] at hres
        refine lv_iload_n hx hb dX6_fullest_52 rfl (lv_at hl 1 rfl) ?_
        subst hres
        exact kI_ret hE hS hP hD rfl rfl (Nat.le_of_ble_eq_true rfl) (Nat.le_of_ble_eq_true rfl) dX6_fullest_53
      · skip
        have c_12 : ¬ (24 ≤ i) := c_12
        rw [if_neg c_12] at hres
        refine lv_aload_n hx hb dX6_fullest_15 rfl (lv_at hl 0 rfl) ?_
        refine va_get (D := D) (ci := 6) (v := .ref (ma 2)) (C := RX6) (T := TX6) (N := 11) hx hb hts hinX6 hown hK hP 0 rfl rfl 3 (by decide) lk_0 (fun _ h9 => h9) rfl dX6_fullest_16 ?_
        refine lv_iload_n hx hb dX6_fullest_19 rfl (lv_at hl 2 rfl) ?_
        have hP := hP.sub (ws' := (st_W cs (ma 2) (mw.2 1)) ++ (x_pick (md_W cs ma mw) [0, 1, 3, 4, 5, 6])) [2, 0, 1, 3, 4, 5, 6] rfl
        have hD := hD.sub (ws' := (st_W cs (ma 2) (mw.2 1)) ++ (x_pick (md_W cs ma mw) [0, 1, 3, 4, 5, 6])) [2, 0, 1, 3, 4, 5, 6] (by decide) rfl
        have hc_20 := c_X6_chordAt l D cs (ma 2) (mw.2 1) i hM2.1
        refine kI_call (wc := (st_W cs (ma 2) (mw.2 1))) (wr := (x_pick (md_W cs ma mw) [0, 1, 3, 4, 5, 6])) (w1 := (st_W cs (ma 2) (mw.2 1))) (r := (k_X6_chordAt (mw.2 1) i)) hE hP hD hS (k_rS (rest := []) (As := [.ref (ma 2), .int i]) hE rfl (hc_20 H.size) (va_cwS 2 hts gX6_fullest_X6_chordAt rfl rfl rfl (by decide +kernel) ⟨Nat.le_of_ble_eq_true rfl, Nat.le_of_ble_eq_true rfl⟩) hP hD hS rfl hl rfl (Nat.le_of_ble_eq_true rfl) ⟨Nat.le_of_ble_eq_true rfl, Nat.le_of_ble_eq_true rfl⟩ dX6_fullest_20) (fun H locs hP hD hS => ?_)
        have hP := hP.sub (ws' := md_W cs ma mw) [1, 2, 0, 3, 4, 5, 6] rfl
        have hD := hD.sub (ws' := md_W cs ma mw) [1, 2, 0, 3, 4, 5, 6] (by decide) rfl
        have hP : va_P D vwCl (md_W cs ma mw) H := hP
        have hD : va_D A (md_W cs ma mw) := hD
        have hP : va_P D vwCl ([] ++ (md_W cs ma mw)) H := hP
        have hD : va_D A ([] ++ (md_W cs ma mw)) := hD
        have hc_23 := c_X6_bits l D cs (k_X6_chordAt (mw.2 1) i)
        refine kI_call (wc := []) (wr := (md_W cs ma mw)) (w1 := []) (r := (k_X6_bits (k_X6_chordAt (mw.2 1) i))) hE hP hD hS (k_rS (rest := []) (As := [.int (k_X6_chordAt (mw.2 1) i)]) hE rfl (hc_23 H.size) (va_cwS 1 hts gX6_fullest_X6_bits rfl rfl rfl (by decide +kernel) ⟨Nat.le_of_ble_eq_true rfl, Nat.le_of_ble_eq_true rfl⟩) hP hD hS rfl hl rfl (Nat.le_of_ble_eq_true rfl) ⟨Nat.le_of_ble_eq_true rfl, Nat.le_of_ble_eq_true rfl⟩ dX6_fullest_23) (fun H locs hP hD hS => ?_)
        have hP : va_P D vwCl (md_W cs ma mw) H := hP
        have hD : va_D A (md_W cs ma mw) := hD
        refine lv_aload_n hx hb dX6_fullest_26 rfl (lv_at hl 0 rfl) ?_
        refine va_get (D := D) (ci := 6) (v := .ref (ma 2)) (C := RX6) (T := TX6) (N := 11) hx hb hts hinX6 hown hK hP 0 rfl rfl 3 (by decide) lk_0 (fun _ h9 => h9) rfl dX6_fullest_27 ?_
        refine lv_iload_n hx hb dX6_fullest_30 rfl (lv_at hl 1 rfl) ?_
        have hP := hP.sub (ws' := (st_W cs (ma 2) (mw.2 1)) ++ (x_pick (md_W cs ma mw) [0, 1, 3, 4, 5, 6])) [2, 0, 1, 3, 4, 5, 6] rfl
        have hD := hD.sub (ws' := (st_W cs (ma 2) (mw.2 1)) ++ (x_pick (md_W cs ma mw) [0, 1, 3, 4, 5, 6])) [2, 0, 1, 3, 4, 5, 6] (by decide) rfl
        have hc_31 := c_X6_chordAt l D cs (ma 2) (mw.2 1) acc hM2.1
        refine kI_call (wc := (st_W cs (ma 2) (mw.2 1))) (wr := (x_pick (md_W cs ma mw) [0, 1, 3, 4, 5, 6])) (w1 := (st_W cs (ma 2) (mw.2 1))) (r := (k_X6_chordAt (mw.2 1) acc)) hE hP hD hS (k_rS (rest := [.int (k_X6_bits (k_X6_chordAt (mw.2 1) i))]) (As := [.ref (ma 2), .int acc]) hE rfl (hc_31 H.size) (va_cwS 2 hts gX6_fullest_X6_chordAt rfl rfl rfl (by decide +kernel) ⟨Nat.le_of_ble_eq_true rfl, Nat.le_of_ble_eq_true rfl⟩) hP hD hS rfl hl rfl (Nat.le_of_ble_eq_true rfl) ⟨Nat.le_of_ble_eq_true rfl, Nat.le_of_ble_eq_true rfl⟩ dX6_fullest_31) (fun H locs hP hD hS => ?_)
        have hP := hP.sub (ws' := md_W cs ma mw) [1, 2, 0, 3, 4, 5, 6] rfl
        have hD := hD.sub (ws' := md_W cs ma mw) [1, 2, 0, 3, 4, 5, 6] (by decide) rfl
        have hP : va_P D vwCl (md_W cs ma mw) H := hP
        have hD : va_D A (md_W cs ma mw) := hD
        have hP : va_P D vwCl ([] ++ (md_W cs ma mw)) H := hP
        have hD : va_D A ([] ++ (md_W cs ma mw)) := hD
        have hc_34 := c_X6_bits l D cs (k_X6_chordAt (mw.2 1) acc)
        refine kI_call (wc := []) (wr := (md_W cs ma mw)) (w1 := []) (r := (k_X6_bits (k_X6_chordAt (mw.2 1) acc))) hE hP hD hS (k_rS (rest := [.int (k_X6_bits (k_X6_chordAt (mw.2 1) i))]) (As := [.int (k_X6_chordAt (mw.2 1) acc)]) hE rfl (hc_34 H.size) (va_cwS 1 hts gX6_fullest_X6_bits rfl rfl rfl (by decide +kernel) ⟨Nat.le_of_ble_eq_true rfl, Nat.le_of_ble_eq_true rfl⟩) hP hD hS rfl hl rfl (Nat.le_of_ble_eq_true rfl) ⟨Nat.le_of_ble_eq_true rfl, Nat.le_of_ble_eq_true rfl⟩ dX6_fullest_34) (fun H locs hP hD hS => ?_)
        have hP : va_P D vwCl (md_W cs ma mw) H := hP
        have hD : va_D A (md_W cs ma mw) := hD
        refine lv_icmp_le (tgt := 44) hx hb dX6_fullest_37 (by decide) (fun c_37 => ?_) (fun c_37 => ?_)
        · skip
          have c_37 : ((k_X6_bits (k_X6_chordAt (mw.2 1) i)) ≤ (k_X6_bits (k_X6_chordAt (mw.2 1) acc))) := c_37
          rw [if_pos c_37] at hres
          refine lv_iload_n hx hb dX6_fullest_44 rfl (lv_at hl 1 rfl) ?_
          refine lv_istore_n (lv' := [(1, .int acc), (0, .ref (ma 0)), (2, .int i)]) hx hb dX6_fullest_45 rfl hl (by decide) rfl (fun ls hl => ?_)
          refine lv_iinc (v := (i + 1)) (lv' := [(2, .int (i + 1)), (1, .int acc), (0, .ref (ma 0))]) hx hb dX6_fullest_46 hl (k := 2) rfl (by rfl) (by decide) rfl (fun ls hl => ?_)
          refine lv_goto (tgt := 9) hx hb dX6_fullest_49 (by decide) ?_
          exact ih (i + 1) acc mw (j + 1) (by rw [hi, nI_1]) (by omega) (nI_lts hi (by omega) (by decide) c_12) (hM2) _ _ _ hS hP hD (lv_sub hl [2, 1, 0] rfl) hres
        · skip
          have c_37 : ¬ ((k_X6_bits (k_X6_chordAt (mw.2 1) i)) ≤ (k_X6_bits (k_X6_chordAt (mw.2 1) acc))) := c_37
          rw [if_neg c_37] at hres
          refine lv_iload_n hx hb dX6_fullest_40 rfl (lv_at hl 2 rfl) ?_
          refine lv_goto (tgt := 45) hx hb dX6_fullest_41 (by decide) ?_
          refine lv_istore_n (lv' := [(1, .int i), (0, .ref (ma 0)), (2, .int i)]) hx hb dX6_fullest_45 rfl hl (by decide) rfl (fun ls hl => ?_)
          refine lv_iinc (v := (i + 1)) (lv' := [(2, .int (i + 1)), (1, .int i), (0, .ref (ma 0))]) hx hb dX6_fullest_46 hl (k := 2) rfl (by rfl) (by decide) rfl (fun ls hl => ?_)
          refine lv_goto (tgt := 9) hx hb dX6_fullest_49 (by decide) ?_
          exact ih (i + 1) i mw (j + 1) (by rw [hi, nI_1]) (by omega) (nI_lts hi (by omega) (by decide) c_12) (hM2) _ _ _ hS hP hD (lv_sub hl [2, 1, 0] rfl) hres
  unfold k_X6_fullest at hres
  refine lv_aload_n hx hb dX6_fullest_0 rfl (lv_at hl 0 rfl) ?_
  refine lv_iconst (v := 0) hx hb dX6_fullest_1 (by decide) ?_
  refine va_put (D := D) (ci := 6) (v := .int 0) (ty := .int) (C := RX6) (T := TX6) (N := 11) hx hb hts hinX6 tyX6 tyX6_ok nmX6 hown hK hP hD hS 0 rfl rfl 0 (by decide) lk_1 (fun _ h9 => h9) rfl (by decide +kernel) rfl rfl (Nat.le_of_ble_eq_true rfl) dX6_fullest_2 (fun H locs hP hD hS => ?_)
  have hP : va_P D vwCl (md_W cs ma (m_s mv 0 0)) H := hP
  have hD : va_D A (md_W cs ma (m_s mv 0 0)) := hD
  refine lv_iconst (v := 0) hx hb dX6_fullest_5 (by decide) ?_
  refine lv_istore_n (lv' := [(1, .int 0), (0, .ref (ma 0))]) hx hb dX6_fullest_6 rfl hl (by decide) rfl (fun ls hl => ?_)
  refine lv_iconst (v := 1) hx hb dX6_fullest_7 (by decide) ?_
  refine lv_istore_n (lv' := [(2, .int 1), (1, .int 0), (0, .ref (ma 0))]) hx hb dX6_fullest_8 rfl hl (by decide) rfl (fun ls hl => ?_)
  exact L9 24 1 0 (m_s mv 0 0) 1 ((show (1 : Int32) = nI 1 from rfl)) (rfl) (by decide) (hM) _ _ _ hS hP hD (lv_sub hl [2, 1, 0] rfl) hres
set_option maxHeartbeats 4000000 in
set_option maxRecDepth 100000 in
theorem c_X6_room (l : Launch) (D : va_G) (cs : Nat → ClassId) (ma : Nat → Nat) (mv : MV) (vk : Int32) (vn : Int32) (hM : MO mv) : kI l yX6_room wsX6_room { frames := 3, cells := 0, slots := 0, locals := 71 } 0 0 D cs [.ref (ma 0), .int vk, .int vn] (md_W cs ma mv) (k_X6_room mv vk vn).1 (md_W cs ma ((k_X6_room mv vk vn).2)) := by
  generalize hres : k_X6_room mv vk vn = res
  refine kI_of (cc := cX6_room) (maxL := 4) (ret := (some .int)) (by decide) rfl (Nat.le_of_ble_eq_true rfl) ?_
  intro p e s m below meth c A ls H locs hE hS hP hD hl
  obtain ⟨hx, hb, hr, hlocks, hml, hown, hts, hK, hA, hG, hnm⟩ := id hE
  have hown : s.vm.findClass RX6 = some m.cls := hown
  have hl : lv_has ls 4 [(0, .ref (ma 0)), (1, .int vk), (2, .int vn)] := hl
  have hinX6 : ∀ w ∈ wsX60, w ∈ wsX6_room := by decide +kernel
  have lk_0 := hts (.fieldLink RX6 13 "OrganPegsModel" "now" "[I") (by decide +kernel)
  have lk_1 := hts (.constantLong RX6 186 6) (by decide +kernel)
  have L39 : ∀ (n : Nat) (i : Int32) (mw : MV) (j : Nat) (hi : i = nI j) (hj : j + n = 25) (hj2 : j ≤ 24) (hM2 : MO mw) (H : Heap) (locs : List Loc) (ls : Array Slot), va_S A s.heap H locs → va_P D vwCl (md_W cs ma mw) H → va_D A (md_W cs ma mw) → lv_has ls 4 [(0, .ref (ma 0)), (1, .int vk), (2, .int vn), (3, .int i)] → k_X6_room_L39 mv vk vn n i mw = res → W p l e { frames := 3, cells := 0, slots := 0, locals := 71 } s m ([.ref (ma 0), .int vk, .int vn]).toArray below meth c H locs 0 0 (MQ below (va_Qi (fun (r' : Int32) (_ : Unit) => r' = res.1) (kB D (fun _ => md_W cs ma res.2) A) A) ([.ref (ma 0), .int vk, .int vn]).toArray s 0 0 A) (F0 m 39 ls []) := by
    intro n
    induction n with
    | zero =>
      intro i mw j hi hj hj2 hM2 H locs ls hS hP hD hl hres
      exact absurd hj2 (by omega)
    | succ n ih =>
      intro i mw j hi hj hj2 hM2 H locs ls hS hP hD hl hres
      unfold k_X6_room_L39 at hres
      refine lv_iload_n hx hb dX6_room_39 rfl (lv_at hl 3 rfl) ?_
      refine lv_bipush (v := 24) hx hb dX6_room_40 (by decide) ?_
      refine lv_icmp_ge (tgt := 66) hx hb dX6_room_42 (by decide) (fun c_42 => ?_) (fun c_42 => ?_)
      · skip
        have c_42 : (24 ≤ i) := c_42
        rw [if_pos c_42] at hres
        refine lv_iconst (v := (-1)) hx hb dX6_room_66 (by decide) ?_
        subst hres
        exact kI_ret hE hS hP hD rfl rfl (Nat.le_of_ble_eq_true rfl) (Nat.le_of_ble_eq_true rfl) dX6_room_67
      · skip
        have c_42 : ¬ (24 ≤ i) := c_42
        rw [if_neg c_42] at hres
        refine lv_aload_n hx hb dX6_room_45 rfl (lv_at hl 0 rfl) ?_
        refine va_get (D := D) (ci := 6) (v := .ref (ma 2)) (C := RX6) (T := TX6) (N := 11) hx hb hts hinX6 hown hK hP 0 rfl rfl 3 (by decide) lk_0 (fun _ h9 => h9) rfl dX6_room_46 ?_
        refine lv_iload_n hx hb dX6_room_49 rfl (lv_at hl 1 rfl) ?_
        refine lv_iload_n hx hb dX6_room_50 rfl (lv_at hl 3 rfl) ?_
        refine lv_iload_n hx hb dX6_room_51 rfl (lv_at hl 2 rfl) ?_
        have hP := hP.sub (ws' := (st_W cs (ma 2) (mw.2 1)) ++ (x_pick (md_W cs ma mw) [0, 1, 3, 4, 5, 6])) [2, 0, 1, 3, 4, 5, 6] rfl
        have hD := hD.sub (ws' := (st_W cs (ma 2) (mw.2 1)) ++ (x_pick (md_W cs ma mw) [0, 1, 3, 4, 5, 6])) [2, 0, 1, 3, 4, 5, 6] (by decide) rfl
        have hc_52 := c_X6_isTaken l D cs (ma 2) (mw.2 1) vk i vn hM2.1
        refine kI_call (wc := (st_W cs (ma 2) (mw.2 1))) (wr := (x_pick (md_W cs ma mw) [0, 1, 3, 4, 5, 6])) (w1 := (st_W cs (ma 2) (mw.2 1))) (r := (k_X6_isTaken (mw.2 1) vk i vn)) hE hP hD hS (k_rS (rest := []) (As := [.ref (ma 2), .int vk, .int i, .int vn]) hE rfl (hc_52 H.size) (va_cwS 4 hts gX6_room_X6_isTaken rfl rfl rfl (by decide +kernel) ⟨Nat.le_of_ble_eq_true rfl, Nat.le_of_ble_eq_true rfl⟩) hP hD hS rfl hl rfl (Nat.le_of_ble_eq_true rfl) ⟨Nat.le_of_ble_eq_true rfl, Nat.le_of_ble_eq_true rfl⟩ dX6_room_52) (fun H locs hP hD hS => ?_)
        have hP := hP.sub (ws' := md_W cs ma mw) [1, 2, 0, 3, 4, 5, 6] rfl
        have hD := hD.sub (ws' := md_W cs ma mw) [1, 2, 0, 3, 4, 5, 6] (by decide) rfl
        have hP : va_P D vwCl (md_W cs ma mw) H := hP
        have hD : va_D A (md_W cs ma mw) := hD
        refine lv_if_ne (tgt := 60) hx hb dX6_room_55 (by decide) (fun c_55 => ?_) (fun c_55 => ?_)
        · skip
          have c_55 : ¬ ((k_X6_isTaken (mw.2 1) vk i vn) = 0) := c_55
          rw [if_neg c_55] at hres
          refine lv_iinc (v := (i + 1)) (lv' := [(3, .int (i + 1)), (0, .ref (ma 0)), (1, .int vk), (2, .int vn)]) hx hb dX6_room_60 hl (k := 3) rfl (by rfl) (by decide) rfl (fun ls hl => ?_)
          refine lv_goto (tgt := 39) hx hb dX6_room_63 (by decide) ?_
          exact ih (i + 1) mw (j + 1) (by rw [hi, nI_1]) (by omega) (nI_lts hi (by omega) (by decide) c_42) (hM2) _ _ _ hS hP hD (lv_sub hl [1, 2, 3, 0] rfl) hres
        · skip
          have c_55 : ((k_X6_isTaken (mw.2 1) vk i vn) = 0) := c_55
          rw [if_pos c_55] at hres
          refine lv_iload_n hx hb dX6_room_58 rfl (lv_at hl 3 rfl) ?_
          subst hres
          exact kI_ret hE hS hP hD rfl rfl (Nat.le_of_ble_eq_true rfl) (Nat.le_of_ble_eq_true rfl) dX6_room_59
  unfold k_X6_room at hres
  refine lv_aload_n hx hb dX6_room_0 rfl (lv_at hl 0 rfl) ?_
  refine lv_iload_n hx hb dX6_room_1 rfl (lv_at hl 1 rfl) ?_
  have hP : va_P D vwCl ([] ++ (md_W cs ma mv)) H := hP
  have hD : va_D A ([] ++ (md_W cs ma mv)) := hD
  have hc_2 := c_X6_isPipe l D cs vk
  refine kI_call (wc := []) (wr := (md_W cs ma mv)) (w1 := []) (r := (k_X6_isPipe vk)) hE hP hD hS (k_rS (rest := [.ref (ma 0)]) (As := [.int vk]) hE rfl (hc_2 H.size) (va_cwS 1 hts gX6_room_X6_isPipe rfl rfl rfl (by decide +kernel) ⟨Nat.le_of_ble_eq_true rfl, Nat.le_of_ble_eq_true rfl⟩) hP hD hS rfl hl rfl (Nat.le_of_ble_eq_true rfl) ⟨Nat.le_of_ble_eq_true rfl, Nat.le_of_ble_eq_true rfl⟩ dX6_room_2) (fun H locs hP hD hS => ?_)
  have hP : va_P D vwCl (md_W cs ma mv) H := hP
  have hD : va_D A (md_W cs ma mv) := hD
  refine lv_if_ne (tgt := 12) hx hb dX6_room_5 (by decide) (fun c_5 => ?_) (fun c_5 => ?_)
  · skip
    have c_5 : ¬ ((k_X6_isPipe vk) = 0) := c_5
    rw [if_neg c_5] at hres
    refine lv_iload_n hx hb dX6_room_12 rfl (lv_at hl 2 rfl) ?_
    refine lv_i2l hx hb dX6_room_13 rfl ?_
    refine lv_lconst (v := 1) hx hb dX6_room_14 (by decide) ?_
    refine lv_ldc2 (v := 6) hx hb hown lk_1 dX6_room_15 ?_
    have hP : va_P D vwCl ([] ++ (md_W cs ma mv)) H := hP
    have hD : va_D A ([] ++ (md_W cs ma mv)) := hD
    have hc_18 := c_X6_in l D cs (vn.toInt64) 1 6
    refine kI_call (wc := []) (wr := (md_W cs ma mv)) (w1 := []) (r := (k_X6_in (vn.toInt64) 1 6)) hE hP hD hS (k_rS (rest := [.ref (ma 0)]) (As := [.long (vn.toInt64), .long 1, .long 6]) hE rfl (hc_18 H.size) (va_cwS 3 hts gX6_room_X6_in rfl rfl rfl (by decide +kernel) ⟨Nat.le_of_ble_eq_true rfl, Nat.le_of_ble_eq_true rfl⟩) hP hD hS rfl hl rfl (Nat.le_of_ble_eq_true rfl) ⟨Nat.le_of_ble_eq_true rfl, Nat.le_of_ble_eq_true rfl⟩ dX6_room_18) (fun H locs hP hD hS => ?_)
    have hP : va_P D vwCl (md_W cs ma mv) H := hP
    have hD : va_D A (md_W cs ma mv) := hD
    refine lv_if_eq (tgt := 28) hx hb dX6_room_21 (by decide) (fun c_21 => ?_) (fun c_21 => ?_)
    · skip
      have c_21 : ((k_X6_in (vn.toInt64) 1 6) = 0) := c_21
      rw [if_pos c_21] at hres
      refine lv_iconst (v := 2) hx hb dX6_room_28 (by decide) ?_
      have hP : va_P D vwCl ((md_W cs ma mv) ++ []) H := k_nP hP
      have hD : va_D A ((md_W cs ma mv) ++ []) := k_nD hD
      have hc_29 := c_X6_refused l D cs ma mv 2
      obtain ⟨r_29, o_29, e_29⟩ : ∃ r9 o9, (k_X6_refused mv 2) = (r9, o9) := ⟨_, _, rfl⟩
      rw [e_29] at hc_29 hres
      dsimp only at hc_29 hres
      refine kI_call (wc := (md_W cs ma mv)) (wr := []) (w1 := md_W cs ma o_29) (r := r_29) hE hP hD hS (k_rV (rest := []) (As := [.int 2]) hE rfl (hc_29 H.size) (cwV 1 hts gX6_room_X6_refused rfl rfl rfl (by decide +kernel) ⟨Nat.le_of_ble_eq_true rfl, Nat.le_of_ble_eq_true rfl⟩) hP hD hS (ci := 6) (q0 := 0) rfl rfl rfl hl rfl (Nat.le_of_ble_eq_true rfl) ⟨Nat.le_of_ble_eq_true rfl, Nat.le_of_ble_eq_true rfl⟩ dX6_room_29) (fun H locs hP hD hS => ?_)
      have hP := k_uP hP
      have hD := k_uD hD
      have hP : va_P D vwCl (md_W cs ma o_29) H := hP
      have hD : va_D A (md_W cs ma o_29) := hD
      refine lv_if_eq (tgt := 37) hx hb dX6_room_32 (by decide) (fun c_32 => ?_) (fun c_32 => ?_)
      · skip
        have c_32 : (r_29 = 0) := c_32
        rw [if_pos c_32] at hres
        refine lv_iconst (v := 0) hx hb dX6_room_37 (by decide) ?_
        refine lv_istore_n (lv' := [(3, .int 0), (0, .ref (ma 0)), (1, .int vk), (2, .int vn)]) hx hb dX6_room_38 rfl hl (by decide) rfl (fun ls hl => ?_)
        exact L39 25 0 o_29 0 (nI_0.symm) (rfl) (Nat.zero_le _) (MO_rf e_29 hM) _ _ _ hS hP hD (lv_sub hl [1, 2, 3, 0] rfl) hres
      · skip
        have c_32 : ¬ (r_29 = 0) := c_32
        rw [if_neg c_32] at hres
        refine lv_iconst (v := 0) hx hb dX6_room_35 (by decide) ?_
        subst hres
        exact kI_ret hE hS hP hD rfl rfl (Nat.le_of_ble_eq_true rfl) (Nat.le_of_ble_eq_true rfl) dX6_room_36
    · skip
      have c_21 : ¬ ((k_X6_in (vn.toInt64) 1 6) = 0) := c_21
      rw [if_neg c_21] at hres
      refine lv_iconst (v := 0) hx hb dX6_room_24 (by decide) ?_
      refine lv_goto (tgt := 29) hx hb dX6_room_25 (by decide) ?_
      have hP : va_P D vwCl ((md_W cs ma mv) ++ []) H := k_nP hP
      have hD : va_D A ((md_W cs ma mv) ++ []) := k_nD hD
      have hc_29 := c_X6_refused l D cs ma mv 0
      obtain ⟨r_29, o_29, e_29⟩ : ∃ r9 o9, (k_X6_refused mv 0) = (r9, o9) := ⟨_, _, rfl⟩
      rw [e_29] at hc_29 hres
      dsimp only at hc_29 hres
      refine kI_call (wc := (md_W cs ma mv)) (wr := []) (w1 := md_W cs ma o_29) (r := r_29) hE hP hD hS (k_rV (rest := []) (As := [.int 0]) hE rfl (hc_29 H.size) (cwV 1 hts gX6_room_X6_refused rfl rfl rfl (by decide +kernel) ⟨Nat.le_of_ble_eq_true rfl, Nat.le_of_ble_eq_true rfl⟩) hP hD hS (ci := 6) (q0 := 0) rfl rfl rfl hl rfl (Nat.le_of_ble_eq_true rfl) ⟨Nat.le_of_ble_eq_true rfl, Nat.le_of_ble_eq_true rfl⟩ dX6_room_29) (fun H locs hP hD hS => ?_)
      have hP := k_uP hP
      have hD := k_uD hD
      have hP : va_P D vwCl (md_W cs ma o_29) H := hP
      have hD : va_D A (md_W cs ma o_29) := hD
      refine lv_if_eq (tgt := 37) hx hb dX6_room_32 (by decide) (fun c_32 => ?_) (fun c_32 => ?_)
      · skip
        have c_32 : (r_29 = 0) := c_32
        rw [if_pos c_32] at hres
        refine lv_iconst (v := 0) hx hb dX6_room_37 (by decide) ?_
        refine lv_istore_n (lv' := [(3, .int 0), (0, .ref (ma 0)), (1, .int vk), (2, .int vn)]) hx hb dX6_room_38 rfl hl (by decide) rfl (fun ls hl => ?_)
        exact L39 25 0 o_29 0 (nI_0.symm) (rfl) (Nat.zero_le _) (MO_rf e_29 hM) _ _ _ hS hP hD (lv_sub hl [1, 2, 3, 0] rfl) hres
      · skip
        have c_32 : ¬ (r_29 = 0) := c_32
        rw [if_neg c_32] at hres
        refine lv_iconst (v := 0) hx hb dX6_room_35 (by decide) ?_
        subst hres
        exact kI_ret hE hS hP hD rfl rfl (Nat.le_of_ble_eq_true rfl) (Nat.le_of_ble_eq_true rfl) dX6_room_36
  · skip
    have c_5 : ((k_X6_isPipe vk) = 0) := c_5
    rw [if_pos c_5] at hres
    refine lv_iconst (v := 1) hx hb dX6_room_8 (by decide) ?_
    refine lv_goto (tgt := 29) hx hb dX6_room_9 (by decide) ?_
    have hP : va_P D vwCl ((md_W cs ma mv) ++ []) H := k_nP hP
    have hD : va_D A ((md_W cs ma mv) ++ []) := k_nD hD
    have hc_29 := c_X6_refused l D cs ma mv 1
    obtain ⟨r_29, o_29, e_29⟩ : ∃ r9 o9, (k_X6_refused mv 1) = (r9, o9) := ⟨_, _, rfl⟩
    rw [e_29] at hc_29 hres
    dsimp only at hc_29 hres
    refine kI_call (wc := (md_W cs ma mv)) (wr := []) (w1 := md_W cs ma o_29) (r := r_29) hE hP hD hS (k_rV (rest := []) (As := [.int 1]) hE rfl (hc_29 H.size) (cwV 1 hts gX6_room_X6_refused rfl rfl rfl (by decide +kernel) ⟨Nat.le_of_ble_eq_true rfl, Nat.le_of_ble_eq_true rfl⟩) hP hD hS (ci := 6) (q0 := 0) rfl rfl rfl hl rfl (Nat.le_of_ble_eq_true rfl) ⟨Nat.le_of_ble_eq_true rfl, Nat.le_of_ble_eq_true rfl⟩ dX6_room_29) (fun H locs hP hD hS => ?_)
    have hP := k_uP hP
    have hD := k_uD hD
    have hP : va_P D vwCl (md_W cs ma o_29) H := hP
    have hD : va_D A (md_W cs ma o_29) := hD
    refine lv_if_eq (tgt := 37) hx hb dX6_room_32 (by decide) (fun c_32 => ?_) (fun c_32 => ?_)
    · skip
      have c_32 : (r_29 = 0) := c_32
      rw [if_pos c_32] at hres
      refine lv_iconst (v := 0) hx hb dX6_room_37 (by decide) ?_
      refine lv_istore_n (lv' := [(3, .int 0), (0, .ref (ma 0)), (1, .int vk), (2, .int vn)]) hx hb dX6_room_38 rfl hl (by decide) rfl (fun ls hl => ?_)
      exact L39 25 0 o_29 0 (nI_0.symm) (rfl) (Nat.zero_le _) (MO_rf e_29 hM) _ _ _ hS hP hD (lv_sub hl [1, 2, 3, 0] rfl) hres
    · skip
      have c_32 : ¬ (r_29 = 0) := c_32
      rw [if_neg c_32] at hres
      refine lv_iconst (v := 0) hx hb dX6_room_35 (by decide) ?_
      subst hres
      exact kI_ret hE hS hP hD rfl rfl (Nat.le_of_ble_eq_true rfl) (Nat.le_of_ble_eq_true rfl) dX6_room_36
