set_option maxHeartbeats 4000000 in
set_option maxRecDepth 100000 in
theorem c_X6_thrown (l : Launch) (D : va_G) (cs : Nat → ClassId) (ma : Nat → Nat) (mv : MV)  : kI l yX6_thrown wsX6_thrown { frames := 0, cells := 0, slots := 0, locals := 0 } 0 0 D cs [.ref (ma 0)] (md_W cs ma mv) (k_X6_thrown mv) (md_W cs ma mv) := by
  generalize hres : k_X6_thrown mv = res
  refine kI_of (cc := cX6_thrown) (maxL := 1) (ret := (some .int)) (by decide) rfl (Nat.le_of_ble_eq_true rfl) ?_
  intro p e s m below meth c A ls H locs hE hS hP hD hl
  obtain ⟨hx, hb, hr, hlocks, hml, hown, hts, hK, hA, hG, hnm⟩ := id hE
  have hown : s.vm.findClass RX6 = some m.cls := hown
  have hl : lv_has ls 1 [(0, .ref (ma 0))] := hl
  have hinX6 : ∀ w ∈ wsX60, w ∈ wsX6_thrown := by decide +kernel
  have lk_0 := hts (.fieldLink RX6 33 "OrganPegsModel" "refusal" "I") (by decide +kernel)
  unfold k_X6_thrown at hres
  refine lv_aload_n hx hb dX6_thrown_0 rfl (lv_at hl 0 rfl) ?_
  refine va_get (D := D) (ci := 6) (v := .int (mv.1 0)) (C := RX6) (T := TX6) (N := 11) hx hb hts hinX6 hown hK hP 0 rfl rfl 0 (by decide) lk_0 (fun _ h9 => h9) rfl dX6_thrown_1 ?_
  subst hres
  exact kI_ret hE hS hP hD rfl rfl (Nat.le_of_ble_eq_true rfl) (Nat.le_of_ble_eq_true rfl) dX6_thrown_4
set_option maxHeartbeats 4000000 in
set_option maxRecDepth 100000 in
theorem c_X6_refused (l : Launch) (D : va_G) (cs : Nat → ClassId) (ma : Nat → Nat) (mv : MV) (vw : Int32) : kI l yX6_refused wsX6_refused { frames := 0, cells := 0, slots := 0, locals := 0 } 0 0 D cs [.ref (ma 0), .int vw] (md_W cs ma mv) (k_X6_refused mv vw).1 (md_W cs ma ((k_X6_refused mv vw).2)) := by
  generalize hres : k_X6_refused mv vw = res
  refine kI_of (cc := cX6_refused) (maxL := 2) (ret := (some .boolean)) (by decide) rfl (Nat.le_of_ble_eq_true rfl) ?_
  intro p e s m below meth c A ls H locs hE hS hP hD hl
  obtain ⟨hx, hb, hr, hlocks, hml, hown, hts, hK, hA, hG, hnm⟩ := id hE
  have hown : s.vm.findClass RX6 = some m.cls := hown
  have hl : lv_has ls 2 [(0, .ref (ma 0)), (1, .int vw)] := hl
  have hinX6 : ∀ w ∈ wsX60, w ∈ wsX6_refused := by decide +kernel
  have lk_0 := hts (.fieldLink RX6 33 "OrganPegsModel" "refusal" "I") (by decide +kernel)
  unfold k_X6_refused at hres
  refine lv_aload_n hx hb dX6_refused_0 rfl (lv_at hl 0 rfl) ?_
  refine lv_iload_n hx hb dX6_refused_1 rfl (lv_at hl 1 rfl) ?_
  refine va_put (D := D) (ci := 6) (v := .int vw) (ty := .int) (C := RX6) (T := TX6) (N := 11) hx hb hts hinX6 tyX6 tyX6_ok nmX6 hown hK hP hD hS 0 rfl rfl 0 (by decide) lk_0 (fun _ h9 => h9) rfl (by decide +kernel) rfl rfl (Nat.le_of_ble_eq_true rfl) dX6_refused_2 (fun H locs hP hD hS => ?_)
  have hP : va_P D vwCl (md_W cs ma (m_s mv 0 vw)) H := hP
  have hD : va_D A (md_W cs ma (m_s mv 0 vw)) := hD
  refine lv_iload_n hx hb dX6_refused_5 rfl (lv_at hl 1 rfl) ?_
  refine lv_if_le (tgt := 13) hx hb dX6_refused_6 (by decide) (fun c_6 => ?_) (fun c_6 => ?_)
  · skip
    have c_6 : (vw ≤ 0) := c_6
    rw [if_pos c_6] at hres
    refine lv_iconst (v := 0) hx hb dX6_refused_13 (by decide) ?_
    subst hres
    exact kI_ret hE hS hP hD rfl rfl (Nat.le_of_ble_eq_true rfl) (Nat.le_of_ble_eq_true rfl) dX6_refused_14
  · skip
    have c_6 : ¬ (vw ≤ 0) := c_6
    rw [if_neg c_6] at hres
    refine lv_iconst (v := 1) hx hb dX6_refused_9 (by decide) ?_
    refine lv_goto (tgt := 14) hx hb dX6_refused_10 (by decide) ?_
    subst hres
    exact kI_ret hE hS hP hD rfl rfl (Nat.le_of_ble_eq_true rfl) (Nat.le_of_ble_eq_true rfl) dX6_refused_14
set_option maxHeartbeats 4000000 in
set_option maxRecDepth 100000 in
theorem c_X6_done (l : Launch) (D : va_G) (cs : Nat → ClassId) (ma : Nat → Nat) (mv : MV) (vi : Int32) : kI l yX6_done wsX6_done { frames := 0, cells := 0, slots := 0, locals := 0 } 0 0 D cs [.ref (ma 0), .int vi] (md_W cs ma mv) (k_X6_done mv vi).1 (md_W cs ma ((k_X6_done mv vi).2)) := by
  generalize hres : k_X6_done mv vi = res
  refine kI_of (cc := cX6_done) (maxL := 2) (ret := (some .boolean)) (by decide) rfl (Nat.le_of_ble_eq_true rfl) ?_
  intro p e s m below meth c A ls H locs hE hS hP hD hl
  obtain ⟨hx, hb, hr, hlocks, hml, hown, hts, hK, hA, hG, hnm⟩ := id hE
  have hown : s.vm.findClass RX6 = some m.cls := hown
  have hl : lv_has ls 2 [(0, .ref (ma 0)), (1, .int vi)] := hl
  have hinX6 : ∀ w ∈ wsX60, w ∈ wsX6_done := by decide +kernel
  have lk_0 := hts (.fieldLink RX6 114 "OrganPegsModel" "out" "I") (by decide +kernel)
  unfold k_X6_done at hres
  refine lv_aload_n hx hb dX6_done_0 rfl (lv_at hl 0 rfl) ?_
  refine lv_dup hx hb dX6_done_1 rfl ?_
  refine va_get (D := D) (ci := 6) (v := .int (mv.1 4)) (C := RX6) (T := TX6) (N := 11) hx hb hts hinX6 hown hK hP 0 rfl rfl 10 (by decide) lk_0 (fun _ h9 => h9) rfl dX6_done_2 ?_
  refine lv_iload_n hx hb dX6_done_5 rfl (lv_at hl 1 rfl) ?_
  refine lv_if_eq (tgt := 13) hx hb dX6_done_6 (by decide) (fun c_6 => ?_) (fun c_6 => ?_)
  · skip
    have c_6 : (vi = 0) := c_6
    rw [if_pos c_6] at hres
    refine lv_iconst (v := 1) hx hb dX6_done_13 (by decide) ?_
    refine lv_iadd hx hb dX6_done_14 ?_
    refine va_put (D := D) (ci := 6) (v := .int ((mv.1 4) + 1)) (ty := .int) (C := RX6) (T := TX6) (N := 11) hx hb hts hinX6 tyX6 tyX6_ok nmX6 hown hK hP hD hS 0 rfl rfl 10 (by decide) lk_0 (fun _ h9 => h9) rfl (by decide +kernel) rfl rfl (Nat.le_of_ble_eq_true rfl) dX6_done_15 (fun H locs hP hD hS => ?_)
    have hP : va_P D vwCl (md_W cs ma (m_s mv 4 ((mv.1 4) + 1))) H := hP
    have hD : va_D A (md_W cs ma (m_s mv 4 ((mv.1 4) + 1))) := hD
    refine lv_iconst (v := 1) hx hb dX6_done_18 (by decide) ?_
    subst hres
    exact kI_ret hE hS hP hD rfl rfl (Nat.le_of_ble_eq_true rfl) (Nat.le_of_ble_eq_true rfl) dX6_done_19
  · skip
    have c_6 : ¬ (vi = 0) := c_6
    rw [if_neg c_6] at hres
    refine lv_iconst (v := 0) hx hb dX6_done_9 (by decide) ?_
    refine lv_goto (tgt := 14) hx hb dX6_done_10 (by decide) ?_
    refine lv_iadd hx hb dX6_done_14 ?_
    refine va_put (D := D) (ci := 6) (v := .int ((mv.1 4) + 0)) (ty := .int) (C := RX6) (T := TX6) (N := 11) hx hb hts hinX6 tyX6 tyX6_ok nmX6 hown hK hP hD hS 0 rfl rfl 10 (by decide) lk_0 (fun _ h9 => h9) rfl (by decide +kernel) rfl rfl (Nat.le_of_ble_eq_true rfl) dX6_done_15 (fun H locs hP hD hS => ?_)
    have hP : va_P D vwCl (md_W cs ma (m_s mv 4 ((mv.1 4) + 0))) H := hP
    have hD : va_D A (md_W cs ma (m_s mv 4 ((mv.1 4) + 0))) := hD
    refine lv_iconst (v := 1) hx hb dX6_done_18 (by decide) ?_
    subst hres
    exact kI_ret hE hS hP hD rfl rfl (Nat.le_of_ble_eq_true rfl) (Nat.le_of_ble_eq_true rfl) dX6_done_19
set_option maxHeartbeats 4000000 in
set_option maxRecDepth 100000 in
theorem c_X6_clearText (l : Launch) (D : va_G) (cs : Nat → ClassId) (ma : Nat → Nat) (mv : MV)  : kI l yX6_clearText wsX6_clearText { frames := 0, cells := 0, slots := 0, locals := 0 } 0 0 D cs [.ref (ma 0)] (md_W cs ma mv) (k_X6_clearText mv).1 (md_W cs ma ((k_X6_clearText mv).2)) := by
  generalize hres : k_X6_clearText mv = res
  refine kI_of (cc := cX6_clearText) (maxL := 2) (ret := (some .int)) (by decide) rfl (Nat.le_of_ble_eq_true rfl) ?_
  intro p e s m below meth c A ls H locs hE hS hP hD hl
  obtain ⟨hx, hb, hr, hlocks, hml, hown, hts, hK, hA, hG, hnm⟩ := id hE
  have hown : s.vm.findClass RX6 = some m.cls := hown
  have hl : lv_has ls 2 [(0, .ref (ma 0))] := hl
  have hinX6 : ∀ w ∈ wsX60, w ∈ wsX6_clearText := by decide +kernel
  have lk_0 := hts (.fieldLink RX6 33 "OrganPegsModel" "refusal" "I") (by decide +kernel)
  have lk_1 := hts (.fieldLink RX6 104 "OrganPegsModel" "size" "I") (by decide +kernel)
  unfold k_X6_clearText at hres
  refine lv_aload_n hx hb dX6_clearText_0 rfl (lv_at hl 0 rfl) ?_
  refine lv_iconst (v := 0) hx hb dX6_clearText_1 (by decide) ?_
  refine va_put (D := D) (ci := 6) (v := .int 0) (ty := .int) (C := RX6) (T := TX6) (N := 11) hx hb hts hinX6 tyX6 tyX6_ok nmX6 hown hK hP hD hS 0 rfl rfl 0 (by decide) lk_0 (fun _ h9 => h9) rfl (by decide +kernel) rfl rfl (Nat.le_of_ble_eq_true rfl) dX6_clearText_2 (fun H locs hP hD hS => ?_)
  have hP : va_P D vwCl (md_W cs ma (m_s mv 0 0)) H := hP
  have hD : va_D A (md_W cs ma (m_s mv 0 0)) := hD
  refine lv_aload_n hx hb dX6_clearText_5 rfl (lv_at hl 0 rfl) ?_
  refine va_get (D := D) (ci := 6) (v := .int (mv.1 1)) (C := RX6) (T := TX6) (N := 11) hx hb hts hinX6 hown hK hP 0 rfl rfl 2 (by decide) lk_1 (fun _ h9 => h9) rfl dX6_clearText_6 ?_
  refine lv_istore_n (lv' := [(1, .int (mv.1 1)), (0, .ref (ma 0))]) hx hb dX6_clearText_9 rfl hl (by decide) rfl (fun ls hl => ?_)
  refine lv_aload_n hx hb dX6_clearText_10 rfl (lv_at hl 1 rfl) ?_
  refine lv_iconst (v := 0) hx hb dX6_clearText_11 (by decide) ?_
  refine va_put (D := D) (ci := 6) (v := .int 0) (ty := .int) (C := RX6) (T := TX6) (N := 11) hx hb hts hinX6 tyX6 tyX6_ok nmX6 hown hK hP hD hS 0 rfl rfl 2 (by decide) lk_1 (fun _ h9 => h9) rfl (by decide +kernel) rfl rfl (Nat.le_of_ble_eq_true rfl) dX6_clearText_12 (fun H locs hP hD hS => ?_)
  have hP : va_P D vwCl (md_W cs ma (m_s (m_s mv 0 0) 1 0)) H := hP
  have hD : va_D A (md_W cs ma (m_s (m_s mv 0 0) 1 0)) := hD
  refine lv_iload_n hx hb dX6_clearText_15 rfl (lv_at hl 0 rfl) ?_
  subst hres
  exact kI_ret hE hS hP hD rfl rfl (Nat.le_of_ble_eq_true rfl) (Nat.le_of_ble_eq_true rfl) dX6_clearText_16
set_option maxHeartbeats 4000000 in
set_option maxRecDepth 100000 in
theorem c_X6_figures (l : Launch) (D : va_G) (cs : Nat → ClassId) (ma : Nat → Nat) (mv : MV) (va : Int32) (vd : Int32) (low : Int32) (high : Int32) (hz : MZ mv) : kI l yX6_figures wsX6_figures { frames := 1, cells := 0, slots := 0, locals := 25 } 0 0 D cs [.ref (ma 0), .int va, .int vd, .int low, .int high] (md_W cs ma mv) (k_X6_figures mv va vd low high).1 (md_W cs ma ((k_X6_figures mv va vd low high).2)) := by
  generalize hres : k_X6_figures mv va vd low high = res
  refine kI_of (cc := cX6_figures) (maxL := 9) (ret := (some .int)) (by decide) rfl (Nat.le_of_ble_eq_true rfl) ?_
  intro p e s m below meth c A ls H locs hE hS hP hD hl
  obtain ⟨hx, hb, hr, hlocks, hml, hown, hts, hK, hA, hG, hnm⟩ := id hE
  have hown : s.vm.findClass RX6 = some m.cls := hown
  have hl : lv_has ls 9 [(0, .ref (ma 0)), (1, .int va), (2, .int vd), (3, .int low), (4, .int high)] := hl
  have hinX6 : ∀ w ∈ wsX60, w ∈ wsX6_figures := by decide +kernel
  have lk_0 := hts (.fieldLink RX6 111 "OrganPegsModel" "spot" "I") (by decide +kernel)
  have lk_1 := hts (.fieldLink RX6 104 "OrganPegsModel" "size" "I") (by decide +kernel)
  have lk_2 := hts (.constantLong RX6 47 9) (by decide +kernel)
  have lk_3 := hts (.fieldLink RX6 7 "OrganPegsModel" "text" "[I") (by decide +kernel)
  have L16 : ∀ (n : Nat) (unit : Int32) (acc : Int32) (mw : MV)  (hu : (unit = 10 ∧ 3 ≤ n) ∨ (unit = 1 ∧ 2 ≤ n) ∨ (unit = 0 ∧ 1 ≤ n)) (hz : MZ mw) (H : Heap) (locs : List Loc) (ls : Array Slot), va_S A s.heap H locs → va_P D vwCl (md_W cs ma mw) H → va_D A (md_W cs ma mw) → lv_has ls 9 [(0, .ref (ma 0)), (1, .int va), (2, .int vd), (3, .int low), (4, .int high), (5, .int acc), (6, .int unit)] → k_X6_figures_L16 mv va vd low high n unit acc mw = res → W p l e { frames := 1, cells := 0, slots := 0, locals := 25 } s m ([.ref (ma 0), .int va, .int vd, .int low, .int high]).toArray below meth c H locs 0 0 (MQ below (va_Qi (fun (r' : Int32) (_ : Unit) => r' = res.1) (kB D (fun _ => md_W cs ma res.2) A) A) ([.ref (ma 0), .int va, .int vd, .int low, .int high]).toArray s 0 0 A) (F0 m 16 ls []) := by
    intro n
    induction n with
    | zero =>
      intro unit acc mw hu hz H locs ls hS hP hD hl hres
      exact absurd hu (by rintro (⟨-, h⟩ | ⟨-, h⟩ | ⟨-, h⟩) <;> omega)
    | succ n ih =>
      intro unit acc mw hu hz H locs ls hS hP hD hl hres
      unfold k_X6_figures_L16 at hres
      refine lv_iload hx hb dX6_figures_16 (lv_at hl 6 rfl) ?_
      refine lv_if_le (tgt := 122) hx hb dX6_figures_18 (by decide) (fun c_18 => ?_) (fun c_18 => ?_)
      · skip
        have c_18 : (unit ≤ 0) := c_18
        rw [if_pos c_18] at hres
        refine lv_iload_n hx hb dX6_figures_122 rfl (lv_at hl 1 rfl) ?_
        refine lv_iconst (v := (-1)) hx hb dX6_figures_123 (by decide) ?_
        refine lv_icmp_ne (tgt := 131) hx hb dX6_figures_124 (by decide) (fun c_124 => ?_) (fun c_124 => ?_)
        · skip
          have c_124 : ¬ (va = (-1)) := c_124
          rw [if_neg c_124] at hres
          refine lv_iload hx hb dX6_figures_131 (lv_at hl 5 rfl) ?_
          subst hres
          exact kI_ret hE hS hP hD rfl rfl (Nat.le_of_ble_eq_true rfl) (Nat.le_of_ble_eq_true rfl) dX6_figures_133
        · skip
          have c_124 : (va = (-1)) := c_124
          rw [if_pos c_124] at hres
          refine lv_iconst (v := (-1)) hx hb dX6_figures_127 (by decide) ?_
          refine lv_goto (tgt := 133) hx hb dX6_figures_128 (by decide) ?_
          subst hres
          exact kI_ret hE hS hP hD rfl rfl (Nat.le_of_ble_eq_true rfl) (Nat.le_of_ble_eq_true rfl) dX6_figures_133
      · skip
        have c_18 : ¬ (unit ≤ 0) := c_18
        rw [if_neg c_18] at hres
        refine lv_iload_n hx hb dX6_figures_21 rfl (lv_at hl 1 rfl) ?_
        refine lv_iconst (v := (-1)) hx hb dX6_figures_22 (by decide) ?_
        refine lv_icmp_eq (tgt := 122) hx hb dX6_figures_23 (by decide) (fun c_23 => ?_) (fun c_23 => ?_)
        · skip
          have c_23 : (va = (-1)) := c_23
          rw [if_pos c_23] at hres
          refine lv_iload_n hx hb dX6_figures_122 rfl (lv_at hl 1 rfl) ?_
          refine lv_iconst (v := (-1)) hx hb dX6_figures_123 (by decide) ?_
          refine lv_icmp_ne (tgt := 131) hx hb dX6_figures_124 (by decide) (fun c_124 => ?_) (fun c_124 => ?_)
          · skip
            have c_124 : ¬ (va = (-1)) := c_124
            rw [if_neg c_124] at hres
            refine lv_iload hx hb dX6_figures_131 (lv_at hl 5 rfl) ?_
            subst hres
            exact kI_ret hE hS hP hD rfl rfl (Nat.le_of_ble_eq_true rfl) (Nat.le_of_ble_eq_true rfl) dX6_figures_133
          · skip
            have c_124 : (va = (-1)) := c_124
            rw [if_pos c_124] at hres
            refine lv_iconst (v := (-1)) hx hb dX6_figures_127 (by decide) ?_
            refine lv_goto (tgt := 133) hx hb dX6_figures_128 (by decide) ?_
            subst hres
            exact kI_ret hE hS hP hD rfl rfl (Nat.le_of_ble_eq_true rfl) (Nat.le_of_ble_eq_true rfl) dX6_figures_133
        · skip
          have c_23 : ¬ (va = (-1)) := c_23
          rw [if_neg c_23] at hres
          refine lv_aload_n hx hb dX6_figures_26 rfl (lv_at hl 0 rfl) ?_
          refine va_get (D := D) (ci := 6) (v := .int (mw.1 3)) (C := RX6) (T := TX6) (N := 11) hx hb hts hinX6 hown hK hP 0 rfl rfl 9 (by decide) lk_0 (fun _ h9 => h9) rfl dX6_figures_27 ?_
          refine lv_aload_n hx hb dX6_figures_30 rfl (lv_at hl 0 rfl) ?_
          refine va_get (D := D) (ci := 6) (v := .int (mw.1 1)) (C := RX6) (T := TX6) (N := 11) hx hb hts hinX6 hown hK hP 0 rfl rfl 2 (by decide) lk_1 (fun _ h9 => h9) rfl dX6_figures_31 ?_
          refine lv_icmp_ge (tgt := 52) hx hb dX6_figures_34 (by decide) (fun c_34 => ?_) (fun c_34 => ?_)
          · skip
            have c_34 : ((mw.1 1) ≤ (mw.1 3)) := c_34
            rw [if_pos c_34] at hres
            refine lv_iconst (v := (-1)) hx hb dX6_figures_52 (by decide) ?_
            refine lv_istore (lv' := [(7, .int (-1)), (0, .ref (ma 0)), (1, .int va), (2, .int vd), (3, .int low), (4, .int high), (5, .int acc), (6, .int unit)]) hx hb dX6_figures_53 hl (by decide) rfl (fun ls hl => ?_)
            refine lv_iload hx hb dX6_figures_55 (lv_at hl 6 rfl) ?_
            refine lv_iload hx hb dX6_figures_57 (lv_at hl 0 rfl) ?_
            refine lv_iload hx hb dX6_figures_59 (lv_at hl 7 rfl) ?_
            refine lv_imul hx hb dX6_figures_61 ?_
            refine lv_iadd hx hb dX6_figures_62 ?_
            refine lv_istore (lv' := [(8, .int (acc + ((-1) * unit))), (7, .int (-1)), (0, .ref (ma 0)), (1, .int va), (2, .int vd), (3, .int low), (4, .int high), (5, .int acc), (6, .int unit)]) hx hb dX6_figures_63 hl (by decide) rfl (fun ls hl => ?_)
            refine lv_iload hx hb dX6_figures_65 (lv_at hl 1 rfl) ?_
            refine lv_i2l (v := (-1)) hx hb dX6_figures_67 (by decide) ?_
            refine lv_lconst (v := 0) hx hb dX6_figures_68 (by decide) ?_
            refine lv_ldc2 (v := 9) hx hb hown lk_2 dX6_figures_69 ?_
            have hP : va_P D vwCl ([] ++ (md_W cs ma mw)) H := hP
            have hD : va_D A ([] ++ (md_W cs ma mw)) := hD
            have hc_72 := c_X6_in l D cs (-1) 0 9
            refine kI_call (wc := []) (wr := (md_W cs ma mw)) (w1 := []) (r := (k_X6_in (-1) 0 9)) hE hP hD hS (k_rS (rest := []) (As := [.long (-1), .long 0, .long 9]) hE rfl (hc_72 H.size) (va_cwS 3 hts gX6_figures_X6_in rfl rfl rfl (by decide +kernel) ⟨Nat.le_of_ble_eq_true rfl, Nat.le_of_ble_eq_true rfl⟩) hP hD hS rfl hl rfl (Nat.le_of_ble_eq_true rfl) ⟨Nat.le_of_ble_eq_true rfl, Nat.le_of_ble_eq_true rfl⟩ dX6_figures_72) (fun H locs hP hD hS => ?_)
            have hP : va_P D vwCl (md_W cs ma mw) H := hP
            have hD : va_D A (md_W cs ma mw) := hD
            refine lv_if_eq (tgt := 96) hx hb dX6_figures_75 (by decide) (fun c_75 => ?_) (fun c_75 => ?_)
            · skip
              have c_75 : ((k_X6_in (-1) 0 9) = 0) := c_75
              rw [if_pos c_75] at hres
              refine lv_iconst (v := (-1)) hx hb dX6_figures_96 (by decide) ?_
              subst hres
              exact kI_ret hE hS hP hD rfl rfl (Nat.le_of_ble_eq_true rfl) (Nat.le_of_ble_eq_true rfl) dX6_figures_97
            · skip
              have c_75 : ¬ ((k_X6_in (-1) 0 9) = 0) := c_75
              rw [if_neg c_75] at hres
              refine lv_iload hx hb dX6_figures_78 (lv_at hl 0 rfl) ?_
              refine lv_iload hx hb dX6_figures_80 (lv_at hl 6 rfl) ?_
              refine lv_icmp_gt (tgt := 96) hx hb dX6_figures_82 (by decide) (fun c_82 => ?_) (fun c_82 => ?_)
              · skip
                have c_82 : (high < (acc + ((-1) * unit))) := c_82
                rw [if_pos c_82] at hres
                refine lv_iconst (v := (-1)) hx hb dX6_figures_96 (by decide) ?_
                subst hres
                exact kI_ret hE hS hP hD rfl rfl (Nat.le_of_ble_eq_true rfl) (Nat.le_of_ble_eq_true rfl) dX6_figures_97
              · skip
                have c_82 : ¬ (high < (acc + ((-1) * unit))) := c_82
                rw [if_neg c_82] at hres
                refine lv_iload hx hb dX6_figures_85 (lv_at hl 0 rfl) ?_
                refine lv_iload hx hb dX6_figures_87 (lv_at hl 8 rfl) ?_
                refine lv_iadd hx hb dX6_figures_89 ?_
                refine lv_iconst (v := 1) hx hb dX6_figures_90 (by decide) ?_
                refine lv_isub hx hb dX6_figures_91 ?_
                refine lv_iload_n hx hb dX6_figures_92 rfl (lv_at hl 5 rfl) ?_
                refine lv_icmp_ge (tgt := 98) hx hb dX6_figures_93 (by decide) (fun c_93 => ?_) (fun c_93 => ?_)
                · skip
                  have c_93 : (low ≤ (((acc + ((-1) * unit)) + unit) - 1)) := c_93
                  rw [if_pos c_93] at hres
                  refine lv_iload hx hb dX6_figures_98 (lv_at hl 0 rfl) ?_
                  refine lv_istore (lv' := [(5, .int (acc + ((-1) * unit))), (8, .int (acc + ((-1) * unit))), (7, .int (-1)), (0, .ref (ma 0)), (1, .int va), (2, .int vd), (3, .int low), (4, .int high), (6, .int unit)]) hx hb dX6_figures_100 hl (by decide) rfl (fun ls hl => ?_)
                  refine lv_aload_n hx hb dX6_figures_102 rfl (lv_at hl 3 rfl) ?_
                  refine lv_dup hx hb dX6_figures_103 rfl ?_
                  refine va_get (D := D) (ci := 6) (v := .int (mw.1 3)) (C := RX6) (T := TX6) (N := 11) hx hb hts hinX6 hown hK hP 0 rfl rfl 9 (by decide) lk_0 (fun _ h9 => h9) rfl dX6_figures_104 ?_
                  refine lv_iconst (v := 1) hx hb dX6_figures_107 (by decide) ?_
                  refine lv_iadd hx hb dX6_figures_108 ?_
                  refine va_put (D := D) (ci := 6) (v := .int ((mw.1 3) + 1)) (ty := .int) (C := RX6) (T := TX6) (N := 11) hx hb hts hinX6 tyX6 tyX6_ok nmX6 hown hK hP hD hS 0 rfl rfl 9 (by decide) lk_0 (fun _ h9 => h9) rfl (by decide +kernel) rfl rfl (Nat.le_of_ble_eq_true rfl) dX6_figures_109 (fun H locs hP hD hS => ?_)
                  have hP : va_P D vwCl (md_W cs ma (m_s mw 3 ((mw.1 3) + 1))) H := hP
                  have hD : va_D A (md_W cs ma (m_s mw 3 ((mw.1 3) + 1))) := hD
                  refine lv_iload hx hb dX6_figures_112 (lv_at hl 8 rfl) ?_
                  refine lv_bipush (v := 10) hx hb dX6_figures_114 (by decide) ?_
                  refine lv_idiv hx hb dX6_figures_116 (by decide) ?_
                  refine lv_istore (lv' := [(6, .int (unit / 10)), (5, .int (acc + ((-1) * unit))), (8, .int (acc + ((-1) * unit))), (7, .int (-1)), (0, .ref (ma 0)), (1, .int va), (2, .int vd), (3, .int low), (4, .int high)]) hx hb dX6_figures_117 hl (by decide) rfl (fun ls hl => ?_)
                  refine lv_goto (tgt := 16) hx hb dX6_figures_119 (by decide) ?_
                  exact ih (unit / 10) (acc + ((-1) * unit)) (m_s mw 3 ((mw.1 3) + 1)) (by rcases hu with ⟨rfl, h⟩ | ⟨rfl, h⟩ | ⟨rfl, h⟩ <;> first | exact Or.inr (Or.inl ⟨rfl, by omega⟩) | exact Or.inr (Or.inr ⟨rfl, by omega⟩) | exact absurd (by decide) c_18) (by first | exact MZ_spot hz c_34 | exact absurd (by decide) c_75) _ _ _ hS hP hD (lv_sub hl [4, 5, 6, 7, 8, 1, 0] rfl) hres
                · skip
                  have c_93 : ¬ (low ≤ (((acc + ((-1) * unit)) + unit) - 1)) := c_93
                  rw [if_neg c_93] at hres
                  refine lv_iconst (v := (-1)) hx hb dX6_figures_96 (by decide) ?_
                  subst hres
                  exact kI_ret hE hS hP hD rfl rfl (Nat.le_of_ble_eq_true rfl) (Nat.le_of_ble_eq_true rfl) dX6_figures_97
          · skip
            have c_34 : ¬ ((mw.1 1) ≤ (mw.1 3)) := c_34
            rw [if_neg c_34] at hres
            refine lv_aload_n hx hb dX6_figures_37 rfl (lv_at hl 0 rfl) ?_
            refine va_get (D := D) (ci := 6) (v := .ref (ma 1)) (C := RX6) (T := TX6) (N := 11) hx hb hts hinX6 hown hK hP 0 rfl rfl 1 (by decide) lk_3 (fun _ h9 => h9) rfl dX6_figures_38 ?_
            refine lv_aload_n hx hb dX6_figures_41 rfl (lv_at hl 0 rfl) ?_
            refine va_get (D := D) (ci := 6) (v := .int (mw.1 3)) (C := RX6) (T := TX6) (N := 11) hx hb hts hinX6 hown hK hP 0 rfl rfl 9 (by decide) lk_0 (fun _ h9 => h9) rfl dX6_figures_42 ?_
            refine k_iald hx hb hK hP 1 0 (v := ((mw.2 0) ((mw.1 3).toNatClampNeg))) rfl rfl (MZ_in hz c_34) rfl dX6_figures_45 ?_
            refine lv_bipush (v := 48) hx hb dX6_figures_46 (by decide) ?_
            refine lv_isub hx hb dX6_figures_48 ?_
            refine lv_goto (tgt := 53) hx hb dX6_figures_49 (by decide) ?_
            refine lv_istore (lv' := [(7, .int (((mw.2 0) ((mw.1 3).toNatClampNeg)) - 48)), (0, .ref (ma 0)), (1, .int va), (2, .int vd), (3, .int low), (4, .int high), (5, .int acc), (6, .int unit)]) hx hb dX6_figures_53 hl (by decide) rfl (fun ls hl => ?_)
            refine lv_iload hx hb dX6_figures_55 (lv_at hl 6 rfl) ?_
            refine lv_iload hx hb dX6_figures_57 (lv_at hl 0 rfl) ?_
            refine lv_iload hx hb dX6_figures_59 (lv_at hl 7 rfl) ?_
            refine lv_imul hx hb dX6_figures_61 ?_
            refine lv_iadd hx hb dX6_figures_62 ?_
            refine lv_istore (lv' := [(8, .int (acc + ((((mw.2 0) ((mw.1 3).toNatClampNeg)) - 48) * unit))), (7, .int (((mw.2 0) ((mw.1 3).toNatClampNeg)) - 48)), (0, .ref (ma 0)), (1, .int va), (2, .int vd), (3, .int low), (4, .int high), (5, .int acc), (6, .int unit)]) hx hb dX6_figures_63 hl (by decide) rfl (fun ls hl => ?_)
            refine lv_iload hx hb dX6_figures_65 (lv_at hl 1 rfl) ?_
            refine lv_i2l hx hb dX6_figures_67 rfl ?_
            refine lv_lconst (v := 0) hx hb dX6_figures_68 (by decide) ?_
            refine lv_ldc2 (v := 9) hx hb hown lk_2 dX6_figures_69 ?_
            have hP : va_P D vwCl ([] ++ (md_W cs ma mw)) H := hP
            have hD : va_D A ([] ++ (md_W cs ma mw)) := hD
            have hc_72 := c_X6_in l D cs ((((mw.2 0) ((mw.1 3).toNatClampNeg)) - 48).toInt64) 0 9
            refine kI_call (wc := []) (wr := (md_W cs ma mw)) (w1 := []) (r := (k_X6_in ((((mw.2 0) ((mw.1 3).toNatClampNeg)) - 48).toInt64) 0 9)) hE hP hD hS (k_rS (rest := []) (As := [.long ((((mw.2 0) ((mw.1 3).toNatClampNeg)) - 48).toInt64), .long 0, .long 9]) hE rfl (hc_72 H.size) (va_cwS 3 hts gX6_figures_X6_in rfl rfl rfl (by decide +kernel) ⟨Nat.le_of_ble_eq_true rfl, Nat.le_of_ble_eq_true rfl⟩) hP hD hS rfl hl rfl (Nat.le_of_ble_eq_true rfl) ⟨Nat.le_of_ble_eq_true rfl, Nat.le_of_ble_eq_true rfl⟩ dX6_figures_72) (fun H locs hP hD hS => ?_)
            have hP : va_P D vwCl (md_W cs ma mw) H := hP
            have hD : va_D A (md_W cs ma mw) := hD
            refine lv_if_eq (tgt := 96) hx hb dX6_figures_75 (by decide) (fun c_75 => ?_) (fun c_75 => ?_)
            · skip
              have c_75 : ((k_X6_in ((((mw.2 0) ((mw.1 3).toNatClampNeg)) - 48).toInt64) 0 9) = 0) := c_75
              rw [if_pos c_75] at hres
              refine lv_iconst (v := (-1)) hx hb dX6_figures_96 (by decide) ?_
              subst hres
              exact kI_ret hE hS hP hD rfl rfl (Nat.le_of_ble_eq_true rfl) (Nat.le_of_ble_eq_true rfl) dX6_figures_97
            · skip
              have c_75 : ¬ ((k_X6_in ((((mw.2 0) ((mw.1 3).toNatClampNeg)) - 48).toInt64) 0 9) = 0) := c_75
              rw [if_neg c_75] at hres
              refine lv_iload hx hb dX6_figures_78 (lv_at hl 0 rfl) ?_
              refine lv_iload hx hb dX6_figures_80 (lv_at hl 6 rfl) ?_
              refine lv_icmp_gt (tgt := 96) hx hb dX6_figures_82 (by decide) (fun c_82 => ?_) (fun c_82 => ?_)
              · skip
                have c_82 : (high < (acc + ((((mw.2 0) ((mw.1 3).toNatClampNeg)) - 48) * unit))) := c_82
                rw [if_pos c_82] at hres
                refine lv_iconst (v := (-1)) hx hb dX6_figures_96 (by decide) ?_
                subst hres
                exact kI_ret hE hS hP hD rfl rfl (Nat.le_of_ble_eq_true rfl) (Nat.le_of_ble_eq_true rfl) dX6_figures_97
              · skip
                have c_82 : ¬ (high < (acc + ((((mw.2 0) ((mw.1 3).toNatClampNeg)) - 48) * unit))) := c_82
                rw [if_neg c_82] at hres
                refine lv_iload hx hb dX6_figures_85 (lv_at hl 0 rfl) ?_
                refine lv_iload hx hb dX6_figures_87 (lv_at hl 8 rfl) ?_
                refine lv_iadd hx hb dX6_figures_89 ?_
                refine lv_iconst (v := 1) hx hb dX6_figures_90 (by decide) ?_
                refine lv_isub hx hb dX6_figures_91 ?_
                refine lv_iload_n hx hb dX6_figures_92 rfl (lv_at hl 5 rfl) ?_
                refine lv_icmp_ge (tgt := 98) hx hb dX6_figures_93 (by decide) (fun c_93 => ?_) (fun c_93 => ?_)
                · skip
                  have c_93 : (low ≤ (((acc + ((((mw.2 0) ((mw.1 3).toNatClampNeg)) - 48) * unit)) + unit) - 1)) := c_93
                  rw [if_pos c_93] at hres
                  refine lv_iload hx hb dX6_figures_98 (lv_at hl 0 rfl) ?_
                  refine lv_istore (lv' := [(5, .int (acc + ((((mw.2 0) ((mw.1 3).toNatClampNeg)) - 48) * unit))), (8, .int (acc + ((((mw.2 0) ((mw.1 3).toNatClampNeg)) - 48) * unit))), (7, .int (((mw.2 0) ((mw.1 3).toNatClampNeg)) - 48)), (0, .ref (ma 0)), (1, .int va), (2, .int vd), (3, .int low), (4, .int high), (6, .int unit)]) hx hb dX6_figures_100 hl (by decide) rfl (fun ls hl => ?_)
                  refine lv_aload_n hx hb dX6_figures_102 rfl (lv_at hl 3 rfl) ?_
                  refine lv_dup hx hb dX6_figures_103 rfl ?_
                  refine va_get (D := D) (ci := 6) (v := .int (mw.1 3)) (C := RX6) (T := TX6) (N := 11) hx hb hts hinX6 hown hK hP 0 rfl rfl 9 (by decide) lk_0 (fun _ h9 => h9) rfl dX6_figures_104 ?_
                  refine lv_iconst (v := 1) hx hb dX6_figures_107 (by decide) ?_
                  refine lv_iadd hx hb dX6_figures_108 ?_
                  refine va_put (D := D) (ci := 6) (v := .int ((mw.1 3) + 1)) (ty := .int) (C := RX6) (T := TX6) (N := 11) hx hb hts hinX6 tyX6 tyX6_ok nmX6 hown hK hP hD hS 0 rfl rfl 9 (by decide) lk_0 (fun _ h9 => h9) rfl (by decide +kernel) rfl rfl (Nat.le_of_ble_eq_true rfl) dX6_figures_109 (fun H locs hP hD hS => ?_)
                  have hP : va_P D vwCl (md_W cs ma (m_s mw 3 ((mw.1 3) + 1))) H := hP
                  have hD : va_D A (md_W cs ma (m_s mw 3 ((mw.1 3) + 1))) := hD
                  refine lv_iload hx hb dX6_figures_112 (lv_at hl 8 rfl) ?_
                  refine lv_bipush (v := 10) hx hb dX6_figures_114 (by decide) ?_
                  refine lv_idiv hx hb dX6_figures_116 (by decide) ?_
                  refine lv_istore (lv' := [(6, .int (unit / 10)), (5, .int (acc + ((((mw.2 0) ((mw.1 3).toNatClampNeg)) - 48) * unit))), (8, .int (acc + ((((mw.2 0) ((mw.1 3).toNatClampNeg)) - 48) * unit))), (7, .int (((mw.2 0) ((mw.1 3).toNatClampNeg)) - 48)), (0, .ref (ma 0)), (1, .int va), (2, .int vd), (3, .int low), (4, .int high)]) hx hb dX6_figures_117 hl (by decide) rfl (fun ls hl => ?_)
                  refine lv_goto (tgt := 16) hx hb dX6_figures_119 (by decide) ?_
                  exact ih (unit / 10) (acc + ((((mw.2 0) ((mw.1 3).toNatClampNeg)) - 48) * unit)) (m_s mw 3 ((mw.1 3) + 1)) (by rcases hu with ⟨rfl, h⟩ | ⟨rfl, h⟩ | ⟨rfl, h⟩ <;> first | exact Or.inr (Or.inl ⟨rfl, by omega⟩) | exact Or.inr (Or.inr ⟨rfl, by omega⟩) | exact absurd (by decide) c_18) (by first | exact MZ_spot hz c_34 | exact absurd (by decide) c_75) _ _ _ hS hP hD (lv_sub hl [4, 5, 6, 7, 8, 1, 0] rfl) hres
                · skip
                  have c_93 : ¬ (low ≤ (((acc + ((((mw.2 0) ((mw.1 3).toNatClampNeg)) - 48) * unit)) + unit) - 1)) := c_93
                  rw [if_neg c_93] at hres
                  refine lv_iconst (v := (-1)) hx hb dX6_figures_96 (by decide) ?_
                  subst hres
                  exact kI_ret hE hS hP hD rfl rfl (Nat.le_of_ble_eq_true rfl) (Nat.le_of_ble_eq_true rfl) dX6_figures_97
  unfold k_X6_figures at hres
  refine lv_iconst (v := 0) hx hb dX6_figures_0 (by decide) ?_
  refine lv_istore (lv' := [(5, .int 0), (0, .ref (ma 0)), (1, .int va), (2, .int vd), (3, .int low), (4, .int high)]) hx hb dX6_figures_1 hl (by decide) rfl (fun ls hl => ?_)
  refine lv_iload_n hx hb dX6_figures_3 rfl (lv_at hl 3 rfl) ?_
  refine lv_iconst (v := 2) hx hb dX6_figures_4 (by decide) ?_
  refine lv_icmp_ne (tgt := 13) hx hb dX6_figures_5 (by decide) (fun c_5 => ?_) (fun c_5 => ?_)
  · skip
    have c_5 : ¬ (vd = 2) := c_5
    rw [if_neg c_5] at hres
    refine lv_iconst (v := 1) hx hb dX6_figures_13 (by decide) ?_
    refine lv_istore (lv' := [(6, .int 1), (5, .int 0), (0, .ref (ma 0)), (1, .int va), (2, .int vd), (3, .int low), (4, .int high)]) hx hb dX6_figures_14 hl (by decide) rfl (fun ls hl => ?_)
    exact L16 3 1 0 mv (by first | exact Or.inl ⟨rfl, by decide⟩ | exact Or.inr (Or.inl ⟨rfl, by decide⟩)) (hz) _ _ _ hS hP hD (lv_sub hl [2, 3, 4, 5, 6, 1, 0] rfl) hres
  · skip
    have c_5 : (vd = 2) := c_5
    rw [if_pos c_5] at hres
    refine lv_bipush (v := 10) hx hb dX6_figures_8 (by decide) ?_
    refine lv_goto (tgt := 14) hx hb dX6_figures_10 (by decide) ?_
    refine lv_istore (lv' := [(6, .int 10), (5, .int 0), (0, .ref (ma 0)), (1, .int va), (2, .int vd), (3, .int low), (4, .int high)]) hx hb dX6_figures_14 hl (by decide) rfl (fun ls hl => ?_)
    exact L16 3 10 0 mv (by first | exact Or.inl ⟨rfl, by decide⟩ | exact Or.inr (Or.inl ⟨rfl, by decide⟩)) (hz) _ _ _ hS hP hD (lv_sub hl [2, 3, 4, 5, 6, 1, 0] rfl) hres
set_option maxHeartbeats 4000000 in
set_option maxRecDepth 100000 in
theorem c_X6_readOrder (l : Launch) (D : va_G) (cs : Nat → ClassId) (ma : Nat → Nat) (mv : MV) (vs : Int32) (hz : MZ mv) : kI l yX6_readOrder wsX6_readOrder { frames := 2, cells := 0, slots := 0, locals := 53 } 0 0 D cs [.ref (ma 0), .ref (ma 3), .int vs] (md_W cs ma mv) (k_X6_readOrder mv vs).1 (md_W cs ma ((k_X6_readOrder mv vs).2)) := by
  generalize hres : k_X6_readOrder mv vs = res
  refine kI_of (cc := cX6_readOrder) (maxL := 6) (ret := (some .boolean)) (by decide) rfl (Nat.le_of_ble_eq_true rfl) ?_
  intro p e s m below meth c A ls H locs hE hS hP hD hl
  obtain ⟨hx, hb, hr, hlocks, hml, hown, hts, hK, hA, hG, hnm⟩ := id hE
  have hown : s.vm.findClass RX6 = some m.cls := hown
  have hl : lv_has ls 6 [(0, .ref (ma 0)), (1, .ref (ma 3)), (2, .int vs)] := hl
  unfold k_X6_readOrder at hres
  refine lv_aload_n hx hb dX6_readOrder_0 rfl (lv_at hl 0 rfl) ?_
  refine lv_iconst (v := 0) hx hb dX6_readOrder_1 (by decide) ?_
  refine lv_iconst (v := 1) hx hb dX6_readOrder_2 (by decide) ?_
  refine lv_iconst (v := 0) hx hb dX6_readOrder_3 (by decide) ?_
  refine lv_iconst (v := 5) hx hb dX6_readOrder_4 (by decide) ?_
  have hP : va_P D vwCl ((md_W cs ma mv) ++ []) H := k_nP hP
  have hD : va_D A ((md_W cs ma mv) ++ []) := k_nD hD
  have hc_5 := c_X6_figures l D cs ma mv 0 1 0 5 hz
  obtain ⟨r_5, o_5, e_5⟩ : ∃ r9 o9, (k_X6_figures mv 0 1 0 5) = (r9, o9) := ⟨_, _, rfl⟩
  rw [e_5] at hc_5 hres
  dsimp only at hc_5 hres
  refine kI_call (wc := (md_W cs ma mv)) (wr := []) (w1 := md_W cs ma o_5) (r := r_5) hE hP hD hS (k_rV (rest := []) (As := [.int 0, .int 1, .int 0, .int 5]) hE rfl (hc_5 H.size) (cwV 4 hts gX6_readOrder_X6_figures rfl rfl rfl (by decide +kernel) ⟨Nat.le_of_ble_eq_true rfl, Nat.le_of_ble_eq_true rfl⟩) hP hD hS (ci := 6) (q0 := 0) rfl rfl rfl hl rfl (Nat.le_of_ble_eq_true rfl) ⟨Nat.le_of_ble_eq_true rfl, Nat.le_of_ble_eq_true rfl⟩ dX6_readOrder_5) (fun H locs hP hD hS => ?_)
  have hP := k_uP hP
  have hD := k_uD hD
  have hP : va_P D vwCl (md_W cs ma o_5) H := hP
  have hD : va_D A (md_W cs ma o_5) := hD
  refine lv_istore_n (lv' := [(3, .int r_5), (0, .ref (ma 0)), (1, .ref (ma 3)), (2, .int vs)]) hx hb dX6_readOrder_8 rfl hl (by decide) rfl (fun ls hl => ?_)
  refine lv_aload_n hx hb dX6_readOrder_9 rfl (lv_at hl 1 rfl) ?_
  refine lv_iload_n hx hb dX6_readOrder_10 rfl (lv_at hl 0 rfl) ?_
  refine lv_iconst (v := 2) hx hb dX6_readOrder_11 (by decide) ?_
  refine lv_iconst (v := 0) hx hb dX6_readOrder_12 (by decide) ?_
  refine lv_bipush (v := 23) hx hb dX6_readOrder_13 (by decide) ?_
  have hP : va_P D vwCl ((md_W cs ma o_5) ++ []) H := k_nP hP
  have hD : va_D A ((md_W cs ma o_5) ++ []) := k_nD hD
  have hc_15 := c_X6_figures l D cs ma o_5 r_5 2 0 23 (fig_E e_5 hz)
  obtain ⟨r_15, o_15, e_15⟩ : ∃ r9 o9, (k_X6_figures o_5 r_5 2 0 23) = (r9, o9) := ⟨_, _, rfl⟩
  rw [e_15] at hc_15 hres
  dsimp only at hc_15 hres
  refine kI_call (wc := (md_W cs ma o_5)) (wr := []) (w1 := md_W cs ma o_15) (r := r_15) hE hP hD hS (k_rV (rest := []) (As := [.int r_5, .int 2, .int 0, .int 23]) hE rfl (hc_15 H.size) (cwV 4 hts gX6_readOrder_X6_figures rfl rfl rfl (by decide +kernel) ⟨Nat.le_of_ble_eq_true rfl, Nat.le_of_ble_eq_true rfl⟩) hP hD hS (ci := 6) (q0 := 0) rfl rfl rfl hl rfl (Nat.le_of_ble_eq_true rfl) ⟨Nat.le_of_ble_eq_true rfl, Nat.le_of_ble_eq_true rfl⟩ dX6_readOrder_15) (fun H locs hP hD hS => ?_)
  have hP := k_uP hP
  have hD := k_uD hD
  have hP : va_P D vwCl (md_W cs ma o_15) H := hP
  have hD : va_D A (md_W cs ma o_15) := hD
  refine lv_istore (lv' := [(4, .int r_15), (3, .int r_5), (0, .ref (ma 0)), (1, .ref (ma 3)), (2, .int vs)]) hx hb dX6_readOrder_18 hl (by decide) rfl (fun ls hl => ?_)
  refine lv_iload_n hx hb dX6_readOrder_20 rfl (lv_at hl 4 rfl) ?_
  refine lv_if_eq (tgt := 37) hx hb dX6_readOrder_21 (by decide) (fun c_21 => ?_) (fun c_21 => ?_)
  · skip
    have c_21 : (vs = 0) := c_21
    rw [if_pos c_21] at hres
    refine lv_iload hx hb dX6_readOrder_37 (lv_at hl 0 rfl) ?_
    refine lv_iconst (v := (-1)) hx hb dX6_readOrder_39 (by decide) ?_
    refine lv_icmp_ne (tgt := 47) hx hb dX6_readOrder_40 (by decide) (fun c_40 => ?_) (fun c_40 => ?_)
    · skip
      have c_40 : ¬ (r_15 = (-1)) := c_40
      rw [if_neg c_40] at hres
      refine lv_iconst (v := 0) hx hb dX6_readOrder_47 (by decide) ?_
      refine lv_istore (lv' := [(5, .int 0), (4, .int r_15), (3, .int r_5), (0, .ref (ma 0)), (1, .ref (ma 3)), (2, .int vs)]) hx hb dX6_readOrder_48 hl (by decide) rfl (fun ls hl => ?_)
      refine lv_iload hx hb dX6_readOrder_50 (lv_at hl 0 rfl) ?_
      refine lv_iconst (v := (-1)) hx hb dX6_readOrder_52 (by decide) ?_
      refine lv_icmp_eq (tgt := 101) hx hb dX6_readOrder_53 (by decide) (fun c_53 => ?_) (fun c_53 => ?_)
      · skip
        exact absurd c_53 (by decide)
      · skip
        have c_53 : ¬ ((0 : Int32) = (-1)) := c_53
        refine lv_aload_n hx hb dX6_readOrder_56 rfl (lv_at hl 3 rfl) ?_
        refine lv_aload_n hx hb dX6_readOrder_57 rfl (lv_at hl 4 rfl) ?_
        refine lv_iconst (v := 1) hx hb dX6_readOrder_58 (by decide) ?_
        refine k_iald hx hb hK hP 3 0 (v := ((o_15.2 2) 1)) rfl rfl (k_inl rfl) rfl dX6_readOrder_59 ?_
        refine lv_bipush (v := 12) hx hb dX6_readOrder_60 (by decide) ?_
        refine lv_icmp_ge (tgt := 90) hx hb dX6_readOrder_62 (by decide) (fun c_62 => ?_) (fun c_62 => ?_)
        · skip
          have c_62 : (12 ≤ ((o_15.2 2) 1)) := c_62
          rw [if_pos c_62] at hres
          refine lv_iconst (v := 0) hx hb dX6_readOrder_90 (by decide) ?_
          have hP : va_P D vwCl ((md_W cs ma o_15) ++ []) H := k_nP hP
          have hD : va_D A ((md_W cs ma o_15) ++ []) := k_nD hD
          have hc_91 := c_X6_done l D cs ma o_15 0
          obtain ⟨r_91, o_91, e_91⟩ : ∃ r9 o9, (k_X6_done o_15 0) = (r9, o9) := ⟨_, _, rfl⟩
          rw [e_91] at hc_91 hres
          dsimp only at hc_91 hres
          refine kI_call (wc := (md_W cs ma o_15)) (wr := []) (w1 := md_W cs ma o_91) (r := r_91) hE hP hD hS (k_rV (rest := []) (As := [.int 0]) hE rfl (hc_91 H.size) (cwV 1 hts gX6_readOrder_X6_done rfl rfl rfl (by decide +kernel) ⟨Nat.le_of_ble_eq_true rfl, Nat.le_of_ble_eq_true rfl⟩) hP hD hS (ci := 6) (q0 := 0) rfl rfl rfl hl rfl (Nat.le_of_ble_eq_true rfl) ⟨Nat.le_of_ble_eq_true rfl, Nat.le_of_ble_eq_true rfl⟩ dX6_readOrder_91) (fun H locs hP hD hS => ?_)
          have hP := k_uP hP
          have hD := k_uD hD
          have hP : va_P D vwCl (md_W cs ma o_91) H := hP
          have hD : va_D A (md_W cs ma o_91) := hD
          refine lv_if_eq (tgt := 101) hx hb dX6_readOrder_94 (by decide) (fun c_94 => ?_) (fun c_94 => ?_)
          · skip
            have c_94 : (r_91 = 0) := c_94
            rw [if_pos c_94] at hres
            refine lv_iconst (v := 0) hx hb dX6_readOrder_101 (by decide) ?_
            subst hres
            exact kI_ret hE hS hP hD rfl rfl (Nat.le_of_ble_eq_true rfl) (Nat.le_of_ble_eq_true rfl) dX6_readOrder_102
          · skip
            have c_94 : ¬ (r_91 = 0) := c_94
            rw [if_neg c_94] at hres
            refine lv_iconst (v := 1) hx hb dX6_readOrder_97 (by decide) ?_
            refine lv_goto (tgt := 102) hx hb dX6_readOrder_98 (by decide) ?_
            subst hres
            exact kI_ret hE hS hP hD rfl rfl (Nat.le_of_ble_eq_true rfl) (Nat.le_of_ble_eq_true rfl) dX6_readOrder_102
        · skip
          have c_62 : ¬ (12 ≤ ((o_15.2 2) 1)) := c_62
          rw [if_neg c_62] at hres
          refine lv_aload_n hx hb dX6_readOrder_65 rfl (lv_at hl 4 rfl) ?_
          refine lv_iload_n hx hb dX6_readOrder_66 rfl (lv_at hl 5 rfl) ?_
          refine lv_if_eq (tgt := 74) hx hb dX6_readOrder_67 (by decide) (fun c_67 => ?_) (fun c_67 => ?_)
          · skip
            have c_67 : (vs = 0) := c_67
            rw [if_pos c_67] at hres
            refine lv_iconst (v := 0) hx hb dX6_readOrder_74 (by decide) ?_
            refine lv_iload_n hx hb dX6_readOrder_75 rfl (lv_at hl 2 rfl) ?_
            refine lv_iload hx hb dX6_readOrder_76 (lv_at hl 1 rfl) ?_
            refine lv_iload hx hb dX6_readOrder_78 (lv_at hl 0 rfl) ?_
            have hP := hP.sub (ws' := (st_W cs (ma 3) (o_15.2 2)) ++ (x_pick (md_W cs ma o_15) [0, 1, 2, 4, 5, 6])) [3, 0, 1, 2, 4, 5, 6] rfl
            have hD := hD.sub (ws' := (st_W cs (ma 3) (o_15.2 2)) ++ (x_pick (md_W cs ma o_15) [0, 1, 2, 4, 5, 6])) [3, 0, 1, 2, 4, 5, 6] (by decide) rfl
            have hc_80 := c_X6_orderOn l D cs (ma 3) (o_15.2 2) 0 r_5 r_15 0 (by first | exact ((fig_E e_31 (fig_E e_15 (fig_E e_5 hz)))).2.2 | exact ((fig_E e_15 (fig_E e_5 hz))).2.2) (lt12 c_62)
            obtain ⟨r_80, o_80, e_80⟩ : ∃ r9 o9, (k_X6_orderOn (o_15.2 2) 0 r_5 r_15 0) = (r9, o9) := ⟨_, _, rfl⟩
            rw [e_80] at hc_80 hres
            dsimp only at hc_80 hres
            refine kI_call (wc := (st_W cs (ma 3) (o_15.2 2))) (wr := (x_pick (md_W cs ma o_15) [0, 1, 2, 4, 5, 6])) (w1 := st_W cs (ma 3) o_80) (r := r_80) hE hP hD hS (k_rS (rest := [.ref (ma 0)]) (As := [.ref (ma 3), .int 0, .int r_5, .int r_15, .int 0]) hE rfl (hc_80 H.size) (va_cwS 5 hts gX6_readOrder_X6_orderOn rfl rfl rfl (by decide +kernel) ⟨Nat.le_of_ble_eq_true rfl, Nat.le_of_ble_eq_true rfl⟩) hP hD hS rfl hl rfl (Nat.le_of_ble_eq_true rfl) ⟨Nat.le_of_ble_eq_true rfl, Nat.le_of_ble_eq_true rfl⟩ dX6_readOrder_80) (fun H locs hP hD hS => ?_)
            have hP := hP.sub (ws' := md_W cs ma (m_r o_15 2 o_80)) [1, 2, 3, 0, 4, 5, 6] rfl
            have hD := hD.sub (ws' := md_W cs ma (m_r o_15 2 o_80)) [1, 2, 3, 0, 4, 5, 6] (by decide) rfl
            have hP : va_P D vwCl (md_W cs ma (m_r o_15 2 o_80)) H := hP
            have hD : va_D A (md_W cs ma (m_r o_15 2 o_80)) := hD
            refine lv_if_lt (tgt := 90) hx hb dX6_readOrder_83 (by decide) (fun c_83 => ?_) (fun c_83 => ?_)
            · skip
              have c_83 : (r_80 < 0) := c_83
              rw [if_pos c_83] at hres
              refine lv_iconst (v := 0) hx hb dX6_readOrder_90 (by decide) ?_
              have hP : va_P D vwCl ((md_W cs ma (m_r o_15 2 o_80)) ++ []) H := k_nP hP
              have hD : va_D A ((md_W cs ma (m_r o_15 2 o_80)) ++ []) := k_nD hD
              have hc_91 := c_X6_done l D cs ma (m_r o_15 2 o_80) 0
              obtain ⟨r_91, o_91, e_91⟩ : ∃ r9 o9, (k_X6_done (m_r o_15 2 o_80) 0) = (r9, o9) := ⟨_, _, rfl⟩
              rw [e_91] at hc_91 hres
              dsimp only at hc_91 hres
              refine kI_call (wc := (md_W cs ma (m_r o_15 2 o_80))) (wr := []) (w1 := md_W cs ma o_91) (r := r_91) hE hP hD hS (k_rV (rest := []) (As := [.int 0]) hE rfl (hc_91 H.size) (cwV 1 hts gX6_readOrder_X6_done rfl rfl rfl (by decide +kernel) ⟨Nat.le_of_ble_eq_true rfl, Nat.le_of_ble_eq_true rfl⟩) hP hD hS (ci := 6) (q0 := 0) rfl rfl rfl hl rfl (Nat.le_of_ble_eq_true rfl) ⟨Nat.le_of_ble_eq_true rfl, Nat.le_of_ble_eq_true rfl⟩ dX6_readOrder_91) (fun H locs hP hD hS => ?_)
              have hP := k_uP hP
              have hD := k_uD hD
              have hP : va_P D vwCl (md_W cs ma o_91) H := hP
              have hD : va_D A (md_W cs ma o_91) := hD
              refine lv_if_eq (tgt := 101) hx hb dX6_readOrder_94 (by decide) (fun c_94 => ?_) (fun c_94 => ?_)
              · skip
                have c_94 : (r_91 = 0) := c_94
                rw [if_pos c_94] at hres
                refine lv_iconst (v := 0) hx hb dX6_readOrder_101 (by decide) ?_
                subst hres
                exact kI_ret hE hS hP hD rfl rfl (Nat.le_of_ble_eq_true rfl) (Nat.le_of_ble_eq_true rfl) dX6_readOrder_102
              · skip
                have c_94 : ¬ (r_91 = 0) := c_94
                rw [if_neg c_94] at hres
                refine lv_iconst (v := 1) hx hb dX6_readOrder_97 (by decide) ?_
                refine lv_goto (tgt := 102) hx hb dX6_readOrder_98 (by decide) ?_
                subst hres
                exact kI_ret hE hS hP hD rfl rfl (Nat.le_of_ble_eq_true rfl) (Nat.le_of_ble_eq_true rfl) dX6_readOrder_102
            · skip
              have c_83 : ¬ (r_80 < 0) := c_83
              rw [if_neg c_83] at hres
              refine lv_iconst (v := 1) hx hb dX6_readOrder_86 (by decide) ?_
              refine lv_goto (tgt := 91) hx hb dX6_readOrder_87 (by decide) ?_
              have hP : va_P D vwCl ((md_W cs ma (m_r o_15 2 o_80)) ++ []) H := k_nP hP
              have hD : va_D A ((md_W cs ma (m_r o_15 2 o_80)) ++ []) := k_nD hD
              have hc_91 := c_X6_done l D cs ma (m_r o_15 2 o_80) 1
              obtain ⟨r_91, o_91, e_91⟩ : ∃ r9 o9, (k_X6_done (m_r o_15 2 o_80) 1) = (r9, o9) := ⟨_, _, rfl⟩
              rw [e_91] at hc_91 hres
              dsimp only at hc_91 hres
              refine kI_call (wc := (md_W cs ma (m_r o_15 2 o_80))) (wr := []) (w1 := md_W cs ma o_91) (r := r_91) hE hP hD hS (k_rV (rest := []) (As := [.int 1]) hE rfl (hc_91 H.size) (cwV 1 hts gX6_readOrder_X6_done rfl rfl rfl (by decide +kernel) ⟨Nat.le_of_ble_eq_true rfl, Nat.le_of_ble_eq_true rfl⟩) hP hD hS (ci := 6) (q0 := 0) rfl rfl rfl hl rfl (Nat.le_of_ble_eq_true rfl) ⟨Nat.le_of_ble_eq_true rfl, Nat.le_of_ble_eq_true rfl⟩ dX6_readOrder_91) (fun H locs hP hD hS => ?_)
              have hP := k_uP hP
              have hD := k_uD hD
              have hP : va_P D vwCl (md_W cs ma o_91) H := hP
              have hD : va_D A (md_W cs ma o_91) := hD
              refine lv_if_eq (tgt := 101) hx hb dX6_readOrder_94 (by decide) (fun c_94 => ?_) (fun c_94 => ?_)
              · skip
                have c_94 : (r_91 = 0) := c_94
                rw [if_pos c_94] at hres
                refine lv_iconst (v := 0) hx hb dX6_readOrder_101 (by decide) ?_
                subst hres
                exact kI_ret hE hS hP hD rfl rfl (Nat.le_of_ble_eq_true rfl) (Nat.le_of_ble_eq_true rfl) dX6_readOrder_102
              · skip
                have c_94 : ¬ (r_91 = 0) := c_94
                rw [if_neg c_94] at hres
                refine lv_iconst (v := 1) hx hb dX6_readOrder_97 (by decide) ?_
                refine lv_goto (tgt := 102) hx hb dX6_readOrder_98 (by decide) ?_
                subst hres
                exact kI_ret hE hS hP hD rfl rfl (Nat.le_of_ble_eq_true rfl) (Nat.le_of_ble_eq_true rfl) dX6_readOrder_102
          · skip
            have c_67 : ¬ (vs = 0) := c_67
            rw [if_neg c_67] at hres
            refine lv_iconst (v := 1) hx hb dX6_readOrder_70 (by decide) ?_
            refine lv_goto (tgt := 75) hx hb dX6_readOrder_71 (by decide) ?_
            refine lv_iload_n hx hb dX6_readOrder_75 rfl (lv_at hl 2 rfl) ?_
            refine lv_iload hx hb dX6_readOrder_76 (lv_at hl 1 rfl) ?_
            refine lv_iload hx hb dX6_readOrder_78 (lv_at hl 0 rfl) ?_
            have hP := hP.sub (ws' := (st_W cs (ma 3) (o_15.2 2)) ++ (x_pick (md_W cs ma o_15) [0, 1, 2, 4, 5, 6])) [3, 0, 1, 2, 4, 5, 6] rfl
            have hD := hD.sub (ws' := (st_W cs (ma 3) (o_15.2 2)) ++ (x_pick (md_W cs ma o_15) [0, 1, 2, 4, 5, 6])) [3, 0, 1, 2, 4, 5, 6] (by decide) rfl
            have hc_80 := c_X6_orderOn l D cs (ma 3) (o_15.2 2) 1 r_5 r_15 0 (by first | exact ((fig_E e_31 (fig_E e_15 (fig_E e_5 hz)))).2.2 | exact ((fig_E e_15 (fig_E e_5 hz))).2.2) (lt12 c_62)
            obtain ⟨r_80, o_80, e_80⟩ : ∃ r9 o9, (k_X6_orderOn (o_15.2 2) 1 r_5 r_15 0) = (r9, o9) := ⟨_, _, rfl⟩
            rw [e_80] at hc_80 hres
            dsimp only at hc_80 hres
            refine kI_call (wc := (st_W cs (ma 3) (o_15.2 2))) (wr := (x_pick (md_W cs ma o_15) [0, 1, 2, 4, 5, 6])) (w1 := st_W cs (ma 3) o_80) (r := r_80) hE hP hD hS (k_rS (rest := [.ref (ma 0)]) (As := [.ref (ma 3), .int 1, .int r_5, .int r_15, .int 0]) hE rfl (hc_80 H.size) (va_cwS 5 hts gX6_readOrder_X6_orderOn rfl rfl rfl (by decide +kernel) ⟨Nat.le_of_ble_eq_true rfl, Nat.le_of_ble_eq_true rfl⟩) hP hD hS rfl hl rfl (Nat.le_of_ble_eq_true rfl) ⟨Nat.le_of_ble_eq_true rfl, Nat.le_of_ble_eq_true rfl⟩ dX6_readOrder_80) (fun H locs hP hD hS => ?_)
            have hP := hP.sub (ws' := md_W cs ma (m_r o_15 2 o_80)) [1, 2, 3, 0, 4, 5, 6] rfl
            have hD := hD.sub (ws' := md_W cs ma (m_r o_15 2 o_80)) [1, 2, 3, 0, 4, 5, 6] (by decide) rfl
            have hP : va_P D vwCl (md_W cs ma (m_r o_15 2 o_80)) H := hP
            have hD : va_D A (md_W cs ma (m_r o_15 2 o_80)) := hD
            refine lv_if_lt (tgt := 90) hx hb dX6_readOrder_83 (by decide) (fun c_83 => ?_) (fun c_83 => ?_)
            · skip
              have c_83 : (r_80 < 0) := c_83
              rw [if_pos c_83] at hres
              refine lv_iconst (v := 0) hx hb dX6_readOrder_90 (by decide) ?_
              have hP : va_P D vwCl ((md_W cs ma (m_r o_15 2 o_80)) ++ []) H := k_nP hP
              have hD : va_D A ((md_W cs ma (m_r o_15 2 o_80)) ++ []) := k_nD hD
              have hc_91 := c_X6_done l D cs ma (m_r o_15 2 o_80) 0
              obtain ⟨r_91, o_91, e_91⟩ : ∃ r9 o9, (k_X6_done (m_r o_15 2 o_80) 0) = (r9, o9) := ⟨_, _, rfl⟩
              rw [e_91] at hc_91 hres
              dsimp only at hc_91 hres
              refine kI_call (wc := (md_W cs ma (m_r o_15 2 o_80))) (wr := []) (w1 := md_W cs ma o_91) (r := r_91) hE hP hD hS (k_rV (rest := []) (As := [.int 0]) hE rfl (hc_91 H.size) (cwV 1 hts gX6_readOrder_X6_done rfl rfl rfl (by decide +kernel) ⟨Nat.le_of_ble_eq_true rfl, Nat.le_of_ble_eq_true rfl⟩) hP hD hS (ci := 6) (q0 := 0) rfl rfl rfl hl rfl (Nat.le_of_ble_eq_true rfl) ⟨Nat.le_of_ble_eq_true rfl, Nat.le_of_ble_eq_true rfl⟩ dX6_readOrder_91) (fun H locs hP hD hS => ?_)
              have hP := k_uP hP
              have hD := k_uD hD
              have hP : va_P D vwCl (md_W cs ma o_91) H := hP
              have hD : va_D A (md_W cs ma o_91) := hD
              refine lv_if_eq (tgt := 101) hx hb dX6_readOrder_94 (by decide) (fun c_94 => ?_) (fun c_94 => ?_)
              · skip
                have c_94 : (r_91 = 0) := c_94
                rw [if_pos c_94] at hres
                refine lv_iconst (v := 0) hx hb dX6_readOrder_101 (by decide) ?_
                subst hres
                exact kI_ret hE hS hP hD rfl rfl (Nat.le_of_ble_eq_true rfl) (Nat.le_of_ble_eq_true rfl) dX6_readOrder_102
              · skip
                have c_94 : ¬ (r_91 = 0) := c_94
                rw [if_neg c_94] at hres
                refine lv_iconst (v := 1) hx hb dX6_readOrder_97 (by decide) ?_
                refine lv_goto (tgt := 102) hx hb dX6_readOrder_98 (by decide) ?_
                subst hres
                exact kI_ret hE hS hP hD rfl rfl (Nat.le_of_ble_eq_true rfl) (Nat.le_of_ble_eq_true rfl) dX6_readOrder_102
            · skip
              have c_83 : ¬ (r_80 < 0) := c_83
              rw [if_neg c_83] at hres
              refine lv_iconst (v := 1) hx hb dX6_readOrder_86 (by decide) ?_
              refine lv_goto (tgt := 91) hx hb dX6_readOrder_87 (by decide) ?_
              have hP : va_P D vwCl ((md_W cs ma (m_r o_15 2 o_80)) ++ []) H := k_nP hP
              have hD : va_D A ((md_W cs ma (m_r o_15 2 o_80)) ++ []) := k_nD hD
              have hc_91 := c_X6_done l D cs ma (m_r o_15 2 o_80) 1
              obtain ⟨r_91, o_91, e_91⟩ : ∃ r9 o9, (k_X6_done (m_r o_15 2 o_80) 1) = (r9, o9) := ⟨_, _, rfl⟩
              rw [e_91] at hc_91 hres
              dsimp only at hc_91 hres
              refine kI_call (wc := (md_W cs ma (m_r o_15 2 o_80))) (wr := []) (w1 := md_W cs ma o_91) (r := r_91) hE hP hD hS (k_rV (rest := []) (As := [.int 1]) hE rfl (hc_91 H.size) (cwV 1 hts gX6_readOrder_X6_done rfl rfl rfl (by decide +kernel) ⟨Nat.le_of_ble_eq_true rfl, Nat.le_of_ble_eq_true rfl⟩) hP hD hS (ci := 6) (q0 := 0) rfl rfl rfl hl rfl (Nat.le_of_ble_eq_true rfl) ⟨Nat.le_of_ble_eq_true rfl, Nat.le_of_ble_eq_true rfl⟩ dX6_readOrder_91) (fun H locs hP hD hS => ?_)
              have hP := k_uP hP
              have hD := k_uD hD
              have hP : va_P D vwCl (md_W cs ma o_91) H := hP
              have hD : va_D A (md_W cs ma o_91) := hD
              refine lv_if_eq (tgt := 101) hx hb dX6_readOrder_94 (by decide) (fun c_94 => ?_) (fun c_94 => ?_)
              · skip
                have c_94 : (r_91 = 0) := c_94
                rw [if_pos c_94] at hres
                refine lv_iconst (v := 0) hx hb dX6_readOrder_101 (by decide) ?_
                subst hres
                exact kI_ret hE hS hP hD rfl rfl (Nat.le_of_ble_eq_true rfl) (Nat.le_of_ble_eq_true rfl) dX6_readOrder_102
              · skip
                have c_94 : ¬ (r_91 = 0) := c_94
                rw [if_neg c_94] at hres
                refine lv_iconst (v := 1) hx hb dX6_readOrder_97 (by decide) ?_
                refine lv_goto (tgt := 102) hx hb dX6_readOrder_98 (by decide) ?_
                subst hres
                exact kI_ret hE hS hP hD rfl rfl (Nat.le_of_ble_eq_true rfl) (Nat.le_of_ble_eq_true rfl) dX6_readOrder_102
    · skip
      have c_40 : (r_15 = (-1)) := c_40
      rw [if_pos c_40] at hres
      refine lv_iconst (v := (-1)) hx hb dX6_readOrder_43 (by decide) ?_
      refine lv_goto (tgt := 48) hx hb dX6_readOrder_44 (by decide) ?_
      refine lv_istore (lv' := [(5, .int (-1)), (4, .int r_15), (3, .int r_5), (0, .ref (ma 0)), (1, .ref (ma 3)), (2, .int vs)]) hx hb dX6_readOrder_48 hl (by decide) rfl (fun ls hl => ?_)
      refine lv_iload hx hb dX6_readOrder_50 (lv_at hl 0 rfl) ?_
      refine lv_iconst (v := (-1)) hx hb dX6_readOrder_52 (by decide) ?_
      refine lv_icmp_eq (tgt := 101) hx hb dX6_readOrder_53 (by decide) (fun c_53 => ?_) (fun c_53 => ?_)
      · skip
        have c_53 : (((-1) : Int32) = (-1)) := c_53
        refine lv_iconst (v := 0) hx hb dX6_readOrder_101 (by decide) ?_
        subst hres
        exact kI_ret hE hS hP hD rfl rfl (Nat.le_of_ble_eq_true rfl) (Nat.le_of_ble_eq_true rfl) dX6_readOrder_102
      · skip
        exact absurd c_53 (by decide)
  · skip
    have c_21 : ¬ (vs = 0) := c_21
    rw [if_neg c_21] at hres
    refine lv_aload_n hx hb dX6_readOrder_24 rfl (lv_at hl 2 rfl) ?_
    refine lv_iload hx hb dX6_readOrder_25 (lv_at hl 0 rfl) ?_
    refine lv_iconst (v := 1) hx hb dX6_readOrder_27 (by decide) ?_
    refine lv_iconst (v := 1) hx hb dX6_readOrder_28 (by decide) ?_
    refine lv_bipush (v := 6) hx hb dX6_readOrder_29 (by decide) ?_
    have hP : va_P D vwCl ((md_W cs ma o_15) ++ []) H := k_nP hP
    have hD : va_D A ((md_W cs ma o_15) ++ []) := k_nD hD
    have hc_31 := c_X6_figures l D cs ma o_15 r_15 1 1 6 (fig_E e_15 (fig_E e_5 hz))
    obtain ⟨r_31, o_31, e_31⟩ : ∃ r9 o9, (k_X6_figures o_15 r_15 1 1 6) = (r9, o9) := ⟨_, _, rfl⟩
    rw [e_31] at hc_31 hres
    dsimp only at hc_31 hres
    refine kI_call (wc := (md_W cs ma o_15)) (wr := []) (w1 := md_W cs ma o_31) (r := r_31) hE hP hD hS (k_rV (rest := []) (As := [.int r_15, .int 1, .int 1, .int 6]) hE rfl (hc_31 H.size) (cwV 4 hts gX6_readOrder_X6_figures rfl rfl rfl (by decide +kernel) ⟨Nat.le_of_ble_eq_true rfl, Nat.le_of_ble_eq_true rfl⟩) hP hD hS (ci := 6) (q0 := 0) rfl rfl rfl hl rfl (Nat.le_of_ble_eq_true rfl) ⟨Nat.le_of_ble_eq_true rfl, Nat.le_of_ble_eq_true rfl⟩ dX6_readOrder_31) (fun H locs hP hD hS => ?_)
    have hP := k_uP hP
    have hD := k_uD hD
    have hP : va_P D vwCl (md_W cs ma o_31) H := hP
    have hD : va_D A (md_W cs ma o_31) := hD
    refine lv_goto (tgt := 48) hx hb dX6_readOrder_34 (by decide) ?_
    refine lv_istore (lv' := [(5, .int r_31), (4, .int r_15), (3, .int r_5), (0, .ref (ma 0)), (1, .ref (ma 3)), (2, .int vs)]) hx hb dX6_readOrder_48 hl (by decide) rfl (fun ls hl => ?_)
    refine lv_iload hx hb dX6_readOrder_50 (lv_at hl 0 rfl) ?_
    refine lv_iconst (v := (-1)) hx hb dX6_readOrder_52 (by decide) ?_
    refine lv_icmp_eq (tgt := 101) hx hb dX6_readOrder_53 (by decide) (fun c_53 => ?_) (fun c_53 => ?_)
    · skip
      have c_53 : (r_31 = (-1)) := c_53
      rw [if_pos c_53] at hres
      refine lv_iconst (v := 0) hx hb dX6_readOrder_101 (by decide) ?_
      subst hres
      exact kI_ret hE hS hP hD rfl rfl (Nat.le_of_ble_eq_true rfl) (Nat.le_of_ble_eq_true rfl) dX6_readOrder_102
    · skip
      have c_53 : ¬ (r_31 = (-1)) := c_53
      rw [if_neg c_53] at hres
      refine lv_aload_n hx hb dX6_readOrder_56 rfl (lv_at hl 3 rfl) ?_
      refine lv_aload_n hx hb dX6_readOrder_57 rfl (lv_at hl 4 rfl) ?_
      refine lv_iconst (v := 1) hx hb dX6_readOrder_58 (by decide) ?_
      refine k_iald hx hb hK hP 3 0 (v := ((o_31.2 2) 1)) rfl rfl (k_inl rfl) rfl dX6_readOrder_59 ?_
      refine lv_bipush (v := 12) hx hb dX6_readOrder_60 (by decide) ?_
      refine lv_icmp_ge (tgt := 90) hx hb dX6_readOrder_62 (by decide) (fun c_62 => ?_) (fun c_62 => ?_)
      · skip
        have c_62 : (12 ≤ ((o_31.2 2) 1)) := c_62
        rw [if_pos c_62] at hres
        refine lv_iconst (v := 0) hx hb dX6_readOrder_90 (by decide) ?_
        have hP : va_P D vwCl ((md_W cs ma o_31) ++ []) H := k_nP hP
        have hD : va_D A ((md_W cs ma o_31) ++ []) := k_nD hD
        have hc_91 := c_X6_done l D cs ma o_31 0
        obtain ⟨r_91, o_91, e_91⟩ : ∃ r9 o9, (k_X6_done o_31 0) = (r9, o9) := ⟨_, _, rfl⟩
        rw [e_91] at hc_91 hres
        dsimp only at hc_91 hres
        refine kI_call (wc := (md_W cs ma o_31)) (wr := []) (w1 := md_W cs ma o_91) (r := r_91) hE hP hD hS (k_rV (rest := []) (As := [.int 0]) hE rfl (hc_91 H.size) (cwV 1 hts gX6_readOrder_X6_done rfl rfl rfl (by decide +kernel) ⟨Nat.le_of_ble_eq_true rfl, Nat.le_of_ble_eq_true rfl⟩) hP hD hS (ci := 6) (q0 := 0) rfl rfl rfl hl rfl (Nat.le_of_ble_eq_true rfl) ⟨Nat.le_of_ble_eq_true rfl, Nat.le_of_ble_eq_true rfl⟩ dX6_readOrder_91) (fun H locs hP hD hS => ?_)
        have hP := k_uP hP
        have hD := k_uD hD
        have hP : va_P D vwCl (md_W cs ma o_91) H := hP
        have hD : va_D A (md_W cs ma o_91) := hD
        refine lv_if_eq (tgt := 101) hx hb dX6_readOrder_94 (by decide) (fun c_94 => ?_) (fun c_94 => ?_)
        · skip
          have c_94 : (r_91 = 0) := c_94
          rw [if_pos c_94] at hres
          refine lv_iconst (v := 0) hx hb dX6_readOrder_101 (by decide) ?_
          subst hres
          exact kI_ret hE hS hP hD rfl rfl (Nat.le_of_ble_eq_true rfl) (Nat.le_of_ble_eq_true rfl) dX6_readOrder_102
        · skip
          have c_94 : ¬ (r_91 = 0) := c_94
          rw [if_neg c_94] at hres
          refine lv_iconst (v := 1) hx hb dX6_readOrder_97 (by decide) ?_
          refine lv_goto (tgt := 102) hx hb dX6_readOrder_98 (by decide) ?_
          subst hres
          exact kI_ret hE hS hP hD rfl rfl (Nat.le_of_ble_eq_true rfl) (Nat.le_of_ble_eq_true rfl) dX6_readOrder_102
      · skip
        have c_62 : ¬ (12 ≤ ((o_31.2 2) 1)) := c_62
        rw [if_neg c_62] at hres
        refine lv_aload_n hx hb dX6_readOrder_65 rfl (lv_at hl 4 rfl) ?_
        refine lv_iload_n hx hb dX6_readOrder_66 rfl (lv_at hl 5 rfl) ?_
        refine lv_if_eq (tgt := 74) hx hb dX6_readOrder_67 (by decide) (fun c_67 => ?_) (fun c_67 => ?_)
        · skip
          have c_67 : (vs = 0) := c_67
          rw [if_pos c_67] at hres
          refine lv_iconst (v := 0) hx hb dX6_readOrder_74 (by decide) ?_
          refine lv_iload_n hx hb dX6_readOrder_75 rfl (lv_at hl 2 rfl) ?_
          refine lv_iload hx hb dX6_readOrder_76 (lv_at hl 1 rfl) ?_
          refine lv_iload hx hb dX6_readOrder_78 (lv_at hl 0 rfl) ?_
          have hP := hP.sub (ws' := (st_W cs (ma 3) (o_31.2 2)) ++ (x_pick (md_W cs ma o_31) [0, 1, 2, 4, 5, 6])) [3, 0, 1, 2, 4, 5, 6] rfl
          have hD := hD.sub (ws' := (st_W cs (ma 3) (o_31.2 2)) ++ (x_pick (md_W cs ma o_31) [0, 1, 2, 4, 5, 6])) [3, 0, 1, 2, 4, 5, 6] (by decide) rfl
          have hc_80 := c_X6_orderOn l D cs (ma 3) (o_31.2 2) 0 r_5 r_15 r_31 (by first | exact ((fig_E e_31 (fig_E e_15 (fig_E e_5 hz)))).2.2 | exact ((fig_E e_15 (fig_E e_5 hz))).2.2) (lt12 c_62)
          obtain ⟨r_80, o_80, e_80⟩ : ∃ r9 o9, (k_X6_orderOn (o_31.2 2) 0 r_5 r_15 r_31) = (r9, o9) := ⟨_, _, rfl⟩
          rw [e_80] at hc_80 hres
          dsimp only at hc_80 hres
          refine kI_call (wc := (st_W cs (ma 3) (o_31.2 2))) (wr := (x_pick (md_W cs ma o_31) [0, 1, 2, 4, 5, 6])) (w1 := st_W cs (ma 3) o_80) (r := r_80) hE hP hD hS (k_rS (rest := [.ref (ma 0)]) (As := [.ref (ma 3), .int 0, .int r_5, .int r_15, .int r_31]) hE rfl (hc_80 H.size) (va_cwS 5 hts gX6_readOrder_X6_orderOn rfl rfl rfl (by decide +kernel) ⟨Nat.le_of_ble_eq_true rfl, Nat.le_of_ble_eq_true rfl⟩) hP hD hS rfl hl rfl (Nat.le_of_ble_eq_true rfl) ⟨Nat.le_of_ble_eq_true rfl, Nat.le_of_ble_eq_true rfl⟩ dX6_readOrder_80) (fun H locs hP hD hS => ?_)
          have hP := hP.sub (ws' := md_W cs ma (m_r o_31 2 o_80)) [1, 2, 3, 0, 4, 5, 6] rfl
          have hD := hD.sub (ws' := md_W cs ma (m_r o_31 2 o_80)) [1, 2, 3, 0, 4, 5, 6] (by decide) rfl
          have hP : va_P D vwCl (md_W cs ma (m_r o_31 2 o_80)) H := hP
          have hD : va_D A (md_W cs ma (m_r o_31 2 o_80)) := hD
          refine lv_if_lt (tgt := 90) hx hb dX6_readOrder_83 (by decide) (fun c_83 => ?_) (fun c_83 => ?_)
          · skip
            have c_83 : (r_80 < 0) := c_83
            rw [if_pos c_83] at hres
            refine lv_iconst (v := 0) hx hb dX6_readOrder_90 (by decide) ?_
            have hP : va_P D vwCl ((md_W cs ma (m_r o_31 2 o_80)) ++ []) H := k_nP hP
            have hD : va_D A ((md_W cs ma (m_r o_31 2 o_80)) ++ []) := k_nD hD
            have hc_91 := c_X6_done l D cs ma (m_r o_31 2 o_80) 0
            obtain ⟨r_91, o_91, e_91⟩ : ∃ r9 o9, (k_X6_done (m_r o_31 2 o_80) 0) = (r9, o9) := ⟨_, _, rfl⟩
            rw [e_91] at hc_91 hres
            dsimp only at hc_91 hres
            refine kI_call (wc := (md_W cs ma (m_r o_31 2 o_80))) (wr := []) (w1 := md_W cs ma o_91) (r := r_91) hE hP hD hS (k_rV (rest := []) (As := [.int 0]) hE rfl (hc_91 H.size) (cwV 1 hts gX6_readOrder_X6_done rfl rfl rfl (by decide +kernel) ⟨Nat.le_of_ble_eq_true rfl, Nat.le_of_ble_eq_true rfl⟩) hP hD hS (ci := 6) (q0 := 0) rfl rfl rfl hl rfl (Nat.le_of_ble_eq_true rfl) ⟨Nat.le_of_ble_eq_true rfl, Nat.le_of_ble_eq_true rfl⟩ dX6_readOrder_91) (fun H locs hP hD hS => ?_)
            have hP := k_uP hP
            have hD := k_uD hD
            have hP : va_P D vwCl (md_W cs ma o_91) H := hP
            have hD : va_D A (md_W cs ma o_91) := hD
            refine lv_if_eq (tgt := 101) hx hb dX6_readOrder_94 (by decide) (fun c_94 => ?_) (fun c_94 => ?_)
            · skip
              have c_94 : (r_91 = 0) := c_94
              rw [if_pos c_94] at hres
              refine lv_iconst (v := 0) hx hb dX6_readOrder_101 (by decide) ?_
              subst hres
              exact kI_ret hE hS hP hD rfl rfl (Nat.le_of_ble_eq_true rfl) (Nat.le_of_ble_eq_true rfl) dX6_readOrder_102
            · skip
              have c_94 : ¬ (r_91 = 0) := c_94
              rw [if_neg c_94] at hres
              refine lv_iconst (v := 1) hx hb dX6_readOrder_97 (by decide) ?_
              refine lv_goto (tgt := 102) hx hb dX6_readOrder_98 (by decide) ?_
              subst hres
              exact kI_ret hE hS hP hD rfl rfl (Nat.le_of_ble_eq_true rfl) (Nat.le_of_ble_eq_true rfl) dX6_readOrder_102
          · skip
            have c_83 : ¬ (r_80 < 0) := c_83
            rw [if_neg c_83] at hres
            refine lv_iconst (v := 1) hx hb dX6_readOrder_86 (by decide) ?_
            refine lv_goto (tgt := 91) hx hb dX6_readOrder_87 (by decide) ?_
            have hP : va_P D vwCl ((md_W cs ma (m_r o_31 2 o_80)) ++ []) H := k_nP hP
            have hD : va_D A ((md_W cs ma (m_r o_31 2 o_80)) ++ []) := k_nD hD
            have hc_91 := c_X6_done l D cs ma (m_r o_31 2 o_80) 1
            obtain ⟨r_91, o_91, e_91⟩ : ∃ r9 o9, (k_X6_done (m_r o_31 2 o_80) 1) = (r9, o9) := ⟨_, _, rfl⟩
            rw [e_91] at hc_91 hres
            dsimp only at hc_91 hres
            refine kI_call (wc := (md_W cs ma (m_r o_31 2 o_80))) (wr := []) (w1 := md_W cs ma o_91) (r := r_91) hE hP hD hS (k_rV (rest := []) (As := [.int 1]) hE rfl (hc_91 H.size) (cwV 1 hts gX6_readOrder_X6_done rfl rfl rfl (by decide +kernel) ⟨Nat.le_of_ble_eq_true rfl, Nat.le_of_ble_eq_true rfl⟩) hP hD hS (ci := 6) (q0 := 0) rfl rfl rfl hl rfl (Nat.le_of_ble_eq_true rfl) ⟨Nat.le_of_ble_eq_true rfl, Nat.le_of_ble_eq_true rfl⟩ dX6_readOrder_91) (fun H locs hP hD hS => ?_)
            have hP := k_uP hP
            have hD := k_uD hD
            have hP : va_P D vwCl (md_W cs ma o_91) H := hP
            have hD : va_D A (md_W cs ma o_91) := hD
            refine lv_if_eq (tgt := 101) hx hb dX6_readOrder_94 (by decide) (fun c_94 => ?_) (fun c_94 => ?_)
            · skip
              have c_94 : (r_91 = 0) := c_94
              rw [if_pos c_94] at hres
              refine lv_iconst (v := 0) hx hb dX6_readOrder_101 (by decide) ?_
              subst hres
              exact kI_ret hE hS hP hD rfl rfl (Nat.le_of_ble_eq_true rfl) (Nat.le_of_ble_eq_true rfl) dX6_readOrder_102
            · skip
              have c_94 : ¬ (r_91 = 0) := c_94
              rw [if_neg c_94] at hres
              refine lv_iconst (v := 1) hx hb dX6_readOrder_97 (by decide) ?_
              refine lv_goto (tgt := 102) hx hb dX6_readOrder_98 (by decide) ?_
              subst hres
              exact kI_ret hE hS hP hD rfl rfl (Nat.le_of_ble_eq_true rfl) (Nat.le_of_ble_eq_true rfl) dX6_readOrder_102
        · skip
          have c_67 : ¬ (vs = 0) := c_67
          rw [if_neg c_67] at hres
          refine lv_iconst (v := 1) hx hb dX6_readOrder_70 (by decide) ?_
          refine lv_goto (tgt := 75) hx hb dX6_readOrder_71 (by decide) ?_
          refine lv_iload_n hx hb dX6_readOrder_75 rfl (lv_at hl 2 rfl) ?_
          refine lv_iload hx hb dX6_readOrder_76 (lv_at hl 1 rfl) ?_
          refine lv_iload hx hb dX6_readOrder_78 (lv_at hl 0 rfl) ?_
          have hP := hP.sub (ws' := (st_W cs (ma 3) (o_31.2 2)) ++ (x_pick (md_W cs ma o_31) [0, 1, 2, 4, 5, 6])) [3, 0, 1, 2, 4, 5, 6] rfl
          have hD := hD.sub (ws' := (st_W cs (ma 3) (o_31.2 2)) ++ (x_pick (md_W cs ma o_31) [0, 1, 2, 4, 5, 6])) [3, 0, 1, 2, 4, 5, 6] (by decide) rfl
          have hc_80 := c_X6_orderOn l D cs (ma 3) (o_31.2 2) 1 r_5 r_15 r_31 (by first | exact ((fig_E e_31 (fig_E e_15 (fig_E e_5 hz)))).2.2 | exact ((fig_E e_15 (fig_E e_5 hz))).2.2) (lt12 c_62)
          obtain ⟨r_80, o_80, e_80⟩ : ∃ r9 o9, (k_X6_orderOn (o_31.2 2) 1 r_5 r_15 r_31) = (r9, o9) := ⟨_, _, rfl⟩
          rw [e_80] at hc_80 hres
          dsimp only at hc_80 hres
          refine kI_call (wc := (st_W cs (ma 3) (o_31.2 2))) (wr := (x_pick (md_W cs ma o_31) [0, 1, 2, 4, 5, 6])) (w1 := st_W cs (ma 3) o_80) (r := r_80) hE hP hD hS (k_rS (rest := [.ref (ma 0)]) (As := [.ref (ma 3), .int 1, .int r_5, .int r_15, .int r_31]) hE rfl (hc_80 H.size) (va_cwS 5 hts gX6_readOrder_X6_orderOn rfl rfl rfl (by decide +kernel) ⟨Nat.le_of_ble_eq_true rfl, Nat.le_of_ble_eq_true rfl⟩) hP hD hS rfl hl rfl (Nat.le_of_ble_eq_true rfl) ⟨Nat.le_of_ble_eq_true rfl, Nat.le_of_ble_eq_true rfl⟩ dX6_readOrder_80) (fun H locs hP hD hS => ?_)
          have hP := hP.sub (ws' := md_W cs ma (m_r o_31 2 o_80)) [1, 2, 3, 0, 4, 5, 6] rfl
          have hD := hD.sub (ws' := md_W cs ma (m_r o_31 2 o_80)) [1, 2, 3, 0, 4, 5, 6] (by decide) rfl
          have hP : va_P D vwCl (md_W cs ma (m_r o_31 2 o_80)) H := hP
          have hD : va_D A (md_W cs ma (m_r o_31 2 o_80)) := hD
          refine lv_if_lt (tgt := 90) hx hb dX6_readOrder_83 (by decide) (fun c_83 => ?_) (fun c_83 => ?_)
          · skip
            have c_83 : (r_80 < 0) := c_83
            rw [if_pos c_83] at hres
            refine lv_iconst (v := 0) hx hb dX6_readOrder_90 (by decide) ?_
            have hP : va_P D vwCl ((md_W cs ma (m_r o_31 2 o_80)) ++ []) H := k_nP hP
            have hD : va_D A ((md_W cs ma (m_r o_31 2 o_80)) ++ []) := k_nD hD
            have hc_91 := c_X6_done l D cs ma (m_r o_31 2 o_80) 0
            obtain ⟨r_91, o_91, e_91⟩ : ∃ r9 o9, (k_X6_done (m_r o_31 2 o_80) 0) = (r9, o9) := ⟨_, _, rfl⟩
            rw [e_91] at hc_91 hres
            dsimp only at hc_91 hres
            refine kI_call (wc := (md_W cs ma (m_r o_31 2 o_80))) (wr := []) (w1 := md_W cs ma o_91) (r := r_91) hE hP hD hS (k_rV (rest := []) (As := [.int 0]) hE rfl (hc_91 H.size) (cwV 1 hts gX6_readOrder_X6_done rfl rfl rfl (by decide +kernel) ⟨Nat.le_of_ble_eq_true rfl, Nat.le_of_ble_eq_true rfl⟩) hP hD hS (ci := 6) (q0 := 0) rfl rfl rfl hl rfl (Nat.le_of_ble_eq_true rfl) ⟨Nat.le_of_ble_eq_true rfl, Nat.le_of_ble_eq_true rfl⟩ dX6_readOrder_91) (fun H locs hP hD hS => ?_)
            have hP := k_uP hP
            have hD := k_uD hD
            have hP : va_P D vwCl (md_W cs ma o_91) H := hP
            have hD : va_D A (md_W cs ma o_91) := hD
            refine lv_if_eq (tgt := 101) hx hb dX6_readOrder_94 (by decide) (fun c_94 => ?_) (fun c_94 => ?_)
            · skip
              have c_94 : (r_91 = 0) := c_94
              rw [if_pos c_94] at hres
              refine lv_iconst (v := 0) hx hb dX6_readOrder_101 (by decide) ?_
              subst hres
              exact kI_ret hE hS hP hD rfl rfl (Nat.le_of_ble_eq_true rfl) (Nat.le_of_ble_eq_true rfl) dX6_readOrder_102
            · skip
              have c_94 : ¬ (r_91 = 0) := c_94
              rw [if_neg c_94] at hres
              refine lv_iconst (v := 1) hx hb dX6_readOrder_97 (by decide) ?_
              refine lv_goto (tgt := 102) hx hb dX6_readOrder_98 (by decide) ?_
              subst hres
              exact kI_ret hE hS hP hD rfl rfl (Nat.le_of_ble_eq_true rfl) (Nat.le_of_ble_eq_true rfl) dX6_readOrder_102
          · skip
            have c_83 : ¬ (r_80 < 0) := c_83
            rw [if_neg c_83] at hres
            refine lv_iconst (v := 1) hx hb dX6_readOrder_86 (by decide) ?_
            refine lv_goto (tgt := 91) hx hb dX6_readOrder_87 (by decide) ?_
            have hP : va_P D vwCl ((md_W cs ma (m_r o_31 2 o_80)) ++ []) H := k_nP hP
            have hD : va_D A ((md_W cs ma (m_r o_31 2 o_80)) ++ []) := k_nD hD
            have hc_91 := c_X6_done l D cs ma (m_r o_31 2 o_80) 1
            obtain ⟨r_91, o_91, e_91⟩ : ∃ r9 o9, (k_X6_done (m_r o_31 2 o_80) 1) = (r9, o9) := ⟨_, _, rfl⟩
            rw [e_91] at hc_91 hres
            dsimp only at hc_91 hres
            refine kI_call (wc := (md_W cs ma (m_r o_31 2 o_80))) (wr := []) (w1 := md_W cs ma o_91) (r := r_91) hE hP hD hS (k_rV (rest := []) (As := [.int 1]) hE rfl (hc_91 H.size) (cwV 1 hts gX6_readOrder_X6_done rfl rfl rfl (by decide +kernel) ⟨Nat.le_of_ble_eq_true rfl, Nat.le_of_ble_eq_true rfl⟩) hP hD hS (ci := 6) (q0 := 0) rfl rfl rfl hl rfl (Nat.le_of_ble_eq_true rfl) ⟨Nat.le_of_ble_eq_true rfl, Nat.le_of_ble_eq_true rfl⟩ dX6_readOrder_91) (fun H locs hP hD hS => ?_)
            have hP := k_uP hP
            have hD := k_uD hD
            have hP : va_P D vwCl (md_W cs ma o_91) H := hP
            have hD : va_D A (md_W cs ma o_91) := hD
            refine lv_if_eq (tgt := 101) hx hb dX6_readOrder_94 (by decide) (fun c_94 => ?_) (fun c_94 => ?_)
            · skip
              have c_94 : (r_91 = 0) := c_94
              rw [if_pos c_94] at hres
              refine lv_iconst (v := 0) hx hb dX6_readOrder_101 (by decide) ?_
              subst hres
              exact kI_ret hE hS hP hD rfl rfl (Nat.le_of_ble_eq_true rfl) (Nat.le_of_ble_eq_true rfl) dX6_readOrder_102
            · skip
              have c_94 : ¬ (r_91 = 0) := c_94
              rw [if_neg c_94] at hres
              refine lv_iconst (v := 1) hx hb dX6_readOrder_97 (by decide) ?_
              refine lv_goto (tgt := 102) hx hb dX6_readOrder_98 (by decide) ?_
              subst hres
              exact kI_ret hE hS hP hD rfl rfl (Nat.le_of_ble_eq_true rfl) (Nat.le_of_ble_eq_true rfl) dX6_readOrder_102
set_option maxHeartbeats 4000000 in
set_option maxRecDepth 100000 in
theorem c_X6_readCommand (l : Launch) (D : va_G) (cs : Nat → ClassId) (ma : Nat → Nat) (mv : MV) (hz : MZ mv) (hs : ¬ (mv.1 1) ≤ (mv.1 3)) : kI l yX6_readCommand wsX6_readCommand { frames := 7, cells := 0, slots := 0, locals := 159 } 0 0 D cs [.ref (ma 0), .ref (ma 3)] (md_W cs ma mv) (k_X6_readCommand mv).1 (md_W cs ma ((k_X6_readCommand mv).2)) := by
  generalize hres : k_X6_readCommand mv = res
  refine kI_of (cc := cX6_readCommand) (maxL := 5) (ret := (some .boolean)) (by decide) rfl (Nat.le_of_ble_eq_true rfl) ?_
  intro p e s m below meth c A ls H locs hE hS hP hD hl
  obtain ⟨hx, hb, hr, hlocks, hml, hown, hts, hK, hA, hG, hnm⟩ := id hE
  have hown : s.vm.findClass RX6 = some m.cls := hown
  have hl : lv_has ls 5 [(0, .ref (ma 0)), (1, .ref (ma 3))] := hl
  have hinX6 : ∀ w ∈ wsX60, w ∈ wsX6_readCommand := by decide +kernel
  have lk_0 := hts (.fieldLink RX6 7 "OrganPegsModel" "text" "[I") (by decide +kernel)
  have lk_1 := hts (.fieldLink RX6 111 "OrganPegsModel" "spot" "I") (by decide +kernel)
  unfold k_X6_readCommand at hres
  refine lv_aload_n hx hb dX6_readCommand_0 rfl (lv_at hl 0 rfl) ?_
  refine va_get (D := D) (ci := 6) (v := .ref (ma 1)) (C := RX6) (T := TX6) (N := 11) hx hb hts hinX6 hown hK hP 0 rfl rfl 1 (by decide) lk_0 (fun _ h9 => h9) rfl dX6_readCommand_1 ?_
  refine lv_aload_n hx hb dX6_readCommand_4 rfl (lv_at hl 0 rfl) ?_
  refine va_get (D := D) (ci := 6) (v := .int (mv.1 3)) (C := RX6) (T := TX6) (N := 11) hx hb hts hinX6 hown hK hP 0 rfl rfl 9 (by decide) lk_1 (fun _ h9 => h9) rfl dX6_readCommand_5 ?_
  refine k_iald hx hb hK hP 1 0 (v := ((mv.2 0) ((mv.1 3).toNatClampNeg))) rfl rfl (MZ_in hz hs) rfl dX6_readCommand_8 ?_
  refine lv_istore_n (lv' := [(2, .int ((mv.2 0) ((mv.1 3).toNatClampNeg))), (0, .ref (ma 0)), (1, .ref (ma 3))]) hx hb dX6_readCommand_9 rfl hl (by decide) rfl (fun ls hl => ?_)
  refine lv_aload_n hx hb dX6_readCommand_10 rfl (lv_at hl 1 rfl) ?_
  refine lv_dup hx hb dX6_readCommand_11 rfl ?_
  refine va_get (D := D) (ci := 6) (v := .int (mv.1 3)) (C := RX6) (T := TX6) (N := 11) hx hb hts hinX6 hown hK hP 0 rfl rfl 9 (by decide) lk_1 (fun _ h9 => h9) rfl dX6_readCommand_12 ?_
  refine lv_iconst (v := 1) hx hb dX6_readCommand_15 (by decide) ?_
  refine lv_iadd hx hb dX6_readCommand_16 ?_
  refine va_put (D := D) (ci := 6) (v := .int ((mv.1 3) + 1)) (ty := .int) (C := RX6) (T := TX6) (N := 11) hx hb hts hinX6 tyX6 tyX6_ok nmX6 hown hK hP hD hS 0 rfl rfl 9 (by decide) lk_1 (fun _ h9 => h9) rfl (by decide +kernel) rfl rfl (Nat.le_of_ble_eq_true rfl) dX6_readCommand_17 (fun H locs hP hD hS => ?_)
  have hP : va_P D vwCl (md_W cs ma (m_s mv 3 ((mv.1 3) + 1))) H := hP
  have hD : va_D A (md_W cs ma (m_s mv 3 ((mv.1 3) + 1))) := hD
  refine lv_iload_n hx hb dX6_readCommand_20 rfl (lv_at hl 0 rfl) ?_
  by_cases c_21_99 : ((mv.2 0) ((mv.1 3).toNatClampNeg)) = 99
  · skip
    rw [if_pos c_21_99] at hres
    refine lv_lookup (tgt := 193) (off := 172) hx hb dX6_readCommand_21 (by decide) (by rw [c_21_99]; rfl) (by decide) ?_
    refine lv_aload_n hx hb dX6_readCommand_193 rfl (lv_at hl 1 rfl) ?_
    refine lv_iconst (v := 0) hx hb dX6_readCommand_194 (by decide) ?_
    refine lv_iconst (v := 2) hx hb dX6_readCommand_195 (by decide) ?_
    refine lv_iconst (v := 0) hx hb dX6_readCommand_196 (by decide) ?_
    refine lv_bipush (v := 11) hx hb dX6_readCommand_197 (by decide) ?_
    have hP : va_P D vwCl ((md_W cs ma (m_s mv 3 ((mv.1 3) + 1))) ++ []) H := k_nP hP
    have hD : va_D A ((md_W cs ma (m_s mv 3 ((mv.1 3) + 1))) ++ []) := k_nD hD
    have hc_199 := c_X6_figures l D cs ma (m_s mv 3 ((mv.1 3) + 1)) 0 2 0 11 (MZ_spot hz hs)
    obtain ⟨r_199, o_199, e_199⟩ : ∃ r9 o9, (k_X6_figures (m_s mv 3 ((mv.1 3) + 1)) 0 2 0 11) = (r9, o9) := ⟨_, _, rfl⟩
    rw [e_199] at hc_199 hres
    dsimp only at hc_199 hres
    refine kI_call (wc := (md_W cs ma (m_s mv 3 ((mv.1 3) + 1)))) (wr := []) (w1 := md_W cs ma o_199) (r := r_199) hE hP hD hS (k_rV (rest := []) (As := [.int 0, .int 2, .int 0, .int 11]) hE rfl (hc_199 H.size) (cwV 4 hts gX6_readCommand_X6_figures rfl rfl rfl (by decide +kernel) ⟨Nat.le_of_ble_eq_true rfl, Nat.le_of_ble_eq_true rfl⟩) hP hD hS (ci := 6) (q0 := 0) rfl rfl rfl hl rfl (Nat.le_of_ble_eq_true rfl) ⟨Nat.le_of_ble_eq_true rfl, Nat.le_of_ble_eq_true rfl⟩ dX6_readCommand_199) (fun H locs hP hD hS => ?_)
    have hP := k_uP hP
    have hD := k_uD hD
    have hP : va_P D vwCl (md_W cs ma o_199) H := hP
    have hD : va_D A (md_W cs ma o_199) := hD
    refine lv_istore_n (lv' := [(3, .int r_199), (2, .int ((mv.2 0) ((mv.1 3).toNatClampNeg))), (0, .ref (ma 0)), (1, .ref (ma 3))]) hx hb dX6_readCommand_202 rfl hl (by decide) rfl (fun ls hl => ?_)
    refine lv_iload_n hx hb dX6_readCommand_203 rfl (lv_at hl 0 rfl) ?_
    refine lv_iconst (v := (-1)) hx hb dX6_readCommand_204 (by decide) ?_
    refine lv_icmp_eq (tgt := 240) hx hb dX6_readCommand_205 (by decide) (fun c_205 => ?_) (fun c_205 => ?_)
    · skip
      have c_205 : (r_199 = (-1)) := c_205
      rw [if_pos c_205] at hres
      refine lv_iconst (v := 0) hx hb dX6_readCommand_240 (by decide) ?_
      subst hres
      exact kI_ret hE hS hP hD rfl rfl (Nat.le_of_ble_eq_true rfl) (Nat.le_of_ble_eq_true rfl) dX6_readCommand_241
    · skip
      have c_205 : ¬ (r_199 = (-1)) := c_205
      rw [if_neg c_205] at hres
      refine lv_aload_n hx hb dX6_readCommand_208 rfl (lv_at hl 2 rfl) ?_
      refine lv_aload_n hx hb dX6_readCommand_209 rfl (lv_at hl 3 rfl) ?_
      refine lv_iload_n hx hb dX6_readCommand_210 rfl (lv_at hl 0 rfl) ?_
      have hP := hP.sub (ws' := (st_W cs (ma 3) (o_199.2 2)) ++ (x_pick (md_W cs ma o_199) [0, 1, 2, 4, 5, 6])) [3, 0, 1, 2, 4, 5, 6] rfl
      have hD := hD.sub (ws' := (st_W cs (ma 3) (o_199.2 2)) ++ (x_pick (md_W cs ma o_199) [0, 1, 2, 4, 5, 6])) [3, 0, 1, 2, 4, 5, 6] (by decide) rfl
      have hc_211 := c_X6_isOrder l D cs (ma 3) (o_199.2 2) r_199
      refine kI_call (wc := (st_W cs (ma 3) (o_199.2 2))) (wr := (x_pick (md_W cs ma o_199) [0, 1, 2, 4, 5, 6])) (w1 := (st_W cs (ma 3) (o_199.2 2))) (r := (k_X6_isOrder (o_199.2 2) r_199)) hE hP hD hS (k_rS (rest := [.ref (ma 0)]) (As := [.ref (ma 3), .int r_199]) hE rfl (hc_211 H.size) (va_cwS 2 hts gX6_readCommand_X6_isOrder rfl rfl rfl (by decide +kernel) ⟨Nat.le_of_ble_eq_true rfl, Nat.le_of_ble_eq_true rfl⟩) hP hD hS rfl hl rfl (Nat.le_of_ble_eq_true rfl) ⟨Nat.le_of_ble_eq_true rfl, Nat.le_of_ble_eq_true rfl⟩ dX6_readCommand_211) (fun H locs hP hD hS => ?_)
      have hP := hP.sub (ws' := md_W cs ma o_199) [1, 2, 3, 0, 4, 5, 6] rfl
      have hD := hD.sub (ws' := md_W cs ma o_199) [1, 2, 3, 0, 4, 5, 6] (by decide) rfl
      have hP : va_P D vwCl (md_W cs ma o_199) H := hP
      have hD : va_D A (md_W cs ma o_199) := hD
      refine lv_if_eq (tgt := 229) hx hb dX6_readCommand_214 (by decide) (fun c_214 => ?_) (fun c_214 => ?_)
      · skip
        have c_214 : ((k_X6_isOrder (o_199.2 2) r_199) = 0) := c_214
        rw [if_pos c_214] at hres
        refine lv_iconst (v := 0) hx hb dX6_readCommand_229 (by decide) ?_
        have hP : va_P D vwCl ((md_W cs ma o_199) ++ []) H := k_nP hP
        have hD : va_D A ((md_W cs ma o_199) ++ []) := k_nD hD
        have hc_230 := c_X6_done l D cs ma o_199 0
        obtain ⟨r_230, o_230, e_230⟩ : ∃ r9 o9, (k_X6_done o_199 0) = (r9, o9) := ⟨_, _, rfl⟩
        rw [e_230] at hc_230 hres
        dsimp only at hc_230 hres
        refine kI_call (wc := (md_W cs ma o_199)) (wr := []) (w1 := md_W cs ma o_230) (r := r_230) hE hP hD hS (k_rV (rest := []) (As := [.int 0]) hE rfl (hc_230 H.size) (cwV 1 hts gX6_readCommand_X6_done rfl rfl rfl (by decide +kernel) ⟨Nat.le_of_ble_eq_true rfl, Nat.le_of_ble_eq_true rfl⟩) hP hD hS (ci := 6) (q0 := 0) rfl rfl rfl hl rfl (Nat.le_of_ble_eq_true rfl) ⟨Nat.le_of_ble_eq_true rfl, Nat.le_of_ble_eq_true rfl⟩ dX6_readCommand_230) (fun H locs hP hD hS => ?_)
        have hP := k_uP hP
        have hD := k_uD hD
        have hP : va_P D vwCl (md_W cs ma o_230) H := hP
        have hD : va_D A (md_W cs ma o_230) := hD
        refine lv_if_eq (tgt := 240) hx hb dX6_readCommand_233 (by decide) (fun c_233 => ?_) (fun c_233 => ?_)
        · skip
          have c_233 : (r_230 = 0) := c_233
          rw [if_pos c_233] at hres
          refine lv_iconst (v := 0) hx hb dX6_readCommand_240 (by decide) ?_
          subst hres
          exact kI_ret hE hS hP hD rfl rfl (Nat.le_of_ble_eq_true rfl) (Nat.le_of_ble_eq_true rfl) dX6_readCommand_241
        · skip
          have c_233 : ¬ (r_230 = 0) := c_233
          rw [if_neg c_233] at hres
          refine lv_iconst (v := 1) hx hb dX6_readCommand_236 (by decide) ?_
          refine lv_goto (tgt := 241) hx hb dX6_readCommand_237 (by decide) ?_
          subst hres
          exact kI_ret hE hS hP hD rfl rfl (Nat.le_of_ble_eq_true rfl) (Nat.le_of_ble_eq_true rfl) dX6_readCommand_241
      · skip
        have c_214 : ¬ ((k_X6_isOrder (o_199.2 2) r_199) = 0) := c_214
        rw [if_neg c_214] at hres
        refine lv_aload_n hx hb dX6_readCommand_217 rfl (lv_at hl 3 rfl) ?_
        refine lv_iload_n hx hb dX6_readCommand_218 rfl (lv_at hl 0 rfl) ?_
        have hP := hP.sub (ws' := (st_W cs (ma 3) (o_199.2 2)) ++ (x_pick (md_W cs ma o_199) [0, 1, 2, 4, 5, 6])) [3, 0, 1, 2, 4, 5, 6] rfl
        have hD := hD.sub (ws' := (st_W cs (ma 3) (o_199.2 2)) ++ (x_pick (md_W cs ma o_199) [0, 1, 2, 4, 5, 6])) [3, 0, 1, 2, 4, 5, 6] (by decide) rfl
        have hc_219 := c_X6_cancelOn l D cs (ma 3) (o_199.2 2) r_199 (fig_E e_199 (MZ_spot hz hs)).2.2 (ord_b (fig_E e_199 (MZ_spot hz hs)).2.2 c_214)
        obtain ⟨r_219, o_219, e_219⟩ : ∃ r9 o9, (k_X6_cancelOn (o_199.2 2) r_199) = (r9, o9) := ⟨_, _, rfl⟩
        rw [e_219] at hc_219 hres
        dsimp only at hc_219 hres
        refine kI_call (wc := (st_W cs (ma 3) (o_199.2 2))) (wr := (x_pick (md_W cs ma o_199) [0, 1, 2, 4, 5, 6])) (w1 := st_W cs (ma 3) o_219) (r := r_219) hE hP hD hS (k_rS (rest := [.ref (ma 0)]) (As := [.ref (ma 3), .int r_199]) hE rfl (hc_219 H.size) (va_cwS 2 hts gX6_readCommand_X6_cancelOn rfl rfl rfl (by decide +kernel) ⟨Nat.le_of_ble_eq_true rfl, Nat.le_of_ble_eq_true rfl⟩) hP hD hS rfl hl rfl (Nat.le_of_ble_eq_true rfl) ⟨Nat.le_of_ble_eq_true rfl, Nat.le_of_ble_eq_true rfl⟩ dX6_readCommand_219) (fun H locs hP hD hS => ?_)
        have hP := hP.sub (ws' := md_W cs ma (m_r o_199 2 o_219)) [1, 2, 3, 0, 4, 5, 6] rfl
        have hD := hD.sub (ws' := md_W cs ma (m_r o_199 2 o_219)) [1, 2, 3, 0, 4, 5, 6] (by decide) rfl
        have hP : va_P D vwCl (md_W cs ma (m_r o_199 2 o_219)) H := hP
        have hD : va_D A (md_W cs ma (m_r o_199 2 o_219)) := hD
        refine lv_if_lt (tgt := 229) hx hb dX6_readCommand_222 (by decide) (fun c_222 => ?_) (fun c_222 => ?_)
        · skip
          have c_222 : (r_219 < 0) := c_222
          rw [if_pos c_222] at hres
          refine lv_iconst (v := 0) hx hb dX6_readCommand_229 (by decide) ?_
          have hP : va_P D vwCl ((md_W cs ma (m_r o_199 2 o_219)) ++ []) H := k_nP hP
          have hD : va_D A ((md_W cs ma (m_r o_199 2 o_219)) ++ []) := k_nD hD
          have hc_230 := c_X6_done l D cs ma (m_r o_199 2 o_219) 0
          obtain ⟨r_230, o_230, e_230⟩ : ∃ r9 o9, (k_X6_done (m_r o_199 2 o_219) 0) = (r9, o9) := ⟨_, _, rfl⟩
          rw [e_230] at hc_230 hres
          dsimp only at hc_230 hres
          refine kI_call (wc := (md_W cs ma (m_r o_199 2 o_219))) (wr := []) (w1 := md_W cs ma o_230) (r := r_230) hE hP hD hS (k_rV (rest := []) (As := [.int 0]) hE rfl (hc_230 H.size) (cwV 1 hts gX6_readCommand_X6_done rfl rfl rfl (by decide +kernel) ⟨Nat.le_of_ble_eq_true rfl, Nat.le_of_ble_eq_true rfl⟩) hP hD hS (ci := 6) (q0 := 0) rfl rfl rfl hl rfl (Nat.le_of_ble_eq_true rfl) ⟨Nat.le_of_ble_eq_true rfl, Nat.le_of_ble_eq_true rfl⟩ dX6_readCommand_230) (fun H locs hP hD hS => ?_)
          have hP := k_uP hP
          have hD := k_uD hD
          have hP : va_P D vwCl (md_W cs ma o_230) H := hP
          have hD : va_D A (md_W cs ma o_230) := hD
          refine lv_if_eq (tgt := 240) hx hb dX6_readCommand_233 (by decide) (fun c_233 => ?_) (fun c_233 => ?_)
          · skip
            have c_233 : (r_230 = 0) := c_233
            rw [if_pos c_233] at hres
            refine lv_iconst (v := 0) hx hb dX6_readCommand_240 (by decide) ?_
            subst hres
            exact kI_ret hE hS hP hD rfl rfl (Nat.le_of_ble_eq_true rfl) (Nat.le_of_ble_eq_true rfl) dX6_readCommand_241
          · skip
            have c_233 : ¬ (r_230 = 0) := c_233
            rw [if_neg c_233] at hres
            refine lv_iconst (v := 1) hx hb dX6_readCommand_236 (by decide) ?_
            refine lv_goto (tgt := 241) hx hb dX6_readCommand_237 (by decide) ?_
            subst hres
            exact kI_ret hE hS hP hD rfl rfl (Nat.le_of_ble_eq_true rfl) (Nat.le_of_ble_eq_true rfl) dX6_readCommand_241
        · skip
          have c_222 : ¬ (r_219 < 0) := c_222
          rw [if_neg c_222] at hres
          refine lv_iconst (v := 1) hx hb dX6_readCommand_225 (by decide) ?_
          refine lv_goto (tgt := 230) hx hb dX6_readCommand_226 (by decide) ?_
          have hP : va_P D vwCl ((md_W cs ma (m_r o_199 2 o_219)) ++ []) H := k_nP hP
          have hD : va_D A ((md_W cs ma (m_r o_199 2 o_219)) ++ []) := k_nD hD
          have hc_230 := c_X6_done l D cs ma (m_r o_199 2 o_219) 1
          obtain ⟨r_230, o_230, e_230⟩ : ∃ r9 o9, (k_X6_done (m_r o_199 2 o_219) 1) = (r9, o9) := ⟨_, _, rfl⟩
          rw [e_230] at hc_230 hres
          dsimp only at hc_230 hres
          refine kI_call (wc := (md_W cs ma (m_r o_199 2 o_219))) (wr := []) (w1 := md_W cs ma o_230) (r := r_230) hE hP hD hS (k_rV (rest := []) (As := [.int 1]) hE rfl (hc_230 H.size) (cwV 1 hts gX6_readCommand_X6_done rfl rfl rfl (by decide +kernel) ⟨Nat.le_of_ble_eq_true rfl, Nat.le_of_ble_eq_true rfl⟩) hP hD hS (ci := 6) (q0 := 0) rfl rfl rfl hl rfl (Nat.le_of_ble_eq_true rfl) ⟨Nat.le_of_ble_eq_true rfl, Nat.le_of_ble_eq_true rfl⟩ dX6_readCommand_230) (fun H locs hP hD hS => ?_)
          have hP := k_uP hP
          have hD := k_uD hD
          have hP : va_P D vwCl (md_W cs ma o_230) H := hP
          have hD : va_D A (md_W cs ma o_230) := hD
          refine lv_if_eq (tgt := 240) hx hb dX6_readCommand_233 (by decide) (fun c_233 => ?_) (fun c_233 => ?_)
          · skip
            have c_233 : (r_230 = 0) := c_233
            rw [if_pos c_233] at hres
            refine lv_iconst (v := 0) hx hb dX6_readCommand_240 (by decide) ?_
            subst hres
            exact kI_ret hE hS hP hD rfl rfl (Nat.le_of_ble_eq_true rfl) (Nat.le_of_ble_eq_true rfl) dX6_readCommand_241
          · skip
            have c_233 : ¬ (r_230 = 0) := c_233
            rw [if_neg c_233] at hres
            refine lv_iconst (v := 1) hx hb dX6_readCommand_236 (by decide) ?_
            refine lv_goto (tgt := 241) hx hb dX6_readCommand_237 (by decide) ?_
            subst hres
            exact kI_ret hE hS hP hD rfl rfl (Nat.le_of_ble_eq_true rfl) (Nat.le_of_ble_eq_true rfl) dX6_readCommand_241
  · skip
    rw [if_neg c_21_99] at hres
    by_cases c_21_108 : ((mv.2 0) ((mv.1 3).toNatClampNeg)) = 108
    · skip
      rw [if_pos c_21_108] at hres
      refine lv_lookup (tgt := 72) (off := 51) hx hb dX6_readCommand_21 (by decide) (by rw [c_21_108]; rfl) (by decide) ?_
      refine lv_aload_n hx hb dX6_readCommand_72 rfl (lv_at hl 1 rfl) ?_
      refine lv_aload_n hx hb dX6_readCommand_73 rfl (lv_at hl 2 rfl) ?_
      refine lv_iload_n hx hb dX6_readCommand_74 rfl (lv_at hl 0 rfl) ?_
      refine lv_bipush (v := 112) hx hb dX6_readCommand_75 (by decide) ?_
      refine lv_icmp_ne (tgt := 84) hx hb dX6_readCommand_77 (by decide) (fun c_77 => ?_) (fun c_77 => ?_)
      · skip
        have c_77 : ¬ (((mv.2 0) ((mv.1 3).toNatClampNeg)) = 112) := c_77
        rw [if_neg c_77] at hres
        refine lv_iconst (v := 0) hx hb dX6_readCommand_84 (by decide) ?_
        have hP : va_P D vwCl ((md_W cs ma (m_s mv 3 ((mv.1 3) + 1))) ++ []) H := k_nP hP
        have hD : va_D A ((md_W cs ma (m_s mv 3 ((mv.1 3) + 1))) ++ []) := k_nD hD
        have hc_85 := c_X6_readOrder l D cs ma (m_s mv 3 ((mv.1 3) + 1)) 0 (MZ_spot hz hs)
        obtain ⟨r_85, o_85, e_85⟩ : ∃ r9 o9, (k_X6_readOrder (m_s mv 3 ((mv.1 3) + 1)) 0) = (r9, o9) := ⟨_, _, rfl⟩
        rw [e_85] at hc_85 hres
        dsimp only at hc_85 hres
        refine kI_call (wc := (md_W cs ma (m_s mv 3 ((mv.1 3) + 1)))) (wr := []) (w1 := md_W cs ma o_85) (r := r_85) hE hP hD hS (k_rV (rest := []) (As := [.ref (ma 3), .int 0]) hE rfl (hc_85 H.size) (cwV 2 hts gX6_readCommand_X6_readOrder rfl rfl rfl (by decide +kernel) ⟨Nat.le_of_ble_eq_true rfl, Nat.le_of_ble_eq_true rfl⟩) hP hD hS (ci := 6) (q0 := 0) rfl rfl rfl hl rfl (Nat.le_of_ble_eq_true rfl) ⟨Nat.le_of_ble_eq_true rfl, Nat.le_of_ble_eq_true rfl⟩ dX6_readCommand_85) (fun H locs hP hD hS => ?_)
        have hP := k_uP hP
        have hD := k_uD hD
        have hP : va_P D vwCl (md_W cs ma o_85) H := hP
        have hD : va_D A (md_W cs ma o_85) := hD
        subst hres
        exact kI_ret hE hS hP hD (nar_b (ro01 e_85 (MZ_spot hz hs))) rfl (Nat.le_of_ble_eq_true rfl) (Nat.le_of_ble_eq_true rfl) dX6_readCommand_88
      · skip
        have c_77 : (((mv.2 0) ((mv.1 3).toNatClampNeg)) = 112) := c_77
        rw [if_pos c_77] at hres
        refine lv_iconst (v := 1) hx hb dX6_readCommand_80 (by decide) ?_
        refine lv_goto (tgt := 85) hx hb dX6_readCommand_81 (by decide) ?_
        have hP : va_P D vwCl ((md_W cs ma (m_s mv 3 ((mv.1 3) + 1))) ++ []) H := k_nP hP
        have hD : va_D A ((md_W cs ma (m_s mv 3 ((mv.1 3) + 1))) ++ []) := k_nD hD
        have hc_85 := c_X6_readOrder l D cs ma (m_s mv 3 ((mv.1 3) + 1)) 1 (MZ_spot hz hs)
        obtain ⟨r_85, o_85, e_85⟩ : ∃ r9 o9, (k_X6_readOrder (m_s mv 3 ((mv.1 3) + 1)) 1) = (r9, o9) := ⟨_, _, rfl⟩
        rw [e_85] at hc_85 hres
        dsimp only at hc_85 hres
        refine kI_call (wc := (md_W cs ma (m_s mv 3 ((mv.1 3) + 1)))) (wr := []) (w1 := md_W cs ma o_85) (r := r_85) hE hP hD hS (k_rV (rest := []) (As := [.ref (ma 3), .int 1]) hE rfl (hc_85 H.size) (cwV 2 hts gX6_readCommand_X6_readOrder rfl rfl rfl (by decide +kernel) ⟨Nat.le_of_ble_eq_true rfl, Nat.le_of_ble_eq_true rfl⟩) hP hD hS (ci := 6) (q0 := 0) rfl rfl rfl hl rfl (Nat.le_of_ble_eq_true rfl) ⟨Nat.le_of_ble_eq_true rfl, Nat.le_of_ble_eq_true rfl⟩ dX6_readCommand_85) (fun H locs hP hD hS => ?_)
        have hP := k_uP hP
        have hD := k_uD hD
        have hP : va_P D vwCl (md_W cs ma o_85) H := hP
        have hD : va_D A (md_W cs ma o_85) := hD
        subst hres
        exact kI_ret hE hS hP hD (nar_b (ro01 e_85 (MZ_spot hz hs))) rfl (Nat.le_of_ble_eq_true rfl) (Nat.le_of_ble_eq_true rfl) dX6_readCommand_88
    · skip
      rw [if_neg c_21_108] at hres
      by_cases c_21_112 : ((mv.2 0) ((mv.1 3).toNatClampNeg)) = 112
      · skip
        rw [if_pos c_21_112] at hres
        refine lv_lookup (tgt := 72) (off := 51) hx hb dX6_readCommand_21 (by decide) (by rw [c_21_112]; rfl) (by decide) ?_
        refine lv_aload_n hx hb dX6_readCommand_72 rfl (lv_at hl 1 rfl) ?_
        refine lv_aload_n hx hb dX6_readCommand_73 rfl (lv_at hl 2 rfl) ?_
        refine lv_iload_n hx hb dX6_readCommand_74 rfl (lv_at hl 0 rfl) ?_
        refine lv_bipush (v := 112) hx hb dX6_readCommand_75 (by decide) ?_
        refine lv_icmp_ne (tgt := 84) hx hb dX6_readCommand_77 (by decide) (fun c_77 => ?_) (fun c_77 => ?_)
        · skip
          have c_77 : ¬ (((mv.2 0) ((mv.1 3).toNatClampNeg)) = 112) := c_77
          rw [if_neg c_77] at hres
          refine lv_iconst (v := 0) hx hb dX6_readCommand_84 (by decide) ?_
          have hP : va_P D vwCl ((md_W cs ma (m_s mv 3 ((mv.1 3) + 1))) ++ []) H := k_nP hP
          have hD : va_D A ((md_W cs ma (m_s mv 3 ((mv.1 3) + 1))) ++ []) := k_nD hD
          have hc_85 := c_X6_readOrder l D cs ma (m_s mv 3 ((mv.1 3) + 1)) 0 (MZ_spot hz hs)
          obtain ⟨r_85, o_85, e_85⟩ : ∃ r9 o9, (k_X6_readOrder (m_s mv 3 ((mv.1 3) + 1)) 0) = (r9, o9) := ⟨_, _, rfl⟩
          rw [e_85] at hc_85 hres
          dsimp only at hc_85 hres
          refine kI_call (wc := (md_W cs ma (m_s mv 3 ((mv.1 3) + 1)))) (wr := []) (w1 := md_W cs ma o_85) (r := r_85) hE hP hD hS (k_rV (rest := []) (As := [.ref (ma 3), .int 0]) hE rfl (hc_85 H.size) (cwV 2 hts gX6_readCommand_X6_readOrder rfl rfl rfl (by decide +kernel) ⟨Nat.le_of_ble_eq_true rfl, Nat.le_of_ble_eq_true rfl⟩) hP hD hS (ci := 6) (q0 := 0) rfl rfl rfl hl rfl (Nat.le_of_ble_eq_true rfl) ⟨Nat.le_of_ble_eq_true rfl, Nat.le_of_ble_eq_true rfl⟩ dX6_readCommand_85) (fun H locs hP hD hS => ?_)
          have hP := k_uP hP
          have hD := k_uD hD
          have hP : va_P D vwCl (md_W cs ma o_85) H := hP
          have hD : va_D A (md_W cs ma o_85) := hD
          subst hres
          exact kI_ret hE hS hP hD (nar_b (ro01 e_85 (MZ_spot hz hs))) rfl (Nat.le_of_ble_eq_true rfl) (Nat.le_of_ble_eq_true rfl) dX6_readCommand_88
        · skip
          have c_77 : (((mv.2 0) ((mv.1 3).toNatClampNeg)) = 112) := c_77
          rw [if_pos c_77] at hres
          refine lv_iconst (v := 1) hx hb dX6_readCommand_80 (by decide) ?_
          refine lv_goto (tgt := 85) hx hb dX6_readCommand_81 (by decide) ?_
          have hP : va_P D vwCl ((md_W cs ma (m_s mv 3 ((mv.1 3) + 1))) ++ []) H := k_nP hP
          have hD : va_D A ((md_W cs ma (m_s mv 3 ((mv.1 3) + 1))) ++ []) := k_nD hD
          have hc_85 := c_X6_readOrder l D cs ma (m_s mv 3 ((mv.1 3) + 1)) 1 (MZ_spot hz hs)
          obtain ⟨r_85, o_85, e_85⟩ : ∃ r9 o9, (k_X6_readOrder (m_s mv 3 ((mv.1 3) + 1)) 1) = (r9, o9) := ⟨_, _, rfl⟩
          rw [e_85] at hc_85 hres
          dsimp only at hc_85 hres
          refine kI_call (wc := (md_W cs ma (m_s mv 3 ((mv.1 3) + 1)))) (wr := []) (w1 := md_W cs ma o_85) (r := r_85) hE hP hD hS (k_rV (rest := []) (As := [.ref (ma 3), .int 1]) hE rfl (hc_85 H.size) (cwV 2 hts gX6_readCommand_X6_readOrder rfl rfl rfl (by decide +kernel) ⟨Nat.le_of_ble_eq_true rfl, Nat.le_of_ble_eq_true rfl⟩) hP hD hS (ci := 6) (q0 := 0) rfl rfl rfl hl rfl (Nat.le_of_ble_eq_true rfl) ⟨Nat.le_of_ble_eq_true rfl, Nat.le_of_ble_eq_true rfl⟩ dX6_readCommand_85) (fun H locs hP hD hS => ?_)
          have hP := k_uP hP
          have hD := k_uD hD
          have hP : va_P D vwCl (md_W cs ma o_85) H := hP
          have hD : va_D A (md_W cs ma o_85) := hD
          subst hres
          exact kI_ret hE hS hP hD (nar_b (ro01 e_85 (MZ_spot hz hs))) rfl (Nat.le_of_ble_eq_true rfl) (Nat.le_of_ble_eq_true rfl) dX6_readCommand_88
      · skip
        rw [if_neg c_21_112] at hres
        by_cases c_21_116 : ((mv.2 0) ((mv.1 3).toNatClampNeg)) = 116
        · skip
          rw [if_pos c_21_116] at hres
          refine lv_lookup (tgt := 152) (off := 131) hx hb dX6_readCommand_21 (by decide) (by rw [c_21_116]; rfl) (by decide) ?_
          refine lv_aload_n hx hb dX6_readCommand_152 rfl (lv_at hl 1 rfl) ?_
          refine lv_iconst (v := 0) hx hb dX6_readCommand_153 (by decide) ?_
          refine lv_iconst (v := 2) hx hb dX6_readCommand_154 (by decide) ?_
          refine lv_iconst (v := 1) hx hb dX6_readCommand_155 (by decide) ?_
          refine lv_bipush (v := 99) hx hb dX6_readCommand_156 (by decide) ?_
          have hP : va_P D vwCl ((md_W cs ma (m_s mv 3 ((mv.1 3) + 1))) ++ []) H := k_nP hP
          have hD : va_D A ((md_W cs ma (m_s mv 3 ((mv.1 3) + 1))) ++ []) := k_nD hD
          have hc_158 := c_X6_figures l D cs ma (m_s mv 3 ((mv.1 3) + 1)) 0 2 1 99 (MZ_spot hz hs)
          obtain ⟨r_158, o_158, e_158⟩ : ∃ r9 o9, (k_X6_figures (m_s mv 3 ((mv.1 3) + 1)) 0 2 1 99) = (r9, o9) := ⟨_, _, rfl⟩
          rw [e_158] at hc_158 hres
          dsimp only at hc_158 hres
          refine kI_call (wc := (md_W cs ma (m_s mv 3 ((mv.1 3) + 1)))) (wr := []) (w1 := md_W cs ma o_158) (r := r_158) hE hP hD hS (k_rV (rest := []) (As := [.int 0, .int 2, .int 1, .int 99]) hE rfl (hc_158 H.size) (cwV 4 hts gX6_readCommand_X6_figures rfl rfl rfl (by decide +kernel) ⟨Nat.le_of_ble_eq_true rfl, Nat.le_of_ble_eq_true rfl⟩) hP hD hS (ci := 6) (q0 := 0) rfl rfl rfl hl rfl (Nat.le_of_ble_eq_true rfl) ⟨Nat.le_of_ble_eq_true rfl, Nat.le_of_ble_eq_true rfl⟩ dX6_readCommand_158) (fun H locs hP hD hS => ?_)
          have hP := k_uP hP
          have hD := k_uD hD
          have hP : va_P D vwCl (md_W cs ma o_158) H := hP
          have hD : va_D A (md_W cs ma o_158) := hD
          refine lv_istore_n (lv' := [(3, .int r_158), (2, .int ((mv.2 0) ((mv.1 3).toNatClampNeg))), (0, .ref (ma 0)), (1, .ref (ma 3))]) hx hb dX6_readCommand_161 rfl hl (by decide) rfl (fun ls hl => ?_)
          refine lv_iload_n hx hb dX6_readCommand_162 rfl (lv_at hl 0 rfl) ?_
          refine lv_iconst (v := (-1)) hx hb dX6_readCommand_163 (by decide) ?_
          refine lv_icmp_eq (tgt := 191) hx hb dX6_readCommand_164 (by decide) (fun c_164 => ?_) (fun c_164 => ?_)
          · skip
            have c_164 : (r_158 = (-1)) := c_164
            rw [if_pos c_164] at hres
            refine lv_iconst (v := 0) hx hb dX6_readCommand_191 (by decide) ?_
            subst hres
            exact kI_ret hE hS hP hD rfl rfl (Nat.le_of_ble_eq_true rfl) (Nat.le_of_ble_eq_true rfl) dX6_readCommand_192
          · skip
            have c_164 : ¬ (r_158 = (-1)) := c_164
            rw [if_neg c_164] at hres
            refine lv_aload_n hx hb dX6_readCommand_167 rfl (lv_at hl 2 rfl) ?_
            refine lv_aload_n hx hb dX6_readCommand_168 rfl (lv_at hl 3 rfl) ?_
            refine lv_iload_n hx hb dX6_readCommand_169 rfl (lv_at hl 0 rfl) ?_
            have hP := hP.sub (ws' := (st_W cs (ma 3) (o_158.2 2)) ++ (x_pick (md_W cs ma o_158) [0, 1, 2, 4, 5, 6])) [3, 0, 1, 2, 4, 5, 6] rfl
            have hD := hD.sub (ws' := (st_W cs (ma 3) (o_158.2 2)) ++ (x_pick (md_W cs ma o_158) [0, 1, 2, 4, 5, 6])) [3, 0, 1, 2, 4, 5, 6] (by decide) rfl
            have hc_170 := c_X6_ticksOn l D cs (ma 3) (o_158.2 2) r_158 (fig_E e_158 (MZ_spot hz hs)).2.2 (fig_A e_158 (MZ_spot hz hs) (by decide)).2
            obtain ⟨r_170, o_170, e_170⟩ : ∃ r9 o9, (k_X6_ticksOn (o_158.2 2) r_158) = (r9, o9) := ⟨_, _, rfl⟩
            rw [e_170] at hc_170 hres
            dsimp only at hc_170 hres
            refine kI_call (wc := (st_W cs (ma 3) (o_158.2 2))) (wr := (x_pick (md_W cs ma o_158) [0, 1, 2, 4, 5, 6])) (w1 := st_W cs (ma 3) o_170) (r := r_170) hE hP hD hS (k_rS (rest := [.ref (ma 0)]) (As := [.ref (ma 3), .int r_158]) hE rfl (hc_170 H.size) (va_cwS 2 hts gX6_readCommand_X6_ticksOn rfl rfl rfl (by decide +kernel) ⟨Nat.le_of_ble_eq_true rfl, Nat.le_of_ble_eq_true rfl⟩) hP hD hS rfl hl rfl (Nat.le_of_ble_eq_true rfl) ⟨Nat.le_of_ble_eq_true rfl, Nat.le_of_ble_eq_true rfl⟩ dX6_readCommand_170) (fun H locs hP hD hS => ?_)
            have hP := hP.sub (ws' := md_W cs ma (m_r o_158 2 o_170)) [1, 2, 3, 0, 4, 5, 6] rfl
            have hD := hD.sub (ws' := md_W cs ma (m_r o_158 2 o_170)) [1, 2, 3, 0, 4, 5, 6] (by decide) rfl
            have hP : va_P D vwCl (md_W cs ma (m_r o_158 2 o_170)) H := hP
            have hD : va_D A (md_W cs ma (m_r o_158 2 o_170)) := hD
            refine lv_if_lt (tgt := 180) hx hb dX6_readCommand_173 (by decide) (fun c_173 => ?_) (fun c_173 => ?_)
            · skip
              have c_173 : (r_170 < 0) := c_173
              rw [if_pos c_173] at hres
              refine lv_iconst (v := 0) hx hb dX6_readCommand_180 (by decide) ?_
              have hP : va_P D vwCl ((md_W cs ma (m_r o_158 2 o_170)) ++ []) H := k_nP hP
              have hD : va_D A ((md_W cs ma (m_r o_158 2 o_170)) ++ []) := k_nD hD
              have hc_181 := c_X6_done l D cs ma (m_r o_158 2 o_170) 0
              obtain ⟨r_181, o_181, e_181⟩ : ∃ r9 o9, (k_X6_done (m_r o_158 2 o_170) 0) = (r9, o9) := ⟨_, _, rfl⟩
              rw [e_181] at hc_181 hres
              dsimp only at hc_181 hres
              refine kI_call (wc := (md_W cs ma (m_r o_158 2 o_170))) (wr := []) (w1 := md_W cs ma o_181) (r := r_181) hE hP hD hS (k_rV (rest := []) (As := [.int 0]) hE rfl (hc_181 H.size) (cwV 1 hts gX6_readCommand_X6_done rfl rfl rfl (by decide +kernel) ⟨Nat.le_of_ble_eq_true rfl, Nat.le_of_ble_eq_true rfl⟩) hP hD hS (ci := 6) (q0 := 0) rfl rfl rfl hl rfl (Nat.le_of_ble_eq_true rfl) ⟨Nat.le_of_ble_eq_true rfl, Nat.le_of_ble_eq_true rfl⟩ dX6_readCommand_181) (fun H locs hP hD hS => ?_)
              have hP := k_uP hP
              have hD := k_uD hD
              have hP : va_P D vwCl (md_W cs ma o_181) H := hP
              have hD : va_D A (md_W cs ma o_181) := hD
              refine lv_if_eq (tgt := 191) hx hb dX6_readCommand_184 (by decide) (fun c_184 => ?_) (fun c_184 => ?_)
              · skip
                have c_184 : (r_181 = 0) := c_184
                rw [if_pos c_184] at hres
                refine lv_iconst (v := 0) hx hb dX6_readCommand_191 (by decide) ?_
                subst hres
                exact kI_ret hE hS hP hD rfl rfl (Nat.le_of_ble_eq_true rfl) (Nat.le_of_ble_eq_true rfl) dX6_readCommand_192
              · skip
                have c_184 : ¬ (r_181 = 0) := c_184
                rw [if_neg c_184] at hres
                refine lv_iconst (v := 1) hx hb dX6_readCommand_187 (by decide) ?_
                refine lv_goto (tgt := 192) hx hb dX6_readCommand_188 (by decide) ?_
                subst hres
                exact kI_ret hE hS hP hD rfl rfl (Nat.le_of_ble_eq_true rfl) (Nat.le_of_ble_eq_true rfl) dX6_readCommand_192
            · skip
              have c_173 : ¬ (r_170 < 0) := c_173
              rw [if_neg c_173] at hres
              refine lv_iconst (v := 1) hx hb dX6_readCommand_176 (by decide) ?_
              refine lv_goto (tgt := 181) hx hb dX6_readCommand_177 (by decide) ?_
              have hP : va_P D vwCl ((md_W cs ma (m_r o_158 2 o_170)) ++ []) H := k_nP hP
              have hD : va_D A ((md_W cs ma (m_r o_158 2 o_170)) ++ []) := k_nD hD
              have hc_181 := c_X6_done l D cs ma (m_r o_158 2 o_170) 1
              obtain ⟨r_181, o_181, e_181⟩ : ∃ r9 o9, (k_X6_done (m_r o_158 2 o_170) 1) = (r9, o9) := ⟨_, _, rfl⟩
              rw [e_181] at hc_181 hres
              dsimp only at hc_181 hres
              refine kI_call (wc := (md_W cs ma (m_r o_158 2 o_170))) (wr := []) (w1 := md_W cs ma o_181) (r := r_181) hE hP hD hS (k_rV (rest := []) (As := [.int 1]) hE rfl (hc_181 H.size) (cwV 1 hts gX6_readCommand_X6_done rfl rfl rfl (by decide +kernel) ⟨Nat.le_of_ble_eq_true rfl, Nat.le_of_ble_eq_true rfl⟩) hP hD hS (ci := 6) (q0 := 0) rfl rfl rfl hl rfl (Nat.le_of_ble_eq_true rfl) ⟨Nat.le_of_ble_eq_true rfl, Nat.le_of_ble_eq_true rfl⟩ dX6_readCommand_181) (fun H locs hP hD hS => ?_)
              have hP := k_uP hP
              have hD := k_uD hD
              have hP : va_P D vwCl (md_W cs ma o_181) H := hP
              have hD : va_D A (md_W cs ma o_181) := hD
              refine lv_if_eq (tgt := 191) hx hb dX6_readCommand_184 (by decide) (fun c_184 => ?_) (fun c_184 => ?_)
              · skip
                have c_184 : (r_181 = 0) := c_184
                rw [if_pos c_184] at hres
                refine lv_iconst (v := 0) hx hb dX6_readCommand_191 (by decide) ?_
                subst hres
                exact kI_ret hE hS hP hD rfl rfl (Nat.le_of_ble_eq_true rfl) (Nat.le_of_ble_eq_true rfl) dX6_readCommand_192
              · skip
                have c_184 : ¬ (r_181 = 0) := c_184
                rw [if_neg c_184] at hres
                refine lv_iconst (v := 1) hx hb dX6_readCommand_187 (by decide) ?_
                refine lv_goto (tgt := 192) hx hb dX6_readCommand_188 (by decide) ?_
                subst hres
                exact kI_ret hE hS hP hD rfl rfl (Nat.le_of_ble_eq_true rfl) (Nat.le_of_ble_eq_true rfl) dX6_readCommand_192
        · skip
          rw [if_neg c_21_116] at hres
          by_cases c_21_118 : ((mv.2 0) ((mv.1 3).toNatClampNeg)) = 118
          · skip
            rw [if_pos c_21_118] at hres
            refine lv_lookup (tgt := 89) (off := 68) hx hb dX6_readCommand_21 (by decide) (by rw [c_21_118]; rfl) (by decide) ?_
            refine lv_aload_n hx hb dX6_readCommand_89 rfl (lv_at hl 1 rfl) ?_
            refine lv_iconst (v := 0) hx hb dX6_readCommand_90 (by decide) ?_
            refine lv_iconst (v := 1) hx hb dX6_readCommand_91 (by decide) ?_
            refine lv_iconst (v := 0) hx hb dX6_readCommand_92 (by decide) ?_
            refine lv_iconst (v := 2) hx hb dX6_readCommand_93 (by decide) ?_
            have hP : va_P D vwCl ((md_W cs ma (m_s mv 3 ((mv.1 3) + 1))) ++ []) H := k_nP hP
            have hD : va_D A ((md_W cs ma (m_s mv 3 ((mv.1 3) + 1))) ++ []) := k_nD hD
            have hc_94 := c_X6_figures l D cs ma (m_s mv 3 ((mv.1 3) + 1)) 0 1 0 2 (MZ_spot hz hs)
            obtain ⟨r_94, o_94, e_94⟩ : ∃ r9 o9, (k_X6_figures (m_s mv 3 ((mv.1 3) + 1)) 0 1 0 2) = (r9, o9) := ⟨_, _, rfl⟩
            rw [e_94] at hc_94 hres
            dsimp only at hc_94 hres
            refine kI_call (wc := (md_W cs ma (m_s mv 3 ((mv.1 3) + 1)))) (wr := []) (w1 := md_W cs ma o_94) (r := r_94) hE hP hD hS (k_rV (rest := []) (As := [.int 0, .int 1, .int 0, .int 2]) hE rfl (hc_94 H.size) (cwV 4 hts gX6_readCommand_X6_figures rfl rfl rfl (by decide +kernel) ⟨Nat.le_of_ble_eq_true rfl, Nat.le_of_ble_eq_true rfl⟩) hP hD hS (ci := 6) (q0 := 0) rfl rfl rfl hl rfl (Nat.le_of_ble_eq_true rfl) ⟨Nat.le_of_ble_eq_true rfl, Nat.le_of_ble_eq_true rfl⟩ dX6_readCommand_94) (fun H locs hP hD hS => ?_)
            have hP := k_uP hP
            have hD := k_uD hD
            have hP : va_P D vwCl (md_W cs ma o_94) H := hP
            have hD : va_D A (md_W cs ma o_94) := hD
            refine lv_istore_n (lv' := [(3, .int r_94), (2, .int ((mv.2 0) ((mv.1 3).toNatClampNeg))), (0, .ref (ma 0)), (1, .ref (ma 3))]) hx hb dX6_readCommand_97 rfl hl (by decide) rfl (fun ls hl => ?_)
            refine lv_aload_n hx hb dX6_readCommand_98 rfl (lv_at hl 2 rfl) ?_
            refine lv_iload_n hx hb dX6_readCommand_99 rfl (lv_at hl 0 rfl) ?_
            refine lv_iconst (v := 2) hx hb dX6_readCommand_100 (by decide) ?_
            refine lv_iconst (v := 0) hx hb dX6_readCommand_101 (by decide) ?_
            refine lv_bipush (v := 60) hx hb dX6_readCommand_102 (by decide) ?_
            have hP : va_P D vwCl ((md_W cs ma o_94) ++ []) H := k_nP hP
            have hD : va_D A ((md_W cs ma o_94) ++ []) := k_nD hD
            have hc_104 := c_X6_figures l D cs ma o_94 r_94 2 0 60 (fig_E e_94 (MZ_spot hz hs))
            obtain ⟨r_104, o_104, e_104⟩ : ∃ r9 o9, (k_X6_figures o_94 r_94 2 0 60) = (r9, o9) := ⟨_, _, rfl⟩
            rw [e_104] at hc_104 hres
            dsimp only at hc_104 hres
            refine kI_call (wc := (md_W cs ma o_94)) (wr := []) (w1 := md_W cs ma o_104) (r := r_104) hE hP hD hS (k_rV (rest := []) (As := [.int r_94, .int 2, .int 0, .int 60]) hE rfl (hc_104 H.size) (cwV 4 hts gX6_readCommand_X6_figures rfl rfl rfl (by decide +kernel) ⟨Nat.le_of_ble_eq_true rfl, Nat.le_of_ble_eq_true rfl⟩) hP hD hS (ci := 6) (q0 := 0) rfl rfl rfl hl rfl (Nat.le_of_ble_eq_true rfl) ⟨Nat.le_of_ble_eq_true rfl, Nat.le_of_ble_eq_true rfl⟩ dX6_readCommand_104) (fun H locs hP hD hS => ?_)
            have hP := k_uP hP
            have hD := k_uD hD
            have hP : va_P D vwCl (md_W cs ma o_104) H := hP
            have hD : va_D A (md_W cs ma o_104) := hD
            refine lv_istore (lv' := [(4, .int r_104), (3, .int r_94), (2, .int ((mv.2 0) ((mv.1 3).toNatClampNeg))), (0, .ref (ma 0)), (1, .ref (ma 3))]) hx hb dX6_readCommand_107 hl (by decide) rfl (fun ls hl => ?_)
            refine lv_iload hx hb dX6_readCommand_109 (lv_at hl 0 rfl) ?_
            refine lv_iconst (v := (-1)) hx hb dX6_readCommand_111 (by decide) ?_
            refine lv_icmp_eq (tgt := 150) hx hb dX6_readCommand_112 (by decide) (fun c_112 => ?_) (fun c_112 => ?_)
            · skip
              have c_112 : (r_104 = (-1)) := c_112
              rw [if_pos c_112] at hres
              refine lv_iconst (v := 0) hx hb dX6_readCommand_150 (by decide) ?_
              subst hres
              exact kI_ret hE hS hP hD rfl rfl (Nat.le_of_ble_eq_true rfl) (Nat.le_of_ble_eq_true rfl) dX6_readCommand_151
            · skip
              have c_112 : ¬ (r_104 = (-1)) := c_112
              rw [if_neg c_112] at hres
              refine lv_aload_n hx hb dX6_readCommand_115 rfl (lv_at hl 3 rfl) ?_
              refine lv_iload_n hx hb dX6_readCommand_116 rfl (lv_at hl 1 rfl) ?_
              refine lv_iload hx hb dX6_readCommand_117 (lv_at hl 0 rfl) ?_
              have hP : va_P D vwCl ([] ++ (md_W cs ma o_104)) H := hP
              have hD : va_D A ([] ++ (md_W cs ma o_104)) := hD
              have hc_119 := c_X6_isSetting l D cs r_94 r_104
              refine kI_call (wc := []) (wr := (md_W cs ma o_104)) (w1 := []) (r := (k_X6_isSetting r_94 r_104)) hE hP hD hS (k_rS (rest := [.ref (ma 0)]) (As := [.int r_94, .int r_104]) hE rfl (hc_119 H.size) (va_cwS 2 hts gX6_readCommand_X6_isSetting rfl rfl rfl (by decide +kernel) ⟨Nat.le_of_ble_eq_true rfl, Nat.le_of_ble_eq_true rfl⟩) hP hD hS rfl hl rfl (Nat.le_of_ble_eq_true rfl) ⟨Nat.le_of_ble_eq_true rfl, Nat.le_of_ble_eq_true rfl⟩ dX6_readCommand_119) (fun H locs hP hD hS => ?_)
              have hP : va_P D vwCl (md_W cs ma o_104) H := hP
              have hD : va_D A (md_W cs ma o_104) := hD
              refine lv_if_eq (tgt := 139) hx hb dX6_readCommand_122 (by decide) (fun c_122 => ?_) (fun c_122 => ?_)
              · skip
                have c_122 : ((k_X6_isSetting r_94 r_104) = 0) := c_122
                rw [if_pos c_122] at hres
                refine lv_iconst (v := 0) hx hb dX6_readCommand_139 (by decide) ?_
                have hP : va_P D vwCl ((md_W cs ma o_104) ++ []) H := k_nP hP
                have hD : va_D A ((md_W cs ma o_104) ++ []) := k_nD hD
                have hc_140 := c_X6_done l D cs ma o_104 0
                obtain ⟨r_140, o_140, e_140⟩ : ∃ r9 o9, (k_X6_done o_104 0) = (r9, o9) := ⟨_, _, rfl⟩
                rw [e_140] at hc_140 hres
                dsimp only at hc_140 hres
                refine kI_call (wc := (md_W cs ma o_104)) (wr := []) (w1 := md_W cs ma o_140) (r := r_140) hE hP hD hS (k_rV (rest := []) (As := [.int 0]) hE rfl (hc_140 H.size) (cwV 1 hts gX6_readCommand_X6_done rfl rfl rfl (by decide +kernel) ⟨Nat.le_of_ble_eq_true rfl, Nat.le_of_ble_eq_true rfl⟩) hP hD hS (ci := 6) (q0 := 0) rfl rfl rfl hl rfl (Nat.le_of_ble_eq_true rfl) ⟨Nat.le_of_ble_eq_true rfl, Nat.le_of_ble_eq_true rfl⟩ dX6_readCommand_140) (fun H locs hP hD hS => ?_)
                have hP := k_uP hP
                have hD := k_uD hD
                have hP : va_P D vwCl (md_W cs ma o_140) H := hP
                have hD : va_D A (md_W cs ma o_140) := hD
                refine lv_if_eq (tgt := 150) hx hb dX6_readCommand_143 (by decide) (fun c_143 => ?_) (fun c_143 => ?_)
                · skip
                  have c_143 : (r_140 = 0) := c_143
                  rw [if_pos c_143] at hres
                  refine lv_iconst (v := 0) hx hb dX6_readCommand_150 (by decide) ?_
                  subst hres
                  exact kI_ret hE hS hP hD rfl rfl (Nat.le_of_ble_eq_true rfl) (Nat.le_of_ble_eq_true rfl) dX6_readCommand_151
                · skip
                  have c_143 : ¬ (r_140 = 0) := c_143
                  rw [if_neg c_143] at hres
                  refine lv_iconst (v := 1) hx hb dX6_readCommand_146 (by decide) ?_
                  refine lv_goto (tgt := 151) hx hb dX6_readCommand_147 (by decide) ?_
                  subst hres
                  exact kI_ret hE hS hP hD rfl rfl (Nat.le_of_ble_eq_true rfl) (Nat.le_of_ble_eq_true rfl) dX6_readCommand_151
              · skip
                have c_122 : ¬ ((k_X6_isSetting r_94 r_104) = 0) := c_122
                rw [if_neg c_122] at hres
                refine lv_aload_n hx hb dX6_readCommand_125 rfl (lv_at hl 4 rfl) ?_
                refine lv_iload_n hx hb dX6_readCommand_126 rfl (lv_at hl 1 rfl) ?_
                refine lv_iload hx hb dX6_readCommand_127 (lv_at hl 0 rfl) ?_
                have hP := hP.sub (ws' := (st_W cs (ma 3) (o_104.2 2)) ++ (x_pick (md_W cs ma o_104) [0, 1, 2, 4, 5, 6])) [3, 0, 1, 2, 4, 5, 6] rfl
                have hD := hD.sub (ws' := (st_W cs (ma 3) (o_104.2 2)) ++ (x_pick (md_W cs ma o_104) [0, 1, 2, 4, 5, 6])) [3, 0, 1, 2, 4, 5, 6] (by decide) rfl
                have hc_129 := c_X6_change l D cs (ma 3) (o_104.2 2) r_94 r_104 (set_w2 c_122)
                obtain ⟨r_129, o_129, e_129⟩ : ∃ r9 o9, (k_X6_change (o_104.2 2) r_94 r_104) = (r9, o9) := ⟨_, _, rfl⟩
                rw [e_129] at hc_129 hres
                dsimp only at hc_129 hres
                refine kI_call (wc := (st_W cs (ma 3) (o_104.2 2))) (wr := (x_pick (md_W cs ma o_104) [0, 1, 2, 4, 5, 6])) (w1 := st_W cs (ma 3) o_129) (r := r_129) hE hP hD hS (k_rS (rest := [.ref (ma 0)]) (As := [.ref (ma 3), .int r_94, .int r_104]) hE rfl (hc_129 H.size) (va_cwS 3 hts gX6_readCommand_X6_change rfl rfl rfl (by decide +kernel) ⟨Nat.le_of_ble_eq_true rfl, Nat.le_of_ble_eq_true rfl⟩) hP hD hS rfl hl rfl (Nat.le_of_ble_eq_true rfl) ⟨Nat.le_of_ble_eq_true rfl, Nat.le_of_ble_eq_true rfl⟩ dX6_readCommand_129) (fun H locs hP hD hS => ?_)
                have hP := hP.sub (ws' := md_W cs ma (m_r o_104 2 o_129)) [1, 2, 3, 0, 4, 5, 6] rfl
                have hD := hD.sub (ws' := md_W cs ma (m_r o_104 2 o_129)) [1, 2, 3, 0, 4, 5, 6] (by decide) rfl
                have hP : va_P D vwCl (md_W cs ma (m_r o_104 2 o_129)) H := hP
                have hD : va_D A (md_W cs ma (m_r o_104 2 o_129)) := hD
                refine lv_if_lt (tgt := 139) hx hb dX6_readCommand_132 (by decide) (fun c_132 => ?_) (fun c_132 => ?_)
                · skip
                  have c_132 : (r_129 < 0) := c_132
                  rw [if_pos c_132] at hres
                  refine lv_iconst (v := 0) hx hb dX6_readCommand_139 (by decide) ?_
                  have hP : va_P D vwCl ((md_W cs ma (m_r o_104 2 o_129)) ++ []) H := k_nP hP
                  have hD : va_D A ((md_W cs ma (m_r o_104 2 o_129)) ++ []) := k_nD hD
                  have hc_140 := c_X6_done l D cs ma (m_r o_104 2 o_129) 0
                  obtain ⟨r_140, o_140, e_140⟩ : ∃ r9 o9, (k_X6_done (m_r o_104 2 o_129) 0) = (r9, o9) := ⟨_, _, rfl⟩
                  rw [e_140] at hc_140 hres
                  dsimp only at hc_140 hres
                  refine kI_call (wc := (md_W cs ma (m_r o_104 2 o_129))) (wr := []) (w1 := md_W cs ma o_140) (r := r_140) hE hP hD hS (k_rV (rest := []) (As := [.int 0]) hE rfl (hc_140 H.size) (cwV 1 hts gX6_readCommand_X6_done rfl rfl rfl (by decide +kernel) ⟨Nat.le_of_ble_eq_true rfl, Nat.le_of_ble_eq_true rfl⟩) hP hD hS (ci := 6) (q0 := 0) rfl rfl rfl hl rfl (Nat.le_of_ble_eq_true rfl) ⟨Nat.le_of_ble_eq_true rfl, Nat.le_of_ble_eq_true rfl⟩ dX6_readCommand_140) (fun H locs hP hD hS => ?_)
                  have hP := k_uP hP
                  have hD := k_uD hD
                  have hP : va_P D vwCl (md_W cs ma o_140) H := hP
                  have hD : va_D A (md_W cs ma o_140) := hD
                  refine lv_if_eq (tgt := 150) hx hb dX6_readCommand_143 (by decide) (fun c_143 => ?_) (fun c_143 => ?_)
                  · skip
                    have c_143 : (r_140 = 0) := c_143
                    rw [if_pos c_143] at hres
                    refine lv_iconst (v := 0) hx hb dX6_readCommand_150 (by decide) ?_
                    subst hres
                    exact kI_ret hE hS hP hD rfl rfl (Nat.le_of_ble_eq_true rfl) (Nat.le_of_ble_eq_true rfl) dX6_readCommand_151
                  · skip
                    have c_143 : ¬ (r_140 = 0) := c_143
                    rw [if_neg c_143] at hres
                    refine lv_iconst (v := 1) hx hb dX6_readCommand_146 (by decide) ?_
                    refine lv_goto (tgt := 151) hx hb dX6_readCommand_147 (by decide) ?_
                    subst hres
                    exact kI_ret hE hS hP hD rfl rfl (Nat.le_of_ble_eq_true rfl) (Nat.le_of_ble_eq_true rfl) dX6_readCommand_151
                · skip
                  have c_132 : ¬ (r_129 < 0) := c_132
                  rw [if_neg c_132] at hres
                  refine lv_iconst (v := 1) hx hb dX6_readCommand_135 (by decide) ?_
                  refine lv_goto (tgt := 140) hx hb dX6_readCommand_136 (by decide) ?_
                  have hP : va_P D vwCl ((md_W cs ma (m_r o_104 2 o_129)) ++ []) H := k_nP hP
                  have hD : va_D A ((md_W cs ma (m_r o_104 2 o_129)) ++ []) := k_nD hD
                  have hc_140 := c_X6_done l D cs ma (m_r o_104 2 o_129) 1
                  obtain ⟨r_140, o_140, e_140⟩ : ∃ r9 o9, (k_X6_done (m_r o_104 2 o_129) 1) = (r9, o9) := ⟨_, _, rfl⟩
                  rw [e_140] at hc_140 hres
                  dsimp only at hc_140 hres
                  refine kI_call (wc := (md_W cs ma (m_r o_104 2 o_129))) (wr := []) (w1 := md_W cs ma o_140) (r := r_140) hE hP hD hS (k_rV (rest := []) (As := [.int 1]) hE rfl (hc_140 H.size) (cwV 1 hts gX6_readCommand_X6_done rfl rfl rfl (by decide +kernel) ⟨Nat.le_of_ble_eq_true rfl, Nat.le_of_ble_eq_true rfl⟩) hP hD hS (ci := 6) (q0 := 0) rfl rfl rfl hl rfl (Nat.le_of_ble_eq_true rfl) ⟨Nat.le_of_ble_eq_true rfl, Nat.le_of_ble_eq_true rfl⟩ dX6_readCommand_140) (fun H locs hP hD hS => ?_)
                  have hP := k_uP hP
                  have hD := k_uD hD
                  have hP : va_P D vwCl (md_W cs ma o_140) H := hP
                  have hD : va_D A (md_W cs ma o_140) := hD
                  refine lv_if_eq (tgt := 150) hx hb dX6_readCommand_143 (by decide) (fun c_143 => ?_) (fun c_143 => ?_)
                  · skip
                    have c_143 : (r_140 = 0) := c_143
                    rw [if_pos c_143] at hres
                    refine lv_iconst (v := 0) hx hb dX6_readCommand_150 (by decide) ?_
                    subst hres
                    exact kI_ret hE hS hP hD rfl rfl (Nat.le_of_ble_eq_true rfl) (Nat.le_of_ble_eq_true rfl) dX6_readCommand_151
                  · skip
                    have c_143 : ¬ (r_140 = 0) := c_143
                    rw [if_neg c_143] at hres
                    refine lv_iconst (v := 1) hx hb dX6_readCommand_146 (by decide) ?_
                    refine lv_goto (tgt := 151) hx hb dX6_readCommand_147 (by decide) ?_
                    subst hres
                    exact kI_ret hE hS hP hD rfl rfl (Nat.le_of_ble_eq_true rfl) (Nat.le_of_ble_eq_true rfl) dX6_readCommand_151
          · skip
            rw [if_neg c_21_118] at hres
            refine lv_lookup (tgt := 242) (off := 221) hx hb dX6_readCommand_21 (by decide) ((lv_osw c_21_99 rfl).trans ((lv_osw c_21_108 rfl).trans ((lv_osw c_21_112 rfl).trans ((lv_osw c_21_116 rfl).trans ((lv_osw c_21_118 rfl).trans rfl))))) (by decide) ?_
            refine lv_aload_n hx hb dX6_readCommand_242 rfl (lv_at hl 1 rfl) ?_
            refine lv_dup hx hb dX6_readCommand_243 rfl ?_
            refine va_get (D := D) (ci := 6) (v := .int ((mv.1 3) + 1)) (C := RX6) (T := TX6) (N := 11) hx hb hts hinX6 hown hK hP 0 rfl rfl 9 (by decide) lk_1 (fun _ h9 => h9) rfl dX6_readCommand_244 ?_
            refine lv_iconst (v := 1) hx hb dX6_readCommand_247 (by decide) ?_
            refine lv_isub hx hb dX6_readCommand_248 ?_
            refine va_put (D := D) (ci := 6) (v := .int (((mv.1 3) + 1) - 1)) (ty := .int) (C := RX6) (T := TX6) (N := 11) hx hb hts hinX6 tyX6 tyX6_ok nmX6 hown hK hP hD hS 0 rfl rfl 9 (by decide) lk_1 (fun _ h9 => h9) rfl (by decide +kernel) rfl rfl (Nat.le_of_ble_eq_true rfl) dX6_readCommand_249 (fun H locs hP hD hS => ?_)
            have hP : va_P D vwCl (md_W cs ma (m_s mv 3 (((mv.1 3) + 1) - 1))) H := hP
            have hD : va_D A (md_W cs ma (m_s mv 3 (((mv.1 3) + 1) - 1))) := hD
            refine lv_iconst (v := 0) hx hb dX6_readCommand_252 (by decide) ?_
            subst hres
            exact kI_ret hE hS hP hD rfl rfl (Nat.le_of_ble_eq_true rfl) (Nat.le_of_ble_eq_true rfl) dX6_readCommand_253
set_option maxHeartbeats 4000000 in
set_option maxRecDepth 100000 in
theorem c_X6_readText (l : Launch) (D : va_G) (cs : Nat → ClassId) (ma : Nat → Nat) (mv : MV) (hsz : 0 ≤ (mv.1 1).toInt ∧ (mv.1 1).toInt ≤ 120) : kI l yX6_readText wsX6_readText { frames := 8, cells := 0, slots := 0, locals := 183 } 0 0 D cs [.ref (ma 0), .ref (ma 3)] (md_W cs ma mv) (k_X6_readText mv).1 (md_W cs ma ((k_X6_readText mv).2)) := by
  generalize hres : k_X6_readText mv = res
  refine kI_of (cc := cX6_readText) (maxL := 2) (ret := (some .int)) (by decide) rfl (Nat.le_of_ble_eq_true rfl) ?_
  intro p e s m below meth c A ls H locs hE hS hP hD hl
  obtain ⟨hx, hb, hr, hlocks, hml, hown, hts, hK, hA, hG, hnm⟩ := id hE
  have hown : s.vm.findClass RX6 = some m.cls := hown
  have hl : lv_has ls 2 [(0, .ref (ma 0)), (1, .ref (ma 3))] := hl
  have hinX6 : ∀ w ∈ wsX60, w ∈ wsX6_readText := by decide +kernel
  have lk_0 := hts (.fieldLink RX6 111 "OrganPegsModel" "spot" "I") (by decide +kernel)
  have lk_1 := hts (.fieldLink RX6 104 "OrganPegsModel" "size" "I") (by decide +kernel)
  have lk_2 := hts (.fieldLink RX6 114 "OrganPegsModel" "out" "I") (by decide +kernel)
  have lk_3 := hts (.fieldLink RX6 7 "OrganPegsModel" "text" "[I") (by decide +kernel)
  have L39 : ∀ (n : Nat) (mw : MV)  (hz : MZ mw) (hq : 120 - (mw.1 3).toInt < n) (H : Heap) (locs : List Loc) (ls : Array Slot), va_S A s.heap H locs → va_P D vwCl (md_W cs ma mw) H → va_D A (md_W cs ma mw) → lv_has ls 2 [(0, .ref (ma 0)), (1, .ref (ma 3))] → k_X6_readText_L39 mv n mw = res → W p l e { frames := 8, cells := 0, slots := 0, locals := 183 } s m ([.ref (ma 0), .ref (ma 3)]).toArray below meth c H locs 0 0 (MQ below (va_Qi (fun (r' : Int32) (_ : Unit) => r' = res.1) (kB D (fun _ => md_W cs ma res.2) A) A) ([.ref (ma 0), .ref (ma 3)]).toArray s 0 0 A) (F0 m 39 ls []) := by
    intro n
    induction n with
    | zero =>
      intro mw hz hq H locs ls hS hP hD hl hres
      exact absurd hq (by obtain ⟨-, h2, -⟩ := hz; omega)
    | succ n ih =>
      intro mw hz hq H locs ls hS hP hD hl hres
      unfold k_X6_readText_L39 at hres
      refine lv_aload_n hx hb dX6_readText_39 rfl (lv_at hl 0 rfl) ?_
      refine va_get (D := D) (ci := 6) (v := .int (mw.1 3)) (C := RX6) (T := TX6) (N := 11) hx hb hts hinX6 hown hK hP 0 rfl rfl 9 (by decide) lk_0 (fun _ h9 => h9) rfl dX6_readText_40 ?_
      refine lv_aload_n hx hb dX6_readText_43 rfl (lv_at hl 0 rfl) ?_
      refine va_get (D := D) (ci := 6) (v := .int (mw.1 1)) (C := RX6) (T := TX6) (N := 11) hx hb hts hinX6 hown hK hP 0 rfl rfl 2 (by decide) lk_1 (fun _ h9 => h9) rfl dX6_readText_44 ?_
      refine lv_icmp_ge (tgt := 63) hx hb dX6_readText_47 (by decide) (fun c_47 => ?_) (fun c_47 => ?_)
      · skip
        have c_47 : ((mw.1 1) ≤ (mw.1 3)) := c_47
        rw [if_pos c_47] at hres
        refine lv_iconst (v := (-1)) hx hb dX6_readText_63 (by decide) ?_
        subst hres
        exact kI_ret hE hS hP hD rfl rfl (Nat.le_of_ble_eq_true rfl) (Nat.le_of_ble_eq_true rfl) dX6_readText_64
      · skip
        have c_47 : ¬ ((mw.1 1) ≤ (mw.1 3)) := c_47
        rw [if_neg c_47] at hres
        refine lv_aload_n hx hb dX6_readText_50 rfl (lv_at hl 0 rfl) ?_
        refine lv_aload_n hx hb dX6_readText_51 rfl (lv_at hl 1 rfl) ?_
        have hP : va_P D vwCl ((md_W cs ma mw) ++ []) H := k_nP hP
        have hD : va_D A ((md_W cs ma mw) ++ []) := k_nD hD
        have hc_52 := c_X6_readCommand l D cs ma mw  hz c_47
        obtain ⟨r_52, o_52, e_52⟩ : ∃ r9 o9, (k_X6_readCommand mw) = (r9, o9) := ⟨_, _, rfl⟩
        rw [e_52] at hc_52 hres
        dsimp only at hc_52 hres
        refine kI_call (wc := (md_W cs ma mw)) (wr := []) (w1 := md_W cs ma o_52) (r := r_52) hE hP hD hS (k_rV (rest := []) (As := [.ref (ma 3)]) hE rfl (hc_52 H.size) (cwV 1 hts gX6_readText_X6_readCommand rfl rfl rfl (by decide +kernel) ⟨Nat.le_of_ble_eq_true rfl, Nat.le_of_ble_eq_true rfl⟩) hP hD hS (ci := 6) (q0 := 0) rfl rfl rfl hl rfl (Nat.le_of_ble_eq_true rfl) ⟨Nat.le_of_ble_eq_true rfl, Nat.le_of_ble_eq_true rfl⟩ dX6_readText_52) (fun H locs hP hD hS => ?_)
        have hP := k_uP hP
        have hD := k_uD hD
        have hP : va_P D vwCl (md_W cs ma o_52) H := hP
        have hD : va_D A (md_W cs ma o_52) := hD
        refine lv_if_ne (tgt := 39) hx hb dX6_readText_55 (by decide) (fun c_55 => ?_) (fun c_55 => ?_)
        · skip
          have c_55 : ¬ (r_52 = 0) := c_55
          rw [if_neg c_55] at hres
          exact ih o_52 ((RR_cmd e_52 hz c_47 c_55).1) (by have g4 := (RR_cmd e_52 hz c_47 c_55).2.2.2; have ei := i_inc (i := mw.1 3) (by obtain ⟨-, h2, -⟩ := hz; omega); have g5 : (mw.1 3 + 1).toInt ≤ (o_52.1 3).toInt := g4; omega) _ _ _ hS hP hD (lv_sub hl [0, 1] rfl) hres
        · skip
          have c_55 : (r_52 = 0) := c_55
          rw [if_pos c_55] at hres
          refine lv_aload_n hx hb dX6_readText_58 rfl (lv_at hl 0 rfl) ?_
          refine va_get (D := D) (ci := 6) (v := .int (o_52.1 3)) (C := RX6) (T := TX6) (N := 11) hx hb hts hinX6 hown hK hP 0 rfl rfl 9 (by decide) lk_0 (fun _ h9 => h9) rfl dX6_readText_59 ?_
          subst hres
          exact kI_ret hE hS hP hD rfl rfl (Nat.le_of_ble_eq_true rfl) (Nat.le_of_ble_eq_true rfl) dX6_readText_62
  unfold k_X6_readText at hres
  refine lv_aload_n hx hb dX6_readText_0 rfl (lv_at hl 1 rfl) ?_
  have hP := hP.sub (ws' := (st_W cs (ma 3) (mv.2 2)) ++ (x_pick (md_W cs ma mv) [0, 1, 2, 4, 5, 6])) [3, 0, 1, 2, 4, 5, 6] rfl
  have hD := hD.sub (ws' := (st_W cs (ma 3) (mv.2 2)) ++ (x_pick (md_W cs ma mv) [0, 1, 2, 4, 5, 6])) [3, 0, 1, 2, 4, 5, 6] (by decide) rfl
  have hc_1 := c_X6_clear l D cs (ma 3) (mv.2 2)
  refine kV_call (wc := (st_W cs (ma 3) (mv.2 2))) (wr := (x_pick (md_W cs ma mv) [0, 1, 2, 4, 5, 6])) (w1 := fun _ => st_W cs (ma 3) (k_X6_clear (mv.2 2))) hE hP hD hS (k_rS (rest := []) (As := [.ref (ma 3)]) hE rfl (hc_1 H.size) (va_cwS 1 hts gX6_readText_X6_clear rfl rfl rfl (by decide +kernel) ⟨Nat.le_of_ble_eq_true rfl, Nat.le_of_ble_eq_true rfl⟩) hP hD hS rfl hl rfl (Nat.le_of_ble_eq_true rfl) ⟨Nat.le_of_ble_eq_true rfl, Nat.le_of_ble_eq_true rfl⟩ dX6_readText_1) (fun _ H locs _ hP hD hS => ?_)
  have hP := hP.sub (ws' := md_W cs ma (m_r mv 2 (k_X6_clear (mv.2 2)))) [1, 2, 3, 0, 4, 5, 6] rfl
  have hD := hD.sub (ws' := md_W cs ma (m_r mv 2 (k_X6_clear (mv.2 2)))) [1, 2, 3, 0, 4, 5, 6] (by decide) rfl
  have hP : va_P D vwCl (md_W cs ma (m_r mv 2 (k_X6_clear (mv.2 2)))) H := hP
  have hD : va_D A (md_W cs ma (m_r mv 2 (k_X6_clear (mv.2 2)))) := hD
  refine lv_aload_n hx hb dX6_readText_4 rfl (lv_at hl 0 rfl) ?_
  refine lv_iconst (v := 0) hx hb dX6_readText_5 (by decide) ?_
  refine va_put (D := D) (ci := 6) (v := .int 0) (ty := .int) (C := RX6) (T := TX6) (N := 11) hx hb hts hinX6 tyX6 tyX6_ok nmX6 hown hK hP hD hS 0 rfl rfl 10 (by decide) lk_2 (fun _ h9 => h9) rfl (by decide +kernel) rfl rfl (Nat.le_of_ble_eq_true rfl) dX6_readText_6 (fun H locs hP hD hS => ?_)
  have hP : va_P D vwCl (md_W cs ma (m_r (m_s mv 4 0) 2 (k_X6_clear (mv.2 2)))) H := hP
  have hD : va_D A (md_W cs ma (m_r (m_s mv 4 0) 2 (k_X6_clear (mv.2 2)))) := hD
  refine lv_aload_n hx hb dX6_readText_9 rfl (lv_at hl 0 rfl) ?_
  refine lv_iconst (v := 0) hx hb dX6_readText_10 (by decide) ?_
  refine va_put (D := D) (ci := 6) (v := .int 0) (ty := .int) (C := RX6) (T := TX6) (N := 11) hx hb hts hinX6 tyX6 tyX6_ok nmX6 hown hK hP hD hS 0 rfl rfl 9 (by decide) lk_0 (fun _ h9 => h9) rfl (by decide +kernel) rfl rfl (Nat.le_of_ble_eq_true rfl) dX6_readText_11 (fun H locs hP hD hS => ?_)
  have hP : va_P D vwCl (md_W cs ma (m_r (m_s (m_s mv 3 0) 4 0) 2 (k_X6_clear (mv.2 2)))) H := hP
  have hD : va_D A (md_W cs ma (m_r (m_s (m_s mv 3 0) 4 0) 2 (k_X6_clear (mv.2 2)))) := hD
  refine lv_aload_n hx hb dX6_readText_14 rfl (lv_at hl 0 rfl) ?_
  refine va_get (D := D) (ci := 6) (v := .int (mv.1 1)) (C := RX6) (T := TX6) (N := 11) hx hb hts hinX6 hown hK hP 0 rfl rfl 2 (by decide) lk_1 (fun _ h9 => h9) rfl dX6_readText_15 ?_
  refine lv_if_eq (tgt := 32) hx hb dX6_readText_18 (by decide) (fun c_18 => ?_) (fun c_18 => ?_)
  · skip
    have c_18 : ((mv.1 1) = 0) := c_18
    rw [if_pos c_18] at hres
    refine lv_iconst (v := 0) hx hb dX6_readText_32 (by decide) ?_
    subst hres
    exact kI_ret hE hS hP hD rfl rfl (Nat.le_of_ble_eq_true rfl) (Nat.le_of_ble_eq_true rfl) dX6_readText_33
  · skip
    have c_18 : ¬ ((mv.1 1) = 0) := c_18
    rw [if_neg c_18] at hres
    refine lv_aload_n hx hb dX6_readText_21 rfl (lv_at hl 0 rfl) ?_
    refine va_get (D := D) (ci := 6) (v := .ref (ma 1)) (C := RX6) (T := TX6) (N := 11) hx hb hts hinX6 hown hK hP 0 rfl rfl 1 (by decide) lk_3 (fun _ h9 => h9) rfl dX6_readText_22 ?_
    refine lv_iconst (v := 0) hx hb dX6_readText_25 (by decide) ?_
    refine k_iald hx hb hK hP 1 0 (v := ((mv.2 0) 0)) rfl rfl (k_inl rfl) rfl dX6_readText_26 ?_
    refine lv_bipush (v := 79) hx hb dX6_readText_27 (by decide) ?_
    refine lv_icmp_eq (tgt := 34) hx hb dX6_readText_29 (by decide) (fun c_29 => ?_) (fun c_29 => ?_)
    · skip
      have c_29 : (((mv.2 0) 0) = 79) := c_29
      rw [if_pos c_29] at hres
      refine lv_aload_n hx hb dX6_readText_34 rfl (lv_at hl 0 rfl) ?_
      refine lv_iconst (v := 1) hx hb dX6_readText_35 (by decide) ?_
      refine va_put (D := D) (ci := 6) (v := .int 1) (ty := .int) (C := RX6) (T := TX6) (N := 11) hx hb hts hinX6 tyX6 tyX6_ok nmX6 hown hK hP hD hS 0 rfl rfl 9 (by decide) lk_0 (fun _ h9 => h9) rfl (by decide +kernel) rfl rfl (Nat.le_of_ble_eq_true rfl) dX6_readText_36 (fun H locs hP hD hS => ?_)
      have hP : va_P D vwCl (md_W cs ma (m_r (m_s (m_s mv 3 1) 4 0) 2 (k_X6_clear (mv.2 2)))) H := hP
      have hD : va_D A (md_W cs ma (m_r (m_s (m_s mv 3 1) 4 0) 2 (k_X6_clear (mv.2 2)))) := hD
      exact L39 121 (m_r (m_s (m_s mv 3 1) 4 0) 2 (k_X6_clear (mv.2 2))) (⟨hsz, (show 0 ≤ (1 : Int32).toInt ∧ (1 : Int32).toInt ≤ 120 by decide), SI_clear⟩) ((show (120 : Int) - (1 : Int32).toInt < (121 : Nat) by decide)) _ _ _ hS hP hD (lv_sub hl [0, 1] rfl) hres
    · skip
      have c_29 : ¬ (((mv.2 0) 0) = 79) := c_29
      rw [if_neg c_29] at hres
      refine lv_iconst (v := 0) hx hb dX6_readText_32 (by decide) ?_
      subst hres
      exact kI_ret hE hS hP hD rfl rfl (Nat.le_of_ble_eq_true rfl) (Nat.le_of_ble_eq_true rfl) dX6_readText_33
