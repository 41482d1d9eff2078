/-! The wrappers, one by one. -/
set_option maxHeartbeats 4000000 in
set_option maxRecDepth 100000 in
theorem w_append (l : Launch) (hfl : l.stackTraces = false) (D : va_G) (cs : Nat → ClassId) (ca : Nat → Nat → Nat) (cv c2 : CV) (oa : Nat) (f : Nat → Int64) (p0 : Int32) (hC : CO cv) (x : Option String) (r : Int32) (e0 : k_X5_append cv p0 = (x, r, c2)) (hL : ∀ E, x = some E → E ∈ [IAE, ISE]) : kL l yL_append wsL_append { frames := 7, cells := 1, slots := 6, locals := 103 } 1 6 D cs [.ref (ca 0 0), .int p0, .ref oa] (lo cs oa f :: ca_W cs ca cv) (cod [IAE, ISE] x) (lo cs oa (if x = none then va_up f 0 r.toInt64 else f) :: ca_W cs ca c2) := by
  have hc := c_X5_append l hfl D cs ca cv p0 hC
  rw [e0] at hc
  dsimp only at hc
  refine kL_of (cc := cL_append) (maxL := 4) (ret := (some .int)) (hh := [(0, 9, 12, 13), (0, 9, 15, 15)]) (by decide) rfl (Nat.le_of_ble_eq_true rfl) ?_
  intro p e s m below meth c A ls H locs hE ht hX hS hP hD hl
  obtain ⟨hx, hb, hr, hlocks, hml, hown, hts, hK, hA, hG, hnm⟩ := id hE
  have hown : s.vm.findClass RL = some m.cls := hown
  have hl : lv_has ls 4 [(0, .ref (ca 0 0)), (1, .int p0), (2, .ref oa)] := hl
  refine lv_aload_n hx hb dL_append_0 rfl (lv_at hl 2 rfl) ?_
  refine lv_iconst (v := 0) hx hb dL_append_1 (by decide) ?_
  refine lv_aload_n hx hb dL_append_2 rfl (lv_at hl 0 rfl) ?_
  refine lv_iload_n hx hb dL_append_3 rfl (lv_at hl 1 rfl) ?_
  have hP : va_P D vwCl (ca_W cs ca cv ++ [lo cs oa f]) H := pmP lo_pm hP
  have hD : va_D A (ca_W cs ca cv ++ [lo cs oa f]) := pmD lo_pm hD
  refine kX_call (wc := ca_W cs ca cv) (wr := [lo cs oa f]) (w1 := ca_W cs ca c2) (x := x) (r := r) hE hP hD hS (k_rX (rest := [.int 0, .ref oa]) (As := [.int p0]) hE rfl (hc H.size) (cwV 1 hts gL_append_X5_append rfl rfl rfl (by decide +kernel) ⟨(Nat.le_of_ble_eq_true rfl), (Nat.le_of_ble_eq_true rfl)⟩) hP hD hS (ci := 5) (q0 := 0) rfl rfl rfl hl rfl (Nat.le_of_ble_eq_true rfl) ⟨(Nat.le_of_ble_eq_true rfl), (Nat.le_of_ble_eq_true rfl)⟩ dL_append_4) (fun E ce q9 H locs hE9 hP hD hS hce hcv hcl => ?_) (fun H locs hx0 hP hD hS => ?_)
  · have hP : va_P D vwCl (lo cs oa f :: ca_W cs ca c2) H := pmP lo_pm.symm hP
    have hD : va_D A (lo cs oa f :: ca_W cs ca c2) := pmD lo_pm.symm hD
    have hq := hL E hE9
    subst hE9
    rw [if_neg (show ¬ (some E = none) from fun h => by cases h)]
    rcases List.mem_cons.mp hq with hq | hq
    · subst hq
      refine vx_catch (own := RL) (name := IAE) hown (tableOf []) ⟨0, 9, 12, 13⟩ (tableOf [(0, 9, 15, 15)]) (by rw [ht]; rfl) ?_ rfl (by decide) (hts (.classLink RL 13 IAE) (by decide +kernel)) (va_Nw.use rfl (hG.1.2.2.1 _ _ ct_IAE)) hce hcv hcl ?_
      · intro z hz
        exact absurd hz List.not_mem_nil
      · refine lv_astore_n (lv' := [(3, .ref q9), (0, .ref (ca 0 0)), (1, .int p0), (2, .ref oa)]) hx hb dL_append_12 rfl hl (by decide) rfl (fun ls hl => ?_)
        refine lv_iconst (v := 1) hx hb dL_append_13 (by decide) ?_
        exact kI_ret hE hS hP hD rfl (by decide) (Nat.le_of_ble_eq_true rfl) (Nat.le_of_ble_eq_true rfl) dL_append_14
    rcases List.mem_cons.mp hq with hq | hq
    · subst hq
      refine vx_catch (own := RL) (name := ISE) hown (tableOf [(0, 9, 12, 13)]) ⟨0, 9, 15, 15⟩ (tableOf []) (by rw [ht]; rfl) ?_ rfl (by decide) (hts (.classLink RL 15 ISE) (by decide +kernel)) (va_Nw.use rfl (hG.1.2.2.1 _ _ ct_ISE)) hce hcv hcl ?_
      · intro z hz
        rcases List.mem_cons.mp hz with hz | hz
        · subst hz
          exact Or.inr ⟨(by decide), IAE, hts (.classLink RL 13 IAE) (by decide +kernel), hX.2.1⟩
        exact absurd hz List.not_mem_nil
      · refine lv_astore_n (lv' := [(3, .ref q9), (0, .ref (ca 0 0)), (1, .int p0), (2, .ref oa)]) hx hb dL_append_15 rfl hl (by decide) rfl (fun ls hl => ?_)
        refine lv_iconst (v := 2) hx hb dL_append_16 (by decide) ?_
        exact kI_ret hE hS hP hD rfl (by decide) (Nat.le_of_ble_eq_true rfl) (Nat.le_of_ble_eq_true rfl) dL_append_17
    exact absurd hq List.not_mem_nil
  · have hP : va_P D vwCl (lo cs oa f :: ca_W cs ca c2) H := pmP lo_pm.symm hP
    have hD : va_D A (lo cs oa f :: ca_W cs ca c2) := pmD lo_pm.symm hD
    subst hx0
    rw [if_pos rfl]
    refine lv_i2l hx hb dL_append_7 rfl ?_
    refine va_last (n := 1) hx hb hK hP hD hS 0 4 rfl rfl (vp_in_iff.mpr (by decide)) dL_append_8 (fun H locs hP hD hS => ?_)
    have hP : va_P D vwCl (lo cs oa (va_up f 0 r.toInt64) :: ca_W cs ca c2) H := hP
    have hD : va_D A (lo cs oa (va_up f 0 r.toInt64) :: ca_W cs ca c2) := hD
    refine lv_goto (tgt := 18) hx hb dL_append_9 (by decide) ?_
    refine lv_iconst (v := 0) hx hb dL_append_18 (by decide) ?_
    exact kI_ret hE hS hP hD rfl rfl (Nat.le_of_ble_eq_true rfl) (Nat.le_of_ble_eq_true rfl) dL_append_19
set_option maxHeartbeats 4000000 in
set_option maxRecDepth 100000 in
theorem w_load (l : Launch) (hfl : l.stackTraces = false) (D : va_G) (cs : Nat → ClassId) (ca : Nat → Nat → Nat) (cv c2 : CV) (oa : Nat) (f : Nat → Int64) (hC : CO cv) (x : Option String) (r : Int32) (e0 : k_X5_load cv = (x, r, c2)) (hL : ∀ E, x = some E → E ∈ [ISE]) : kL l yL_load wsL_load { frames := 8, cells := 1, slots := 6, locals := 194 } 1 6 D cs [.ref (ca 0 0), .ref oa] (lo cs oa f :: ca_W cs ca cv) (cod [ISE] x) (lo cs oa (if x = none then va_up f 0 r.toInt64 else f) :: ca_W cs ca c2) := by
  have hc := c_X5_load l hfl D cs ca cv hC
  rw [e0] at hc
  dsimp only at hc
  refine kL_of (cc := cL_load) (maxL := 3) (ret := (some .int)) (hh := [(0, 8, 11, 15)]) (by decide) rfl (Nat.le_of_ble_eq_true rfl) ?_
  intro p e s m below meth c A ls H locs hE ht hX hS hP hD hl
  obtain ⟨hx, hb, hr, hlocks, hml, hown, hts, hK, hA, hG, hnm⟩ := id hE
  have hown : s.vm.findClass RL = some m.cls := hown
  have hl : lv_has ls 3 [(0, .ref (ca 0 0)), (1, .ref oa)] := hl
  refine lv_aload_n hx hb dL_load_0 rfl (lv_at hl 1 rfl) ?_
  refine lv_iconst (v := 0) hx hb dL_load_1 (by decide) ?_
  refine lv_aload_n hx hb dL_load_2 rfl (lv_at hl 0 rfl) ?_
  have hP : va_P D vwCl (ca_W cs ca cv ++ [lo cs oa f]) H := pmP lo_pm hP
  have hD : va_D A (ca_W cs ca cv ++ [lo cs oa f]) := pmD lo_pm hD
  refine kX_call (wc := ca_W cs ca cv) (wr := [lo cs oa f]) (w1 := ca_W cs ca c2) (x := x) (r := r) hE hP hD hS (k_rX (rest := [.int 0, .ref oa]) (As := []) hE rfl (hc H.size) (cwV 0 hts gL_load_X5_load rfl rfl rfl (by decide +kernel) ⟨(Nat.le_of_ble_eq_true rfl), (Nat.le_of_ble_eq_true rfl)⟩) hP hD hS (ci := 5) (q0 := 0) rfl rfl rfl hl rfl (Nat.le_of_ble_eq_true rfl) ⟨(Nat.le_of_ble_eq_true rfl), (Nat.le_of_ble_eq_true rfl)⟩ dL_load_3) (fun E ce q9 H locs hE9 hP hD hS hce hcv hcl => ?_) (fun H locs hx0 hP hD hS => ?_)
  · have hP : va_P D vwCl (lo cs oa f :: ca_W cs ca c2) H := pmP lo_pm.symm hP
    have hD : va_D A (lo cs oa f :: ca_W cs ca c2) := pmD lo_pm.symm hD
    have hq := hL E hE9
    subst hE9
    rw [if_neg (show ¬ (some E = none) from fun h => by cases h)]
    rcases List.mem_cons.mp hq with hq | hq
    · subst hq
      refine vx_catch (own := RL) (name := ISE) hown (tableOf []) ⟨0, 8, 11, 15⟩ (tableOf []) (by rw [ht]; rfl) ?_ rfl (by decide) (hts (.classLink RL 15 ISE) (by decide +kernel)) (va_Nw.use rfl (hG.1.2.2.1 _ _ ct_ISE)) hce hcv hcl ?_
      · intro z hz
        exact absurd hz List.not_mem_nil
      · refine lv_astore_n (lv' := [(2, .ref q9), (0, .ref (ca 0 0)), (1, .ref oa)]) hx hb dL_load_11 rfl hl (by decide) rfl (fun ls hl => ?_)
        refine lv_iconst (v := 1) hx hb dL_load_12 (by decide) ?_
        exact kI_ret hE hS hP hD rfl (by decide) (Nat.le_of_ble_eq_true rfl) (Nat.le_of_ble_eq_true rfl) dL_load_13
    exact absurd hq List.not_mem_nil
  · have hP : va_P D vwCl (lo cs oa f :: ca_W cs ca c2) H := pmP lo_pm.symm hP
    have hD : va_D A (lo cs oa f :: ca_W cs ca c2) := pmD lo_pm.symm hD
    subst hx0
    rw [if_pos rfl]
    refine lv_i2l hx hb dL_load_6 rfl ?_
    refine va_last (n := 1) hx hb hK hP hD hS 0 4 rfl rfl (vp_in_iff.mpr (by decide)) dL_load_7 (fun H locs hP hD hS => ?_)
    have hP : va_P D vwCl (lo cs oa (va_up f 0 r.toInt64) :: ca_W cs ca c2) H := hP
    have hD : va_D A (lo cs oa (va_up f 0 r.toInt64) :: ca_W cs ca c2) := hD
    refine lv_goto (tgt := 14) hx hb dL_load_8 (by decide) ?_
    refine lv_iconst (v := 0) hx hb dL_load_14 (by decide) ?_
    exact kI_ret hE hS hP hD rfl rfl (Nat.le_of_ble_eq_true rfl) (Nat.le_of_ble_eq_true rfl) dL_load_15
set_option maxHeartbeats 4000000 in
set_option maxRecDepth 100000 in
theorem w_about (l : Launch) (hfl : l.stackTraces = false) (D : va_G) (cs : Nat → ClassId) (ca : Nat → Nat → Nat) (cv c2 : CV) (oa : Nat) (f : Nat → Int64) (p0 : Int32) (hC : CO cv) (x : Option String) (r : Int32) (e0 : k_X5_about cv p0 = (x, r, c2)) (hL : ∀ E, x = some E → E ∈ [IAE]) : kL l yL_about wsL_about { frames := 7, cells := 1, slots := 6, locals := 103 } 1 6 D cs [.ref (ca 0 0), .int p0, .ref oa] (lo cs oa f :: ca_W cs ca cv) (cod [IAE] x) (lo cs oa (if x = none then va_up f 0 r.toInt64 else f) :: ca_W cs ca c2) := by
  have hc := c_X5_about l hfl D cs ca cv p0 hC
  rw [e0] at hc
  dsimp only at hc
  refine kL_of (cc := cL_about) (maxL := 4) (ret := (some .int)) (hh := [(0, 9, 12, 13)]) (by decide) rfl (Nat.le_of_ble_eq_true rfl) ?_
  intro p e s m below meth c A ls H locs hE ht hX hS hP hD hl
  obtain ⟨hx, hb, hr, hlocks, hml, hown, hts, hK, hA, hG, hnm⟩ := id hE
  have hown : s.vm.findClass RL = some m.cls := hown
  have hl : lv_has ls 4 [(0, .ref (ca 0 0)), (1, .int p0), (2, .ref oa)] := hl
  refine lv_aload_n hx hb dL_about_0 rfl (lv_at hl 2 rfl) ?_
  refine lv_iconst (v := 0) hx hb dL_about_1 (by decide) ?_
  refine lv_aload_n hx hb dL_about_2 rfl (lv_at hl 0 rfl) ?_
  refine lv_iload_n hx hb dL_about_3 rfl (lv_at hl 1 rfl) ?_
  have hP : va_P D vwCl (ca_W cs ca cv ++ [lo cs oa f]) H := pmP lo_pm hP
  have hD : va_D A (ca_W cs ca cv ++ [lo cs oa f]) := pmD lo_pm hD
  refine kX_call (wc := ca_W cs ca cv) (wr := [lo cs oa f]) (w1 := ca_W cs ca c2) (x := x) (r := r) hE hP hD hS (k_rX (rest := [.int 0, .ref oa]) (As := [.int p0]) hE rfl (hc H.size) (cwV 1 hts gL_about_X5_about rfl rfl rfl (by decide +kernel) ⟨(Nat.le_of_ble_eq_true rfl), (Nat.le_of_ble_eq_true rfl)⟩) hP hD hS (ci := 5) (q0 := 0) rfl rfl rfl hl rfl (Nat.le_of_ble_eq_true rfl) ⟨(Nat.le_of_ble_eq_true rfl), (Nat.le_of_ble_eq_true rfl)⟩ dL_about_4) (fun E ce q9 H locs hE9 hP hD hS hce hcv hcl => ?_) (fun H locs hx0 hP hD hS => ?_)
  · have hP : va_P D vwCl (lo cs oa f :: ca_W cs ca c2) H := pmP lo_pm.symm hP
    have hD : va_D A (lo cs oa f :: ca_W cs ca c2) := pmD lo_pm.symm hD
    have hq := hL E hE9
    subst hE9
    rw [if_neg (show ¬ (some E = none) from fun h => by cases h)]
    rcases List.mem_cons.mp hq with hq | hq
    · subst hq
      refine vx_catch (own := RL) (name := IAE) hown (tableOf []) ⟨0, 9, 12, 13⟩ (tableOf []) (by rw [ht]; rfl) ?_ rfl (by decide) (hts (.classLink RL 13 IAE) (by decide +kernel)) (va_Nw.use rfl (hG.1.2.2.1 _ _ ct_IAE)) hce hcv hcl ?_
      · intro z hz
        exact absurd hz List.not_mem_nil
      · refine lv_astore_n (lv' := [(3, .ref q9), (0, .ref (ca 0 0)), (1, .int p0), (2, .ref oa)]) hx hb dL_about_12 rfl hl (by decide) rfl (fun ls hl => ?_)
        refine lv_iconst (v := 1) hx hb dL_about_13 (by decide) ?_
        exact kI_ret hE hS hP hD rfl (by decide) (Nat.le_of_ble_eq_true rfl) (Nat.le_of_ble_eq_true rfl) dL_about_14
    exact absurd hq List.not_mem_nil
  · have hP : va_P D vwCl (lo cs oa f :: ca_W cs ca c2) H := pmP lo_pm.symm hP
    have hD : va_D A (lo cs oa f :: ca_W cs ca c2) := pmD lo_pm.symm hD
    subst hx0
    rw [if_pos rfl]
    refine lv_i2l hx hb dL_about_7 rfl ?_
    refine va_last (n := 1) hx hb hK hP hD hS 0 4 rfl rfl (vp_in_iff.mpr (by decide)) dL_about_8 (fun H locs hP hD hS => ?_)
    have hP : va_P D vwCl (lo cs oa (va_up f 0 r.toInt64) :: ca_W cs ca c2) H := hP
    have hD : va_D A (lo cs oa (va_up f 0 r.toInt64) :: ca_W cs ca c2) := hD
    refine lv_goto (tgt := 15) hx hb dL_about_9 (by decide) ?_
    refine lv_iconst (v := 0) hx hb dL_about_15 (by decide) ?_
    exact kI_ret hE hS hP hD rfl rfl (Nat.le_of_ble_eq_true rfl) (Nat.le_of_ble_eq_true rfl) dL_about_16
set_option maxHeartbeats 4000000 in
set_option maxRecDepth 100000 in
theorem w_pegOf (l : Launch) (hfl : l.stackTraces = false) (D : va_G) (cs : Nat → ClassId) (ca : Nat → Nat → Nat) (cv c2 : CV) (oa : Nat) (f : Nat → Int64) (p0 : Int32) (p1 : Int32) (hC : CO cv) (x : Option String) (r : Int32) (e0 : k_X5_pegOf cv p0 p1 = (x, r, c2)) (hL : ∀ E, x = some E → E ∈ [IOB, IAE]) : kL l yL_pegOf wsL_pegOf { frames := 7, cells := 1, slots := 6, locals := 104 } 1 6 D cs [.ref (ca 0 0), .int p0, .int p1, .ref oa] (lo cs oa f :: ca_W cs ca cv) (cod [IOB, IAE] x) (lo cs oa (if x = none then va_up f 0 r.toInt64 else f) :: ca_W cs ca c2) := by
  have hc := c_X5_pegOf l hfl D cs ca cv p0 p1 hC
  rw [e0] at hc
  dsimp only at hc
  refine kL_of (cc := cL_pegOf) (maxL := 5) (ret := (some .int)) (hh := [(0, 10, 13, 28), (0, 10, 17, 13)]) (by decide) rfl (Nat.le_of_ble_eq_true rfl) ?_
  intro p e s m below meth c A ls H locs hE ht hX hS hP hD hl
  obtain ⟨hx, hb, hr, hlocks, hml, hown, hts, hK, hA, hG, hnm⟩ := id hE
  have hown : s.vm.findClass RL = some m.cls := hown
  have hl : lv_has ls 5 [(0, .ref (ca 0 0)), (1, .int p0), (2, .int p1), (3, .ref oa)] := hl
  refine lv_aload_n hx hb dL_pegOf_0 rfl (lv_at hl 3 rfl) ?_
  refine lv_iconst (v := 0) hx hb dL_pegOf_1 (by decide) ?_
  refine lv_aload_n hx hb dL_pegOf_2 rfl (lv_at hl 0 rfl) ?_
  refine lv_iload_n hx hb dL_pegOf_3 rfl (lv_at hl 1 rfl) ?_
  refine lv_iload_n hx hb dL_pegOf_4 rfl (lv_at hl 2 rfl) ?_
  have hP : va_P D vwCl (ca_W cs ca cv ++ [lo cs oa f]) H := pmP lo_pm hP
  have hD : va_D A (ca_W cs ca cv ++ [lo cs oa f]) := pmD lo_pm hD
  refine kX_call (wc := ca_W cs ca cv) (wr := [lo cs oa f]) (w1 := ca_W cs ca c2) (x := x) (r := r) hE hP hD hS (k_rX (rest := [.int 0, .ref oa]) (As := [.int p0, .int p1]) hE rfl (hc H.size) (cwV 2 hts gL_pegOf_X5_pegOf rfl rfl rfl (by decide +kernel) ⟨(Nat.le_of_ble_eq_true rfl), (Nat.le_of_ble_eq_true rfl)⟩) hP hD hS (ci := 5) (q0 := 0) rfl rfl rfl hl rfl (Nat.le_of_ble_eq_true rfl) ⟨(Nat.le_of_ble_eq_true rfl), (Nat.le_of_ble_eq_true rfl)⟩ dL_pegOf_5) (fun E ce q9 H locs hE9 hP hD hS hce hcv hcl => ?_) (fun H locs hx0 hP hD hS => ?_)
  · have hP : va_P D vwCl (lo cs oa f :: ca_W cs ca c2) H := pmP lo_pm.symm hP
    have hD : va_D A (lo cs oa f :: ca_W cs ca c2) := pmD lo_pm.symm hD
    have hq := hL E hE9
    subst hE9
    rw [if_neg (show ¬ (some E = none) from fun h => by cases h)]
    rcases List.mem_cons.mp hq with hq | hq
    · subst hq
      refine vx_catch (own := RL) (name := IOB) hown (tableOf []) ⟨0, 10, 13, 28⟩ (tableOf [(0, 10, 17, 13)]) (by rw [ht]; rfl) ?_ rfl (by decide) (hts (.classLink RL 28 IOB) (by decide +kernel)) (va_Nw.use rfl (hG.1.2.2.1 _ _ ct_IOB)) hce hcv hcl ?_
      · intro z hz
        exact absurd hz List.not_mem_nil
      · refine lv_astore (lv' := [(4, .ref q9), (0, .ref (ca 0 0)), (1, .int p0), (2, .int p1), (3, .ref oa)]) hx hb dL_pegOf_13 hl (by decide) rfl (fun ls hl => ?_)
        refine lv_iconst (v := 1) hx hb dL_pegOf_15 (by decide) ?_
        exact kI_ret hE hS hP hD rfl (by decide) (Nat.le_of_ble_eq_true rfl) (Nat.le_of_ble_eq_true rfl) dL_pegOf_16
    rcases List.mem_cons.mp hq with hq | hq
    · subst hq
      refine vx_catch (own := RL) (name := IAE) hown (tableOf [(0, 10, 13, 28)]) ⟨0, 10, 17, 13⟩ (tableOf []) (by rw [ht]; rfl) ?_ rfl (by decide) (hts (.classLink RL 13 IAE) (by decide +kernel)) (va_Nw.use rfl (hG.1.2.2.1 _ _ ct_IAE)) hce hcv hcl ?_
      · intro z hz
        rcases List.mem_cons.mp hz with hz | hz
        · subst hz
          exact Or.inr ⟨(by decide), IOB, hts (.classLink RL 28 IOB) (by decide +kernel), hX.2.2.1⟩
        exact absurd hz List.not_mem_nil
      · refine lv_astore (lv' := [(4, .ref q9), (0, .ref (ca 0 0)), (1, .int p0), (2, .int p1), (3, .ref oa)]) hx hb dL_pegOf_17 hl (by decide) rfl (fun ls hl => ?_)
        refine lv_iconst (v := 2) hx hb dL_pegOf_19 (by decide) ?_
        exact kI_ret hE hS hP hD rfl (by decide) (Nat.le_of_ble_eq_true rfl) (Nat.le_of_ble_eq_true rfl) dL_pegOf_20
    exact absurd hq List.not_mem_nil
  · have hP : va_P D vwCl (lo cs oa f :: ca_W cs ca c2) H := pmP lo_pm.symm hP
    have hD : va_D A (lo cs oa f :: ca_W cs ca c2) := pmD lo_pm.symm hD
    subst hx0
    rw [if_pos rfl]
    refine lv_i2l hx hb dL_pegOf_8 rfl ?_
    refine va_last (n := 1) hx hb hK hP hD hS 0 4 rfl rfl (vp_in_iff.mpr (by decide)) dL_pegOf_9 (fun H locs hP hD hS => ?_)
    have hP : va_P D vwCl (lo cs oa (va_up f 0 r.toInt64) :: ca_W cs ca c2) H := hP
    have hD : va_D A (lo cs oa (va_up f 0 r.toInt64) :: ca_W cs ca c2) := hD
    refine lv_goto (tgt := 21) hx hb dL_pegOf_10 (by decide) ?_
    refine lv_iconst (v := 0) hx hb dL_pegOf_21 (by decide) ?_
    exact kI_ret hE hS hP hD rfl rfl (Nat.le_of_ble_eq_true rfl) (Nat.le_of_ble_eq_true rfl) dL_pegOf_22
set_option maxHeartbeats 4000000 in
set_option maxRecDepth 100000 in
theorem w_orderOf (l : Launch) (hfl : l.stackTraces = false) (D : va_G) (cs : Nat → ClassId) (ca : Nat → Nat → Nat) (cv c2 : CV) (oa : Nat) (f : Nat → Int64) (p0 : Int32) (p1 : Int32) (hC : CO cv) (x : Option String) (r : Int32) (e0 : k_X5_orderOf cv p0 p1 = (x, r, c2)) (hL : ∀ E, x = some E → E ∈ [IOB, IAE]) : kL l yL_orderOf wsL_orderOf { frames := 7, cells := 1, slots := 6, locals := 104 } 1 6 D cs [.ref (ca 0 0), .int p0, .int p1, .ref oa] (lo cs oa f :: ca_W cs ca cv) (cod [IOB, IAE] x) (lo cs oa (if x = none then va_up f 0 r.toInt64 else f) :: ca_W cs ca c2) := by
  have hc := c_X5_orderOf l hfl D cs ca cv p0 p1 hC
  rw [e0] at hc
  dsimp only at hc
  refine kL_of (cc := cL_orderOf) (maxL := 5) (ret := (some .int)) (hh := [(0, 10, 13, 28), (0, 10, 17, 13)]) (by decide) rfl (Nat.le_of_ble_eq_true rfl) ?_
  intro p e s m below meth c A ls H locs hE ht hX hS hP hD hl
  obtain ⟨hx, hb, hr, hlocks, hml, hown, hts, hK, hA, hG, hnm⟩ := id hE
  have hown : s.vm.findClass RL = some m.cls := hown
  have hl : lv_has ls 5 [(0, .ref (ca 0 0)), (1, .int p0), (2, .int p1), (3, .ref oa)] := hl
  refine lv_aload_n hx hb dL_orderOf_0 rfl (lv_at hl 3 rfl) ?_
  refine lv_iconst (v := 0) hx hb dL_orderOf_1 (by decide) ?_
  refine lv_aload_n hx hb dL_orderOf_2 rfl (lv_at hl 0 rfl) ?_
  refine lv_iload_n hx hb dL_orderOf_3 rfl (lv_at hl 1 rfl) ?_
  refine lv_iload_n hx hb dL_orderOf_4 rfl (lv_at hl 2 rfl) ?_
  have hP : va_P D vwCl (ca_W cs ca cv ++ [lo cs oa f]) H := pmP lo_pm hP
  have hD : va_D A (ca_W cs ca cv ++ [lo cs oa f]) := pmD lo_pm hD
  refine kX_call (wc := ca_W cs ca cv) (wr := [lo cs oa f]) (w1 := ca_W cs ca c2) (x := x) (r := r) hE hP hD hS (k_rX (rest := [.int 0, .ref oa]) (As := [.int p0, .int p1]) hE rfl (hc H.size) (cwV 2 hts gL_orderOf_X5_orderOf rfl rfl rfl (by decide +kernel) ⟨(Nat.le_of_ble_eq_true rfl), (Nat.le_of_ble_eq_true rfl)⟩) hP hD hS (ci := 5) (q0 := 0) rfl rfl rfl hl rfl (Nat.le_of_ble_eq_true rfl) ⟨(Nat.le_of_ble_eq_true rfl), (Nat.le_of_ble_eq_true rfl)⟩ dL_orderOf_5) (fun E ce q9 H locs hE9 hP hD hS hce hcv hcl => ?_) (fun H locs hx0 hP hD hS => ?_)
  · have hP : va_P D vwCl (lo cs oa f :: ca_W cs ca c2) H := pmP lo_pm.symm hP
    have hD : va_D A (lo cs oa f :: ca_W cs ca c2) := pmD lo_pm.symm hD
    have hq := hL E hE9
    subst hE9
    rw [if_neg (show ¬ (some E = none) from fun h => by cases h)]
    rcases List.mem_cons.mp hq with hq | hq
    · subst hq
      refine vx_catch (own := RL) (name := IOB) hown (tableOf []) ⟨0, 10, 13, 28⟩ (tableOf [(0, 10, 17, 13)]) (by rw [ht]; rfl) ?_ rfl (by decide) (hts (.classLink RL 28 IOB) (by decide +kernel)) (va_Nw.use rfl (hG.1.2.2.1 _ _ ct_IOB)) hce hcv hcl ?_
      · intro z hz
        exact absurd hz List.not_mem_nil
      · refine lv_astore (lv' := [(4, .ref q9), (0, .ref (ca 0 0)), (1, .int p0), (2, .int p1), (3, .ref oa)]) hx hb dL_orderOf_13 hl (by decide) rfl (fun ls hl => ?_)
        refine lv_iconst (v := 1) hx hb dL_orderOf_15 (by decide) ?_
        exact kI_ret hE hS hP hD rfl (by decide) (Nat.le_of_ble_eq_true rfl) (Nat.le_of_ble_eq_true rfl) dL_orderOf_16
    rcases List.mem_cons.mp hq with hq | hq
    · subst hq
      refine vx_catch (own := RL) (name := IAE) hown (tableOf [(0, 10, 13, 28)]) ⟨0, 10, 17, 13⟩ (tableOf []) (by rw [ht]; rfl) ?_ rfl (by decide) (hts (.classLink RL 13 IAE) (by decide +kernel)) (va_Nw.use rfl (hG.1.2.2.1 _ _ ct_IAE)) hce hcv hcl ?_
      · intro z hz
        rcases List.mem_cons.mp hz with hz | hz
        · subst hz
          exact Or.inr ⟨(by decide), IOB, hts (.classLink RL 28 IOB) (by decide +kernel), hX.2.2.1⟩
        exact absurd hz List.not_mem_nil
      · refine lv_astore (lv' := [(4, .ref q9), (0, .ref (ca 0 0)), (1, .int p0), (2, .int p1), (3, .ref oa)]) hx hb dL_orderOf_17 hl (by decide) rfl (fun ls hl => ?_)
        refine lv_iconst (v := 2) hx hb dL_orderOf_19 (by decide) ?_
        exact kI_ret hE hS hP hD rfl (by decide) (Nat.le_of_ble_eq_true rfl) (Nat.le_of_ble_eq_true rfl) dL_orderOf_20
    exact absurd hq List.not_mem_nil
  · have hP : va_P D vwCl (lo cs oa f :: ca_W cs ca c2) H := pmP lo_pm.symm hP
    have hD : va_D A (lo cs oa f :: ca_W cs ca c2) := pmD lo_pm.symm hD
    subst hx0
    rw [if_pos rfl]
    refine lv_i2l hx hb dL_orderOf_8 rfl ?_
    refine va_last (n := 1) hx hb hK hP hD hS 0 4 rfl rfl (vp_in_iff.mpr (by decide)) dL_orderOf_9 (fun H locs hP hD hS => ?_)
    have hP : va_P D vwCl (lo cs oa (va_up f 0 r.toInt64) :: ca_W cs ca c2) H := hP
    have hD : va_D A (lo cs oa (va_up f 0 r.toInt64) :: ca_W cs ca c2) := hD
    refine lv_goto (tgt := 21) hx hb dL_orderOf_10 (by decide) ?_
    refine lv_iconst (v := 0) hx hb dL_orderOf_21 (by decide) ?_
    exact kI_ret hE hS hP hD rfl rfl (Nat.le_of_ble_eq_true rfl) (Nat.le_of_ble_eq_true rfl) dL_orderOf_22
set_option maxHeartbeats 4000000 in
set_option maxRecDepth 100000 in
theorem w_pipeOf (l : Launch) (hfl : l.stackTraces = false) (D : va_G) (cs : Nat → ClassId) (ca : Nat → Nat → Nat) (cv c2 : CV) (oa : Nat) (f : Nat → Int64) (p0 : Int32) (p1 : Int32) (hC : CO cv) (x : Option String) (r : Int32) (e0 : k_X5_pipeOf cv p0 p1 = (x, r, c2)) (hL : ∀ E, x = some E → E ∈ [IOB, IAE]) : kL l yL_pipeOf wsL_pipeOf { frames := 7, cells := 1, slots := 6, locals := 111 } 1 6 D cs [.ref (ca 0 0), .int p0, .int p1, .ref oa] (lo cs oa f :: ca_W cs ca cv) (cod [IOB, IAE] x) (lo cs oa (if x = none then va_up f 0 r.toInt64 else f) :: ca_W cs ca c2) := by
  have hc := c_X5_pipeOf l hfl D cs ca cv p0 p1 hC
  rw [e0] at hc
  dsimp only at hc
  refine kL_of (cc := cL_pipeOf) (maxL := 5) (ret := (some .int)) (hh := [(0, 10, 13, 28), (0, 10, 17, 13)]) (by decide) rfl (Nat.le_of_ble_eq_true rfl) ?_
  intro p e s m below meth c A ls H locs hE ht hX hS hP hD hl
  obtain ⟨hx, hb, hr, hlocks, hml, hown, hts, hK, hA, hG, hnm⟩ := id hE
  have hown : s.vm.findClass RL = some m.cls := hown
  have hl : lv_has ls 5 [(0, .ref (ca 0 0)), (1, .int p0), (2, .int p1), (3, .ref oa)] := hl
  refine lv_aload_n hx hb dL_pipeOf_0 rfl (lv_at hl 3 rfl) ?_
  refine lv_iconst (v := 0) hx hb dL_pipeOf_1 (by decide) ?_
  refine lv_aload_n hx hb dL_pipeOf_2 rfl (lv_at hl 0 rfl) ?_
  refine lv_iload_n hx hb dL_pipeOf_3 rfl (lv_at hl 1 rfl) ?_
  refine lv_iload_n hx hb dL_pipeOf_4 rfl (lv_at hl 2 rfl) ?_
  have hP : va_P D vwCl (ca_W cs ca cv ++ [lo cs oa f]) H := pmP lo_pm hP
  have hD : va_D A (ca_W cs ca cv ++ [lo cs oa f]) := pmD lo_pm hD
  refine kX_call (wc := ca_W cs ca cv) (wr := [lo cs oa f]) (w1 := ca_W cs ca c2) (x := x) (r := r) hE hP hD hS (k_rX (rest := [.int 0, .ref oa]) (As := [.int p0, .int p1]) hE rfl (hc H.size) (cwV 2 hts gL_pipeOf_X5_pipeOf rfl rfl rfl (by decide +kernel) ⟨(Nat.le_of_ble_eq_true rfl), (Nat.le_of_ble_eq_true rfl)⟩) hP hD hS (ci := 5) (q0 := 0) rfl rfl rfl hl rfl (Nat.le_of_ble_eq_true rfl) ⟨(Nat.le_of_ble_eq_true rfl), (Nat.le_of_ble_eq_true rfl)⟩ dL_pipeOf_5) (fun E ce q9 H locs hE9 hP hD hS hce hcv hcl => ?_) (fun H locs hx0 hP hD hS => ?_)
  · have hP : va_P D vwCl (lo cs oa f :: ca_W cs ca c2) H := pmP lo_pm.symm hP
    have hD : va_D A (lo cs oa f :: ca_W cs ca c2) := pmD lo_pm.symm hD
    have hq := hL E hE9
    subst hE9
    rw [if_neg (show ¬ (some E = none) from fun h => by cases h)]
    rcases List.mem_cons.mp hq with hq | hq
    · subst hq
      refine vx_catch (own := RL) (name := IOB) hown (tableOf []) ⟨0, 10, 13, 28⟩ (tableOf [(0, 10, 17, 13)]) (by rw [ht]; rfl) ?_ rfl (by decide) (hts (.classLink RL 28 IOB) (by decide +kernel)) (va_Nw.use rfl (hG.1.2.2.1 _ _ ct_IOB)) hce hcv hcl ?_
      · intro z hz
        exact absurd hz List.not_mem_nil
      · refine lv_astore (lv' := [(4, .ref q9), (0, .ref (ca 0 0)), (1, .int p0), (2, .int p1), (3, .ref oa)]) hx hb dL_pipeOf_13 hl (by decide) rfl (fun ls hl => ?_)
        refine lv_iconst (v := 1) hx hb dL_pipeOf_15 (by decide) ?_
        exact kI_ret hE hS hP hD rfl (by decide) (Nat.le_of_ble_eq_true rfl) (Nat.le_of_ble_eq_true rfl) dL_pipeOf_16
    rcases List.mem_cons.mp hq with hq | hq
    · subst hq
      refine vx_catch (own := RL) (name := IAE) hown (tableOf [(0, 10, 13, 28)]) ⟨0, 10, 17, 13⟩ (tableOf []) (by rw [ht]; rfl) ?_ rfl (by decide) (hts (.classLink RL 13 IAE) (by decide +kernel)) (va_Nw.use rfl (hG.1.2.2.1 _ _ ct_IAE)) hce hcv hcl ?_
      · intro z hz
        rcases List.mem_cons.mp hz with hz | hz
        · subst hz
          exact Or.inr ⟨(by decide), IOB, hts (.classLink RL 28 IOB) (by decide +kernel), hX.2.2.1⟩
        exact absurd hz List.not_mem_nil
      · refine lv_astore (lv' := [(4, .ref q9), (0, .ref (ca 0 0)), (1, .int p0), (2, .int p1), (3, .ref oa)]) hx hb dL_pipeOf_17 hl (by decide) rfl (fun ls hl => ?_)
        refine lv_iconst (v := 2) hx hb dL_pipeOf_19 (by decide) ?_
        exact kI_ret hE hS hP hD rfl (by decide) (Nat.le_of_ble_eq_true rfl) (Nat.le_of_ble_eq_true rfl) dL_pipeOf_20
    exact absurd hq List.not_mem_nil
  · have hP : va_P D vwCl (lo cs oa f :: ca_W cs ca c2) H := pmP lo_pm.symm hP
    have hD : va_D A (lo cs oa f :: ca_W cs ca c2) := pmD lo_pm.symm hD
    subst hx0
    rw [if_pos rfl]
    refine lv_i2l hx hb dL_pipeOf_8 rfl ?_
    refine va_last (n := 1) hx hb hK hP hD hS 0 4 rfl rfl (vp_in_iff.mpr (by decide)) dL_pipeOf_9 (fun H locs hP hD hS => ?_)
    have hP : va_P D vwCl (lo cs oa (va_up f 0 r.toInt64) :: ca_W cs ca c2) H := hP
    have hD : va_D A (lo cs oa (va_up f 0 r.toInt64) :: ca_W cs ca c2) := hD
    refine lv_goto (tgt := 21) hx hb dL_pipeOf_10 (by decide) ?_
    refine lv_iconst (v := 0) hx hb dL_pipeOf_21 (by decide) ?_
    exact kI_ret hE hS hP hD rfl rfl (Nat.le_of_ble_eq_true rfl) (Nat.le_of_ble_eq_true rfl) dL_pipeOf_22
set_option maxHeartbeats 4000000 in
set_option maxRecDepth 100000 in
theorem w_chord (l : Launch) (hfl : l.stackTraces = false) (D : va_G) (cs : Nat → ClassId) (ca : Nat → Nat → Nat) (cv c2 : CV) (oa : Nat) (f : Nat → Int64) (p0 : Int32) (hC : CO cv) (x : Option String) (r : Int32) (e0 : k_X5_chord cv p0 = (x, r, c2)) (hL : ∀ E, x = some E → E ∈ [IOB]) : kL l yL_chord wsL_chord { frames := 7, cells := 1, slots := 6, locals := 103 } 1 6 D cs [.ref (ca 0 0), .int p0, .ref oa] (lo cs oa f :: ca_W cs ca cv) (cod [IOB] x) (lo cs oa (if x = none then va_up f 0 r.toInt64 else f) :: ca_W cs ca c2) := by
  have hc := c_X5_chord l hfl D cs ca cv p0 hC
  rw [e0] at hc
  dsimp only at hc
  refine kL_of (cc := cL_chord) (maxL := 4) (ret := (some .int)) (hh := [(0, 9, 12, 28)]) (by decide) rfl (Nat.le_of_ble_eq_true rfl) ?_
  intro p e s m below meth c A ls H locs hE ht hX hS hP hD hl
  obtain ⟨hx, hb, hr, hlocks, hml, hown, hts, hK, hA, hG, hnm⟩ := id hE
  have hown : s.vm.findClass RL = some m.cls := hown
  have hl : lv_has ls 4 [(0, .ref (ca 0 0)), (1, .int p0), (2, .ref oa)] := hl
  refine lv_aload_n hx hb dL_chord_0 rfl (lv_at hl 2 rfl) ?_
  refine lv_iconst (v := 0) hx hb dL_chord_1 (by decide) ?_
  refine lv_aload_n hx hb dL_chord_2 rfl (lv_at hl 0 rfl) ?_
  refine lv_iload_n hx hb dL_chord_3 rfl (lv_at hl 1 rfl) ?_
  have hP : va_P D vwCl (ca_W cs ca cv ++ [lo cs oa f]) H := pmP lo_pm hP
  have hD : va_D A (ca_W cs ca cv ++ [lo cs oa f]) := pmD lo_pm hD
  refine kX_call (wc := ca_W cs ca cv) (wr := [lo cs oa f]) (w1 := ca_W cs ca c2) (x := x) (r := r) hE hP hD hS (k_rX (rest := [.int 0, .ref oa]) (As := [.int p0]) hE rfl (hc H.size) (cwV 1 hts gL_chord_X5_chord rfl rfl rfl (by decide +kernel) ⟨(Nat.le_of_ble_eq_true rfl), (Nat.le_of_ble_eq_true rfl)⟩) hP hD hS (ci := 5) (q0 := 0) rfl rfl rfl hl rfl (Nat.le_of_ble_eq_true rfl) ⟨(Nat.le_of_ble_eq_true rfl), (Nat.le_of_ble_eq_true rfl)⟩ dL_chord_4) (fun E ce q9 H locs hE9 hP hD hS hce hcv hcl => ?_) (fun H locs hx0 hP hD hS => ?_)
  · have hP : va_P D vwCl (lo cs oa f :: ca_W cs ca c2) H := pmP lo_pm.symm hP
    have hD : va_D A (lo cs oa f :: ca_W cs ca c2) := pmD lo_pm.symm hD
    have hq := hL E hE9
    subst hE9
    rw [if_neg (show ¬ (some E = none) from fun h => by cases h)]
    rcases List.mem_cons.mp hq with hq | hq
    · subst hq
      refine vx_catch (own := RL) (name := IOB) hown (tableOf []) ⟨0, 9, 12, 28⟩ (tableOf []) (by rw [ht]; rfl) ?_ rfl (by decide) (hts (.classLink RL 28 IOB) (by decide +kernel)) (va_Nw.use rfl (hG.1.2.2.1 _ _ ct_IOB)) hce hcv hcl ?_
      · intro z hz
        exact absurd hz List.not_mem_nil
      · refine lv_astore_n (lv' := [(3, .ref q9), (0, .ref (ca 0 0)), (1, .int p0), (2, .ref oa)]) hx hb dL_chord_12 rfl hl (by decide) rfl (fun ls hl => ?_)
        refine lv_iconst (v := 1) hx hb dL_chord_13 (by decide) ?_
        exact kI_ret hE hS hP hD rfl (by decide) (Nat.le_of_ble_eq_true rfl) (Nat.le_of_ble_eq_true rfl) dL_chord_14
    exact absurd hq List.not_mem_nil
  · have hP : va_P D vwCl (lo cs oa f :: ca_W cs ca c2) H := pmP lo_pm.symm hP
    have hD : va_D A (lo cs oa f :: ca_W cs ca c2) := pmD lo_pm.symm hD
    subst hx0
    rw [if_pos rfl]
    refine lv_i2l hx hb dL_chord_7 rfl ?_
    refine va_last (n := 1) hx hb hK hP hD hS 0 4 rfl rfl (vp_in_iff.mpr (by decide)) dL_chord_8 (fun H locs hP hD hS => ?_)
    have hP : va_P D vwCl (lo cs oa (va_up f 0 r.toInt64) :: ca_W cs ca c2) H := hP
    have hD : va_D A (lo cs oa (va_up f 0 r.toInt64) :: ca_W cs ca c2) := hD
    refine lv_goto (tgt := 15) hx hb dL_chord_9 (by decide) ?_
    refine lv_iconst (v := 0) hx hb dL_chord_15 (by decide) ?_
    exact kI_ret hE hS hP hD rfl rfl (Nat.le_of_ble_eq_true rfl) (Nat.le_of_ble_eq_true rfl) dL_chord_16
set_option maxHeartbeats 4000000 in
set_option maxRecDepth 100000 in
theorem w_covered (l : Launch) (hfl : l.stackTraces = false) (D : va_G) (cs : Nat → ClassId) (ca : Nat → Nat → Nat) (cv c2 : CV) (oa : Nat) (f : Nat → Int64) (p0 : Int32) (hC : CO cv) (x : Option String) (r : Int32) (e0 : k_X5_covered cv p0 = (x, r, c2)) (hL : ∀ E, x = some E → E ∈ [IAE]) : kL l yL_covered wsL_covered { frames := 7, cells := 1, slots := 6, locals := 111 } 1 6 D cs [.ref (ca 0 0), .int p0, .ref oa] (lo cs oa f :: ca_W cs ca cv) (cod [IAE] x) (lo cs oa (if x = none then va_up f 0 r.toInt64 else f) :: ca_W cs ca c2) := by
  have hc := c_X5_covered l hfl D cs ca cv p0 hC
  rw [e0] at hc
  dsimp only at hc
  refine kL_of (cc := cL_covered) (maxL := 4) (ret := (some .int)) (hh := [(0, 9, 12, 13)]) (by decide) rfl (Nat.le_of_ble_eq_true rfl) ?_
  intro p e s m below meth c A ls H locs hE ht hX hS hP hD hl
  obtain ⟨hx, hb, hr, hlocks, hml, hown, hts, hK, hA, hG, hnm⟩ := id hE
  have hown : s.vm.findClass RL = some m.cls := hown
  have hl : lv_has ls 4 [(0, .ref (ca 0 0)), (1, .int p0), (2, .ref oa)] := hl
  refine lv_aload_n hx hb dL_covered_0 rfl (lv_at hl 2 rfl) ?_
  refine lv_iconst (v := 0) hx hb dL_covered_1 (by decide) ?_
  refine lv_aload_n hx hb dL_covered_2 rfl (lv_at hl 0 rfl) ?_
  refine lv_iload_n hx hb dL_covered_3 rfl (lv_at hl 1 rfl) ?_
  have hP : va_P D vwCl (ca_W cs ca cv ++ [lo cs oa f]) H := pmP lo_pm hP
  have hD : va_D A (ca_W cs ca cv ++ [lo cs oa f]) := pmD lo_pm hD
  refine kX_call (wc := ca_W cs ca cv) (wr := [lo cs oa f]) (w1 := ca_W cs ca c2) (x := x) (r := r) hE hP hD hS (k_rX (rest := [.int 0, .ref oa]) (As := [.int p0]) hE rfl (hc H.size) (cwV 1 hts gL_covered_X5_covered rfl rfl rfl (by decide +kernel) ⟨(Nat.le_of_ble_eq_true rfl), (Nat.le_of_ble_eq_true rfl)⟩) hP hD hS (ci := 5) (q0 := 0) rfl rfl rfl hl rfl (Nat.le_of_ble_eq_true rfl) ⟨(Nat.le_of_ble_eq_true rfl), (Nat.le_of_ble_eq_true rfl)⟩ dL_covered_4) (fun E ce q9 H locs hE9 hP hD hS hce hcv hcl => ?_) (fun H locs hx0 hP hD hS => ?_)
  · have hP : va_P D vwCl (lo cs oa f :: ca_W cs ca c2) H := pmP lo_pm.symm hP
    have hD : va_D A (lo cs oa f :: ca_W cs ca c2) := pmD lo_pm.symm hD
    have hq := hL E hE9
    subst hE9
    rw [if_neg (show ¬ (some E = none) from fun h => by cases h)]
    rcases List.mem_cons.mp hq with hq | hq
    · subst hq
      refine vx_catch (own := RL) (name := IAE) hown (tableOf []) ⟨0, 9, 12, 13⟩ (tableOf []) (by rw [ht]; rfl) ?_ rfl (by decide) (hts (.classLink RL 13 IAE) (by decide +kernel)) (va_Nw.use rfl (hG.1.2.2.1 _ _ ct_IAE)) hce hcv hcl ?_
      · intro z hz
        exact absurd hz List.not_mem_nil
      · refine lv_astore_n (lv' := [(3, .ref q9), (0, .ref (ca 0 0)), (1, .int p0), (2, .ref oa)]) hx hb dL_covered_12 rfl hl (by decide) rfl (fun ls hl => ?_)
        refine lv_iconst (v := 1) hx hb dL_covered_13 (by decide) ?_
        exact kI_ret hE hS hP hD rfl (by decide) (Nat.le_of_ble_eq_true rfl) (Nat.le_of_ble_eq_true rfl) dL_covered_14
    exact absurd hq List.not_mem_nil
  · have hP : va_P D vwCl (lo cs oa f :: ca_W cs ca c2) H := pmP lo_pm.symm hP
    have hD : va_D A (lo cs oa f :: ca_W cs ca c2) := pmD lo_pm.symm hD
    subst hx0
    rw [if_pos rfl]
    refine lv_i2l hx hb dL_covered_7 rfl ?_
    refine va_last (n := 1) hx hb hK hP hD hS 0 4 rfl rfl (vp_in_iff.mpr (by decide)) dL_covered_8 (fun H locs hP hD hS => ?_)
    have hP : va_P D vwCl (lo cs oa (va_up f 0 r.toInt64) :: ca_W cs ca c2) H := hP
    have hD : va_D A (lo cs oa (va_up f 0 r.toInt64) :: ca_W cs ca c2) := hD
    refine lv_goto (tgt := 15) hx hb dL_covered_9 (by decide) ?_
    refine lv_iconst (v := 0) hx hb dL_covered_15 (by decide) ?_
    exact kI_ret hE hS hP hD rfl rfl (Nat.le_of_ble_eq_true rfl) (Nat.le_of_ble_eq_true rfl) dL_covered_16
set_option maxHeartbeats 4000000 in
set_option maxRecDepth 100000 in
theorem w_setting (l : Launch) (hfl : l.stackTraces = false) (D : va_G) (cs : Nat → ClassId) (ca : Nat → Nat → Nat) (cv c2 : CV) (oa : Nat) (f : Nat → Int64) (p0 : Int32) (hC : CO cv) (x : Option String) (r : Int32) (e0 : k_X5_setting cv p0 = (x, r, c2)) (hL : ∀ E, x = some E → E ∈ [IAE]) : kL l yL_setting wsL_setting { frames := 7, cells := 1, slots := 6, locals := 103 } 1 6 D cs [.ref (ca 0 0), .int p0, .ref oa] (lo cs oa f :: ca_W cs ca cv) (cod [IAE] x) (lo cs oa (if x = none then va_up f 0 r.toInt64 else f) :: ca_W cs ca c2) := by
  have hc := c_X5_setting l hfl D cs ca cv p0 hC
  rw [e0] at hc
  dsimp only at hc
  refine kL_of (cc := cL_setting) (maxL := 4) (ret := (some .int)) (hh := [(0, 9, 12, 13)]) (by decide) rfl (Nat.le_of_ble_eq_true rfl) ?_
  intro p e s m below meth c A ls H locs hE ht hX hS hP hD hl
  obtain ⟨hx, hb, hr, hlocks, hml, hown, hts, hK, hA, hG, hnm⟩ := id hE
  have hown : s.vm.findClass RL = some m.cls := hown
  have hl : lv_has ls 4 [(0, .ref (ca 0 0)), (1, .int p0), (2, .ref oa)] := hl
  refine lv_aload_n hx hb dL_setting_0 rfl (lv_at hl 2 rfl) ?_
  refine lv_iconst (v := 0) hx hb dL_setting_1 (by decide) ?_
  refine lv_aload_n hx hb dL_setting_2 rfl (lv_at hl 0 rfl) ?_
  refine lv_iload_n hx hb dL_setting_3 rfl (lv_at hl 1 rfl) ?_
  have hP : va_P D vwCl (ca_W cs ca cv ++ [lo cs oa f]) H := pmP lo_pm hP
  have hD : va_D A (ca_W cs ca cv ++ [lo cs oa f]) := pmD lo_pm hD
  refine kX_call (wc := ca_W cs ca cv) (wr := [lo cs oa f]) (w1 := ca_W cs ca c2) (x := x) (r := r) hE hP hD hS (k_rX (rest := [.int 0, .ref oa]) (As := [.int p0]) hE rfl (hc H.size) (cwV 1 hts gL_setting_X5_setting rfl rfl rfl (by decide +kernel) ⟨(Nat.le_of_ble_eq_true rfl), (Nat.le_of_ble_eq_true rfl)⟩) hP hD hS (ci := 5) (q0 := 0) rfl rfl rfl hl rfl (Nat.le_of_ble_eq_true rfl) ⟨(Nat.le_of_ble_eq_true rfl), (Nat.le_of_ble_eq_true rfl)⟩ dL_setting_4) (fun E ce q9 H locs hE9 hP hD hS hce hcv hcl => ?_) (fun H locs hx0 hP hD hS => ?_)
  · have hP : va_P D vwCl (lo cs oa f :: ca_W cs ca c2) H := pmP lo_pm.symm hP
    have hD : va_D A (lo cs oa f :: ca_W cs ca c2) := pmD lo_pm.symm hD
    have hq := hL E hE9
    subst hE9
    rw [if_neg (show ¬ (some E = none) from fun h => by cases h)]
    rcases List.mem_cons.mp hq with hq | hq
    · subst hq
      refine vx_catch (own := RL) (name := IAE) hown (tableOf []) ⟨0, 9, 12, 13⟩ (tableOf []) (by rw [ht]; rfl) ?_ rfl (by decide) (hts (.classLink RL 13 IAE) (by decide +kernel)) (va_Nw.use rfl (hG.1.2.2.1 _ _ ct_IAE)) hce hcv hcl ?_
      · intro z hz
        exact absurd hz List.not_mem_nil
      · refine lv_astore_n (lv' := [(3, .ref q9), (0, .ref (ca 0 0)), (1, .int p0), (2, .ref oa)]) hx hb dL_setting_12 rfl hl (by decide) rfl (fun ls hl => ?_)
        refine lv_iconst (v := 1) hx hb dL_setting_13 (by decide) ?_
        exact kI_ret hE hS hP hD rfl (by decide) (Nat.le_of_ble_eq_true rfl) (Nat.le_of_ble_eq_true rfl) dL_setting_14
    exact absurd hq List.not_mem_nil
  · have hP : va_P D vwCl (lo cs oa f :: ca_W cs ca c2) H := pmP lo_pm.symm hP
    have hD : va_D A (lo cs oa f :: ca_W cs ca c2) := pmD lo_pm.symm hD
    subst hx0
    rw [if_pos rfl]
    refine lv_i2l hx hb dL_setting_7 rfl ?_
    refine va_last (n := 1) hx hb hK hP hD hS 0 4 rfl rfl (vp_in_iff.mpr (by decide)) dL_setting_8 (fun H locs hP hD hS => ?_)
    have hP : va_P D vwCl (lo cs oa (va_up f 0 r.toInt64) :: ca_W cs ca c2) H := hP
    have hD : va_D A (lo cs oa (va_up f 0 r.toInt64) :: ca_W cs ca c2) := hD
    refine lv_goto (tgt := 15) hx hb dL_setting_9 (by decide) ?_
    refine lv_iconst (v := 0) hx hb dL_setting_15 (by decide) ?_
    exact kI_ret hE hS hP hD rfl rfl (Nat.le_of_ble_eq_true rfl) (Nat.le_of_ble_eq_true rfl) dL_setting_16
set_option maxHeartbeats 4000000 in
set_option maxRecDepth 100000 in
theorem w_put (l : Launch) (hfl : l.stackTraces = false) (D : va_G) (cs : Nat → ClassId) (ca : Nat → Nat → Nat) (cv c2 : CV) (oa : Nat) (f : Nat → Int64) (p0 : Int32) (p1 : Int32) (p2 : Int32) (hC : CO cv) (x : Option String) (r : Int32) (e0 : k_X5_put cv p0 p1 p2 = (x, r, c2)) (hL : ∀ E, x = some E → E ∈ [IOB, IAE, ISE]) : kL l yL_put wsL_put { frames := 7, cells := 1, slots := 6, locals := 167 } 1 6 D cs [.ref (ca 0 0), .int p0, .int p1, .int p2, .ref oa] (lo cs oa f :: ca_W cs ca cv) (cod [IOB, IAE, ISE] x) (lo cs oa (if x = none then va_up f 0 r.toInt64 else f) :: ca_W cs ca c2) := by
  have hc := c_X5_put l hfl D cs ca cv p0 p1 p2 hC
  rw [e0] at hc
  dsimp only at hc
  refine kL_of (cc := cL_put) (maxL := 6) (ret := (some .int)) (hh := [(0, 12, 15, 28), (0, 12, 19, 13), (0, 12, 23, 15)]) (by decide) rfl (Nat.le_of_ble_eq_true rfl) ?_
  intro p e s m below meth c A ls H locs hE ht hX hS hP hD hl
  obtain ⟨hx, hb, hr, hlocks, hml, hown, hts, hK, hA, hG, hnm⟩ := id hE
  have hown : s.vm.findClass RL = some m.cls := hown
  have hl : lv_has ls 6 [(0, .ref (ca 0 0)), (1, .int p0), (2, .int p1), (3, .int p2), (4, .ref oa)] := hl
  refine lv_aload hx hb dL_put_0 (lv_at hl 4 rfl) ?_
  refine lv_iconst (v := 0) hx hb dL_put_2 (by decide) ?_
  refine lv_aload_n hx hb dL_put_3 rfl (lv_at hl 0 rfl) ?_
  refine lv_iload_n hx hb dL_put_4 rfl (lv_at hl 1 rfl) ?_
  refine lv_iload_n hx hb dL_put_5 rfl (lv_at hl 2 rfl) ?_
  refine lv_iload_n hx hb dL_put_6 rfl (lv_at hl 3 rfl) ?_
  have hP : va_P D vwCl (ca_W cs ca cv ++ [lo cs oa f]) H := pmP lo_pm hP
  have hD : va_D A (ca_W cs ca cv ++ [lo cs oa f]) := pmD lo_pm hD
  refine kX_call (wc := ca_W cs ca cv) (wr := [lo cs oa f]) (w1 := ca_W cs ca c2) (x := x) (r := r) hE hP hD hS (k_rX (rest := [.int 0, .ref oa]) (As := [.int p0, .int p1, .int p2]) hE rfl (hc H.size) (cwV 3 hts gL_put_X5_put rfl rfl rfl (by decide +kernel) ⟨(Nat.le_of_ble_eq_true rfl), (Nat.le_of_ble_eq_true rfl)⟩) hP hD hS (ci := 5) (q0 := 0) rfl rfl rfl hl rfl (Nat.le_of_ble_eq_true rfl) ⟨(Nat.le_of_ble_eq_true rfl), (Nat.le_of_ble_eq_true rfl)⟩ dL_put_7) (fun E ce q9 H locs hE9 hP hD hS hce hcv hcl => ?_) (fun H locs hx0 hP hD hS => ?_)
  · have hP : va_P D vwCl (lo cs oa f :: ca_W cs ca c2) H := pmP lo_pm.symm hP
    have hD : va_D A (lo cs oa f :: ca_W cs ca c2) := pmD lo_pm.symm hD
    have hq := hL E hE9
    subst hE9
    rw [if_neg (show ¬ (some E = none) from fun h => by cases h)]
    rcases List.mem_cons.mp hq with hq | hq
    · subst hq
      refine vx_catch (own := RL) (name := IOB) hown (tableOf []) ⟨0, 12, 15, 28⟩ (tableOf [(0, 12, 19, 13), (0, 12, 23, 15)]) (by rw [ht]; rfl) ?_ rfl (by decide) (hts (.classLink RL 28 IOB) (by decide +kernel)) (va_Nw.use rfl (hG.1.2.2.1 _ _ ct_IOB)) hce hcv hcl ?_
      · intro z hz
        exact absurd hz List.not_mem_nil
      · refine lv_astore (lv' := [(5, .ref q9), (0, .ref (ca 0 0)), (1, .int p0), (2, .int p1), (3, .int p2), (4, .ref oa)]) hx hb dL_put_15 hl (by decide) rfl (fun ls hl => ?_)
        refine lv_iconst (v := 1) hx hb dL_put_17 (by decide) ?_
        exact kI_ret hE hS hP hD rfl (by decide) (Nat.le_of_ble_eq_true rfl) (Nat.le_of_ble_eq_true rfl) dL_put_18
    rcases List.mem_cons.mp hq with hq | hq
    · subst hq
      refine vx_catch (own := RL) (name := IAE) hown (tableOf [(0, 12, 15, 28)]) ⟨0, 12, 19, 13⟩ (tableOf [(0, 12, 23, 15)]) (by rw [ht]; rfl) ?_ rfl (by decide) (hts (.classLink RL 13 IAE) (by decide +kernel)) (va_Nw.use rfl (hG.1.2.2.1 _ _ ct_IAE)) hce hcv hcl ?_
      · intro z hz
        rcases List.mem_cons.mp hz with hz | hz
        · subst hz
          exact Or.inr ⟨(by decide), IOB, hts (.classLink RL 28 IOB) (by decide +kernel), hX.2.2.1⟩
        exact absurd hz List.not_mem_nil
      · refine lv_astore (lv' := [(5, .ref q9), (0, .ref (ca 0 0)), (1, .int p0), (2, .int p1), (3, .int p2), (4, .ref oa)]) hx hb dL_put_19 hl (by decide) rfl (fun ls hl => ?_)
        refine lv_iconst (v := 2) hx hb dL_put_21 (by decide) ?_
        exact kI_ret hE hS hP hD rfl (by decide) (Nat.le_of_ble_eq_true rfl) (Nat.le_of_ble_eq_true rfl) dL_put_22
    rcases List.mem_cons.mp hq with hq | hq
    · subst hq
      refine vx_catch (own := RL) (name := ISE) hown (tableOf [(0, 12, 15, 28), (0, 12, 19, 13)]) ⟨0, 12, 23, 15⟩ (tableOf []) (by rw [ht]; rfl) ?_ rfl (by decide) (hts (.classLink RL 15 ISE) (by decide +kernel)) (va_Nw.use rfl (hG.1.2.2.1 _ _ ct_ISE)) hce hcv hcl ?_
      · intro z hz
        rcases List.mem_cons.mp hz with hz | hz
        · subst hz
          exact Or.inr ⟨(by decide), IOB, hts (.classLink RL 28 IOB) (by decide +kernel), hX.2.2.2⟩
        rcases List.mem_cons.mp hz with hz | hz
        · subst hz
          exact Or.inr ⟨(by decide), IAE, hts (.classLink RL 13 IAE) (by decide +kernel), hX.2.1⟩
        exact absurd hz List.not_mem_nil
      · refine lv_astore (lv' := [(5, .ref q9), (0, .ref (ca 0 0)), (1, .int p0), (2, .int p1), (3, .int p2), (4, .ref oa)]) hx hb dL_put_23 hl (by decide) rfl (fun ls hl => ?_)
        refine lv_iconst (v := 3) hx hb dL_put_25 (by decide) ?_
        exact kI_ret hE hS hP hD rfl (by decide) (Nat.le_of_ble_eq_true rfl) (Nat.le_of_ble_eq_true rfl) dL_put_26
    exact absurd hq List.not_mem_nil
  · have hP : va_P D vwCl (lo cs oa f :: ca_W cs ca c2) H := pmP lo_pm.symm hP
    have hD : va_D A (lo cs oa f :: ca_W cs ca c2) := pmD lo_pm.symm hD
    subst hx0
    rw [if_pos rfl]
    refine lv_i2l hx hb dL_put_10 rfl ?_
    refine va_last (n := 1) hx hb hK hP hD hS 0 4 rfl rfl (vp_in_iff.mpr (by decide)) dL_put_11 (fun H locs hP hD hS => ?_)
    have hP : va_P D vwCl (lo cs oa (va_up f 0 r.toInt64) :: ca_W cs ca c2) H := hP
    have hD : va_D A (lo cs oa (va_up f 0 r.toInt64) :: ca_W cs ca c2) := hD
    refine lv_goto (tgt := 27) hx hb dL_put_12 (by decide) ?_
    refine lv_iconst (v := 0) hx hb dL_put_27 (by decide) ?_
    exact kI_ret hE hS hP hD rfl rfl (Nat.le_of_ble_eq_true rfl) (Nat.le_of_ble_eq_true rfl) dL_put_28
set_option maxHeartbeats 4000000 in
set_option maxRecDepth 100000 in
theorem w_pull (l : Launch) (hfl : l.stackTraces = false) (D : va_G) (cs : Nat → ClassId) (ca : Nat → Nat → Nat) (cv c2 : CV) (oa : Nat) (f : Nat → Int64) (p0 : Int32) (p1 : Int32) (hC : CO cv) (x : Option String) (r : Int32) (e0 : k_X5_pull cv p0 p1 = (x, r, c2)) (hL : ∀ E, x = some E → E ∈ [IOB, ISE]) : kL l yL_pull wsL_pull { frames := 7, cells := 1, slots := 6, locals := 166 } 1 6 D cs [.ref (ca 0 0), .int p0, .int p1, .ref oa] (lo cs oa f :: ca_W cs ca cv) (cod [IOB, ISE] x) (lo cs oa (if x = none then va_up f 0 r.toInt64 else f) :: ca_W cs ca c2) := by
  have hc := c_X5_pull l hfl D cs ca cv p0 p1 hC
  rw [e0] at hc
  dsimp only at hc
  refine kL_of (cc := cL_pull) (maxL := 5) (ret := (some .int)) (hh := [(0, 10, 13, 28), (0, 10, 17, 15)]) (by decide) rfl (Nat.le_of_ble_eq_true rfl) ?_
  intro p e s m below meth c A ls H locs hE ht hX hS hP hD hl
  obtain ⟨hx, hb, hr, hlocks, hml, hown, hts, hK, hA, hG, hnm⟩ := id hE
  have hown : s.vm.findClass RL = some m.cls := hown
  have hl : lv_has ls 5 [(0, .ref (ca 0 0)), (1, .int p0), (2, .int p1), (3, .ref oa)] := hl
  refine lv_aload_n hx hb dL_pull_0 rfl (lv_at hl 3 rfl) ?_
  refine lv_iconst (v := 0) hx hb dL_pull_1 (by decide) ?_
  refine lv_aload_n hx hb dL_pull_2 rfl (lv_at hl 0 rfl) ?_
  refine lv_iload_n hx hb dL_pull_3 rfl (lv_at hl 1 rfl) ?_
  refine lv_iload_n hx hb dL_pull_4 rfl (lv_at hl 2 rfl) ?_
  have hP : va_P D vwCl (ca_W cs ca cv ++ [lo cs oa f]) H := pmP lo_pm hP
  have hD : va_D A (ca_W cs ca cv ++ [lo cs oa f]) := pmD lo_pm hD
  refine kX_call (wc := ca_W cs ca cv) (wr := [lo cs oa f]) (w1 := ca_W cs ca c2) (x := x) (r := r) hE hP hD hS (k_rX (rest := [.int 0, .ref oa]) (As := [.int p0, .int p1]) hE rfl (hc H.size) (cwV 2 hts gL_pull_X5_pull rfl rfl rfl (by decide +kernel) ⟨(Nat.le_of_ble_eq_true rfl), (Nat.le_of_ble_eq_true rfl)⟩) hP hD hS (ci := 5) (q0 := 0) rfl rfl rfl hl rfl (Nat.le_of_ble_eq_true rfl) ⟨(Nat.le_of_ble_eq_true rfl), (Nat.le_of_ble_eq_true rfl)⟩ dL_pull_5) (fun E ce q9 H locs hE9 hP hD hS hce hcv hcl => ?_) (fun H locs hx0 hP hD hS => ?_)
  · have hP : va_P D vwCl (lo cs oa f :: ca_W cs ca c2) H := pmP lo_pm.symm hP
    have hD : va_D A (lo cs oa f :: ca_W cs ca c2) := pmD lo_pm.symm hD
    have hq := hL E hE9
    subst hE9
    rw [if_neg (show ¬ (some E = none) from fun h => by cases h)]
    rcases List.mem_cons.mp hq with hq | hq
    · subst hq
      refine vx_catch (own := RL) (name := IOB) hown (tableOf []) ⟨0, 10, 13, 28⟩ (tableOf [(0, 10, 17, 15)]) (by rw [ht]; rfl) ?_ rfl (by decide) (hts (.classLink RL 28 IOB) (by decide +kernel)) (va_Nw.use rfl (hG.1.2.2.1 _ _ ct_IOB)) hce hcv hcl ?_
      · intro z hz
        exact absurd hz List.not_mem_nil
      · refine lv_astore (lv' := [(4, .ref q9), (0, .ref (ca 0 0)), (1, .int p0), (2, .int p1), (3, .ref oa)]) hx hb dL_pull_13 hl (by decide) rfl (fun ls hl => ?_)
        refine lv_iconst (v := 1) hx hb dL_pull_15 (by decide) ?_
        exact kI_ret hE hS hP hD rfl (by decide) (Nat.le_of_ble_eq_true rfl) (Nat.le_of_ble_eq_true rfl) dL_pull_16
    rcases List.mem_cons.mp hq with hq | hq
    · subst hq
      refine vx_catch (own := RL) (name := ISE) hown (tableOf [(0, 10, 13, 28)]) ⟨0, 10, 17, 15⟩ (tableOf []) (by rw [ht]; rfl) ?_ rfl (by decide) (hts (.classLink RL 15 ISE) (by decide +kernel)) (va_Nw.use rfl (hG.1.2.2.1 _ _ ct_ISE)) hce hcv hcl ?_
      · intro z hz
        rcases List.mem_cons.mp hz with hz | hz
        · subst hz
          exact Or.inr ⟨(by decide), IOB, hts (.classLink RL 28 IOB) (by decide +kernel), hX.2.2.2⟩
        exact absurd hz List.not_mem_nil
      · refine lv_astore (lv' := [(4, .ref q9), (0, .ref (ca 0 0)), (1, .int p0), (2, .int p1), (3, .ref oa)]) hx hb dL_pull_17 hl (by decide) rfl (fun ls hl => ?_)
        refine lv_iconst (v := 2) hx hb dL_pull_19 (by decide) ?_
        exact kI_ret hE hS hP hD rfl (by decide) (Nat.le_of_ble_eq_true rfl) (Nat.le_of_ble_eq_true rfl) dL_pull_20
    exact absurd hq List.not_mem_nil
  · have hP : va_P D vwCl (lo cs oa f :: ca_W cs ca c2) H := pmP lo_pm.symm hP
    have hD : va_D A (lo cs oa f :: ca_W cs ca c2) := pmD lo_pm.symm hD
    subst hx0
    rw [if_pos rfl]
    refine lv_i2l hx hb dL_pull_8 rfl ?_
    refine va_last (n := 1) hx hb hK hP hD hS 0 4 rfl rfl (vp_in_iff.mpr (by decide)) dL_pull_9 (fun H locs hP hD hS => ?_)
    have hP : va_P D vwCl (lo cs oa (va_up f 0 r.toInt64) :: ca_W cs ca c2) H := hP
    have hD : va_D A (lo cs oa (va_up f 0 r.toInt64) :: ca_W cs ca c2) := hD
    refine lv_goto (tgt := 21) hx hb dL_pull_10 (by decide) ?_
    refine lv_iconst (v := 0) hx hb dL_pull_21 (by decide) ?_
    exact kI_ret hE hS hP hD rfl rfl (Nat.le_of_ble_eq_true rfl) (Nat.le_of_ble_eq_true rfl) dL_pull_22
set_option maxHeartbeats 4000000 in
set_option maxRecDepth 100000 in
theorem w_cancel (l : Launch) (hfl : l.stackTraces = false) (D : va_G) (cs : Nat → ClassId) (ca : Nat → Nat → Nat) (cv c2 : CV) (oa : Nat) (f : Nat → Int64) (p0 : Int32) (hC : CO cv) (x : Option String) (r : Int32) (e0 : k_X5_cancel cv p0 = (x, r, c2)) (hL : ∀ E, x = some E → E ∈ [IOB]) : kL l yL_cancel wsL_cancel { frames := 7, cells := 1, slots := 6, locals := 165 } 1 6 D cs [.ref (ca 0 0), .int p0, .ref oa] (lo cs oa f :: ca_W cs ca cv) (cod [IOB] x) (lo cs oa (if x = none then va_up f 0 r.toInt64 else f) :: ca_W cs ca c2) := by
  have hc := c_X5_cancel l hfl D cs ca cv p0 hC
  rw [e0] at hc
  dsimp only at hc
  refine kL_of (cc := cL_cancel) (maxL := 4) (ret := (some .int)) (hh := [(0, 9, 12, 28)]) (by decide) rfl (Nat.le_of_ble_eq_true rfl) ?_
  intro p e s m below meth c A ls H locs hE ht hX hS hP hD hl
  obtain ⟨hx, hb, hr, hlocks, hml, hown, hts, hK, hA, hG, hnm⟩ := id hE
  have hown : s.vm.findClass RL = some m.cls := hown
  have hl : lv_has ls 4 [(0, .ref (ca 0 0)), (1, .int p0), (2, .ref oa)] := hl
  refine lv_aload_n hx hb dL_cancel_0 rfl (lv_at hl 2 rfl) ?_
  refine lv_iconst (v := 0) hx hb dL_cancel_1 (by decide) ?_
  refine lv_aload_n hx hb dL_cancel_2 rfl (lv_at hl 0 rfl) ?_
  refine lv_iload_n hx hb dL_cancel_3 rfl (lv_at hl 1 rfl) ?_
  have hP : va_P D vwCl (ca_W cs ca cv ++ [lo cs oa f]) H := pmP lo_pm hP
  have hD : va_D A (ca_W cs ca cv ++ [lo cs oa f]) := pmD lo_pm hD
  refine kX_call (wc := ca_W cs ca cv) (wr := [lo cs oa f]) (w1 := ca_W cs ca c2) (x := x) (r := r) hE hP hD hS (k_rX (rest := [.int 0, .ref oa]) (As := [.int p0]) hE rfl (hc H.size) (cwV 1 hts gL_cancel_X5_cancel rfl rfl rfl (by decide +kernel) ⟨(Nat.le_of_ble_eq_true rfl), (Nat.le_of_ble_eq_true rfl)⟩) hP hD hS (ci := 5) (q0 := 0) rfl rfl rfl hl rfl (Nat.le_of_ble_eq_true rfl) ⟨(Nat.le_of_ble_eq_true rfl), (Nat.le_of_ble_eq_true rfl)⟩ dL_cancel_4) (fun E ce q9 H locs hE9 hP hD hS hce hcv hcl => ?_) (fun H locs hx0 hP hD hS => ?_)
  · have hP : va_P D vwCl (lo cs oa f :: ca_W cs ca c2) H := pmP lo_pm.symm hP
    have hD : va_D A (lo cs oa f :: ca_W cs ca c2) := pmD lo_pm.symm hD
    have hq := hL E hE9
    subst hE9
    rw [if_neg (show ¬ (some E = none) from fun h => by cases h)]
    rcases List.mem_cons.mp hq with hq | hq
    · subst hq
      refine vx_catch (own := RL) (name := IOB) hown (tableOf []) ⟨0, 9, 12, 28⟩ (tableOf []) (by rw [ht]; rfl) ?_ rfl (by decide) (hts (.classLink RL 28 IOB) (by decide +kernel)) (va_Nw.use rfl (hG.1.2.2.1 _ _ ct_IOB)) hce hcv hcl ?_
      · intro z hz
        exact absurd hz List.not_mem_nil
      · refine lv_astore_n (lv' := [(3, .ref q9), (0, .ref (ca 0 0)), (1, .int p0), (2, .ref oa)]) hx hb dL_cancel_12 rfl hl (by decide) rfl (fun ls hl => ?_)
        refine lv_iconst (v := 1) hx hb dL_cancel_13 (by decide) ?_
        exact kI_ret hE hS hP hD rfl (by decide) (Nat.le_of_ble_eq_true rfl) (Nat.le_of_ble_eq_true rfl) dL_cancel_14
    exact absurd hq List.not_mem_nil
  · have hP : va_P D vwCl (lo cs oa f :: ca_W cs ca c2) H := pmP lo_pm.symm hP
    have hD : va_D A (lo cs oa f :: ca_W cs ca c2) := pmD lo_pm.symm hD
    subst hx0
    rw [if_pos rfl]
    refine lv_i2l hx hb dL_cancel_7 rfl ?_
    refine va_last (n := 1) hx hb hK hP hD hS 0 4 rfl rfl (vp_in_iff.mpr (by decide)) dL_cancel_8 (fun H locs hP hD hS => ?_)
    have hP : va_P D vwCl (lo cs oa (va_up f 0 r.toInt64) :: ca_W cs ca c2) H := hP
    have hD : va_D A (lo cs oa (va_up f 0 r.toInt64) :: ca_W cs ca c2) := hD
    refine lv_goto (tgt := 15) hx hb dL_cancel_9 (by decide) ?_
    refine lv_iconst (v := 0) hx hb dL_cancel_15 (by decide) ?_
    exact kI_ret hE hS hP hD rfl rfl (Nat.le_of_ble_eq_true rfl) (Nat.le_of_ble_eq_true rfl) dL_cancel_16
set_option maxHeartbeats 4000000 in
set_option maxRecDepth 100000 in
theorem w_ticks (l : Launch) (hfl : l.stackTraces = false) (D : va_G) (cs : Nat → ClassId) (ca : Nat → Nat → Nat) (cv c2 : CV) (oa : Nat) (f : Nat → Int64) (p0 : Int32) (hC : CO cv) (x : Option String) (r : Int32) (e0 : k_X5_ticks cv p0 = (x, r, c2)) (hL : ∀ E, x = some E → E ∈ [IAE]) : kL l yL_ticks wsL_ticks { frames := 7, cells := 1, slots := 6, locals := 173 } 1 6 D cs [.ref (ca 0 0), .int p0, .ref oa] (lo cs oa f :: ca_W cs ca cv) (cod [IAE] x) (lo cs oa (if x = none then va_up f 0 r.toInt64 else f) :: ca_W cs ca c2) := by
  have hc := c_X5_ticks l hfl D cs ca cv p0 hC
  rw [e0] at hc
  dsimp only at hc
  refine kL_of (cc := cL_ticks) (maxL := 4) (ret := (some .int)) (hh := [(0, 9, 12, 13)]) (by decide) rfl (Nat.le_of_ble_eq_true rfl) ?_
  intro p e s m below meth c A ls H locs hE ht hX hS hP hD hl
  obtain ⟨hx, hb, hr, hlocks, hml, hown, hts, hK, hA, hG, hnm⟩ := id hE
  have hown : s.vm.findClass RL = some m.cls := hown
  have hl : lv_has ls 4 [(0, .ref (ca 0 0)), (1, .int p0), (2, .ref oa)] := hl
  refine lv_aload_n hx hb dL_ticks_0 rfl (lv_at hl 2 rfl) ?_
  refine lv_iconst (v := 0) hx hb dL_ticks_1 (by decide) ?_
  refine lv_aload_n hx hb dL_ticks_2 rfl (lv_at hl 0 rfl) ?_
  refine lv_iload_n hx hb dL_ticks_3 rfl (lv_at hl 1 rfl) ?_
  have hP : va_P D vwCl (ca_W cs ca cv ++ [lo cs oa f]) H := pmP lo_pm hP
  have hD : va_D A (ca_W cs ca cv ++ [lo cs oa f]) := pmD lo_pm hD
  refine kX_call (wc := ca_W cs ca cv) (wr := [lo cs oa f]) (w1 := ca_W cs ca c2) (x := x) (r := r) hE hP hD hS (k_rX (rest := [.int 0, .ref oa]) (As := [.int p0]) hE rfl (hc H.size) (cwV 1 hts gL_ticks_X5_ticks rfl rfl rfl (by decide +kernel) ⟨(Nat.le_of_ble_eq_true rfl), (Nat.le_of_ble_eq_true rfl)⟩) hP hD hS (ci := 5) (q0 := 0) rfl rfl rfl hl rfl (Nat.le_of_ble_eq_true rfl) ⟨(Nat.le_of_ble_eq_true rfl), (Nat.le_of_ble_eq_true rfl)⟩ dL_ticks_4) (fun E ce q9 H locs hE9 hP hD hS hce hcv hcl => ?_) (fun H locs hx0 hP hD hS => ?_)
  · have hP : va_P D vwCl (lo cs oa f :: ca_W cs ca c2) H := pmP lo_pm.symm hP
    have hD : va_D A (lo cs oa f :: ca_W cs ca c2) := pmD lo_pm.symm hD
    have hq := hL E hE9
    subst hE9
    rw [if_neg (show ¬ (some E = none) from fun h => by cases h)]
    rcases List.mem_cons.mp hq with hq | hq
    · subst hq
      refine vx_catch (own := RL) (name := IAE) hown (tableOf []) ⟨0, 9, 12, 13⟩ (tableOf []) (by rw [ht]; rfl) ?_ rfl (by decide) (hts (.classLink RL 13 IAE) (by decide +kernel)) (va_Nw.use rfl (hG.1.2.2.1 _ _ ct_IAE)) hce hcv hcl ?_
      · intro z hz
        exact absurd hz List.not_mem_nil
      · refine lv_astore_n (lv' := [(3, .ref q9), (0, .ref (ca 0 0)), (1, .int p0), (2, .ref oa)]) hx hb dL_ticks_12 rfl hl (by decide) rfl (fun ls hl => ?_)
        refine lv_iconst (v := 1) hx hb dL_ticks_13 (by decide) ?_
        exact kI_ret hE hS hP hD rfl (by decide) (Nat.le_of_ble_eq_true rfl) (Nat.le_of_ble_eq_true rfl) dL_ticks_14
    exact absurd hq List.not_mem_nil
  · have hP : va_P D vwCl (lo cs oa f :: ca_W cs ca c2) H := pmP lo_pm.symm hP
    have hD : va_D A (lo cs oa f :: ca_W cs ca c2) := pmD lo_pm.symm hD
    subst hx0
    rw [if_pos rfl]
    refine lv_i2l hx hb dL_ticks_7 rfl ?_
    refine va_last (n := 1) hx hb hK hP hD hS 0 4 rfl rfl (vp_in_iff.mpr (by decide)) dL_ticks_8 (fun H locs hP hD hS => ?_)
    have hP : va_P D vwCl (lo cs oa (va_up f 0 r.toInt64) :: ca_W cs ca c2) H := hP
    have hD : va_D A (lo cs oa (va_up f 0 r.toInt64) :: ca_W cs ca c2) := hD
    refine lv_goto (tgt := 15) hx hb dL_ticks_9 (by decide) ?_
    refine lv_iconst (v := 0) hx hb dL_ticks_15 (by decide) ?_
    exact kI_ret hE hS hP hD rfl rfl (Nat.le_of_ble_eq_true rfl) (Nat.le_of_ble_eq_true rfl) dL_ticks_16
set_option maxHeartbeats 4000000 in
set_option maxRecDepth 100000 in
theorem w_set (l : Launch) (hfl : l.stackTraces = false) (D : va_G) (cs : Nat → ClassId) (ca : Nat → Nat → Nat) (cv c2 : CV) (oa : Nat) (f : Nat → Int64) (p0 : Int32) (p1 : Int32) (hC : CO cv) (x : Option String) (r : Int32) (e0 : k_X5_set cv p0 p1 = (x, r, c2)) (hL : ∀ E, x = some E → E ∈ [IAE]) : kL l yL_set wsL_set { frames := 7, cells := 1, slots := 6, locals := 166 } 1 6 D cs [.ref (ca 0 0), .int p0, .int p1, .ref oa] (lo cs oa f :: ca_W cs ca cv) (cod [IAE] x) (lo cs oa (if x = none then va_up f 0 r.toInt64 else f) :: ca_W cs ca c2) := by
  have hc := c_X5_set l hfl D cs ca cv p0 p1 hC
  rw [e0] at hc
  dsimp only at hc
  refine kL_of (cc := cL_set) (maxL := 5) (ret := (some .int)) (hh := [(0, 10, 13, 13)]) (by decide) rfl (Nat.le_of_ble_eq_true rfl) ?_
  intro p e s m below meth c A ls H locs hE ht hX hS hP hD hl
  obtain ⟨hx, hb, hr, hlocks, hml, hown, hts, hK, hA, hG, hnm⟩ := id hE
  have hown : s.vm.findClass RL = some m.cls := hown
  have hl : lv_has ls 5 [(0, .ref (ca 0 0)), (1, .int p0), (2, .int p1), (3, .ref oa)] := hl
  refine lv_aload_n hx hb dL_set_0 rfl (lv_at hl 3 rfl) ?_
  refine lv_iconst (v := 0) hx hb dL_set_1 (by decide) ?_
  refine lv_aload_n hx hb dL_set_2 rfl (lv_at hl 0 rfl) ?_
  refine lv_iload_n hx hb dL_set_3 rfl (lv_at hl 1 rfl) ?_
  refine lv_iload_n hx hb dL_set_4 rfl (lv_at hl 2 rfl) ?_
  have hP : va_P D vwCl (ca_W cs ca cv ++ [lo cs oa f]) H := pmP lo_pm hP
  have hD : va_D A (ca_W cs ca cv ++ [lo cs oa f]) := pmD lo_pm hD
  refine kX_call (wc := ca_W cs ca cv) (wr := [lo cs oa f]) (w1 := ca_W cs ca c2) (x := x) (r := r) hE hP hD hS (k_rX (rest := [.int 0, .ref oa]) (As := [.int p0, .int p1]) hE rfl (hc H.size) (cwV 2 hts gL_set_X5_set rfl rfl rfl (by decide +kernel) ⟨(Nat.le_of_ble_eq_true rfl), (Nat.le_of_ble_eq_true rfl)⟩) hP hD hS (ci := 5) (q0 := 0) rfl rfl rfl hl rfl (Nat.le_of_ble_eq_true rfl) ⟨(Nat.le_of_ble_eq_true rfl), (Nat.le_of_ble_eq_true rfl)⟩ dL_set_5) (fun E ce q9 H locs hE9 hP hD hS hce hcv hcl => ?_) (fun H locs hx0 hP hD hS => ?_)
  · have hP : va_P D vwCl (lo cs oa f :: ca_W cs ca c2) H := pmP lo_pm.symm hP
    have hD : va_D A (lo cs oa f :: ca_W cs ca c2) := pmD lo_pm.symm hD
    have hq := hL E hE9
    subst hE9
    rw [if_neg (show ¬ (some E = none) from fun h => by cases h)]
    rcases List.mem_cons.mp hq with hq | hq
    · subst hq
      refine vx_catch (own := RL) (name := IAE) hown (tableOf []) ⟨0, 10, 13, 13⟩ (tableOf []) (by rw [ht]; rfl) ?_ rfl (by decide) (hts (.classLink RL 13 IAE) (by decide +kernel)) (va_Nw.use rfl (hG.1.2.2.1 _ _ ct_IAE)) hce hcv hcl ?_
      · intro z hz
        exact absurd hz List.not_mem_nil
      · refine lv_astore (lv' := [(4, .ref q9), (0, .ref (ca 0 0)), (1, .int p0), (2, .int p1), (3, .ref oa)]) hx hb dL_set_13 hl (by decide) rfl (fun ls hl => ?_)
        refine lv_iconst (v := 1) hx hb dL_set_15 (by decide) ?_
        exact kI_ret hE hS hP hD rfl (by decide) (Nat.le_of_ble_eq_true rfl) (Nat.le_of_ble_eq_true rfl) dL_set_16
    exact absurd hq List.not_mem_nil
  · have hP : va_P D vwCl (lo cs oa f :: ca_W cs ca c2) H := pmP lo_pm.symm hP
    have hD : va_D A (lo cs oa f :: ca_W cs ca c2) := pmD lo_pm.symm hD
    subst hx0
    rw [if_pos rfl]
    refine lv_i2l hx hb dL_set_8 rfl ?_
    refine va_last (n := 1) hx hb hK hP hD hS 0 4 rfl rfl (vp_in_iff.mpr (by decide)) dL_set_9 (fun H locs hP hD hS => ?_)
    have hP : va_P D vwCl (lo cs oa (va_up f 0 r.toInt64) :: ca_W cs ca c2) H := hP
    have hD : va_D A (lo cs oa (va_up f 0 r.toInt64) :: ca_W cs ca c2) := hD
    refine lv_goto (tgt := 17) hx hb dL_set_10 (by decide) ?_
    refine lv_iconst (v := 0) hx hb dL_set_17 (by decide) ?_
    exact kI_ret hE hS hP hD rfl rfl (Nat.le_of_ble_eq_true rfl) (Nat.le_of_ble_eq_true rfl) dL_set_18
set_option maxHeartbeats 4000000 in
set_option maxRecDepth 100000 in
theorem w_undo (l : Launch) (hfl : l.stackTraces = false) (D : va_G) (cs : Nat → ClassId) (ca : Nat → Nat → Nat) (cv c2 : CV) (oa : Nat) (f : Nat → Int64) (hC : CO cv) (x : Option String) (r : Int32) (e0 : k_X5_undo cv = (x, r, c2)) (hL : ∀ E, x = some E → E ∈ [ISE]) : kL l yL_undo wsL_undo { frames := 7, cells := 1, slots := 6, locals := 164 } 1 6 D cs [.ref (ca 0 0), .ref oa] (lo cs oa f :: ca_W cs ca cv) (cod [ISE] x) (lo cs oa (if x = none then va_up f 0 r.toInt64 else f) :: ca_W cs ca c2) := by
  have hc := c_X5_undo l hfl D cs ca cv hC
  rw [e0] at hc
  dsimp only at hc
  refine kL_of (cc := cL_undo) (maxL := 3) (ret := (some .int)) (hh := [(0, 8, 11, 15)]) (by decide) rfl (Nat.le_of_ble_eq_true rfl) ?_
  intro p e s m below meth c A ls H locs hE ht hX hS hP hD hl
  obtain ⟨hx, hb, hr, hlocks, hml, hown, hts, hK, hA, hG, hnm⟩ := id hE
  have hown : s.vm.findClass RL = some m.cls := hown
  have hl : lv_has ls 3 [(0, .ref (ca 0 0)), (1, .ref oa)] := hl
  refine lv_aload_n hx hb dL_undo_0 rfl (lv_at hl 1 rfl) ?_
  refine lv_iconst (v := 0) hx hb dL_undo_1 (by decide) ?_
  refine lv_aload_n hx hb dL_undo_2 rfl (lv_at hl 0 rfl) ?_
  have hP : va_P D vwCl (ca_W cs ca cv ++ [lo cs oa f]) H := pmP lo_pm hP
  have hD : va_D A (ca_W cs ca cv ++ [lo cs oa f]) := pmD lo_pm hD
  refine kX_call (wc := ca_W cs ca cv) (wr := [lo cs oa f]) (w1 := ca_W cs ca c2) (x := x) (r := r) hE hP hD hS (k_rX (rest := [.int 0, .ref oa]) (As := []) hE rfl (hc H.size) (cwV 0 hts gL_undo_X5_undo rfl rfl rfl (by decide +kernel) ⟨(Nat.le_of_ble_eq_true rfl), (Nat.le_of_ble_eq_true rfl)⟩) hP hD hS (ci := 5) (q0 := 0) rfl rfl rfl hl rfl (Nat.le_of_ble_eq_true rfl) ⟨(Nat.le_of_ble_eq_true rfl), (Nat.le_of_ble_eq_true rfl)⟩ dL_undo_3) (fun E ce q9 H locs hE9 hP hD hS hce hcv hcl => ?_) (fun H locs hx0 hP hD hS => ?_)
  · have hP : va_P D vwCl (lo cs oa f :: ca_W cs ca c2) H := pmP lo_pm.symm hP
    have hD : va_D A (lo cs oa f :: ca_W cs ca c2) := pmD lo_pm.symm hD
    have hq := hL E hE9
    subst hE9
    rw [if_neg (show ¬ (some E = none) from fun h => by cases h)]
    rcases List.mem_cons.mp hq with hq | hq
    · subst hq
      refine vx_catch (own := RL) (name := ISE) hown (tableOf []) ⟨0, 8, 11, 15⟩ (tableOf []) (by rw [ht]; rfl) ?_ rfl (by decide) (hts (.classLink RL 15 ISE) (by decide +kernel)) (va_Nw.use rfl (hG.1.2.2.1 _ _ ct_ISE)) hce hcv hcl ?_
      · intro z hz
        exact absurd hz List.not_mem_nil
      · refine lv_astore_n (lv' := [(2, .ref q9), (0, .ref (ca 0 0)), (1, .ref oa)]) hx hb dL_undo_11 rfl hl (by decide) rfl (fun ls hl => ?_)
        refine lv_iconst (v := 1) hx hb dL_undo_12 (by decide) ?_
        exact kI_ret hE hS hP hD rfl (by decide) (Nat.le_of_ble_eq_true rfl) (Nat.le_of_ble_eq_true rfl) dL_undo_13
    exact absurd hq List.not_mem_nil
  · have hP : va_P D vwCl (lo cs oa f :: ca_W cs ca c2) H := pmP lo_pm.symm hP
    have hD : va_D A (lo cs oa f :: ca_W cs ca c2) := pmD lo_pm.symm hD
    subst hx0
    rw [if_pos rfl]
    refine lv_i2l hx hb dL_undo_6 rfl ?_
    refine va_last (n := 1) hx hb hK hP hD hS 0 4 rfl rfl (vp_in_iff.mpr (by decide)) dL_undo_7 (fun H locs hP hD hS => ?_)
    have hP : va_P D vwCl (lo cs oa (va_up f 0 r.toInt64) :: ca_W cs ca c2) H := hP
    have hD : va_D A (lo cs oa (va_up f 0 r.toInt64) :: ca_W cs ca c2) := hD
    refine lv_goto (tgt := 14) hx hb dL_undo_8 (by decide) ?_
    refine lv_iconst (v := 0) hx hb dL_undo_14 (by decide) ?_
    exact kI_ret hE hS hP hD rfl rfl (Nat.le_of_ble_eq_true rfl) (Nat.le_of_ble_eq_true rfl) dL_undo_15
set_option maxHeartbeats 4000000 in
set_option maxRecDepth 100000 in
theorem w_doneIn (l : Launch) (hfl : l.stackTraces = false) (D : va_G) (cs : Nat → ClassId) (ca : Nat → Nat → Nat) (cv c2 : CV) (oa : Nat) (f : Nat → Int64) (p0 : Int32) (hC : CO cv) (x : Option String) (r : Int32) (e0 : k_X5_doneIn cv p0 = (x, r, c2)) (hL : ∀ E, x = some E → E ∈ [IOB]) : kL l yL_doneIn wsL_doneIn { frames := 7, cells := 1, slots := 6, locals := 174 } 1 6 D cs [.ref (ca 0 0), .int p0, .ref oa] (lo cs oa f :: ca_W cs ca cv) (cod [IOB] x) (lo cs oa (if x = none then va_up f 0 r.toInt64 else f) :: ca_W cs ca c2) := by
  have hc := c_X5_doneIn l hfl D cs ca cv p0 hC
  rw [e0] at hc
  dsimp only at hc
  refine kL_of (cc := cL_doneIn) (maxL := 4) (ret := (some .int)) (hh := [(0, 9, 12, 28)]) (by decide) rfl (Nat.le_of_ble_eq_true rfl) ?_
  intro p e s m below meth c A ls H locs hE ht hX hS hP hD hl
  obtain ⟨hx, hb, hr, hlocks, hml, hown, hts, hK, hA, hG, hnm⟩ := id hE
  have hown : s.vm.findClass RL = some m.cls := hown
  have hl : lv_has ls 4 [(0, .ref (ca 0 0)), (1, .int p0), (2, .ref oa)] := hl
  refine lv_aload_n hx hb dL_doneIn_0 rfl (lv_at hl 2 rfl) ?_
  refine lv_iconst (v := 0) hx hb dL_doneIn_1 (by decide) ?_
  refine lv_aload_n hx hb dL_doneIn_2 rfl (lv_at hl 0 rfl) ?_
  refine lv_iload_n hx hb dL_doneIn_3 rfl (lv_at hl 1 rfl) ?_
  have hP : va_P D vwCl (ca_W cs ca cv ++ [lo cs oa f]) H := pmP lo_pm hP
  have hD : va_D A (ca_W cs ca cv ++ [lo cs oa f]) := pmD lo_pm hD
  refine kX_call (wc := ca_W cs ca cv) (wr := [lo cs oa f]) (w1 := ca_W cs ca c2) (x := x) (r := r) hE hP hD hS (k_rX (rest := [.int 0, .ref oa]) (As := [.int p0]) hE rfl (hc H.size) (cwV 1 hts gL_doneIn_X5_doneIn rfl rfl rfl (by decide +kernel) ⟨(Nat.le_of_ble_eq_true rfl), (Nat.le_of_ble_eq_true rfl)⟩) hP hD hS (ci := 5) (q0 := 0) rfl rfl rfl hl rfl (Nat.le_of_ble_eq_true rfl) ⟨(Nat.le_of_ble_eq_true rfl), (Nat.le_of_ble_eq_true rfl)⟩ dL_doneIn_4) (fun E ce q9 H locs hE9 hP hD hS hce hcv hcl => ?_) (fun H locs hx0 hP hD hS => ?_)
  · have hP : va_P D vwCl (lo cs oa f :: ca_W cs ca c2) H := pmP lo_pm.symm hP
    have hD : va_D A (lo cs oa f :: ca_W cs ca c2) := pmD lo_pm.symm hD
    have hq := hL E hE9
    subst hE9
    rw [if_neg (show ¬ (some E = none) from fun h => by cases h)]
    rcases List.mem_cons.mp hq with hq | hq
    · subst hq
      refine vx_catch (own := RL) (name := IOB) hown (tableOf []) ⟨0, 9, 12, 28⟩ (tableOf []) (by rw [ht]; rfl) ?_ rfl (by decide) (hts (.classLink RL 28 IOB) (by decide +kernel)) (va_Nw.use rfl (hG.1.2.2.1 _ _ ct_IOB)) hce hcv hcl ?_
      · intro z hz
        exact absurd hz List.not_mem_nil
      · refine lv_astore_n (lv' := [(3, .ref q9), (0, .ref (ca 0 0)), (1, .int p0), (2, .ref oa)]) hx hb dL_doneIn_12 rfl hl (by decide) rfl (fun ls hl => ?_)
        refine lv_iconst (v := 1) hx hb dL_doneIn_13 (by decide) ?_
        exact kI_ret hE hS hP hD rfl (by decide) (Nat.le_of_ble_eq_true rfl) (Nat.le_of_ble_eq_true rfl) dL_doneIn_14
    exact absurd hq List.not_mem_nil
  · have hP : va_P D vwCl (lo cs oa f :: ca_W cs ca c2) H := pmP lo_pm.symm hP
    have hD : va_D A (lo cs oa f :: ca_W cs ca c2) := pmD lo_pm.symm hD
    subst hx0
    rw [if_pos rfl]
    refine lv_i2l hx hb dL_doneIn_7 rfl ?_
    refine va_last (n := 1) hx hb hK hP hD hS 0 4 rfl rfl (vp_in_iff.mpr (by decide)) dL_doneIn_8 (fun H locs hP hD hS => ?_)
    have hP : va_P D vwCl (lo cs oa (va_up f 0 r.toInt64) :: ca_W cs ca c2) H := hP
    have hD : va_D A (lo cs oa (va_up f 0 r.toInt64) :: ca_W cs ca c2) := hD
    refine lv_goto (tgt := 15) hx hb dL_doneIn_9 (by decide) ?_
    refine lv_iconst (v := 0) hx hb dL_doneIn_15 (by decide) ?_
    exact kI_ret hE hS hP hD rfl rfl (Nat.le_of_ble_eq_true rfl) (Nat.le_of_ble_eq_true rfl) dL_doneIn_16
set_option maxHeartbeats 4000000 in
set_option maxRecDepth 100000 in
theorem w_soundsIn (l : Launch) (hfl : l.stackTraces = false) (D : va_G) (cs : Nat → ClassId) (ca : Nat → Nat → Nat) (cv c2 : CV) (oa : Nat) (f : Nat → Int64) (p0 : Int32) (hC : CO cv) (x : Option String) (r : Int32) (e0 : k_X5_soundsIn cv p0 = (x, r, c2)) (hL : ∀ E, x = some E → E ∈ [IOB]) : kL l yL_soundsIn wsL_soundsIn { frames := 7, cells := 1, slots := 6, locals := 174 } 1 6 D cs [.ref (ca 0 0), .int p0, .ref oa] (lo cs oa f :: ca_W cs ca cv) (cod [IOB] x) (lo cs oa (if x = none then va_up f 0 r.toInt64 else f) :: ca_W cs ca c2) := by
  have hc := c_X5_soundsIn l hfl D cs ca cv p0 hC
  rw [e0] at hc
  dsimp only at hc
  refine kL_of (cc := cL_soundsIn) (maxL := 4) (ret := (some .int)) (hh := [(0, 9, 12, 28)]) (by decide) rfl (Nat.le_of_ble_eq_true rfl) ?_
  intro p e s m below meth c A ls H locs hE ht hX hS hP hD hl
  obtain ⟨hx, hb, hr, hlocks, hml, hown, hts, hK, hA, hG, hnm⟩ := id hE
  have hown : s.vm.findClass RL = some m.cls := hown
  have hl : lv_has ls 4 [(0, .ref (ca 0 0)), (1, .int p0), (2, .ref oa)] := hl
  refine lv_aload_n hx hb dL_soundsIn_0 rfl (lv_at hl 2 rfl) ?_
  refine lv_iconst (v := 0) hx hb dL_soundsIn_1 (by decide) ?_
  refine lv_aload_n hx hb dL_soundsIn_2 rfl (lv_at hl 0 rfl) ?_
  refine lv_iload_n hx hb dL_soundsIn_3 rfl (lv_at hl 1 rfl) ?_
  have hP : va_P D vwCl (ca_W cs ca cv ++ [lo cs oa f]) H := pmP lo_pm hP
  have hD : va_D A (ca_W cs ca cv ++ [lo cs oa f]) := pmD lo_pm hD
  refine kX_call (wc := ca_W cs ca cv) (wr := [lo cs oa f]) (w1 := ca_W cs ca c2) (x := x) (r := r) hE hP hD hS (k_rX (rest := [.int 0, .ref oa]) (As := [.int p0]) hE rfl (hc H.size) (cwV 1 hts gL_soundsIn_X5_soundsIn rfl rfl rfl (by decide +kernel) ⟨(Nat.le_of_ble_eq_true rfl), (Nat.le_of_ble_eq_true rfl)⟩) hP hD hS (ci := 5) (q0 := 0) rfl rfl rfl hl rfl (Nat.le_of_ble_eq_true rfl) ⟨(Nat.le_of_ble_eq_true rfl), (Nat.le_of_ble_eq_true rfl)⟩ dL_soundsIn_4) (fun E ce q9 H locs hE9 hP hD hS hce hcv hcl => ?_) (fun H locs hx0 hP hD hS => ?_)
  · have hP : va_P D vwCl (lo cs oa f :: ca_W cs ca c2) H := pmP lo_pm.symm hP
    have hD : va_D A (lo cs oa f :: ca_W cs ca c2) := pmD lo_pm.symm hD
    have hq := hL E hE9
    subst hE9
    rw [if_neg (show ¬ (some E = none) from fun h => by cases h)]
    rcases List.mem_cons.mp hq with hq | hq
    · subst hq
      refine vx_catch (own := RL) (name := IOB) hown (tableOf []) ⟨0, 9, 12, 28⟩ (tableOf []) (by rw [ht]; rfl) ?_ rfl (by decide) (hts (.classLink RL 28 IOB) (by decide +kernel)) (va_Nw.use rfl (hG.1.2.2.1 _ _ ct_IOB)) hce hcv hcl ?_
      · intro z hz
        exact absurd hz List.not_mem_nil
      · refine lv_astore_n (lv' := [(3, .ref q9), (0, .ref (ca 0 0)), (1, .int p0), (2, .ref oa)]) hx hb dL_soundsIn_12 rfl hl (by decide) rfl (fun ls hl => ?_)
        refine lv_iconst (v := 1) hx hb dL_soundsIn_13 (by decide) ?_
        exact kI_ret hE hS hP hD rfl (by decide) (Nat.le_of_ble_eq_true rfl) (Nat.le_of_ble_eq_true rfl) dL_soundsIn_14
    exact absurd hq List.not_mem_nil
  · have hP : va_P D vwCl (lo cs oa f :: ca_W cs ca c2) H := pmP lo_pm.symm hP
    have hD : va_D A (lo cs oa f :: ca_W cs ca c2) := pmD lo_pm.symm hD
    subst hx0
    rw [if_pos rfl]
    refine lv_i2l hx hb dL_soundsIn_7 rfl ?_
    refine va_last (n := 1) hx hb hK hP hD hS 0 4 rfl rfl (vp_in_iff.mpr (by decide)) dL_soundsIn_8 (fun H locs hP hD hS => ?_)
    have hP : va_P D vwCl (lo cs oa (va_up f 0 r.toInt64) :: ca_W cs ca c2) H := hP
    have hD : va_D A (lo cs oa (va_up f 0 r.toInt64) :: ca_W cs ca c2) := hD
    refine lv_goto (tgt := 15) hx hb dL_soundsIn_9 (by decide) ?_
    refine lv_iconst (v := 0) hx hb dL_soundsIn_15 (by decide) ?_
    exact kI_ret hE hS hP hD rfl rfl (Nat.le_of_ble_eq_true rfl) (Nat.le_of_ble_eq_true rfl) dL_soundsIn_16
set_option maxHeartbeats 4000000 in
set_option maxRecDepth 100000 in
theorem w_leastSpeed (l : Launch) (hfl : l.stackTraces = false) (D : va_G) (cs : Nat → ClassId) (ca : Nat → Nat → Nat) (cv c2 : CV) (oa : Nat) (f : Nat → Int64) (p0 : Int32) (hC : CO cv) (x : Option String) (r : Int32) (e0 : k_X5_leastSpeed cv p0 = (x, r, c2)) (hL : ∀ E, x = some E → E ∈ [IAE]) : kL l yL_leastSpeed wsL_leastSpeed { frames := 7, cells := 1, slots := 6, locals := 174 } 1 6 D cs [.ref (ca 0 0), .int p0, .ref oa] (lo cs oa f :: ca_W cs ca cv) (cod [IAE] x) (lo cs oa (if x = none then va_up f 0 r.toInt64 else f) :: ca_W cs ca c2) := by
  have hc := c_X5_leastSpeed l hfl D cs ca cv p0 hC
  rw [e0] at hc
  dsimp only at hc
  refine kL_of (cc := cL_leastSpeed) (maxL := 4) (ret := (some .int)) (hh := [(0, 9, 12, 13)]) (by decide) rfl (Nat.le_of_ble_eq_true rfl) ?_
  intro p e s m below meth c A ls H locs hE ht hX hS hP hD hl
  obtain ⟨hx, hb, hr, hlocks, hml, hown, hts, hK, hA, hG, hnm⟩ := id hE
  have hown : s.vm.findClass RL = some m.cls := hown
  have hl : lv_has ls 4 [(0, .ref (ca 0 0)), (1, .int p0), (2, .ref oa)] := hl
  refine lv_aload_n hx hb dL_leastSpeed_0 rfl (lv_at hl 2 rfl) ?_
  refine lv_iconst (v := 0) hx hb dL_leastSpeed_1 (by decide) ?_
  refine lv_aload_n hx hb dL_leastSpeed_2 rfl (lv_at hl 0 rfl) ?_
  refine lv_iload_n hx hb dL_leastSpeed_3 rfl (lv_at hl 1 rfl) ?_
  have hP : va_P D vwCl (ca_W cs ca cv ++ [lo cs oa f]) H := pmP lo_pm hP
  have hD : va_D A (ca_W cs ca cv ++ [lo cs oa f]) := pmD lo_pm hD
  refine kX_call (wc := ca_W cs ca cv) (wr := [lo cs oa f]) (w1 := ca_W cs ca c2) (x := x) (r := r) hE hP hD hS (k_rX (rest := [.int 0, .ref oa]) (As := [.int p0]) hE rfl (hc H.size) (cwV 1 hts gL_leastSpeed_X5_leastSpeed rfl rfl rfl (by decide +kernel) ⟨(Nat.le_of_ble_eq_true rfl), (Nat.le_of_ble_eq_true rfl)⟩) hP hD hS (ci := 5) (q0 := 0) rfl rfl rfl hl rfl (Nat.le_of_ble_eq_true rfl) ⟨(Nat.le_of_ble_eq_true rfl), (Nat.le_of_ble_eq_true rfl)⟩ dL_leastSpeed_4) (fun E ce q9 H locs hE9 hP hD hS hce hcv hcl => ?_) (fun H locs hx0 hP hD hS => ?_)
  · have hP : va_P D vwCl (lo cs oa f :: ca_W cs ca c2) H := pmP lo_pm.symm hP
    have hD : va_D A (lo cs oa f :: ca_W cs ca c2) := pmD lo_pm.symm hD
    have hq := hL E hE9
    subst hE9
    rw [if_neg (show ¬ (some E = none) from fun h => by cases h)]
    rcases List.mem_cons.mp hq with hq | hq
    · subst hq
      refine vx_catch (own := RL) (name := IAE) hown (tableOf []) ⟨0, 9, 12, 13⟩ (tableOf []) (by rw [ht]; rfl) ?_ rfl (by decide) (hts (.classLink RL 13 IAE) (by decide +kernel)) (va_Nw.use rfl (hG.1.2.2.1 _ _ ct_IAE)) hce hcv hcl ?_
      · intro z hz
        exact absurd hz List.not_mem_nil
      · refine lv_astore_n (lv' := [(3, .ref q9), (0, .ref (ca 0 0)), (1, .int p0), (2, .ref oa)]) hx hb dL_leastSpeed_12 rfl hl (by decide) rfl (fun ls hl => ?_)
        refine lv_iconst (v := 1) hx hb dL_leastSpeed_13 (by decide) ?_
        exact kI_ret hE hS hP hD rfl (by decide) (Nat.le_of_ble_eq_true rfl) (Nat.le_of_ble_eq_true rfl) dL_leastSpeed_14
    exact absurd hq List.not_mem_nil
  · have hP : va_P D vwCl (lo cs oa f :: ca_W cs ca c2) H := pmP lo_pm.symm hP
    have hD : va_D A (lo cs oa f :: ca_W cs ca c2) := pmD lo_pm.symm hD
    subst hx0
    rw [if_pos rfl]
    refine lv_i2l hx hb dL_leastSpeed_7 rfl ?_
    refine va_last (n := 1) hx hb hK hP hD hS 0 4 rfl rfl (vp_in_iff.mpr (by decide)) dL_leastSpeed_8 (fun H locs hP hD hS => ?_)
    have hP : va_P D vwCl (lo cs oa (va_up f 0 r.toInt64) :: ca_W cs ca c2) H := hP
    have hD : va_D A (lo cs oa (va_up f 0 r.toInt64) :: ca_W cs ca c2) := hD
    refine lv_goto (tgt := 15) hx hb dL_leastSpeed_9 (by decide) ?_
    refine lv_iconst (v := 0) hx hb dL_leastSpeed_15 (by decide) ?_
    exact kI_ret hE hS hP hD rfl rfl (Nat.le_of_ble_eq_true rfl) (Nat.le_of_ble_eq_true rfl) dL_leastSpeed_16
set_option maxHeartbeats 4000000 in
set_option maxRecDepth 100000 in
theorem w_room (l : Launch) (hfl : l.stackTraces = false) (D : va_G) (cs : Nat → ClassId) (ca : Nat → Nat → Nat) (cv c2 : CV) (oa : Nat) (f : Nat → Int64) (p0 : Int32) (p1 : Int32) (hC : CO cv) (x : Option String) (r : Int32) (e0 : k_X5_room cv p0 p1 = (x, r, c2)) (hL : ∀ E, x = some E → E ∈ [IOB, IAE]) : kL l yL_room wsL_room { frames := 7, cells := 1, slots := 6, locals := 105 } 1 6 D cs [.ref (ca 0 0), .int p0, .int p1, .ref oa] (lo cs oa f :: ca_W cs ca cv) (cod [IOB, IAE] x) (lo cs oa (if x = none then va_up f 0 r.toInt64 else f) :: ca_W cs ca c2) := by
  have hc := c_X5_room l hfl D cs ca cv p0 p1 hC
  rw [e0] at hc
  dsimp only at hc
  refine kL_of (cc := cL_room) (maxL := 5) (ret := (some .int)) (hh := [(0, 10, 13, 28), (0, 10, 17, 13)]) (by decide) rfl (Nat.le_of_ble_eq_true rfl) ?_
  intro p e s m below meth c A ls H locs hE ht hX hS hP hD hl
  obtain ⟨hx, hb, hr, hlocks, hml, hown, hts, hK, hA, hG, hnm⟩ := id hE
  have hown : s.vm.findClass RL = some m.cls := hown
  have hl : lv_has ls 5 [(0, .ref (ca 0 0)), (1, .int p0), (2, .int p1), (3, .ref oa)] := hl
  refine lv_aload_n hx hb dL_room_0 rfl (lv_at hl 3 rfl) ?_
  refine lv_iconst (v := 0) hx hb dL_room_1 (by decide) ?_
  refine lv_aload_n hx hb dL_room_2 rfl (lv_at hl 0 rfl) ?_
  refine lv_iload_n hx hb dL_room_3 rfl (lv_at hl 1 rfl) ?_
  refine lv_iload_n hx hb dL_room_4 rfl (lv_at hl 2 rfl) ?_
  have hP : va_P D vwCl (ca_W cs ca cv ++ [lo cs oa f]) H := pmP lo_pm hP
  have hD : va_D A (ca_W cs ca cv ++ [lo cs oa f]) := pmD lo_pm hD
  refine kX_call (wc := ca_W cs ca cv) (wr := [lo cs oa f]) (w1 := ca_W cs ca c2) (x := x) (r := r) hE hP hD hS (k_rX (rest := [.int 0, .ref oa]) (As := [.int p0, .int p1]) hE rfl (hc H.size) (cwV 2 hts gL_room_X5_room rfl rfl rfl (by decide +kernel) ⟨(Nat.le_of_ble_eq_true rfl), (Nat.le_of_ble_eq_true rfl)⟩) hP hD hS (ci := 5) (q0 := 0) rfl rfl rfl hl rfl (Nat.le_of_ble_eq_true rfl) ⟨(Nat.le_of_ble_eq_true rfl), (Nat.le_of_ble_eq_true rfl)⟩ dL_room_5) (fun E ce q9 H locs hE9 hP hD hS hce hcv hcl => ?_) (fun H locs hx0 hP hD hS => ?_)
  · have hP : va_P D vwCl (lo cs oa f :: ca_W cs ca c2) H := pmP lo_pm.symm hP
    have hD : va_D A (lo cs oa f :: ca_W cs ca c2) := pmD lo_pm.symm hD
    have hq := hL E hE9
    subst hE9
    rw [if_neg (show ¬ (some E = none) from fun h => by cases h)]
    rcases List.mem_cons.mp hq with hq | hq
    · subst hq
      refine vx_catch (own := RL) (name := IOB) hown (tableOf []) ⟨0, 10, 13, 28⟩ (tableOf [(0, 10, 17, 13)]) (by rw [ht]; rfl) ?_ rfl (by decide) (hts (.classLink RL 28 IOB) (by decide +kernel)) (va_Nw.use rfl (hG.1.2.2.1 _ _ ct_IOB)) hce hcv hcl ?_
      · intro z hz
        exact absurd hz List.not_mem_nil
      · refine lv_astore (lv' := [(4, .ref q9), (0, .ref (ca 0 0)), (1, .int p0), (2, .int p1), (3, .ref oa)]) hx hb dL_room_13 hl (by decide) rfl (fun ls hl => ?_)
        refine lv_iconst (v := 1) hx hb dL_room_15 (by decide) ?_
        exact kI_ret hE hS hP hD rfl (by decide) (Nat.le_of_ble_eq_true rfl) (Nat.le_of_ble_eq_true rfl) dL_room_16
    rcases List.mem_cons.mp hq with hq | hq
    · subst hq
      refine vx_catch (own := RL) (name := IAE) hown (tableOf [(0, 10, 13, 28)]) ⟨0, 10, 17, 13⟩ (tableOf []) (by rw [ht]; rfl) ?_ rfl (by decide) (hts (.classLink RL 13 IAE) (by decide +kernel)) (va_Nw.use rfl (hG.1.2.2.1 _ _ ct_IAE)) hce hcv hcl ?_
      · intro z hz
        rcases List.mem_cons.mp hz with hz | hz
        · subst hz
          exact Or.inr ⟨(by decide), IOB, hts (.classLink RL 28 IOB) (by decide +kernel), hX.2.2.1⟩
        exact absurd hz List.not_mem_nil
      · refine lv_astore (lv' := [(4, .ref q9), (0, .ref (ca 0 0)), (1, .int p0), (2, .int p1), (3, .ref oa)]) hx hb dL_room_17 hl (by decide) rfl (fun ls hl => ?_)
        refine lv_iconst (v := 2) hx hb dL_room_19 (by decide) ?_
        exact kI_ret hE hS hP hD rfl (by decide) (Nat.le_of_ble_eq_true rfl) (Nat.le_of_ble_eq_true rfl) dL_room_20
    exact absurd hq List.not_mem_nil
  · have hP : va_P D vwCl (lo cs oa f :: ca_W cs ca c2) H := pmP lo_pm.symm hP
    have hD : va_D A (lo cs oa f :: ca_W cs ca c2) := pmD lo_pm.symm hD
    subst hx0
    rw [if_pos rfl]
    refine lv_i2l hx hb dL_room_8 rfl ?_
    refine va_last (n := 1) hx hb hK hP hD hS 0 4 rfl rfl (vp_in_iff.mpr (by decide)) dL_room_9 (fun H locs hP hD hS => ?_)
    have hP : va_P D vwCl (lo cs oa (va_up f 0 r.toInt64) :: ca_W cs ca c2) H := hP
    have hD : va_D A (lo cs oa (va_up f 0 r.toInt64) :: ca_W cs ca c2) := hD
    refine lv_goto (tgt := 21) hx hb dL_room_10 (by decide) ?_
    refine lv_iconst (v := 0) hx hb dL_room_21 (by decide) ?_
    exact kI_ret hE hS hP hD rfl rfl (Nat.le_of_ble_eq_true rfl) (Nat.le_of_ble_eq_true rfl) dL_room_22
set_option maxHeartbeats 4000000 in
set_option maxRecDepth 100000 in
theorem w_runScript (l : Launch) (hfl : l.stackTraces = false) (D : va_G) (cs : Nat → ClassId) (ca : Nat → Nat → Nat) (cv c2 : CV) (oa : Nat) (f : Nat → Int64) (p0 : Int32) (p1 : Int64) (hC : CO cv) (x : Option String) (r : Int32) (e0 : k_X5_runScript cv p0 p1 = (x, r, c2)) (hL : ∀ E, x = some E → E ∈ [IAE]) : kL l yL_runScript wsL_runScript { frames := 8, cells := 1, slots := 6, locals := 204 } 1 6 D cs [.ref (ca 0 0), .int p0, .long p1, .ref oa] (lo cs oa f :: ca_W cs ca cv) (cod [IAE] x) (lo cs oa (if x = none then va_up f 0 r.toInt64 else f) :: ca_W cs ca c2) := by
  have hc := c_X5_runScript l hfl D cs ca cv p0 p1 hC
  rw [e0] at hc
  dsimp only at hc
  refine kL_of (cc := cL_runScript) (maxL := 6) (ret := (some .int)) (hh := [(0, 11, 14, 13)]) (by decide) rfl (Nat.le_of_ble_eq_true rfl) ?_
  intro p e s m below meth c A ls H locs hE ht hX hS hP hD hl
  obtain ⟨hx, hb, hr, hlocks, hml, hown, hts, hK, hA, hG, hnm⟩ := id hE
  have hown : s.vm.findClass RL = some m.cls := hown
  have hl : lv_has ls 6 [(0, .ref (ca 0 0)), (1, .int p0), (2, .long p1), (4, .ref oa)] := hl
  refine lv_aload hx hb dL_runScript_0 (lv_at hl 3 rfl) ?_
  refine lv_iconst (v := 0) hx hb dL_runScript_2 (by decide) ?_
  refine lv_aload_n hx hb dL_runScript_3 rfl (lv_at hl 0 rfl) ?_
  refine lv_iload_n hx hb dL_runScript_4 rfl (lv_at hl 1 rfl) ?_
  refine lv_lload_n hx hb dL_runScript_5 rfl (lv_at hl 2 rfl) ?_
  have hP : va_P D vwCl (ca_W cs ca cv ++ [lo cs oa f]) H := pmP lo_pm hP
  have hD : va_D A (ca_W cs ca cv ++ [lo cs oa f]) := pmD lo_pm hD
  refine kX_call (wc := ca_W cs ca cv) (wr := [lo cs oa f]) (w1 := ca_W cs ca c2) (x := x) (r := r) hE hP hD hS (k_rX (rest := [.int 0, .ref oa]) (As := [.int p0, .long p1]) hE rfl (hc H.size) (cwV 2 hts gL_runScript_X5_runScript rfl rfl rfl (by decide +kernel) ⟨(Nat.le_of_ble_eq_true rfl), (Nat.le_of_ble_eq_true rfl)⟩) hP hD hS (ci := 5) (q0 := 0) rfl rfl rfl hl rfl (Nat.le_of_ble_eq_true rfl) ⟨(Nat.le_of_ble_eq_true rfl), (Nat.le_of_ble_eq_true rfl)⟩ dL_runScript_6) (fun E ce q9 H locs hE9 hP hD hS hce hcv hcl => ?_) (fun H locs hx0 hP hD hS => ?_)
  · have hP : va_P D vwCl (lo cs oa f :: ca_W cs ca c2) H := pmP lo_pm.symm hP
    have hD : va_D A (lo cs oa f :: ca_W cs ca c2) := pmD lo_pm.symm hD
    have hq := hL E hE9
    subst hE9
    rw [if_neg (show ¬ (some E = none) from fun h => by cases h)]
    rcases List.mem_cons.mp hq with hq | hq
    · subst hq
      refine vx_catch (own := RL) (name := IAE) hown (tableOf []) ⟨0, 11, 14, 13⟩ (tableOf []) (by rw [ht]; rfl) ?_ rfl (by decide) (hts (.classLink RL 13 IAE) (by decide +kernel)) (va_Nw.use rfl (hG.1.2.2.1 _ _ ct_IAE)) hce hcv hcl ?_
      · intro z hz
        exact absurd hz List.not_mem_nil
      · refine lv_astore (lv' := [(5, .ref q9), (0, .ref (ca 0 0)), (1, .int p0), (2, .long p1), (4, .ref oa)]) hx hb dL_runScript_14 hl (by decide) rfl (fun ls hl => ?_)
        refine lv_iconst (v := 1) hx hb dL_runScript_16 (by decide) ?_
        exact kI_ret hE hS hP hD rfl (by decide) (Nat.le_of_ble_eq_true rfl) (Nat.le_of_ble_eq_true rfl) dL_runScript_17
    exact absurd hq List.not_mem_nil
  · have hP : va_P D vwCl (lo cs oa f :: ca_W cs ca c2) H := pmP lo_pm.symm hP
    have hD : va_D A (lo cs oa f :: ca_W cs ca c2) := pmD lo_pm.symm hD
    subst hx0
    rw [if_pos rfl]
    refine lv_i2l hx hb dL_runScript_9 rfl ?_
    refine va_last (n := 1) hx hb hK hP hD hS 0 4 rfl rfl (vp_in_iff.mpr (by decide)) dL_runScript_10 (fun H locs hP hD hS => ?_)
    have hP : va_P D vwCl (lo cs oa (va_up f 0 r.toInt64) :: ca_W cs ca c2) H := hP
    have hD : va_D A (lo cs oa (va_up f 0 r.toInt64) :: ca_W cs ca c2) := hD
    refine lv_goto (tgt := 18) hx hb dL_runScript_11 (by decide) ?_
    refine lv_iconst (v := 0) hx hb dL_runScript_18 (by decide) ?_
    exact kI_ret hE hS hP hD rfl rfl (Nat.le_of_ble_eq_true rfl) (Nat.le_of_ble_eq_true rfl) dL_runScript_19
set_option maxHeartbeats 4000000 in
set_option maxRecDepth 100000 in
theorem w_simulate (l : Launch) (hfl : l.stackTraces = false) (D : va_G) (cs : Nat → ClassId) (ca : Nat → Nat → Nat) (cv c2 : CV) (oa : Nat) (f : Nat → Int64) (p0 : Int64) (p1 : Int32) (hC : CO cv) (x : Option String) (r : Int32) (e0 : k_X5_simulate cv p0 p1 = (x, r, c2)) (hL : ∀ E, x = some E → E ∈ [IAE]) : kL l yL_simulate wsL_simulate { frames := 8, cells := 1, slots := 6, locals := 201 } 1 6 D cs [.ref (ca 0 0), .long p0, .int p1, .ref oa] (lo cs oa f :: ca_W cs ca cv) (cod [IAE] x) (lo cs oa (if x = none then va_up f 0 r.toInt64 else f) :: ca_W cs ca c2) := by
  have hc := c_X5_simulate l hfl D cs ca cv p0 p1 hC
  rw [e0] at hc
  dsimp only at hc
  refine kL_of (cc := cL_simulate) (maxL := 6) (ret := (some .int)) (hh := [(0, 11, 14, 13)]) (by decide) rfl (Nat.le_of_ble_eq_true rfl) ?_
  intro p e s m below meth c A ls H locs hE ht hX hS hP hD hl
  obtain ⟨hx, hb, hr, hlocks, hml, hown, hts, hK, hA, hG, hnm⟩ := id hE
  have hown : s.vm.findClass RL = some m.cls := hown
  have hl : lv_has ls 6 [(0, .ref (ca 0 0)), (1, .long p0), (3, .int p1), (4, .ref oa)] := hl
  refine lv_aload hx hb dL_simulate_0 (lv_at hl 3 rfl) ?_
  refine lv_iconst (v := 0) hx hb dL_simulate_2 (by decide) ?_
  refine lv_aload_n hx hb dL_simulate_3 rfl (lv_at hl 0 rfl) ?_
  refine lv_lload_n hx hb dL_simulate_4 rfl (lv_at hl 1 rfl) ?_
  refine lv_iload_n hx hb dL_simulate_5 rfl (lv_at hl 2 rfl) ?_
  have hP : va_P D vwCl (ca_W cs ca cv ++ [lo cs oa f]) H := pmP lo_pm hP
  have hD : va_D A (ca_W cs ca cv ++ [lo cs oa f]) := pmD lo_pm hD
  refine kX_call (wc := ca_W cs ca cv) (wr := [lo cs oa f]) (w1 := ca_W cs ca c2) (x := x) (r := r) hE hP hD hS (k_rX (rest := [.int 0, .ref oa]) (As := [.long p0, .int p1]) hE rfl (hc H.size) (cwV 2 hts gL_simulate_X5_simulate rfl rfl rfl (by decide +kernel) ⟨(Nat.le_of_ble_eq_true rfl), (Nat.le_of_ble_eq_true rfl)⟩) hP hD hS (ci := 5) (q0 := 0) rfl rfl rfl hl rfl (Nat.le_of_ble_eq_true rfl) ⟨(Nat.le_of_ble_eq_true rfl), (Nat.le_of_ble_eq_true rfl)⟩ dL_simulate_6) (fun E ce q9 H locs hE9 hP hD hS hce hcv hcl => ?_) (fun H locs hx0 hP hD hS => ?_)
  · have hP : va_P D vwCl (lo cs oa f :: ca_W cs ca c2) H := pmP lo_pm.symm hP
    have hD : va_D A (lo cs oa f :: ca_W cs ca c2) := pmD lo_pm.symm hD
    have hq := hL E hE9
    subst hE9
    rw [if_neg (show ¬ (some E = none) from fun h => by cases h)]
    rcases List.mem_cons.mp hq with hq | hq
    · subst hq
      refine vx_catch (own := RL) (name := IAE) hown (tableOf []) ⟨0, 11, 14, 13⟩ (tableOf []) (by rw [ht]; rfl) ?_ rfl (by decide) (hts (.classLink RL 13 IAE) (by decide +kernel)) (va_Nw.use rfl (hG.1.2.2.1 _ _ ct_IAE)) hce hcv hcl ?_
      · intro z hz
        exact absurd hz List.not_mem_nil
      · refine lv_astore (lv' := [(5, .ref q9), (0, .ref (ca 0 0)), (1, .long p0), (3, .int p1), (4, .ref oa)]) hx hb dL_simulate_14 hl (by decide) rfl (fun ls hl => ?_)
        refine lv_iconst (v := 1) hx hb dL_simulate_16 (by decide) ?_
        exact kI_ret hE hS hP hD rfl (by decide) (Nat.le_of_ble_eq_true rfl) (Nat.le_of_ble_eq_true rfl) dL_simulate_17
    exact absurd hq List.not_mem_nil
  · have hP : va_P D vwCl (lo cs oa f :: ca_W cs ca c2) H := pmP lo_pm.symm hP
    have hD : va_D A (lo cs oa f :: ca_W cs ca c2) := pmD lo_pm.symm hD
    subst hx0
    rw [if_pos rfl]
    refine lv_i2l hx hb dL_simulate_9 rfl ?_
    refine va_last (n := 1) hx hb hK hP hD hS 0 4 rfl rfl (vp_in_iff.mpr (by decide)) dL_simulate_10 (fun H locs hP hD hS => ?_)
    have hP : va_P D vwCl (lo cs oa (va_up f 0 r.toInt64) :: ca_W cs ca c2) H := hP
    have hD : va_D A (lo cs oa (va_up f 0 r.toInt64) :: ca_W cs ca c2) := hD
    refine lv_goto (tgt := 18) hx hb dL_simulate_11 (by decide) ?_
    refine lv_iconst (v := 0) hx hb dL_simulate_18 (by decide) ?_
    exact kI_ret hE hS hP hD rfl rfl (Nat.le_of_ble_eq_true rfl) (Nat.le_of_ble_eq_true rfl) dL_simulate_19
set_option maxHeartbeats 4000000 in
set_option maxRecDepth 100000 in
theorem w_save (l : Launch) (hfl : l.stackTraces = false) (D : va_G) (cs : Nat → ClassId) (ca : Nat → Nat → Nat) (cv c2 : CV) (oa : Nat) (f : Nat → Int64) (p0 : Int32) (hC : CO cv) (x : Option String) (r : Int32) (e0 : k_X5_save cv p0 = (x, r, c2)) (hL : ∀ E, x = some E → E ∈ [IOB]) : kL l yL_save wsL_save { frames := 7, cells := 1, slots := 6, locals := 166 } 1 6 D cs [.ref (ca 0 0), .int p0, .ref oa] (lo cs oa f :: ca_W cs ca cv) (cod [IOB] x) (lo cs oa (if x = none then va_up f 0 r.toInt64 else f) :: ca_W cs ca c2) := by
  have hc := c_X5_save l hfl D cs ca cv p0 hC
  rw [e0] at hc
  dsimp only at hc
  refine kL_of (cc := cL_save) (maxL := 4) (ret := (some .int)) (hh := [(0, 9, 12, 28)]) (by decide) rfl (Nat.le_of_ble_eq_true rfl) ?_
  intro p e s m below meth c A ls H locs hE ht hX hS hP hD hl
  obtain ⟨hx, hb, hr, hlocks, hml, hown, hts, hK, hA, hG, hnm⟩ := id hE
  have hown : s.vm.findClass RL = some m.cls := hown
  have hl : lv_has ls 4 [(0, .ref (ca 0 0)), (1, .int p0), (2, .ref oa)] := hl
  refine lv_aload_n hx hb dL_save_0 rfl (lv_at hl 2 rfl) ?_
  refine lv_iconst (v := 0) hx hb dL_save_1 (by decide) ?_
  refine lv_aload_n hx hb dL_save_2 rfl (lv_at hl 0 rfl) ?_
  refine lv_iload_n hx hb dL_save_3 rfl (lv_at hl 1 rfl) ?_
  have hP : va_P D vwCl (ca_W cs ca cv ++ [lo cs oa f]) H := pmP lo_pm hP
  have hD : va_D A (ca_W cs ca cv ++ [lo cs oa f]) := pmD lo_pm hD
  refine kX_call (wc := ca_W cs ca cv) (wr := [lo cs oa f]) (w1 := ca_W cs ca c2) (x := x) (r := r) hE hP hD hS (k_rX (rest := [.int 0, .ref oa]) (As := [.int p0]) hE rfl (hc H.size) (cwV 1 hts gL_save_X5_save rfl rfl rfl (by decide +kernel) ⟨(Nat.le_of_ble_eq_true rfl), (Nat.le_of_ble_eq_true rfl)⟩) hP hD hS (ci := 5) (q0 := 0) rfl rfl rfl hl rfl (Nat.le_of_ble_eq_true rfl) ⟨(Nat.le_of_ble_eq_true rfl), (Nat.le_of_ble_eq_true rfl)⟩ dL_save_4) (fun E ce q9 H locs hE9 hP hD hS hce hcv hcl => ?_) (fun H locs hx0 hP hD hS => ?_)
  · have hP : va_P D vwCl (lo cs oa f :: ca_W cs ca c2) H := pmP lo_pm.symm hP
    have hD : va_D A (lo cs oa f :: ca_W cs ca c2) := pmD lo_pm.symm hD
    have hq := hL E hE9
    subst hE9
    rw [if_neg (show ¬ (some E = none) from fun h => by cases h)]
    rcases List.mem_cons.mp hq with hq | hq
    · subst hq
      refine vx_catch (own := RL) (name := IOB) hown (tableOf []) ⟨0, 9, 12, 28⟩ (tableOf []) (by rw [ht]; rfl) ?_ rfl (by decide) (hts (.classLink RL 28 IOB) (by decide +kernel)) (va_Nw.use rfl (hG.1.2.2.1 _ _ ct_IOB)) hce hcv hcl ?_
      · intro z hz
        exact absurd hz List.not_mem_nil
      · refine lv_astore_n (lv' := [(3, .ref q9), (0, .ref (ca 0 0)), (1, .int p0), (2, .ref oa)]) hx hb dL_save_12 rfl hl (by decide) rfl (fun ls hl => ?_)
        refine lv_iconst (v := 1) hx hb dL_save_13 (by decide) ?_
        exact kI_ret hE hS hP hD rfl (by decide) (Nat.le_of_ble_eq_true rfl) (Nat.le_of_ble_eq_true rfl) dL_save_14
    exact absurd hq List.not_mem_nil
  · have hP : va_P D vwCl (lo cs oa f :: ca_W cs ca c2) H := pmP lo_pm.symm hP
    have hD : va_D A (lo cs oa f :: ca_W cs ca c2) := pmD lo_pm.symm hD
    subst hx0
    rw [if_pos rfl]
    refine lv_i2l hx hb dL_save_7 rfl ?_
    refine va_last (n := 1) hx hb hK hP hD hS 0 4 rfl rfl (vp_in_iff.mpr (by decide)) dL_save_8 (fun H locs hP hD hS => ?_)
    have hP : va_P D vwCl (lo cs oa (va_up f 0 r.toInt64) :: ca_W cs ca c2) H := hP
    have hD : va_D A (lo cs oa (va_up f 0 r.toInt64) :: ca_W cs ca c2) := hD
    refine lv_goto (tgt := 15) hx hb dL_save_9 (by decide) ?_
    refine lv_iconst (v := 0) hx hb dL_save_15 (by decide) ?_
    exact kI_ret hE hS hP hD rfl rfl (Nat.le_of_ble_eq_true rfl) (Nat.le_of_ble_eq_true rfl) dL_save_16
set_option maxHeartbeats 4000000 in
set_option maxRecDepth 100000 in
theorem w_restore (l : Launch) (hfl : l.stackTraces = false) (D : va_G) (cs : Nat → ClassId) (ca : Nat → Nat → Nat) (cv c2 : CV) (oa : Nat) (f : Nat → Int64) (p0 : Int32) (hC : CO cv) (x : Option String) (r : Int32) (e0 : k_X5_restore cv p0 = (x, r, c2)) (hL : ∀ E, x = some E → E ∈ [IOB, ISE]) : kL l yL_restore wsL_restore { frames := 7, cells := 1, slots := 6, locals := 166 } 1 6 D cs [.ref (ca 0 0), .int p0, .ref oa] (lo cs oa f :: ca_W cs ca cv) (cod [IOB, ISE] x) (lo cs oa (if x = none then va_up f 0 r.toInt64 else f) :: ca_W cs ca c2) := by
  have hc := c_X5_restore l hfl D cs ca cv p0 hC
  rw [e0] at hc
  dsimp only at hc
  refine kL_of (cc := cL_restore) (maxL := 4) (ret := (some .int)) (hh := [(0, 9, 12, 28), (0, 9, 15, 15)]) (by decide) rfl (Nat.le_of_ble_eq_true rfl) ?_
  intro p e s m below meth c A ls H locs hE ht hX hS hP hD hl
  obtain ⟨hx, hb, hr, hlocks, hml, hown, hts, hK, hA, hG, hnm⟩ := id hE
  have hown : s.vm.findClass RL = some m.cls := hown
  have hl : lv_has ls 4 [(0, .ref (ca 0 0)), (1, .int p0), (2, .ref oa)] := hl
  refine lv_aload_n hx hb dL_restore_0 rfl (lv_at hl 2 rfl) ?_
  refine lv_iconst (v := 0) hx hb dL_restore_1 (by decide) ?_
  refine lv_aload_n hx hb dL_restore_2 rfl (lv_at hl 0 rfl) ?_
  refine lv_iload_n hx hb dL_restore_3 rfl (lv_at hl 1 rfl) ?_
  have hP : va_P D vwCl (ca_W cs ca cv ++ [lo cs oa f]) H := pmP lo_pm hP
  have hD : va_D A (ca_W cs ca cv ++ [lo cs oa f]) := pmD lo_pm hD
  refine kX_call (wc := ca_W cs ca cv) (wr := [lo cs oa f]) (w1 := ca_W cs ca c2) (x := x) (r := r) hE hP hD hS (k_rX (rest := [.int 0, .ref oa]) (As := [.int p0]) hE rfl (hc H.size) (cwV 1 hts gL_restore_X5_restore rfl rfl rfl (by decide +kernel) ⟨(Nat.le_of_ble_eq_true rfl), (Nat.le_of_ble_eq_true rfl)⟩) hP hD hS (ci := 5) (q0 := 0) rfl rfl rfl hl rfl (Nat.le_of_ble_eq_true rfl) ⟨(Nat.le_of_ble_eq_true rfl), (Nat.le_of_ble_eq_true rfl)⟩ dL_restore_4) (fun E ce q9 H locs hE9 hP hD hS hce hcv hcl => ?_) (fun H locs hx0 hP hD hS => ?_)
  · have hP : va_P D vwCl (lo cs oa f :: ca_W cs ca c2) H := pmP lo_pm.symm hP
    have hD : va_D A (lo cs oa f :: ca_W cs ca c2) := pmD lo_pm.symm hD
    have hq := hL E hE9
    subst hE9
    rw [if_neg (show ¬ (some E = none) from fun h => by cases h)]
    rcases List.mem_cons.mp hq with hq | hq
    · subst hq
      refine vx_catch (own := RL) (name := IOB) hown (tableOf []) ⟨0, 9, 12, 28⟩ (tableOf [(0, 9, 15, 15)]) (by rw [ht]; rfl) ?_ rfl (by decide) (hts (.classLink RL 28 IOB) (by decide +kernel)) (va_Nw.use rfl (hG.1.2.2.1 _ _ ct_IOB)) hce hcv hcl ?_
      · intro z hz
        exact absurd hz List.not_mem_nil
      · refine lv_astore_n (lv' := [(3, .ref q9), (0, .ref (ca 0 0)), (1, .int p0), (2, .ref oa)]) hx hb dL_restore_12 rfl hl (by decide) rfl (fun ls hl => ?_)
        refine lv_iconst (v := 1) hx hb dL_restore_13 (by decide) ?_
        exact kI_ret hE hS hP hD rfl (by decide) (Nat.le_of_ble_eq_true rfl) (Nat.le_of_ble_eq_true rfl) dL_restore_14
    rcases List.mem_cons.mp hq with hq | hq
    · subst hq
      refine vx_catch (own := RL) (name := ISE) hown (tableOf [(0, 9, 12, 28)]) ⟨0, 9, 15, 15⟩ (tableOf []) (by rw [ht]; rfl) ?_ rfl (by decide) (hts (.classLink RL 15 ISE) (by decide +kernel)) (va_Nw.use rfl (hG.1.2.2.1 _ _ ct_ISE)) hce hcv hcl ?_
      · intro z hz
        rcases List.mem_cons.mp hz with hz | hz
        · subst hz
          exact Or.inr ⟨(by decide), IOB, hts (.classLink RL 28 IOB) (by decide +kernel), hX.2.2.2⟩
        exact absurd hz List.not_mem_nil
      · refine lv_astore_n (lv' := [(3, .ref q9), (0, .ref (ca 0 0)), (1, .int p0), (2, .ref oa)]) hx hb dL_restore_15 rfl hl (by decide) rfl (fun ls hl => ?_)
        refine lv_iconst (v := 2) hx hb dL_restore_16 (by decide) ?_
        exact kI_ret hE hS hP hD rfl (by decide) (Nat.le_of_ble_eq_true rfl) (Nat.le_of_ble_eq_true rfl) dL_restore_17
    exact absurd hq List.not_mem_nil
  · have hP : va_P D vwCl (lo cs oa f :: ca_W cs ca c2) H := pmP lo_pm.symm hP
    have hD : va_D A (lo cs oa f :: ca_W cs ca c2) := pmD lo_pm.symm hD
    subst hx0
    rw [if_pos rfl]
    refine lv_i2l hx hb dL_restore_7 rfl ?_
    refine va_last (n := 1) hx hb hK hP hD hS 0 4 rfl rfl (vp_in_iff.mpr (by decide)) dL_restore_8 (fun H locs hP hD hS => ?_)
    have hP : va_P D vwCl (lo cs oa (va_up f 0 r.toInt64) :: ca_W cs ca c2) H := hP
    have hD : va_D A (lo cs oa (va_up f 0 r.toInt64) :: ca_W cs ca c2) := hD
    refine lv_goto (tgt := 18) hx hb dL_restore_9 (by decide) ?_
    refine lv_iconst (v := 0) hx hb dL_restore_18 (by decide) ?_
    exact kI_ret hE hS hP hD rfl rfl (Nat.le_of_ble_eq_true rfl) (Nat.le_of_ble_eq_true rfl) dL_restore_19
