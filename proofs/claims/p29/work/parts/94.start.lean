/-! From the Statement's words to what the layer takes for granted. -/
theorem tbl_in : ∀ w ∈ tables_1, w ∈ lw_tbl := fun w h => List.mem_append_right _ h
theorem start_str {args : Array Value} {s : State} {own tx : String} {k : Nat} (h : (Cond.stringRef own k tx).before args s = true) : ∃ a, vk_R own k tx a s := by
  cases hc : s.vm.findClass own with
  | none => exact absurd h (by simp [Cond.before, Cond.holds, Cond.value, hc])
  | some cur =>
    obtain ⟨_, _, _, a, -, -, -, -, -, he⟩ := Cond.stringRef_spec hc h
    exact ⟨a, vk_R.of h he⟩
theorem start_Gv {args : Array Value} {s : State} (hts : ∀ w ∈ lw_tbl, w.before args s = true) : Gv s := ⟨fun a i b n d h hm => va_Nw.of rfl (hts _ (tbl_in _ hm)), fun a i x h hm => va_Nw.of rfl (hts _ (tbl_in _ hm)), fun C T hm => va_Nw.of rfl (hts _ (tbl_in _ hm)), fun x hm => va_Nw.of rfl (hts _ (tbl_in _ hm)), fun own k tx hm => start_str (hts _ (tbl_in _ hm))⟩
theorem start_XA {args : Array Value} {s : State} (hts : ∀ w ∈ lw_tbl, w.before args s = true) (hgv : (Jvm.Cond.and given_1 narrow_1).before args s = true) : XA s := by
  have hs := flat_of_before _ hgv
  exact ⟨va_AO.of (hts (.arrayOver (.object RX1)) (tbl_in _ (by decide +kernel))), va_Nc.of (hs (.not (.castable ISE IAE)) (by decide +kernel)), va_Nc.of (hs (.not (.castable IAE IOB)) (by decide +kernel)), va_Nc.of (hs (.not (.castable ISE IOB)) (by decide +kernel))⟩
theorem eq_iv {args : Array Value} {s : State} {t : Term} {x : Int32} (h : (Cond.eq t (.int x)).before args s = true) : t.eval args s none [] s = some (.int x) := by
  unfold Cond.before at h
  simp only [Cond.holds, Cond.value, Term.eval] at h
  cases ht : t.eval args s none [] s with
  | none => simp [ht] at h
  | some v =>
    cases v with
    | int y => simp [ht] at h; rw [h]
    | _ => simp [ht] at h
abbrev smT : Term := .static "OrganPegs" "SETTING_MOST" "[I"
theorem start_Gh {args : Array Value} {s : State} (hts : ∀ w ∈ lw_tbl, w.before args s = true) (hgv : (Jvm.Cond.and given_1 narrow_1).before args s = true) : Gh (lwA s) s s.heap := by
  have hs := flat_of_before _ hgv
  have hA : ∀ a : Nat, a < s.heap.size → ¬ lwA s a := fun a h => Nat.not_le.mpr h
  have h0 := eq_iv (hs (.eq (.elem smT (.int 0)) (.int 3)) (by decide +kernel))
  have h1 := eq_iv (hs (.eq (.elem smT (.int 1)) (.int 9)) (by decide +kernel))
  have h2 := eq_iv (hs (.eq (.elem smT (.int 2)) (.int 60)) (by decide +kernel))
  have hl := eq_iv (hs (.eq (.length smT) (.int 3)) (by decide +kernel))
  obtain ⟨t, ht, hT⟩ := va_Tof (N := 3) (f := sm_f) (tm := smT) (ty := .int) (A := lwA s) (by decide) (hs (.arrayOf smT .int) (by decide +kernel)) hl (fun j hj => by
    rcases (show j = 0 ∨ j = 1 ∨ j = 2 by omega) with rfl | rfl | rfl
    · exact h0
    · exact h1
    · exact h2) hA
  exact ⟨⟨t, va_Zof (hts (.laysStatic "OrganPegs" "SETTING_MOST" "[I") (tbl_in _ (by decide +kernel))) (hts (.initialized "OrganPegs") (tbl_in _ (by decide +kernel))) ht hA, hT⟩, vx_Zqof (hts (.laysStatic Bundle.tN "UNASSIGNED_STACK" Bundle.steD) (tbl_in _ (by decide +kernel))) (hts (.initialized Bundle.tN) (tbl_in _ (by decide +kernel))) (hs (.isRef (.static Bundle.tN "UNASSIGNED_STACK" Bundle.steD)) (by decide +kernel)) hA, vx_Zqof (hts (.laysStatic Bundle.tN "SUPPRESSED_SENTINEL" Bundle.listD) (tbl_in _ (by decide +kernel))) (hts (.initialized Bundle.tN) (tbl_in _ (by decide +kernel))) (hs (.isRef (.static Bundle.tN "SUPPRESSED_SENTINEL" Bundle.listD)) (by decide +kernel)) hA, start_XA hts hgv⟩
theorem start_arr {args : Array Value} {s : State} {ty : FieldType} (hty : ∀ C, ty ≠ .object C) (h : (Cond.arrayClass ty).before args s = true) : ∃ cA : ClassId, ArrOfT s cA ty ∧ va_RA s cA ty := by
  obtain ⟨cA, kA, comp, h1, h2, h3⟩ := Cond.arrayClass_spec h
  refine ⟨cA, fun n z => ⟨fun k h => (by cases h), kA, h2, comp, h3⟩, ?_⟩
  cases ty with
  | object C => exact absurd rfl (hty C)
  | _ => exact h1
theorem start_org {s : State} (h : va_AO RX1 s) : ∃ cA : ClassId, ArrOfT s cA (.object RX1) ∧ va_RA s cA (.object RX1) := by
  obtain ⟨comp, cA, kA, h1, h2, h3, h4, h5⟩ := Cond.arrayOver_spec h
  exact ⟨cA, fun n z => ⟨fun k h => (by cases h), kA, h3, comp, h4⟩, kA, comp, h3, h4, h1, h5⟩
theorem start_K {args : Array Value} {s : State} (hts : ∀ w ∈ lw_tbl, w.before args s = true) (hO : va_AO RX1 s) (i0 : ∀ w ∈ wsX00, w ∈ lw_tbl) (i1 : ∀ w ∈ wsX10, w ∈ lw_tbl) (i2 : ∀ w ∈ wsX20, w ∈ lw_tbl) (i3 : ∀ w ∈ wsX30, w ∈ lw_tbl) (i4 : ∀ w ∈ wsX40, w ∈ lw_tbl) (i5 : ∀ w ∈ wsX50, w ∈ lw_tbl) : ∃ (D : va_G) (cs : Nat → ClassId), va_K D vwCl (tyS cs) s := by
  obtain ⟨c0, j0, k0⟩ := u_known (C := RX0) (T := TX0) (N := 3) (n := 3) hts i0 (hts (.instantiable RX0 3) (tbl_in _ (by decide +kernel)))
  obtain ⟨c1, j1, k1⟩ := u_known (C := RX1) (T := TX1) (N := 17) (n := 17) hts i1 (hts (.instantiable RX1 17) (tbl_in _ (by decide +kernel)))
  obtain ⟨c2, j2, k2⟩ := u_known (C := RX2) (T := TX2) (N := 8) (n := 8) hts i2 (hts (.instantiable RX2 8) (tbl_in _ (by decide +kernel)))
  obtain ⟨c3, j3, k3⟩ := u_known (C := RX3) (T := TX3) (N := 2) (n := 2) hts i3 (hts (.instantiable RX3 2) (tbl_in _ (by decide +kernel)))
  obtain ⟨c4, j4, k4⟩ := u_known (C := RX4) (T := TX4) (N := 4) (n := 4) hts i4 (hts (.instantiable RX4 4) (tbl_in _ (by decide +kernel)))
  obtain ⟨c5, j5, k5⟩ := u_known (C := RX5) (T := TX5) (N := 6) (n := 6) hts i5 (hts (.instantiable RX5 6) (tbl_in _ (by decide +kernel)))
  obtain ⟨a0, b0⟩ := start_arr (ty := .int) (fun C h => by cases h) (hts (.arrayClass .int) (tbl_in _ (by decide +kernel)))
  obtain ⟨a1, b1⟩ := start_arr (ty := .char) (fun C h => by cases h) (hts (.arrayClass .char) (tbl_in _ (by decide +kernel)))
  obtain ⟨a2, b2⟩ := start_arr (ty := .boolean) (fun C h => by cases h) (hts (.arrayClass .boolean) (tbl_in _ (by decide +kernel)))
  obtain ⟨a3, b3⟩ := start_org hO
  refine ⟨(fun k => if k = 0 then c0 else if k = 1 then c1 else if k = 2 then c2 else if k = 3 then c3 else if k = 4 then c4 else c5, fun k => if k = 0 then j0 else if k = 1 then j1 else if k = 2 then j2 else if k = 3 then j3 else if k = 4 then j4 else j5), fun k => if k = 0 then a0 else if k = 1 then a1 else if k = 2 then a2 else a3, ?_, ?_⟩
  · intro k q hq
    match k, hq with
    | 0, hq => cases hq; exact k0
    | 1, hq => cases hq; exact k1
    | 2, hq => cases hq; exact k2
    | 3, hq => cases hq; exact k3
    | 4, hq => cases hq; exact k4
    | 5, hq => cases hq; exact k5
    | k + 6, hq => simp [vwCl] at hq
  · intro k q hq
    match k, hq with
    | 0, hq => cases hq; exact b0
    | 1, hq => cases hq; exact b1
    | 2, hq => cases hq; exact b2
    | 3, hq => cases hq; exact b3
    | k + 4, hq => simp [tyS] at hq
