/-! Layer 2: a tick, ticks. -/
def wnd (o : OV) : OV := o_s o 4 (x_mmin ((o.1 4) + (2 * ((o.2.2 5) 0))) ((o.2.2 5) 2))
def tkC (o : OV) : OV := k_X1_blowPipes (k_X1_lookAtOrders (wnd (k_X1_turnCrank (o_s o 0 ((o.1 0) + 1)))))
/-- the reference's row before the orders are looked at -/
def crS (s : Nat → Int32) (r w : Int32) : Nat → Int32 := va_up (va_up (va_up (va_up (va_up s 2 ((s 2) + 1)) 3 ((s 3) + (s 12))) 4 ((s 4) + r)) 3 (((s 3) + (s 12)) - ((s 3) + (s 12)) / 24 * 24)) 6 w
theorem crank_R {o : OV} {s : Nat → Int32} {N M : Nat} {r w : Int32} (h : RC o s N M) (hr : r = if (s 3 + s 12) < 24 then 0 else 1) (hw : w = if s 14 < s 6 + 2 * s 12 then s 14 else s 6 + 2 * s 12) : RC (wnd (k_X1_turnCrank (o_s o 0 ((o.1 0) + 1)))) (crS s r w) N M ∧ (wnd (k_X1_turnCrank (o_s o 0 ((o.1 0) + 1)))).1 9 = o.1 9 ∧ wO (wnd (k_X1_turnCrank (o_s o 0 ((o.1 0) + 1)))) = wO o ∧ wS (crS s r w) = wS s := by
  obtain ⟨⟨⟨n1, n2, n3⟩, ⟨m1, m2, m3⟩, hp, hv, hd, hC, ho, hq⟩, hD, hH, hS⟩ := h
  obtain ⟨b1, b2, b3, b4, b5, b6, b7, b8, c, hc, b9⟩ := hS
  obtain ⟨d1, d2, d3, ⟨a, ha, d4⟩, d5, d6⟩ := hD
  have u : ∀ j, j ≠ 2 → j ≠ 3 → j ≠ 4 → j ≠ 6 → crS s r w j = s j := by
    intro j h1 h2 h3 h4
    unfold crS
    rw [va_ne h4, va_ne h2, va_ne h3, va_ne h2, va_ne h1]
  have z2 : crS s r w 2 = s 2 + 1 := by unfold crS; simp (disch := omega) only [va_ne, va_eq]
  have z3 : crS s r w 3 = nI ((c + a) % 24) := by
    unfold crS
    rw [va_ne (by omega), va_eq, b9, d4, nI_add]
    exact nI_mod (b := 24) (by omega) (by omega) (by omega)
  have z4 : crS s r w 4 = s 4 + r := by unfold crS; simp (disch := omega) only [va_ne, va_eq]
  have z6 : crS s r w 6 = w := by unfold crS; simp (disch := omega) only [va_ne, va_eq]
  have eP : eqP s (crS s r w) := fun i h1 h2 => u i (by omega) (by omega) (by omega) (by omega)
  have f5 : ∀ j, j < 3 → o.2.2 5 j = s (12 + j) := d3
  -- the class's side
  have hcr : ∃ c1 c2 : Int32, k_X1_turnCrank (o_s o 0 ((o.1 0) + 1)) = o_s (o_s (o_s o 0 (o.1 0 + 1)) 1 c1) 2 c2 ∧ c1 = nI ((c + a) % 24) ∧ c2 = s 4 + r := by
    have e0 : (o_s o 0 ((o.1 0) + 1)).1 1 = nI c := b2.trans b9
    have e5 : (o_s o 0 ((o.1 0) + 1)).2.2 5 0 = nI a := (d3 0 (by omega)).trans d4
    have e2 : (o_s o 0 ((o.1 0) + 1)).1 2 = s 4 := b3
    unfold k_X1_turnCrank
    rw [e0, e5, nI_add]
    rw [b9, d4, nI_add] at hr
    by_cases hlt : c + a < 24
    · rw [if_pos (show nI (c + a) < 24 from nI_lt (b := 24) hlt (by omega))]
      rw [if_pos (show nI (c + a) < 24 from nI_lt (b := 24) hlt (by omega))] at hr
      refine ⟨nI (c + a), s 4, ?_, by rw [Nat.mod_eq_of_lt hlt], by rw [hr, Int32.add_zero]⟩
      rw [← e2]
      unfold o_s
      refine Prod.ext (funext fun j => ?_) rfl
      unfold va_up
      by_cases h : j = 2 <;> simp [h]
    · rw [if_neg (show ¬ nI (c + a) < 24 from nI_nlt (b := 24) (by omega) (by omega))]
      rw [if_neg (show ¬ nI (c + a) < 24 from nI_nlt (b := 24) (by omega) (by omega))] at hr
      refine ⟨nI (c + a - 24), s 4 + 1, ?_, by rw [show (c + a) % 24 = c + a - 24 by omega], by rw [hr]⟩
      rw [show nI (c + a) - 24 = nI (c + a - 24) from nI_sub (a := c + a) (b := 24) (by omega), ← e2]
  obtain ⟨c1, c2, hcr, hc1, hc2⟩ := hcr
  rw [hcr]
  unfold wnd
  have ew : x_mmin (((o_s (o_s (o_s o 0 (o.1 0 + 1)) 1 c1) 2 c2).1 4) + (2 * (((o_s (o_s (o_s o 0 (o.1 0 + 1)) 1 c1) 2 c2).2.2 5) 0))) (((o_s (o_s (o_s o 0 (o.1 0 + 1)) 1 c1) 2 c2).2.2 5) 2) = w := by
    rw [hw]
    show x_mmin (o.1 4 + 2 * o.2.2 5 0) (o.2.2 5 2) = _
    rw [b5, d3 0 (by omega), d3 2 (by omega)]
  rw [ew]
  have v : ∀ j, j ≠ 0 → j ≠ 1 → j ≠ 2 → j ≠ 4 → (o_s (o_s (o_s (o_s o 0 (o.1 0 + 1)) 1 c1) 2 c2) 4 w).1 j = o.1 j := by
    intro j h1 h2 h3 h4
    show va_up (va_up (va_up (va_up o.1 0 _) 1 _) 2 _) 4 _ j = _
    rw [va_ne h4, va_ne h3, va_ne h2, va_ne h1]
  refine ⟨⟨⟨⟨by rw [u _ (by omega) (by omega) (by omega) (by omega)]; exact n1, n2, n3⟩, ⟨by rw [u _ (by omega) (by omega) (by omega) (by omega)]; exact m1, m2, m3⟩, fun i hi => ?_, fun k hk => ?_, DJ_c n2 eP hd, CR_c n2 eP hC, fun j hj c hc => ?_, fun j hj => ?_⟩, ?_, ?_, ?_⟩, v _ (by omega) (by omega) (by omega) (by omega), rfl, ?_⟩
  · rw [u _ (by omega) (by omega) (by omega) (by omega)]; exact hp i hi
  · exact PV_c (fun c hc => u _ (by omega) (by omega) (by omega) (by omega)) (hv k hk)
  · rw [u _ (by omega) (by omega) (by omega) (by omega)]; exact ho j hj c hc
  · exact QV_c (fun c hc => u _ (by omega) (by omega) (by omega) (by omega)) (hq j hj)
  · exact RD_c (o := o) (s := s) (fun j h1 h2 => u _ (by omega) (by omega) (by omega) (by omega)) (fun j h1 h2 => u _ (by omega) (by omega) (by omega) (by omega)) rfl rfl rfl ⟨d1, d2, d3, ⟨a, ha, d4⟩, d5, d6⟩
  · exact RH_c (o := o) (s := s) (fun j h1 h2 => u _ (by omega) (by omega) (by omega) (by omega)) (u _ (by omega) (by omega) (by omega) (by omega)) (u _ (by omega) (by omega) (by omega) (by omega)) rfl rfl hH
  · refine ⟨?_, ?_, ?_, ?_, ?_, ?_, ?_, ?_, (c + a) % 24, by omega, z3⟩
    · rw [z2, ← b1]; rfl
    · rw [z3, ← hc1]; rfl
    · rw [z4, ← hc2]; rfl
    · rw [u _ (by omega) (by omega) (by omega) (by omega)]; exact b4
    · rw [z6]; rfl
    · rw [u _ (by omega) (by omega) (by omega) (by omega)]; exact b6
    · rw [u _ (by omega) (by omega) (by omega) (by omega)]; exact b7
    · rw [u _ (by omega) (by omega) (by omega) (by omega)]; exact b8
  · funext j
    unfold wS
    exact u _ (by omega) (by omega) (by omega) (by omega)
theorem tickS (s : Nat → Int32) : k_X6_tick s = k_X6_play (k_X6_lookAtOrders (crS s (if (s 3 + s 12) < 24 then 0 else 1) (if s 14 < s 6 + 2 * s 12 then s 14 else s 6 + 2 * s 12))) := by
  have hle : ∀ x y : Int32, (if x ≤ y then x else y) = (if x < y then x else y) := by
    intro x y
    by_cases h : x < y
    · rw [if_pos h, if_pos (by rw [i_le]; rw [i_lt] at h; omega)]
    · rw [if_neg h]
      by_cases h2 : x ≤ y
      · rw [if_pos h2]
        rw [i_lt] at h
        rw [i_le] at h2
        exact Int32.toInt_inj.mp (by omega)
      · rw [if_neg h2]
  unfold k_X6_tick
  rw [← hle]
  by_cases h1 : (s 3 + s 12) < 24
  · rw [if_pos h1, if_pos h1]
    by_cases h2 : s 14 ≤ s 6 + 2 * s 12
    · rw [if_pos h2, if_pos h2]; rfl
    · rw [if_neg h2, if_neg h2]; rfl
  · rw [if_neg h1, if_neg h1]
    by_cases h2 : s 14 ≤ s 6 + 2 * s 12
    · rw [if_pos h2, if_pos h2]; rfl
    · rw [if_neg h2, if_neg h2]; rfl
theorem tick_R {P : WP} (hP : WC P) {o : OV} {s : Nat → Int32} {N M : Nat} (h : RC o s N M) (hw : P 0 M (o.1 9) (wO o) (wS s)) : ∃ N2 M2, RC (tkC o) (k_X6_tick s) N2 M2 ∧ P M2 M2 ((tkC o).1 9) (wO (tkC o)) (wS (k_X6_tick s)) := by
  rw [tickS]
  unfold tkC
  obtain ⟨c1, c2, c3, c4⟩ := crank_R h rfl rfl
  obtain ⟨N2, M2, l1, l2⟩ := look_R hP c1 (by rw [c2, c3, c4]; exact hw)
  obtain ⟨p1, p2, p3, p4⟩ := blow_R l1
  exact ⟨N2, M2, p1, by rw [p2, p3, p4]; exact l2⟩
/-- the whole relation: what waits has waited as long -/
def P1 : WP := fun _ M _ f g => ∀ j, j < M → f j = g j
theorem P1_C : WC P1 := by
  refine ⟨fun k M w f g f2 g2 h1 h2 h j hj => ?_, fun k M w f g hk hM h j hj => ?_, fun k M w f g hk hM h j hj => ?_⟩
  · rw [← h1 j hj, ← h2 j hj]; exact h j hj
  · unfold va_up
    rw [h k hk, h j hj]
  · unfold rmv
    split
    · exact h _ (by omega)
    · exact h _ (by omega)
def RF (o : OV) (s : Nat → Int32) : Prop := ∃ N M, RC o s N M ∧ ∀ j, j < M → wO o j = wS s j
theorem RF_tick {o : OV} {s : Nat → Int32} (h : RF o s) : RF (tkC o) (k_X6_tick s) := by
  obtain ⟨N, M, h1, h2⟩ := h
  obtain ⟨N2, M2, h3, h4⟩ := tick_R P1_C h1 h2
  exact ⟨N2, M2, h3, h4⟩
theorem play_C (o : OV) (vn : Int32) (n : Nat) (i : Int32) (ow : OV) : k_X1_play_L16 o vn (n + 1) i ow = if vn ≤ i then (((ow.1 6) - (o.1 6)), ow) else k_X1_play_L16 o vn n (i + 1) (tkC ow) := by
  rw [k_X1_play_L16]
  unfold kbind
  rfl
/-- what m ticks make of it -/
def itC (m : Nat) (o : OV) : OV := Nat.rec o (fun _ q => tkC q) m
def itS (m : Nat) (s : Nat → Int32) : Nat → Int32 := Nat.rec s (fun _ q => k_X6_tick q) m
theorem playL {o : OV} {v : Nat} (hv : v ≤ 99) : ∀ (n i : Nat) (ow : OV), i ≤ v → v - i < n → ow = itC i o → k_X1_play_L16 o (nI v) n (nI i) ow = ((itC v o).1 6 - o.1 6, itC v o) := by
  intro n
  induction n with
  | zero => intro i ow h1 h2; omega
  | succ n ih =>
    intro i ow h1 h2 h3
    rw [play_C]
    by_cases hi : i = v
    · subst hi; rw [if_pos (nI_le (Nat.le_refl _) (by omega)), h3]
    · rw [if_neg (nI_ge (by omega) (by omega)), nI_1]
      exact ih (i + 1) _ (by omega) (by omega) (by rw [h3]; rfl)
theorem ticks_y {v : Nat} (h : 1 ≤ v) (h2 : v ≤ 99) : k_X5_isTicks (nI v) = 1 := by
  unfold k_X5_isTicks
  rw [if_neg (show ¬ nI v < 1 from nI_nlt (b := 1) h (by omega)), if_neg (show ¬ 99 < nI v from nI_nlt (a := 99) h2 (by omega))]
theorem play_eq {o : OV} {v : Nat} (h : 1 ≤ v) (h2 : v ≤ 99) : k_X1_play o (nI v) = ((itC v o).1 6 - o.1 6, itC v o) := by
  unfold k_X1_play
  rw [ticks_y h h2, if_neg (by decide)]
  exact playL h2 100 0 o (Nat.zero_le _) (by omega) rfl
theorem tonL {s : Nat → Int32} {v : Nat} (hv : v ≤ 99) : ∀ (n i : Nat) (xw : Nat → Int32), i ≤ v → v - i < n → xw = itS i s → k_X6_ticksOn_L7 s (nI v) n (nI i) xw = ((itS v s) 9 - s 9, itS v s) := by
  intro n
  induction n with
  | zero => intro i ow h1 h2; omega
  | succ n ih =>
    intro i ow h1 h2 h3
    unfold k_X6_ticksOn_L7
    by_cases hi : i = v
    · subst hi; rw [if_pos (nI_le (Nat.le_refl _) (by omega)), h3]
    · rw [if_neg (nI_ge (by omega) (by omega)), nI_1]
      exact ih (i + 1) _ (by omega) (by omega) (by rw [h3]; rfl)
theorem ton_eq {s : Nat → Int32} {v : Nat} (h2 : v ≤ 99) : k_X6_ticksOn s (nI v) = ((itS v s) 9 - s 9, itS v s) := tonL h2 101 0 s (Nat.zero_le _) (by omega) rfl
theorem RF_it {o : OV} {s : Nat → Int32} (h : RF o s) : ∀ m, RF (itC m o) (itS m s) := by
  intro m
  induction m with
  | zero => exact h
  | succ m ih => exact RF_tick ih
theorem RF_6 {o : OV} {s : Nat → Int32} (h : RF o s) : o.1 6 = s 9 := by
  obtain ⟨N, M, h1, h2⟩ := h
  exact h1.2.2.2.2.2.2.2.2.1
theorem RF_7 {o : OV} {s : Nat → Int32} (h : RF o s) : o.1 7 = s 10 := by
  obtain ⟨N, M, h1, h2⟩ := h
  exact h1.2.2.2.2.2.2.2.2.2.1
