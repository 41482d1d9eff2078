/-! Layer 2: the orders are looked at. -/
theorem RC_SI {o : OV} {s : Nat → Int32} {N M : Nat} (h : RC o s N M) : SI s := by
  obtain ⟨⟨⟨n1, n2, n3⟩, ⟨m1, m2, m3⟩, -⟩, ⟨-, -, -, -, ⟨a, ha, h13⟩, -⟩, -⟩ := h
  refine ⟨?_, ?_, ?_⟩
  · rw [n1, nI_toInt (by omega)]; omega
  · rw [m1, nI_toInt (by omega)]; omega
  · rw [h13, nI_toInt (by omega)]; omega
theorem RC_OI {o : OV} {s : Nat → Int32} {N M : Nat} (h : RC o s N M) : OI o := by
  obtain ⟨⟨⟨n1, n2, n3⟩, ⟨m1, m2, m3⟩, -⟩, -⟩ := h
  unfold OI
  rw [n3, m3, nI_toInt (by omega), nI_toInt (by omega)]
  omega
/-- an order that waits no more, in the class and in the reference -/
def pr (ow : OV) (k : Int32) : OV := if (k_X1_isPut ow k) = 0 then (if (k_X1_takePeg ow k).1 = 0 then (o_s (k_X1_takePeg ow k).2 8 (((k_X1_takePeg ow k).2.1 8) + 1)) else (o_s (k_X1_takePeg ow k).2 3 (((k_X1_takePeg ow k).2.1 3) + 1))) else (if (k_X1_placePeg ow k).1 = 0 then (o_s (k_X1_placePeg ow k).2 8 (((k_X1_placePeg ow k).2.1 8) + 1)) else (o_s (k_X1_placePeg ow k).2 3 (((k_X1_placePeg ow k).2.1 3) + 1)))
def rs (xw : Nat → Int32) (k : Int32) : Nat → Int32 := if (k_X6_isVoid xw k) = 0 then k_X6_doOrder xw k else va_up xw 11 ((xw 11) + 1)
theorem look_C (o : OV) (n : Nat) (k lft : Int32) (ow : OV) : k_X1_lookAtOrders_L10 o (n + 1) k lft ow = if lft ≤ 0 then ow else if (k_X1_goesOnWaiting ow k) = 0 then k_X1_lookAtOrders_L10 o n k (lft + (-1)) (k_X1_dropOrder (pr ow k) k).2 else (k_X1_lookAtOrders_L10 o n (k + 1) (lft + (-1)) (o_ot ow (k_X4_write 5 12 (g_ot ow) k 4 ((k_X4_at 5 12 (g_ot ow) k 4) + 1)))) := by
  rw [k_X1_lookAtOrders_L10]
  by_cases h1 : lft ≤ 0
  · rw [if_pos h1, if_pos h1]
  rw [if_neg h1, if_neg h1]
  by_cases h2 : (k_X1_goesOnWaiting ow k) = 0
  · rw [if_pos h2, if_pos h2]
    unfold pr
    by_cases h3 : k_X1_isPut ow k = 0
    · rw [if_pos h3, if_pos h3]
      generalize k_X1_takePeg ow k = t
      obtain ⟨r, q⟩ := t
      dsimp only
      by_cases h4 : r = 0
      · rw [if_pos h4, if_pos h4] <;> rfl
      · rw [if_neg h4, if_neg h4] <;> rfl
    · rw [if_neg h3, if_neg h3]
      generalize k_X1_placePeg ow k = t
      obtain ⟨r, q⟩ := t
      dsimp only
      by_cases h4 : r = 0
      · rw [if_pos h4, if_pos h4] <;> rfl
      · rw [if_neg h4, if_neg h4] <;> rfl
  · rw [if_neg h2, if_neg h2]
theorem look_S (s : Nat → Int32) (n : Nat) (k : Int32) (xw : Nat → Int32) : k_X6_lookAtOrders_L2 s (n + 1) k xw = if (xw 1) ≤ k then xw else if (k_X6_waits xw k) = 0 then k_X6_lookAtOrders_L2 s n k (k_X6_dropOrder (rs xw k) k) else (k_X6_lookAtOrders_L2 s n (k + 1) (va_up xw (((157 + (5 * k)) + 4).toNatClampNeg) ((xw (((157 + (5 * k)) + 4).toNatClampNeg)) + 1))) := by
  rw [k_X6_lookAtOrders_L2]
  by_cases h1 : xw 1 ≤ k
  · rw [if_pos h1, if_pos h1]
  rw [if_neg h1, if_neg h1]
  by_cases h2 : (k_X6_waits xw k) = 0
  · rw [if_pos h2, if_pos h2]
    unfold rs kbind
    by_cases h3 : k_X6_isVoid xw k = 0
    · rw [if_pos h3, if_pos h3]
    · rw [if_neg h3, if_neg h3]
  · rw [if_neg h2, if_neg h2]
theorem pr_R {o : OV} {s : Nat → Int32} {N M k : Nat} (h : RC o s N M) (hk : k < M) : (∃ N2, RC (pr o (nI k)) (rs s (nI k)) N2 M) ∧ (pr o (nI k)).1 9 = o.1 9 ∧ wO (pr o (nI k)) = wO o ∧ ∀ j, j < 12 → wS (rs s (nI k)) j = wS s j := by
  have hB := h.1
  obtain ⟨⟨n1, n2, n3⟩, ⟨m1, m2, m3⟩, hp, hv, hd, hC, ho, hq⟩ := hB
  have hQ := hq k hk
  obtain ⟨q1, q2, q3, q4, q5, q6, q7⟩ := hQ
  have e0 : k_X1_isPut o (nI k) = if s (157 + 5 * k) = 1 then 1 else 0 := by
    unfold k_X1_isPut
    rw [ao0 (by omega), show o.2.2 1 (5 * k) = s (157 + 5 * k) from ho k hk 0 (by omega)]
  have vd : RC (o_s o 8 (o.1 8 + 1)) (va_up s 11 (s 11 + 1)) N M := void_R h
  have n10 : ¬ (1 : Int32) = 0 := by decide
  have n01 : ¬ (0 : Int32) = 1 := by decide
  unfold pr rs
  rcases q7 with ⟨q7, q8⟩ | ⟨q7, q8⟩
  · rw [e0, q7, if_pos (show (1 : Int32) = 1 from rfl), if_neg n10]
    rw [vdP n1 n2 hv (by omega) (hq k hk) q7, plC h.1 hk]
    cases hT : (tkn s N (gA s (157 + 5 * k + 1)) (gA s (157 + 5 * k + 2)) (gA s (157 + 5 * k + 3)) || decide (N = 30))
    · rw [if_neg (show ¬ (false = true) by decide), b2_f, if_pos (show (0 : Int32) = 0 from rfl)]
      dsimp only
      rw [if_neg n10]
      simp only [Bool.or_eq_false_iff, decide_eq_false_iff_not] at hT
      have hN : N < 30 := by omega
      have hdo := doP n1 hN (show k ≤ 11 by omega) q7
      rw [q4, q5, q6] at hdo
      refine ⟨⟨N + 1, put_R h q1 q2 q8 q3 hT.1 hN hdo rfl rfl⟩, rfl, rfl, fun j hj => ?_⟩
      unfold wS
      rw [hdo]
      simp (disch := omega) only [va_ne]
    · rw [if_pos (show true = true from rfl), b2_t, if_neg n10]
      dsimp only
      rw [if_pos (show (0 : Int32) = 0 from rfl)]
      exact ⟨⟨N, vd⟩, rfl, rfl, fun j hj => va_ne (by omega)⟩
  · rw [e0, q7, if_neg n01, if_pos (show (0 : Int32) = 0 from rfl)]
    have iv : k_X6_isVoid s (nI k) = if k_X6_pegAt s (nI (gA s (157 + 5 * k + 1))) (nI (gA s (157 + 5 * k + 2))) = -1 then 1 else 0 := by
      unfold k_X6_isVoid
      rw [show k_X6_order s (nI k) 0 = s (157 + 5 * k) from od (w := 0) (by omega) (by omega), q7, if_neg (by decide), show k_X6_order s (nI k) 1 = nI (gA s (157 + 5 * k + 1)) from (od (w := 1) (by omega) (by omega)).trans q4, show k_X6_order s (nI k) 2 = nI (gA s (157 + 5 * k + 2)) from (od (w := 2) (by omega) (by omega)).trans q5]
    rw [iv]
    rcases fnd h.1 hk 31 0 rfl (Nat.zero_le _) with ⟨f1, f2⟩ | ⟨x, hx, g0, g1, f2, f1⟩
    · rw [show k_X1_takePeg o (nI k) = (0, o) from f1, if_pos rfl, show k_X6_pegAt s (nI (gA s (157 + 5 * k + 1))) (nI (gA s (157 + 5 * k + 2))) = -1 from f2, if_pos rfl, if_neg (by decide)]
      exact ⟨⟨N, vd⟩, rfl, rfl, fun j hj => va_ne (by omega)⟩
    · have f2 : k_X6_pegAt s (nI (gA s (157 + 5 * k + 1))) (nI (gA s (157 + 5 * k + 2))) = nI x := f2
      have hne : ¬ nI x = -1 := fun e => by
        have := congrArg Int32.toInt e
        rw [nI_toInt (by omega)] at this
        have e9 : (-1 : Int32).toInt = -1 := rfl
        omega
      rw [show k_X1_takePeg o (nI k) = _ from f1, if_neg (show ¬ ((1 : Int32)) = 0 by decide), f2, if_neg hne, if_pos rfl]
      have hdo : k_X6_doOrder s (nI k) = va_up (shf (va_up s 5 (s 5 + 1)) 4 (37 + 4 * x) (37 + 4 * (N - 1))) 0 (nI (N - 1)) := by
        unfold k_X6_doOrder
        rw [show k_X6_order (va_up s 5 (s 5 + 1)) (nI k) 0 = s (157 + 5 * k) from (od (w := 0) (by omega) (by omega)).trans (va_ne (by omega)), q7, if_neg (by decide)]
        rw [show k_X6_order (va_up s 5 (s 5 + 1)) (nI k) 1 = nI (gA s (157 + 5 * k + 1)) from (od (w := 1) (by omega) (by omega)).trans ((va_ne (by omega)).trans q4), show k_X6_order (va_up s 5 (s 5 + 1)) (nI k) 2 = nI (gA s (157 + 5 * k + 2)) from (od (w := 2) (by omega) (by omega)).trans ((va_ne (by omega)).trans q5)]
        have hl : k_X6_pegAt (va_up s 5 (s 5 + 1)) (nI (gA s (157 + 5 * k + 1))) (nI (gA s (157 + 5 * k + 2))) = nI x := (pegAt_like (va_ne (by omega)) (fun i h1 h2 => va_ne (by omega)) (RC_SI h) 31 0 rfl).trans f2
        rw [hl]
        exact dP_eq ((va_ne (by omega)).trans n1) n2 hx
      refine ⟨⟨N - 1, pull_R h hx q1 q2 g0 g1 rfl hdo rfl rfl⟩, rfl, rfl, fun j hj => ?_⟩
      unfold wS
      rw [hdo, va_ne (by omega)]
      unfold shf
      rw [if_neg (by omega), va_ne (by omega)]
theorem wait_R {P : WP} (hP : WC P) {o : OV} {s : Nat → Int32} {N M k : Nat} (h : RC o s N M) (hk : k < M) (hw : P k M (o.1 9) (wO o) (wS s)) :
    RC (o_ot o (k_X4_write 5 12 (g_ot o) (nI k) 4 ((k_X4_at 5 12 (g_ot o) (nI k) 4) + 1))) (va_up s (((157 + (5 * nI k)) + 4).toNatClampNeg) ((s (((157 + (5 * nI k)) + 4).toNatClampNeg)) + 1)) N M ∧ P (k + 1) M ((o_ot o (k_X4_write 5 12 (g_ot o) (nI k) 4 ((k_X4_at 5 12 (g_ot o) (nI k) 4) + 1))).1 9) (wO (o_ot o (k_X4_write 5 12 (g_ot o) (nI k) 4 ((k_X4_at 5 12 (g_ot o) (nI k) 4) + 1)))) (wS (va_up s (((157 + (5 * nI k)) + 4).toNatClampNeg) ((s (((157 + (5 * nI k)) + 4).toNatClampNeg)) + 1))) := by
  obtain ⟨⟨⟨n1, n2, n3⟩, ⟨m1, m2, m3⟩, hp, hv, hd, hC, ho, hq⟩, hD, hH, hS⟩ := h
  have e1 : ((157 + 5 * nI k : Int32) + 4).toNatClampNeg = 157 + 5 * k + 4 := by
    rw [show (157 + 5 * nI k : Int32) + 4 = nI (157 + 5 * k + 4) from by rw [← nI_add, ← nI_add, ← nI_mul]; rfl, nI_clamp (by omega)]
  rw [e1, ao4 (by omega), show ∀ v, k_X4_write 5 12 (g_ot o) (nI k) 4 v = ((g_ot o).1, va_up (g_ot o).2 (5 * k + 4) v) from fun v => wr_eq (C := 5) (M := 12) (c := 4) (by omega) (by omega) (by omega) (by omega)]
  have u : ∀ i, i ≠ 157 + 5 * k + 4 → va_up s (157 + 5 * k + 4) (s (157 + 5 * k + 4) + 1) i = s i := fun i hi => va_ne hi
  have eP : eqP s (va_up s (157 + 5 * k + 4) (s (157 + 5 * k + 4) + 1)) := fun i h1 h2 => u i (by omega)
  refine ⟨⟨⟨⟨by rw [u _ (by omega)]; exact n1, n2, n3⟩, ⟨by rw [u _ (by omega)]; exact m1, m2, m3⟩, fun i hi => ?_, fun k hk => ?_, DJ_c n2 eP hd, CR_c n2 eP hC, fun j hj c hc => ?_, fun j hj => ?_⟩, ?_, ?_, ?_⟩, ?_⟩
  · rw [u _ (by omega)]; exact hp i hi
  · exact PV_c (fun c hc => u _ (by omega)) (hv k hk)
  · rw [u _ (by omega)]
    refine Eq.trans ?_ (ho j hj c hc)
    show va_up (o.2.2 1) (5 * k + 4) _ (5 * j + c) = _
    rw [va_ne (by omega)]
  · exact QV_c (fun c hc => u _ (by omega)) (hq j hj)
  · exact RD_c (fun j h1 h2 => u _ (by omega)) (fun j h1 h2 => u _ (by omega)) rfl rfl rfl hD
  · exact RH_c (fun j h1 h2 => u _ (by omega)) (u _ (by omega)) (u _ (by omega)) rfl rfl hH
  · refine RS_c (fun j h1 h2 => u _ (by omega)) (fun j hj => ?_) hS
    show va_up o.1 11 _ j = o.1 j
    rw [va_ne (by omega)]
  · refine hP.1 _ _ _ _ _ _ _ (fun j hj => ?_) (fun j hj => ?_) (hP.2.1 _ _ _ _ _ hk m2 hw)
    · show va_up (wO o) k (wO o k + 1) j = va_up (o.2.2 1) (5 * k + 4) (o.2.2 1 (5 * k + 4) + 1) (5 * j + 4)
      unfold va_up wO
      by_cases hjk : j = k
      · subst hjk; rw [if_pos rfl, if_pos rfl]
      · rw [if_neg hjk, if_neg (by omega)]
    · show va_up (wS s) k (wS s k + 1) j = va_up s (157 + 5 * k + 4) (s (157 + 5 * k + 4) + 1) (157 + 5 * j + 4)
      unfold va_up wS
      by_cases hjk : j = k
      · subst hjk; rw [if_pos rfl, if_pos rfl]
      · rw [if_neg hjk, if_neg (by omega)]
theorem look_L {P : WP} (hP : WC P) {o0 : OV} {s0 : Nat → Int32} : ∀ (n m k : Nat) (o : OV) (s : Nat → Int32) (N M : Nat), RC o s N M → k ≤ M → M - k < n → M - k < m → P k M (o.1 9) (wO o) (wS s) →
    ∃ N2 M2, RC (k_X1_lookAtOrders_L10 o0 n (nI k) (nI (M - k)) o) (k_X6_lookAtOrders_L2 s0 m (nI k) s) N2 M2 ∧ P M2 M2 ((k_X1_lookAtOrders_L10 o0 n (nI k) (nI (M - k)) o).1 9) (wO (k_X1_lookAtOrders_L10 o0 n (nI k) (nI (M - k)) o)) (wS (k_X6_lookAtOrders_L2 s0 m (nI k) s)) := by
  intro n
  induction n with
  | zero => intro m k o s N M h h1 h2; omega
  | succ n ih =>
    intro m k o s N M h h1 h2 h3 hw
    obtain ⟨m, rfl⟩ : ∃ q, m = q + 1 := ⟨m - 1, by omega⟩
    have m1 := h.1.2.1.1
    have m2 := h.1.2.1.2.1
    rw [look_C, look_S, m1]
    by_cases hk : k = M
    · subst hk
      rw [Nat.sub_self, if_pos (by decide), if_pos (nI_le (Nat.le_refl _) (by omega))]
      exact ⟨N, k, h, hw⟩
    have hkM : k < M := by omega
    rw [if_neg (nI_nle (n := M - k) (by omega) (by omega)), if_neg (nI_ge hkM (by omega)), nI_decr (j := M - k) (by omega), nI_1]
    obtain ⟨g1, g2⟩ := gow h.1 h.2.2.2 hkM
    rw [g1]
    by_cases hwt : k_X6_waits s (nI k) = 0
    · rw [if_pos hwt, if_pos hwt]
      obtain ⟨⟨N2, p1⟩, p2, p3, p4⟩ := pr_R h hkM
      have hw2 : P k M ((pr o (nI k)).1 9) (wO (pr o (nI k))) (wS (rs s (nI k))) := by
        rw [p2, p3]
        exact hP.1 _ _ _ _ _ _ _ (fun _ _ => rfl) (fun j hj => (p4 j (by omega)).symm) hw
      obtain ⟨d1, d2⟩ := drop_R hP p1 hkM hw2 rfl
      have := ih m k _ _ N2 (M - 1) d1 (by omega) (by omega) (by omega) d2
      rw [show M - 1 - k = M - k - 1 by omega] at this
      exact this
    · rw [if_neg hwt, if_neg hwt]
      obtain ⟨d1, d2⟩ := wait_R hP h hkM hw
      have := ih m (k + 1) _ _ N M d1 (by omega) (by omega) (by omega) d2
      rw [show M - (k + 1) = M - k - 1 by omega] at this
      exact this
theorem look_R {P : WP} (hP : WC P) {o : OV} {s : Nat → Int32} {N M : Nat} (h : RC o s N M) (hw : P 0 M (o.1 9) (wO o) (wS s)) :
    ∃ N2 M2, RC (k_X1_lookAtOrders o) (k_X6_lookAtOrders s) N2 M2 ∧ P M2 M2 ((k_X1_lookAtOrders o).1 9) (wO (k_X1_lookAtOrders o)) (wS (k_X6_lookAtOrders s)) := by
  have := look_L hP (o0 := o) (s0 := s) 13 14 0 o s N M h (Nat.zero_le _) (by have := h.1.2.1.2.1; omega) (by have := h.1.2.1.2.1; omega) hw
  unfold k_X1_lookAtOrders k_X6_lookAtOrders
  rw [h.1.2.1.2.2]
  exact this
