/-! p29: what else holds of every row: the pegs' versions, the waiting, the sums of the notes, the wind. -/
def BIG : Nat := 1000000
/-- versions of the pegs -/
def LV (s : KR) (N V : Nat) : Prop := (∀ k, k < N → s (37 + 4 * k + 3) = nI (gA s (37 + 4 * k + 3)) ∧ 1 ≤ gA s (37 + 4 * k + 3) ∧ gA s (37 + 4 * k + 3) ≤ V) ∧ ∀ j k, j < k → k < N → gA s (37 + 4 * j + 3) < gA s (37 + 4 * k + 3)
/-- what waits -/
def LW (s : KR) (k M T : Nat) : Prop := ∀ j, j < M → ∃ w, w + (if j < k then 0 else 1) ≤ T ∧ s (157 + 5 * j + 4) = nI w
def LI (k T D : Nat) (s : KR) (M : Nat) : Prop := ∃ o N V X, RC o s N M ∧ s 5 = nI V ∧ s 11 = nI X ∧ V + X + M = D ∧ k ≤ M ∧ LV s N V ∧ LW s k M T
theorem gA_n {s : KR} {i n : Nat} (h : s i = nI n) (hn : n < 2 ^ 31) : gA s i = n := by unfold gA; rw [h, nI_clamp hn]
theorem LV_c {s s2 : KR} {N V V2 : Nat} (h : ∀ k, k < N → s2 (37 + 4 * k + 3) = s (37 + 4 * k + 3)) (hV : V ≤ V2) (hl : LV s N V) : LV s2 N V2 := by
  refine ⟨fun k hk => ?_, fun j k hj hk => ?_⟩
  · obtain ⟨a1, a2, a3⟩ := hl.1 k hk
    rw [gA_c (h k hk), h k hk]
    exact ⟨a1, a2, by omega⟩
  · rw [gA_c (h k hk), gA_c (h j (by omega))]
    exact hl.2 j k hj hk
/-- what becomes of an order that waits no more -/
theorem rs_cases {o : OV} {s : KR} {N M k : Nat} (h : RC o s N M) (hk : k < M) : rs s (nI k) = va_up s 11 (s 11 + 1) ∨ (N < 30 ∧ rs s (nI k) = va_up (va_up (va_up (va_up (va_up (va_up s 5 (s 5 + 1)) (37 + 4 * N) (s (157 + 5 * k + 1))) (37 + 4 * N + 1) (s (157 + 5 * k + 2))) (37 + 4 * N + 2) (s (157 + 5 * k + 3))) (37 + 4 * N + 3) (s 5 + 1)) 0 (nI (N + 1))) ∨ ∃ x, x < N ∧ rs s (nI k) = va_up (shf (va_up s 5 (s 5 + 1)) 4 (37 + 4 * x) (37 + 4 * (N - 1))) 0 (nI (N - 1)) := by
  have hB := h.1
  obtain ⟨⟨n1, n2, n3⟩, ⟨m1, m2, m3⟩, hp, hv, hd, hC, ho, hq⟩ := hB
  obtain ⟨q1, q2, q3, q4, q5, q6, q7⟩ := hq k hk
  have n10 : ¬ (1 : Int32) = 0 := by decide
  unfold rs
  rcases q7 with ⟨q7, q8⟩ | ⟨q7, q8⟩
  · rw [vdP n1 n2 hv (by omega) (hq k hk) q7]
    cases hT : (tkn s N (gA s (157 + 5 * k + 1)) (gA s (157 + 5 * k + 2)) (gA s (157 + 5 * k + 3)) || decide (N = 30))
    · rw [b2_f, if_pos (show (0 : Int32) = 0 from rfl)]
      simp only [Bool.or_eq_false_iff, decide_eq_false_iff_not] at hT
      have hN : N < 30 := by omega
      exact Or.inr (Or.inl ⟨hN, doP n1 hN (show k ≤ 11 by omega) q7⟩)
    · rw [b2_t, if_neg n10]
      exact Or.inl rfl
  · have iv : k_X6_isVoid s (nI k) = if k_X6_pegAt s (nI (gA s (157 + 5 * k + 1))) (nI (gA s (157 + 5 * k + 2))) = -1 then 1 else 0 := by
      unfold k_X6_isVoid
      rw [show k_X6_order s (nI k) 0 = s (157 + 5 * k) from od (w := 0) (by omega) (by omega), q7, if_neg (by decide), show k_X6_order s (nI k) 1 = nI (gA s (157 + 5 * k + 1)) from (od (w := 1) (by omega) (by omega)).trans q4, show k_X6_order s (nI k) 2 = nI (gA s (157 + 5 * k + 2)) from (od (w := 2) (by omega) (by omega)).trans q5]
    rw [iv]
    rcases fnd h.1 hk 31 0 rfl (Nat.zero_le _) with ⟨f1, f2⟩ | ⟨x, hx, g0, g1, f2, f1⟩
    · rw [show k_X6_pegAt s (nI (gA s (157 + 5 * k + 1))) (nI (gA s (157 + 5 * k + 2))) = -1 from f2, if_pos rfl, if_neg (by decide)]
      exact Or.inl rfl
    · have f2 : k_X6_pegAt s (nI (gA s (157 + 5 * k + 1))) (nI (gA s (157 + 5 * k + 2))) = nI x := f2
      have hne : ¬ nI x = -1 := nI_nm (by omega)
      rw [f2, if_neg hne, if_pos rfl]
      refine Or.inr (Or.inr ⟨x, hx, ?_⟩)
      unfold k_X6_doOrder
      rw [show k_X6_order (va_up s 5 (s 5 + 1)) (nI k) 0 = s (157 + 5 * k) from (od (w := 0) (by omega) (by omega)).trans (va_ne (by omega)), q7, if_neg (by decide)]
      rw [show k_X6_order (va_up s 5 (s 5 + 1)) (nI k) 1 = nI (gA s (157 + 5 * k + 1)) from (od (w := 1) (by omega) (by omega)).trans ((va_ne (by omega)).trans q4), show k_X6_order (va_up s 5 (s 5 + 1)) (nI k) 2 = nI (gA s (157 + 5 * k + 2)) from (od (w := 2) (by omega) (by omega)).trans ((va_ne (by omega)).trans q5)]
      have hl : k_X6_pegAt (va_up s 5 (s 5 + 1)) (nI (gA s (157 + 5 * k + 1))) (nI (gA s (157 + 5 * k + 2))) = nI x := (pegAt_like (va_ne (by omega)) (fun i h1 h2 => va_ne (by omega)) (RC_SI h) 31 0 rfl).trans f2
      rw [hl]
      exact dP_eq ((va_ne (by omega)).trans n1) n2 hx
/-- the versions behind that, and what is as it was -/
theorem rs_V {o : OV} {s : KR} {N N2 M k V X : Nat} (h : RC o s N M) (hk : k < M) (hV : s 5 = nI V) (hX : s 11 = nI X) (hB : V + X + M ≤ 100 * BIG) (hl : LV s N V) (h2 : (rs s (nI k)) 0 = nI N2) (hN2 : N2 ≤ 30) : (∃ V2 X2, (rs s (nI k)) 5 = nI V2 ∧ (rs s (nI k)) 11 = nI X2 ∧ V2 + X2 = V + X + 1 ∧ LV (rs s (nI k)) N2 V2) ∧ (∀ i, 157 ≤ i → (rs s (nI k)) i = s i) ∧ ∀ i, i < 37 → i ≠ 0 → i ≠ 5 → i ≠ 11 → (rs s (nI k)) i = s i := by
  have n1 := h.1.1.1
  have n2 := h.1.1.2.1
  have hBB : BIG = 1000000 := rfl
  have eN : ∀ A, A ≤ 31 → (rs s (nI k)) 0 = nI A → N2 = A := fun A hA e => (nI_eq (by omega) (by omega)).mp (h2.symm.trans e)
  rcases rs_cases h hk with e | ⟨hN, e⟩ | ⟨x, hx, e⟩
  · have := eN N (by omega) (by rw [e, va_ne (by omega)]; exact n1)
    subst this
    rw [e]
    refine ⟨⟨V, X + 1, ?_, ?_, by omega, LV_c (fun k hk => va_ne (by omega)) (Nat.le_refl _) hl⟩, fun i hi => va_ne (by omega), fun i h1 h2 h3 h4 => va_ne h4⟩
    · rw [va_ne (by omega)]; exact hV
    · rw [va_eq, hX, nI_1]
  · have := eN (N + 1) (by omega) (by rw [e, va_eq])
    subst this
    have u : ∀ i, i ≠ 0 → i ≠ 5 → (i < 37 + 4 * N ∨ 37 + 4 * N + 4 ≤ i) → (rs s (nI k)) i = s i := by
      intro i h3 h4 h5
      rw [e]
      simp (disch := omega) only [va_ne]
    have z5 : (rs s (nI k)) 5 = nI (V + 1) := by rw [e]; simp (disch := omega) only [va_ne, va_eq]; rw [hV, nI_1]
    have zv : (rs s (nI k)) (37 + 4 * N + 3) = nI (V + 1) := by rw [e]; simp (disch := omega) only [va_ne, va_eq]; rw [hV, nI_1]
    have gv : gA (rs s (nI k)) (37 + 4 * N + 3) = V + 1 := gA_n zv (by omega)
    refine ⟨⟨V + 1, X, z5, by rw [u _ (by omega) (by omega) (by omega)]; exact hX, by omega, fun j hj => ?_, fun i j hi hj => ?_⟩, fun i hi => u i (by omega) (by omega) (by omega), fun i h1 h3 h4 h5 => u i h3 h4 (by omega)⟩
    · by_cases hjN : j = N
      · subst hjN
        rw [gv, zv]
        exact ⟨rfl, by omega, by omega⟩
      · have ej := u (37 + 4 * j + 3) (by omega) (by omega) (by omega)
        obtain ⟨a1, a2, a3⟩ := hl.1 j (by omega)
        rw [gA_c ej, ej]
        exact ⟨a1, a2, by omega⟩
    · have ei := u (37 + 4 * i + 3) (by omega) (by omega) (by omega)
      rw [gA_c ei]
      by_cases hjN : j = N
      · subst hjN
        rw [gv]
        have := (hl.1 i hi).2.2
        omega
      · rw [gA_c (u (37 + 4 * j + 3) (by omega) (by omega) (by omega))]
        exact hl.2 i j hi (by omega)
  · have := eN (N - 1) (by omega) (by rw [e, va_eq])
    subst this
    have u : ∀ i, i ≠ 0 → (rs s (nI k)) i = if 37 + 4 * x ≤ i ∧ i < 37 + 4 * (N - 1) then (va_up s 5 (s 5 + 1)) (i + 4) else (va_up s 5 (s 5 + 1)) i := by
      intro i h3
      rw [e, va_ne h3]
      rfl
    have z5 : (rs s (nI k)) 5 = nI (V + 1) := by rw [u _ (by omega), if_neg (by omega), va_eq, hV, nI_1]
    have uv : ∀ j, j < N - 1 → (rs s (nI k)) (37 + 4 * j + 3) = s (37 + 4 * (if j < x then j else j + 1) + 3) := by
      intro j hj
      rw [u _ (by omega)]
      by_cases hjx : j < x
      · rw [if_neg (by omega), va_ne (by omega), if_pos hjx]
      · rw [if_pos (by omega), va_ne (by omega), if_neg hjx]
        exact congrArg s (by omega)
    refine ⟨⟨V + 1, X, z5, by rw [u _ (by omega), if_neg (by omega), va_ne (by omega)]; exact hX, by omega, fun j hj => ?_, fun i j hi hj => ?_⟩, fun i hi => by rw [u _ (by omega), if_neg (by omega), va_ne (by omega)], fun i h1 h3 h4 h5 => by rw [u _ h3, if_neg (by omega), va_ne h4]⟩
    · rw [gA_c (uv j hj), uv j hj]
      obtain ⟨a1, a2, a3⟩ := hl.1 (if j < x then j else j + 1) (by split <;> omega)
      exact ⟨a1, a2, by omega⟩
    · rw [gA_c (uv i (by omega)), gA_c (uv j hj)]
      exact hl.2 _ _ (by split <;> split <;> omega) (by split <;> omega)
/-- one order looked at, that waits no more -/
theorem LI_do {k T D M : Nat} {s : KR} (hD : D ≤ 100 * BIG) (h : LI k T D s M) (hk : k < M) : LI k T D (k_X6_dropOrder (rs s (nI k)) (nI k)) (M - 1) ∧ ∀ i, i < 37 → i ≠ 0 → i ≠ 1 → i ≠ 5 → i ≠ 11 → (k_X6_dropOrder (rs s (nI k)) (nI k)) i = s i := by
  obtain ⟨o, N, V, X, h1, hV, hX, hd, hkM, hl, hw⟩ := h
  obtain ⟨⟨N2, p1⟩, p2, p3, p4⟩ := pr_R h1 hk
  obtain ⟨d1, -⟩ := drop_R PT_C p1 hk trivial rfl
  have hM := h1.1.2.1.2.1
  have hN2 := p1.1.1.2.1
  obtain ⟨⟨V2, X2, v1, v2, v3, v4⟩, r1, r2⟩ := rs_V h1 hk hV hX (by omega) hl p1.1.1.1 hN2
  have e := dO_eq (s := rs s (nI k)) (k := k) (N := M) ((r2 1 (by omega) (by omega) (by omega) (by omega)).trans h1.1.2.1.1) hM hk
  have u : ∀ i, i < 157 → i ≠ 1 → (k_X6_dropOrder (rs s (nI k)) (nI k)) i = (rs s (nI k)) i := by
    intro i hi hi1
    rw [e, va_ne hi1]
    unfold shf
    rw [if_neg (by omega)]
  refine ⟨⟨_, N2, V2, X2, d1, by rw [u _ (by omega) (by omega)]; exact v1, by rw [u _ (by omega) (by omega)]; exact v2, by omega, by omega, LV_c (fun j hj => u _ (by omega) (by omega)) (Nat.le_refl _) v4, fun j hj => ?_⟩, fun i h3 h4 h5 h6 h7 => by rw [u i (by omega) h5]; exact r2 i h3 h4 h6 h7⟩
  have ej : (k_X6_dropOrder (rs s (nI k)) (nI k)) (157 + 5 * j + 4) = s (157 + 5 * (if j < k then j else j + 1) + 4) := by
    rw [e, va_ne (by omega)]
    unfold shf
    by_cases hjk : j < k
    · rw [if_neg (by omega), if_pos hjk, r1 _ (by omega)]
    · rw [if_pos (by omega), if_neg hjk, r1 _ (by omega)]
      exact congrArg s (by omega)
  rw [ej]
  by_cases hjk : j < k
  · rw [if_pos hjk, if_pos hjk]
    obtain ⟨w, w1, w2⟩ := hw j (by omega)
    rw [if_pos hjk] at w1
    exact ⟨w, w1, w2⟩
  · rw [if_neg hjk, if_neg hjk]
    obtain ⟨w, w1, w2⟩ := hw (j + 1) (by omega)
    rw [if_neg (by omega)] at w1
    exact ⟨w, w1, w2⟩
/-- one that goes on waiting -/
theorem LI_wait {k T D M : Nat} {s : KR} (hT : T ≤ BIG) (h : LI k T D s M) (hk : k < M) : LI (k + 1) T D (va_up s (((157 + (5 * nI k)) + 4).toNatClampNeg) ((s (((157 + (5 * nI k)) + 4).toNatClampNeg)) + 1)) M ∧ ∀ i, i < 37 → (va_up s (((157 + (5 * nI k)) + 4).toNatClampNeg) ((s (((157 + (5 * nI k)) + 4).toNatClampNeg)) + 1)) i = s i := by
  obtain ⟨o, N, V, X, h1, hV, hX, hd, hkM, hl, hw⟩ := h
  obtain ⟨d1, -⟩ := wait_R PT_C h1 hk trivial
  have hM := h1.1.2.1.2.1
  have hN := h1.1.1.2.1
  have e1 : ((157 + 5 * nI k : Int32) + 4).toNatClampNeg = 157 + 5 * k + 4 := by
    rw [show (157 + 5 * nI k : Int32) + 4 = nI (157 + 5 * k + 4) from by rw [← nI_add, ← nI_add, ← nI_mul]; rfl, nI_clamp (by omega)]
  rw [e1] at d1 ⊢
  refine ⟨⟨_, N, V, X, d1, by rw [va_ne (by omega)]; exact hV, by rw [va_ne (by omega)]; exact hX, hd, by omega, LV_c (fun j hj => va_ne (by omega)) (Nat.le_refl _) hl, fun j hj => ?_⟩, fun i hi => va_ne (by omega)⟩
  obtain ⟨w, w1, w2⟩ := hw j hj
  by_cases hjk : j = k
  · subst hjk
    rw [if_neg (by omega)] at w1
    rw [va_eq, w2, nI_1, if_pos (by omega)]
    exact ⟨w + 1, by omega, rfl⟩
  · rw [va_ne (by omega)]
    refine ⟨w, ?_, w2⟩
    by_cases hlt : j < k
    · rw [if_pos hlt] at w1
      rw [if_pos (by omega)]
      exact w1
    · rw [if_neg hlt] at w1
      rw [if_neg (by omega)]
      exact w1
theorem LI_loop {s0 : KR} {T D : Nat} (hT : T ≤ BIG) (hD : D ≤ 100 * BIG) : ∀ (n k M : Nat) (s : KR), LI k T D s M → M - k < n → ∃ M2, LI M2 T D (k_X6_lookAtOrders_L2 s0 n (nI k) s) M2 ∧ ∀ i, i < 37 → i ≠ 0 → i ≠ 1 → i ≠ 5 → i ≠ 11 → (k_X6_lookAtOrders_L2 s0 n (nI k) s) i = s i := by
  intro n
  induction n with
  | zero => intro k M s h h2; omega
  | succ n ih =>
    intro k M s h h2
    have hcp := h
    obtain ⟨o, N, V, X, h1, hV, hX, hd, hkM, hl, hw⟩ := h
    have hM := h1.1.2.1.2.1
    rw [look_S, h1.1.2.1.1]
    by_cases hk : k = M
    · subst hk
      rw [if_pos (nI_le (Nat.le_refl _) (by omega))]
      exact ⟨k, hcp, fun i _ _ _ _ _ => rfl⟩
    rw [if_neg (nI_ge (by omega) (by omega)), nI_1]
    by_cases hwt : k_X6_waits s (nI k) = 0
    · rw [if_pos hwt]
      obtain ⟨g1, g2⟩ := LI_do hD hcp (show k < M by omega)
      obtain ⟨M2, g3, g4⟩ := ih k (M - 1) _ g1 (by omega)
      exact ⟨M2, g3, fun i a b c d e => (g4 i a b c d e).trans (g2 i a b c d e)⟩
    · rw [if_neg hwt]
      obtain ⟨g1, g2⟩ := LI_wait hT hcp (show k < M by omega)
      obtain ⟨M2, g3, g4⟩ := ih (k + 1) M _ g1 (by omega)
      exact ⟨M2, g3, fun i a b c d e => (g4 i a b c d e).trans (g2 i a)⟩
theorem LI_look {s : KR} {T D M : Nat} (hT : T ≤ BIG) (hD : D ≤ 100 * BIG) (h : LI 0 T D s M) : ∃ M2, LI M2 T D (k_X6_lookAtOrders s) M2 ∧ ∀ i, i < 37 → i ≠ 0 → i ≠ 1 → i ≠ 5 → i ≠ 11 → (k_X6_lookAtOrders s) i = s i := by
  obtain ⟨o, N, V, X, h1, -⟩ := id h
  exact LI_loop hT hD 14 0 M s h (by have := h1.1.2.1.2.1; omega)
-- ---------------------------------------------------------------- the pipes are blown
/-- a row of six numbers and its sum -/
def NS (s : KR) (b t i T : Nat) : Prop := (∀ p, p < 6 → s (b + p) = nI (gA s (b + p)) ∧ gA s (b + p) + (if p < i then 0 else 1) ≤ T) ∧ s t = nI (fb_sm (fun p => gA s (b + p)) 6)
theorem NS_c {s s2 : KR} {b t i T i2 T2 : Nat} (h : ∀ p, p < 6 → s2 (b + p) = s (b + p)) (ht : s2 t = s t) (hT : ∀ p, p < 6 → T + (if p < i2 then 0 else 1) ≤ T2 + (if p < i then 0 else 1)) (hn : NS s b t i T) : NS s2 b t i2 T2 := by
  refine ⟨fun p hp => ?_, ?_⟩
  · obtain ⟨a1, a2⟩ := hn.1 p hp
    have := hT p hp
    rw [gA_c (h p hp), h p hp]
    exact ⟨a1, by omega⟩
  · rw [ht, hn.2]
    exact congrArg nI (fb_sm_cong (fun p hp => (gA_c (h p hp)).symm))
theorem NS_up {s s2 : KR} {b t i T : Nat} (hT : T ≤ BIG) (hi : i < 6) (h : ∀ p, p < 6 → p ≠ i → s2 (b + p) = s (b + p)) (hp : s2 (b + i) = s (b + i) + 1) (ht : s2 t = s t + 1) (hn : NS s b t i T) : NS s2 b t (i + 1) T ∧ gA s2 (b + i) = gA s (b + i) + 1 := by
  have hBB : BIG = 1000000 := rfl
  obtain ⟨a1, a2⟩ := hn.1 i hi
  rw [if_neg (by omega)] at a2
  have e1 : s2 (b + i) = nI (gA s (b + i) + 1) := by rw [hp, a1, nI_1]
  have e2 : gA s2 (b + i) = gA s (b + i) + 1 := gA_n e1 (by omega)
  refine ⟨⟨fun p hp6 => ?_, ?_⟩, e2⟩
  · by_cases hpi : p = i
    · subst hpi
      rw [e2, e1, if_pos (by omega)]
      exact ⟨rfl, by omega⟩
    · obtain ⟨b1, b2⟩ := hn.1 p hp6
      rw [gA_c (h p hp6 hpi), h p hp6 hpi]
      refine ⟨b1, ?_⟩
      by_cases hlt : p < i
      · rw [if_pos hlt] at b2
        rw [if_pos (by omega)]
        exact b2
      · rw [if_neg hlt] at b2
        rw [if_neg (by omega)]
        exact b2
  · rw [ht, hn.2, nI_1]
    refine congrArg nI ?_
    have x := fb_sm_upd (fun p => gA s (b + p)) (gA s (b + i) + 1) (i := i) (n := 6) hi
    have y : fb_sm (fun p => gA s2 (b + p)) 6 = fb_sm (fun k => if k = i then gA s (b + i) + 1 else gA s (b + k)) 6 := fb_sm_cong (fun p hp6 => by
      by_cases hpi : p = i
      · subst hpi; rw [if_pos rfl]; exact e2
      · rw [if_neg hpi]; exact gA_c (h p hp6 hpi))
    rw [y]
    have x : fb_sm (fun k => if k = i then gA s (b + i) + 1 else gA s (b + k)) 6 + gA s (b + i) = fb_sm (fun p => gA s (b + p)) 6 + (gA s (b + i) + 1) := x
    omega
def B8 (s : KR) : Prop := s 7 &&& (s 8 ^^^ -1) = 0
theorem B8_or {a b : Int32} : a &&& ((a ||| b) ^^^ -1) = 0 := by
  refine and_z.mpr (fun j hj => ?_)
  rw [b_xor, b_or, b_m1 j hj]
  cases bt a j <;> cases bt b j <;> rfl
theorem play_I {s0 : KR} {N M T : Nat} (hT : T ≤ BIG) : ∀ (m i : Nat) (acc : Int32) (o : OV) (s : KR), RC o s N M → A6 acc → (∀ p, i ≤ p → p < 6 → bt acc p = false) → i ≤ 6 → 6 - i < m → NS s 25 9 i T → NS s 31 10 i T → (∃ w, w ≤ 60 ∧ s 6 = nI w) →
    NS (k_X6_play_L4 s0 m (nI i) acc s) 25 9 6 T ∧ NS (k_X6_play_L4 s0 m (nI i) acc s) 31 10 6 T ∧ (∃ w, w ≤ 60 ∧ (k_X6_play_L4 s0 m (nI i) acc s) 6 = nI w) ∧ B8 (k_X6_play_L4 s0 m (nI i) acc s) ∧ (∀ p, p < i → bt ((k_X6_play_L4 s0 m (nI i) acc s) 7) p = bt acc p ∧ gA (k_X6_play_L4 s0 m (nI i) acc s) (25 + p) = gA s (25 + p)) ∧ (∀ p, i ≤ p → p < 6 → gA (k_X6_play_L4 s0 m (nI i) acc s) (25 + p) = gA s (25 + p) + (bt ((k_X6_play_L4 s0 m (nI i) acc s) 7) p).toNat) ∧ ∀ j, (j < 6 ∨ j = 11 ∨ (12 ≤ j ∧ j < 15) ∨ 37 ≤ j) → (k_X6_play_L4 s0 m (nI i) acc s) j = s j := by
  intro m
  induction m with
  | zero => intro i acc o s h hA hb h1 h2; omega
  | succ m ih =>
    intro i acc o s h hA hb h1 h2 hn hl hw
    by_cases hi : i = 6
    · subst hi
      rw [k_X6_play_L4, if_pos (show (6 : Int32) ≤ nI 6 by decide)]
      obtain ⟨e, he, h13⟩ := h.2.1.2.2.2.2.1
      obtain ⟨Y, y1, y2⟩ := sh_L (s0 := s0) (acc := acc) he 10 9 s (by omega) (by omega) h13
      rw [show (9 : Int32) = nI 9 from rfl, y1]
      have u : ∀ j, j ≠ 7 → j ≠ 8 → (j < 15 ∨ 25 ≤ j) → (va_up (va_up (va_up Y 15 acc) 7 acc) 8 (acc ||| (va_up (va_up Y 15 acc) 7 acc) (15 + e))) j = s j := by
        intro j h3 h4 h5
        rw [va_ne h4, va_ne h3, va_ne (by omega), y2, if_neg (by omega)]
      have z7 : (va_up (va_up (va_up Y 15 acc) 7 acc) 8 (acc ||| (va_up (va_up Y 15 acc) 7 acc) (15 + e))) 7 = acc := by rw [va_ne (by omega), va_eq]
      have z8 : (va_up (va_up (va_up Y 15 acc) 7 acc) 8 (acc ||| (va_up (va_up Y 15 acc) 7 acc) (15 + e))) 8 = acc ||| (va_up (va_up Y 15 acc) 7 acc) (15 + e) := va_eq _ _ _
      refine ⟨NS_c (fun p hp => u _ (by omega) (by omega) (by omega)) (u _ (by omega) (by omega) (by omega)) (fun p hp => Nat.le_refl _) hn, NS_c (fun p hp => u _ (by omega) (by omega) (by omega)) (u _ (by omega) (by omega) (by omega)) (fun p hp => Nat.le_refl _) hl, ?_, ?_, fun p hp => ⟨by rw [z7], gA_c (u _ (by omega) (by omega) (by omega))⟩, fun p hp hp2 => absurd hp2 (by omega), fun j hj => u j (by omega) (by omega) (by omega)⟩
      · rw [u 6 (by omega) (by omega) (by omega)]; exact hw
      · unfold B8
        rw [z7, z8]
        exact B8_or
    have hi6 : i < 6 := by omega
    obtain ⟨b1, b2', b3, b4, b5, b6, b7, b8, c, hc, b9⟩ := h.2.2.2
    have hos : k_X6_isOpen s (nI i) = b2 (cvs s N i c) := by
      unfold k_X6_isOpen
      rw [b9]
      exact isC h.1.1.1 h.1.1.2.1 h.1.2.2.2.1 hi6 hc
    have n6 : ¬ (6 : Int32) ≤ nI i := nI_ge (a := i) (b := 6) (by omega) (by omega)
    rw [k_X6_play_L4]
    simp only [if_neg n6, hos, nI_1]
    cases hcv : cvs s N i c
    · rw [b2_f, if_pos (show (0 : Int32) = 0 from rfl)]
      obtain ⟨g1, g2, g3, g4, g5, g6, g7⟩ := ih (i + 1) acc o s h hA (fun p h3 h4 => hb p (by omega) h4) (by omega) (by omega) (NS_c (fun p hp => rfl) rfl (fun p hp => by split <;> split <;> omega) hn) (NS_c (fun p hp => rfl) rfl (fun p hp => by split <;> split <;> omega) hl) hw
      refine ⟨g1, g2, g3, g4, fun p hp => g5 p (by omega), fun p h3 h4 => ?_, g7⟩
      by_cases hpi : p = i
      · subst hpi
        obtain ⟨q1, q2⟩ := g5 p (by omega)
        rw [q2, q1, hb p (Nat.le_refl _) h4]
        rfl
      · exact g6 p (by omega) h4
    rw [b2_t, if_neg (show ¬ (1 : Int32) = 0 by decide)]
    have e25 : (25 + nI i : Int32).toNatClampNeg = 25 + i := by rw [show (25 + nI i : Int32) = nI (25 + i) from nI_add 25 i, nI_clamp (by omega)]
    have e31 : (31 + nI i : Int32).toNatClampNeg = 31 + i := by rw [show (31 + nI i : Int32) = nI (31 + i) from nI_add 31 i, nI_clamp (by omega)]
    simp only [kbind]
    rw [e25, e31]
    by_cases hw6 : s 6 ≤ 0
    · rw [if_pos hw6, A6_z]
      simp (disch := omega) only [va_ne]
      have hR := not_R h hi6
      obtain ⟨s2, hs2⟩ : ∃ s2, s2 = va_up (va_up (va_up (va_up (va_up s 6 (s 6 - 0)) 9 (s 9 + 0)) 10 (s 10 + 1)) (25 + i) (s (25 + i) + 0)) (31 + i) (s (31 + i) + 1) := ⟨_, rfl⟩
      rw [← hs2] at hR ⊢
      have u : ∀ j, j ≠ 10 → j ≠ 31 + i → s2 j = s j := by
        intro j h3 h4
        rw [hs2, va_ne h4]
        unfold va_up
        by_cases q1 : j = 25 + i
        · subst q1; simp
        by_cases q2 : j = 9
        · subst q2; rw [if_neg q1, if_neg h3, if_pos rfl]; simp
        by_cases q3 : j = 6
        · subst q3; rw [if_neg q1, if_neg h3, if_neg q2, if_pos rfl]; simp
        · rw [if_neg q1, if_neg h3, if_neg q2, if_neg q3]
      have z10 : s2 10 = s 10 + 1 := by rw [hs2]; simp (disch := omega) only [va_ne, va_eq]
      have z31 : s2 (31 + i) = s (31 + i) + 1 := by rw [hs2, va_eq]
      obtain ⟨g1, g2, g3, g4, g5, g6, g7⟩ := ih (i + 1) acc _ s2 hR hA (fun p h3 h4 => hb p (by omega) h4) (by omega) (by omega) (NS_c (fun p hp => u _ (by omega) (by omega)) (u _ (by omega) (by omega)) (fun p hp => by split <;> split <;> omega) hn) (NS_up hT hi6 (fun p hp hpi => u _ (by omega) (by omega)) z31 z10 hl).1 (by rw [u 6 (by omega) (by omega)]; exact hw)
      refine ⟨g1, g2, g3, g4, fun p hp => ⟨(g5 p (by omega)).1, (g5 p (by omega)).2.trans (gA_c (u _ (by omega) (by omega)))⟩, fun p h3 h4 => ?_, fun j hj => (g7 j hj).trans (u j (by omega) (by omega))⟩
      by_cases hpi : p = i
      · subst hpi
        obtain ⟨q1, q2⟩ := g5 p (by omega)
        rw [q2, q1, hb p (Nat.le_refl _) h4]
        exact gA_c (u _ (by omega) (by omega))
      · rw [g6 p (by omega) h4, gA_c (u (25 + p) (by omega) (by omega))]
    · rw [if_neg hw6]
      simp (disch := omega) only [va_ne]
      have hR := yes_R h hi6
      obtain ⟨s2, hs2⟩ : ∃ s2, s2 = va_up (va_up (va_up (va_up (va_up s 6 (s 6 - 1)) 9 (s 9 + 1)) 10 (s 10 + 0)) (25 + i) (s (25 + i) + 1)) (31 + i) (s (31 + i) + 0) := ⟨_, rfl⟩
      rw [← hs2] at hR ⊢
      have u : ∀ j, j ≠ 9 → j ≠ 6 → j ≠ 25 + i → s2 j = s j := by
        intro j h3 h4 h5
        rw [hs2]
        unfold va_up
        by_cases q1 : j = 31 + i
        · subst q1; simp
        rw [if_neg q1, if_neg h5]
        by_cases q2 : j = 10
        · subst q2; rw [if_pos rfl]; simp
        · rw [if_neg q2, if_neg h3, if_neg h4]
      have z9 : s2 9 = s 9 + 1 := by rw [hs2]; simp (disch := omega) only [va_ne, va_eq]
      have z6 : s2 6 = s 6 - 1 := by rw [hs2]; simp (disch := omega) only [va_ne, va_eq]
      have z25 : s2 (25 + i) = s (25 + i) + 1 := by rw [hs2, va_ne (by omega), va_eq]
      obtain ⟨w, w1, w2⟩ := hw
      have hw0 : w ≠ 0 := fun q => hw6 (by rw [w2, q]; decide)
      obtain ⟨n1, n2⟩ := NS_up hT hi6 (fun p hp hpi => u _ (by omega) (by omega) (by omega)) z25 z9 hn
      have hacc : ∀ p, p < 6 → bt (acc ||| ((1 : Int32) <<< (nI i &&& 31))) p = (bt acc p || decide (p = i)) := fun p hp => by rw [b_or, bit_6 i hi6 p (by omega)]
      obtain ⟨g1, g2, g3, g4, g5, g6, g7⟩ := ih (i + 1) _ _ s2 hR (A6_or hA hi6) (fun p h3 h4 => by rw [hacc p h4, hb p (by omega) h4, decide_eq_false (by omega)]; rfl) (by omega) (by omega) n1 (NS_c (fun p hp => u _ (by omega) (by omega) (by omega)) (u _ (by omega) (by omega) (by omega)) (fun p hp => by split <;> split <;> omega) hl) ⟨w - 1, by omega, by rw [z6, w2]; exact nI_sub (a := w) (b := 1) (by omega)⟩
      refine ⟨g1, g2, g3, g4, fun p hp => ⟨(g5 p (by omega)).1.trans (by rw [hacc p (by omega), decide_eq_false (by omega), Bool.or_false]), (g5 p (by omega)).2.trans (gA_c (u _ (by omega) (by omega) (by omega)))⟩, fun p h3 h4 => ?_, fun j hj => (g7 j hj).trans (u j (by omega) (by omega) (by omega))⟩
      by_cases hpi : p = i
      · subst hpi
        obtain ⟨q1, q2⟩ := g5 p (by omega)
        rw [q2, q1, hacc p h4, decide_eq_true rfl, Bool.or_true, n2]
        rfl
      · rw [g6 p (by omega) h4, gA_c (u (25 + p) (by omega) (by omega) (by omega))]
-- ---------------------------------------------------------------- a row, a tick
def EI (T : Nat) (s : KR) : Prop := (s 2 = nI (gA s 2) ∧ gA s 2 ≤ T) ∧ (s 5 = nI (gA s 5) ∧ s 11 = nI (gA s 11) ∧ gA s 5 + gA s 11 ≤ 12 * gA s 2) ∧ LV s (gA s 0) (gA s 5) ∧ (∀ j, j < gA s 1 → ∃ w, w ≤ gA s 2 ∧ s (157 + 5 * j + 4) = nI w) ∧ (∃ w, w ≤ 60 ∧ s 6 = nI w) ∧ NS s 25 9 6 (gA s 2) ∧ NS s 31 10 6 (gA s 2) ∧ B8 s
theorem EI_mono {T T2 : Nat} {s : KR} (h : T ≤ T2) (he : EI T s) : EI T2 s := ⟨⟨he.1.1, Nat.le_trans he.1.2 h⟩, he.2⟩
theorem RC_gM {o : OV} {s : KR} {N M : Nat} (h : RC o s N M) : gA s 1 = M := gA_n h.1.2.1.1 (by have := h.1.2.1.2.1; omega)
theorem EI_tick {T : Nat} {o : OV} {s : KR} {N M : Nat} (h : RC o s N M) (hT : T + 1 ≤ BIG) (he : EI T s) : EI (T + 1) (k_X6_tick s) ∧ gA (k_X6_tick s) 5 + gA (k_X6_tick s) 11 + gA (k_X6_tick s) 1 = gA s 5 + gA s 11 + gA s 1 ∧ ∀ p, p < 6 → gA (k_X6_tick s) (25 + p) = gA s (25 + p) + (bt ((k_X6_tick s) 7) p).toNat := by
  have hBB : BIG = 1000000 := rfl
  obtain ⟨⟨t1, t2⟩, ⟨v1, v2, v3⟩, hv, hw, ⟨w, w1, w2⟩, hn, hl, -⟩ := he
  rw [tickS]
  obtain ⟨c1, -⟩ := crank_R h rfl rfl
  have hM := h.1.2.1.2.1
  obtain ⟨a12, ha12, d4⟩ := h.2.1.2.2.2.1
  obtain ⟨a14, ha14, d6⟩ := h.2.1.2.2.2.2.2
  have hw9 : ∃ w9, w9 ≤ 60 ∧ (if s 14 < s 6 + 2 * s 12 then s 14 else s 6 + 2 * s 12) = nI w9 := by
    rw [d6, w2, d4, show (2 * nI a12 : Int32) = nI (2 * a12) from nI_mul 2 a12, nI_add]
    by_cases q : a14 < w + 2 * a12
    · rw [if_pos (nI_lt q (by omega))]
      exact ⟨a14, ha14, rfl⟩
    · rw [if_neg (nI_nlt (by omega) (by omega))]
      exact ⟨w + 2 * a12, by omega, rfl⟩
  obtain ⟨w9, hw1, hw2⟩ := hw9
  generalize (if (s 3 + s 12) < 24 then (0 : Int32) else 1) = r9 at c1 ⊢
  rw [hw2] at c1 ⊢
  have u : ∀ j, j ≠ 2 → j ≠ 3 → j ≠ 4 → j ≠ 6 → crS s r9 (nI w9) j = s j := by
    intro j h1 h2 h3 h4
    unfold crS
    rw [va_ne h4, va_ne h2, va_ne h3, va_ne h2, va_ne h1]
  have z2 : crS s r9 (nI w9) 2 = nI (gA s 2 + 1) := by unfold crS; simp (disch := omega) only [va_ne, va_eq]; rw [t1, nI_1]
  have z6 : crS s r9 (nI w9) 6 = nI w9 := by unfold crS; simp (disch := omega) only [va_ne, va_eq]
  generalize crS s r9 (nI w9) = s1 at c1 u z2 z6 ⊢
  have hL1 : LI 0 (gA s 2 + 1) (gA s 5 + gA s 11 + M) s1 M := by
    refine ⟨_, N, gA s 5, gA s 11, c1, (u _ (by omega) (by omega) (by omega) (by omega)).trans v1, (u _ (by omega) (by omega) (by omega) (by omega)).trans v2, rfl, Nat.zero_le _, ?_, fun j hj => ?_⟩
    · rw [RF_gN h] at hv
      exact LV_c (fun k hk => u _ (by omega) (by omega) (by omega) (by omega)) (Nat.le_refl _) hv
    · obtain ⟨x, x1, x2⟩ := hw j (by rw [RC_gM h]; exact hj)
      exact ⟨x, by rw [if_neg (by omega)]; omega, (u _ (by omega) (by omega) (by omega) (by omega)).trans x2⟩
  obtain ⟨M2, ⟨o2, N2, V2, X2, l1, l2, l3, l4, l5, l6, l7⟩, g2⟩ := LI_look (by omega) (by omega) hL1
  generalize k_X6_lookAtOrders s1 = s2 at l1 l2 l3 l6 l7 g2 ⊢
  have u2 : ∀ i, i < 37 → i ≠ 0 → i ≠ 1 → i ≠ 5 → i ≠ 11 → i ≠ 2 → i ≠ 3 → i ≠ 4 → i ≠ 6 → s2 i = s i := fun i a b c d e f g h9 h10 => (g2 i a b c d e).trans (u i f g h9 h10)
  have hn2 : NS s2 25 9 0 (gA s 2 + 1) := NS_c (fun p hp => u2 _ (by omega) (by omega) (by omega) (by omega) (by omega) (by omega) (by omega) (by omega) (by omega)) (u2 _ (by omega) (by omega) (by omega) (by omega) (by omega) (by omega) (by omega) (by omega) (by omega)) (fun p hp => by rw [if_neg (by omega), if_pos (by omega)]; omega) hn
  have hl2 : NS s2 31 10 0 (gA s 2 + 1) := NS_c (fun p hp => u2 _ (by omega) (by omega) (by omega) (by omega) (by omega) (by omega) (by omega) (by omega) (by omega)) (u2 _ (by omega) (by omega) (by omega) (by omega) (by omega) (by omega) (by omega) (by omega) (by omega)) (fun p hp => by rw [if_neg (by omega), if_pos (by omega)]; omega) hl
  have h26 : s2 6 = nI w9 := (g2 6 (by omega) (by omega) (by omega) (by omega) (by omega)).trans z6
  have h22 : s2 2 = nI (gA s 2 + 1) := (g2 2 (by omega) (by omega) (by omega) (by omega) (by omega)).trans z2
  obtain ⟨f1, f2, f3, f4, -, f6, f7⟩ := play_I (s0 := s2) (T := gA s 2 + 1) (by omega) 7 0 0 o2 s2 l1 A6_0 (fun p _ _ => b_0 p) (by omega) (by omega) hn2 hl2 ⟨w9, hw1, h26⟩
  have ep : k_X6_play_L4 s2 7 (nI 0) 0 s2 = k_X6_play s2 := rfl
  rw [ep] at f1 f2 f3 f4 f6 f7
  generalize k_X6_play s2 = s3 at f1 f2 f3 f4 f6 f7 ⊢
  have hM2 := l1.1.2.1.2.1
  have y2 : gA s3 2 = gA s 2 + 1 := gA_n ((f7 2 (by omega)).trans h22) (by omega)
  have y5 : gA s3 5 = V2 := gA_n ((f7 5 (by omega)).trans l2) (by omega)
  have y11 : gA s3 11 = X2 := gA_n ((f7 11 (by omega)).trans l3) (by omega)
  have y1 : gA s3 1 = M2 := gA_n ((f7 1 (by omega)).trans l1.1.2.1.1) (by omega)
  have y0 : gA s3 0 = N2 := gA_n ((f7 0 (by omega)).trans l1.1.1.1) (by have := l1.1.1.2.1; omega)
  have hN2 := l1.1.1.2.1
  refine ⟨⟨⟨?_, by omega⟩, ⟨?_, ?_, by omega⟩, ?_, fun j hj => ?_, f3, by rw [y2]; exact f1, by rw [y2]; exact f2, f4⟩, by rw [y5, y11, y1, RC_gM h]; exact l4, fun p hp => ?_⟩
  · rw [y2]; exact (f7 2 (by omega)).trans h22
  · rw [y5]; exact (f7 5 (by omega)).trans l2
  · rw [y11]; exact (f7 11 (by omega)).trans l3
  · rw [y0, y5]
    exact LV_c (fun k hk => f7 _ (by omega)) (Nat.le_refl _) l6
  · rw [y1] at hj
    obtain ⟨x, x1, x2⟩ := l7 j hj
    rw [if_pos hj] at x1
    exact ⟨x, by omega, (f7 _ (by omega)).trans x2⟩
  · rw [f6 p (Nat.zero_le _) hp, gA_c (u2 (25 + p) (by omega) (by omega) (by omega) (by omega) (by omega) (by omega) (by omega) (by omega) (by omega))]
/-- ticks on end -/
theorem EI_it {T : Nat} {o : OV} {s : KR} (h : RF o s) (he : EI T s) : ∀ m, T + m ≤ BIG → EI (T + m) (itS m s) ∧ gA (itS m s) 5 + gA (itS m s) 11 + gA (itS m s) 1 = gA s 5 + gA s 11 + gA s 1 ∧ (∀ p, p < 6 → gA s (25 + p) ≤ gA (itS m s) (25 + p)) ∧ ∀ p, p < 6 → (∀ u, 1 ≤ u → u ≤ m → bt ((itS u s) 7) p = false) → gA (itS m s) (25 + p) = gA s (25 + p) := by
  intro m
  induction m with
  | zero => exact fun _ => ⟨he, rfl, fun p _ => Nat.le_refl _, fun p _ _ => rfl⟩
  | succ m ih =>
    intro hT
    obtain ⟨i1, i2, i3, i4⟩ := ih (by omega)
    obtain ⟨N, M, hR, -⟩ := RF_it h m
    obtain ⟨g1, g2, g3⟩ := EI_tick hR (by omega) i1
    have e : itS (m + 1) s = k_X6_tick (itS m s) := rfl
    rw [e]
    refine ⟨g1, g2.trans i2, fun p hp => ?_, fun p hp hu => ?_⟩
    · rw [g3 p hp]
      have := i3 p hp
      omega
    · rw [g3 p hp, show bt ((k_X6_tick (itS m s)) 7) p = false from hu (m + 1) (by omega) (Nat.le_refl _), i4 p hp (fun u a b => hu u a (by omega))]
      rfl
/-- and the last one sounded -/
theorem EI_last {T : Nat} {o : OV} {s : KR} (h : RF o s) (he : EI T s) {m p : Nat} (hT : T + m ≤ BIG) (hm : 1 ≤ m) (hp : p < 6) (hb : bt ((itS m s) 7) p = true) : gA s (25 + p) < gA (itS m s) (25 + p) := by
  obtain ⟨m, rfl⟩ : ∃ q, m = q + 1 := ⟨m - 1, by omega⟩
  obtain ⟨i1, i2, i3, i4⟩ := EI_it h he m (by omega)
  obtain ⟨N, M, hR, -⟩ := RF_it h m
  obtain ⟨g1, g2, g3⟩ := EI_tick hR (by omega) i1
  have e : itS (m + 1) s = k_X6_tick (itS m s) := rfl
  rw [e] at hb ⊢
  have := i3 p hp
  rw [g3 p hp, hb]
  show gA s (25 + p) < gA (itS m s) (25 + p) + 1
  omega
theorem snd_bt {s : KR} {p : Nat} (hp : p < 6) : snd s p ↔ bt (s 7) p = true := by
  unfold snd
  rw [shr_1 hp]
  cases bt (s 7) p <;> simp
-- ---------------------------------------------------------------- the other acts
theorem EI_c {T : Nat} {s s2 : KR} (h : ∀ i, (i < 12 ∨ 25 ≤ i) → i < 157 → i ≠ 1 → s2 i = s i) (hw : ∀ j, j < gA s2 1 → ∃ w, w ≤ gA s 2 ∧ s2 (157 + 5 * j + 4) = nI w) (he : EI T s) (hN : gA s 0 ≤ 30) : EI T s2 := by
  obtain ⟨⟨t1, t2⟩, ⟨v1, v2, v3⟩, hv, -, w, hn, hl, hb⟩ := he
  have g2 := gA_c (h 2 (by omega) (by omega) (by omega))
  have g5 := gA_c (h 5 (by omega) (by omega) (by omega))
  have g11 := gA_c (h 11 (by omega) (by omega) (by omega))
  have g0 := gA_c (h 0 (by omega) (by omega) (by omega))
  refine ⟨⟨?_, by omega⟩, ⟨?_, ?_, by omega⟩, ?_, by rw [g2]; exact hw, ?_, ?_, ?_, ?_⟩
  · rw [g2, h 2 (by omega) (by omega) (by omega)]; exact t1
  · rw [g5, h 5 (by omega) (by omega) (by omega)]; exact v1
  · rw [g11, h 11 (by omega) (by omega) (by omega)]; exact v2
  · rw [g0, g5]; exact LV_c (fun k hk => h _ (by omega) (by omega) (by omega)) (Nat.le_refl _) hv
  · rw [h 6 (by omega) (by omega) (by omega)]; exact w
  · rw [g2]; exact NS_c (fun p hp => h _ (by omega) (by omega) (by omega)) (h _ (by omega) (by omega) (by omega)) (fun p hp => Nat.le_refl _) hn
  · rw [g2]; exact NS_c (fun p hp => h _ (by omega) (by omega) (by omega)) (h _ (by omega) (by omega) (by omega)) (fun p hp => Nat.le_refl _) hl
  · unfold B8
    rw [h 7 (by omega) (by omega) (by omega), h 8 (by omega) (by omega) (by omega)]
    exact hb
theorem EI_ad {T M : Nat} {s : KR} {v vp vb vn : Int32} {o : OV} {N : Nat} (h : RC o s N M) (hM : M < 12) (he : EI T s) : EI T (adS s M v vp vb vn) := by
  have u : ∀ i, i ≠ 1 → (i < 157 + 5 * M ∨ 157 + 5 * M + 5 ≤ i) → adS s M v vp vb vn i = s i := by
    intro i h1 h2
    unfold adS
    simp (disch := omega) only [va_ne]
  have z1 : adS s M v vp vb vn 1 = nI (M + 1) := va_eq _ _ _
  have z4 : adS s M v vp vb vn (157 + 5 * M + 4) = nI 0 := by unfold adS; simp (disch := omega) only [va_ne, va_eq]; rfl
  refine EI_c (fun i h1 h2 h3 => u i h3 (by omega)) (fun j hj => ?_) he (by rw [RF_gN h]; exact h.1.1.2.1)
  rw [gA_n z1 (by omega)] at hj
  by_cases hjM : j = M
  · subst hjM
    exact ⟨0, Nat.zero_le _, z4⟩
  · obtain ⟨w, w1, w2⟩ := he.2.2.2.1 j (by rw [RC_gM h]; omega)
    exact ⟨w, w1, (u _ (by omega) (by omega)).trans w2⟩
theorem EI_drop {T M k : Nat} {s : KR} {o : OV} {N : Nat} (h : RC o s N M) (hk : k < M) (he : EI T s) : EI T (k_X6_dropOrder s (nI k)) ∧ (∀ i, i < 37 → i ≠ 1 → k_X6_dropOrder s (nI k) i = s i) ∧ k_X6_dropOrder s (nI k) 1 = nI (M - 1) := by
  have hM := h.1.2.1.2.1
  have e := dO_eq h.1.2.1.1 hM hk
  have u : ∀ i, i < 157 → i ≠ 1 → (k_X6_dropOrder s (nI k)) i = s i := by
    intro i hi hi1
    rw [e, va_ne hi1]
    unfold shf
    rw [if_neg (by omega)]
  have z1 : k_X6_dropOrder s (nI k) 1 = nI (M - 1) := by rw [e, va_eq]
  refine ⟨EI_c (fun i h1 h2 h3 => u i h2 h3) (fun j hj => ?_) he (by rw [RF_gN h]; exact h.1.1.2.1), fun i h1 h2 => u i (by omega) h2, z1⟩
  rw [gA_n z1 (by omega)] at hj
  obtain ⟨w, w1, w2⟩ := he.2.2.2.1 (if j < k then j else j + 1) (by rw [RC_gM h]; split <;> omega)
  refine ⟨w, w1, Eq.trans ?_ w2⟩
  rw [e, va_ne (by omega)]
  unfold shf
  by_cases hjk : j < k
  · rw [if_neg (by omega), if_pos hjk]
  · rw [if_pos (by omega), if_neg hjk]
    exact congrArg s (by omega)
theorem EI_set {T w : Nat} {s : KR} {v : Int32} {o : OV} {N M : Nat} (h : RC o s N M) (hw : w < 3) (he : EI T s) : EI T (va_up s (12 + w) v) :=
  EI_c (fun i h1 h2 h3 => va_ne (by omega)) (fun j hj => by
    rw [gA_c (va_ne (f := s) (show (1 : Nat) ≠ 12 + w by omega))] at hj
    obtain ⟨x, x1, x2⟩ := he.2.2.2.1 j hj
    exact ⟨x, x1, (va_ne (by omega)).trans x2⟩) he (by rw [RF_gN h]; exact h.1.1.2.1)
theorem s00_zz {i : Nat} (h1 : i ≠ 12) (h2 : i ≠ 14) : s00 i = nI 0 := by
  unfold s00
  rw [clear_at, if_neg h2, if_neg h1]
  split <;> rfl
theorem EI_0 : EI 0 s00 := by
  have z : ∀ i, i ≠ 12 → i ≠ 14 → gA s00 i = 0 := fun i a b => gA_n (s00_zz a b) (by omega)
  have zs : ∀ b, 15 ≤ b → fb_sm (fun p => gA s00 (b + p)) 6 = 0 := fun b hb => (fb_sm_cong (g := fun _ => 0) (fun p _ => z (b + p) (by omega) (by omega))).trans (fb_sm_const 0 6)
  have ns : ∀ b t, 15 ≤ b → t < 12 → NS s00 b t 6 (gA s00 2) := fun b t hb ht => by
    rw [z 2 (by omega) (by omega)]
    refine ⟨fun p hp => ?_, ?_⟩
    · rw [z _ (by omega) (by omega), if_pos hp]
      exact ⟨s00_zz (by omega) (by omega), Nat.le_refl _⟩
    · rw [zs b hb]
      exact s00_zz (by omega) (by omega)
  refine ⟨⟨?_, ?_⟩, ⟨?_, ?_, ?_⟩, ⟨fun k hk => ?_, fun j k hj hk => ?_⟩, fun j hj => ?_, ⟨0, by omega, s00_zz (by omega) (by omega)⟩, ns 25 9 (by omega) (by omega), ns 31 10 (by omega) (by omega), ?_⟩
  · rw [z 2 (by omega) (by omega)]; exact s00_zz (by omega) (by omega)
  · rw [z 2 (by omega) (by omega)]; exact Nat.le_refl _
  · rw [z 5 (by omega) (by omega)]; exact s00_zz (by omega) (by omega)
  · rw [z 11 (by omega) (by omega)]; exact s00_zz (by omega) (by omega)
  · rw [z 5 (by omega) (by omega), z 11 (by omega) (by omega)]; exact Nat.zero_le _
  · rw [z 0 (by omega) (by omega)] at hk; omega
  · rw [z 0 (by omega) (by omega)] at hk; omega
  · rw [z 1 (by omega) (by omega)] at hj; omega
  · unfold B8
    rw [s00_zz (i := 7) (by omega) (by omega)]
    exact and_z.mpr (fun j _ => by rw [show bt (nI 0) j = false from b_0 j]; rfl)
