/-! Layer 2: an order is done, or void. -/
theorem doP {s : Nat → Int32} {N k : Nat} (n1 : s 0 = nI N) (hN : N < 30) (hk : k ≤ 11) (h1 : s (157 + 5 * k) = 1) : k_X6_doOrder s (nI k) = va_up (va_up (va_up (va_up (va_up (va_up s 5 (s 5 + 1)) (37 + 4 * N) (s (157 + 5 * k + 1))) (37 + 4 * N + 1) (s (157 + 5 * k + 2))) (37 + 4 * N + 2) (s (157 + 5 * k + 3))) (37 + 4 * N + 3) (s 5 + 1)) 0 (nI (N + 1)) := by
  have o0 : ∀ X : Nat → Int32, k_X6_order X (nI k) 0 = X (157 + 5 * k) := fun X => od (w := 0) hk (by omega)
  have o1 : ∀ X : Nat → Int32, k_X6_order X (nI k) 1 = X (157 + 5 * k + 1) := fun X => od (w := 1) hk (by omega)
  have o2 : ∀ X : Nat → Int32, k_X6_order X (nI k) 2 = X (157 + 5 * k + 2) := fun X => od (w := 2) hk (by omega)
  have o3 : ∀ X : Nat → Int32, k_X6_order X (nI k) 3 = X (157 + 5 * k + 3) := fun X => od (w := 3) hk (by omega)
  have e : (37 + 4 * nI N : Int32) = nI (37 + 4 * N) := by rw [← nI_add, ← nI_mul]; rfl
  have e1 : (nI (37 + 4 * N) + 1 : Int32) = nI (37 + 4 * N + 1) := nI_add _ 1
  have e2 : (nI (37 + 4 * N) + 2 : Int32) = nI (37 + 4 * N + 2) := nI_add _ 2
  have e3 : (nI (37 + 4 * N) + 3 : Int32) = nI (37 + 4 * N + 3) := nI_add _ 3
  unfold k_X6_doOrder
  simp only [kbind, o0, o1, o2, o3, n1, e, e1, e2, e3]
  rw [nI_clamp (n := 37 + 4 * N) (by omega), nI_clamp (n := 37 + 4 * N + 1) (by omega), nI_clamp (n := 37 + 4 * N + 2) (by omega), nI_clamp (n := 37 + 4 * N + 3) (by omega)]
  simp (disch := omega) only [va_ne, va_eq]
  rw [if_pos h1, n1, nI_1]
theorem vdP {s : Nat → Int32} {N k : Nat} (n1 : s 0 = nI N) (hN : N ≤ 30) (hv : ∀ k, k < N → PV s k) (hk : k ≤ 11) (hq : QV s k) (h1 : s (157 + 5 * k) = 1) : k_X6_isVoid s (nI k) = b2 (tkn s N (gA s (157 + 5 * k + 1)) (gA s (157 + 5 * k + 2)) (gA s (157 + 5 * k + 3)) || decide (N = 30)) := by
  obtain ⟨q1, q2, q3, q4, q5, q6, q7⟩ := hq
  have e0 : k_X6_order s (nI k) 0 = s (157 + 5 * k) := od (w := 0) (by omega) (by omega)
  have e1 : k_X6_order s (nI k) 1 = nI (gA s (157 + 5 * k + 1)) := (od (w := 1) (by omega) (by omega)).trans q4
  have e2 : k_X6_order s (nI k) 2 = nI (gA s (157 + 5 * k + 2)) := (od (w := 2) (by omega) (by omega)).trans q5
  have e3 : k_X6_order s (nI k) 3 = nI (gA s (157 + 5 * k + 3)) := (od (w := 3) (by omega) (by omega)).trans q6
  unfold k_X6_isVoid
  rw [e0, e1, e2, e3, isT n1 hN hv q1 q2 q3, h1, if_pos rfl, n1]
  have e30 : (nI N = 30) ↔ N = 30 := nI_eq (b := 30) (by omega) (by omega)
  cases h : tkn s N (gA s (157 + 5 * k + 1)) (gA s (157 + 5 * k + 2)) (gA s (157 + 5 * k + 3))
  · by_cases h30 : N = 30
    · subst h30
      simp [b2, show nI 30 = 30 from rfl]
    · simp [b2, e30, h30]
  · simp [b2]
theorem plC {o : OV} {s : Nat → Int32} {N M k : Nat} (hB : RB o s N M) (hk : k < M) : k_X1_placePeg o (nI k) = if (tkn s N (gA s (157 + 5 * k + 1)) (gA s (157 + 5 * k + 2)) (gA s (157 + 5 * k + 3)) || decide (N = 30)) then (0, o) else (1, o_pt (o_r o 2 (va_up (o.2.2 2) (gA s (157 + 5 * k + 1)) (o.2.2 2 (gA s (157 + 5 * k + 1)) ||| k_X5_span (nI (gA s (157 + 5 * k + 2))) (nI (gA s (157 + 5 * k + 3)))))) (nI (N + 1), va_up (va_up (va_up (va_up (o.2.2 0) (4 * N) (nI (gA s (157 + 5 * k + 1)))) (4 * N + 1) (nI (gA s (157 + 5 * k + 2)))) (4 * N + 2) (nI (gA s (157 + 5 * k + 3)))) (4 * N + 3) (o.1 3 + 1))) := by
  obtain ⟨⟨n1, n2, n3⟩, ⟨m1, m2, m3⟩, hp, hv, hd, hC, ho, hq⟩ := hB
  obtain ⟨q1, q2, q3, q4, q5, q6, q7⟩ := hq k hk
  have o1 := ho k hk 1 (by omega)
  have o2 := ho k hk 2 (by omega)
  have o3 := ho k hk 3 (by omega)
  unfold k_X1_placePeg
  rw [ao1 (by omega), ao2 (by omega), ao3 (by omega), o1, o2, o3, q4, q5, q6, pipe_y q1, if_neg (by decide), fre hC q1 q2 q3, nI_clamp (by omega)]
  cases h : tkn s N (gA s (157 + 5 * k + 1)) (gA s (157 + 5 * k + 2)) (gA s (157 + 5 * k + 3))
  · rw [Bool.not_false, b2_t, if_neg (by decide)]
    by_cases h30 : N = 30
    · subst h30
      rw [show k_X4_isFull 4 30 (g_pt o) = 1 from full_y (C := 4) (M := 30) (t := g_pt o) n3 (by omega), if_neg (by decide), if_pos (by decide)]
    · have hN : N < 30 := by omega
      rw [show k_X4_isFull 4 30 (g_pt o) = 0 from full_n (C := 4) (M := 30) (t := g_pt o) n3 hN (by omega), if_pos rfl, show k_X4_addLine 4 30 (g_pt o) = (nI N, (nI (N + 1), (g_pt o).2)) from addl_eq (C := 4) (M := 30) (t := g_pt o) n3 hN (by omega)]
      dsimp only
      have w0 : ∀ (t : TV) (v : Int32), k_X4_write 4 30 t (nI N) 0 v = (t.1, va_up t.2 (4 * N) v) := fun t v => wr_eq (C := 4) (M := 30) (c := 0) hN (by omega) (by omega) (by omega)
      have w1 : ∀ (t : TV) (v : Int32), k_X4_write 4 30 t (nI N) 1 v = (t.1, va_up t.2 (4 * N + 1) v) := fun t v => wr_eq (C := 4) (M := 30) (c := 1) hN (by omega) (by omega) (by omega)
      have w2 : ∀ (t : TV) (v : Int32), k_X4_write 4 30 t (nI N) 2 v = (t.1, va_up t.2 (4 * N + 2) v) := fun t v => wr_eq (C := 4) (M := 30) (c := 2) hN (by omega) (by omega) (by omega)
      have w3 : ∀ (t : TV) (v : Int32), k_X4_write 4 30 t (nI N) 3 v = (t.1, va_up t.2 (4 * N + 3) v) := fun t v => wr_eq (C := 4) (M := 30) (c := 3) hN (by omega) (by omega) (by omega)
      rw [w0, w1, w2, w3, if_neg (by simp [h30])]
      rfl
  · rw [Bool.not_true, b2_f, if_pos rfl, if_pos (by simp)]
/-- a peg is put: what holds then -/
theorem put_R {o : OV} {s s1 : Nat → Int32} {N M p f n : Nat} {o1 : OV} {v : Int32} (h : RC o s N M) (hp6 : p < 6) (hf : f < 24) (hn0 : 1 ≤ n) (hn : n < 7) (hT : tkn s N p f n = false) (hN : N < 30)
    (e1 : s1 = va_up (va_up (va_up (va_up (va_up (va_up s 5 v) (37 + 4 * N) (nI p)) (37 + 4 * N + 1) (nI f)) (37 + 4 * N + 2) (nI n)) (37 + 4 * N + 3) v) 0 (nI (N + 1))) (hv5 : v = s 5 + 1)
    (e2 : o1 = o_pt (o_r o 2 (va_up (o.2.2 2) p (o.2.2 2 p ||| k_X5_span (nI f) (nI n)))) (nI (N + 1), va_up (va_up (va_up (va_up (o.2.2 0) (4 * N) (nI p)) (4 * N + 1) (nI f)) (4 * N + 2) (nI n)) (4 * N + 3) (o.1 3 + 1))) : RC (o_s o1 3 (o1.1 3 + 1)) s1 (N + 1) M := by
  obtain ⟨⟨⟨n1, n2, n3⟩, ⟨m1, m2, m3⟩, hp, hv, hd, hC, ho, hq⟩, hD, hH, hS⟩ := h
  have a3 : o.1 3 = s 5 := hS.2.2.2.1
  have u : ∀ i, i ≠ 0 → i ≠ 5 → (i < 37 + 4 * N ∨ 37 + 4 * N + 4 ≤ i) → s1 i = s i := by
    intro i h1 h2 h3
    subst e1
    simp (disch := omega) only [va_ne]
  have z0 : s1 (37 + 4 * N) = nI p := by subst e1; simp (disch := omega) only [va_ne, va_eq]
  have z1 : s1 (37 + 4 * N + 1) = nI f := by subst e1; simp (disch := omega) only [va_ne, va_eq]
  have z2 : s1 (37 + 4 * N + 2) = nI n := by subst e1; simp (disch := omega) only [va_ne, va_eq]
  have z3 : s1 (37 + 4 * N + 3) = s 5 + 1 := by subst e1; rw [← hv5]; simp (disch := omega) only [va_ne, va_eq]
  have z5 : s1 5 = s 5 + 1 := by subst e1; rw [← hv5]; simp (disch := omega) only [va_ne, va_eq]
  have g0 : gA s1 (37 + 4 * N) = p := by unfold gA; rw [z0, nI_clamp (by omega)]
  have g1 : gA s1 (37 + 4 * N + 1) = f := by unfold gA; rw [z1, nI_clamp (by omega)]
  have g2 : gA s1 (37 + 4 * N + 2) = n := by unfold gA; rw [z2, nI_clamp (by omega)]
  have cO : ∀ k q b, k < N → cv s1 k q b = cv s k q b := fun k q b hk => cv_c (fun c hc => u _ (by omega) (by omega) (by omega))
  have cN : ∀ q b, cv s1 N q b = (decide (p = q) && ov f n b) := fun q b => by unfold cv; rw [g0, g1, g2]
  have no : ∀ k b, k < N → b < 24 → ov f n b = true → cv s k p b = false := by
    intro k b hk hb h1
    have h2 : (b + 24 - f) % 24 < n := of_decide_eq_true h1
    have h3 := tkn_f.mp hT _ h2
    rw [show (f + (b + 24 - f) % 24) % 24 = b by omega] at h3
    exact cvs_f.mp h3 k hk
  have r0 : ∀ i, o1.2.2 0 i = va_up (va_up (va_up (va_up (o.2.2 0) (4 * N) (nI p)) (4 * N + 1) (nI f)) (4 * N + 2) (nI n)) (4 * N + 3) (o.1 3 + 1) i := by subst e2; exact fun _ => rfl
  have r2 : o1.2.2 2 = va_up (o.2.2 2) p (o.2.2 2 p ||| k_X5_span (nI f) (nI n)) := by subst e2; rfl
  refine ⟨⟨⟨?_, by omega, ?_⟩, ⟨?_, m2, ?_⟩, fun i hi => ?_, fun k hk => ?_, ?_, ?_, fun j hj c hc => ?_, fun j hj => ?_⟩, ?_, ?_, ?_⟩
  · subst e1; exact va_eq _ _ _
  · subst e2; rfl
  · rw [u _ (by omega) (by omega) (by omega)]; exact m1
  · subst e2; exact m3
  · show o1.2.2 0 i = _
    rw [r0]
    rcases (show i < 4 * N ∨ i = 4 * N ∨ i = 4 * N + 1 ∨ i = 4 * N + 2 ∨ i = 4 * N + 3 by omega) with q | q | q | q | q
    · rw [u _ (by omega) (by omega) (by omega), ← hp i q]
      simp (disch := omega) only [va_ne]
    · subst q; rw [z0]; simp (disch := omega) only [va_ne, va_eq]
    · subst q; rw [← Nat.add_assoc, z1]; simp (disch := omega) only [va_ne, va_eq]
    · subst q; rw [← Nat.add_assoc, z2]; simp (disch := omega) only [va_ne, va_eq]
    · subst q; rw [← Nat.add_assoc, z3, va_eq, a3]
  · by_cases hkN : k < N
    · exact PV_c (fun c hc => u _ (by omega) (by omega) (by omega)) (hv k hkN)
    · have : k = N := by omega
      subst this
      unfold PV
      rw [g0, g1, g2]
      exact ⟨hp6, hf, hn0, hn, z0, z1, z2⟩
  · intro k hk j hj hkj q hq6 b hb e
    by_cases h1 : k < N
    · rw [cO k q b h1] at e
      by_cases h2 : j < N
      · rw [cO j q b h2]
        exact hd k h1 j h2 hkj q hq6 b hb e
      · have : j = N := by omega
        subst this
        rw [cN]
        cases h3 : ov f n b
        · simp
        · by_cases h4 : p = q
          · subst h4
            rw [no k b h1 hb h3] at e
            cases e
          · simp [h4]
    · have : k = N := by omega
      subst this
      rw [cN] at e
      rw [cO j q b (by omega)]
      simp only [Bool.and_eq_true, decide_eq_true_eq] at e
      obtain ⟨rfl, e⟩ := e
      exact no j b (by omega) hb e
  · intro q hq6 j hj
    show bt (o1.2.2 2 q) j = _
    rw [cvs_S, cN, r2, cvs_c (s := s) (fun k hk => cO k q j hk)]
    by_cases h4 : q = p
    · subst h4
      rw [va_eq, b_or, hC q hq6 j hj, sp_bt f hf n hn j hj]
      cases decide (j < 24) <;> simp
    · have h5 : decide (p = q) = false := decide_eq_false (fun h => h4 h.symm)
      rw [va_ne h4, hC q hq6 j hj, h5]
      simp
  · rw [u _ (by omega) (by omega) (by omega)]
    subst e2
    exact ho j hj c hc
  · exact QV_c (fun c hc => u _ (by omega) (by omega) (by omega)) (hq j hj)
  · refine RD_c (o := o) (s := s) (fun j h1 h2 => u _ (by omega) (by omega) (by omega)) (fun j h1 h2 => u _ (by omega) (by omega) (by omega)) ?_ ?_ ?_ hD <;> (subst e2; rfl)
  · refine RH_c (o := o) (s := s) (fun j h1 h2 => u _ (by omega) (by omega) (by omega)) (u _ (by omega) (by omega) (by omega)) (u _ (by omega) (by omega) (by omega)) ?_ ?_ hH <;> (subst e2; rfl)
  · obtain ⟨b1, b2, b3, b4, b5, b6, b7, b8, b9⟩ := hS
    have v1 : ∀ j, j ≠ 3 → j ≠ 10 → (o_s o1 3 (o1.1 3 + 1)).1 j = o.1 j := by
      intro j h1 h2
      subst e2
      show va_up (va_up o.1 10 _) 3 _ j = _
      rw [va_ne h1, va_ne h2]
    refine ⟨?_, ?_, ?_, ?_, ?_, ?_, ?_, ?_, ?_⟩
    · rw [v1 _ (by omega) (by omega), u _ (by omega) (by omega) (by omega)]; exact b1
    · rw [v1 _ (by omega) (by omega), u _ (by omega) (by omega) (by omega)]; exact b2
    · rw [v1 _ (by omega) (by omega), u _ (by omega) (by omega) (by omega)]; exact b3
    · rw [z5]
      subst e2
      show o.1 3 + 1 = _
      rw [a3]
    · rw [v1 _ (by omega) (by omega), u _ (by omega) (by omega) (by omega)]; exact b5
    · rw [v1 _ (by omega) (by omega), u _ (by omega) (by omega) (by omega)]; exact b6
    · rw [v1 _ (by omega) (by omega), u _ (by omega) (by omega) (by omega)]; exact b7
    · rw [v1 _ (by omega) (by omega), u _ (by omega) (by omega) (by omega)]; exact b8
    · rw [u _ (by omega) (by omega) (by omega)]; exact b9
