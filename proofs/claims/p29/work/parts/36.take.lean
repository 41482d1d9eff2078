/-! Layer 2: a peg is pulled; the orders are looked at. -/
def tkO (o : OV) (N p f n x : Nat) : OV := o_pt (o_r o 2 (va_up (o.2.2 2) p ((o.2.2 2 p) &&& ((k_X5_span (nI f) (nI n)) ^^^ (-1))))) (nI (N - 1), va_cpy (o.2.2 0) (o.2.2 0) (4 * (x + 1)) (4 * x) (4 * (N - 1 - x)))
/-- both look for the same peg -/
theorem fnd {o : OV} {s : Nat → Int32} {N M k : Nat} (hB : RB o s N M) (hk : k < M) : ∀ n j, j + n = 31 → j ≤ N →
    (k_X1_takePeg_L23 o (nI k) n (nI j) = (0, o) ∧ k_X6_pegAt_L2 s (nI (gA s (157 + 5 * k + 1))) (nI (gA s (157 + 5 * k + 2))) n (nI j) = -1) ∨
    ∃ x, x < N ∧ gA s (37 + 4 * x) = gA s (157 + 5 * k + 1) ∧ gA s (37 + 4 * x + 1) = gA s (157 + 5 * k + 2) ∧ k_X6_pegAt_L2 s (nI (gA s (157 + 5 * k + 1))) (nI (gA s (157 + 5 * k + 2))) n (nI j) = nI x ∧ k_X1_takePeg_L23 o (nI k) n (nI j) = (1, tkO o N (gA s (157 + 5 * k + 1)) (gA s (157 + 5 * k + 2)) (gA s (37 + 4 * x + 2)) x) := by
  obtain ⟨⟨n1, n2, n3⟩, ⟨m1, m2, m3⟩, hp, hv, hd, hC, ho, hq⟩ := hB
  obtain ⟨q1, q2, q3, q4, q5, q6, q7⟩ := hq k hk
  have o1 := ho k hk 1 (by omega)
  have o2 := ho k hk 2 (by omega)
  intro n
  induction n with
  | zero => intro j h1 h2; omega
  | succ n ih =>
    intro j h1 h2
    unfold k_X1_takePeg_L23 k_X6_pegAt_L2
    rw [ao1 (by omega), ao2 (by omega), o1, o2, q4, q5, n1, n3, pipe_y q1, if_neg (show ¬ (1 : Int32) = 0 by decide)]
    by_cases hj : j = N
    · subst hj
      rw [if_pos (nI_le (Nat.le_refl _) (by omega)), if_pos (nI_le (Nat.le_refl _) (by omega))]
      exact Or.inl ⟨rfl, rfl⟩
    have hjN : j < N := by omega
    obtain ⟨v1, v2, v3, v4, v5, v6, v7⟩ := hv j hjN
    have e0 : k_X6_peg s (nI j) 0 = nI (gA s (37 + 4 * j)) := (pg (w := 0) (by omega) (by omega)).trans v5
    have e1 : k_X6_peg s (nI j) 1 = nI (gA s (37 + 4 * j + 1)) := (pg (w := 1) (by omega) (by omega)).trans v6
    have r0 : o.2.2 0 (4 * j) = nI (gA s (37 + 4 * j)) := (hp (4 * j) (by omega)).trans v5
    have r1 : o.2.2 0 (4 * j + 1) = nI (gA s (37 + 4 * j + 1)) := (spl hjN hp (c := 1) (by omega)).trans v6
    have r2 : o.2.2 0 (4 * j + 2) = nI (gA s (37 + 4 * j + 2)) := (spl hjN hp (c := 2) (by omega)).trans v7
    rw [if_neg (nI_ge hjN (by omega)), if_neg (nI_ge hjN (by omega)), ap0 (by omega), ap1 (by omega), ap2 (by omega), r0, r1, r2, e0, e1, nI_1]
    by_cases h3 : gA s (37 + 4 * j) = gA s (157 + 5 * k + 1)
    · rw [if_pos (congrArg nI h3), if_pos (congrArg nI h3)]
      by_cases h4 : gA s (37 + 4 * j + 1) = gA s (157 + 5 * k + 2)
      · rw [if_pos (congrArg nI h4), if_pos (congrArg nI h4)]
        refine Or.inr ⟨j, hjN, h3, h4, rfl, ?_⟩
        rw [nI_clamp (by omega), show k_X4_removeLine 4 30 (g_pt o) (nI j) = _ from rm_eq (C := 4) (M := 30) (t := g_pt o) (k := j) (n := N) n3 hjN (by omega) (by omega)]
        rfl
      · rw [if_neg (fun h => h4 ((nI_eq (by omega) (by omega)).mp h)), if_neg (fun h => h4 ((nI_eq (by omega) (by omega)).mp h))]
        exact ih (j + 1) (by omega) (by omega)
    · rw [if_neg (fun h => h3 ((nI_eq (by omega) (by omega)).mp h)), if_neg (fun h => h3 ((nI_eq (by omega) (by omega)).mp h))]
      exact ih (j + 1) (by omega) (by omega)
theorem rm_ne {x N k j : Nat} (h : (if k < x then k else k + 1) = (if j < x then j else j + 1)) : k = j := by
  split at h <;> split at h <;> omega
/-- a peg is pulled: what holds then -/
theorem pull_R {o : OV} {s s1 : Nat → Int32} {N M p f n x : Nat} {o1 : OV} {v : Int32} (h : RC o s N M) (hx : x < N) (hp6 : p < 6) (hf : f < 24) (g0 : gA s (37 + 4 * x) = p) (g1 : gA s (37 + 4 * x + 1) = f) (g2 : gA s (37 + 4 * x + 2) = n)
    (e1 : s1 = va_up (shf (va_up s 5 v) 4 (37 + 4 * x) (37 + 4 * (N - 1))) 0 (nI (N - 1))) (hv5 : v = s 5 + 1)
    (e2 : o1 = tkO o N p f n x) : RC (o_s o1 3 (o1.1 3 + 1)) s1 (N - 1) M := by
  obtain ⟨⟨⟨n1, n2, n3⟩, ⟨m1, m2, m3⟩, hp, hv, hd, hC, ho, hq⟩, hD, hH, hS⟩ := h
  have a3 : o.1 3 = s 5 := hS.2.2.2.1
  have hn : n < 7 := by rw [← g2]; exact (hv x hx).2.2.2.1
  have u : ∀ i, i ≠ 0 → i ≠ 5 → (i < 37 + 4 * x ∨ 37 + 4 * (N - 1) ≤ i) → s1 i = s i := by
    intro i h1 h2 h3
    subst e1
    rw [va_ne h1]
    unfold shf
    rw [if_neg (by omega), va_ne h2]
  have z5 : s1 5 = s 5 + 1 := by
    subst e1
    rw [va_ne (by omega)]
    unfold shf
    rw [if_neg (by omega), va_eq, hv5]
  have w : ∀ k c, k < N - 1 → c < 4 → s1 (37 + 4 * k + c) = s (37 + 4 * (if k < x then k else k + 1) + c) := by
    intro k c hk hc
    by_cases hkx : k < x
    · rw [if_pos hkx]
      exact u _ (by omega) (by omega) (by omega)
    · rw [if_neg hkx]
      subst e1
      rw [va_ne (by omega)]
      unfold shf
      rw [if_pos (by omega), va_ne (by omega)]
      exact congrArg s (by omega)
  have wr : ∀ k c, k < N - 1 → c < 4 → o1.2.2 0 (4 * k + c) = o.2.2 0 (4 * (if k < x then k else k + 1) + c) := by
    intro k c hk hc
    subst e2
    show va_cpy (o.2.2 0) (o.2.2 0) (4 * (x + 1)) (4 * x) (4 * (N - 1 - x)) (4 * k + c) = _
    unfold va_cpy
    by_cases hkx : k < x
    · rw [if_neg (by omega), if_pos hkx]
    · rw [if_pos (by omega), if_neg hkx]
      exact congrArg (o.2.2 0) (by omega)
  have kx : ∀ k, k < N - 1 → (if k < x then k else k + 1) < N ∧ (if k < x then k else k + 1) ≠ x := by
    intro k hk
    split <;> omega
  have cw : ∀ k q b, k < N - 1 → cv s1 k q b = cv s (if k < x then k else k + 1) q b := fun k q b hk => cv_c (fun c hc => w k c hk (by omega))
  have cx : ∀ q b, cv s x q b = (decide (p = q) && ov f n b) := fun q b => by unfold cv; rw [g0, g1, g2]
  have cs : ∀ q b, q < 6 → b < 24 → cvs s1 (N - 1) q b = (cvs s N q b && !cv s x q b) := by
    intro q b hq6 hb
    cases e : cvs s1 (N - 1) q b
    · rw [cvs_f] at e
      cases e3 : cvs s N q b
      · rfl
      · obtain ⟨k, hk, e3⟩ := cvs_t.mp e3
        by_cases hkx : k = x
        · rw [← hkx, e3]; rfl
        · exfalso
          by_cases hlt : k < x
          · have := e k (by omega)
            rw [cw _ _ _ (by omega), if_pos hlt, e3] at this
            cases this
          · have := e (k - 1) (by omega)
            rw [cw _ _ _ (by omega), if_neg (by omega), show k - 1 + 1 = k by omega, e3] at this
            cases this
    · obtain ⟨k, hk, e⟩ := cvs_t.mp e
      rw [cw _ _ _ hk] at e
      obtain ⟨k1, k2⟩ := kx k hk
      rw [cvs_t.mpr ⟨_, k1, e⟩, hd _ k1 x hx k2 q hq6 b hb e]
      rfl
  have r2 : o1.2.2 2 = va_up (o.2.2 2) p ((o.2.2 2 p) &&& ((k_X5_span (nI f) (nI n)) ^^^ (-1))) := by subst e2; rfl
  refine ⟨⟨⟨?_, by omega, ?_⟩, ⟨?_, m2, ?_⟩, fun i hi => ?_, fun k hk => ?_, ?_, ?_, fun j hj c hc => ?_, fun j hj => ?_⟩, ?_, ?_, ?_⟩
  · subst e1; exact va_eq _ _ _
  · subst e2; rfl
  · rw [u _ (by omega) (by omega) (by omega)]; exact m1
  · subst e2; exact m3
  · show o1.2.2 0 i = _
    have h1 := wr (i / 4) (i % 4) (by omega) (by omega)
    have h2 := w (i / 4) (i % 4) (by omega) (by omega)
    rw [show 4 * (i / 4) + i % 4 = i by omega] at h1
    rw [show 37 + 4 * (i / 4) + i % 4 = 37 + i by omega] at h2
    rw [h1, h2, hp _ (by have := (kx (i / 4) (by omega)).1; omega), Nat.add_assoc]
  · exact PV_c (fun c hc => w k c hk (by omega)) (hv _ (kx k hk).1)
  · intro k hk j hj hkj q hq6 b hb e
    rw [cw _ _ _ hk] at e
    rw [cw _ _ _ hj]
    exact hd _ (kx k hk).1 _ (kx j hj).1 (fun h => hkj (rm_ne (N := N) h)) q hq6 b hb e
  · intro q hq6 j hj
    show bt (o1.2.2 2 q) j = _
    by_cases h24 : j < 24
    · rw [cs q j hq6 h24, r2, cx]
      by_cases h4 : q = p
      · subst h4
        rw [va_eq, b_and, b_xor, hC q hq6 j hj, sp_bt f hf n hn j hj, b_m1 j hj, decide_eq_true h24]
        simp
      · have h5 : decide (p = q) = false := decide_eq_false (fun h => h4 h.symm)
        rw [va_ne h4, hC q hq6 j hj, h5]
        simp
    · rw [r2]
      by_cases h4 : q = p
      · subst h4
        rw [va_eq, b_and, hC q hq6 j hj, decide_eq_false h24]
        simp
      · rw [va_ne h4, hC q hq6 j hj, decide_eq_false h24]
        simp
  · rw [u _ (by omega) (by omega) (by omega)]
    subst e2
    exact ho j hj c hc
  · exact QV_c (fun c hc => u _ (by omega) (by omega) (by omega)) (hq j hj)
  · refine RD_c (o := o) (s := s) (fun j h1 h2 => u _ (by omega) (by omega) (by omega)) (fun j h1 h2 => u _ (by omega) (by omega) (by omega)) ?_ ?_ ?_ hD <;> (subst e2; rfl)
  · refine RH_c (o := o) (s := s) (fun j h1 h2 => u _ (by omega) (by omega) (by omega)) (u _ (by omega) (by omega) (by omega)) (u _ (by omega) (by omega) (by omega)) ?_ ?_ hH <;> (subst e2; rfl)
  · obtain ⟨b1, b2, b3, b4, b5, b6, b7, b8, b9⟩ := hS
    have v1 : ∀ j, j ≠ 3 → j ≠ 10 → (o_s o1 3 (o1.1 3 + 1)).1 j = o.1 j := by
      intro j h1 h2
      subst e2
      show va_up (va_up o.1 10 _) 3 _ j = _
      rw [va_ne h1, va_ne h2]
    refine ⟨?_, ?_, ?_, ?_, ?_, ?_, ?_, ?_, ?_⟩
    · rw [v1 _ (by omega) (by omega), u _ (by omega) (by omega) (by omega)]; exact b1
    · rw [v1 _ (by omega) (by omega), u _ (by omega) (by omega) (by omega)]; exact b2
    · rw [v1 _ (by omega) (by omega), u _ (by omega) (by omega) (by omega)]; exact b3
    · rw [z5]
      subst e2
      show o.1 3 + 1 = _
      rw [a3]
    · rw [v1 _ (by omega) (by omega), u _ (by omega) (by omega) (by omega)]; exact b5
    · rw [v1 _ (by omega) (by omega), u _ (by omega) (by omega) (by omega)]; exact b6
    · rw [v1 _ (by omega) (by omega), u _ (by omega) (by omega) (by omega)]; exact b7
    · rw [v1 _ (by omega) (by omega), u _ (by omega) (by omega) (by omega)]; exact b8
    · rw [u _ (by omega) (by omega) (by omega)]; exact b9
theorem void_R {o : OV} {s : Nat → Int32} {N M : Nat} (h : RC o s N M) : RC (o_s o 8 (o.1 8 + 1)) (va_up s 11 (s 11 + 1)) N M := by
  obtain ⟨⟨⟨n1, n2, n3⟩, ⟨m1, m2, m3⟩, hp, hv, hd, hC, ho, hq⟩, hD, hH, hS⟩ := h
  have u : ∀ i, i ≠ 11 → va_up s 11 (s 11 + 1) i = s i := fun i hi => va_ne hi
  have eP : eqP s (va_up s 11 (s 11 + 1)) := fun i h1 h2 => u i (by omega)
  refine ⟨⟨⟨n1, n2, n3⟩, ⟨m1, m2, m3⟩, fun i hi => ?_, fun k hk => ?_, DJ_c n2 eP hd, CR_c n2 eP hC, fun j hj c hc => ?_, fun j hj => ?_⟩, ?_, ?_, ?_⟩
  · rw [u _ (by omega)]; exact hp i hi
  · exact PV_c (fun c hc => u _ (by omega)) (hv k hk)
  · rw [u _ (by omega)]; exact ho j hj c hc
  · exact QV_c (fun c hc => u _ (by omega)) (hq j hj)
  · exact RD_c (fun j h1 h2 => u _ (by omega)) (fun j h1 h2 => u _ (by omega)) rfl rfl rfl hD
  · exact RH_c (fun j h1 h2 => u _ (by omega)) (u _ (by omega)) (u _ (by omega)) rfl rfl hH
  · obtain ⟨b1, b2, b3, b4, b5, b6, b7, b8, b9⟩ := hS
    exact ⟨b1, b2, b3, b4, b5, b6, b7, by show va_up o.1 8 (o.1 8 + 1) 8 = va_up s 11 (s 11 + 1) 11; rw [va_eq, va_eq, b8], b9⟩
