/-! Layer 2: an order is dropped; done: a peg is put. -/
theorem gA_c {s s2 : Nat → Int32} {i j : Nat} (h : s2 j = s i) : gA s2 j = gA s i := by unfold gA; rw [h]
theorem PV_c {s s2 : Nat → Int32} {k j : Nat} (h : ∀ c, c < 3 → s2 (37 + 4 * j + c) = s (37 + 4 * k + c)) (hv : PV s k) : PV s2 j := by
  have h0 : s2 (37 + 4 * j) = s (37 + 4 * k) := h 0 (by omega)
  have h1 := h 1 (by omega)
  have h2 := h 2 (by omega)
  unfold PV
  rw [gA_c h0, gA_c h1, gA_c h2, h0, h1, h2]
  exact hv
theorem cv_c {s s2 : Nat → Int32} {k j p b : Nat} (h : ∀ c, c < 3 → s2 (37 + 4 * j + c) = s (37 + 4 * k + c)) : cv s2 j p b = cv s k p b := by
  have h0 : s2 (37 + 4 * j) = s (37 + 4 * k) := h 0 (by omega)
  unfold cv
  rw [gA_c h0, gA_c (h 1 (by omega)), gA_c (h 2 (by omega))]
theorem QV_c {s s2 : Nat → Int32} {k j : Nat} (h : ∀ c, c < 4 → s2 (157 + 5 * j + c) = s (157 + 5 * k + c)) (hv : QV s k) : QV s2 j := by
  have h0 : s2 (157 + 5 * j) = s (157 + 5 * k) := h 0 (by omega)
  have h1 := h 1 (by omega)
  have h2 := h 2 (by omega)
  have h3 := h 3 (by omega)
  unfold QV
  rw [gA_c h1, gA_c h2, gA_c h3, h0, h1, h2, h3]
  exact hv
theorem cvs_c {s s2 : Nat → Int32} {N p b : Nat} (h : ∀ k, k < N → cv s2 k p b = cv s k p b) : cvs s2 N p b = cvs s N p b := by
  cases e : cvs s N p b
  · rw [cvs_f] at e ⊢
    exact fun k hk => by rw [h k hk]; exact e k hk
  · rw [cvs_t] at e ⊢
    obtain ⟨k, hk, e⟩ := e
    exact ⟨k, hk, by rw [h k hk]; exact e⟩
theorem cvs_S {s : Nat → Int32} {N p b : Nat} : cvs s (N + 1) p b = (cvs s N p b || cv s N p b) := by
  unfold cvs
  rw [List.range_succ, List.any_append]
  simp
/-- nothing of the pegs has changed -/
def eqP (s s2 : Nat → Int32) : Prop := ∀ i, 37 ≤ i → i < 157 → s2 i = s i
theorem CR_c {f s s2 : Nat → Int32} {N : Nat} (hN : N ≤ 30) (h : eqP s s2) (hC : CR f s N) : CR f s2 N := by
  intro p hp j hj
  rw [hC p hp j hj, cvs_c (fun k hk => cv_c (fun c hc => h _ (by omega) (by omega)))]
theorem DJ_c {s s2 : Nat → Int32} {N : Nat} (hN : N ≤ 30) (h : eqP s s2) (hd : DJ s N) : DJ s2 N := by
  intro k hk j hj hkj p hp b hb e
  rw [cv_c (s := s) (k := k) (fun c hc => h _ (by omega) (by omega))] at e
  rw [cv_c (s := s) (k := j) (fun c hc => h _ (by omega) (by omega))]
  exact hd k hk j hj hkj p hp b hb e
theorem RD_c {o o2 : OV} {s s2 : Nat → Int32} (h1 : ∀ j, 12 ≤ j → j < 15 → s2 j = s j) (h2 : ∀ j, 25 ≤ j → j < 37 → s2 j = s j) (h3 : o2.2.2 3 = o.2.2 3) (h4 : o2.2.2 4 = o.2.2 4) (h5 : o2.2.2 5 = o.2.2 5) (h : RD o s) : RD o2 s2 := by
  obtain ⟨a1, a2, a3, a4, a5, a6⟩ := h
  refine ⟨fun j hj => ?_, fun j hj => ?_, fun j hj => ?_, ?_, ?_, ?_⟩
  · rw [h3, h2 _ (by omega) (by omega)]; exact a1 j hj
  · rw [h4, h2 _ (by omega) (by omega)]; exact a2 j hj
  · rw [h5, h1 _ (by omega) (by omega)]; exact a3 j hj
  · rw [h1 _ (by omega) (by omega)]; exact a4
  · rw [h1 _ (by omega) (by omega)]; exact a5
  · rw [h1 _ (by omega) (by omega)]; exact a6
theorem RH_c {o o2 : OV} {s s2 : Nat → Int32} (h1 : ∀ j, 15 ≤ j → j < 25 → s2 j = s j) (h2 : s2 7 = s 7) (h3 : s2 8 = s 8) (h4 : o2.1 5 = o.1 5) (h5 : o2.2.1 = o.2.1) (h : RH o s) : RH o2 s2 := by
  obtain ⟨a1, a2, a3⟩ := h
  refine ⟨by rw [h4, h3]; exact a1, by rw [h2, h1 _ (by omega) (by omega)]; exact a2, fun j hj => ?_⟩
  rw [h1 _ (by omega) (by omega), ← a3 j hj]
  unfold k_X1_soundedAgo
  rw [h5]
theorem RS_c {o o2 : OV} {s s2 : Nat → Int32} (h1 : ∀ j, 2 ≤ j → j < 12 → s2 j = s j) (h2 : ∀ j, j < 9 → o2.1 j = o.1 j) (h : RS o s) : RS o2 s2 := by
  obtain ⟨a1, a2, a3, a4, a5, a6, a7, a8, a9⟩ := h
  refine ⟨?_, ?_, ?_, ?_, ?_, ?_, ?_, ?_, ?_⟩
  · rw [h2 _ (by omega), h1 _ (by omega) (by omega)]; exact a1
  · rw [h2 _ (by omega), h1 _ (by omega) (by omega)]; exact a2
  · rw [h2 _ (by omega), h1 _ (by omega) (by omega)]; exact a3
  · rw [h2 _ (by omega), h1 _ (by omega) (by omega)]; exact a4
  · rw [h2 _ (by omega), h1 _ (by omega) (by omega)]; exact a5
  · rw [h2 _ (by omega), h1 _ (by omega) (by omega)]; exact a6
  · rw [h2 _ (by omega), h1 _ (by omega) (by omega)]; exact a7
  · rw [h2 _ (by omega), h1 _ (by omega) (by omega)]; exact a8
  · rw [h1 _ (by omega) (by omega)]; exact a9
theorem drop_R {P : WP} (hP : WC P) {o : OV} {s : Nat → Int32} {N M k kk : Nat} (h : RC o s N M) (hk : k < M) (hw : P kk M (o.1 9) (wO o) (wS s)) (hkk : kk = k) : RC (k_X1_dropOrder o (nI k)).2 (k_X6_dropOrder s (nI k)) N (M - 1) ∧ P kk (M - 1) ((k_X1_dropOrder o (nI k)).2.1 9) (wO (k_X1_dropOrder o (nI k)).2) (wS (k_X6_dropOrder s (nI k))) := by
  subst hkk
  obtain ⟨⟨⟨n1, n2, n3⟩, ⟨m1, m2, m3⟩, hp, hv, hd, hC, ho, hq⟩, hD, hH, hS⟩ := h
  rw [drC m3 m2 hk, dO_eq m1 m2 hk]
  dsimp only
  have e1 : ∀ i, i ≠ 1 → i < 157 → va_up (shf s 5 (157 + 5 * kk) (157 + 5 * (M - 1))) 1 (nI (M - 1)) i = s i := by
    intro i hi1 hi2
    rw [va_ne hi1]
    exact if_neg (by omega)
  have e2 : ∀ j c, j < M - 1 → c < 5 → va_up (shf s 5 (157 + 5 * kk) (157 + 5 * (M - 1))) 1 (nI (M - 1)) (157 + 5 * j + c) = s (157 + 5 * (if j < kk then j else j + 1) + c) := by
    intro j c hj hc
    rw [va_ne (by omega)]
    unfold shf
    by_cases hjk : j < kk
    · rw [if_neg (by omega), if_pos hjk]
    · rw [if_pos (by omega), if_neg hjk]
      exact congrArg s (by omega)
  have e3 : ∀ j c, j < M - 1 → c < 5 → (va_cpy (o.2.2 1) (o.2.2 1) (5 * (kk + 1)) (5 * kk) (5 * (M - 1 - kk))) (5 * j + c) = o.2.2 1 (5 * (if j < kk then j else j + 1) + c) := by
    intro j c hj hc
    unfold va_cpy
    by_cases hjk : j < kk
    · rw [if_neg (by omega), if_pos hjk]
    · rw [if_pos (by omega), if_neg hjk]
      exact congrArg (o.2.2 1) (by omega)
  have eP : eqP s (va_up (shf s 5 (157 + 5 * kk) (157 + 5 * (M - 1))) 1 (nI (M - 1))) := fun i h1 h2 => e1 i (by omega) h2
  refine ⟨⟨⟨⟨by rw [e1 0 (by omega) (by omega)]; exact n1, n2, n3⟩, ⟨va_eq _ _ _, by omega, rfl⟩, fun i hi => ?_, fun k hk => ?_, ?_, ?_, fun j hj c hc => ?_, fun j hj => ?_⟩, ?_, ?_, ?_⟩, ?_⟩
  · rw [e1 _ (by omega) (by omega)]; exact hp i hi
  · exact PV_c (fun c hc => e1 _ (by omega) (by omega)) (hv k hk)
  · exact DJ_c n2 eP hd
  · exact CR_c n2 eP hC
  · rw [e2 j c hj (by omega)]
    refine (e3 j c hj (by omega)).trans (ho _ ?_ c hc)
    split <;> omega
  · refine QV_c (fun c hc => e2 j c hj (by omega)) (hq _ ?_)
    split <;> omega
  · exact RD_c (fun j h1 h2 => e1 _ (by omega) (by omega)) (fun j h1 h2 => e1 _ (by omega) (by omega)) rfl rfl rfl hD
  · exact RH_c (fun j h1 h2 => e1 _ (by omega) (by omega)) (e1 _ (by omega) (by omega)) (e1 _ (by omega) (by omega)) rfl rfl hH
  · refine RS_c (fun j h1 h2 => e1 _ (by omega) (by omega)) (fun j hj => ?_) hS
    show va_up (va_up o.1 9 _) 11 _ j = o.1 j
    rw [va_ne (by omega), va_ne (by omega)]
  · refine hP.1 _ _ _ _ _ _ _ (fun j hj => ?_) (fun j hj => ?_) (hP.2.2 _ _ _ _ _ hk m2 hw)
    · show rmv (wO o) kk j = (va_cpy (o.2.2 1) (o.2.2 1) (5 * (kk + 1)) (5 * kk) (5 * (M - 1 - kk))) (5 * j + 4)
      rw [e3 j 4 hj (by omega)]
      unfold rmv wO
      split <;> rfl
    · unfold wS
      rw [e2 j 4 hj (by omega)]
      unfold rmv
      split <;> rfl
