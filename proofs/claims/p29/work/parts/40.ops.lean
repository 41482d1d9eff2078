/-! Layer 2: orders come and go, settings change, states are copied. -/
theorem RF_M {o : OV} {s : Nat → Int32} (h : RF o s) : ∃ M, M ≤ 12 ∧ s 1 = nI M ∧ o.1 11 = nI M := by
  obtain ⟨N, M, h1, h2⟩ := h
  exact ⟨M, h1.1.2.1.2.1, h1.1.2.1.1, h1.1.2.1.2.2⟩
theorem RF_N {o : OV} {s : Nat → Int32} (h : RF o s) : ∃ N, N ≤ 30 ∧ s 0 = nI N ∧ o.1 10 = nI N := by
  obtain ⟨N, M, h1, h2⟩ := h
  exact ⟨N, h1.1.1.2.1, h1.1.1.1, h1.1.1.2.2⟩
theorem RF_SI {o : OV} {s : Nat → Int32} (h : RF o s) : SI s := by
  obtain ⟨N, M, h1, h2⟩ := h
  exact RC_SI h1
theorem RF_OI {o : OV} {s : Nat → Int32} (h : RF o s) : OI o := by
  obtain ⟨N, M, h1, h2⟩ := h
  exact RC_OI h1
def adO (o : OV) (M : Nat) (vs vp vb vn : Int32) : OV := o_ot o (nI (M + 1), va_up (va_up (va_up (va_up (va_up (o.2.2 1) (5 * M) vs) (5 * M + 1) vp) (5 * M + 2) vb) (5 * M + 3) vn) (5 * M + 4) 0)
def adS (s : Nat → Int32) (M : Nat) (vs vp vb vn : Int32) : Nat → Int32 := va_up (va_up (va_up (va_up (va_up (va_up s (157 + 5 * M) vs) (157 + 5 * M + 1) vp) (157 + 5 * M + 2) vb) (157 + 5 * M + 3) vn) (157 + 5 * M + 4) 0) 1 (nI (M + 1))
theorem add_in2 {o : OV} {M a b : Nat} {vs vn : Int32} (h : o.1 11 = nI M) (hM : M < 12) (ha : a < 6) (hb : b < 24) : k_X1_addOrder o vs (nI a) (nI b) vn = (nI M, adO o M vs (nI a) (nI b) vn) := by
  have w : ∀ (t : TV) (v : Int32) (c : Nat), c < 5 → k_X4_write 5 12 t (nI M) (nI c) v = (t.1, va_up t.2 (5 * M + c) v) := fun t v c hc => wr_eq (C := 5) (M := 12) (c := c) hM hc (by omega) (by omega)
  have w0 : ∀ (t : TV) (v : Int32), k_X4_write 5 12 t (nI M) 0 v = (t.1, va_up t.2 (5 * M) v) := fun t v => w t v 0 (by omega)
  have w1 : ∀ (t : TV) (v : Int32), k_X4_write 5 12 t (nI M) 1 v = (t.1, va_up t.2 (5 * M + 1) v) := fun t v => w t v 1 (by omega)
  have w2 : ∀ (t : TV) (v : Int32), k_X4_write 5 12 t (nI M) 2 v = (t.1, va_up t.2 (5 * M + 2) v) := fun t v => w t v 2 (by omega)
  have w3 : ∀ (t : TV) (v : Int32), k_X4_write 5 12 t (nI M) 3 v = (t.1, va_up t.2 (5 * M + 3) v) := fun t v => w t v 3 (by omega)
  have w4 : ∀ (t : TV) (v : Int32), k_X4_write 5 12 t (nI M) 4 v = (t.1, va_up t.2 (5 * M + 4) v) := fun t v => w t v 4 (by omega)
  unfold k_X1_addOrder
  rw [pipe_y ha, if_neg (by decide), (by decide +kernel : ∀ b, b < 24 → k_X5_isBar (nI b) = 1) b hb, if_neg (by decide), show k_X4_isFull 5 12 (g_ot o) = 0 from full_n (C := 5) (M := 12) (t := g_ot o) h hM (by omega), if_pos rfl, show k_X4_addLine 5 12 (g_ot o) = (nI M, (nI (M + 1), (g_ot o).2)) from addl_eq (C := 5) (M := 12) (t := g_ot o) h hM (by omega)]
  dsimp only
  rw [w0, w1, w2, w3, w4]
  rfl
theorem add_full {o : OV} {vp vb : Int32} {vs vn : Int32} (h : o.1 11 = nI 12) : k_X1_addOrder o vs vp vb vn = (-1, o) := by
  unfold k_X1_addOrder
  rw [show k_X4_isFull 5 12 (g_ot o) = 1 from full_y (C := 5) (M := 12) (t := g_ot o) h (by omega), if_neg (show ¬ (1 : Int32) = 0 by decide)]
  split
  · rfl
  · split <;> rfl
theorem add_no {o : OV} {vp vb : Int32} {vs vn : Int32} (h : k_X5_isPipe vp = 0 ∨ k_X5_isBar vb = 0) : k_X1_addOrder o vs vp vb vn = (-1, o) := by
  unfold k_X1_addOrder
  rcases h with h | h
  · rw [if_pos h]
  · rw [if_pos h]
    split <;> rfl
theorem oon_eq {s : Nat → Int32} {M : Nat} {vs vp vb vn : Int32} (h : s 1 = nI M) (hM : M < 12) : k_X6_orderOn s vs vp vb vn = (nI M, adS s M vs vp vb vn) := by
  have e0 : (157 + 5 * nI M : Int32) = nI (157 + 5 * M) := by rw [← nI_add, ← nI_mul]; rfl
  have e1 : (nI (157 + 5 * M) + 1 : Int32) = nI (157 + 5 * M + 1) := nI_add _ 1
  have e2 : (nI (157 + 5 * M) + 2 : Int32) = nI (157 + 5 * M + 2) := nI_add _ 2
  have e3 : (nI (157 + 5 * M) + 3 : Int32) = nI (157 + 5 * M + 3) := nI_add _ 3
  have e4 : (nI (157 + 5 * M) + 4 : Int32) = nI (157 + 5 * M + 4) := nI_add _ 4
  unfold k_X6_orderOn
  simp only [kbind, h, e0, e1, e2, e3, e4]
  rw [nI_clamp (n := 157 + 5 * M) (by omega), nI_clamp (n := 157 + 5 * M + 1) (by omega), nI_clamp (n := 157 + 5 * M + 2) (by omega), nI_clamp (n := 157 + 5 * M + 3) (by omega), nI_clamp (n := 157 + 5 * M + 4) (by omega)]
  simp (disch := omega) only [va_ne]
  rw [h, nI_1, nI_pred]
  rfl
theorem ad_R {o : OV} {s : Nat → Int32} {M p f n : Nat} {v : Int32} (h : RF o s) (hs : s 1 = nI M) (hM : M < 12) (hp6 : p < 6) (hf : f < 24) (hn : n < 7) (hv : (v = 1 ∧ 1 ≤ n) ∨ (v = 0 ∧ n = 0)) : RF (adO o M v (nI p) (nI f) (nI n)) (adS s M v (nI p) (nI f) (nI n)) := by
  obtain ⟨N, M2, ⟨⟨⟨n1, n2, n3⟩, ⟨m1, m2, m3⟩, hp, hv9, hd, hC, ho, hq⟩, hD, hH, hS⟩, hw⟩ := h
  have : M2 = M := by
    rw [hs] at m1
    exact ((nI_eq (by omega) (by omega)).mp m1).symm
  subst this
  generalize e1 : adS s M2 v (nI p) (nI f) (nI n) = s1
  generalize e2 : adO o M2 v (nI p) (nI f) (nI n) = o1
  have u : ∀ i, i ≠ 1 → (i < 157 + 5 * M2 ∨ 157 + 5 * M2 + 5 ≤ i) → s1 i = s i := by
    intro i h1 h2
    subst e1
    unfold adS
    simp (disch := omega) only [va_ne]
  have z0 : s1 (157 + 5 * M2) = v := by subst e1; unfold adS; simp (disch := omega) only [va_ne, va_eq]
  have z1 : s1 (157 + 5 * M2 + 1) = nI p := by subst e1; unfold adS; simp (disch := omega) only [va_ne, va_eq]
  have z2 : s1 (157 + 5 * M2 + 2) = nI f := by subst e1; unfold adS; simp (disch := omega) only [va_ne, va_eq]
  have z3 : s1 (157 + 5 * M2 + 3) = nI n := by subst e1; unfold adS; simp (disch := omega) only [va_ne, va_eq]
  have z4 : s1 (157 + 5 * M2 + 4) = 0 := by subst e1; unfold adS; simp (disch := omega) only [va_ne, va_eq]
  have g1 : gA s1 (157 + 5 * M2 + 1) = p := by unfold gA; rw [z1, nI_clamp (by omega)]
  have g2 : gA s1 (157 + 5 * M2 + 2) = f := by unfold gA; rw [z2, nI_clamp (by omega)]
  have g3 : gA s1 (157 + 5 * M2 + 3) = n := by unfold gA; rw [z3, nI_clamp (by omega)]
  have r : o1.2.2 1 = va_up (va_up (va_up (va_up (va_up (o.2.2 1) (5 * M2) v) (5 * M2 + 1) (nI p)) (5 * M2 + 2) (nI f)) (5 * M2 + 3) (nI n)) (5 * M2 + 4) 0 := by subst e2; rfl
  have eP : eqP s s1 := fun i h1 h2 => u i (by omega) (by omega)
  have r0 : o1.2.2 0 = o.2.2 0 := by subst e2; rfl
  have r2 : o1.2.2 2 = o.2.2 2 := by subst e2; rfl
  have rA : ∀ j c, j < M2 + 1 → c < 5 → (c = 4 → j < M2 → wO o j = wS s j) → o1.2.2 1 (5 * j + c) = s1 (157 + 5 * j + c) := by
    intro j c hj hc h9
    rw [r]
    by_cases hjM : j < M2
    · rw [u _ (by omega) (by omega)]
      simp (disch := omega) only [va_ne]
      by_cases hc4 : c < 4
      · exact ho j hjM c hc4
      · have : c = 4 := by omega
        subst this
        exact h9 rfl hjM
    · have : j = M2 := by omega
      subst this
      rcases (show c = 0 ∨ c = 1 ∨ c = 2 ∨ c = 3 ∨ c = 4 by omega) with rfl | rfl | rfl | rfl | rfl
      · show va_up (va_up (va_up (va_up (va_up (o.2.2 1) (5 * j) v) (5 * j + 1) (nI p)) (5 * j + 2) (nI f)) (5 * j + 3) (nI n)) (5 * j + 4) 0 (5 * j) = s1 (157 + 5 * j)
        rw [z0]; simp (disch := omega) only [va_ne, va_eq]
      · rw [z1]; simp (disch := omega) only [va_ne, va_eq]
      · rw [z2]; simp (disch := omega) only [va_ne, va_eq]
      · rw [z3]; simp (disch := omega) only [va_ne, va_eq]
      · rw [z4]; simp (disch := omega) only [va_ne, va_eq]
  refine ⟨N, M2 + 1, ⟨⟨⟨by rw [u _ (by omega) (by omega)]; exact n1, n2, ?_⟩, ⟨?_, by omega, ?_⟩, fun i hi => ?_, fun k hk => ?_, DJ_c n2 eP hd, ?_, fun j hj c hc => ?_, fun j hj => ?_⟩, ?_, ?_, ?_⟩, fun j hj => ?_⟩
  · subst e2; exact n3
  · subst e1; exact va_eq _ _ _
  · subst e2; rfl
  · rw [u _ (by omega) (by omega), r0]; exact hp i hi
  · exact PV_c (fun c hc => u _ (by omega) (by omega)) (hv9 k hk)
  · rw [r2]; exact CR_c n2 eP hC
  · exact rA j c hj (by omega) (fun h => absurd h (by omega))
  · by_cases hjM : j < M2
    · exact QV_c (fun c hc => u _ (by omega) (by omega)) (hq j hjM)
    · have : j = M2 := by omega
      subst this
      unfold QV
      rw [g1, g2, g3]
      refine ⟨hp6, hf, hn, z1, z2, z3, ?_⟩
      rw [z0]
      exact hv
  · refine RD_c (o := o) (s := s) (fun j h1 h2 => u _ (by omega) (by omega)) (fun j h1 h2 => u _ (by omega) (by omega)) ?_ ?_ ?_ hD <;> (subst e2; rfl)
  · refine RH_c (o := o) (s := s) (fun j h1 h2 => u _ (by omega) (by omega)) (u _ (by omega) (by omega)) (u _ (by omega) (by omega)) ?_ ?_ hH <;> (subst e2; rfl)
  · refine RS_c (o := o) (s := s) (fun j h1 h2 => u _ (by omega) (by omega)) (fun j hj => ?_) hS
    subst e2
    show va_up o.1 11 _ j = _
    exact va_ne (by omega)
  · exact rA j 4 hj (by omega) (fun _ h => hw j h)
theorem drop_F {o : OV} {s : Nat → Int32} {M k : Nat} (h : RF o s) (hs : s 1 = nI M) (hM : M ≤ 12) (hk : k < M) : RF (k_X1_dropOrder o (nI k)).2 (k_X6_dropOrder s (nI k)) ∧ (k_X1_dropOrder o (nI k)).1 = nI (M - 1) ∧ (k_X6_dropOrder s (nI k)) 1 = nI (M - 1) := by
  obtain ⟨N, M2, h1, hw⟩ := h
  have m1 := h1.1.2.1.1
  have m2 := h1.1.2.1.2.1
  have : M2 = M := by
    rw [hs] at m1
    exact ((nI_eq (by omega) (by omega)).mp m1).symm
  subst this
  obtain ⟨d1, d2⟩ := drop_R P1_C h1 hk (kk := k) (show P1 k M2 (o.1 9) (wO o) (wS s) from hw) rfl
  refine ⟨⟨N, M2 - 1, d1, d2⟩, ?_, ?_⟩
  · rw [drC h1.1.2.1.2.2 m2 hk]
  · rw [dO_eq m1 m2 hk, va_eq]
theorem drop_no {o : OV} {vk : Int32} (h : k_X4_has (g_ot o) vk = 0) : k_X1_dropOrder o vk = (-1, o) := by
  unfold k_X1_dropOrder
  rw [if_pos h]
/-- which settings take which numbers -/
def sOK (w v : Nat) : Prop := (w = 0 ∧ v ≤ 3) ∨ (w = 1 ∧ v ≤ 9) ∨ (w = 2 ∧ v ≤ 60)
theorem sv_y {w v : Nat} (h : sOK w v) : k_X5_isSettingValue (nI w) (nI v) = 1 := by
  have : ∀ w, w < 3 → ∀ v, v < 61 → sOK w v → k_X5_isSettingValue (nI w) (nI v) = 1 := by
    intro w hw v hv
    unfold sOK
    exact (by decide +kernel : ∀ w, w < 3 → ∀ v, v < 61 → ((w = 0 ∧ v ≤ 3) ∨ (w = 1 ∧ v ≤ 9) ∨ (w = 2 ∧ v ≤ 60)) → k_X5_isSettingValue (nI w) (nI v) = 1) w hw v hv
  have h2 : w < 3 ∧ v < 61 := by unfold sOK at h; omega
  exact this w h2.1 v h2.2 h
theorem chg_eq {o : OV} {w v : Nat} (h : sOK w v) : k_X1_change o (nI w) (nI v) = (o.2.2 5 w, o_r o 5 (va_up (o.2.2 5) w (nI v))) := by
  unfold k_X1_change
  rw [sv_y h, if_neg (by decide), nI_clamp (by unfold sOK at h; omega)]
theorem chS_eq {s : Nat → Int32} {w : Nat} {v : Int32} (h : w < 3) : k_X6_change s (nI w) v = (s (12 + w), va_up s (12 + w) v) := by
  unfold k_X6_change
  rw [show (12 + nI w : Int32) = nI (12 + w) from nI_add 12 w, nI_clamp (by omega)]
theorem chg_R {o : OV} {s : Nat → Int32} {w v : Nat} (h : RF o s) (hok : sOK w v) : RF (o_r o 5 (va_up (o.2.2 5) w (nI v))) (va_up s (12 + w) (nI v)) ∧ o.2.2 5 w = s (12 + w) := by
  have hw3 : w < 3 := by unfold sOK at hok; omega
  obtain ⟨N, M, ⟨⟨⟨n1, n2, n3⟩, ⟨m1, m2, m3⟩, hp, hv9, hd, hC, ho, hq⟩, hD, hH, hS⟩, hw⟩ := h
  have u : ∀ i, i ≠ 12 + w → va_up s (12 + w) (nI v) i = s i := fun i hi => va_ne hi
  have eP : eqP s (va_up s (12 + w) (nI v)) := fun i h1 h2 => u i (by omega)
  obtain ⟨d1, d2, d3, d4, d5, d6⟩ := hD
  refine ⟨⟨N, M, ⟨⟨⟨by rw [u _ (by omega)]; exact n1, n2, n3⟩, ⟨by rw [u _ (by omega)]; exact m1, m2, m3⟩, fun i hi => ?_, fun k hk => ?_, DJ_c n2 eP hd, CR_c n2 eP hC, fun j hj c hc => ?_, fun j hj => ?_⟩, ⟨fun j hj => ?_, fun j hj => ?_, fun j hj => ?_, ?_, ?_, ?_⟩, ?_, ?_⟩, fun j hj => ?_⟩, d3 w hw3⟩
  · rw [u _ (by omega)]; exact hp i hi
  · exact PV_c (fun c hc => u _ (by omega)) (hv9 k hk)
  · rw [u _ (by omega)]; exact ho j hj c hc
  · exact QV_c (fun c hc => u _ (by omega)) (hq j hj)
  · rw [u _ (by omega)]; exact d1 j hj
  · rw [u _ (by omega)]; exact d2 j hj
  · show va_up (o.2.2 5) w (nI v) j = _
    by_cases hjw : j = w
    · subst hjw; rw [va_eq, va_eq]
    · rw [va_ne hjw, u _ (by omega)]; exact d3 j hj
  · rcases hok with ⟨rfl, hv⟩ | ⟨rfl, hv⟩ | ⟨rfl, hv⟩
    · exact ⟨v, hv, va_eq _ _ _⟩
    · rw [u _ (by omega)]; exact d4
    · rw [u _ (by omega)]; exact d4
  · rcases hok with ⟨rfl, hv⟩ | ⟨rfl, hv⟩ | ⟨rfl, hv⟩
    · rw [u _ (by omega)]; exact d5
    · exact ⟨v, hv, va_eq _ _ _⟩
    · rw [u _ (by omega)]; exact d5
  · rcases hok with ⟨rfl, hv⟩ | ⟨rfl, hv⟩ | ⟨rfl, hv⟩
    · rw [u _ (by omega)]; exact d6
    · rw [u _ (by omega)]; exact d6
    · exact ⟨v, hv, va_eq _ _ _⟩
  · exact RH_c (o := o) (s := s) (fun j h1 h2 => u _ (by omega)) (u _ (by omega)) (u _ (by omega)) rfl rfl hH
  · exact RS_c (o := o) (s := s) (fun j h1 h2 => u _ (by omega)) (fun j hj => rfl) hS
  · exact (hw j hj).trans (u _ (by omega)).symm
/-- the row's numbers are all that counts -/
theorem RF_s {o : OV} {s s2 : Nat → Int32} (e : ∀ i, i < 217 → s2 i = s i) (h : RF o s) : RF o s2 := by
  obtain ⟨N, M, ⟨⟨⟨n1, n2, n3⟩, ⟨m1, m2, m3⟩, hp, hv9, hd, hC, ho, hq⟩, hD, hH, hS⟩, hw⟩ := h
  have eP : eqP s s2 := fun i h1 h2 => e i (by omega)
  refine ⟨N, M, ⟨⟨⟨by rw [e _ (by omega)]; exact n1, n2, n3⟩, ⟨by rw [e _ (by omega)]; exact m1, m2, m3⟩, fun i hi => ?_, fun k hk => ?_, DJ_c n2 eP hd, CR_c n2 eP hC, fun j hj c hc => ?_, fun j hj => ?_⟩, ?_, ?_, ?_⟩, fun j hj => ?_⟩
  · rw [e _ (by omega)]; exact hp i hi
  · exact PV_c (fun c hc => e _ (by omega)) (hv9 k hk)
  · rw [e _ (by omega)]; exact ho j hj c hc
  · exact QV_c (fun c hc => e _ (by omega)) (hq j hj)
  · exact RD_c (o := o) (s := s) (fun j h1 h2 => e _ (by omega)) (fun j h1 h2 => e _ (by omega)) rfl rfl rfl hD
  · exact RH_c (o := o) (s := s) (fun j h1 h2 => e _ (by omega)) (e _ (by omega)) (e _ (by omega)) rfl rfl hH
  · exact RS_c (o := o) (s := s) (fun j h1 h2 => e _ (by omega)) (fun j hj => rfl) hS
  · exact (hw j hj).trans (e _ (by omega)).symm
theorem crow {n : Nat} {f g : Nat → Int32} {i : Nat} (hn : n ≤ 1000) (h : i < n) : k_X5_copyRow n f g i = f i := by
  unfold k_X5_copyRow
  have e : x_mmin (Int32.ofNat n) (Int32.ofNat n) = nI n := by unfold x_mmin; split <;> rfl
  rw [e, nI_clamp (by omega)]
  unfold va_cpy
  rw [if_pos (by omega)]
  exact congrArg f (by omega)
theorem copy_R {o q : OV} {s : Nat → Int32} (h : RF q s) : RF (k_X1_copyFrom o q) s := by
  have sc : ∀ j, j < 12 → (k_X1_copyFrom o q).1 j = q.1 j := by
    intro j hj
    rcases (show j = 0 ∨ j = 1 ∨ j = 2 ∨ j = 3 ∨ j = 4 ∨ j = 5 ∨ j = 6 ∨ j = 7 ∨ j = 8 ∨ j = 9 ∨ j = 10 ∨ j = 11 by omega) with rfl | rfl | rfl | rfl | rfl | rfl | rfl | rfl | rfl | rfl | rfl | rfl <;> rfl
  have pa : (k_X1_copyFrom o q).2.1 = q.2.1 := rfl
  have r0 : ∀ i, i < 120 → (k_X1_copyFrom o q).2.2 0 i = q.2.2 0 i := fun i hi => crow (n := 120) (by omega) hi
  have r1 : ∀ i, i < 60 → (k_X1_copyFrom o q).2.2 1 i = q.2.2 1 i := fun i hi => crow (n := 60) (by omega) hi
  have r2 : ∀ i, i < 6 → (k_X1_copyFrom o q).2.2 2 i = q.2.2 2 i := fun i hi => crow (n := 6) (by omega) hi
  have r3 : ∀ i, i < 6 → (k_X1_copyFrom o q).2.2 3 i = q.2.2 3 i := fun i hi => crow (n := 6) (by omega) hi
  have r4 : ∀ i, i < 6 → (k_X1_copyFrom o q).2.2 4 i = q.2.2 4 i := fun i hi => crow (n := 6) (by omega) hi
  have r5 : ∀ i, i < 3 → (k_X1_copyFrom o q).2.2 5 i = q.2.2 5 i := fun i hi => crow (n := 3) (by omega) hi
  generalize k_X1_copyFrom o q = o2 at sc pa r0 r1 r2 r3 r4 r5 ⊢
  obtain ⟨N, M, ⟨⟨⟨n1, n2, n3⟩, ⟨m1, m2, m3⟩, hp, hv9, hd, hC, ho, hq⟩, ⟨d1, d2, d3, d4, d5, d6⟩, ⟨a1, a2, a3⟩, ⟨b1, b2, b3, b4, b5, b6, b7, b8, b9⟩⟩, hw⟩ := h
  refine ⟨N, M, ⟨⟨⟨n1, n2, by rw [sc _ (by omega)]; exact n3⟩, ⟨m1, m2, by rw [sc _ (by omega)]; exact m3⟩, fun i hi => ?_, hv9, hd, fun p hp j hj => ?_, fun j hj c hc => ?_, hq⟩, ⟨fun j hj => ?_, fun j hj => ?_, fun j hj => ?_, d4, d5, d6⟩, ⟨?_, a2, fun j hj => ?_⟩, ⟨?_, ?_, ?_, ?_, ?_, ?_, ?_, ?_, b9⟩⟩, fun j hj => ?_⟩
  · rw [r0 _ (by omega)]; exact hp i hi
  · rw [r2 _ hp]; exact hC p hp j hj
  · rw [r1 _ (by omega)]; exact ho j hj c hc
  · rw [r3 _ hj]; exact d1 j hj
  · rw [r4 _ hj]; exact d2 j hj
  · rw [r5 _ hj]; exact d3 j hj
  · rw [sc _ (by omega)]; exact a1
  · rw [← a3 j hj]
    unfold k_X1_soundedAgo
    rw [pa]
  · rw [sc _ (by omega)]; exact b1
  · rw [sc _ (by omega)]; exact b2
  · rw [sc _ (by omega)]; exact b3
  · rw [sc _ (by omega)]; exact b4
  · rw [sc _ (by omega)]; exact b5
  · rw [sc _ (by omega)]; exact b6
  · rw [sc _ (by omega)]; exact b7
  · rw [sc _ (by omega)]; exact b8
  · unfold wO
    rw [r1 _ (by omega)]
    exact hw j hj
