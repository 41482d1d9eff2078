/-! Layer 2: actions, undo, save slots. -/
theorem m_rr {mw : MV} {k j : Nat} {y o : Nat → Int32} {v : Int32} : m_r (m_s (m_r mw k y) j v) k o = m_r (m_s mw j v) k o := by
  unfold m_r m_s
  refine Prod.ext rfl (funext fun i => ?_)
  show va_up (va_up mw.2 k y) k o i = va_up mw.2 k o i
  unfold va_up
  split <;> rfl
theorem dL {mv : MV} : ∀ (n j : Nat) (mw : MV), j ≤ 2821 → 2821 - j < n → mw.1 2 = nI 14 → ∃ X : Nat → Int32, k_X6_remember_L11 mv n (nI j) mw = m_r (m_s mw 2 (nI 14)) 3 X ∧ ∀ i, X i = if 2821 ≤ i ∧ i < 3038 then mw.2 1 (i - 2821) else if j ≤ i ∧ i < 2821 then mw.2 3 (i + 217) else mw.2 3 i := by
  intro n
  induction n with
  | zero => intro j mw h1 h2; omega
  | succ n ih =>
    intro j mw h1 h2 h3
    rw [k_X6_remember_L11]
    by_cases hj : j = 2821
    · subst hj
      rw [if_pos (show (2821 : Int32) ≤ nI 2821 by decide), h3]
      refine ⟨k_X6_copyState (mw.2 1) (mw.2 3) 0 (217 * (nI 14 - 1)), rfl, fun i => ?_⟩
      have := cps_at (fa := mw.2 1) (ga := mw.2 3) (F := 0) (T := 2821) (by omega) (by omega) i
      rw [show (217 * (nI 14 - 1) : Int32) = nI 2821 by decide]
      refine Eq.trans this ?_
      by_cases h4 : 2821 ≤ i ∧ i < 3038
      · rw [if_pos h4, if_pos (by omega), Nat.zero_add]
      · rw [if_neg h4, if_neg (by omega), if_neg (by omega)]
    · have hlt : ¬ (2821 : Int32) ≤ nI j := nI_ge (b := 2821) (by omega) (by omega)
      rw [if_neg hlt, nI_1, show nI j + 217 = nI (j + 217) from nI_add j 217, nI_clamp (by omega), nI_clamp (by omega)]
      obtain ⟨X, x1, x2⟩ := ih (j + 1) (m_r mw 3 (va_up (mw.2 3) j (mw.2 3 (j + 217)))) (by omega) (by omega) h3
      refine ⟨X, x1.trans m_rr, fun i => ?_⟩
      rw [x2 i]
      have r1 : (m_r mw 3 (va_up (mw.2 3) j (mw.2 3 (j + 217)))).2 1 = mw.2 1 := rfl
      have r3 : (m_r mw 3 (va_up (mw.2 3) j (mw.2 3 (j + 217)))).2 3 = va_up (mw.2 3) j (mw.2 3 (j + 217)) := rfl
      rw [r1, r3]
      by_cases h4 : 2821 ≤ i ∧ i < 3038
      · rw [if_pos h4, if_pos h4]
      rw [if_neg h4, if_neg h4]
      by_cases h5 : i = j
      · subst h5
        rw [if_neg (by omega), va_eq, if_pos (by omega)]
      · by_cases h6 : j + 1 ≤ i ∧ i < 2821
        · rw [if_pos h6, if_pos (by omega), va_ne (by omega)]
        · rw [if_neg h6, if_neg (by omega), va_ne h5]
theorem remS {mv : MV} {a : Nat} (h : mv.1 2 = nI a) (ha : a ≤ 14) : ∃ X : Nat → Int32, k_X6_remember mv = m_r (m_s mv 2 (nI (min (a + 1) 14))) 3 X ∧ (a < 14 → ∀ i, X i = if 217 * a ≤ i ∧ i < 217 * a + 217 then mv.2 1 (i - 217 * a) else mv.2 3 i) ∧ (a = 14 → ∀ i, X i = if 2821 ≤ i ∧ i < 3038 then mv.2 1 (i - 2821) else if i < 2821 then mv.2 3 (i + 217) else mv.2 3 i) := by
  unfold k_X6_remember
  by_cases h14 : a = 14
  · subst h14
    rw [if_pos (by rw [h]; rfl)]
    obtain ⟨X, x1, x2⟩ := dL (mv := mv) 2822 0 mv (by omega) (by omega) h
    refine ⟨X, x1, fun q => absurd q (by omega), fun _ i => ?_⟩
    rw [x2 i]
    by_cases h4 : 2821 ≤ i ∧ i < 3038
    · rw [if_pos h4, if_pos h4]
    · rw [if_neg h4, if_neg h4]
      by_cases h5 : i < 2821
      · rw [if_pos ⟨Nat.zero_le _, h5⟩, if_pos h5]
      · rw [if_neg (by omega), if_neg h5]
  · have hne : ¬ mv.1 2 = 14 := by
      rw [h]
      exact fun e => h14 ((nI_eq (b := 14) (by omega) (by omega)).mp e)
    rw [if_neg hne, h, show (217 * nI a : Int32) = nI (217 * a) from nI_mul 217 a, nI_1, show min (a + 1) 14 = a + 1 by omega]
    refine ⟨_, rfl, fun _ i => ?_, fun q => absurd q h14⟩
    refine (cps_at (fa := mv.2 1) (ga := mv.2 3) (F := 0) (T := 217 * a) (by omega) (by omega) i).trans ?_
    split
    · rw [Nat.zero_add]
    · rfl
theorem remC {cv : CV} {a nx : Nat} (h1 : cv.2.2.1 1 = nI a) (h0 : cv.2.2.1 0 = nI nx) (ha : a ≤ 14) (hn : nx < 14) : k_X0_remember cv = c_s (c_s (c_o cv (3 + nx) (k_X1_copyFrom (cv.2.1 (3 + nx)) (cv.2.1 0))) 0 (nI ((nx + 1) % 14))) 1 (nI (min (a + 1) 14)) := by
  have hm : x_mmin (nI a + 1) 14 = nI (min (a + 1) 14) := by
    rw [nI_1]
    by_cases h : 14 < a + 1
    · have h2 : (14 : Int32) < nI (a + 1) := nI_lt (a := 14) h (by omega)
      rw [show min (a + 1) 14 = 14 by omega]
      exact if_pos h2
    · have h2 : ¬ (14 : Int32) < nI (a + 1) := nI_nlt (a := 14) (by omega) (by omega)
      rw [show min (a + 1) 14 = a + 1 by omega]
      exact if_neg h2
  unfold k_X0_remember
  rw [h0, h1, hm, nI_clamp (by omega), nI_1]
  by_cases h : nx = 13
  · subst h
    rw [if_pos (by decide)]
    rfl
  · have h2 : ¬ (14 : Int32) ≤ nI (nx + 1) := nI_ge (b := 14) (by omega) (by omega)
    rw [if_neg h2, Nat.mod_eq_of_lt (by omega)]
theorem T_rem {cv : CV} {mv : MV} (h : TRel cv mv) : TRel (k_X0_remember cv) (k_X6_remember mv) ∧ (k_X6_remember mv).1 0 = mv.1 0 ∧ (k_X0_remember cv).2.1 0 = cv.2.1 0 ∧ (k_X6_remember mv).2 1 = mv.2 1 := by
  obtain ⟨t1, t2, t3, t4, ⟨a, nx, b1, b2, b3, b4, b5, b6⟩, t6⟩ := h
  obtain ⟨X, x1, x2, x3⟩ := remS b3 b1
  have hC := CO_rem t2
  have e1 := remC b4 b5 b1 b2
  rw [e1] at hC
  rw [e1, x1]
  have og : ∀ k, k ≠ 3 + nx → (c_s (c_s (c_o cv (3 + nx) (k_X1_copyFrom (cv.2.1 (3 + nx)) (cv.2.1 0))) 0 (nI ((nx + 1) % 14))) 1 (nI (min (a + 1) 14))).2.1 k = cv.2.1 k := fun k hk => va_ne hk
  have og2 : (c_s (c_s (c_o cv (3 + nx) (k_X1_copyFrom (cv.2.1 (3 + nx)) (cv.2.1 0))) 0 (nI ((nx + 1) % 14))) 1 (nI (min (a + 1) 14))).2.1 (3 + nx) = k_X1_copyFrom (cv.2.1 (3 + nx)) (cv.2.1 0) := va_eq _ _ _
  refine ⟨⟨TX_of t1 rfl rfl rfl rfl, hC, ?_, ?_, ⟨min (a + 1) 14, (nx + 1) % 14, by omega, by omega, rfl, rfl, rfl, fun j hj => ?_⟩, fun i hi => ?_⟩, rfl, og 0 (by omega), rfl⟩
  · rw [og 0 (by omega)]; exact t3
  · rw [og 1 (by omega)]; exact t4
  · show RF _ (fun i => X (217 * j + i))
    by_cases h14 : a = 14
    · subst h14
      have hX := x3 rfl
      by_cases hj13 : j = 13
      · subst hj13
        rw [show 3 + ((nx + 1) % 14 + 14 - min (14 + 1) 14 + 13) % 14 = 3 + nx by omega, og2]
        refine copy_R (RF_s (fun i hi => ?_) t3)
        show X (217 * 13 + i) = mv.2 1 i
        rw [hX, if_pos (by omega)]
        exact congrArg (mv.2 1) (by omega)
      · rw [og _ (by omega), show 3 + ((nx + 1) % 14 + 14 - min (14 + 1) 14 + j) % 14 = 3 + (nx + 14 - 14 + (j + 1)) % 14 by omega]
        refine RF_s (fun i hi => ?_) (b6 (j + 1) (by omega))
        show X (217 * j + i) = mv.2 3 (217 * (j + 1) + i)
        rw [hX, if_neg (by omega), if_pos (by omega)]
        exact congrArg (mv.2 3) (by omega)
    · have hX := x2 (by omega)
      by_cases hja : j = a
      · subst hja
        rw [show 3 + ((nx + 1) % 14 + 14 - min (j + 1) 14 + j) % 14 = 3 + nx by omega, og2]
        refine copy_R (RF_s (fun i hi => ?_) t3)
        show X (217 * j + i) = mv.2 1 i
        rw [hX, if_pos (by omega)]
        exact congrArg (mv.2 1) (by omega)
      · rw [show 3 + ((nx + 1) % 14 + 14 - min (a + 1) 14 + j) % 14 = 3 + (nx + 14 - a + j) % 14 by omega, og _ (by omega)]
        refine RF_s (fun i hi => ?_) (b6 j (by omega))
        show X (217 * j + i) = mv.2 3 (217 * j + i)
        rw [hX, if_neg (by omega)]
  · have := t6 i hi
    rw [og (17 + i) (by omega)]
    exact this
/-- behind the memory: an action on the state -/
theorem T_act {cv : CV} {mv : MV} (h : TRel cv mv) {o2 : OV} {s2 : Nat → Int32} (hR : RF o2 s2) : TRel (c_o (k_X0_remember cv) 0 o2) (m_r (k_X6_remember (m_s mv 0 0)) 1 s2) := by
  obtain ⟨r1, r2, r3, r4⟩ := T_rem (TR_m (v := 0) h)
  exact TR_upd r1 (TX_of r1.1 rfl rfl rfl rfl) (CO_o r1.2.1 (RF_OI hR)) hR (fun k hk _ => va_ne hk) rfl rfl rfl rfl rfl
theorem act_z {mv : MV} {s2 : Nat → Int32} {cv : CV} (h : TRel cv mv) : (m_r (k_X6_remember (m_s mv 0 0)) 1 s2).1 0 = 0 := (T_rem (TR_m (v := 0) h)).2.1
theorem T_put {cv : CV} {mv : MV} (h : TRel cv mv) (vp vb vn : Int32) : AG [IOB, IAE, ISE] (k_X5_put cv vp vb vn) (k_X6_put mv vp vb vn) := by
  unfold k_X5_put k_X6_put
  rcases pP vp with ⟨q1, q2⟩ | ⟨q1, q2, p, hp, rfl⟩
  · rw [if_pos q1, if_pos q2, rf_1]
    dsimp only
    rw [if_neg n10]
    exact AG_bad h (by decide) (by simp)
  rw [if_neg (by rw [q1]; decide), if_neg q2]
  rcases bB vb with ⟨q1, q2⟩ | ⟨q1, q2, b, hb, rfl⟩
  · rw [if_pos q1, if_pos q2, rf_1]
    dsimp only
    rw [if_neg n10]
    exact AG_bad h (by decide) (by simp)
  rw [if_neg (by rw [q1]; decide), if_neg q2]
  rcases lL vn with ⟨q1, q2⟩ | ⟨q1, q2, n, hn1, hn2, rfl⟩
  · rw [if_pos q1, if_pos q2, rf_2]
    dsimp only
    rw [if_neg n10]
    exact AG_bad h (by decide) (by simp)
  rw [if_neg (by rw [q1]; decide), if_neg q2]
  obtain ⟨M, hM, m1, m2⟩ := RF_M h.2.2.1
  by_cases h12 : M = 12
  · subst h12
    rw [show k_X4_isFull 5 12 (g_ot (cv.2.1 0)) = 1 from full_y (C := 5) (M := 12) (t := g_ot (cv.2.1 0)) m2 (by omega), if_neg n10, m1, if_pos (show (12 : Int32) ≤ nI 12 by decide), rf_3]
    dsimp only
    rw [if_neg n10]
    exact AG_bad h (by decide) (by simp)
  · have hlt : ¬ (12 : Int32) ≤ nI M := fun q => h12 ((m12 hM).mp q)
    rw [show k_X4_isFull 5 12 (g_ot (cv.2.1 0)) = 0 from full_n (C := 5) (M := 12) (t := g_ot (cv.2.1 0)) m2 (by omega) (by omega), if_pos p00, m1, if_neg hlt, rf_0]
    dsimp only
    rw [if_pos p00]
    obtain ⟨-, r2, r3, r4⟩ := T_rem (TR_m (v := 0) h)
    obtain ⟨a1, a2, a3⟩ := op_put h.2.2.1 m1 (show M < 12 by omega) hp hb hn1 hn2
    rw [r3, r4, show (m_s mv 0 0).2 1 = mv.2 1 from rfl, a1, a2]
    exact AG_ok (T_act h a3) (act_z h) rfl
theorem T_pull {cv : CV} {mv : MV} (h : TRel cv mv) (vp vb : Int32) : AG [IOB, ISE] (k_X5_pull cv vp vb) (k_X6_pull mv vp vb) := by
  unfold k_X5_pull k_X6_pull
  rcases pP vp with ⟨q1, q2⟩ | ⟨q1, q2, p, hp, rfl⟩
  · rw [if_pos q1, if_pos q2, rf_1]
    dsimp only
    rw [if_neg n10]
    exact AG_bad h (by decide) (by simp)
  rw [if_neg (by rw [q1]; decide), if_neg q2]
  rcases bB vb with ⟨q1, q2⟩ | ⟨q1, q2, b, hb, rfl⟩
  · rw [if_pos q1, if_pos q2, rf_1]
    dsimp only
    rw [if_neg n10]
    exact AG_bad h (by decide) (by simp)
  rw [if_neg (by rw [q1]; decide), if_neg q2]
  obtain ⟨M, hM, m1, m2⟩ := RF_M h.2.2.1
  by_cases h12 : M = 12
  · subst h12
    rw [show k_X4_isFull 5 12 (g_ot (cv.2.1 0)) = 1 from full_y (C := 5) (M := 12) (t := g_ot (cv.2.1 0)) m2 (by omega), if_neg n10, m1, if_pos (show (12 : Int32) ≤ nI 12 by decide), rf_2]
    dsimp only
    rw [if_neg n10]
    exact AG_bad h (by decide) (by simp)
  · have hlt : ¬ (12 : Int32) ≤ nI M := fun q => h12 ((m12 hM).mp q)
    rw [show k_X4_isFull 5 12 (g_ot (cv.2.1 0)) = 0 from full_n (C := 5) (M := 12) (t := g_ot (cv.2.1 0)) m2 (by omega) (by omega), if_pos p00, m1, if_neg hlt, rf_0]
    dsimp only
    rw [if_pos p00]
    obtain ⟨-, r2, r3, r4⟩ := T_rem (TR_m (v := 0) h)
    obtain ⟨a1, a2, a3⟩ := op_pull h.2.2.1 m1 (show M < 12 by omega) hp hb
    rw [r3, r4, show (m_s mv 0 0).2 1 = mv.2 1 from rfl, a1, a2]
    exact AG_ok (T_act h a3) (act_z h) rfl
theorem T_cancel {cv : CV} {mv : MV} (h : TRel cv mv) (x : Int32) : AG [IOB] (k_X5_cancel cv x) (k_X6_cancel mv x) := by
  unfold k_X5_cancel k_X6_cancel
  rcases oO h.2.2.1 x with ⟨q1, q2⟩ | ⟨q1, q2, k, M, hk, hM, hs, rfl⟩
  · rw [if_pos q1, if_pos q2, rf_1]
    dsimp only
    rw [if_neg n10]
    exact AG_bad h (by decide) (by simp)
  rw [if_neg (by rw [q1]; decide), if_neg q2, rf_0]
  dsimp only
  rw [if_pos p00]
  obtain ⟨-, r2, r3, r4⟩ := T_rem (TR_m (v := 0) h)
  obtain ⟨o2, a1, a2, a3⟩ := op_can h.2.2.1 hs hM hk
  rw [r3, r4, show (m_s mv 0 0).2 1 = mv.2 1 from rfl, a1, a2]
  exact AG_ok (T_act h a3) (act_z h) rfl
theorem T_ticks {cv : CV} {mv : MV} (h : TRel cv mv) (x : Int32) : AG [IAE] (k_X5_ticks cv x) (k_X6_ticks mv x) := by
  unfold k_X5_ticks k_X6_ticks
  rcases tT x with ⟨q1, q2⟩ | ⟨q1, q2, v, hv1, hv2, rfl⟩
  · rw [if_pos q1, if_pos q2, rf_1]
    dsimp only
    rw [if_neg n10]
    exact AG_bad h (by decide) (by simp)
  rw [if_neg (by rw [q1]; decide), if_neg q2, rf_0]
  dsimp only
  rw [if_pos p00]
  obtain ⟨-, r2, r3, r4⟩ := T_rem (TR_m (v := 0) h)
  obtain ⟨d, hd, a1, a2, a3⟩ := op_play h.2.2.1 hv1 hv2
  rw [r3, r4, show (m_s mv 0 0).2 1 = mv.2 1 from rfl, a1, a2]
  exact AG_ok (T_act h a3) (act_z h) rfl
theorem T_set {cv : CV} {mv : MV} (h : TRel cv mv) (w v : Int32) : AG [IAE] (k_X5_set cv w v) (k_X6_set mv w v) := by
  unfold k_X5_set k_X6_set
  rcases sS w v with ⟨q1, q2⟩ | ⟨q1, q2, a, b, hok, rfl, rfl⟩
  · rw [if_pos q1, if_pos q2, rf_1]
    dsimp only
    rw [if_neg n10]
    exact AG_bad h (by decide) (by simp)
  rw [if_neg (by rw [q1]; decide), if_neg q2, rf_0]
  dsimp only
  rw [if_pos p00]
  obtain ⟨-, r2, r3, r4⟩ := T_rem (TR_m (v := 0) h)
  obtain ⟨a1, a2, a3, -⟩ := op_set h.2.2.1 hok
  rw [r3, r4, show (m_s mv 0 0).2 1 = mv.2 1 from rfl, a1, a2]
  exact AG_ok (T_act h a3) (act_z h) rfl
theorem T_undo {cv : CV} {mv : MV} (h : TRel cv mv) : AG [ISE] (k_X5_undo cv) (k_X6_undo mv) := by
  unfold k_X5_undo k_X6_undo k_X0_isEmpty
  obtain ⟨t1, t2, t3, t4, ⟨a, nx, b1, b2, b3, b4, b5, b6⟩, t6⟩ := id h
  rw [b3, b4]
  by_cases ha : a = 0
  · subst ha
    rw [if_pos (show nI 0 = 0 from rfl), if_neg n10, if_pos (show nI 0 = 0 from rfl), rf_1]
    dsimp only
    rw [if_neg n10]
    exact AG_bad h (by decide) (by simp)
  have hne : ¬ nI a = 0 := nI_ne0 (by omega) (by omega)
  rw [if_neg hne, if_pos p00, if_neg hne, rf_0]
  dsimp only
  rw [if_pos p00]
  have e2 : (m_s mv 0 0).1 2 = nI a := b3
  rw [e2, show nI a - 1 = nI (a - 1) from nI_sub (a := a) (b := 1) (by omega), show (217 * nI (a - 1) : Int32) = nI (217 * (a - 1)) from nI_mul 217 (a - 1)]
  unfold kbind
  have bb : k_X0_bringBack cv = (nI (a - 1), c_s (c_s (c_o cv 0 (k_X1_copyFrom (cv.2.1 0) (cv.2.1 (3 + (nx + 13) % 14)))) 0 (nI ((nx + 13) % 14))) 1 (nI (a - 1))) := by
    unfold k_X0_bringBack
    rw [b4, b5, show nI a - 1 = nI (a - 1) from nI_sub (a := a) (b := 1) (by omega)]
    by_cases h0 : nx = 0
    · subst h0
      rw [if_pos (by decide)]
      rfl
    · rw [if_neg (nI_nle (by omega) (by omega)), show nI nx - 1 = nI (nx - 1) from nI_sub (a := nx) (b := 1) (by omega), nI_clamp (by omega), show (nx + 13) % 14 = nx - 1 by omega]
  rw [bb]
  have og : ∀ k, k ≠ 0 → (c_s (c_s (c_o cv 0 (k_X1_copyFrom (cv.2.1 0) (cv.2.1 (3 + (nx + 13) % 14)))) 0 (nI ((nx + 13) % 14))) 1 (nI (a - 1))).2.1 k = cv.2.1 k := fun k hk => va_ne hk
  obtain ⟨Y, hY⟩ : ∃ Y, Y = k_X6_copyState (mv.2 3) (mv.2 1) (nI (217 * (a - 1))) 0 := ⟨_, rfl⟩
  have kp : ∀ i, (k_X6_copyState (mv.2 3) (mv.2 1) (nI (217 * (a - 1))) 0) i = if 0 ≤ i ∧ i < 0 + 217 then mv.2 3 (217 * (a - 1) + (i - 0)) else mv.2 1 i := fun i => cps_at (fa := mv.2 3) (ga := mv.2 1) (F := 217 * (a - 1)) (T := 0) (by omega) (by omega) i
  rw [← hY] at kp
  rw [show k_X6_copyState ((m_s mv 0 0).2 3) ((m_s mv 0 0).2 1) (nI (217 * (a - 1))) 0 = Y from hY.symm]
  clear hY
  have hRF : RF (k_X1_copyFrom (cv.2.1 0) (cv.2.1 (3 + (nx + 13) % 14))) Y := by
    have := b6 (a - 1) (by omega)
    rw [show 3 + (nx + 14 - a + (a - 1)) % 14 = 3 + (nx + 13) % 14 by omega] at this
    exact copy_R (RF_s (fun i hi => by rw [kp, if_pos (by omega), Nat.sub_zero]) this)
  refine AG_ok ⟨TX_of t1 rfl rfl rfl rfl, ?_, hRF, ?_, ⟨a - 1, (nx + 13) % 14, by omega, by omega, rfl, rfl, rfl, fun j hj => ?_⟩, fun i hi => ?_⟩ rfl rfl
  · refine CO_s1 (CO_s0 (CO_o t2 (RF_OI hRF)) ?_ ?_)
    · rw [nI_toInt (by omega)]; omega
    · rw [nI_toInt (by omega)]; omega
  · rw [og 1 (by omega)]; exact t4
  · rw [og _ (by omega), show 3 + ((nx + 13) % 14 + 14 - (a - 1) + j) % 14 = 3 + (nx + 14 - a + j) % 14 by omega]
    exact b6 j (by omega)
  · rw [og _ (by omega)]
    exact t6 i hi
-- ---------------------------------------------------------------- save slots
theorem sl2 (cv : CV) (x : Int32) : (k_X3_has cv x = 0 ∧ k_X6_in (x.toInt64) 0 1 = 0) ∨ (k_X3_has cv x = 1 ∧ ¬ k_X6_in (x.toInt64) 0 1 = 0 ∧ ∃ k, k < 2 ∧ x = nI k) := by
  have e0 : (0 : Int32).toInt = 0 := rfl
  have e6 : (2 : Int32).toInt = 2 := rfl
  have f5 : (1 : Int64).toInt = 1 := rfl
  have f0 := e64_0
  by_cases h : 0 ≤ x.toInt ∧ x.toInt ≤ 1
  · have hin : ¬ k_X6_in (x.toInt64) 0 1 = 0 := in_y (a := 0) (b := 1) (by omega)
    obtain ⟨p, hp, rfl⟩ := nI_rng (N := 1) h.1 h.2
    refine Or.inr ⟨?_, hin, p, by omega, rfl⟩
    have n2 : ¬ (2 : Int32) ≤ nI p := nI_ge (b := 2) (by omega) (by omega)
    unfold k_X3_has
    rw [if_neg (nI_pos (by omega)), if_neg n2]
  · refine Or.inl ⟨?_, in_z.mpr (by omega)⟩
    unfold k_X3_has
    by_cases h1 : x < 0
    · rw [if_pos h1]
    · rw [i_lt] at h1
      have h2 : 2 ≤ x := by rw [i_le]; omega
      rw [if_neg (by rw [i_lt]; exact h1), if_pos h2]
theorem T_save {cv : CV} {mv : MV} (h : TRel cv mv) (x : Int32) : AG [IOB] (k_X5_save cv x) (k_X6_save mv x) := by
  unfold k_X5_save k_X6_save
  rcases sl2 cv x with ⟨q1, q2⟩ | ⟨q1, q2, k, hk, rfl⟩
  · rw [if_pos q1, if_pos q2, rf_1]
    dsimp only
    rw [if_neg n10]
    exact AG_bad h (by decide) (by simp)
  rw [if_neg (by rw [q1]; decide), if_neg q2, rf_0]
  dsimp only
  rw [if_pos p00]
  unfold kbind k_X3_store
  rw [q1, if_neg n10, nI_clamp (by omega), show (217 * nI k : Int32) = nI (217 * k) from nI_mul 217 k]
  obtain ⟨t1, t2, t3, t4, ⟨a, nx, b1, b2, b3, b4, b5, b6⟩, t6⟩ := id h
  have og : ∀ j, j ≠ 17 + k → (c_z (c_o cv (17 + k) (k_X1_copyFrom (cv.2.1 (17 + k)) (cv.2.1 0))) (va_up cv.2.2.2 k 1)).2.1 j = cv.2.1 j := fun j hj => va_ne hj
  have og2 : (c_z (c_o cv (17 + k) (k_X1_copyFrom (cv.2.1 (17 + k)) (cv.2.1 0))) (va_up cv.2.2.2 k 1)).2.1 (17 + k) = k_X1_copyFrom (cv.2.1 (17 + k)) (cv.2.1 0) := va_eq _ _ _
  have kp : ∀ i, (k_X6_copyState (mv.2 1) (mv.2 4) 0 (nI (217 * k))) i = if 217 * k ≤ i ∧ i < 217 * k + 217 then mv.2 1 (0 + (i - 217 * k)) else mv.2 4 i := fun i => cps_at (fa := mv.2 1) (ga := mv.2 4) (F := 0) (T := 217 * k) (by omega) (by omega) i
  obtain ⟨Y, hY⟩ : ∃ Y, Y = k_X6_copyState (mv.2 1) (mv.2 4) 0 (nI (217 * k)) := ⟨_, rfl⟩
  rw [← hY] at kp
  rw [show k_X6_copyState ((m_s mv 0 0).2 1) ((m_s mv 0 0).2 4) 0 (nI (217 * k)) = Y from hY.symm]
  clear hY
  refine AG_ok ⟨TX_of t1 rfl rfl rfl rfl, CO_z (CO_o t2 (OI_copy (t2.1 0 (by omega)))), ?_, ?_, ⟨a, nx, b1, b2, b3, b4, b5, fun j hj => ?_⟩, fun i hi => ?_⟩ rfl ?_
  · rw [og 0 (by omega)]; exact t3
  · rw [og 1 (by omega)]; exact t4
  · rw [og _ (by omega)]; exact b6 j hj
  · by_cases hik : i = k
    · subst hik
      refine Or.inr ⟨va_eq _ _ _, va_eq _ _ _, ?_⟩
      rw [og2]
      refine copy_R (RF_s (fun q hq => ?_) t3)
      show Y (217 * i + q) = mv.2 1 q
      rw [kp, if_pos (by omega)]
      exact congrArg (mv.2 1) (by omega)
    · rcases t6 i hi with ⟨z1, z2⟩ | ⟨z1, z2, z3⟩
      · exact Or.inl ⟨(va_ne hik).trans z1, (va_ne hik).trans z2⟩
      · refine Or.inr ⟨(va_ne hik).trans z1, (va_ne hik).trans z2, ?_⟩
        rw [og _ (by omega)]
        refine RF_s (fun q hq => ?_) z3
        show Y (217 * i + q) = mv.2 4 (217 * i + q)
        rw [kp, if_neg (by omega)]
  · rw [og 0 (by omega)]
    obtain ⟨N, M, hRC, -⟩ := t3
    exact hRC.2.2.2.2.2.2.1
theorem T_restore {cv : CV} {mv : MV} (h : TRel cv mv) (x : Int32) : AG [IOB, ISE] (k_X5_restore cv x) (k_X6_restore mv x) := by
  unfold k_X5_restore k_X6_restore
  rcases sl2 cv x with ⟨q1, q2⟩ | ⟨q1, q2, k, hk, rfl⟩
  · rw [if_pos q1, if_pos q2, rf_1]
    dsimp only
    rw [if_neg n10]
    exact AG_bad h (by decide) (by simp)
  rw [if_neg (by rw [q1]; decide), if_neg q2]
  unfold k_X3_isStored
  rw [q1, if_neg n10, nI_clamp (by omega)]
  obtain ⟨t1, t2, t3, t4, ⟨a, nx, b1, b2, b3, b4, b5, b6⟩, t6⟩ := id h
  rcases t6 k hk with ⟨z1, z2⟩ | ⟨z1, z2, z3⟩
  · rw [z1, z2, if_pos p00, if_pos p00, if_pos p00, rf_2]
    dsimp only
    rw [if_neg n10]
    exact AG_bad h (by decide) (by simp)
  rw [z1, z2, if_neg n10, if_neg n10, if_neg n10, rf_0]
  dsimp only
  rw [if_pos p00]
  unfold kbind k_X3_fetch k_X0_forget
  rw [q1, if_neg n10, nI_clamp (by omega), show (217 * nI k : Int32) = nI (217 * k) from nI_mul 217 k]
  obtain ⟨Y, hY⟩ : ∃ Y, Y = k_X6_copyState (mv.2 4) (mv.2 1) (nI (217 * k)) 0 := ⟨_, rfl⟩
  have kp : ∀ i, (k_X6_copyState (mv.2 4) (mv.2 1) (nI (217 * k)) 0) i = if 0 ≤ i ∧ i < 0 + 217 then mv.2 4 (217 * k + (i - 0)) else mv.2 1 i := fun i => cps_at (fa := mv.2 4) (ga := mv.2 1) (F := 217 * k) (T := 0) (by omega) (by omega) i
  rw [← hY] at kp
  rw [show k_X6_copyState ((m_s mv 0 0).2 4) ((m_s mv 0 0).2 1) (nI (217 * k)) 0 = Y from hY.symm]
  clear hY
  have hRF : RF (k_X1_copyFrom (cv.2.1 0) (cv.2.1 (17 + k))) Y := copy_R (RF_s (fun i hi => by rw [kp, if_pos (by omega), Nat.sub_zero]) z3)
  have og : ∀ j, j ≠ 0 → (c_s (c_o cv 0 (k_X1_copyFrom (cv.2.1 0) (cv.2.1 (17 + k)))) 1 0).2.1 j = cv.2.1 j := fun j hj => va_ne hj
  refine AG_ok ⟨TX_of t1 rfl rfl rfl rfl, CO_s1 (CO_o t2 (RF_OI hRF)), hRF, ?_, ⟨0, nx, by omega, b2, rfl, rfl, b5, fun j hj => by omega⟩, fun i hi => ?_⟩ rfl ?_
  · rw [og 1 (by omega)]; exact t4
  · rw [og _ (by omega)]; exact t6 i hi
  · obtain ⟨N, M, hRC, -⟩ := hRF
    exact hRC.2.2.2.2.2.2.1
