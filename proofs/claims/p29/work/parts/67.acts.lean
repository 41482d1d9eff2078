/-! p29: the acting calls, by the core. -/
/-- an act on the state -/
def psh (c : KC) (r : KR) : KC := (r, (min (c.2.1.1 + 1) 14, fun k => if k = 0 then c.1 else c.2.1.2 (k - 1)), c.2.2)
def unc (c : KC) : KC := (c.2.1.2 0, (c.2.1.1 - 1, fun k => c.2.1.2 (k + 1)), c.2.2)
theorem unc_psh {c : KC} {r : KR} : unc (psh c r) = (c.1, (min (c.2.1.1 + 1) 14 - 1, c.2.1.2), c.2.2) := rfl
theorem Q_act {L : List String} {q : Option String × Int32 × CV} {c : KC} {v : Int32} {r : KR} {cv0 : CV} (hL : L.length ≤ 50) (h : QR cv0 c) (hg : AG L q (v, m_r (k_X6_remember (m_s (nmv c) 0 0)) 1 r)) : QR q.2.2 (psh c r) ∧ aX q = v := by
  obtain ⟨X, x1, x2, x3⟩ := remS (mv := m_s (nmv c) 0 0) (a := c.2.1.1) rfl h.2
  rw [x1] at hg
  refine ⟨TR_nm hg.1 rfl (fun i _ => rfl) rfl (Nat.min_le_right _ _) (fun j hj i hi => ?_) (fun i _ => rfl) (fun i hi _ q hq => (nm4 (c := c) hq).symm), AG_0 hL hg rfl⟩
  show (if (min (c.2.1.1 + 1) 14) - 1 - j = 0 then c.1 else c.2.1.2 ((min (c.2.1.1 + 1) 14) - 1 - j - 1)) i = X (217 * j + i)
  have hj : j < min (c.2.1.1 + 1) 14 := hj
  have hle := h.2
  have o1 : (m_s (nmv c) 0 0).2 1 = c.1 := rfl
  have o3 : (m_s (nmv c) 0 0).2 3 = (nmv c).2 3 := rfl
  by_cases h14 : c.2.1.1 = 14
  · rw [x3 h14, o1, o3]
    by_cases hj13 : j = 13
    · subst hj13
      rw [if_pos (by omega), if_pos (by omega)]
      exact congrArg c.1 (by omega)
    · rw [if_neg (by omega), if_neg (by omega), if_pos (by omega), show 217 * j + i + 217 = 217 * (j + 1) + i by omega, nm3 hi]
      exact congrFun (congrArg c.2.1.2 (by omega)) i
  · rw [x2 (by omega), o1, o3]
    by_cases hja : j = c.2.1.1
    · rw [if_pos (by omega), if_pos (by omega)]
      exact congrArg c.1 (by omega)
    · rw [if_neg (by omega), if_neg (by omega), nm3 hi]
      exact congrFun (congrArg c.2.1.2 (by omega)) i
theorem rem_c {cv : CV} {c : KC} (h : QR cv c) : (k_X6_remember (m_s (nmv c) 0 0)).2 1 = c.1 := (T_rem (TR_m (v := 0) h.1)).2.2.2
/-- an order more -/
theorem Q_put {cv : CV} {c : KC} (h : QR cv c) {M p f n : Nat} (hM : c.1 1 = nI M) (hM2 : M < 12) (hp : p < 6) (hf : f < 24) (hn1 : 1 ≤ n) (hn2 : n < 7) : QR (k_X5_put cv (nI p) (nI f) (nI n)).2.2 (psh c (adS c.1 M 1 (nI p) (nI f) (nI n))) ∧ aX (k_X5_put cv (nI p) (nI f) (nI n)) = nI M := by
  have hg := T_put h.1 (nI p) (nI f) (nI n)
  unfold k_X6_put at hg
  have b1 : ¬ k_X6_isPipe (nI p) = 0 := (by decide +kernel : ∀ p, p < 6 → ¬ k_X6_isPipe (nI p) = 0) p hp
  have b2 : ¬ k_X6_isBar (nI f) = 0 := (by decide +kernel : ∀ p, p < 24 → ¬ k_X6_isBar (nI p) = 0) f hf
  have b3 : ¬ k_X6_in ((nI n).toInt64) 1 6 = 0 := (by decide +kernel : ∀ n, n < 7 → 1 ≤ n → ¬ k_X6_in ((nI n).toInt64) 1 6 = 0) n hn2 hn1
  have hlt : ¬ (12 : Int32) ≤ nI M := fun q => absurd ((m12 (by omega)).mp q) (by omega)
  rw [if_neg b1, if_neg b2, if_neg b3, nm1, hM, if_neg hlt, rf_0] at hg
  dsimp only at hg
  obtain ⟨-, a2, -⟩ := op_put (QR_R h) hM hM2 hp hf hn1 hn2
  rw [if_pos p00, rem_c h, a2] at hg
  exact Q_act (by decide) h hg
theorem Q_pull {cv : CV} {c : KC} (h : QR cv c) {M p f : Nat} (hM : c.1 1 = nI M) (hM2 : M < 12) (hp : p < 6) (hf : f < 24) : QR (k_X5_pull cv (nI p) (nI f)).2.2 (psh c (adS c.1 M 0 (nI p) (nI f) 0)) ∧ aX (k_X5_pull cv (nI p) (nI f)) = nI M := by
  have hg := T_pull h.1 (nI p) (nI f)
  unfold k_X6_pull at hg
  have b1 : ¬ k_X6_isPipe (nI p) = 0 := (by decide +kernel : ∀ p, p < 6 → ¬ k_X6_isPipe (nI p) = 0) p hp
  have b2 : ¬ k_X6_isBar (nI f) = 0 := (by decide +kernel : ∀ p, p < 24 → ¬ k_X6_isBar (nI p) = 0) f hf
  have hlt : ¬ (12 : Int32) ≤ nI M := fun q => absurd ((m12 (by omega)).mp q) (by omega)
  rw [if_neg b1, if_neg b2, nm1, hM, if_neg hlt, rf_0] at hg
  dsimp only at hg
  obtain ⟨-, a2, -⟩ := op_pull (QR_R h) hM hM2 hp hf
  rw [if_pos p00, rem_c h, a2] at hg
  exact Q_act (by decide) h hg
/-- what is refused by its arguments, or for want of room -/
theorem Q_put_x {cv : CV} {c : KC} (h : QR cv c) {vp vb vn : Int32} (hx : k_X6_isPipe vp = 0 ∨ k_X6_isBar vb = 0) : QR (k_X5_put cv vp vb vn).2.2 c ∧ aX (k_X5_put cv vp vb vn) = -9999001 := by
  have hg := T_put h.1 vp vb vn
  unfold k_X6_put at hg
  have hh : AG [IOB, IAE, ISE] (k_X5_put cv vp vb vn) (0, m_s (nmv c) 0 1) := by
    by_cases h1 : k_X6_isPipe vp = 0
    · rw [if_pos h1, rf_1] at hg
      dsimp only at hg
      rw [if_neg n10] at hg
      exact hg
    · rw [if_neg h1, if_pos (hx.resolve_left h1), rf_1] at hg
      dsimp only at hg
      rw [if_neg n10] at hg
      exact hg
  exact ⟨Q_read h.2 hh SM_s, AG_n (A := IOB) hh (by decide) (by decide) s0_0⟩
theorem Q_put_a {cv : CV} {c : KC} (h : QR cv c) {vp vb vn : Int32} (h1 : ¬ k_X6_isPipe vp = 0) (h2 : ¬ k_X6_isBar vb = 0) (h3 : k_X6_in (vn.toInt64) 1 6 = 0) : QR (k_X5_put cv vp vb vn).2.2 c ∧ aX (k_X5_put cv vp vb vn) = -9999002 := by
  have hg := T_put h.1 vp vb vn
  unfold k_X6_put at hg
  rw [if_neg h1, if_neg h2, if_pos h3, rf_2] at hg
  dsimp only at hg
  rw [if_neg n10] at hg
  exact ⟨Q_read h.2 hg SM_s, AG_n (A := IAE) hg (by decide) (by decide) s0_0⟩
theorem Q_put_s {cv : CV} {c : KC} (h : QR cv c) {vp vb vn : Int32} (h1 : ¬ k_X6_isPipe vp = 0) (h2 : ¬ k_X6_isBar vb = 0) (h3 : ¬ k_X6_in (vn.toInt64) 1 6 = 0) (h4 : c.1 1 = nI 12) : QR (k_X5_put cv vp vb vn).2.2 c ∧ aX (k_X5_put cv vp vb vn) = -9999003 := by
  have hg := T_put h.1 vp vb vn
  unfold k_X6_put at hg
  rw [if_neg h1, if_neg h2, if_neg h3, nm1, h4, if_pos (show (12 : Int32) ≤ nI 12 by decide), rf_3] at hg
  dsimp only at hg
  rw [if_neg n10] at hg
  exact ⟨Q_read h.2 hg SM_s, AG_n (A := ISE) hg (by decide) (by decide) s0_0⟩
theorem Q_pull_x {cv : CV} {c : KC} (h : QR cv c) {vp vb : Int32} (hx : k_X6_isPipe vp = 0 ∨ k_X6_isBar vb = 0) : QR (k_X5_pull cv vp vb).2.2 c ∧ aX (k_X5_pull cv vp vb) = -9999001 := by
  have hg := T_pull h.1 vp vb
  unfold k_X6_pull at hg
  have hh : AG [IOB, ISE] (k_X5_pull cv vp vb) (0, m_s (nmv c) 0 1) := by
    by_cases h1 : k_X6_isPipe vp = 0
    · rw [if_pos h1, rf_1] at hg
      dsimp only at hg
      rw [if_neg n10] at hg
      exact hg
    · rw [if_neg h1, if_pos (hx.resolve_left h1), rf_1] at hg
      dsimp only at hg
      rw [if_neg n10] at hg
      exact hg
  exact ⟨Q_read h.2 hh SM_s, AG_n (A := IOB) hh (by decide) (by decide) s0_0⟩
theorem Q_pull_s {cv : CV} {c : KC} (h : QR cv c) {vp vb : Int32} (h1 : ¬ k_X6_isPipe vp = 0) (h2 : ¬ k_X6_isBar vb = 0) (h4 : c.1 1 = nI 12) : QR (k_X5_pull cv vp vb).2.2 c ∧ aX (k_X5_pull cv vp vb) = -9999003 := by
  have hg := T_pull h.1 vp vb
  unfold k_X6_pull at hg
  rw [if_neg h1, if_neg h2, nm1, h4, if_pos (show (12 : Int32) ≤ nI 12 by decide), rf_2] at hg
  dsimp only at hg
  rw [if_neg n10] at hg
  exact ⟨Q_read h.2 hg SM_s, AG_n (A := ISE) hg (by decide) (by decide) s0_0⟩
theorem Q_cancel {cv : CV} {c : KC} (h : QR cv c) {M k : Nat} (hM : c.1 1 = nI M) (hM2 : M ≤ 12) (hk : k < M) : QR (k_X5_cancel cv (nI k)).2.2 (psh c (k_X6_dropOrder c.1 (nI k))) ∧ aX (k_X5_cancel cv (nI k)) = nI (M - 1) := by
  have hg := T_cancel h.1 (nI k)
  unfold k_X6_cancel at hg
  have b1 : ¬ k_X6_isOrder c.1 (nI k) = 0 := by
    rcases oO (QR_R h) (nI k) with ⟨q1, q2⟩ | ⟨q1, q2, -⟩
    · unfold k_X6_isOrder at q2
      rw [hM, in_z] at q2
      exact absurd (by rw [nI_toInt (by omega)]; have e0 : (0 : Int64).toInt = 0 := rfl; rw [e0, show nI M - 1 = nI (M - 1) from nI_sub (a := M) (b := 1) (by omega), Int32.toInt_toInt64, nI_toInt (by omega)]; omega) q2
    · exact q2
  rw [nm1, if_neg b1, rf_0] at hg
  dsimp only at hg
  obtain ⟨o2, -, a2, -⟩ := op_can (QR_R h) hM hM2 hk
  rw [if_pos p00, rem_c h, a2] at hg
  exact Q_act (by decide) h hg
theorem Q_cancel_x {cv : CV} {c : KC} (h : QR cv c) {vk : Int32} (h1 : k_X6_isOrder c.1 vk = 0) : QR (k_X5_cancel cv vk).2.2 c ∧ aX (k_X5_cancel cv vk) = -9999001 := by
  have hg := T_cancel h.1 vk
  unfold k_X6_cancel at hg
  rw [nm1, if_pos h1, rf_1] at hg
  dsimp only at hg
  rw [if_neg n10] at hg
  exact ⟨Q_read h.2 hg SM_s, AG_n (A := IOB) hg (by decide) (by decide) s0_0⟩
theorem Q_ticks {cv : CV} {c : KC} (h : QR cv c) {v : Nat} (h1 : 1 ≤ v) (h2 : v ≤ 99) : ∃ d, d ≤ 693 ∧ QR (k_X5_ticks cv (nI v)).2.2 (psh c (itS v c.1)) ∧ aX (k_X5_ticks cv (nI v)) = nI d := by
  have hg := T_ticks h.1 (nI v)
  unfold k_X6_ticks at hg
  have b1 : ¬ k_X6_in ((nI v).toInt64) 1 99 = 0 := (by decide +kernel : ∀ v, v ≤ 99 → 1 ≤ v → ¬ k_X6_in ((nI v).toInt64) 1 99 = 0) v h2 h1
  rw [if_neg b1, rf_0] at hg
  dsimp only at hg
  obtain ⟨d, hd, -, a2, -⟩ := op_play (QR_R h) h1 h2
  rw [if_pos p00, rem_c h, a2] at hg
  exact ⟨d, hd, Q_act (by decide) h hg⟩
theorem Q_ticks_x {cv : CV} {c : KC} (h : QR cv c) {v : Int32} (h1 : k_X6_in (v.toInt64) 1 99 = 0) : QR (k_X5_ticks cv v).2.2 c ∧ aX (k_X5_ticks cv v) = -9999002 := by
  have hg := T_ticks h.1 v
  unfold k_X6_ticks at hg
  rw [if_pos h1, rf_1] at hg
  dsimp only at hg
  rw [if_neg n10] at hg
  exact ⟨Q_read h.2 hg SM_s, AG_n (A := IAE) hg (by decide) (by decide) s0_0⟩
theorem Q_set {cv : CV} {c : KC} (h : QR cv c) {w v : Nat} (hok : sOK w v) : (∃ a, a ≤ 60 ∧ c.1 (12 + w) = nI a) ∧ QR (k_X5_set cv (nI w) (nI v)).2.2 (psh c (va_up c.1 (12 + w) (nI v))) ∧ aX (k_X5_set cv (nI w) (nI v)) = c.1 (12 + w) := by
  have hg := T_set h.1 (nI w) (nI v)
  unfold k_X6_set at hg
  obtain ⟨-, a2, -, a4⟩ := op_set (QR_R h) hok
  have b1 : ¬ k_X6_isSetting (nI w) (nI v) = 0 := by
    rcases sS (nI w) (nI v) with ⟨q1, q2⟩ | ⟨q1, q2, -⟩
    · rw [sv_y hok] at q1; exact absurd q1 (by decide)
    · exact q2
  rw [if_neg b1, rf_0] at hg
  dsimp only at hg
  rw [if_pos p00, rem_c h, a2] at hg
  exact ⟨a4, Q_act (by decide) h hg⟩
theorem Q_set_x {cv : CV} {c : KC} (h : QR cv c) {w v : Int32} (h1 : k_X6_isSetting w v = 0) : QR (k_X5_set cv w v).2.2 c ∧ aX (k_X5_set cv w v) = -9999002 := by
  have hg := T_set h.1 w v
  unfold k_X6_set at hg
  rw [if_pos h1, rf_1] at hg
  dsimp only at hg
  rw [if_neg n10] at hg
  exact ⟨Q_read h.2 hg SM_s, AG_n (A := IAE) hg (by decide) (by decide) s0_0⟩
theorem Q_undo {cv : CV} {c : KC} (h : QR cv c) (hc : c.2.1.1 ≠ 0) : QR (k_X5_undo cv).2.2 (unc c) ∧ aX (k_X5_undo cv) = nI (c.2.1.1 - 1) := by
  have hg := T_undo h.1
  unfold k_X6_undo at hg
  have hle := h.2
  have e2 : (nmv c).1 2 = nI c.2.1.1 := rfl
  have e3 : (m_s (nmv c) 0 0).1 2 = nI c.2.1.1 := rfl
  rw [e2, if_neg (nI_ne0 (by omega) (by omega)), rf_0] at hg
  dsimp only at hg
  rw [if_pos p00, e3, show nI c.2.1.1 - 1 = nI (c.2.1.1 - 1) from nI_sub (a := c.2.1.1) (b := 1) (by omega), show (217 * nI (c.2.1.1 - 1) : Int32) = nI (217 * (c.2.1.1 - 1)) from nI_mul 217 (c.2.1.1 - 1)] at hg
  unfold kbind at hg
  have kp : ∀ i, (k_X6_copyState ((m_s (nmv c) 0 0).2 3) ((m_s (nmv c) 0 0).2 1) (nI (217 * (c.2.1.1 - 1))) 0) i = if 0 ≤ i ∧ i < 0 + 217 then (m_s (nmv c) 0 0).2 3 (217 * (c.2.1.1 - 1) + (i - 0)) else (m_s (nmv c) 0 0).2 1 i := fun i => cps_at (F := 217 * (c.2.1.1 - 1)) (T := 0) (by omega) (by omega) i
  obtain ⟨Y, hY⟩ : ∃ Y, Y = k_X6_copyState ((m_s (nmv c) 0 0).2 3) ((m_s (nmv c) 0 0).2 1) (nI (217 * (c.2.1.1 - 1))) 0 := ⟨_, rfl⟩
  rw [← hY] at hg kp
  clear hY
  refine ⟨TR_nm hg.1 rfl (fun i hi => ?_) rfl (show c.2.1.1 - 1 ≤ 14 by omega) (fun j hj i hi => ?_) (fun i _ => rfl) (fun i hi _ q hq => (nm4 (c := c) hq).symm), AG_0 (by decide) hg rfl⟩
  · show c.2.1.2 0 i = Y i
    rw [kp, if_pos (by omega), Nat.sub_zero, show (m_s (nmv c) 0 0).2 3 = (nmv c).2 3 from rfl, nm3 hi]
    exact congrFun (congrArg c.2.1.2 (by omega)) i
  · have hj : j < c.2.1.1 - 1 := hj
    show c.2.1.2 (c.2.1.1 - 1 - 1 - j + 1) i = (nmv c).2 3 (217 * j + i)
    rw [nm3 hi]
    exact congrFun (congrArg c.2.1.2 (by omega)) i
theorem Q_undo_x {cv : CV} {c : KC} (h : QR cv c) (hc : c.2.1.1 = 0) : QR (k_X5_undo cv).2.2 c ∧ aX (k_X5_undo cv) = -9999003 := by
  have hg := T_undo h.1
  unfold k_X6_undo at hg
  have e2 : (nmv c).1 2 = nI c.2.1.1 := rfl
  rw [e2, hc, if_pos (show nI 0 = 0 from rfl), rf_1] at hg
  dsimp only at hg
  rw [if_neg n10] at hg
  exact ⟨Q_read h.2 hg SM_s, AG_n (A := ISE) hg (by decide) (by decide) s0_0⟩
-- ---------------------------------------------------------------- slots
def svc (c : KC) (k : Nat) : KC := (c.1, c.2.1, va_up c.2.2.1 k 1, va_up c.2.2.2 k c.1)
theorem in01k : ∀ k, k < 2 → ¬ k_X6_in ((nI k).toInt64) 0 1 = 0 := by decide +kernel
theorem Q_save {cv : CV} {c : KC} (h : QR cv c) {k : Nat} (hk : k < 2) : QR (k_X5_save cv (nI k)).2.2 (svc c k) ∧ aX (k_X5_save cv (nI k)) = c.1 5 := by
  have hg := T_save h.1 (nI k)
  unfold k_X6_save at hg
  rw [if_neg (in01k k hk), rf_0] at hg
  dsimp only at hg
  rw [if_pos p00, show (217 * nI k : Int32) = nI (217 * k) from nI_mul 217 k, nI_clamp (by omega)] at hg
  unfold kbind at hg
  have kp : ∀ i, (k_X6_copyState ((m_s (nmv c) 0 0).2 1) ((m_s (nmv c) 0 0).2 4) 0 (nI (217 * k))) i = if 217 * k ≤ i ∧ i < 217 * k + 217 then (m_s (nmv c) 0 0).2 1 (0 + (i - 217 * k)) else (m_s (nmv c) 0 0).2 4 i := fun i => cps_at (F := 0) (T := 217 * k) (by omega) (by omega) i
  obtain ⟨Y, hY⟩ : ∃ Y, Y = k_X6_copyState ((m_s (nmv c) 0 0).2 1) ((m_s (nmv c) 0 0).2 4) 0 (nI (217 * k)) := ⟨_, rfl⟩
  rw [← hY] at hg kp
  clear hY
  refine ⟨TR_nm hg.1 rfl (fun i hi => rfl) rfl h.2 (fun j hj i hi => (nm3 hi).symm) (fun i _ => rfl) (fun i hi _ q hq => ?_), AG_0 (by decide) hg rfl⟩
  show (va_up c.2.2.2 k c.1) i q = Y (217 * i + q)
  rw [kp]
  by_cases hik : i = k
  · subst hik
    rw [va_eq, if_pos (by omega)]
    exact congrArg c.1 (by omega)
  · rw [va_ne hik, if_neg (by omega)]
    exact (nm4 hq).symm
theorem Q_save_x {cv : CV} {c : KC} (h : QR cv c) {k : Int32} (h1 : k_X6_in (k.toInt64) 0 1 = 0) : QR (k_X5_save cv k).2.2 c ∧ aX (k_X5_save cv k) = -9999001 := by
  have hg := T_save h.1 k
  unfold k_X6_save at hg
  rw [if_pos h1, rf_1] at hg
  dsimp only at hg
  rw [if_neg n10] at hg
  exact ⟨Q_read h.2 hg SM_s, AG_n (A := IOB) hg (by decide) (by decide) s0_0⟩
def rsc (c : KC) (k : Nat) : KC := (c.2.2.2 k, (0, c.2.1.2), c.2.2)
theorem Q_restore {cv : CV} {c : KC} (h : QR cv c) {k : Nat} (hk : k < 2) (hs : c.2.2.1 k = 1) : QR (k_X5_restore cv (nI k)).2.2 (rsc c k) ∧ aX (k_X5_restore cv (nI k)) = c.2.2.2 k 5 := by
  have hg := T_restore h.1 (nI k)
  unfold k_X6_restore at hg
  rw [if_neg (in01k k hk), nI_clamp (by omega), show (nmv c).2 5 = c.2.2.1 from rfl, hs, if_neg n10, rf_0] at hg
  dsimp only at hg
  rw [if_pos p00, show (217 * nI k : Int32) = nI (217 * k) from nI_mul 217 k] at hg
  unfold kbind at hg
  have kp : ∀ i, (k_X6_copyState ((m_s (nmv c) 0 0).2 4) ((m_s (nmv c) 0 0).2 1) (nI (217 * k)) 0) i = if 0 ≤ i ∧ i < 0 + 217 then (m_s (nmv c) 0 0).2 4 (217 * k + (i - 0)) else (m_s (nmv c) 0 0).2 1 i := fun i => cps_at (F := 217 * k) (T := 0) (by omega) (by omega) i
  obtain ⟨Y, hY⟩ : ∃ Y, Y = k_X6_copyState ((m_s (nmv c) 0 0).2 4) ((m_s (nmv c) 0 0).2 1) (nI (217 * k)) 0 := ⟨_, rfl⟩
  rw [← hY] at hg kp
  clear hY
  have hY : ∀ i, i < 217 → c.2.2.2 k i = Y i := fun i hi => by
    rw [kp, if_pos (by omega), Nat.sub_zero, show (m_s (nmv c) 0 0).2 4 = (nmv c).2 4 from rfl, nm4 hi]
  refine ⟨TR_nm hg.1 rfl hY rfl (Nat.zero_le _) (fun j hj i hi => absurd hj (Nat.not_lt_zero j)) (fun i _ => rfl) (fun i hi _ q hq => (nm4 (c := c) hq).symm), (AG_0 (by decide) hg rfl).trans (hY 5 (by omega)).symm⟩
theorem Q_restore_s {cv : CV} {c : KC} (h : QR cv c) {k : Nat} (hk : k < 2) (hs : c.2.2.1 k = 0) : QR (k_X5_restore cv (nI k)).2.2 c ∧ aX (k_X5_restore cv (nI k)) = -9999003 := by
  have hg := T_restore h.1 (nI k)
  unfold k_X6_restore at hg
  rw [if_neg (in01k k hk), nI_clamp (by omega), show (nmv c).2 5 = c.2.2.1 from rfl, hs, if_pos p00, rf_2] at hg
  dsimp only at hg
  rw [if_neg n10] at hg
  exact ⟨Q_read h.2 hg SM_s, AG_n (A := ISE) hg (by decide) (by decide) s0_0⟩
theorem Q_restore_x {cv : CV} {c : KC} (h : QR cv c) {k : Int32} (h1 : k_X6_in (k.toInt64) 0 1 = 0) : QR (k_X5_restore cv k).2.2 c ∧ aX (k_X5_restore cv k) = -9999001 := by
  have hg := T_restore h.1 k
  unfold k_X6_restore at hg
  rw [if_pos h1, rf_1] at hg
  dsimp only at hg
  rw [if_neg n10] at hg
  exact ⟨Q_read h.2 hg SM_s, AG_n (A := IOB) hg (by decide) (by decide) s0_0⟩
theorem Q_slot {cv : CV} {c : KC} (h : QR cv c) {k : Nat} (hk : k < 2) : c.2.2.1 k = 0 ∨ c.2.2.1 k = 1 := by
  rcases h.1.2.2.2.2.2 k hk with ⟨-, z⟩ | ⟨-, z, -⟩
  · exact Or.inl z
  · exact Or.inr z
-- ---------------------------------------------------------------- only ever refused
theorem Q_append_x {cv : CV} {c : KC} (h : QR cv c) {k : Int32} (h1 : k_X6_in (k.toInt64) 0 255 = 0) : QR (k_X5_append cv k).2.2 c ∧ aX (k_X5_append cv k) = -9999002 := by
  have hg := T_append h.1 k
  unfold k_X6_append at hg
  rw [if_pos h1, rf_1] at hg
  dsimp only at hg
  rw [if_neg n10] at hg
  exact ⟨Q_read h.2 hg SM_s, AG_n (A := IAE) hg (by decide) (by decide) s0_0⟩
