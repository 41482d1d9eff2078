/-! p29: the calls that look ahead, by the core. -/
theorem RC_det {o : OV} {s s2 : KR} {N M N2 M2 : Nat} (h : RC o s N M) (h2 : RC o s2 N2 M2) : ∀ i, i < 37 → s i = s2 i := by
  obtain ⟨⟨⟨a1, -, a3⟩, ⟨b1, -, b3⟩, -⟩, ⟨d1, d2, d3, -⟩, ⟨e1, e2, e3⟩, f0, f1, f2, f3, f4, f6, f7, f8, -⟩ := h
  obtain ⟨⟨⟨a1', -, a3'⟩, ⟨b1', -, b3'⟩, -⟩, ⟨d1', d2', d3', -⟩, ⟨e1', e2', e3'⟩, f0', f1', f2', f3', f4', f6', f7', f8', -⟩ := h2
  intro i hi
  by_cases h15 : 15 ≤ i ∧ i < 25
  · have x := e3 (i - 15) (by omega)
    have y := e3' (i - 15) (by omega)
    rw [show 15 + (i - 15) = i by omega] at x y
    exact x.symm.trans y
  by_cases h25 : 25 ≤ i ∧ i < 31
  · have x := d1 (i - 25) (by omega)
    have y := d1' (i - 25) (by omega)
    rw [show 25 + (i - 25) = i by omega] at x y
    exact x.symm.trans y
  by_cases h31 : 31 ≤ i
  · have x := d2 (i - 31) (by omega)
    have y := d2' (i - 31) (by omega)
    rw [show 31 + (i - 31) = i by omega] at x y
    exact x.symm.trans y
  by_cases h12 : 12 ≤ i ∧ i < 15
  · have x := d3 (i - 12) (by omega)
    have y := d3' (i - 12) (by omega)
    rw [show 12 + (i - 12) = i by omega] at x y
    exact x.symm.trans y
  rcases (show i = 0 ∨ i = 1 ∨ i = 2 ∨ i = 3 ∨ i = 4 ∨ i = 5 ∨ i = 6 ∨ i = 7 ∨ i = 8 ∨ i = 9 ∨ i = 10 ∨ i = 11 by omega) with rfl | rfl | rfl | rfl | rfl | rfl | rfl | rfl | rfl | rfl | rfl | rfl
  · exact a1.trans (a3.symm.trans (a3'.trans a1'.symm))
  · exact b1.trans (b3.symm.trans (b3'.trans b1'.symm))
  · exact f0.symm.trans f0'
  · exact f1.symm.trans f1'
  · exact f2.symm.trans f2'
  · exact f3.symm.trans f3'
  · exact f4.symm.trans f4'
  · exact e2.trans (((e3 0 (by omega)).symm.trans (e3' 0 (by omega))).trans e2'.symm)
  · exact e1.symm.trans e1'
  · exact f6.symm.trans f6'
  · exact f7.symm.trans f7'
  · exact f8.symm.trans f8'
theorem RF_det {o : OV} {s s2 : KR} (h : RF o s) (h2 : RF o s2) : ∀ i, i < 37 → s i = s2 i := by
  obtain ⟨N, M, h, -⟩ := h
  obtain ⟨N2, M2, h2, -⟩ := h2
  exact RC_det h h2
/-- what is true of two rows that are the same on their places -/
theorem it_det {o : OV} {s s2 : KR} (h : RF o s) (e : ∀ i, i < 217 → s2 i = s i) (m : Nat) : ∀ i, i < 37 → itS m s2 i = itS m s i := RF_det (RF_it (RF_s e h) m) (RF_it h m)
-- ---------------------------------------------------------------- a pipe sounds
def snd (s : KR) (p : Nat) : Prop := ((s 7) >>> (nI p &&& 31)) &&& 1 = 1
theorem sd_S {m0 m : MV} {p : Nat} {C : KR} : ∀ (n t : Nat) (s : KR), s = itS (t - 1) C → 1 ≤ t → t ≤ 101 → 101 - t < n → ∃ r s2, k_X6_soundsIn_L36 m0 (nI p) n (nI t) (m_r m 2 s) = (r, m_r m 2 s2) ∧ ((∃ u, t ≤ u ∧ u ≤ 100 ∧ r = nI u ∧ snd (itS u C) p ∧ ∀ w, t ≤ w → w < u → ¬ snd (itS w C) p) ∨ (r = -1 ∧ ∀ w, t ≤ w → w ≤ 100 → ¬ snd (itS w C) p)) := by
  intro n
  induction n with
  | zero => intro t s h h1 h2 h3; omega
  | succ n ih =>
    intro t s h h1 h2 h3
    rw [k_X6_soundsIn_L36]
    by_cases ht : t = 101
    · subst ht
      rw [if_pos (show (100 : Int32) < nI 101 by decide)]
      exact ⟨-1, s, rfl, Or.inr ⟨rfl, fun w h4 h5 => by omega⟩⟩
    have hlt : ¬ (100 : Int32) < nI t := nI_nlt (a := 100) (by omega) (by omega)
    have e2 : (m_r m 2 s).2 2 = s := mr_g
    have e3 : k_X6_tick s = itS t C := by
      rw [h]
      show itS (t - 1 + 1) C = itS t C
      rw [Nat.sub_add_cancel h1]
    rw [if_neg hlt, e2, m_r2, e3]
    by_cases hd : (((itS t C) 7) >>> (nI p &&& 31)) &&& 1 = 1
    · rw [if_pos hd]
      exact ⟨nI t, _, rfl, Or.inl ⟨t, Nat.le_refl _, by omega, rfl, hd, fun w h4 h5 => by omega⟩⟩
    · rw [if_neg hd, nI_1]
      obtain ⟨r, s2, g1, g2⟩ := ih (t + 1) (itS t C) rfl (by omega) (by omega) (by omega)
      refine ⟨r, s2, g1, ?_⟩
      have hw : ∀ w, t ≤ w → ¬ t + 1 ≤ w → ¬ snd (itS w C) p := fun w a b => by rw [show w = t by omega]; exact hd
      rcases g2 with ⟨u, a1, a2, a3, a4, a5⟩ | ⟨a1, a2⟩
      · refine Or.inl ⟨u, by omega, a2, a3, a4, fun w h4 h5 => ?_⟩
        by_cases q : t + 1 ≤ w
        · exact a5 w q h5
        · exact hw w h4 q
      · refine Or.inr ⟨a1, fun w h4 h5 => ?_⟩
        by_cases q : t + 1 ≤ w
        · exact a2 w q h5
        · exact hw w h4 q
def P_snd (r : KR) (p : Nat) (a : Int32) : Prop := (∃ u, 1 ≤ u ∧ u ≤ 100 ∧ a = nI u ∧ snd (itS u r) p ∧ ∀ w, 1 ≤ w → w < u → ¬ snd (itS w r) p) ∨ (a = -1 ∧ ∀ w, 1 ≤ w → w ≤ 100 → ¬ snd (itS w r) p)
theorem Q_sounds {cv : CV} {c : KC} (h : QR cv c) {p : Nat} (hp : p < 6) : QR (k_X5_soundsIn cv (nI p)).2.2 c ∧ P_snd c.1 p (aX (k_X5_soundsIn cv (nI p))) := by
  have hg := T_sounds h.1 (nI p)
  unfold k_X6_soundsIn at hg
  have b1 : ¬ k_X6_isPipe (nI p) = 0 := (by decide +kernel : ∀ p, p < 6 → ¬ k_X6_isPipe (nI p) = 0) p hp
  rw [if_neg b1, rf_0] at hg
  dsimp only at hg
  have hC : ∀ i, i < 217 → k_X6_copyState ((m_s (nmv c) 0 0).2 1) ((m_s (nmv c) 0 0).2 2) 0 0 i = c.1 i := fun i hi => cps_0 hi
  obtain ⟨C, hY⟩ : ∃ C, C = k_X6_copyState ((m_s (nmv c) 0 0).2 1) ((m_s (nmv c) 0 0).2 2) 0 0 := ⟨_, rfl⟩
  rw [← hY] at hg hC
  clear hY
  obtain ⟨r, s2, g1, g2⟩ := sd_S (m0 := nmv c) (m := m_s (nmv c) 0 0) (p := p) (C := C) 101 1 C rfl (by omega) (by omega) (by omega)
  rw [if_pos p00, show (1 : Int32) = nI 1 from rfl, g1] at hg
  have hd : ∀ u, snd (itS u C) p ↔ snd (itS u c.1) p := fun u => by
    unfold snd
    rw [it_det (QR_R h) hC u 7 (by omega)]
  refine ⟨Q_read h.2 hg SM_t, ?_⟩
  rw [show aX (k_X5_soundsIn cv (nI p)) = r from AG_0 (by decide) hg rfl]
  rcases g2 with ⟨u, a1, a2, a3, a4, a5⟩ | ⟨a1, a2⟩
  · exact Or.inl ⟨u, a1, a2, a3, (hd u).mp a4, fun w h4 h5 q => a5 w h4 h5 ((hd w).mpr q)⟩
  · exact Or.inr ⟨a1, fun w h4 h5 q => a2 w h4 h5 ((hd w).mpr q)⟩
theorem Q_sounds_x {cv : CV} {c : KC} (h : QR cv c) {k : Int32} (h1 : k_X6_isPipe k = 0) : QR (k_X5_soundsIn cv k).2.2 c ∧ aX (k_X5_soundsIn cv k) = -9999001 := by
  have hg := T_sounds h.1 k
  unfold k_X6_soundsIn at hg
  rw [if_pos h1, rf_1] at hg
  dsimp only at hg
  rw [if_neg n10] at hg
  exact ⟨Q_read h.2 hg SM_s, AG_n (A := IOB) hg (by decide) (by decide) s0_0⟩
-- ---------------------------------------------------------------- an order is done
def P3 (t : Nat) : WP := fun k M _ _ g => M = 0 ∨ (M = 1 ∧ bgk t k g 0)
theorem P3_C (t : Nat) : WC (P3 t) := by
  refine ⟨fun k M w f g f2 g2 h1 h2 h => ?_, fun k M w f g hk hM h => ?_, fun k M w f g hk hM h => ?_⟩
  · rcases h with h | ⟨h, q, a, b⟩
    · exact Or.inl h
    · exact Or.inr ⟨h, q, a, by rw [← h2 0 (by omega)]; exact b⟩
  · rcases h with h | ⟨h, h3⟩
    · exact Or.inl h
    · refine Or.inr ⟨h, ?_⟩
      have : k = 0 := by omega
      subst this
      exact bgk_inc h3
  · rcases h with h | ⟨h, h3⟩
    · omega
    · exact Or.inl (by omega)
def RM3 (t : Nat) (o : OV) (s : KR) : Prop := ∃ N M, RC o s N M ∧ P3 t 0 M (o.1 9) (wO o) (wS s)
theorem RM3_tick {t : Nat} {o : OV} {s : KR} (h : RM3 t o s) : RM3 (t + 1) (tkC o) (k_X6_tick s) := by
  obtain ⟨N, M, h1, h2⟩ := h
  obtain ⟨N2, M2, h3, h4⟩ := tick_R (P3_C t) h1 h2
  refine ⟨N2, M2, h3, ?_⟩
  rcases h4 with h4 | ⟨h4, q, a, b⟩
  · exact Or.inl h4
  · exact Or.inr ⟨h4, q, by rw [if_pos (by omega)] at a; rw [if_neg (by omega)]; exact a, b⟩
theorem RM3_it {o : OV} {s : KR} (h : RM3 0 o s) : ∀ m, RM3 m (itC m o) (itS m s) := by
  intro m
  induction m with
  | zero => exact h
  | succ m ih => exact RM3_tick ih
theorem lk_3 {mv mx : MV} {vk : Int32} {t : Nat} {o : OV} (ht : t ≤ 100) (h : RM3 t o (mx.2 2)) : k_X6_doneIn_L102 mv vk 13 0 0 mx = 0 ↔ mx.2 2 1 = 0 := by
  obtain ⟨N, M, h1, h2⟩ := h
  have hM := h1.1.2.1.2.1
  have m1 := h1.1.2.1.1
  refine (lk_L hM m1 13 0 0 (Nat.zero_le _) (by omega)).trans ?_
  rw [m1]
  rcases h2 with h2 | ⟨h2, q, a, b⟩
  · subst h2
    exact ⟨fun _ => rfl, fun _ => ⟨rfl, fun j _ hj => absurd hj (Nat.not_lt_zero j)⟩⟩
  · subst h2
    constructor
    · rintro ⟨-, h6⟩
      have b : mx.2 2 (157 + 5 * 0 + 4) = nI (1000 + q) := b
      have h7 := h6 0 (Nat.zero_le _) (by omega)
      rw [if_neg (by omega)] at a
      rw [b] at h7
      exact absurd h7 (nI_nlt (b := 1000) (by omega) (by omega))
    · intro h6
      exact absurd h6 (by decide)
theorem dn_S {m0 m : MV} {vk : Int32} {C : KR} {o : OV} (hC : RM3 0 o C) : ∀ (n t : Nat) (s : KR), s = itS (t - 1) C → 1 ≤ t → t ≤ 101 → 101 - t < n → ∃ r s2, k_X6_doneIn_L84 m0 vk n (nI t) (m_r m 2 s) = (r, m_r m 2 s2) ∧ ((∃ u, t ≤ u ∧ u ≤ 100 ∧ r = nI u ∧ (itS u C) 1 = 0 ∧ ∀ w, t ≤ w → w < u → ¬ (itS w C) 1 = 0) ∨ (r = -1 ∧ ∀ w, t ≤ w → w ≤ 100 → ¬ (itS w C) 1 = 0)) := by
  intro n
  induction n with
  | zero => intro t s h h1 h2 h3; omega
  | succ n ih =>
    intro t s h h1 h2 h3
    rw [k_X6_doneIn_L84]
    by_cases ht : t = 101
    · subst ht
      rw [if_pos (show (100 : Int32) < nI 101 by decide)]
      exact ⟨-1, s, rfl, Or.inr ⟨rfl, fun w h4 h5 => by omega⟩⟩
    have hlt : ¬ (100 : Int32) < nI t := nI_nlt (a := 100) (by omega) (by omega)
    have e2 : (m_r m 2 s).2 2 = s := mr_g
    have e3 : k_X6_tick s = itS t C := by
      rw [h]
      show itS (t - 1 + 1) C = itS t C
      rw [Nat.sub_add_cancel h1]
    rw [if_neg hlt, e2, m_r2, e3]
    have hlk := lk_3 (mv := m0) (mx := m_r m 2 (itS t C)) (vk := vk) (t := t) (o := itC t o) (by omega) (RM3_it hC t)
    have e4 : (m_r m 2 (itS t C)).2 2 = itS t C := mr_g
    rw [e4] at hlk
    by_cases hd : (itS t C) 1 = 0
    · rw [if_pos (hlk.mpr hd)]
      exact ⟨nI t, _, rfl, Or.inl ⟨t, Nat.le_refl _, by omega, rfl, hd, fun w h4 h5 => by omega⟩⟩
    · rw [if_neg (fun q => hd (hlk.mp q)), nI_1]
      obtain ⟨r, s2, g1, g2⟩ := ih (t + 1) (itS t C) rfl (by omega) (by omega) (by omega)
      refine ⟨r, s2, g1, ?_⟩
      have hw : ∀ w, t ≤ w → ¬ t + 1 ≤ w → ¬ (itS w C) 1 = 0 := fun w a b => by rw [show w = t by omega]; exact hd
      rcases g2 with ⟨u, a1, a2, a3, a4, a5⟩ | ⟨a1, a2⟩
      · refine Or.inl ⟨u, by omega, a2, a3, a4, fun w h4 h5 => ?_⟩
        by_cases q : t + 1 ≤ w
        · exact a5 w q h5
        · exact hw w h4 q
      · refine Or.inr ⟨a1, fun w h4 h5 => ?_⟩
        by_cases q : t + 1 ≤ w
        · exact a2 w q h5
        · exact hw w h4 q
def PT : WP := fun _ _ _ _ _ => True
theorem PT_C : WC PT := ⟨fun _ _ _ _ _ _ _ _ _ _ => trivial, fun _ _ _ _ _ _ _ _ => trivial, fun _ _ _ _ _ _ _ _ => trivial⟩
theorem RC_it {o : OV} {s : KR} {N M : Nat} (h : RC o s N M) : ∀ m, ∃ N2 M2, RC (itC m o) (itS m s) N2 M2 := by
  intro m
  induction m with
  | zero => exact ⟨N, M, h⟩
  | succ m ih =>
    obtain ⟨N2, M2, h2⟩ := ih
    obtain ⟨N3, M3, h3, -⟩ := tick_R PT_C h2 trivial
    exact ⟨N3, M3, h3⟩
def P_done (r : KR) (a : Int32) : Prop := (∃ u, 1 ≤ u ∧ u ≤ 100 ∧ a = nI u ∧ (itS u r) 1 = 0 ∧ ∀ w, 1 ≤ w → w < u → ¬ (itS w r) 1 = 0) ∨ (a = -1 ∧ ∀ w, 1 ≤ w → w ≤ 100 → ¬ (itS w r) 1 = 0)
theorem itC_RC {o : OV} {s : KR} {t : Nat} (h : RM3 t o s) : ∃ N M, RC o s N M ∧ M ≤ 1 := by
  obtain ⟨N, M, h1, h2⟩ := h
  exact ⟨N, M, h1, by rcases h2 with h2 | ⟨h2, -⟩ <;> omega⟩
theorem Q_done {cv : CV} {c : KC} (h : QR cv c) (hM : c.1 1 = nI 1) : QR (k_X5_doneIn cv 0).2.2 c ∧ P_done c.1 (aX (k_X5_doneIn cv 0)) := by
  have hg := T_done h.1 0
  unfold k_X6_doneIn at hg
  have b1 : ¬ k_X6_isOrder c.1 0 = 0 := by
    unfold k_X6_isOrder
    rw [hM]
    decide
  rw [nm1, if_neg b1, rf_0] at hg
  dsimp only at hg
  have hC : ∀ i, i < 217 → k_X6_copyState ((m_s (nmv c) 0 0).2 1) ((m_s (nmv c) 0 0).2 2) 0 0 i = c.1 i := fun i hi => cps_0 hi
  obtain ⟨C, hY⟩ : ∃ C, C = k_X6_copyState ((m_s (nmv c) 0 0).2 1) ((m_s (nmv c) 0 0).2 2) 0 0 := ⟨_, rfl⟩
  rw [← hY] at hg hC
  clear hY
  have hrow : (m_r (m_s (nmv c) 0 0) 2 C).2 2 = C := mr_g
  obtain ⟨s2, g1, g2, g3, g4, g5⟩ := mk_L (mv := nmv c) (x := 0) (M := 1) (by omega) (by omega) 13 0 (m_r (m_s (nmv c) 0 0) 2 C) (Nat.zero_le _) (by omega) (by rw [hrow, hC 1 (by omega)]; exact hM)
  rw [hrow] at g2 g3 g4
  obtain ⟨N, M2, hRC, -⟩ := RF_s hC (QR_R h)
  have hMM : M2 = 1 := by
    have := hRC.1.2.1.1
    rw [hC 1 (by omega), hM] at this
    exact ((nI_eq (by omega) (by have := hRC.1.2.1.2.1; omega)).mp this).symm
  subst hMM
  have hRC2 : RC (o_s (cv.2.1 0) 9 0) s2 N 1 := RC_w hRC g2 g3
  have hRM : RM3 0 (o_s (cv.2.1 0) 9 0) s2 := by
    refine ⟨N, 1, hRC2, Or.inr ⟨rfl, 0, Nat.zero_le _, ?_⟩⟩
    show s2 (157 + 5 * 0 + 4) = _
    rw [g5 0 (Nat.zero_le _) (by omega), if_pos rfl]
    rfl
  obtain ⟨N3, M3, hRC3, -⟩ := QR_R h
  have hRC4 : RC (o_s (cv.2.1 0) 9 0) c.1 N3 M3 := RC_w hRC3 (fun _ _ _ _ => rfl) (fun _ _ => rfl)
  have hd : ∀ u, (itS u s2) 1 = (itS u c.1) 1 := fun u => by
    obtain ⟨A1, B1, h1⟩ := RC_it hRC2 u
    obtain ⟨A2, B2, h2⟩ := RC_it hRC4 u
    exact RC_det h1 h2 1 (by omega)
  obtain ⟨r, s3, d1, d2⟩ := dn_S (m0 := nmv c) (m := m_s (nmv c) 0 0) (vk := nI 0) hRM 101 1 s2 rfl (by omega) (by omega) (by omega)
  rw [if_pos p00, show (0 : Int32) = nI 0 from rfl] at hg
  rw [show (0 : Int32) = nI 0 from rfl] at g1
  rw [g1, m_r2, show (1 : Int32) = nI 1 from rfl, show m_s (nmv c) 0 (nI 0) = m_s (nmv c) 0 0 from rfl, d1] at hg
  refine ⟨Q_read h.2 hg SM_t, ?_⟩
  rw [show aX (k_X5_doneIn cv 0) = r from AG_0 (by decide) hg rfl]
  rcases d2 with ⟨u, a1, a2, a3, a4, a5⟩ | ⟨a1, a2⟩
  · exact Or.inl ⟨u, a1, a2, a3, (hd u).symm.trans a4, fun w h4 h5 q => a5 w h4 h5 ((hd w).trans q)⟩
  · exact Or.inr ⟨a1, fun w h4 h5 q => a2 w h4 h5 ((hd w).trans q)⟩
theorem Q_done_x {cv : CV} {c : KC} (h : QR cv c) {k : Int32} (h1 : k_X6_isOrder c.1 k = 0) : QR (k_X5_doneIn cv k).2.2 c ∧ aX (k_X5_doneIn cv k) = -9999001 := by
  have hg := T_done h.1 k
  unfold k_X6_doneIn at hg
  rw [nm1, if_pos h1, rf_1] at hg
  dsimp only at hg
  rw [if_neg n10] at hg
  exact ⟨Q_read h.2 hg SM_s, AG_n (A := IOB) hg (by decide) (by decide) s0_0⟩
-- ---------------------------------------------------------------- the least speed
theorem ls_S {m0 : MV} {c : KC} {o : OV} {v : Nat} (hv1 : 1 ≤ v) (hv2 : v ≤ 99) (h : RF o c.1) : ∀ (n t : Nat) (s : KR), t ≤ 4 → 4 - t < n → ∃ r s2, k_X6_leastSpeed_L28 m0 (nI v) n (nI t) (m_r (m_s (nmv c) 0 0) 2 s) = (r, m_r (m_s (nmv c) 0 0) 2 s2) ∧ ((∃ u, t ≤ u ∧ u ≤ 3 ∧ r = nI u ∧ (itS v (va_up c.1 12 (nI u))) 10 = c.1 10 ∧ ∀ w, t ≤ w → w < u → ¬ (itS v (va_up c.1 12 (nI w))) 10 = c.1 10) ∨ (r = -1 ∧ ∀ w, t ≤ w → w ≤ 3 → ¬ (itS v (va_up c.1 12 (nI w))) 10 = c.1 10)) := by
  intro n
  induction n with
  | zero => intro t s h1 h2; omega
  | succ n ih =>
    intro t s h1 h2
    rw [k_X6_leastSpeed_L28]
    by_cases ht : t = 4
    · subst ht
      rw [if_pos (show (3 : Int32) < nI 4 by decide)]
      exact ⟨-1, s, rfl, Or.inr ⟨rfl, fun w h4 h5 => by omega⟩⟩
    have hlt : ¬ (3 : Int32) < nI t := nI_nlt (a := 3) (by omega) (by omega)
    have e2 : (m_r (m_s (nmv c) 0 0) 2 s).2 2 = s := mr_g
    have e21 : (m_r (m_s (nmv c) 0 0) 2 s).2 1 = c.1 := rfl
    rw [if_neg hlt, e2, e21]
    have hcp : RF o (k_X6_copyState c.1 s 0 0) := RF_s (fun i hi => cps_0 hi) h
    obtain ⟨-, a2, a3, -⟩ := op_set (w := 0) (v := t) hcp (Or.inl ⟨rfl, by omega⟩)
    obtain ⟨-, -, a4, -⟩ := op_set (w := 0) (v := t) h (Or.inl ⟨rfl, by omega⟩)
    rw [show k_X6_change (k_X6_copyState c.1 s 0 0) 0 (nI t) = _ from a2]
    obtain ⟨d, hd, -, b2, b3⟩ := op_play a3 hv1 hv2
    have hq : (itS v (va_up (k_X6_copyState c.1 s 0 0) (12 + 0) (nI t))) 10 = (itS v (va_up c.1 12 (nI t))) 10 := RF_det (RF_it a3 v) (RF_it a4 v) 10 (by omega)
    dsimp only
    rw [b2, m_r2]
    dsimp only
    by_cases hd9 : (itS v (va_up (k_X6_copyState c.1 s 0 0) (12 + 0) (nI t))) 10 = c.1 10
    · rw [if_pos hd9]
      exact ⟨nI t, _, rfl, Or.inl ⟨t, Nat.le_refl _, by omega, rfl, hq.symm.trans hd9, fun w h4 h5 => by omega⟩⟩
    · have hd : ¬ (itS v (va_up c.1 12 (nI t))) 10 = c.1 10 := fun q => hd9 (hq.trans q)
      rw [if_neg hd9, nI_1]
      obtain ⟨r, s2, g1, g2⟩ := ih (t + 1) (itS v (va_up (k_X6_copyState c.1 s 0 0) (12 + 0) (nI t))) (by omega) (by omega)
      refine ⟨r, s2, g1, ?_⟩
      have hw : ∀ w, t ≤ w → ¬ t + 1 ≤ w → ¬ (itS v (va_up c.1 12 (nI w))) 10 = c.1 10 := fun w a b => by rw [show w = t by omega]; exact hd
      rcases g2 with ⟨u, a1, a2, a3, a4, a5⟩ | ⟨a1, a2⟩
      · refine Or.inl ⟨u, by omega, a2, a3, a4, fun w h4 h5 => ?_⟩
        by_cases q : t + 1 ≤ w
        · exact a5 w q h5
        · exact hw w h4 q
      · refine Or.inr ⟨a1, fun w h4 h5 => ?_⟩
        by_cases q : t + 1 ≤ w
        · exact a2 w q h5
        · exact hw w h4 q
def P_least (r : KR) (v : Nat) (a : Int32) : Prop := (∃ u, u ≤ 3 ∧ a = nI u ∧ (itS v (va_up r 12 (nI u))) 10 = r 10 ∧ ∀ w, w < u → ¬ (itS v (va_up r 12 (nI w))) 10 = r 10) ∨ (a = -1 ∧ ∀ w, w ≤ 3 → ¬ (itS v (va_up r 12 (nI w))) 10 = r 10)
theorem Q_least {cv : CV} {c : KC} (h : QR cv c) {v : Nat} (h1 : 1 ≤ v) (h2 : v ≤ 99) : QR (k_X5_leastSpeed cv (nI v)).2.2 c ∧ P_least c.1 v (aX (k_X5_leastSpeed cv (nI v))) := by
  have hg := T_least h.1 (nI v)
  unfold k_X6_leastSpeed at hg
  have b1 : ¬ k_X6_in ((nI v).toInt64) 1 99 = 0 := (by decide +kernel : ∀ v, v ≤ 99 → 1 ≤ v → ¬ k_X6_in ((nI v).toInt64) 1 99 = 0) v h2 h1
  rw [if_neg b1, rf_0] at hg
  dsimp only at hg
  obtain ⟨r, s2, g1, g2⟩ := ls_S (m0 := nmv c) (c := c) h1 h2 (QR_R h) 5 0 ((m_s (nmv c) 0 0).2 2) (by omega) (by omega)
  rw [m_id] at g1
  rw [if_pos p00, show (0 : Int32) = nI 0 from rfl, show m_s (nmv c) 0 (nI 0) = m_s (nmv c) 0 0 from rfl, g1] at hg
  refine ⟨Q_read h.2 hg SM_t, ?_⟩
  rw [show aX (k_X5_leastSpeed cv (nI v)) = r from AG_0 (by decide) hg rfl]
  rcases g2 with ⟨u, a1, a2, a3, a4, a5⟩ | ⟨a1, a2⟩
  · exact Or.inl ⟨u, a2, a3, a4, fun w h5 => a5 w (Nat.zero_le _) h5⟩
  · exact Or.inr ⟨a1, fun w h5 => a2 w (Nat.zero_le _) h5⟩
theorem Q_least_x {cv : CV} {c : KC} (h : QR cv c) {v : Int32} (h1 : k_X6_in (v.toInt64) 1 99 = 0) : QR (k_X5_leastSpeed cv v).2.2 c ∧ aX (k_X5_leastSpeed cv v) = -9999002 := by
  have hg := T_least h.1 v
  unfold k_X6_leastSpeed at hg
  rw [if_pos h1, rf_1] at hg
  dsimp only at hg
  rw [if_neg n10] at hg
  exact ⟨Q_read h.2 hg SM_s, AG_n (A := IAE) hg (by decide) (by decide) s0_0⟩
-- ---------------------------------------------------------------- the fullest bar, room
def ctb (r : KR) (b : Nat) : Nat := fb_ct (fun p => cvs r (gA r 0) p b) 6
theorem fl_S {m0 mw : MV} {o : OV} {N M : Nat} (h : RB o (mw.2 1) N M) : ∀ (n i a : Nat), i ≤ 24 → a < 24 → a < i → 24 - i < n → (∀ b, b < i → fb_ct (fun p => cvs (mw.2 1) N p b) 6 < fb_ct (fun p => cvs (mw.2 1) N p a) 6 ∨ (fb_ct (fun p => cvs (mw.2 1) N p b) 6 = fb_ct (fun p => cvs (mw.2 1) N p a) 6 ∧ a ≤ b)) → ∃ a2, a2 < 24 ∧ k_X6_fullest_L9 m0 n (nI i) (nI a) mw = (nI a2, mw) ∧ ∀ b, b < 24 → fb_ct (fun p => cvs (mw.2 1) N p b) 6 < fb_ct (fun p => cvs (mw.2 1) N p a2) 6 ∨ (fb_ct (fun p => cvs (mw.2 1) N p b) 6 = fb_ct (fun p => cvs (mw.2 1) N p a2) 6 ∧ a2 ≤ b) := by
  intro n
  induction n with
  | zero => intro i a h1 h2 h3 h4; omega
  | succ n ih =>
    intro i a h1 h2 h3 h4 hb
    rw [k_X6_fullest_L9]
    by_cases hi : i = 24
    · subst hi
      rw [if_pos (by decide)]
      exact ⟨a, h2, rfl, hb⟩
    have h24 : ¬ (24 : Int32) ≤ nI i := nI_ge (b := 24) (by omega) (by omega)
    obtain ⟨-, c2⟩ := chE (o := o) h.1.1 h.1.2.1 h.2.2.2.1 h.2.2.2.2.2.1 (show i < 24 by omega)
    obtain ⟨-, c4⟩ := chE (o := o) h.1.1 h.1.2.1 h.2.2.2.1 h.2.2.2.2.2.1 h2
    have l1 : fb_ct (fun j => cvs (mw.2 1) N j i) 6 ≤ 6 := fb_ct_le _ _
    have l2 : fb_ct (fun j => cvs (mw.2 1) N j a) 6 ≤ 6 := fb_ct_le _ _
    rw [if_neg h24, bitsE c2, bitsE c4, nI_1]
    by_cases hq : fb_ct (fun j => cvs (mw.2 1) N j i) 6 ≤ fb_ct (fun j => cvs (mw.2 1) N j a) 6
    · rw [if_pos (nI_le hq (by omega))]
      refine ih (i + 1) a (by omega) h2 (by omega) (by omega) (fun b hb2 => ?_)
      by_cases hbi : b = i
      · subst hbi; omega
      · exact hb b (by omega)
    · rw [if_neg (nI_ge (by omega) (by omega))]
      refine ih (i + 1) i (by omega) (by omega) (by omega) (by omega) (fun b hb2 => ?_)
      by_cases hbi : b = i
      · subst hbi; omega
      · have := hb b (by omega)
        omega
def P_full (r : KR) (a : Nat) : Prop := a < 24 ∧ ∀ b, b < 24 → ctb r b < ctb r a ∨ (ctb r b = ctb r a ∧ a ≤ b)
theorem Q_full {cv : CV} {c : KC} (h : QR cv c) : ∃ a, P_full c.1 a ∧ k_X5_fullest cv = nI a := by
  obtain ⟨N, M, hRC, -⟩ := QR_R h
  obtain ⟨a, a1, a2, a3⟩ := fl_S (m0 := nmv c) (mw := m_s (nmv c) 0 0) (o := cv.2.1 0) hRC.1 24 1 0 (by omega) (by omega) (by omega) (by omega) (fun b hb => by
    have : b = 0 := by omega
    subst this; omega)
  refine ⟨a, ⟨a1, fun b hb => ?_⟩, ?_⟩
  · unfold ctb
    rw [RF_gN hRC]
    exact a3 b hb
  · have e : k_X6_fullest (nmv c) = (nI a, m_s (nmv c) 0 0) := a2
    rw [(T_full h.1).2, e]
theorem rm_S {m0 mw : MV} {o : OV} {p n9 N M : Nat} (h : RB o (mw.2 1) N M) (hp : p < 6) (hn : n9 < 7) : ∀ (n i : Nat), i ≤ 24 → 24 - i < n → (∀ j, j < i → tkn (mw.2 1) N p j n9 = true) → ∃ r, k_X6_room_L39 m0 (nI p) (nI n9) n (nI i) mw = (r, mw) ∧ ((∃ b, b < 24 ∧ r = nI b ∧ tkn (mw.2 1) N p b n9 = false ∧ ∀ j, j < b → tkn (mw.2 1) N p j n9 = true) ∨ (r = -1 ∧ ∀ j, j < 24 → tkn (mw.2 1) N p j n9 = true)) := by
  intro n
  induction n with
  | zero => intro i h1 h3; omega
  | succ n ih =>
    intro i h1 h3 h4
    rw [k_X6_room_L39]
    by_cases hi : i = 24
    · subst hi
      rw [if_pos (by decide)]
      exact ⟨-1, rfl, Or.inr ⟨rfl, h4⟩⟩
    have h24 : ¬ (24 : Int32) ≤ nI i := nI_ge (b := 24) (by omega) (by omega)
    rw [if_neg h24, isT h.1.1 h.1.2.1 h.2.2.2.1 hp (show i < 24 by omega) hn, nI_1]
    cases hq : tkn (mw.2 1) N p i n9
    · rw [b2_f, if_pos p00]
      exact ⟨nI i, rfl, Or.inl ⟨i, by omega, rfl, hq, h4⟩⟩
    · rw [b2_t, if_neg n10]
      refine ih (i + 1) (by omega) (by omega) (fun j hj => ?_)
      by_cases hji : j = i
      · subst hji; exact hq
      · exact h4 j (by omega)
def P_room (r : KR) (p n : Nat) (a : Int32) : Prop := (∃ b, b < 24 ∧ a = nI b ∧ tkn r (gA r 0) p b n = false ∧ ∀ j, j < b → tkn r (gA r 0) p j n = true) ∨ (a = -1 ∧ ∀ j, j < 24 → tkn r (gA r 0) p j n = true)
theorem Q_room {cv : CV} {c : KC} (h : QR cv c) {p n : Nat} (hp : p < 6) (hn1 : 1 ≤ n) (hn2 : n < 7) : QR (k_X5_room cv (nI p) (nI n)).2.2 c ∧ P_room c.1 p n (aX (k_X5_room cv (nI p) (nI n))) := by
  have hg := T_room h.1 (nI p) (nI n)
  unfold k_X6_room at hg
  have b1 : ¬ k_X6_isPipe (nI p) = 0 := (by decide +kernel : ∀ p, p < 6 → ¬ k_X6_isPipe (nI p) = 0) p hp
  have b3 : ¬ k_X6_in ((nI n).toInt64) 1 6 = 0 := (by decide +kernel : ∀ n, n < 7 → 1 ≤ n → ¬ k_X6_in ((nI n).toInt64) 1 6 = 0) n hn2 hn1
  rw [if_neg b1, if_neg b3, rf_0] at hg
  dsimp only at hg
  obtain ⟨N, M, hRC, -⟩ := QR_R h
  obtain ⟨r, g1, g2⟩ := rm_S (m0 := nmv c) (mw := m_s (nmv c) 0 0) (o := cv.2.1 0) (p := p) (n9 := n) hRC.1 hp hn2 25 0 (by omega) (by omega) (fun j hj => absurd hj (Nat.not_lt_zero j))
  rw [if_pos p00, show k_X6_room_L39 (nmv c) (nI p) (nI n) 25 0 (m_s (nmv c) 0 0) = (r, m_s (nmv c) 0 0) from g1] at hg
  refine ⟨Q_read h.2 hg SM_s, ?_⟩
  rw [show aX (k_X5_room cv (nI p) (nI n)) = r from AG_0 (by decide) hg s0_0]
  unfold P_room
  rw [RF_gN hRC]
  exact g2
theorem Q_room_x {cv : CV} {c : KC} (h : QR cv c) {k n : Int32} (h1 : k_X6_isPipe k = 0) : QR (k_X5_room cv k n).2.2 c ∧ aX (k_X5_room cv k n) = -9999001 := by
  have hg := T_room h.1 k n
  unfold k_X6_room at hg
  rw [if_pos h1, rf_1] at hg
  dsimp only at hg
  rw [if_neg n10] at hg
  exact ⟨Q_read h.2 hg SM_s, AG_n (A := IOB) hg (by decide) (by decide) s0_0⟩
theorem Q_room_a {cv : CV} {c : KC} (h : QR cv c) {k n : Int32} (h1 : ¬ k_X6_isPipe k = 0) (h2 : k_X6_in (n.toInt64) 1 6 = 0) : QR (k_X5_room cv k n).2.2 c ∧ aX (k_X5_room cv k n) = -9999002 := by
  have hg := T_room h.1 k n
  unfold k_X6_room at hg
  rw [if_neg h1, if_pos h2, rf_2] at hg
  dsimp only at hg
  rw [if_neg n10] at hg
  exact ⟨Q_read h.2 hg SM_s, AG_n (A := IAE) hg (by decide) (by decide) s0_0⟩
-- ---------------------------------------------------------------- scripts
theorem Q_sim {cv : CV} {c : KC} (h : QR cv c) (x : Int64) {n : Nat} (h1 : 1 ≤ n) (h2 : n ≤ 60) : QR (k_X5_simulate cv x (nI n)).2.2 c ∧ aX (k_X5_simulate cv x (nI n)) = (k_X6_simulate (nmv c) x (nI n)).1 := by
  have hg := T_sim h.1 x (nI n)
  have b1 : ¬ k_X6_in ((nI n).toInt64) 1 60 = 0 := (by decide +kernel : ∀ v, v ≤ 60 → 1 ≤ v → ¬ k_X6_in ((nI v).toInt64) 1 60 = 0) n h2 h1
  unfold k_X6_simulate at hg ⊢
  rw [if_neg b1, rf_0] at hg ⊢
  dsimp only at hg ⊢
  rw [if_pos p00] at hg ⊢
  have hcp : RF (k_X1_copyFrom (cv.2.1 2) (cv.2.1 0)) (k_X6_copyState ((m_s (nmv c) 0 0).2 1) ((m_s (nmv c) 0 0).2 2) 0 0) := copy_R (RF_s (fun i hi => cps_0 hi) (QR_R h))
  obtain ⟨r, o3, s3, -, d2, -⟩ := sim_L (c0 := cv) (m0 := nmv c) (vs := x) h.1 h2 61 0 x _ _ hcp (Nat.zero_le _) (by omega)
  rw [show (nI 0 : Int32) = 0 from rfl] at d2
  rw [d2] at hg ⊢
  exact ⟨Q_read h.2 hg SM_t, AG_0 (by decide) hg rfl⟩
theorem Q_sim_x {cv : CV} {c : KC} (h : QR cv c) (x : Int64) {v : Int32} (h1 : k_X6_in (v.toInt64) 1 60 = 0) : QR (k_X5_simulate cv x v).2.2 c ∧ aX (k_X5_simulate cv x v) = -9999002 := by
  have hg := T_sim h.1 x v
  unfold k_X6_simulate at hg
  rw [if_pos h1, rf_1] at hg
  dsimp only at hg
  rw [if_neg n10] at hg
  exact ⟨Q_read h.2 hg SM_s, AG_n (A := IAE) hg (by decide) (by decide) s0_0⟩
theorem Q_script_0 {cv : CV} {c : KC} (h : QR cv c) (x : Int64) : QR (k_X5_runScript cv 0 x).2.2 c ∧ aX (k_X5_runScript cv 0 x) = -9999002 := by
  have hg := T_script h.1 0 x
  rw [sc_bad (by decide)] at hg
  exact ⟨Q_read h.2 hg SM_s, AG_n (A := IAE) hg (by decide) (by decide) s0_0⟩
theorem Q_script_1 {cv : CV} {c : KC} (h : QR cv c) {x : Int64} (hx : 100000 ≤ x.toInt) : QR (k_X5_runScript cv 1 x).2.2 c ∧ aX (k_X5_runScript cv 1 x) = -9999002 := by
  have hg := T_script h.1 1 x
  have hR : k_X6_runScript (nmv c) 1 x = scE (nmv c) (nI 1) x (x_pw 1) := sc_pw (mv := nmv c) (vs := x) (v := 1) (by omega) 4 0 (Nat.zero_le _) (by omega)
  have ep : (x_pw 1 - 1).toInt = 99999 := by decide +kernel
  have e0 : (0 : Int64).toInt = 0 := rfl
  have hE : scE (nmv c) (nI 1) x (x_pw 1) = (0, m_s (nmv c) 0 1) := by
    unfold scE
    rw [if_neg (by decide), if_pos (in64.mpr (by rw [ep]; omega))]
  rw [hR, hE] at hg
  exact ⟨Q_read h.2 hg SM_s, AG_n (A := IAE) hg (by decide) (by decide) s0_0⟩
