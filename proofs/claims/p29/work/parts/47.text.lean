/-! Layer 2: the whole text. -/
theorem dig_3 {r : RV} {a b : Int32} : (k_X2_digit r a b).2.1 3 = r.1 3 := by
  unfold k_X2_digit
  split
  · split
    · rfl
    · split <;> rfl
  · rfl
theorem two_3 {r : RV} {a b : Int32} : (k_X2_twoDigits r a b).2.1 3 = r.1 3 := by
  unfold k_X2_twoDigits
  dsimp only
  split
  · split <;> exact dig_3.trans dig_3
  · split <;> exact dig_3.trans dig_3
theorem num_3 {r : RV} : (k_X2_readNumbers r).1 3 = r.1 3 := by
  unfold k_X2_readNumbers
  dsimp only
  split
  · exact two_3
  split
  · exact two_3.trans dig_3
  split
  · exact dig_3.trans (two_3.trans dig_3)
  split
  · exact two_3
  split
  · exact two_3.trans dig_3
  · rfl
theorem cmd_R {r : RV} {mv : MV} {L P : Nat} (h : PS r mv L P) (hw : r.1 2 = 0) (hP : P < L) :
    ((k_X2_readCommand r).1 = 0 ∧ (k_X6_readCommand mv).1 = 0 ∧ (k_X2_readCommand r).2.1 2 = 1 ∧ (∃ P2, PS (k_X2_readCommand r).2 (k_X6_readCommand mv).2 L P2) ∧ FR r mv (k_X2_readCommand r).2 (k_X6_readCommand mv).2) ∨
    ((k_X2_readCommand r).1 = 1 ∧ (k_X6_readCommand mv).1 = 1 ∧ (k_X2_readCommand r).2.1 2 = 0 ∧ (∃ P2, P < P2 ∧ PS (k_X2_readCommand r).2 (k_X6_readCommand mv).2 L P2) ∧ FR r mv (k_X2_readCommand r).2 (k_X6_readCommand mv).2 ∧ ∃ y, CE ((k_X2_readCommand r).2.1 3) ((k_X2_readCommand r).2.1 4) ((k_X2_readCommand r).2.1 5) ((k_X2_readCommand r).2.1 6) (mv.2 2) ((k_X6_readCommand mv).2.2 2) y ∧ (k_X6_readCommand mv).2.1 4 = mv.1 4 + y) := by
  have hh := here_y h hP
  have ht := (h.2.2.2.2.2.2 P hP).1
  have e1 : k_X2_readCommand r = if (k_X2_readNumbers (r_s (r_s r 1 (nI (P + 1))) 3 (r.2 P))).1 2 = 0 then (1, k_X2_readNumbers (r_s (r_s r 1 (nI (P + 1))) 3 (r.2 P))) else (0, k_X2_readNumbers (r_s (r_s r 1 (nI (P + 1))) 3 (r.2 P))) := by
    unfold k_X2_readCommand
    rw [hw, if_pos rfl, h.2.2.2.2.1, h.2.2.1, if_pos (nI_lt hP (by have := h.1; omega)), nI_1, hh]
  have h1 : PS (r_s (r_s r 1 (nI (P + 1))) 3 (r.2 P)) (m_s mv 3 (nI (P + 1))) L (P + 1) := PS_r (by decide) (by decide) (PS_1 h hP)
  have hw1 : (r_s (r_s r 1 (nI (P + 1))) 3 (r.2 P)).1 2 = 0 := hw
  have e2 := rcS mv
  have hc : (mv.1 3).toNatClampNeg = P := by rw [h.2.2.2.2.2.1, nI_clamp (by have := h.1; omega)]
  rw [hc, h.2.2.2.2.2.1, nI_1, ← ht] at e2
  -- from the answer of the figures to the answer of the command
  have fin : ∀ q : Int32 × MV, k_X6_readCommand mv = q → (BAD (r_s (r_s r 1 (nI (P + 1))) 3 (r.2 P)) (m_s mv 3 (nI (P + 1))) L (k_X2_readNumbers (r_s (r_s r 1 (nI (P + 1))) 3 (r.2 P))) q ∨ GOOD (r_s (r_s r 1 (nI (P + 1))) 3 (r.2 P)) (m_s mv 3 (nI (P + 1))) L (P + 1) (k_X2_readNumbers (r_s (r_s r 1 (nI (P + 1))) 3 (r.2 P))) q) →
      ((k_X2_readCommand r).1 = 0 ∧ (k_X6_readCommand mv).1 = 0 ∧ (k_X2_readCommand r).2.1 2 = 1 ∧ (∃ P2, PS (k_X2_readCommand r).2 (k_X6_readCommand mv).2 L P2) ∧ FR r mv (k_X2_readCommand r).2 (k_X6_readCommand mv).2) ∨
      ((k_X2_readCommand r).1 = 1 ∧ (k_X6_readCommand mv).1 = 1 ∧ (k_X2_readCommand r).2.1 2 = 0 ∧ (∃ P2, P < P2 ∧ PS (k_X2_readCommand r).2 (k_X6_readCommand mv).2 L P2) ∧ FR r mv (k_X2_readCommand r).2 (k_X6_readCommand mv).2 ∧ ∃ y, CE ((k_X2_readCommand r).2.1 3) ((k_X2_readCommand r).2.1 4) ((k_X2_readCommand r).2.1 5) ((k_X2_readCommand r).2.1 6) (mv.2 2) ((k_X6_readCommand mv).2.2 2) y ∧ (k_X6_readCommand mv).2.1 4 = mv.1 4 + y) := by
    intro q hq hb
    rw [hq]
    rcases hb with ⟨b1, b2, b3, b4, b5, b6⟩ | ⟨b1, b2, ⟨P2, b3, b4⟩, ⟨b5, b6, b7⟩, y, b8, b9⟩
    · rw [e1, if_neg (by rw [b2]; decide)]
      exact Or.inl ⟨rfl, b1, b2, b3, b4, b5, fun j h1 h2 => (b6 j h1 h2).trans (va_ne h1)⟩
    · rw [e1, if_pos b2]
      refine Or.inr ⟨rfl, b1, b2, ⟨P2, by omega, b4⟩, ⟨b5, b6, fun j h1 h2 => (b7 j h1 h2).trans (va_ne h1)⟩, y, ?_, b9⟩
      rw [num_3]
      exact b8
  by_cases c1 : r.2 P = 99
  · rw [if_pos c1] at e2
    exact fin _ e2 (cmd_c h1 hw1 c1)
  rw [if_neg c1] at e2
  by_cases c2 : r.2 P = 108
  · rw [if_pos c2] at e2
    exact fin _ e2 (cmd_l h1 hw1 c2)
  rw [if_neg c2] at e2
  by_cases c3 : r.2 P = 112
  · rw [if_pos c3] at e2
    exact fin _ e2 (cmd_p h1 hw1 c3)
  rw [if_neg c3] at e2
  by_cases c4 : r.2 P = 116
  · rw [if_pos c4] at e2
    exact fin _ e2 (cmd_t h1 hw1 c4)
  rw [if_neg c4] at e2
  by_cases c5 : r.2 P = 118
  · rw [if_pos c5] at e2
    exact fin _ e2 (cmd_v h1 hw1 c5)
  rw [if_neg c5] at e2
  refine fin _ e2 (Or.inl ⟨rfl, ?_, ⟨P, ?_⟩, ?_, fun _ _ => rfl, fun j h1 h2 => ?_⟩)
  · unfold k_X2_readNumbers
    rw [if_neg (by exact c1), if_neg (by exact c2), if_neg (by exact c3), if_neg (by exact c4), if_neg (by exact c5)]
    rfl
  · unfold k_X2_readNumbers
    rw [if_neg (by exact c1), if_neg (by exact c2), if_neg (by exact c3), if_neg (by exact c4), if_neg (by exact c5)]
    refine PS_r (by decide) (by decide) ?_
    obtain ⟨p1, p2, p3, p4, p5, p6, p7⟩ := h
    refine ⟨p1, p2, p3, p4, ?_, ?_, p7⟩
    · show nI (P + 1) - 1 = nI P
      exact nI_pred P
    · show nI (P + 1) - 1 = nI P
      exact nI_pred P
  · unfold k_X2_readNumbers
    rw [if_neg (by exact c1), if_neg (by exact c2), if_neg (by exact c3), if_neg (by exact c4), if_neg (by exact c5)]
    rfl
  · show va_up mv.1 3 _ j = va_up mv.1 3 _ j
    rw [va_ne h1, va_ne h1]
theorem cmd_E {r : RV} {mv : MV} {L : Nat} (h : PS r mv L L) (hw : r.1 2 = 0) : k_X2_readCommand r = (0, r) := by
  unfold k_X2_readCommand
  rw [hw, if_pos rfl, h.2.2.2.2.1, h.2.2.1, if_neg (nI_nlt (Nat.le_refl _) (by have := h.1; omega))]
def TX (r : RV) (mv : MV) : Prop := ∃ L, L ≤ 120 ∧ r.1 0 = nI L ∧ mv.1 1 = nI L ∧ ∀ i, i < L → r.2 i = mv.2 0 i ∧ ∃ q, q ≤ 255 ∧ r.2 i = nI q
theorem TX_of {r r2 : RV} {mv mv2 : MV} (h : TX r mv) (h1 : r2.2 = r.2) (h2 : r2.1 0 = r.1 0) (h3 : mv2.2 0 = mv.2 0) (h4 : mv2.1 1 = mv.1 1) : TX r2 mv2 := by
  obtain ⟨L, a1, a2, a3, a4⟩ := h
  exact ⟨L, a1, h2.trans a2, h4.trans a3, by rw [h1, h3]; exact a4⟩
/-- both look for the first wrong place -/
theorem fw_L {r0 : RV} {m0 : MV} {L : Nat} : ∀ (n m k P : Nat) (r : RV) (mv : MV), PS r mv L P → r.1 2 = 0 → k + 1 ≤ P → L - P < n → L - P < m →
    (k_X2_firstWrong_L6 r0 n (nI k) r).1 = (k_X6_readText_L39 m0 m mv).1 ∧ (k_X2_firstWrong_L6 r0 n (nI k) r).2.1 0 = r.1 0 ∧ FR r mv (k_X2_firstWrong_L6 r0 n (nI k) r).2 (k_X6_readText_L39 m0 m mv).2 := by
  intro n
  induction n with
  | zero => intro m k P r mv h hw h1 h2; omega
  | succ n ih =>
    intro m k P r mv h hw h1 h2 h3
    obtain ⟨m, rfl⟩ : ∃ q, m = q + 1 := ⟨m - 1, by omega⟩
    have hL := h.1
    have hPL := h.2.1
    have n120 : ¬ (120 : Int32) ≤ nI k := nI_ge (b := 120) (by omega) (by omega)
    unfold k_X2_firstWrong_L6 k_X6_readText_L39
    rw [if_neg n120, h.2.2.2.1, h.2.2.2.2.2.1]
    by_cases hP : P = L
    · subst hP
      rw [if_pos (nI_le (Nat.le_refl _) (by omega)), cmd_E h hw]
      dsimp only
      rw [if_pos (show (0 : Int32) = 0 from rfl), if_pos hw]
      exact ⟨rfl, rfl, rfl, fun _ _ => rfl, fun _ _ _ => rfl⟩
    rw [if_neg (nI_ge (by omega) (by omega))]
    dsimp only
    rcases cmd_R h hw (by omega) with ⟨b1, b2, b3, ⟨P2, b4⟩, b5⟩ | ⟨b1, b2, b3, ⟨P2, b4, b5⟩, b6, -⟩
    · rw [if_pos b1, if_pos b2, if_neg (by rw [b3]; decide)]
      exact ⟨by rw [b4.2.2.2.2.1, b4.2.2.2.2.2.1], by rw [b4.2.2.1, h.2.2.1], b5⟩
    · rw [if_neg (by rw [b1]; decide), if_neg (by rw [b2]; decide), nI_1]
      have := ih m (k + 1) P2 _ _ b5 b3 (by omega) (by omega) (by omega)
      refine ⟨this.1, this.2.1.trans (by rw [b5.2.2.1, h.2.2.1]), this.2.2.1.trans b6.1, fun j hj => (this.2.2.2.1 j hj).trans (b6.2.1 j hj), fun j h1 h2 => (this.2.2.2.2 j h1 h2).trans (b6.2.2 j h1 h2)⟩
theorem rw_y {r : RV} {mv : MV} (h : TX r mv) (h1 : ¬ mv.1 1 = 0) (h2 : mv.2 0 0 = 79) : k_X2_rewind r = r_s (r_s r 1 1) 2 0 := by
  obtain ⟨L, a1, a2, a3, a4⟩ := h
  have hL : 0 < L := by
    rcases Nat.eq_zero_or_pos L with rfl | h
    · exact absurd a3 h1
    · exact h
  have hp : PS (r_s r 1 0) (m_s mv 3 0) L 0 := ⟨a1, Nat.zero_le _, a2, a3, rfl, rfl, a4⟩
  unfold k_X2_rewind
  rw [here_y hp hL, if_pos (by rw [← h2]; exact (a4 0 hL).1)]
  rfl
theorem rw_n {r : RV} {mv : MV} (h : TX r mv) (h1 : mv.1 1 = 0 ∨ ¬ mv.2 0 0 = 79) : k_X2_rewind r = r_s (r_s r 1 0) 2 1 := by
  obtain ⟨L, a1, a2, a3, a4⟩ := h
  unfold k_X2_rewind
  rcases Nat.eq_zero_or_pos L with rfl | hL
  · have hp : PS (r_s r 1 0) (m_s mv 3 0) 0 0 := ⟨a1, Nat.zero_le _, a2, a3, rfl, rfl, a4⟩
    rw [here_n hp, if_neg (by decide)]
  · have hp : PS (r_s r 1 0) (m_s mv 3 0) L 0 := ⟨a1, Nat.zero_le _, a2, a3, rfl, rfl, a4⟩
    have h0 : ¬ mv.1 1 = 0 := by
      rw [a3]
      exact nI_ne0 hL (by omega)
    rw [here_y hp hL]
    exact if_neg (fun e => (h1.resolve_left h0) ((a4 0 hL).1.symm.trans e))
theorem rw_fr {r : RV} : (k_X2_rewind r).2 = r.2 ∧ (k_X2_rewind r).1 0 = r.1 0 := by
  unfold k_X2_rewind
  split <;> exact ⟨rfl, rfl⟩
theorem PS_st {r : RV} {mv : MV} {x : Nat → Int32} (h : TX r mv) (h1 : ¬ mv.1 1 = 0) : ∃ L, 1 ≤ L ∧ PS (r_s (r_s r 1 1) 2 0) (m_r (m_s (m_s mv 3 1) 4 0) 2 x) L 1 := by
  obtain ⟨L, a1, a2, a3, a4⟩ := h
  have hL : 0 < L := by
    rcases Nat.eq_zero_or_pos L with rfl | h
    · exact absurd a3 h1
    · exact h
  exact ⟨L, hL, a1, hL, a2, a3, rfl, rfl, a4⟩
theorem fw_R {r : RV} {mv : MV} (h : TX r mv) : (k_X2_firstWrong r).1 = (k_X6_readText mv).1 ∧ (k_X2_firstWrong r).2.1 0 = r.1 0 ∧ FR r mv (k_X2_firstWrong r).2 (k_X6_readText mv).2 := by
  have bad : k_X2_rewind r = r_s (r_s r 1 0) 2 1 → k_X2_firstWrong r = (0, r_s (r_s r 1 0) 2 1) := by
    intro e
    have hc : k_X2_readCommand (r_s (r_s r 1 0) 2 1) = (0, r_s (r_s r 1 0) 2 1) := by
      unfold k_X2_readCommand
      exact if_neg (show ¬ (1 : Int32) = 0 by decide)
    unfold k_X2_firstWrong
    rw [e, k_X2_firstWrong_L6, if_neg (by decide), hc]
    dsimp only
    rw [if_pos (show (0 : Int32) = 0 from rfl)]
    exact if_neg (show ¬ (1 : Int32) = 0 by decide)
  unfold k_X6_readText
  by_cases h1 : mv.1 1 = 0
  · rw [if_pos h1, bad (rw_n h (Or.inl h1))]
    refine ⟨rfl, rfl, rfl, fun j hj => va_ne hj, fun j h1 h2 => ?_⟩
    show va_up (va_up mv.1 3 _) 4 _ j = _
    rw [va_ne h2, va_ne h1]
  rw [if_neg h1]
  by_cases h2 : mv.2 0 0 = 79
  · rw [if_pos h2]
    unfold k_X2_firstWrong
    rw [rw_y h h1 h2]
    obtain ⟨L, hL, hp⟩ := PS_st (x := k_X6_clear (mv.2 2)) h h1
    have hL2 := hp.1
    have := fw_L (r0 := r) (m0 := mv) 121 121 0 1 _ _ hp rfl (by omega) (by omega) (by omega)
    refine ⟨this.1, this.2.1, this.2.2.1, fun j hj => (this.2.2.2.1 j hj).trans (va_ne hj), fun j h1 h2 => (this.2.2.2.2 j h1 h2).trans ?_⟩
    show va_up (va_up mv.1 3 _) 4 _ j = _
    rw [va_ne h2, va_ne h1]
  · rw [if_neg h2, bad (rw_n h (Or.inr h2))]
    refine ⟨rfl, rfl, rfl, fun j hj => va_ne hj, fun j h1 h2 => ?_⟩
    show va_up (va_up mv.1 3 _) 4 _ j = _
    rw [va_ne h2, va_ne h1]
