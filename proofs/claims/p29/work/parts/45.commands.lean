/-! Layer 2: a command of a text, read by both. -/
theorem PS_r {r : RV} {mv : MV} {L P k : Nat} {v : Int32} (h0 : k ≠ 0) (h1 : k ≠ 1) (h : PS r mv L P) : PS (r_s r k v) mv L P := by
  obtain ⟨p1, p2, p3, p4, p5, p6, p7⟩ := h
  exact ⟨p1, p2, (va_ne (Ne.symm h0)).trans p3, p4, (va_ne (Ne.symm h1)).trans p5, p6, p7⟩
theorem PS_m {r : RV} {mv : MV} {L P k : Nat} {v : Int32} (h0 : k ≠ 1) (h1 : k ≠ 3) (h : PS r mv L P) : PS r (m_s mv k v) L P := by
  obtain ⟨p1, p2, p3, p4, p5, p6, p7⟩ := h
  exact ⟨p1, p2, p3, (va_ne (Ne.symm h0)).trans p4, p5, (va_ne (Ne.symm h1)).trans p6, p7⟩
theorem PS_w {r : RV} {mv : MV} {L P : Nat} {x : Nat → Int32} (h : PS r mv L P) : PS r (m_r mv 2 x) L P := h
/-- what a command does to the row, and whether it is left out -/
def CE (l a b c : Int32) (s s2 : Nat → Int32) (y : Int32) : Prop :=
  (l = 112 ∧ (∃ p f n, p < 6 ∧ f < 24 ∧ 1 ≤ n ∧ n < 7 ∧ a = nI p ∧ b = nI f ∧ c = nI n) ∧ (12 ≤ s 1 → s2 = s ∧ y = 1) ∧ (¬ 12 ≤ s 1 → s2 = (k_X6_orderOn s 1 a b c).2 ∧ y = if (k_X6_orderOn s 1 a b c).1 < 0 then 1 else 0)) ∨
  (l = 108 ∧ (∃ p f, p < 6 ∧ f < 24 ∧ a = nI p ∧ b = nI f) ∧ (12 ≤ s 1 → s2 = s ∧ y = 1) ∧ (¬ 12 ≤ s 1 → s2 = (k_X6_orderOn s 0 a b 0).2 ∧ y = if (k_X6_orderOn s 0 a b 0).1 < 0 then 1 else 0)) ∨
  (l = 118 ∧ (∃ w v, w < 3 ∧ v ≤ 60 ∧ a = nI w ∧ b = nI v) ∧ (k_X6_isSetting a b = 0 → s2 = s ∧ y = 1) ∧ (¬ k_X6_isSetting a b = 0 → s2 = (k_X6_change s a b).2 ∧ y = if (k_X6_change s a b).1 < 0 then 1 else 0)) ∨
  (l = 116 ∧ (∃ v, 1 ≤ v ∧ v ≤ 99 ∧ a = nI v) ∧ s2 = (k_X6_ticksOn s a).2 ∧ y = if (k_X6_ticksOn s a).1 < 0 then 1 else 0) ∨
  (l = 99 ∧ (∃ k, k ≤ 11 ∧ a = nI k) ∧ (k_X6_isOrder s a = 0 → s2 = s ∧ y = 1) ∧ (¬ k_X6_isOrder s a = 0 → s2 = (k_X6_cancelOn s a).2 ∧ y = if (k_X6_cancelOn s a).1 < 0 then 1 else 0))
/-- nothing else changes -/
def FR (r : RV) (mv : MV) (r2 : RV) (mv2 : MV) : Prop := r2.2 = r.2 ∧ (∀ j, j ≠ 2 → mv2.2 j = mv.2 j) ∧ ∀ j, j ≠ 3 → j ≠ 4 → mv2.1 j = mv.1 j
/-- a command is wrong somewhere; or it is read -/
def BAD (r : RV) (mv : MV) (L : Nat) (r2 : RV) (q : Int32 × MV) : Prop := q.1 = 0 ∧ r2.1 2 = 1 ∧ (∃ P2, PS r2 q.2 L P2) ∧ FR r mv r2 q.2
def GOOD (r : RV) (mv : MV) (L P : Nat) (r2 : RV) (q : Int32 × MV) : Prop := q.1 = 1 ∧ r2.1 2 = 0 ∧ (∃ P2, P ≤ P2 ∧ PS r2 q.2 L P2) ∧ FR r mv r2 q.2 ∧ ∃ y, CE (r.1 3) (r2.1 4) (r2.1 5) (r2.1 6) (mv.2 2) (q.2.2 2) y ∧ q.2.1 4 = mv.1 4 + y
theorem dn (m : MV) (vi : Int32) : (match (k_X6_done m vi) with | (r_91, o_91) => (if r_91 = 0 then ((0 : Int32), o_91) else (1, o_91))) = (1, m_s m 4 ((m.1 4) + (if vi = 0 then 1 else 0))) := by
  rw [done_eq]
  exact if_neg (by decide)
theorem dn2 (m : MV) (v : Int32) : (if v < 0 then (match (k_X6_done m 0) with | (r_91, o_91) => (if r_91 = 0 then ((0 : Int32), o_91) else (1, o_91))) else (match (k_X6_done m 1) with | (r_91, o_91) => (if r_91 = 0 then ((0 : Int32), o_91) else (1, o_91)))) = (1, m_s m 4 ((m.1 4) + (if v < 0 then 1 else 0))) := by
  rw [dn, dn]
  by_cases h : v < 0
  · rw [if_pos h, if_pos h]; rfl
  · rw [if_neg h, if_neg h]; rfl
theorem nI_nm2 {x : Nat} (h : x ≤ 99) : ¬ nI x = -1 := nI_nm (by omega)
/-- behind the figures of 'l' and 'p' -/
theorem rd_tail {o : MV} {vs p b n : Int32} (hv : vs = 0 ∨ vs = 1) : (if 12 ≤ ((o.2 2) 1) then (match (k_X6_done o 0) with | (r_91, o_91) => (if r_91 = 0 then ((0 : Int32), o_91) else (1, o_91))) else (match (k_X6_orderOn (o.2 2) vs p b n) with | (r_80, o_80) => (if r_80 < 0 then (match (k_X6_done (m_r o 2 o_80) 0) with | (r_91, o_91) => (if r_91 = 0 then ((0 : Int32), o_91) else (1, o_91))) else (match (k_X6_done (m_r o 2 o_80) 1) with | (r_91, o_91) => (if r_91 = 0 then ((0 : Int32), o_91) else (1, o_91)))))) = if 12 ≤ ((o.2 2) 1) then (1, m_s o 4 (o.1 4 + 1)) else (1, m_s (m_r o 2 (k_X6_orderOn (o.2 2) vs p b n).2) 4 (o.1 4 + (if (k_X6_orderOn (o.2 2) vs p b n).1 < 0 then 1 else 0))) := by
  by_cases h : 12 ≤ ((o.2 2) 1)
  · rw [if_pos h, if_pos h, dn]; rfl
  · rw [if_neg h, if_neg h]
    exact dn2 (m_r o 2 (k_X6_orderOn (o.2 2) vs p b n).2) (k_X6_orderOn (o.2 2) vs p b n).1
theorem cmd_p {r : RV} {mv : MV} {L P : Nat} (h : PS r mv L P) (hw : r.1 2 = 0) (hl : r.1 3 = 112) : BAD r mv L (k_X2_readNumbers r) (k_X6_readOrder mv 1) ∨ GOOD r mv L P (k_X2_readNumbers r) (k_X6_readOrder mv 1) := by
  have l0 : ¬ r.1 3 = 99 := by rw [hl]; decide
  have l1 : ¬ r.1 3 = 108 := by rw [hl]; decide
  have z0 : ¬ (0 : Int32) = -1 := by decide
  unfold k_X2_readNumbers k_X6_readOrder
  rw [if_neg l0, if_neg l1, if_pos hl]
  rcases one_F (lo := 0) (hi := 5) h hw z0 (by omega) (by omega) with ⟨e, e1, e2, e3, d1, f1⟩ | ⟨d1, f1⟩
  · rw [show k_X2_digit r 0 5 = _ from d1, show k_X6_figures mv 0 1 0 5 = _ from f1]
    dsimp only
    have h1 : PS (r_s (r_s r 1 (nI (P + 1))) 4 (nI e)) (m_s mv 3 (nI (P + 1))) L (P + 1) := PS_r (by decide) (by decide) (PS_1 h e3)
    rcases two_F (lo := 0) (hi := 23) (va := nI e) h1 hw (nI_nm2 (by omega)) (by omega) (by omega) with ⟨g, g1, g2, g3, d2, f2⟩ | ⟨v, r2, mv2, P2, d2, f2, w1, w2, w3, w4, w5⟩
    · rw [show k_X2_twoDigits (r_s (r_s r 1 (nI (P + 1))) 4 (nI e)) 0 23 = _ from d2, show k_X6_figures (m_s mv 3 (nI (P + 1))) (nI e) 2 0 23 = _ from f2]
      dsimp only
      have h2 : PS (r_s (r_s (r_s (r_s (r_s r 1 (nI (P + 1))) 4 (nI e)) 1 (nI (P + 1 + 1))) 1 (nI (P + 1 + 2))) 5 (nI g)) (m_s (m_s (m_s mv 3 (nI (P + 1))) 3 (nI (P + 1 + 1))) 3 (nI (P + 1 + 2))) L (P + 1 + 2) := PS_r (by decide) (by decide) (PS_1 (PS_1 h1 (by omega)) (by omega))
      rcases one_F (lo := 1) (hi := 6) (va := nI g) h2 hw (nI_nm2 (by omega)) (by omega) (by omega) with ⟨n, n1, n2, n3, d3, f3⟩ | ⟨d3, f3⟩
      · rw [show k_X2_digit (r_s (r_s (r_s (r_s (r_s r 1 (nI (P + 1))) 4 (nI e)) 1 (nI (P + 1 + 1))) 1 (nI (P + 1 + 2))) 5 (nI g)) 1 6 = _ from d3, if_neg (show ¬ (1 : Int32) = 0 by decide), show k_X6_figures (m_s (m_s (m_s mv 3 (nI (P + 1))) 3 (nI (P + 1 + 1))) 3 (nI (P + 1 + 2))) (nI g) 1 1 6 = _ from f3]
        dsimp only
        rw [if_neg (nI_nm2 (by omega)), if_neg (show ¬ (1 : Int32) = 0 by decide), rd_tail (Or.inr rfl)]
        have h3 := PS_1 h2 n3
        refine Or.inr ?_
        by_cases h12 : 12 ≤ mv.2 2 1
        · rw [if_pos (by exact h12)]
          refine ⟨rfl, hw, ⟨P + 1 + 2 + 1, by omega, PS_m (by decide) (by decide) (PS_r (by decide) (by decide) h3)⟩, ⟨rfl, fun _ _ => rfl, fun j h1 h2 => ?_⟩, 1, Or.inl ⟨hl, ⟨e, g, n, by omega, by omega, n1, by omega, rfl, rfl, rfl⟩, fun _ => ⟨rfl, rfl⟩, fun q => absurd h12 q⟩, rfl⟩
          simp only [m_s]
          rw [va_ne h2, va_ne h1, va_ne h1, va_ne h1, va_ne h1]
        · rw [if_neg (by exact h12)]
          refine ⟨rfl, hw, ⟨P + 1 + 2 + 1, by omega, PS_m (by decide) (by decide) (PS_w (PS_r (by decide) (by decide) h3))⟩, ⟨rfl, fun j hj => va_ne hj, fun j h1 h2 => ?_⟩, _, Or.inl ⟨hl, ⟨e, g, n, by omega, by omega, n1, by omega, rfl, rfl, rfl⟩, fun q => absurd q h12, fun _ => ⟨rfl, rfl⟩⟩, rfl⟩
          simp only [m_s, m_r]
          rw [va_ne h2, va_ne h1, va_ne h1, va_ne h1, va_ne h1]
      · rw [show k_X2_digit (r_s (r_s (r_s (r_s (r_s r 1 (nI (P + 1))) 4 (nI e)) 1 (nI (P + 1 + 1))) 1 (nI (P + 1 + 2))) 5 (nI g)) 1 6 = _ from d3, if_neg (show ¬ (1 : Int32) = 0 by decide), show k_X6_figures (m_s (m_s (m_s mv 3 (nI (P + 1))) 3 (nI (P + 1 + 1))) 3 (nI (P + 1 + 2))) (nI g) 1 1 6 = _ from f3]
        dsimp only
        rw [if_pos (show (-1 : Int32) = -1 from rfl)]
        refine Or.inl ⟨rfl, rfl, ⟨_, PS_r (by decide) (by decide) (PS_r (by decide) (by decide) h2)⟩, rfl, fun _ _ => rfl, fun j h1 h2 => ?_⟩
        simp only [m_s]
        rw [va_ne h1, va_ne h1, va_ne h1]
    · rw [show k_X2_twoDigits (r_s (r_s r 1 (nI (P + 1))) 4 (nI e)) 0 23 = _ from d2, show k_X6_figures (m_s mv 3 (nI (P + 1))) (nI e) 2 0 23 = _ from f2]
      dsimp only
      rw [dC_w (r := r_s r2 5 v) w1, fig_w, if_neg (show ¬ (1 : Int32) = 0 by decide)]
      dsimp only
      rw [if_pos (show (-1 : Int32) = -1 from rfl)]
      refine Or.inl ⟨rfl, rfl, ⟨P2, PS_r (by decide) (by decide) (PS_r (by decide) (by decide) (PS_r (by decide) (by decide) w2))⟩, w3, fun j hj => by rw [w4]; rfl, fun j h1 h2 => ?_⟩
      rw [w5 j h1]
      exact va_ne h1
  · rw [show k_X2_digit r 0 5 = _ from d1, show k_X6_figures mv 0 1 0 5 = _ from f1]
    dsimp only
    obtain ⟨v, hv⟩ := two_w (r := r_s (r_s r 2 1) 4 0) (lo := 0) (hi := 23) rfl
    rw [hv, fig_w]
    dsimp only
    rw [dC_w (r := r_s (r_s (r_s (r_s (r_s r 2 1) 4 0) 2 1) 2 1) 5 v) rfl, fig_w, if_neg (show ¬ (1 : Int32) = 0 by decide)]
    dsimp only
    rw [if_pos (show (-1 : Int32) = -1 from rfl)]
    exact Or.inl ⟨rfl, rfl, ⟨P, PS_r (by decide) (by decide) (PS_r (by decide) (by decide) (PS_r (by decide) (by decide) (PS_r (by decide) (by decide) (PS_r (by decide) (by decide) (PS_r (by decide) (by decide) (PS_r (by decide) (by decide) h))))))⟩, rfl, fun _ _ => rfl, fun _ _ _ => rfl⟩
