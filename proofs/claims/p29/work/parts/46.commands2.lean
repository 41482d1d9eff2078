/-! Layer 2: the other commands; a whole command. -/
theorem dnp (m : MV) (vi : Int32) : (if (k_X6_done m vi).1 = 0 then ((0 : Int32), (k_X6_done m vi).2) else (1, (k_X6_done m vi).2)) = (1, m_s m 4 ((m.1 4) + (if vi = 0 then 1 else 0))) := by
  rw [done_eq]
  exact if_neg (show ¬ (1 : Int32) = 0 by decide)
theorem cmd_l {r : RV} {mv : MV} {L P : Nat} (h : PS r mv L P) (hw : r.1 2 = 0) (hl : r.1 3 = 108) : BAD r mv L (k_X2_readNumbers r) (k_X6_readOrder mv 0) ∨ GOOD r mv L P (k_X2_readNumbers r) (k_X6_readOrder mv 0) := by
  have l0 : ¬ r.1 3 = 99 := by rw [hl]; decide
  have z0 : ¬ (0 : Int32) = -1 := by decide
  unfold k_X2_readNumbers k_X6_readOrder
  rw [if_neg l0, if_pos hl]
  rcases one_F (lo := 0) (hi := 5) h hw z0 (by omega) (by omega) with ⟨e, e1, e2, e3, d1, f1⟩ | ⟨d1, f1⟩
  · rw [show k_X2_digit r 0 5 = _ from d1, show k_X6_figures mv 0 1 0 5 = _ from f1]
    dsimp only
    have h1 : PS (r_s (r_s r 1 (nI (P + 1))) 4 (nI e)) (m_s mv 3 (nI (P + 1))) L (P + 1) := PS_r (by decide) (by decide) (PS_1 h e3)
    rcases two_F (lo := 0) (hi := 23) (va := nI e) h1 hw (nI_nm2 (by omega)) (by omega) (by omega) with ⟨g, g1, g2, g3, d2, f2⟩ | ⟨v, r2, mv2, P2, d2, f2, w1, w2, w3, w4, w5⟩
    · rw [show k_X2_twoDigits (r_s (r_s r 1 (nI (P + 1))) 4 (nI e)) 0 23 = _ from d2, show k_X6_figures (m_s mv 3 (nI (P + 1))) (nI e) 2 0 23 = _ from f2]
      dsimp only
      have h2 : PS (r_s (r_s (r_s (r_s (r_s r 1 (nI (P + 1))) 4 (nI e)) 1 (nI (P + 1 + 1))) 1 (nI (P + 1 + 2))) 5 (nI g)) (m_s (m_s (m_s mv 3 (nI (P + 1))) 3 (nI (P + 1 + 1))) 3 (nI (P + 1 + 2))) L (P + 1 + 2) := PS_r (by decide) (by decide) (PS_1 (PS_1 h1 (by omega)) (by omega))
      rw [if_pos (show (0 : Int32) = 0 from rfl), if_neg (nI_nm2 (by omega)), if_pos (show (0 : Int32) = 0 from rfl), rd_tail (Or.inl rfl)]
      refine Or.inr ?_
      by_cases h12 : 12 ≤ mv.2 2 1
      · rw [if_pos (by exact h12)]
        refine ⟨rfl, hw, ⟨P + 1 + 2, by omega, PS_m (by decide) (by decide) h2⟩, ⟨rfl, fun _ _ => rfl, fun j h1 h2 => ?_⟩, 1, Or.inr (Or.inl ⟨hl, ⟨e, g, by omega, by omega, rfl, rfl⟩, fun _ => ⟨rfl, rfl⟩, fun q => absurd h12 q⟩), rfl⟩
        simp only [m_s]
        rw [va_ne h2, va_ne h1, va_ne h1, va_ne h1]
      · rw [if_neg (by exact h12)]
        refine ⟨rfl, hw, ⟨P + 1 + 2, by omega, PS_m (by decide) (by decide) (PS_w h2)⟩, ⟨rfl, fun j hj => va_ne hj, fun j h1 h2 => ?_⟩, _, Or.inr (Or.inl ⟨hl, ⟨e, g, by omega, by omega, rfl, rfl⟩, fun q => absurd q h12, fun _ => ⟨rfl, rfl⟩⟩), rfl⟩
        simp only [m_s, m_r]
        rw [va_ne h2, va_ne h1, va_ne h1, va_ne h1]
    · rw [show k_X2_twoDigits (r_s (r_s r 1 (nI (P + 1))) 4 (nI e)) 0 23 = _ from d2, show k_X6_figures (m_s mv 3 (nI (P + 1))) (nI e) 2 0 23 = _ from f2]
      dsimp only
      rw [if_pos (show (0 : Int32) = 0 from rfl), if_pos (show (-1 : Int32) = -1 from rfl)]
      refine Or.inl ⟨rfl, w1, ⟨P2, PS_r (by decide) (by decide) w2⟩, w3, fun j hj => by rw [w4]; rfl, fun j h1 h2 => ?_⟩
      rw [w5 j h1]
      exact va_ne h1
  · rw [show k_X2_digit r 0 5 = _ from d1, show k_X6_figures mv 0 1 0 5 = _ from f1]
    dsimp only
    obtain ⟨v, hv⟩ := two_w (r := r_s (r_s r 2 1) 4 0) (lo := 0) (hi := 23) rfl
    rw [hv, fig_w]
    dsimp only
    rw [if_pos (show (0 : Int32) = 0 from rfl), if_pos (show (-1 : Int32) = -1 from rfl)]
    exact Or.inl ⟨rfl, rfl, ⟨P, PS_r (by decide) (by decide) (PS_r (by decide) (by decide) (PS_r (by decide) (by decide) (PS_r (by decide) (by decide) (PS_r (by decide) (by decide) h))))⟩, rfl, fun _ _ => rfl, fun _ _ _ => rfl⟩
def vS (m : MV) : Int32 × MV := (match (k_X6_figures m 0 1 0 2) with | (r_94, o_94) => (match (k_X6_figures o_94 r_94 2 0 60) with | (r_104, o_104) => (if r_104 = (-1) then (0, o_104) else (if (k_X6_isSetting r_94 r_104) = 0 then (match (k_X6_done o_104 0) with | (r_140, o_140) => (if r_140 = 0 then (0, o_140) else (1, o_140))) else (match (k_X6_change (o_104.2 2) r_94 r_104) with | (r_129, o_129) => (if r_129 < 0 then (match (k_X6_done (m_r o_104 2 o_129) 0) with | (r_140, o_140) => (if r_140 = 0 then (0, o_140) else (1, o_140))) else (match (k_X6_done (m_r o_104 2 o_129) 1) with | (r_140, o_140) => (if r_140 = 0 then (0, o_140) else (1, o_140)))))))))
def tS (m : MV) : Int32 × MV := (match (k_X6_figures m 0 2 1 99) with | (r_158, o_158) => (if r_158 = (-1) then (0, o_158) else (match (k_X6_ticksOn (o_158.2 2) r_158) with | (r_170, o_170) => (if r_170 < 0 then (match (k_X6_done (m_r o_158 2 o_170) 0) with | (r_181, o_181) => (if r_181 = 0 then (0, o_181) else (1, o_181))) else (match (k_X6_done (m_r o_158 2 o_170) 1) with | (r_181, o_181) => (if r_181 = 0 then (0, o_181) else (1, o_181)))))))
def cS (m : MV) : Int32 × MV := (match (k_X6_figures m 0 2 0 11) with | (r_199, o_199) => (if r_199 = (-1) then (0, o_199) else (if (k_X6_isOrder (o_199.2 2) r_199) = 0 then (match (k_X6_done o_199 0) with | (r_230, o_230) => (if r_230 = 0 then (0, o_230) else (1, o_230))) else (match (k_X6_cancelOn (o_199.2 2) r_199) with | (r_219, o_219) => (if r_219 < 0 then (match (k_X6_done (m_r o_199 2 o_219) 0) with | (r_230, o_230) => (if r_230 = 0 then (0, o_230) else (1, o_230))) else (match (k_X6_done (m_r o_199 2 o_219) 1) with | (r_230, o_230) => (if r_230 = 0 then (0, o_230) else (1, o_230))))))))
theorem cmd_v {r : RV} {mv : MV} {L P : Nat} (h : PS r mv L P) (hw : r.1 2 = 0) (hl : r.1 3 = 118) : BAD r mv L (k_X2_readNumbers r) (vS mv) ∨ GOOD r mv L P (k_X2_readNumbers r) (vS mv) := by
  have l0 : ¬ r.1 3 = 99 := by rw [hl]; decide
  have l1 : ¬ r.1 3 = 108 := by rw [hl]; decide
  have l2 : ¬ r.1 3 = 112 := by rw [hl]; decide
  have l3 : ¬ r.1 3 = 116 := by rw [hl]; decide
  have z0 : ¬ (0 : Int32) = -1 := by decide
  unfold k_X2_readNumbers vS
  rw [if_neg l0, if_neg l1, if_neg l2, if_neg l3, if_pos hl]
  rcases one_F (lo := 0) (hi := 2) h hw z0 (by omega) (by omega) with ⟨e, e1, e2, e3, d1, f1⟩ | ⟨d1, f1⟩
  · rw [show k_X2_digit r 0 2 = _ from d1, show k_X6_figures mv 0 1 0 2 = _ from f1]
    dsimp only
    have h1 : PS (r_s (r_s r 1 (nI (P + 1))) 4 (nI e)) (m_s mv 3 (nI (P + 1))) L (P + 1) := PS_r (by decide) (by decide) (PS_1 h e3)
    rcases two_F (lo := 0) (hi := 60) (va := nI e) h1 hw (nI_nm2 (by omega)) (by omega) (by omega) with ⟨g, g1, g2, g3, d2, f2⟩ | ⟨v, r2, mv2, P2, d2, f2, w1, w2, w3, w4, w5⟩
    · rw [show k_X2_twoDigits (r_s (r_s r 1 (nI (P + 1))) 4 (nI e)) 0 60 = _ from d2, show k_X6_figures (m_s mv 3 (nI (P + 1))) (nI e) 2 0 60 = _ from f2]
      dsimp only
      have h2 : PS (r_s (r_s (r_s (r_s (r_s r 1 (nI (P + 1))) 4 (nI e)) 1 (nI (P + 1 + 1))) 1 (nI (P + 1 + 2))) 5 (nI g)) (m_s (m_s (m_s mv 3 (nI (P + 1))) 3 (nI (P + 1 + 1))) 3 (nI (P + 1 + 2))) L (P + 1 + 2) := PS_r (by decide) (by decide) (PS_1 (PS_1 h1 (by omega)) (by omega))
      rw [if_neg (nI_nm2 (by omega))]
      refine Or.inr ?_
      by_cases hs : k_X6_isSetting (nI e) (nI g) = 0
      · rw [if_pos hs, dnp]
        refine ⟨rfl, hw, ⟨P + 1 + 2, by omega, PS_m (by decide) (by decide) h2⟩, ⟨rfl, fun _ _ => rfl, fun j h1 h2 => ?_⟩, 1, Or.inr (Or.inr (Or.inl ⟨hl, ⟨e, g, by omega, by omega, rfl, rfl⟩, fun _ => ⟨rfl, rfl⟩, fun q => absurd hs q⟩)), rfl⟩
        simp only [m_s]
        rw [va_ne h2, va_ne h1, va_ne h1, va_ne h1]
      · rw [if_neg hs, dn2]
        refine ⟨rfl, hw, ⟨P + 1 + 2, by omega, PS_m (by decide) (by decide) (PS_w h2)⟩, ⟨rfl, fun j hj => va_ne hj, fun j h1 h2 => ?_⟩, _, Or.inr (Or.inr (Or.inl ⟨hl, ⟨e, g, by omega, by omega, rfl, rfl⟩, fun q => absurd q hs, fun _ => ⟨rfl, rfl⟩⟩)), rfl⟩
        simp only [m_s, m_r]
        rw [va_ne h2, va_ne h1, va_ne h1, va_ne h1]
    · rw [show k_X2_twoDigits (r_s (r_s r 1 (nI (P + 1))) 4 (nI e)) 0 60 = _ from d2, show k_X6_figures (m_s mv 3 (nI (P + 1))) (nI e) 2 0 60 = _ from f2]
      dsimp only
      rw [if_pos (show (-1 : Int32) = -1 from rfl)]
      refine Or.inl ⟨rfl, w1, ⟨P2, PS_r (by decide) (by decide) w2⟩, w3, fun j hj => by rw [w4]; rfl, fun j h1 h2 => ?_⟩
      rw [w5 j h1]
      exact va_ne h1
  · rw [show k_X2_digit r 0 2 = _ from d1, show k_X6_figures mv 0 1 0 2 = _ from f1]
    dsimp only
    obtain ⟨v, hv⟩ := two_w (r := r_s (r_s r 2 1) 4 0) (lo := 0) (hi := 60) rfl
    rw [hv, fig_w]
    dsimp only
    rw [if_pos (show (-1 : Int32) = -1 from rfl)]
    exact Or.inl ⟨rfl, rfl, ⟨P, PS_r (by decide) (by decide) (PS_r (by decide) (by decide) (PS_r (by decide) (by decide) (PS_r (by decide) (by decide) (PS_r (by decide) (by decide) h))))⟩, rfl, fun _ _ => rfl, fun _ _ _ => rfl⟩
theorem cmd_t {r : RV} {mv : MV} {L P : Nat} (h : PS r mv L P) (hw : r.1 2 = 0) (hl : r.1 3 = 116) : BAD r mv L (k_X2_readNumbers r) (tS mv) ∨ GOOD r mv L P (k_X2_readNumbers r) (tS mv) := by
  have l0 : ¬ r.1 3 = 99 := by rw [hl]; decide
  have l1 : ¬ r.1 3 = 108 := by rw [hl]; decide
  have l2 : ¬ r.1 3 = 112 := by rw [hl]; decide
  have z0 : ¬ (0 : Int32) = -1 := by decide
  unfold k_X2_readNumbers tS
  rw [if_neg l0, if_neg l1, if_neg l2, if_pos hl]
  rcases two_F (lo := 1) (hi := 99) h hw z0 (by omega) (by omega) with ⟨g, g1, g2, g3, d2, f2⟩ | ⟨v, r2, mv2, P2, d2, f2, w1, w2, w3, w4, w5⟩
  · rw [show k_X2_twoDigits r 1 99 = _ from d2, show k_X6_figures mv 0 2 1 99 = _ from f2]
    dsimp only
    rw [if_neg (nI_nm2 (by omega)), dn2]
    have h2 := PS_1 (PS_1 h (by omega)) (by omega)
    refine Or.inr ⟨rfl, hw, ⟨P + 2, by omega, PS_m (by decide) (by decide) (PS_w (PS_r (by decide) (by decide) h2))⟩, ⟨rfl, fun j hj => va_ne hj, fun j h1 h2 => ?_⟩, _, Or.inr (Or.inr (Or.inr (Or.inl ⟨hl, ⟨g, g1, g2, rfl⟩, rfl, rfl⟩))), rfl⟩
    simp only [m_s, m_r]
    rw [va_ne h2, va_ne h1, va_ne h1]
  · rw [show k_X2_twoDigits r 1 99 = _ from d2, show k_X6_figures mv 0 2 1 99 = _ from f2]
    dsimp only
    rw [if_pos (show (-1 : Int32) = -1 from rfl)]
    exact Or.inl ⟨rfl, w1, ⟨P2, PS_r (by decide) (by decide) w2⟩, w3, fun j hj => by rw [w4], fun j h1 h2 => w5 j h1⟩
theorem cmd_c {r : RV} {mv : MV} {L P : Nat} (h : PS r mv L P) (hw : r.1 2 = 0) (hl : r.1 3 = 99) : BAD r mv L (k_X2_readNumbers r) (cS mv) ∨ GOOD r mv L P (k_X2_readNumbers r) (cS mv) := by
  have z0 : ¬ (0 : Int32) = -1 := by decide
  unfold k_X2_readNumbers cS
  rw [if_pos hl]
  rcases two_F (lo := 0) (hi := 11) h hw z0 (by omega) (by omega) with ⟨g, g1, g2, g3, d2, f2⟩ | ⟨v, r2, mv2, P2, d2, f2, w1, w2, w3, w4, w5⟩
  · rw [show k_X2_twoDigits r 0 11 = _ from d2, show k_X6_figures mv 0 2 0 11 = _ from f2]
    dsimp only
    rw [if_neg (nI_nm2 (by omega))]
    have h2 := PS_1 (PS_1 h (by omega)) (by omega)
    refine Or.inr ?_
    by_cases hs : k_X6_isOrder (mv.2 2) (nI g) = 0
    · rw [if_pos (by exact hs), dnp]
      refine ⟨rfl, hw, ⟨P + 2, by omega, PS_m (by decide) (by decide) (PS_r (by decide) (by decide) h2)⟩, ⟨rfl, fun _ _ => rfl, fun j h1 h2 => ?_⟩, 1, Or.inr (Or.inr (Or.inr (Or.inr ⟨hl, ⟨g, g2, rfl⟩, fun _ => ⟨rfl, rfl⟩, fun q => absurd hs q⟩))), rfl⟩
      simp only [m_s]
      rw [va_ne h2, va_ne h1, va_ne h1]
    · rw [if_neg (by exact hs), dn2]
      refine ⟨rfl, hw, ⟨P + 2, by omega, PS_m (by decide) (by decide) (PS_w (PS_r (by decide) (by decide) h2))⟩, ⟨rfl, fun j hj => va_ne hj, fun j h1 h2 => ?_⟩, _, Or.inr (Or.inr (Or.inr (Or.inr ⟨hl, ⟨g, g2, rfl⟩, fun q => absurd q hs, fun _ => ⟨rfl, rfl⟩⟩))), rfl⟩
      simp only [m_s, m_r]
      rw [va_ne h2, va_ne h1, va_ne h1]
  · rw [show k_X2_twoDigits r 0 11 = _ from d2, show k_X6_figures mv 0 2 0 11 = _ from f2]
    dsimp only
    rw [if_pos (show (-1 : Int32) = -1 from rfl)]
    exact Or.inl ⟨rfl, w1, ⟨P2, PS_r (by decide) (by decide) w2⟩, w3, fun j hj => by rw [w4], fun j h1 h2 => w5 j h1⟩
theorem rcS (mv : MV) : k_X6_readCommand mv = (if ((mv.2 0) ((mv.1 3).toNatClampNeg)) = 99 then cS (m_s mv 3 ((mv.1 3) + 1)) else if ((mv.2 0) ((mv.1 3).toNatClampNeg)) = 108 then k_X6_readOrder (m_s mv 3 ((mv.1 3) + 1)) 0 else if ((mv.2 0) ((mv.1 3).toNatClampNeg)) = 112 then k_X6_readOrder (m_s mv 3 ((mv.1 3) + 1)) 1 else if ((mv.2 0) ((mv.1 3).toNatClampNeg)) = 116 then tS (m_s mv 3 ((mv.1 3) + 1)) else if ((mv.2 0) ((mv.1 3).toNatClampNeg)) = 118 then vS (m_s mv 3 ((mv.1 3) + 1)) else (0, (m_s mv 3 (((mv.1 3) + 1) - 1)))) := by
  unfold k_X6_readCommand
  generalize (mv.2 0) ((mv.1 3).toNatClampNeg) = ch
  by_cases h1 : ch = 99
  · rw [if_pos h1, if_pos h1]; rfl
  rw [if_neg h1, if_neg h1]
  by_cases h2 : ch = 108
  · rw [if_pos h2, if_pos h2, if_neg (by rw [h2]; decide)]
  rw [if_neg h2, if_neg h2]
  by_cases h3 : ch = 112
  · rw [if_pos h3, if_pos h3, if_pos h3]
  rw [if_neg h3, if_neg h3]
  by_cases h4 : ch = 116
  · rw [if_pos h4, if_pos h4]; rfl
  rw [if_neg h4, if_neg h4]
  by_cases h5 : ch = 118
  · rw [if_pos h5, if_pos h5]; rfl
  rw [if_neg h5, if_neg h5]
