/-! Layer 2: figures of a text, read by both. -/
def PS (r : RV) (mv : MV) (L P : Nat) : Prop := L ≤ 120 ∧ P ≤ L ∧ r.1 0 = nI L ∧ mv.1 1 = nI L ∧ r.1 1 = nI P ∧ mv.1 3 = nI P ∧ ∀ i, i < L → r.2 i = mv.2 0 i ∧ ∃ q, q ≤ 255 ∧ r.2 i = nI q
/-- there is the figure e -/
def dg (r : RV) (L P e : Nat) : Prop := P < L ∧ r.2 P = nI (48 + e) ∧ e ≤ 9
/-- there is none -/
def nd (r : RV) (L P : Nat) : Prop := P < L → ∃ q, q ≤ 255 ∧ r.2 P = nI q ∧ (q < 48 ∨ 57 < q)
theorem dg_or {r : RV} {mv : MV} {L P : Nat} (h : PS r mv L P) : (∃ e, dg r L P e) ∨ nd r L P := by
  by_cases hP : P < L
  · obtain ⟨q, h1, h2⟩ := (h.2.2.2.2.2.2 P hP).2
    by_cases hq : 48 ≤ q ∧ q ≤ 57
    · exact Or.inl ⟨q - 48, hP, by rw [show 48 + (q - 48) = q by omega]; exact h2, by omega⟩
    · exact Or.inr (fun _ => ⟨q, h1, h2, by omega⟩)
  · exact Or.inr (fun h => absurd h hP)
theorem here_y {r : RV} {mv : MV} {L P : Nat} (h : PS r mv L P) (hP : P < L) : k_X2_here r = r.2 P := by
  obtain ⟨h1, h2, h3, h4, h5, h6, h7⟩ := h
  have n120 : ¬ (120 : Int32) ≤ nI P := nI_ge (b := 120) (by omega) (by omega)
  unfold k_X2_here
  rw [h5, h3, if_neg (nI_pos (by omega)), if_neg (nI_ge hP (by omega)), if_neg n120, nI_clamp (by omega)]
theorem here_n {r : RV} {mv : MV} {L : Nat} (h : PS r mv L L) : k_X2_here r = 0 := by
  obtain ⟨h1, h2, h3, h4, h5, h6, h7⟩ := h
  unfold k_X2_here
  rw [h5, h3, if_neg (nI_pos (by omega)), if_pos (nI_le (Nat.le_refl _) (by omega))]
theorem sub48 {q : Nat} (h : q ≤ 255) : (nI q - 48).toInt = (q : Int) - 48 := by
  have e : (48 : Int32).toInt = 48 := rfl
  rw [i_sub (by rw [nI_toInt (by omega), e]; omega) (by rw [nI_toInt (by omega), e]; omega), nI_toInt (by omega), e]
theorem dC_y {r : RV} {mv : MV} {L P e lo hi : Nat} (h : PS r mv L P) (hw : r.1 2 = 0) (hd : dg r L P e) (h1 : lo ≤ e) (h2 : e ≤ hi) (h3 : hi ≤ 9) : k_X2_digit r (nI lo) (nI hi) = (nI e, r_s r 1 (nI (P + 1))) := by
  obtain ⟨d1, d2, d3⟩ := hd
  unfold k_X2_digit
  rw [hw, if_pos rfl, here_y h d1, d2, show nI (48 + e) - 48 = nI e from (nI_sub (a := 48 + e) (b := 48) (by omega)).trans (congrArg nI (by omega)), if_neg (nI_nlt h1 (by omega)), if_pos (nI_le h2 (by omega)), h.2.2.2.2.1, nI_1]
theorem dC_n {r : RV} {mv : MV} {L P lo hi : Nat} (h : PS r mv L P) (hw : r.1 2 = 0) (h3 : hi ≤ 9) (hd : nd r L P ∨ ∃ e, dg r L P e ∧ ¬ (lo ≤ e ∧ e ≤ hi)) (h4 : lo ≤ 9) : k_X2_digit r (nI lo) (nI hi) = (0, r_s r 2 1) := by
  have key : ∀ v : Int32, (v.toInt < lo ∨ (hi : Int) < v.toInt) → k_X2_here r - 48 = v → k_X2_digit r (nI lo) (nI hi) = (0, r_s r 2 1) := by
    intro v hv e
    unfold k_X2_digit
    rw [hw, if_pos rfl, e]
    by_cases h5 : v < nI lo
    · rw [if_pos h5]
    · rw [if_neg h5]
      rw [i_lt, nI_toInt (by omega)] at h5
      have h6 : ¬ v ≤ nI hi := by
        rw [i_le, nI_toInt (by omega)]
        omega
      rw [if_neg h6]
  rcases hd with hd | ⟨e, ⟨d1, d2, d3⟩, d4⟩
  · by_cases hP : P < L
    · obtain ⟨q, q1, q2, q3⟩ := hd hP
      refine key _ ?_ (congrArg (· - 48) ((here_y h hP).trans q2))
      rw [sub48 q1]
      omega
    · have : P = L := by have := h.2.1; omega
      subst this
      refine key _ ?_ (congrArg (· - 48) (here_n h))
      have e9 : ((0 : Int32) - 48).toInt = -48 := by decide
      rw [e9]
      omega
  · refine key _ ?_ (congrArg (· - 48) ((here_y h d1).trans d2))
    rw [sub48 (by omega)]
    omega
theorem dC_w {r : RV} {lo hi : Int32} (hw : r.1 2 = 1) : k_X2_digit r lo hi = (0, r_s r 2 1) := by
  unfold k_X2_digit
  rw [hw, if_neg (by decide)]
/-- the reference's step -/
theorem in09 {q : Nat} (h : q ≤ 9) : ¬ k_X6_in ((nI q).toInt64) 0 9 = 0 := in_y (a := 0) (b := 9) (by
  rw [nI_toInt (by omega)]
  have e0 : (0 : Int64).toInt = 0 := rfl
  have e9 : (9 : Int64).toInt = 9 := rfl
  omega)
theorem fS_y {r : RV} {mv mw : MV} {va vd : Int32} {L P e lo hi u acc n : Nat} (h : PS r mw L P) (hd : dg r L P e) (hva : ¬ va = -1) (hu : u = 1 ∨ u = 10) (ha : acc ≤ 90) (h1 : acc + e * u ≤ hi) (h2 : lo ≤ acc + e * u + u - 1) (h3 : hi ≤ 99) : k_X6_figures_L16 mv va vd (nI lo) (nI hi) (n + 1) (nI u) (nI acc) mw = k_X6_figures_L16 mv va vd (nI lo) (nI hi) n (nI u / 10) (nI (acc + e * u)) (m_s mw 3 (nI (P + 1))) := by
  obtain ⟨d1, d2, d3⟩ := hd
  have ht := (h.2.2.2.2.2.2 P d1).1
  obtain ⟨p1, p2, p3, p4, p5, p6, p7⟩ := h
  have hu0 : ¬ nI u ≤ 0 := nI_nle (by omega) (by omega)
  rw [k_X6_figures_L16, if_neg hu0, if_neg hva, p4, p6, if_neg (nI_ge d1 (by omega)), nI_clamp (by omega), ← ht, d2, show nI (48 + e) - 48 = nI e from (nI_sub (a := 48 + e) (b := 48) (by omega)).trans (congrArg nI (by omega)), if_neg (in09 d3), nI_mul, nI_add, if_neg (nI_nlt h1 (by omega))]
  have hm : e * u ≤ 90 := by rcases hu with rfl | rfl <;> omega
  rw [show nI (acc + e * u) + nI u - 1 = nI (acc + e * u + u - 1) from by
    rw [nI_add]
    exact nI_sub (a := acc + e * u + u) (b := 1) (by omega), if_pos (nI_le h2 (by omega)), nI_1]
theorem fS_n {r : RV} {mv mw : MV} {va vd : Int32} {L P lo hi u acc n : Nat} (h : PS r mw L P) (hva : ¬ va = -1) (hu : u = 1 ∨ u = 10) (ha : acc ≤ 90) (h3 : hi ≤ 99) (h4 : lo ≤ 99) (hd : nd r L P ∨ ∃ e, dg r L P e ∧ ¬ (acc + e * u ≤ hi ∧ lo ≤ acc + e * u + u - 1)) : k_X6_figures_L16 mv va vd (nI lo) (nI hi) (n + 1) (nI u) (nI acc) mw = (-1, mw) := by
  obtain ⟨p1, p2, p3, p4, p5, p6, p7⟩ := h
  have hu0 : ¬ nI u ≤ 0 := nI_nle (by omega) (by omega)
  rw [k_X6_figures_L16, if_neg hu0, if_neg hva, p4, p6]
  have z1 : k_X6_in (-1) 0 9 = 0 := by decide
  by_cases hP : P < L
  · rw [if_neg (nI_ge hP (by omega)), nI_clamp (by omega), ← (p7 P hP).1]
    rcases hd with hd | ⟨e, ⟨d1, d2, d3⟩, d4⟩
    · obtain ⟨q, q1, q2, q3⟩ := hd hP
      rw [q2]
      have hz : k_X6_in ((nI q - 48).toInt64) 0 9 = 0 := by
        rcases in01 (a := (nI q - 48).toInt64) (b := 0) (c := 9) with hz | hz
        · exact hz
        · exfalso
          have := in_b (x := nI q - 48) (a := 0) (b := 9) (by rw [hz]; decide)
          rw [sub48 q1] at this
          have e0 : (0 : Int64).toInt = 0 := rfl
          have e9 : (9 : Int64).toInt = 9 := rfl
          omega
      rw [if_pos hz]
    · rw [d2, show nI (48 + e) - 48 = nI e from (nI_sub (a := 48 + e) (b := 48) (by omega)).trans (congrArg nI (by omega)), if_neg (in09 d3), nI_mul, nI_add]
      have hm : e * u ≤ 90 := by rcases hu with rfl | rfl <;> omega
      by_cases h5 : acc + e * u ≤ hi
      · rw [if_neg (nI_nlt h5 (by omega)), show nI (acc + e * u) + nI u - 1 = nI (acc + e * u + u - 1) from by
          rw [nI_add]
          exact nI_sub (a := acc + e * u + u) (b := 1) (by omega), if_neg (nI_ge (by omega) (by omega))]
      · rw [if_pos (nI_lt (by omega) (by omega))]
  · rw [if_pos (nI_le (by omega) (by omega)), if_pos z1]
theorem fig_w {mv : MV} {vd lo hi : Int32} : k_X6_figures mv (-1) vd lo hi = (-1, mv) := by
  unfold k_X6_figures
  split
  · rw [k_X6_figures_L16, if_neg (by decide), if_pos rfl, if_pos rfl]
  · rw [k_X6_figures_L16, if_neg (by decide), if_pos rfl, if_pos rfl]
theorem fE {mv mw : MV} {va vd lo hi acc : Int32} {n : Nat} (hva : ¬ va = -1) : k_X6_figures_L16 mv va vd lo hi (n + 1) 0 acc mw = (acc, mw) := by
  rw [k_X6_figures_L16, if_pos (by decide), if_neg hva]
/-- one figure -/
theorem one_F {r : RV} {mv : MV} {va : Int32} {L P lo hi : Nat} (h : PS r mv L P) (hw : r.1 2 = 0) (hva : ¬ va = -1) (h2 : hi ≤ 9) (h3 : lo ≤ 9) :
    (∃ e, lo ≤ e ∧ e ≤ hi ∧ P < L ∧ k_X2_digit r (nI lo) (nI hi) = (nI e, r_s r 1 (nI (P + 1))) ∧ k_X6_figures mv va 1 (nI lo) (nI hi) = (nI e, m_s mv 3 (nI (P + 1)))) ∨
    (k_X2_digit r (nI lo) (nI hi) = (0, r_s r 2 1) ∧ k_X6_figures mv va 1 (nI lo) (nI hi) = (-1, mv)) := by
  have h12 : ¬ (1 : Int32) = 2 := by decide
  unfold k_X6_figures
  rw [if_neg h12]
  by_cases hd : ∃ e, dg r L P e ∧ lo ≤ e ∧ e ≤ hi
  · obtain ⟨e, d1, d2, d3⟩ := hd
    refine Or.inl ⟨e, d2, d3, d1.1, dC_y h hw d1 d2 d3 h2, ?_⟩
    have := fS_y (n := 2) (mv := mv) (vd := 1) h d1 hva (u := 1) (Or.inl rfl) (acc := 0) (by omega) (hi := hi) (by omega) (lo := lo) (by omega) (by omega)
    refine this.trans ?_
    rw [show nI 1 / 10 = 0 by decide, fE hva, Nat.zero_add, Nat.mul_one]
  · have hd2 : nd r L P ∨ ∃ e, dg r L P e ∧ ¬ (lo ≤ e ∧ e ≤ hi) := by
      rcases dg_or h with ⟨e, d⟩ | d
      · exact Or.inr ⟨e, d, fun q => hd ⟨e, d, q⟩⟩
      · exact Or.inl d
    refine Or.inr ⟨dC_n h hw h2 hd2 h3, ?_⟩
    refine fS_n (n := 2) (mv := mv) (vd := 1) h hva (u := 1) (Or.inl rfl) (acc := 0) (by omega) (hi := hi) (by omega) (lo := lo) (by omega) ?_
    rcases hd2 with d | ⟨e, d, q⟩
    · exact Or.inl d
    · exact Or.inr ⟨e, d, fun z => q (by omega)⟩
theorem PS_1 {r : RV} {mv : MV} {L P : Nat} (h : PS r mv L P) (hP : P < L) : PS (r_s r 1 (nI (P + 1))) (m_s mv 3 (nI (P + 1))) L (P + 1) := by
  obtain ⟨p1, p2, p3, p4, p5, p6, p7⟩ := h
  exact ⟨p1, hP, p3, p4, rfl, rfl, p7⟩
/-- two figures -/
theorem two_F {r : RV} {mv : MV} {va : Int32} {L P lo hi : Nat} (h : PS r mv L P) (hw : r.1 2 = 0) (hva : ¬ va = -1) (h2 : hi ≤ 99) (h3 : lo ≤ hi) :
    (∃ e, lo ≤ e ∧ e ≤ hi ∧ P + 1 < L ∧ k_X2_twoDigits r (nI lo) (nI hi) = (nI e, r_s (r_s r 1 (nI (P + 1))) 1 (nI (P + 2))) ∧ k_X6_figures mv va 2 (nI lo) (nI hi) = (nI e, m_s (m_s mv 3 (nI (P + 1))) 3 (nI (P + 2)))) ∨
    (∃ v r2 mv2 P2, k_X2_twoDigits r (nI lo) (nI hi) = (v, r2) ∧ k_X6_figures mv va 2 (nI lo) (nI hi) = (-1, mv2) ∧ r2.1 2 = 1 ∧ PS r2 mv2 L P2 ∧ r2.2 = r.2 ∧ mv2.2 = mv.2 ∧ ∀ j, j ≠ 3 → mv2.1 j = mv.1 j) := by
  have h12 : (2 : Int32) = 2 := rfl
  have q1 : nI lo / 10 = nI (lo / 10) := nI_div (b := 10) (by omega) (by omega) (by omega)
  have q2 : nI hi / 10 = nI (hi / 10) := nI_div (b := 10) (by omega) (by omega) (by omega)
  have q3 : nI lo - nI (lo / 10) * 10 = nI (lo % 10) := by rw [← q1]; exact nI_mod (b := 10) (by omega) (by omega) (by omega)
  have q4 : nI hi - nI (hi / 10) * 10 = nI (hi % 10) := by rw [← q2]; exact nI_mod (b := 10) (by omega) (by omega) (by omega)
  unfold k_X6_figures k_X2_twoDigits
  rw [if_pos h12, q1, q2, q3, q4]
  by_cases hd : ∃ e, dg r L P e ∧ lo / 10 ≤ e ∧ e ≤ hi / 10
  · obtain ⟨e, d1, d2, d3⟩ := hd
    have hP := d1.1
    have he9 := d1.2.2
    have f1 : k_X6_figures_L16 mv va 2 (nI lo) (nI hi) 3 10 0 mv = k_X6_figures_L16 mv va 2 (nI lo) (nI hi) 2 1 (nI (e * 10)) (m_s mv 3 (nI (P + 1))) := by
      have := fS_y (n := 2) (mv := mv) (vd := 2) h d1 hva (u := 10) (Or.inr rfl) (acc := 0) (by omega) (hi := hi) (by omega) (lo := lo) (by omega) (by omega)
      rw [Nat.zero_add] at this
      exact this
    rw [dC_y h hw d1 d2 d3 (by omega), f1]
    dsimp only
    have h' := PS_1 h hP
    have hw' : (r_s r 1 (nI (P + 1))).1 2 = 0 := hw
    -- the second figure's range
    have cl : ∀ (X Y : Nat) (lo2 hi2 : Nat), lo2 ≤ 9 → hi2 ≤ 9 → (∀ e2, e2 ≤ 9 → ((lo2 ≤ e2 ∧ e2 ≤ hi2) ↔ (e * 10 + e2 ≤ hi ∧ lo ≤ e * 10 + e2))) →
        (∃ e9, lo ≤ e9 ∧ e9 ≤ hi ∧ P + 1 < L ∧ (match (k_X2_digit (r_s r 1 (nI (P + 1))) (nI lo2) (nI hi2)) with | (r_59, o_59) => (((10 * nI e) + r_59), o_59)) = (nI e9, r_s (r_s r 1 (nI (P + 1))) 1 (nI (P + 2))) ∧ k_X6_figures_L16 mv va 2 (nI lo) (nI hi) 2 1 (nI (e * 10)) (m_s mv 3 (nI (P + 1))) = (nI e9, m_s (m_s mv 3 (nI (P + 1))) 3 (nI (P + 2)))) ∨
        (∃ v r2 mv2 P2, (match (k_X2_digit (r_s r 1 (nI (P + 1))) (nI lo2) (nI hi2)) with | (r_59, o_59) => (((10 * nI e) + r_59), o_59)) = (v, r2) ∧ k_X6_figures_L16 mv va 2 (nI lo) (nI hi) 2 1 (nI (e * 10)) (m_s mv 3 (nI (P + 1))) = (-1, mv2) ∧ r2.1 2 = 1 ∧ PS r2 mv2 L P2 ∧ r2.2 = r.2 ∧ mv2.2 = mv.2 ∧ ∀ j, j ≠ 3 → mv2.1 j = mv.1 j) := by
      intro _ _ lo2 hi2 hl hh hiff
      by_cases hd9 : ∃ e2, dg (r_s r 1 (nI (P + 1))) L (P + 1) e2 ∧ lo2 ≤ e2 ∧ e2 ≤ hi2
      · obtain ⟨e2, g1, g2, g3⟩ := hd9
        have g4 := (hiff e2 g1.2.2).mp ⟨g2, g3⟩
        refine Or.inl ⟨e * 10 + e2, g4.2, g4.1, g1.1, ?_, ?_⟩
        · rw [dC_y h' hw' g1 g2 g3 hh]
          dsimp only
          rw [show (10 * nI e : Int32) = nI (10 * e) from nI_mul 10 e, nI_add, Nat.mul_comm]
        · have := fS_y (n := 1) (mv := mv) (va := va) (vd := 2) h' g1 hva (u := 1) (Or.inl rfl) (acc := e * 10) (by omega) (hi := hi) (by omega) (lo := lo) (by omega) (by omega)
          refine this.trans ?_
          rw [show nI 1 / 10 = 0 by decide, fE hva, Nat.mul_one]
      · have hd2 : nd (r_s r 1 (nI (P + 1))) L (P + 1) ∨ ∃ e2, dg (r_s r 1 (nI (P + 1))) L (P + 1) e2 ∧ ¬ (lo2 ≤ e2 ∧ e2 ≤ hi2) := by
          rcases dg_or h' with ⟨e2, d⟩ | d
          · exact Or.inr ⟨e2, d, fun q => hd9 ⟨e2, d, q⟩⟩
          · exact Or.inl d
        refine Or.inr ⟨10 * nI e + 0, r_s (r_s r 1 (nI (P + 1))) 2 1, m_s mv 3 (nI (P + 1)), P + 1, ?_, ?_, rfl, ?_, rfl, rfl, fun j hj => va_ne hj⟩
        · rw [dC_n h' hw' hh hd2 hl]
        · refine fS_n (n := 1) (mv := mv) (va := va) (vd := 2) h' hva (u := 1) (Or.inl rfl) (acc := e * 10) (by omega) (hi := hi) (by omega) (lo := lo) (by omega) ?_
          rcases hd2 with d | ⟨e2, d, q⟩
          · exact Or.inl d
          · refine Or.inr ⟨e2, d, fun z => q ((hiff e2 d.2.2).mpr ⟨by omega, by omega⟩)⟩
        · obtain ⟨p1, p2, p3, p4, p5, p6, p7⟩ := h'
          exact ⟨p1, p2, p3, p4, p5, p6, p7⟩
    by_cases c1 : e = lo / 10
    · rw [if_pos (congrArg nI c1)]
      by_cases c2 : e = hi / 10
      · rw [if_pos (congrArg nI c2)]
        exact cl 0 0 (lo % 10) (hi % 10) (by omega) (by omega) (fun e2 _ => by omega)
      · rw [if_neg (fun z => c2 ((nI_eq (by omega) (by omega)).mp z))]
        exact cl 0 0 (lo % 10) 9 (by omega) (by omega) (fun e2 _ => by omega)
    · rw [if_neg (fun z => c1 ((nI_eq (by omega) (by omega)).mp z))]
      by_cases c2 : e = hi / 10
      · rw [if_pos (congrArg nI c2)]
        exact cl 0 0 0 (hi % 10) (by omega) (by omega) (fun e2 _ => by omega)
      · rw [if_neg (fun z => c2 ((nI_eq (by omega) (by omega)).mp z))]
        exact cl 0 0 0 9 (by omega) (by omega) (fun e2 _ => by omega)
  · have hd2 : nd r L P ∨ ∃ e, dg r L P e ∧ ¬ (lo / 10 ≤ e ∧ e ≤ hi / 10) := by
      rcases dg_or h with ⟨e, d⟩ | d
      · exact Or.inr ⟨e, d, fun q => hd ⟨e, d, q⟩⟩
      · exact Or.inl d
    have ff : k_X6_figures_L16 mv va 2 (nI lo) (nI hi) 3 10 0 mv = (-1, mv) := by
      refine fS_n (n := 2) (mv := mv) (vd := 2) h hva (u := 10) (Or.inr rfl) (acc := 0) (by omega) (hi := hi) (by omega) (lo := lo) (by omega) ?_
      rcases hd2 with d | ⟨e, d, q⟩
      · exact Or.inl d
      · exact Or.inr ⟨e, d, fun z => q (by omega)⟩
    rw [ff, dC_n h hw (by omega) hd2 (by omega)]
    dsimp only
    have w : (r_s r 2 1).1 2 = 1 := rfl
    refine Or.inr ⟨0, r_s (r_s r 2 1) 2 1, mv, P, ?_, rfl, rfl, ?_, rfl, rfl, fun _ _ => rfl⟩
    · simp only [dC_w w]
      split <;> split <;> rfl
    · obtain ⟨p1, p2, p3, p4, p5, p6, p7⟩ := h
      exact ⟨p1, p2, p3, p4, p5, p6, p7⟩
theorem two_w {r : RV} {lo hi : Int32} (hw : r.1 2 = 1) : ∃ v, k_X2_twoDigits r lo hi = (v, r_s (r_s r 2 1) 2 1) := by
  have w : (r_s r 2 1).1 2 = 1 := rfl
  unfold k_X2_twoDigits
  rw [dC_w hw]
  dsimp only
  simp only [dC_w w]
  split <;> split <;> exact ⟨_, rfl⟩
