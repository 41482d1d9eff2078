/-! Layer 2: the order that is watched, and the one that is marked. -/
def smk (t k : Nat) (g : Nat → Int32) (j : Nat) : Prop := ∃ q, q ≤ (if j < k then t + 1 else t) ∧ g j = nI q
def bgk (t k : Nat) (g : Nat → Int32) (j : Nat) : Prop := ∃ q, q ≤ (if j < k then t + 1 else t) ∧ g j = nI (1000 + q)
def P2 (t : Nat) : WP := fun k M w _ g => (w = -1 ∧ ∀ j, j < M → smk t k g j) ∨ ∃ x, x < M ∧ w = nI x ∧ bgk t k g x ∧ ∀ j, j < M → j ≠ x → smk t k g j
theorem smk_inc {t k j : Nat} {g : Nat → Int32} (h : smk t k g j) : smk t (k + 1) (va_up g k (g k + 1)) j := by
  obtain ⟨q, h1, h2⟩ := h
  by_cases hj : j = k
  · subst hj
    rw [if_neg (by omega)] at h1
    exact ⟨q + 1, by rw [if_pos (by omega)]; omega, by rw [va_eq, h2, nI_1]⟩
  · refine ⟨q, ?_, by rw [va_ne hj]; exact h2⟩
    split at h1 <;> split <;> omega
theorem bgk_inc {t k j : Nat} {g : Nat → Int32} (h : bgk t k g j) : bgk t (k + 1) (va_up g k (g k + 1)) j := by
  obtain ⟨q, h1, h2⟩ := h
  by_cases hj : j = k
  · subst hj
    rw [if_neg (by omega)] at h1
    exact ⟨q + 1, by rw [if_pos (by omega)]; omega, by rw [va_eq, h2, nI_1]; rfl⟩
  · refine ⟨q, ?_, by rw [va_ne hj]; exact h2⟩
    split at h1 <;> split <;> omega
theorem smk_rm {t k j : Nat} {g : Nat → Int32} (h : smk t k g (if j < k then j else j + 1)) : smk t k (rmv g k) j := by
  obtain ⟨q, h1, h2⟩ := h
  refine ⟨q, ?_, ?_⟩
  · by_cases hj : j < k
    · rw [if_pos hj, if_pos hj] at h1
      rw [if_pos hj]; exact h1
    · rw [if_neg hj, if_neg (by omega)] at h1
      rw [if_neg hj]; exact h1
  · unfold rmv
    split
    · rename_i h; rw [if_pos h] at h2; exact h2
    · rename_i h; rw [if_neg h] at h2; exact h2
theorem bgk_rm {t k j : Nat} {g : Nat → Int32} (h : bgk t k g (if j < k then j else j + 1)) : bgk t k (rmv g k) j := by
  obtain ⟨q, h1, h2⟩ := h
  refine ⟨q, ?_, ?_⟩
  · by_cases hj : j < k
    · rw [if_pos hj, if_pos hj] at h1
      rw [if_pos hj]; exact h1
    · rw [if_neg hj, if_neg (by omega)] at h1
      rw [if_neg hj]; exact h1
  · unfold rmv
    split
    · rename_i h; rw [if_pos h] at h2; exact h2
    · rename_i h; rw [if_neg h] at h2; exact h2
theorem nI_nm {x : Nat} (h : x < 2 ^ 31) : ¬ nI x = -1 := fun e => by
  have := congrArg Int32.toInt e
  rw [nI_toInt h] at this
  have e9 : (-1 : Int32).toInt = -1 := rfl
  omega
theorem P2_C (t : Nat) : WC (P2 t) := by
  refine ⟨fun k M w f g f2 g2 h1 h2 h => ?_, fun k M w f g hk hM h => ?_, fun k M w f g hk hM h => ?_⟩
  · have sm : ∀ j, j < M → smk t k g j → smk t k g2 j := fun j hj ⟨q, a, b⟩ => ⟨q, a, by rw [← h2 j hj]; exact b⟩
    rcases h with ⟨h3, h4⟩ | ⟨x, hx, h3, ⟨q, a, b⟩, h5⟩
    · exact Or.inl ⟨h3, fun j hj => sm j hj (h4 j hj)⟩
    · exact Or.inr ⟨x, hx, h3, ⟨q, a, by rw [← h2 x hx]; exact b⟩, fun j hj hjx => sm j hj (h5 j hj hjx)⟩
  · rcases h with ⟨h3, h4⟩ | ⟨x, hx, h3, h4, h5⟩
    · exact Or.inl ⟨h3, fun j hj => smk_inc (h4 j hj)⟩
    · exact Or.inr ⟨x, hx, h3, bgk_inc h4, fun j hj hjx => smk_inc (h5 j hj hjx)⟩
  · have kx : ∀ j, j < M - 1 → (if j < k then j else j + 1) < M := fun j hj => by split <;> omega
    rcases h with ⟨h3, h4⟩ | ⟨x, hx, h3, h4, h5⟩
    · refine Or.inl ⟨?_, fun j hj => smk_rm (h4 _ (kx j hj))⟩
      unfold wdr
      rw [h3, if_neg (nI_nm (by omega)), if_pos]
      rw [i_le, nI_toInt (by omega)]
      have e9 : (-1 : Int32).toInt = -1 := rfl
      omega
    · rw [h3]
      unfold wdr
      by_cases hxk : k = x
      · subst hxk
        rw [if_pos rfl]
        exact Or.inl ⟨rfl, fun j hj => smk_rm (h5 _ (kx j hj) (by split <;> omega))⟩
      · rw [if_neg (fun h => hxk ((nI_eq (by omega) (by omega)).mp h))]
        by_cases hlt : x < k
        · rw [if_pos (nI_le (by omega) (by omega))]
          refine Or.inr ⟨x, by omega, rfl, bgk_rm (by rw [if_pos hlt]; exact h4), fun j hj hjx => smk_rm (h5 _ (kx j hj) (by split <;> omega))⟩
        · rw [if_neg (nI_ge (by omega) (by omega))]
          refine Or.inr ⟨x - 1, by omega, nI_sub (a := x) (b := 1) (by omega), bgk_rm (by rw [if_neg (by omega), show x - 1 + 1 = x by omega]; exact h4), fun j hj hjx => smk_rm (h5 _ (kx j hj) (by split <;> omega))⟩
/-- t ticks after the mark -/
def RM (t : Nat) (o : OV) (s : Nat → Int32) : Prop := ∃ N M, RC o s N M ∧ P2 t 0 M (o.1 9) (wO o) (wS s)
theorem RM_tick {t : Nat} {o : OV} {s : Nat → Int32} (h : RM t o s) : RM (t + 1) (tkC o) (k_X6_tick s) := by
  obtain ⟨N, M, h1, h2⟩ := h
  obtain ⟨N2, M2, h3, h4⟩ := tick_R (P2_C t) h1 h2
  refine ⟨N2, M2, h3, ?_⟩
  have sm : ∀ j, j < M2 → smk t M2 (wS (k_X6_tick s)) j → smk (t + 1) 0 (wS (k_X6_tick s)) j := fun j hj ⟨q, a, b⟩ => ⟨q, by rw [if_pos hj] at a; rw [if_neg (by omega)]; exact a, b⟩
  rcases h4 with ⟨h3, h4⟩ | ⟨x, hx, h3, ⟨q, a, b⟩, h5⟩
  · exact Or.inl ⟨h3, fun j hj => sm j hj (h4 j hj)⟩
  · exact Or.inr ⟨x, hx, h3, ⟨q, by rw [if_pos hx] at a; rw [if_neg (by omega)]; exact a, b⟩, fun j hj hjx => sm j hj (h5 j hj hjx)⟩
/-- the marks are set -/
theorem mk_L {mv : MV} {x : Nat} {M : Nat} (hM : M ≤ 12) (hx9 : x < 2 ^ 31) : ∀ (n k : Nat) (mw : MV), k ≤ M → M - k < n → mw.2 2 1 = nI M → ∃ s2 : Nat → Int32, k_X6_doneIn_L40 mv (nI x) n (nI k) mw = k_X6_doneIn_L84 mv (nI x) 101 1 (m_r mw 2 s2) ∧ (∀ j c, j < 12 → c < 4 → s2 (157 + 5 * j + c) = mw.2 2 (157 + 5 * j + c)) ∧ (∀ i, (i < 157 ∨ 217 ≤ i) → s2 i = mw.2 2 i) ∧ (∀ j, j < k → s2 (157 + 5 * j + 4) = mw.2 2 (157 + 5 * j + 4)) ∧ ∀ j, k ≤ j → j < M → s2 (157 + 5 * j + 4) = if j = x then 1000 else 0 := by
  intro n
  induction n with
  | zero => intro k mw h1 h2; omega
  | succ n ih =>
    intro k mw h1 h2 h3
    unfold k_X6_doneIn_L40
    rw [h3]
    by_cases hk : k = M
    · subst hk
      rw [if_pos (nI_le (Nat.le_refl _) (by omega))]
      refine ⟨mw.2 2, ?_, fun _ _ _ _ => rfl, fun _ _ => rfl, fun _ _ => rfl, fun j h4 h5 => by omega⟩
      congr 1
      unfold m_r
      refine Prod.ext rfl (funext fun j => ?_)
      show mw.2 j = if j = 2 then mw.2 2 else mw.2 j
      by_cases h : j = 2
      · rw [if_pos h, h]
      · rw [if_neg h]
    rw [if_neg (nI_ge (by omega) (by omega)), nI_1]
    have e1 : ((157 + 5 * nI k : Int32) + 4).toNatClampNeg = 157 + 5 * k + 4 := by
      rw [show (157 + 5 * nI k : Int32) + 4 = nI (157 + 5 * k + 4) from by rw [← nI_add, ← nI_add, ← nI_mul]; rfl, nI_clamp (by omega)]
    rw [e1]
    have step : ∀ v : Int32, (v = if k = x then 1000 else 0) → ∃ s2 : Nat → Int32, k_X6_doneIn_L40 mv (nI x) n (nI (k + 1)) (m_r mw 2 (va_up (mw.2 2) (157 + 5 * k + 4) v)) = k_X6_doneIn_L84 mv (nI x) 101 1 (m_r mw 2 s2) ∧ (∀ j c, j < 12 → c < 4 → s2 (157 + 5 * j + c) = mw.2 2 (157 + 5 * j + c)) ∧ (∀ i, (i < 157 ∨ 217 ≤ i) → s2 i = mw.2 2 i) ∧ (∀ j, j < k → s2 (157 + 5 * j + 4) = mw.2 2 (157 + 5 * j + 4)) ∧ ∀ j, k ≤ j → j < M → s2 (157 + 5 * j + 4) = if j = x then 1000 else 0 := by
      intro v hv
      have hrow : (m_r mw 2 (va_up (mw.2 2) (157 + 5 * k + 4) v)).2 2 = va_up (mw.2 2) (157 + 5 * k + 4) v := rfl
      obtain ⟨s2, g1, g2, g3, g4, g5⟩ := ih (k + 1) (m_r mw 2 (va_up (mw.2 2) (157 + 5 * k + 4) v)) (by omega) (by omega) (by rw [hrow, va_ne (by omega)]; exact h3)
      rw [hrow] at g2 g3 g4
      refine ⟨s2, ?_, fun j c hj hc => ?_, fun i hi => ?_, fun j hj => ?_, fun j h4 h5 => ?_⟩
      · rw [g1]
        congr 1
        unfold m_r
        refine Prod.ext rfl (funext fun j => ?_)
        unfold va_up
        dsimp only
        split <;> rfl
      · rw [g2 j c hj hc, va_ne (by omega)]
      · rw [g3 i hi, va_ne (by omega)]
      · rw [g4 j (by omega), va_ne (by omega)]
      · by_cases hjk : j = k
        · subst hjk
          rw [g4 j (by omega), va_eq]
          exact hv
        · exact g5 j (by omega) h5
    by_cases hkx : k = x
    · rw [if_pos (congrArg nI hkx)]
      exact step 1000 (if_pos hkx).symm
    · by_cases hkx2 : nI k = nI x
      · exact absurd ((nI_eq (by omega) (by omega)).mp hkx2) hkx
      · rw [if_neg hkx2]
        exact step 0 (if_neg hkx).symm
/-- the look for the mark -/
theorem lk_L {mv mx : MV} {vk : Int32} {M : Nat} (hM : M ≤ 12) (h1 : mx.2 2 1 = nI M) : ∀ (n i : Nat) (acc : Int32), i ≤ M → M - i < n → (k_X6_doneIn_L102 mv vk n (nI i) acc mx = 0 ↔ acc = 0 ∧ ∀ j, i ≤ j → j < M → mx.2 2 (157 + 5 * j + 4) < 1000) := by
  intro n
  induction n with
  | zero => intro k acc h1 h2; omega
  | succ n ih =>
    intro i acc h2 h3
    unfold k_X6_doneIn_L102
    rw [h1]
    by_cases hk : i = M
    · subst hk
      rw [if_pos (nI_le (Nat.le_refl _) (by omega))]
      exact ⟨fun h => ⟨h, fun j h4 h5 => by omega⟩, fun h => h.1⟩
    rw [if_neg (nI_ge (by omega) (by omega)), nI_1, show k_X6_order (mx.2 2) (nI i) 4 = mx.2 2 (157 + 5 * i + 4) from od (w := 4) (by omega) (by omega)]
    have step : ∀ a : Int32, (a = 0 ↔ (acc = 0 ∧ mx.2 2 (157 + 5 * i + 4) < 1000)) → (k_X6_doneIn_L102 mv vk n (nI (i + 1)) a mx = 0 ↔ acc = 0 ∧ ∀ j, i ≤ j → j < M → mx.2 2 (157 + 5 * j + 4) < 1000) := by
      intro a ha
      rw [ih (i + 1) a (by omega) (by omega), ha]
      constructor
      · rintro ⟨⟨h5, h6⟩, h7⟩
        refine ⟨h5, fun k h8 h9 => ?_⟩
        by_cases hk : k = i
        · rw [hk]; exact h6
        · exact h7 k (by omega) h9
      · rintro ⟨h5, h6⟩
        exact ⟨⟨h5, h6 i (Nat.le_refl _) (by omega)⟩, fun k h8 h9 => h6 k (by omega) h9⟩
    by_cases ha : acc = 0
    · rw [if_pos ha]
      by_cases hlt : mx.2 2 (157 + 5 * i + 4) < 1000
      · rw [if_pos hlt]
        exact step 0 ⟨fun _ => ⟨ha, hlt⟩, fun _ => rfl⟩
      · rw [if_neg hlt]
        exact step 1 ⟨fun h => absurd h (by decide), fun h => absurd h.2 hlt⟩
    · rw [if_neg ha]
      exact step 1 ⟨fun h => absurd h (by decide), fun h => absurd h.1 ha⟩
theorem lk_R {mv mx : MV} {vk : Int32} {t : Nat} {o : OV} (ht : t ≤ 100) (h : RM t o (mx.2 2)) : k_X6_doneIn_L102 mv vk 13 0 0 mx = 0 ↔ o.1 9 = -1 := by
  obtain ⟨N, M, h1, h2⟩ := h
  have hM := h1.1.2.1.2.1
  refine (lk_L hM h1.1.2.1.1 13 0 0 (Nat.zero_le _) (by omega)).trans ?_
  have sm : ∀ j, smk t 0 (wS (mx.2 2)) j → mx.2 2 (157 + 5 * j + 4) < 1000 := by
    rintro j ⟨q, a, b⟩
    rw [if_neg (by omega)] at a
    have b : mx.2 2 (157 + 5 * j + 4) = nI q := b
    rw [b]
    exact nI_lt (b := 1000) (by omega) (by omega)
  rcases h2 with ⟨h3, h4⟩ | ⟨x, hx, h3, ⟨q, a, b⟩, h5⟩
  · exact ⟨fun _ => h3, fun _ => ⟨rfl, fun j _ hj => sm j (h4 j hj)⟩⟩
  · constructor
    · rintro ⟨-, h6⟩
      have b : mx.2 2 (157 + 5 * x + 4) = nI (1000 + q) := b
      have h7 := h6 x (Nat.zero_le _) hx
      rw [if_neg (by omega)] at a
      rw [b] at h7
      exact absurd h7 (nI_nlt (b := 1000) (by omega) (by omega))
    · intro h6
      rw [h3] at h6
      exact absurd h6 (nI_nm (by omega))
