/-! Layer 2: tables of the class, and the reference's row, by numbers. -/
theorem cell_ok {C M k c : Nat} {t : TV} (hk : k < M) (hc : c < C) (hM : M ≤ 30) (hC : C ≤ 5) : k_X4_hasCell (nI C) (nI M) t (nI k) (nI c) = 1 := by
  unfold k_X4_hasCell
  rw [if_neg (nI_pos (by omega)), if_neg (nI_ge hk (by omega)), if_neg (nI_pos (by omega)), if_neg (nI_ge hc (by omega))]
theorem cl_ix {C k c : Nat} (hk : k < 30) (hc : c < 5) (hC : C ≤ 5) : (nI k * nI C + nI c).toNatClampNeg = C * k + c := by
  have h : k * C ≤ 30 * 5 := Nat.mul_le_mul (by omega) hC
  rw [nI_mul, nI_add, nI_clamp (by omega), Nat.mul_comm]
theorem at_eq {C M k c : Nat} {t : TV} (hk : k < M) (hc : c < C) (hM : M ≤ 30) (hC : C ≤ 5) : k_X4_at (nI C) (nI M) t (nI k) (nI c) = t.2 (C * k + c) := by
  unfold k_X4_at
  rw [cell_ok hk hc hM hC, if_neg (by decide), cl_ix (by omega) (by omega) hC]
theorem wr_eq {C M k c : Nat} {t : TV} {v : Int32} (hk : k < M) (hc : c < C) (hM : M ≤ 30) (hC : C ≤ 5) : k_X4_write (nI C) (nI M) t (nI k) (nI c) v = (t.1, va_up t.2 (C * k + c) v) := by
  unfold k_X4_write
  rw [cell_ok hk hc hM hC, if_neg (by decide), cl_ix (by omega) (by omega) hC]
theorem full_n {C M n : Nat} {t : TV} (h : t.1 = nI n) (hn : n < M) (hM : M ≤ 30) : k_X4_isFull (nI C) (nI M) t = 0 := by
  unfold k_X4_isFull
  rw [h, if_pos (nI_lt hn (by omega))]
theorem full_y {C M : Nat} {t : TV} (h : t.1 = nI M) (hM : M ≤ 30) : k_X4_isFull (nI C) (nI M) t = 1 := by
  unfold k_X4_isFull
  rw [h, if_neg (nI_nlt (Nat.le_refl _) (by omega))]
theorem addl_eq {C M n : Nat} {t : TV} (h : t.1 = nI n) (hn : n < M) (hM : M ≤ 30) : k_X4_addLine (nI C) (nI M) t = (nI n, (nI (n + 1), t.2)) := by
  unfold k_X4_addLine
  rw [full_n h hn hM, if_pos rfl, h, nI_1, nI_pred]
theorem has_y {k n : Nat} {t : TV} (h : t.1 = nI n) (hk : k < n) (hn : n ≤ 30) : k_X4_has t (nI k) = 1 := by
  unfold k_X4_has
  rw [if_neg (nI_pos (by omega)), h, if_neg (nI_ge hk (by omega))]
theorem rm_eq {C M k n : Nat} {t : TV} (h : t.1 = nI n) (hk : k < n) (hn : n ≤ 30) (hC : C ≤ 5) : k_X4_removeLine (nI C) (nI M) t (nI k) = (nI (n - 1), va_cpy t.2 t.2 (C * (k + 1)) (C * k) (C * (n - 1 - k))) := by
  have e1 : C * (k + 1) ≤ 5 * 30 := Nat.mul_le_mul hC (by omega)
  have e2 : C * k ≤ 5 * 30 := Nat.mul_le_mul hC (by omega)
  have e3 : C * (n - 1 - k) ≤ 5 * 30 := Nat.mul_le_mul hC (by omega)
  unfold k_X4_removeLine
  rw [has_y h hk hn, if_neg (by decide), h, nI_1, show nI n - 1 = nI (n - 1) from nI_sub (a := n) (b := 1) (by omega), nI_sub (by omega), nI_mul, nI_mul, nI_mul, nI_clamp (by rw [Nat.mul_comm]; omega), nI_clamp (by rw [Nat.mul_comm]; omega), nI_clamp (by rw [Nat.mul_comm]; omega), Nat.mul_comm C, Nat.mul_comm C, Nat.mul_comm C]
/-- the reference's row: a peg's and an order's numbers -/
theorem pg {s : Nat → Int32} {k w : Nat} (hk : k ≤ 30) (hw : w ≤ 3) : k_X6_peg s (nI k) (nI w) = s (37 + 4 * k + w) := by
  have h := peg_at (sx := s) (k := nI k) (w := nI w) (by rw [nI_toInt (by omega)]; omega) (by rw [nI_toInt (by omega)]; omega)
  rw [nI_toInt (by omega), nI_toInt (by omega)] at h
  exact h
theorem od {s : Nat → Int32} {k w : Nat} (hk : k ≤ 11) (hw : w ≤ 4) : k_X6_order s (nI k) (nI w) = s (157 + 5 * k + w) := by
  have h := ord_at (sx := s) (k := nI k) (w := nI w) (by rw [nI_toInt (by omega)]; omega) (by rw [nI_toInt (by omega)]; omega)
  rw [nI_toInt (by omega), nI_toInt (by omega)] at h
  exact h
/-- a row's shift down by C from j up to the last line -/
def shf (s : Nat → Int32) (C a b : Nat) : Nat → Int32 := fun i => if a ≤ i ∧ i < b then s (i + C) else s i
theorem dO_L {s : Nat → Int32} {vk : Int32} {N : Nat} (hN : N ≤ 12) (h1 : 1 ≤ N) : ∀ (n j : Nat) (xw : Nat → Int32), xw 1 = nI N → 157 ≤ j → j ≤ 157 + 5 * (N - 1) → 157 + 5 * (N - 1) - j < n → k_X6_dropOrder_L8 s vk n (nI j) xw = va_up (shf xw 5 j (157 + 5 * (N - 1))) 1 (nI (N - 1)) := by
  intro n
  induction n with
  | zero => intro j xw h2 h3 h4 h5; omega
  | succ n ih =>
    intro j xw h2 h3 h4 h5
    unfold k_X6_dropOrder_L8
    have e1 : (157 + (5 * ((xw 1) - 1)) : Int32) = nI (157 + 5 * (N - 1)) := by
      rw [h2, show nI N - 1 = nI (N - 1) from nI_sub (a := N) (b := 1) h1, ← nI_add, ← nI_mul]; rfl
    rw [e1]
    by_cases hj : 157 + 5 * (N - 1) ≤ j
    · rw [if_pos (nI_le hj (by omega)), h2, show nI N - 1 = nI (N - 1) from nI_sub (a := N) (b := 1) h1]
      funext i
      dsimp only [va_up, shf]
      rw [if_neg (c := j ≤ i ∧ i < 157 + 5 * (N - 1)) (by omega)]
    · rw [if_neg (nI_ge (by omega) (by omega)), nI_1, show nI j + 5 = nI (j + 5) from nI_add j 5, nI_clamp (by omega), nI_clamp (by omega)]
      rw [ih (j + 1) _ (by rw [va_ne (by omega)]; exact h2) (by omega) (by omega) (by omega)]
      funext i
      dsimp only [va_up, shf]
      by_cases hi : i = 1
      · rw [if_pos hi, if_pos hi]
      rw [if_neg hi, if_neg hi]
      by_cases hi2 : i = j
      · subst hi2
        rw [if_neg (by omega), if_pos rfl, if_pos (by omega)]
      · by_cases hi3 : j + 1 ≤ i ∧ i < 157 + 5 * (N - 1)
        · rw [if_pos hi3, if_neg (by omega), if_pos (by omega)]
        · rw [if_neg hi3, if_neg hi2, if_neg (by omega)]
theorem dO_eq {s : Nat → Int32} {k N : Nat} (h : s 1 = nI N) (hN : N ≤ 12) (hk : k < N) : k_X6_dropOrder s (nI k) = va_up (shf s 5 (157 + 5 * k) (157 + 5 * (N - 1))) 1 (nI (N - 1)) := by
  unfold k_X6_dropOrder
  rw [show (157 + 5 * nI k : Int32) = nI (157 + 5 * k) from by rw [← nI_add, ← nI_mul]; rfl]
  exact dO_L hN (by omega) 150 _ s h (by omega) (by omega) (by omega)
theorem dP_L {s : Nat → Int32} {vk : Int32} {N : Nat} (hN : N ≤ 30) (h1 : 1 ≤ N) : ∀ (n j : Nat) (xw : Nat → Int32), xw 0 = nI N → 37 ≤ j → j ≤ 37 + 4 * (N - 1) → 37 + 4 * (N - 1) - j < n → k_X6_dropPeg_L7 s vk n (nI j) xw = va_up (shf xw 4 j (37 + 4 * (N - 1))) 0 (nI (N - 1)) := by
  intro n
  induction n with
  | zero => intro j xw h2 h3 h4 h5; omega
  | succ n ih =>
    intro j xw h2 h3 h4 h5
    unfold k_X6_dropPeg_L7
    have e1 : (37 + (4 * ((xw 0) - 1)) : Int32) = nI (37 + 4 * (N - 1)) := by
      rw [h2, show nI N - 1 = nI (N - 1) from nI_sub (a := N) (b := 1) h1, ← nI_add, ← nI_mul]; rfl
    rw [e1]
    by_cases hj : 37 + 4 * (N - 1) ≤ j
    · rw [if_pos (nI_le hj (by omega)), h2, show nI N - 1 = nI (N - 1) from nI_sub (a := N) (b := 1) h1]
      funext i
      dsimp only [va_up, shf]
      rw [if_neg (c := j ≤ i ∧ i < 37 + 4 * (N - 1)) (by omega)]
    · rw [if_neg (nI_ge (by omega) (by omega)), nI_1, show nI j + 4 = nI (j + 4) from nI_add j 4, nI_clamp (by omega), nI_clamp (by omega)]
      rw [ih (j + 1) _ (by rw [va_ne (by omega)]; exact h2) (by omega) (by omega) (by omega)]
      funext i
      dsimp only [va_up, shf]
      by_cases hi : i = 0
      · rw [if_pos hi, if_pos hi]
      rw [if_neg hi, if_neg hi]
      by_cases hi2 : i = j
      · subst hi2
        rw [if_neg (by omega), if_pos rfl, if_pos (by omega)]
      · by_cases hi3 : j + 1 ≤ i ∧ i < 37 + 4 * (N - 1)
        · rw [if_pos hi3, if_neg (by omega), if_pos (by omega)]
        · rw [if_neg hi3, if_neg hi2, if_neg (by omega)]
theorem dP_eq {s : Nat → Int32} {k N : Nat} (h : s 0 = nI N) (hN : N ≤ 30) (hk : k < N) : k_X6_dropPeg s (nI k) = va_up (shf s 4 (37 + 4 * k) (37 + 4 * (N - 1))) 0 (nI (N - 1)) := by
  unfold k_X6_dropPeg
  rw [show (37 + 4 * nI k : Int32) = nI (37 + 4 * k) from by rw [← nI_add, ← nI_mul]; rfl]
  exact dP_L hN (by omega) 150 _ s h (by omega) (by omega) (by omega)
