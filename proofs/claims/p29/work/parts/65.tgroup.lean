/-! Layer 2: scripts. -/
theorem grp_D {cv : CV} {mv : MV} {o : OV} {s : Nat → Int32} {A b c d e G K : Nat} (h : RF o s) (hA : A < 10) (hb : b < 10) (hc : c < 10) (hd : d < 10) (he : e < 10) (hG : G = 10000 * A + 1000 * b + 100 * c + 10 * d + e) (hK : K = 1000 * b + 100 * c + 10 * d + e) : ∃ r o2 s2, k_X5_obeysGroup (c_o cv 2 o) (nI G) = (r, c_o cv 2 o2) ∧ k_X6_command (m_r mv 2 s) (nI A) (nI K) = (r, m_r mv 2 s2) ∧ RF o2 s2 := by
  have hc1 : (c_o cv 2 o).2.1 2 = o := co_g
  have hm1 : (m_r mv 2 s).2 2 = s := mr_g
  obtain ⟨M, hM, m1, m2⟩ := RF_M h
  have D : ∀ (x y z : Nat), x < 2 ^ 31 → 0 < y → y < 2 ^ 31 → x / y = z → nI x / nI y = nI z := fun x y z h1 h2 h3 h4 => by rw [nI_div h1 h2 h3, h4]
  have E : ∀ (x y z w : Nat), x < 2 ^ 31 → 0 < y → y < 2 ^ 31 → x / y = z → x % y = w → nI x - nI z * nI y = nI w := fun x y z w h1 h2 h3 h4 h5 => by rw [← D x y z h1 h2 h3 h4, nI_mod h1 h2 h3, h5]
  have a1 : nI G / 10000 = nI A := D G 10000 A (by omega) (by omega) (by omega) (by omega)
  have b0 : nI G / 1000 = nI (10 * A + b) := D G 1000 _ (by omega) (by omega) (by omega) (by omega)
  have b1 : nI (10 * A + b) / 10 = nI A := D _ 10 _ (by omega) (by omega) (by omega) (by omega)
  have bb2 : nI (10 * A + b) - nI A * 10 = nI b := E _ 10 _ _ (by omega) (by omega) (by omega) (by omega) (by omega)
  have c0 : nI G / 100 = nI (100 * A + 10 * b + c) := D G 100 _ (by omega) (by omega) (by omega) (by omega)
  have c1 : nI (100 * A + 10 * b + c) / 10 = nI (10 * A + b) := D _ 10 _ (by omega) (by omega) (by omega) (by omega)
  have c2 : nI (100 * A + 10 * b + c) - nI (10 * A + b) * 10 = nI c := E _ 10 _ _ (by omega) (by omega) (by omega) (by omega) (by omega)
  have d0 : nI G / 10 = nI (1000 * A + 100 * b + 10 * c + d) := D G 10 _ (by omega) (by omega) (by omega) (by omega)
  have d1 : nI (1000 * A + 100 * b + 10 * c + d) / 10 = nI (100 * A + 10 * b + c) := D _ 10 _ (by omega) (by omega) (by omega) (by omega)
  have d2 : nI (1000 * A + 100 * b + 10 * c + d) - nI (100 * A + 10 * b + c) * 10 = nI d := E _ 10 _ _ (by omega) (by omega) (by omega) (by omega) (by omega)
  have e2 : nI G - nI (1000 * A + 100 * b + 10 * c + d) * 10 = nI e := E _ 10 _ _ (by omega) (by omega) (by omega) (by omega) (by omega)
  have k0 : nI K / 1000 = nI b := D K 1000 _ (by omega) (by omega) (by omega) (by omega)
  have k1 : nI K / 10 = nI (100 * b + 10 * c + d) := D K 10 _ (by omega) (by omega) (by omega) (by omega)
  have k2 : nI (100 * b + 10 * c + d) / 100 = nI b := D _ 100 _ (by omega) (by omega) (by omega) (by omega)
  have k3 : nI (100 * b + 10 * c + d) - nI b * 100 = nI (10 * c + d) := E _ 100 _ _ (by omega) (by omega) (by omega) (by omega) (by omega)
  have k4 : nI K - nI (100 * b + 10 * c + d) * 10 = nI e := E _ 10 _ _ (by omega) (by omega) (by omega) (by omega) (by omega)
  have k5 : nI K / 100 = nI (10 * b + c) := D K 100 _ (by omega) (by omega) (by omega) (by omega)
  have k6 : nI (10 * b + c) / 10 = nI b := D _ 10 _ (by omega) (by omega) (by omega) (by omega)
  have k7 : nI (10 * b + c) - nI b * 10 = nI c := E _ 10 _ _ (by omega) (by omega) (by omega) (by omega) (by omega)
  have k8 : nI K - nI (10 * b + c) * 100 = nI (10 * d + e) := E _ 100 _ _ (by omega) (by omega) (by omega) (by omega) (by omega)
  have mm : ∀ x y, 10 * nI x + nI y = nI (10 * x + y) := fun x y => by
    rw [show (10 : Int32) * nI x = nI (10 * x) from nI_mul 10 x, nI_add]
  have Z : ∀ x, x < 10 → (nI x = 0 ↔ x = 0) := fun x hx => nI_eq (b := 0) (by omega) (by omega)
  have mk : ∀ (r : Int32), ∃ r2 o2 s2, (r, c_o cv 2 o) = (r2, c_o cv 2 o2) ∧ (r, m_r mv 2 s) = (r2, m_r mv 2 s2) ∧ RF o2 s2 := fun r => ⟨r, o, s, rfl, rfl, h⟩
  unfold k_X5_obeysGroup k_X6_command
  rw [hc1, hm1]
  simp only [a1, b0, b1, bb2, c0, c1, c2, d0, d1, d2, e2, k0, k1, k2, k3, k4, k5, k6, k7, k8, mm, c_oo, m_r2]
  rcases (show A = 0 ∨ A = 1 ∨ A = 2 ∨ A = 3 ∨ A = 4 ∨ A = 5 ∨ A = 6 ∨ A = 7 ∨ A = 8 ∨ A = 9 by omega) with q | q | q | q | q | q | q | q | q | q <;> rw [q]
  · simp only [if_neg (show ¬ nI 0 = 1 by decide), if_neg (show ¬ nI 0 = 2 by decide), if_neg (show ¬ nI 0 = 3 by decide), if_neg (show ¬ nI 0 = 4 by decide), if_neg (show ¬ nI 0 = 5 by decide), if_neg (show ¬ nI 0 = 6 by decide), if_neg (show ¬ nI 0 = 7 by decide), if_neg (show ¬ nI 0 = 8 by decide), if_neg (show ¬ nI 0 = 9 by decide)]
    exact mk 0
  · simp only [if_pos (show nI 1 = 1 by decide)]
    rcases pP (nI b) with ⟨q1, q2⟩ | ⟨q1, q2, p, hp, ep⟩
    · rw [op_putN (Or.inl q1), if_pos q2]
      dsimp only
      rw [if_pos rfl]
      exact mk 0
    rw [if_neg q2]
    rcases bB (nI (10 * c + d)) with ⟨q3, q4⟩ | ⟨q3, q4, f, hf, ef⟩
    · rw [op_putN (Or.inr (Or.inl q3)), if_pos q4]
      dsimp only
      rw [if_pos rfl]
      exact mk 0
    rw [if_neg q4]
    rcases lL (nI e) with ⟨q5, q6⟩ | ⟨q5, q6, n, hn1, hn2, en⟩
    · rw [op_putN (Or.inr (Or.inr q5)), if_pos q6]
      dsimp only
      rw [if_pos rfl]
      exact mk 0
    rw [if_neg q6, m1]
    by_cases h12 : M = 12
    · subst h12
      rw [op_putF m2, if_pos (show (12 : Int32) ≤ nI 12 by decide)]
      dsimp only
      rw [if_pos rfl]
      exact mk 0
    · rw [if_neg (fun q => h12 ((m12 hM).mp q)), ep, ef, en]
      obtain ⟨a1, a2, a3⟩ := op_put h m1 (show M < 12 by omega) hp hf hn1 hn2
      rw [a1, a2]
      dsimp only
      rw [if_neg (nI_nm (show M < 2 ^ 31 by omega)), if_neg (nI_nn (show M < 2 ^ 31 by omega))]
      exact ⟨1, _, _, rfl, rfl, a3⟩
  · simp only [if_neg (show ¬ nI 2 = 1 by decide), if_pos (show nI 2 = 2 by decide)]
    by_cases he0 : nI e = 0
    · rw [if_pos he0, if_pos he0]
      rcases pP (nI b) with ⟨q1, q2⟩ | ⟨q1, q2, p, hp, ep⟩
      · rw [op_pullN (Or.inl q1), if_pos q2]
        dsimp only
        rw [if_pos rfl]
        exact mk 0
      rw [if_neg q2]
      rcases bB (nI (10 * c + d)) with ⟨q3, q4⟩ | ⟨q3, q4, f, hf, ef⟩
      · rw [op_pullN (Or.inr q3), if_pos q4]
        dsimp only
        rw [if_pos rfl]
        exact mk 0
      rw [if_neg q4, m1]
      by_cases h12 : M = 12
      · subst h12
        rw [op_pullF m2, if_pos (show (12 : Int32) ≤ nI 12 by decide)]
        dsimp only
        rw [if_pos rfl]
        exact mk 0
      · rw [if_neg (fun q => h12 ((m12 hM).mp q)), ep, ef]
        obtain ⟨a1, a2, a3⟩ := op_pull h m1 (show M < 12 by omega) hp hf
        rw [a1, a2]
        dsimp only
        rw [if_neg (nI_nm (show M < 2 ^ 31 by omega)), if_neg (nI_nn (show M < 2 ^ 31 by omega))]
        exact ⟨1, _, _, rfl, rfl, a3⟩
    · rw [if_neg he0, if_neg he0]
      exact mk 0
  · simp only [if_neg (show ¬ nI 3 = 1 by decide), if_neg (show ¬ nI 3 = 2 by decide), if_pos (show nI 3 = 3 by decide)]
    have e99 : (99 : Int64).toInt = 99 := rfl
    have e1 : (1 : Int64).toInt = 1 := rfl
    have big : 100 ≤ K → k_X6_in ((nI K).toInt64) 1 99 = 0 := fun hq => in_z.mpr (by rw [nI_toInt (by omega)]; omega)
    by_cases hb0 : b = 0
    · by_cases hc0 : c = 0
      · rw [if_pos ((Z b hb).mpr hb0), if_pos ((Z c hc).mpr hc0), show K = 10 * d + e by omega]
        rcases tT (nI (10 * d + e)) with ⟨q1, q2⟩ | ⟨q1, q2, v, hv1, hv2, ev⟩
        · rw [op_playN q1, if_pos q2]
          dsimp only
          rw [if_pos rfl]
          exact mk 0
        · rw [if_neg q2, ev]
          obtain ⟨D9, hD9, a1, a2, a3⟩ := op_play h hv1 hv2
          rw [a1, a2]
          dsimp only
          rw [if_neg (nI_nm (show D9 < 2 ^ 31 by omega)), if_neg (nI_nn (show D9 < 2 ^ 31 by omega))]
          exact ⟨1, _, _, rfl, rfl, a3⟩
      · rw [if_pos ((Z b hb).mpr hb0), if_neg (fun q => hc0 ((Z c hc).mp q)), if_pos (big (by omega))]
        exact mk 0
    · rw [if_neg (fun q => hb0 ((Z b hb).mp q)), if_pos (big (by omega))]
      exact mk 0
  · simp only [if_neg (show ¬ nI 4 = 1 by decide), if_neg (show ¬ nI 4 = 2 by decide), if_neg (show ¬ nI 4 = 3 by decide), if_pos (show nI 4 = 4 by decide)]
    by_cases hc0 : nI c = 0
    · rw [if_pos hc0, if_pos hc0]
      rcases sS (nI b) (nI (10 * d + e)) with ⟨q1, q2⟩ | ⟨q1, q2, w, v, hok, ew, ev⟩
      · rw [op_setN q1, if_pos q2]
        dsimp only
        rw [if_pos rfl]
        exact mk 0
      · rw [if_neg q2, ew, ev]
        obtain ⟨a1, a2, a3, g, hg, eg⟩ := op_set h hok
        rw [a1, a2]
        dsimp only
        rw [eg, if_neg (nI_nm (show g < 2 ^ 31 by omega)), if_neg (nI_nn (show g < 2 ^ 31 by omega))]
        exact ⟨1, _, _, rfl, rfl, a3⟩
    · rw [if_neg hc0, if_neg hc0]
      exact mk 0
  · simp only [if_neg (show ¬ nI 5 = 1 by decide), if_neg (show ¬ nI 5 = 2 by decide), if_neg (show ¬ nI 5 = 3 by decide), if_neg (show ¬ nI 5 = 4 by decide), if_pos (show nI 5 = 5 by decide)]
    by_cases hb0 : nI b = 0
    · rw [if_pos hb0, if_pos hb0]
      by_cases he0 : nI e = 0
      · rw [if_pos he0, if_pos he0]
        rcases oO h (nI (10 * c + d)) with ⟨q1, q2⟩ | ⟨q1, q2, kk, M2, hk2, hM2, hs2, ek⟩
        · rw [drop_no q1, if_pos q2]
          dsimp only
          rw [if_pos rfl]
          exact mk 0
        · rw [if_neg q2, ek]
          obtain ⟨o2, r1, r2, r3⟩ := op_can h hs2 hM2 hk2
          rw [r1, r2]
          dsimp only
          rw [if_neg (nI_nm (show M2 - 1 < 2 ^ 31 by omega)), if_neg (nI_nn (show M2 - 1 < 2 ^ 31 by omega))]
          exact ⟨1, _, _, rfl, rfl, r3⟩
      · rw [if_neg he0, if_neg he0]
        exact mk 0
    · rw [if_neg hb0, if_neg hb0]
      exact mk 0
  · simp only [if_neg (show ¬ nI 6 = 1 by decide), if_neg (show ¬ nI 6 = 2 by decide), if_neg (show ¬ nI 6 = 3 by decide), if_neg (show ¬ nI 6 = 4 by decide), if_neg (show ¬ nI 6 = 5 by decide), if_pos (show nI 6 = 6 by decide)]
    by_cases he0 : nI e = 0
    · rw [if_pos he0, if_pos he0]
      rcases pP (nI b) with ⟨q1, q2⟩ | ⟨q1, q2, p, hp, ep⟩
      · rw [if_pos q1, if_pos q2]
        exact mk 0
      rw [if_neg (by rw [q1]; decide), if_neg q2]
      rcases bB (nI (10 * c + d)) with ⟨q3, q4⟩ | ⟨q3, q4, f, hf, ef⟩
      · rw [if_pos q3, if_pos q4]
        exact mk 0
      rw [if_neg (by rw [q3]; decide), if_neg q4, ep, ef]
      obtain ⟨N, M9, hRC, -⟩ := id h
      rw [isC hRC.1.1.1 hRC.1.1.2.1 hRC.1.2.2.2.1 hp hf, opn hRC.1.2.2.2.2.2.1 hp hf]
      by_cases hq : b2 (cvs s N p f) = 0
      · rw [if_pos hq, if_pos hq]
        exact mk 0
      · rw [if_neg hq, if_neg hq]
        exact mk 1
    · rw [if_neg he0, if_neg he0]
      exact mk 0
  · simp only [if_neg (show ¬ nI 7 = 1 by decide), if_neg (show ¬ nI 7 = 2 by decide), if_neg (show ¬ nI 7 = 3 by decide), if_neg (show ¬ nI 7 = 4 by decide), if_neg (show ¬ nI 7 = 5 by decide), if_neg (show ¬ nI 7 = 6 by decide), if_pos (show nI 7 = 7 by decide)]
    have o5 : o.1 3 = s 5 := by
      obtain ⟨N, M9, ⟨-, -, -, b1, b2, b3, b4, -⟩, -⟩ := id h
      exact b4
    by_cases hbc : b = 0 ∧ c = 0
    · rw [if_pos ((Z b hb).mpr hbc.1), if_pos ((Z c hc).mpr hbc.2), o5, show K = 10 * d + e by omega, if_neg (show ¬ (100 : Int32) ≤ nI (10 * d + e) from nI_ge (b := 100) (by omega) (by omega))]
      by_cases hq : s 5 < nI (10 * d + e)
      · rw [if_pos hq, if_pos hq]
        exact mk 0
      · rw [if_neg hq, if_neg hq]
        exact mk 1
    · rw [if_pos (show (100 : Int32) ≤ nI K from nI_le (a := 100) (by omega) (by omega))]
      by_cases hb0 : b = 0
      · rw [if_pos ((Z b hb).mpr hb0), if_neg (fun q => hbc ⟨hb0, (Z c hc).mp q⟩)]
        exact mk 0
      · rw [if_neg (fun q => hb0 ((Z b hb).mp q))]
        exact mk 0
  · simp only [if_neg (show ¬ nI 8 = 1 by decide), if_neg (show ¬ nI 8 = 2 by decide), if_neg (show ¬ nI 8 = 3 by decide), if_neg (show ¬ nI 8 = 4 by decide), if_neg (show ¬ nI 8 = 5 by decide), if_neg (show ¬ nI 8 = 6 by decide), if_neg (show ¬ nI 8 = 7 by decide), if_pos (show nI 8 = 8 by decide)]
    by_cases hbc : b = 0 ∧ c = 0 ∧ d = 0
    · rw [if_pos ((Z b hb).mpr hbc.1), if_pos ((Z c hc).mpr hbc.2.1), if_pos ((Z d hd).mpr hbc.2.2), m2, m1, show K = e by omega, if_neg (show ¬ (10 : Int32) ≤ nI e from nI_ge (b := 10) (by omega) (by omega))]
      by_cases hq : nI e < nI M
      · rw [if_pos hq, if_pos hq]
        exact mk 0
      · rw [if_neg hq, if_neg hq]
        exact mk 1
    · rw [if_pos (show (10 : Int32) ≤ nI K from nI_le (a := 10) (by omega) (by omega))]
      by_cases hb0 : b = 0
      · rw [if_pos ((Z b hb).mpr hb0)]
        by_cases hc0 : c = 0
        · rw [if_pos ((Z c hc).mpr hc0), if_neg (fun q => hbc ⟨hb0, hc0, (Z d hd).mp q⟩)]
          exact mk 0
        · rw [if_neg (fun q => hc0 ((Z c hc).mp q))]
          exact mk 0
      · rw [if_neg (fun q => hb0 ((Z b hb).mp q))]
        exact mk 0
  · simp only [if_neg (show ¬ nI 9 = 1 by decide), if_neg (show ¬ nI 9 = 2 by decide), if_neg (show ¬ nI 9 = 3 by decide), if_neg (show ¬ nI 9 = 4 by decide), if_neg (show ¬ nI 9 = 5 by decide), if_neg (show ¬ nI 9 = 6 by decide), if_neg (show ¬ nI 9 = 7 by decide), if_neg (show ¬ nI 9 = 8 by decide), if_pos (show nI 9 = 9 by decide)]
    have o7 : k_X1_soundedAgo o 0 = s 7 := by
      obtain ⟨N, M9, ⟨-, -, ⟨a1, a2, a3⟩, -⟩, -⟩ := id h
      exact (a3 0 (by omega)).trans a2.symm
    by_cases hbc : b = 0 ∧ c = 0
    · rw [if_pos ((Z b hb).mpr hbc.1), if_pos ((Z c hc).mpr hbc.2), o7, show K = 10 * d + e by omega, if_neg (show ¬ (100 : Int32) ≤ nI (10 * d + e) from nI_ge (b := 100) (by omega) (by omega))]
      by_cases hq : s 7 = nI (10 * d + e)
      · rw [if_pos hq, if_pos hq]
        exact mk 1
      · rw [if_neg hq, if_neg hq]
        exact mk 0
    · rw [if_pos (show (100 : Int32) ≤ nI K from nI_le (a := 100) (by omega) (by omega))]
      by_cases hb0 : b = 0
      · rw [if_pos ((Z b hb).mpr hb0), if_neg (fun q => hbc ⟨hb0, (Z c hc).mp q⟩)]
        exact mk 0
      · rw [if_neg (fun q => hb0 ((Z b hb).mp q))]
        exact mk 0
theorem grp_R {cv : CV} {mv : MV} {o : OV} {s : Nat → Int32} {G : Nat} (h : RF o s) (hG : G < 100000) : ∃ r o2 s2, k_X5_obeysGroup (c_o cv 2 o) (nI G) = (r, c_o cv 2 o2) ∧ k_X6_command (m_r mv 2 s) (nI G / 10000) (nI G - nI G / 10000 * 10000) = (r, m_r mv 2 s2) ∧ RF o2 s2 := by
  rw [show nI G / 10000 = nI (G / 10000) from nI_div (b := 10000) (by omega) (by omega) (by omega), show nI G - nI (G / 10000) * 10000 = nI (G % 10000) by rw [← show nI G / 10000 = nI (G / 10000) from nI_div (b := 10000) (by omega) (by omega) (by omega)]; exact nI_mod (b := 10000) (by omega) (by omega) (by omega)]
  exact grp_D (A := G / 10000) (b := G / 1000 % 10) (c := G / 100 % 10) (d := G / 10 % 10) (e := G % 10) h (by omega) (by omega) (by omega) (by omega) (by omega) (by omega) (by omega)
-- ---------------------------------------------------------------- the digits of a long
theorem l_div {x : Int64} {V N : Nat} {d : Int64} (hd : d.toInt = N) (h0 : 0 < N) (hx : x.toInt = V) : (x / d).toInt = (V / N : Nat) := by
  have hb := Int64.toInt_lt x
  have hq : V / N ≤ V := Nat.div_le_self _ _
  rw [Int64.toInt_div, hd, hx, Int.tdiv_eq_ediv_of_nonneg (by omega), ← Int.natCast_ediv]
  generalize V / N = Q at hq ⊢
  exact Int.bmod_eq_of_le (by omega) (by omega)
theorem l_rem {x : Int64} {V N : Nat} {d : Int64} (hd : d.toInt = N) (h0 : 0 < N) (hx : x.toInt = V) : (x - x / d * d).toInt = (V % N : Nat) := by
  have hb := Int64.toInt_lt x
  have hq : V / N * N ≤ V := Nat.div_mul_le_self _ _
  have hm := Nat.div_add_mod V N
  have hc : N * (V / N) = V / N * N := Nat.mul_comm _ _
  have e1 : (x / d * d).toInt = (V / N * N : Nat) := by
    rw [Int64.toInt_mul, l_div hd h0 hx, hd, ← Int.natCast_mul]
    exact Int.bmod_eq_of_le (by omega) (by omega)
  rw [Int64.toInt_sub, e1, hx]
  refine (Int.bmod_eq_of_le (by omega) (by omega)).trans (by omega)
theorem l_i {x : Int64} {g : Nat} (hx : x.toInt = g) (hg : g < 2 ^ 31) : Int64.toInt32 x = nI g := by
  refine Int32.toInt_inj.mp ?_
  rw [nI_toInt hg, Int64.toInt_toInt32, hx]
  exact Int.bmod_eq_of_le (by omega) (by omega)
theorem k5_t : (100000 : Int64).toInt = (100000 : Nat) := rfl
theorem wlg_L {vs : Int64} {v V : Nat} (hv : v ≤ 3) : ∀ (n i W : Nat) (acc : Int64), i ≤ v → v - i < n → acc.toInt = W → W = V / 100000 ^ i → (k_X5_withoutLastGroups_L5 vs (nI v) n (nI i) acc).toInt = (V / 100000 ^ v : Nat) := by
  intro n
  induction n with
  | zero => intro i W acc h1 h2; omega
  | succ n ih =>
    intro i W acc h1 h2 h3 h4
    rw [k_X5_withoutLastGroups_L5]
    by_cases hi : i = v
    · subst hi
      rw [if_pos (nI_le (Nat.le_refl _) (by omega)), h3, h4]
    · rw [if_neg (nI_ge (by omega) (by omega)), nI_1]
      exact ih (i + 1) (W / 100000) _ (by omega) (by omega) (l_div k5_t (by omega) h3) (by rw [h4, Nat.div_div_eq_div_mul, Nat.pow_succ])
theorem wlg {vs : Int64} {v V : Nat} (hv : v ≤ 3) (h : vs.toInt = V) : (k_X5_withoutLastGroups vs (nI v)).toInt = (V / 100000 ^ v : Nat) := by
  unfold k_X5_withoutLastGroups
  rw [nI_toInt (by omega)]
  exact wlg_L hv _ 0 V vs (Nat.zero_le _) (by omega) h (by simp)
theorem xpw : ∀ v, v ≤ 3 → (x_pw v).toInt = (100000 ^ v : Nat) := by decide +kernel
theorem scr_L {c0 cv : CV} {m0 mv : MV} {vs : Int64} {v V : Nat} (hv : v ≤ 3) (hV : vs.toInt = V) : ∀ (n i : Nat) (o : OV) (s : Nat → Int32), RF o s → i ≤ v → v - i < n → ∃ r o2 s2, k_X5_runScript_L60 c0 (nI v) vs n (nI i) (c_o cv 2 o) = (none, r, c_o cv 2 o2) ∧ k_X6_runScript_L86 m0 (nI v) vs n (nI i) (x_pw (v - i)) (m_r mv 2 s) = (r, m_r mv 2 s2) ∧ OI o2 := by
  intro n
  induction n with
  | zero => intro i o s h1 h2 h3; omega
  | succ n ih =>
    intro i o s h1 h2 h3
    rw [k_X5_runScript_L60, k_X6_runScript_L86]
    by_cases hi : i = v
    · subst hi
      have hle : nI i ≤ nI i := nI_le (Nat.le_refl _) (by omega)
      rw [if_pos hle, if_pos hle]
      exact ⟨_, o, s, rfl, rfl, RF_OI h1⟩
    · have hge : ¬ nI v ≤ nI i := nI_ge (by omega) (by omega)
      have ek : nI v - 1 - nI i = nI (v - 1 - i) := by
        rw [show nI v - 1 = nI (v - 1) from nI_sub (b := 1) (by omega), nI_sub (by omega)]
      have hp0 : 0 < 100000 ^ (v - 1 - i) := Nat.pow_pos (by omega)
      have ep : x_pw (v - i) / 100000 = x_pw (v - 1 - i) := by
        rw [pw_d (by omega) (by omega)]
        exact congrArg x_pw (by omega)
      have hG : V / 100000 ^ (v - 1 - i) % 100000 < 100000 := Nat.mod_lt _ (by omega)
      have g1 : Int64.toInt32 (k_X5_withoutLastGroups vs (nI (v - 1 - i)) - k_X5_withoutLastGroups vs (nI (v - 1 - i)) / 100000 * 100000) = nI (V / 100000 ^ (v - 1 - i) % 100000) := l_i (l_rem k5_t (by omega) (wlg (by omega) hV)) (by omega)
      have g2 : Int64.toInt32 (vs / x_pw (v - 1 - i) - vs / x_pw (v - 1 - i) / 100000 * 100000) = nI (V / 100000 ^ (v - 1 - i) % 100000) := l_i (l_rem k5_t (by omega) (l_div (xpw _ (by omega)) hp0 hV)) (by omega)
      rw [if_neg hge, if_neg hge, ek, ep, g1, g2, nI_1]
      obtain ⟨r, o2, s2, t1, t2, t3⟩ := grp_R (cv := cv) (mv := mv) h1 hG
      rw [t1, t2]
      dsimp only
      by_cases hr : r = 0
      · rw [if_pos hr, if_pos hr]
        exact ⟨_, o2, s2, rfl, rfl, RF_OI t3⟩
      · rw [if_neg hr, if_neg hr, show v - 1 - i = v - (i + 1) by omega]
        exact ih (i + 1) o2 s2 t3 (by omega) (by omega)
theorem lg0 {x : Int64} : lg_cmp x 0 = 0 ↔ x.toInt = 0 := by
  rw [lg_cmp_eq]
  exact ⟨fun q => by rw [q]; rfl, fun q => Int64.toInt_inj.mp (q.trans (rfl : (0 : Int) = (0 : Int64).toInt))⟩
theorem in64 {x a b : Int64} : k_X6_in x a b = 0 ↔ ¬ (a.toInt ≤ x.toInt ∧ x.toInt ≤ b.toInt) := by
  unfold k_X6_in
  by_cases h1 : lg_cmp x a < 0
  · rw [if_pos h1]
    rw [lg_cmp_lt, Int64.lt_iff_toInt_lt] at h1
    exact ⟨fun _ => by omega, fun _ => rfl⟩
  rw [if_neg h1]
  rw [lg_cmp_lt, Int64.lt_iff_toInt_lt] at h1
  by_cases h2 : 0 < lg_cmp x b
  · rw [if_pos h2]
    rw [lg_cmp_gt, Int64.lt_iff_toInt_lt] at h2
    exact ⟨fun _ => by omega, fun _ => rfl⟩
  rw [if_neg h2]
  rw [lg_cmp_gt, Int64.lt_iff_toInt_lt] at h2
  exact ⟨fun q => absurd q (by decide), fun q => absurd (show a.toInt ≤ x.toInt ∧ x.toInt ≤ b.toInt by omega) q⟩
/-- the reference's counting of the power, up to the number of groups -/
def scE (mv : MV) (vn : Int32) (vs pw : Int64) : Int32 × MV := if k_X6_in (vn.toInt64) 1 3 = 0 then (0, m_s mv 0 1) else if k_X6_in vs 0 (pw - 1) = 0 then (0, m_s mv 0 1) else k_X6_runScript_L86 mv vn vs 4 0 pw (m_r (m_s mv 0 0) 2 (k_X6_copyState (mv.2 1) (mv.2 2) 0 0))
theorem sc_end {mv : MV} {vn : Int32} {vs pw : Int64} {n : Nat} {i : Int32} (h : vn ≤ i ∨ 3 ≤ i) : k_X6_runScript_L6 mv vn vs (n + 1) i pw = scE mv vn vs pw := by
  rw [k_X6_runScript_L6, rf_0, rf_1]
  unfold scE
  dsimp only
  rw [if_neg n10, if_pos p00]
  by_cases c : vn ≤ i
  · rw [if_pos c]
    rfl
  · rw [if_neg c, if_pos (h.resolve_left c)]
    rfl
theorem sc_step {mv : MV} {vn : Int32} {vs pw : Int64} {n : Nat} {i : Int32} (h1 : ¬ vn ≤ i) (h2 : ¬ (3 : Int32) ≤ i) : k_X6_runScript_L6 mv vn vs (n + 1) i pw = k_X6_runScript_L6 mv vn vs n (i + 1) (pw * 100000) := by
  rw [k_X6_runScript_L6, if_neg h1, if_neg h2]
theorem sc_pw {mv : MV} {vs : Int64} {v : Nat} (hv : v ≤ 3) : ∀ (n i : Nat), i ≤ v → v - i < n → k_X6_runScript_L6 mv (nI v) vs n (nI i) (x_pw i) = scE mv (nI v) vs (x_pw v) := by
  intro n
  induction n with
  | zero => intro i h1 h2; omega
  | succ n ih =>
    intro i h1 h2
    by_cases hi : i = v
    · subst hi
      exact sc_end (Or.inl (nI_le (Nat.le_refl _) (by omega)))
    · rw [sc_step (nI_ge (by omega) (by omega)) (show ¬ (3 : Int32) ≤ nI i from nI_ge (b := 3) (by omega) (by omega)), nI_1]
      exact ih (i + 1) (by omega) (by omega)
theorem sc_bad {mv : MV} {vn : Int32} {vs : Int64} (h : ¬ (1 ≤ vn.toInt ∧ vn.toInt ≤ 3)) : k_X6_runScript mv vn vs = (0, m_s mv 0 1) := by
  have e1 : (1 : Int64).toInt = 1 := rfl
  have e3 : (3 : Int64).toInt = 3 := rfl
  have hin : k_X6_in (vn.toInt64) 1 3 = 0 := in_z.mpr (by omega)
  have fin : ∀ pw, scE mv vn vs pw = (0, m_s mv 0 1) := fun pw => if_pos hin
  unfold k_X6_runScript
  by_cases h1 : vn ≤ 0
  · rw [sc_end (Or.inl h1), fin]
  have h3 : 3 < vn.toInt := by
    rw [i_le] at h1
    have e0 : (0 : Int32).toInt = 0 := rfl
    omega
  have g : ∀ i, i < 3 → ¬ vn ≤ nI i := fun i hi c => by
    rw [i_le, nI_toInt (by omega)] at c
    omega
  have s1 : k_X6_runScript_L6 mv vn vs 4 0 1 = k_X6_runScript_L6 mv vn vs 3 (nI 1) (1 * 100000) := sc_step (i := nI 0) (g 0 (by omega)) (by decide)
  have s2 : ∀ pw, k_X6_runScript_L6 mv vn vs 3 (nI 1) pw = k_X6_runScript_L6 mv vn vs 2 (nI 2) (pw * 100000) := fun pw => sc_step (i := nI 1) (g 1 (by omega)) (by decide)
  have s3 : ∀ pw, k_X6_runScript_L6 mv vn vs 2 (nI 2) pw = k_X6_runScript_L6 mv vn vs 1 (nI 3) (pw * 100000) := fun pw => sc_step (i := nI 2) (g 2 (by omega)) (by decide)
  rw [s1, s2, s3, sc_end (Or.inr (by decide)), fin]
theorem T_script {cv : CV} {mv : MV} (h : TRel cv mv) (vn : Int32) (vs : Int64) : AG [IAE] (k_X5_runScript cv vn vs) (k_X6_runScript mv vn vs) := by
  have e1 : (1 : Int32).toInt = 1 := rfl
  have e3 : (3 : Int32).toInt = 3 := rfl
  have f1 : (1 : Int64).toInt = 1 := rfl
  have f3 : (3 : Int64).toInt = 3 := rfl
  have f0 : (0 : Int64).toInt = 0 := rfl
  by_cases hc : 1 ≤ vn.toInt ∧ vn.toInt ≤ 3
  · have hin : ¬ k_X6_in (vn.toInt64) 1 3 = 0 := in_y (a := 1) (b := 3) (by omega)
    have c1 : ¬ vn < 1 := by rw [i_lt]; omega
    have c2 : vn ≤ 3 := by rw [i_le]; omega
    obtain ⟨v, hv, rfl⟩ := nI_rng (N := 3) (show 0 ≤ vn.toInt by omega) hc.2
    have hR : k_X6_runScript mv (nI v) vs = scE mv (nI v) vs (x_pw v) := sc_pw (mv := mv) (vs := vs) hv 4 0 (Nat.zero_le _) (by omega)
    rw [hR]
    unfold k_X5_runScript scE
    rw [if_neg c1, if_pos c2, if_neg hin]
    have ep : (x_pw v - 1).toInt = ((100000 ^ v : Nat) : Int) - 1 := (by decide +kernel : ∀ v, v ≤ 3 → (x_pw v - 1).toInt = ((100000 ^ v : Nat) : Int) - 1) v hv
    have hp0 : 0 < 100000 ^ v := Nat.pow_pos (by omega)
    by_cases hn : lg_cmp vs 0 < 0
    · rw [if_pos hn]
      rw [lg_cmp_lt, Int64.lt_iff_toInt_lt] at hn
      rw [if_pos (in64.mpr (by omega))]
      exact AG_bad h (by decide) (by simp)
    rw [if_neg hn]
    rw [lg_cmp_lt, Int64.lt_iff_toInt_lt] at hn
    obtain ⟨V, hV⟩ : ∃ V : Nat, vs.toInt = V := ⟨vs.toInt.toNat, by omega⟩
    by_cases hz : V < 100000 ^ v
    · have z1 : lg_cmp (k_X5_withoutLastGroups vs (nI v)) 0 = 0 := lg0.mpr (by rw [wlg hv hV, Nat.div_eq_of_lt hz]; rfl)
      have z2 : ¬ k_X6_in vs 0 (x_pw v - 1) = 0 := fun q => in64.mp q (by rw [ep]; omega)
      rw [if_pos z1, if_neg z2]
      have hcp : RF (k_X1_copyFrom (cv.2.1 2) (cv.2.1 0)) (k_X6_copyState (mv.2 1) (mv.2 2) 0 0) := copy_R (RF_s (fun i hi => cps_0 hi) h.2.2.1)
      obtain ⟨r, o3, s3, d1, d2, d3⟩ := scr_L (c0 := cv) (cv := cv) (m0 := mv) (mv := m_s mv 0 0) hv hV 4 0 _ _ hcp (Nat.zero_le _) (by omega)
      rw [show (nI 0 : Int32) = 0 from rfl] at d1 d2
      rw [d1, show x_pw v = x_pw (v - 0) from rfl, d2]
      exact AG_ok (TR_look h d3) rfl rfl
    · have z1 : ¬ lg_cmp (k_X5_withoutLastGroups vs (nI v)) 0 = 0 := fun q => by
        have := lg0.mp q
        rw [wlg hv hV] at this
        have := Nat.div_pos (Nat.le_of_not_lt hz) hp0
        omega
      have z2 : k_X6_in vs 0 (x_pw v - 1) = 0 := in64.mpr (by rw [ep]; omega)
      rw [if_neg z1, if_pos z2]
      exact AG_bad h (by decide) (by simp)
  · rw [sc_bad hc]
    unfold k_X5_runScript
    by_cases c1 : vn < 1
    · rw [if_pos c1]
      exact AG_bad h (by decide) (by simp)
    · have c2 : ¬ vn ≤ 3 := by
        rw [i_lt] at c1
        rw [i_le]
        omega
      rw [if_neg c1, if_neg c2]
      exact AG_bad h (by decide) (by simp)
