/-! Layer 2: simulations and scripts. -/
theorem turn_R {cv : CV} {o : OV} {s : Nat → Int32} {R : Nat} (h : RF o s) (hR : R < 2 ^ 31) : ∃ o2, k_X5_simulateTurn (c_o cv 2 o) (nI R) = c_o cv 2 o2 ∧ RF o2 (k_X6_turnOf s (nI R - nI R / 8 * 8) (nI R / 8)) := by
  have hc1 : (c_o cv 2 o).2.1 2 = o := co_g
  obtain ⟨M, hM, m1, m2⟩ := RF_M h
  have h8 : R / 8 ≤ R := Nat.div_le_self _ _
  generalize hQ : R / 8 = Q at h8
  have b8 : Q / 8 ≤ Q := Nat.div_le_self _ _
  have b256 : Q / 256 ≤ Q := Nat.div_le_self _ _
  have b4 : Q / 4 ≤ Q := Nat.div_le_self _ _
  have b16 : Q / 16 ≤ Q := Nat.div_le_self _ _
  have b64 : Q / 64 ≤ Q := Nat.div_le_self _ _
  have e1 : nI R / 8 = nI Q := by rw [← hQ]; exact nI_div (b := 8) hR (by omega) (by omega)
  have e2 : nI R - nI Q * 8 = nI (R % 8) := by rw [← e1]; exact nI_mod (b := 8) hR (by omega) (by omega)
  have D : ∀ (a b : Nat), a < 2 ^ 31 → 0 < b → b < 2 ^ 31 → nI a / nI b = nI (a / b) := fun a b h1 h2 h3 => nI_div h1 h2 h3
  have E : ∀ (a b : Nat), a < 2 ^ 31 → 0 < b → b < 2 ^ 31 → nI a - nI (a / b) * nI b = nI (a % b) := fun a b h1 h2 h3 => by rw [← D a b h1 h2 h3]; exact nI_mod h1 h2 h3
  have a1 : nI Q / 6 = nI (Q / 6) := D Q 6 (by omega) (by omega) (by omega)
  have a2 : nI Q - nI (Q / 6) * 6 = nI (Q % 6) := E Q 6 (by omega) (by omega) (by omega)
  have c1 : nI Q / 8 = nI (Q / 8) := D Q 8 (by omega) (by omega) (by omega)
  have c2 : nI (Q / 8) / 24 = nI (Q / 8 / 24) := D (Q / 8) 24 (by omega) (by omega) (by omega)
  have c3 : nI (Q / 8) - nI (Q / 8 / 24) * 24 = nI (Q / 8 % 24) := E (Q / 8) 24 (by omega) (by omega) (by omega)
  have d1 : nI Q / 256 = nI (Q / 256) := D Q 256 (by omega) (by omega) (by omega)
  have d2 : nI (Q / 256) / 6 = nI (Q / 256 / 6) := D (Q / 256) 6 (by omega) (by omega) (by omega)
  have d3 : nI (Q / 256) - nI (Q / 256 / 6) * 6 = nI (Q / 256 % 6) := E (Q / 256) 6 (by omega) (by omega) (by omega)
  have f1 : nI Q / 4 = nI (Q / 4) := D Q 4 (by omega) (by omega) (by omega)
  have f2 : nI (Q / 4) / 2 = nI (Q / 4 / 2) := D (Q / 4) 2 (by omega) (by omega) (by omega)
  have f3 : nI (Q / 4) - nI (Q / 4 / 2) * 2 = nI (Q / 4 % 2) := E (Q / 4) 2 (by omega) (by omega) (by omega)
  have f4 : nI Q - nI (Q / 4) * 4 = nI (Q % 4) := E Q 4 (by omega) (by omega) (by omega)
  have g2 : nI (Q / 8) / 10 = nI (Q / 8 / 10) := D (Q / 8) 10 (by omega) (by omega) (by omega)
  have g3 : nI (Q / 8) - nI (Q / 8 / 10) * 10 = nI (Q / 8 % 10) := E (Q / 8) 10 (by omega) (by omega) (by omega)
  have k1 : nI Q / 16 = nI (Q / 16) := D Q 16 (by omega) (by omega) (by omega)
  have k2 : nI (Q / 16) / 4 = nI (Q / 16 / 4) := D (Q / 16) 4 (by omega) (by omega) (by omega)
  have k3 : nI (Q / 16) - nI (Q / 16 / 4) * 4 = nI (Q / 16 % 4) := E (Q / 16) 4 (by omega) (by omega) (by omega)
  have l1 : nI Q / 12 = nI (Q / 12) := D Q 12 (by omega) (by omega) (by omega)
  have l2 : nI Q - nI (Q / 12) * 12 = nI (Q % 12) := E Q 12 (by omega) (by omega) (by omega)
  have n1 : nI Q / 64 = nI (Q / 64) := D Q 64 (by omega) (by omega) (by omega)
  have n2 : nI (Q / 64) / 61 = nI (Q / 64 / 61) := D (Q / 64) 61 (by omega) (by omega) (by omega)
  have n3 : nI (Q / 64) - nI (Q / 64 / 61) * 61 = nI (Q / 64 % 61) := E (Q / 64) 61 (by omega) (by omega) (by omega)
  have p1 : ∀ x, (1 + nI x : Int32) = nI (1 + x) := fun x => nI_add 1 x
  unfold k_X5_simulateTurn k_X6_turnOf
  rw [hc1]
  simp only [e1, e2, a1, a2, c1, c2, c3, d1, d2, d3, f1, f2, f3, f4, g2, g3, k1, k2, k3, l1, l2, n1, n2, n3, p1, c_oo]
  have hr8 : R % 8 < 8 := Nat.mod_lt _ (by omega)
  generalize R % 8 = r at hr8
  have put : ∃ o2, (c_o cv 2 (k_X1_orderPut o (nI (Q % 6)) (nI (Q / 8 % 24)) (nI (1 + Q / 256 % 6))).2 = c_o cv 2 o2) ∧ RF o2 (if 12 ≤ s 1 then s else (k_X6_orderOn s 1 (nI (Q % 6)) (nI (Q / 8 % 24)) (nI (1 + Q / 256 % 6))).2) := by
    rw [m1]
    by_cases h12 : M = 12
    · subst h12
      rw [op_putF m2, if_pos (by decide)]
      exact ⟨o, rfl, h⟩
    · have hlt : ¬ (12 : Int32) ≤ nI M := fun q => h12 ((m12 hM).mp q)
      obtain ⟨q1, q2, q3⟩ := op_put h m1 (show M < 12 by omega) (show Q % 6 < 6 by omega) (show Q / 8 % 24 < 24 by omega) (show 1 ≤ 1 + Q / 256 % 6 by omega) (show 1 + Q / 256 % 6 < 7 by omega)
      rw [if_neg hlt, q1, q2]
      exact ⟨_, rfl, q3⟩
  rcases (show r = 0 ∨ r = 1 ∨ r = 2 ∨ r = 3 ∨ r = 4 ∨ r = 5 ∨ r = 6 ∨ r = 7 by omega) with rfl | rfl | rfl | rfl | rfl | rfl | rfl | rfl
  · rw [if_pos (show nI 0 = 0 by decide), if_neg (show ¬ (4 : Int32) ≤ nI 0 by decide)]
    simp only [if_neg (show ¬ (3 : Int32) ≤ nI 0 by decide)]
    exact put
  · rw [if_neg (show ¬ nI 1 = 0 by decide), if_pos (show nI 1 = 1 by decide), if_neg (show ¬ (4 : Int32) ≤ nI 1 by decide)]
    simp only [if_neg (show ¬ (3 : Int32) ≤ nI 1 by decide)]
    exact put
  · rw [if_neg (show ¬ nI 2 = 0 by decide), if_neg (show ¬ nI 2 = 1 by decide), if_pos (show nI 2 = 2 by decide), if_neg (show ¬ (4 : Int32) ≤ nI 2 by decide)]
    simp only [if_neg (show ¬ (3 : Int32) ≤ nI 2 by decide)]
    exact put
  · rw [if_neg (show ¬ nI 3 = 0 by decide), if_neg (show ¬ nI 3 = 1 by decide), if_neg (show ¬ nI 3 = 2 by decide), if_pos (show nI 3 = 3 by decide), if_neg (show ¬ (4 : Int32) ≤ nI 3 by decide)]
    simp only [if_pos (show (3 : Int32) ≤ nI 3 by decide)]
    rw [m1]
    by_cases h12 : M = 12
    · subst h12
      rw [op_pullF m2, if_pos (by decide)]
      exact ⟨o, rfl, h⟩
    · have hlt : ¬ (12 : Int32) ≤ nI M := fun q => h12 ((m12 hM).mp q)
      obtain ⟨q1, q2, q3⟩ := op_pull h m1 (show M < 12 by omega) (show Q % 6 < 6 by omega) (show Q / 8 % 24 < 24 by omega)
      rw [if_neg hlt, q1, q2]
      exact ⟨_, rfl, q3⟩
  · rw [if_neg (show ¬ nI 4 = 0 by decide), if_neg (show ¬ nI 4 = 1 by decide), if_neg (show ¬ nI 4 = 2 by decide), if_neg (show ¬ nI 4 = 3 by decide), if_pos (show nI 4 = 4 by decide), if_pos (show (4 : Int32) ≤ nI 4 by decide), if_pos (show nI 4 = 4 by decide)]
    by_cases hz : nI (Q / 4 % 2) = 0
    · rw [if_pos hz, if_pos hz]
      obtain ⟨q1, q2, q3, -⟩ := op_set (w := 0) (v := Q % 4) h (Or.inl ⟨rfl, by omega⟩)
      rw [show k_X1_change o 0 (nI (Q % 4)) = _ from q1, show k_X6_change s 0 (nI (Q % 4)) = _ from q2]
      exact ⟨_, rfl, q3⟩
    · rw [if_neg hz, if_neg hz]
      obtain ⟨q1, q2, q3, -⟩ := op_set (w := 1) (v := Q / 8 % 10) h (Or.inr (Or.inl ⟨rfl, by omega⟩))
      rw [show k_X1_change o 1 (nI (Q / 8 % 10)) = _ from q1, show k_X6_change s 1 (nI (Q / 8 % 10)) = _ from q2]
      exact ⟨_, rfl, q3⟩
  · rw [if_neg (show ¬ nI 5 = 0 by decide), if_neg (show ¬ nI 5 = 1 by decide), if_neg (show ¬ nI 5 = 2 by decide), if_neg (show ¬ nI 5 = 3 by decide), if_neg (show ¬ nI 5 = 4 by decide), if_pos (show nI 5 = 5 by decide), if_pos (show (4 : Int32) ≤ nI 5 by decide), if_neg (show ¬ nI 5 = 4 by decide), if_pos (show nI 5 ≤ 5 by decide)]
    by_cases hz : Q / 16 % 4 = 0
    · rw [hz, if_pos (show nI 0 = 0 by decide), if_pos (show nI 0 ≤ 0 by decide)]
      rcases oO h (nI (Q % 12)) with ⟨q1, q2⟩ | ⟨q1, q2, kk, M2, hk2, hM2, hs2, ek⟩
      · rw [drop_no q1, if_pos q2]
        exact ⟨o, rfl, h⟩
      · rw [if_neg q2, ek]
        obtain ⟨o2, r1, r2, r3⟩ := op_can h hs2 hM2 hk2
        rw [r1, r2]
        exact ⟨o2, rfl, r3⟩
    · rw [if_neg (nI_ne0 (by omega) (by omega)), if_neg (nI_nle (by omega) (by omega))]
      obtain ⟨q1, q2, q3, -⟩ := op_set (w := 2) (v := Q / 64 % 61) h (Or.inr (Or.inr ⟨rfl, by omega⟩))
      rw [show k_X1_change o 2 (nI (Q / 64 % 61)) = _ from q1, show k_X6_change s 2 (nI (Q / 64 % 61)) = _ from q2]
      exact ⟨_, rfl, q3⟩
  · rw [if_neg (show ¬ nI 6 = 0 by decide), if_neg (show ¬ nI 6 = 1 by decide), if_neg (show ¬ nI 6 = 2 by decide), if_neg (show ¬ nI 6 = 3 by decide), if_neg (show ¬ nI 6 = 4 by decide), if_neg (show ¬ nI 6 = 5 by decide), if_pos (show (4 : Int32) ≤ nI 6 by decide), if_neg (show ¬ nI 6 = 4 by decide), if_neg (show ¬ nI 6 ≤ 5 by decide)]
    obtain ⟨d, hd, q1, q2, q3⟩ := op_play h (show 1 ≤ 1 + Q % 12 by omega) (show 1 + Q % 12 ≤ 99 by omega)
    rw [q1, q2]
    exact ⟨_, rfl, q3⟩
  · rw [if_neg (show ¬ nI 7 = 0 by decide), if_neg (show ¬ nI 7 = 1 by decide), if_neg (show ¬ nI 7 = 2 by decide), if_neg (show ¬ nI 7 = 3 by decide), if_neg (show ¬ nI 7 = 4 by decide), if_neg (show ¬ nI 7 = 5 by decide), if_pos (show (4 : Int32) ≤ nI 7 by decide), if_neg (show ¬ nI 7 = 4 by decide), if_neg (show ¬ nI 7 ≤ 5 by decide)]
    obtain ⟨d, hd, q1, q2, q3⟩ := op_play h (show 1 ≤ 1 + Q % 12 by omega) (show 1 + Q % 12 ≤ 99 by omega)
    rw [q1, q2]
    exact ⟨_, rfl, q3⟩
theorem RF_10 {o : OV} {s : Nat → Int32} (h : RF o s) : o.1 10 = s 0 := by
  obtain ⟨N, h1, h2, h3⟩ := RF_N h
  rw [h2, h3]
theorem sim_L {c0 cv : CV} {m0 mv : MV} {vs : Int64} {v : Nat} (h : TRel cv mv) (hv : v ≤ 60) : ∀ (n i : Nat) (x : Int64) (o : OV) (s : Nat → Int32), RF o s → i ≤ v → v - i < n → ∃ r o2 s2, k_X5_simulate_L39 c0 vs (nI v) n x (nI i) (c_o cv 2 o) = (none, r, c_o cv 2 o2) ∧ k_X6_simulate_L45 m0 vs (nI v) n x (nI i) (m_r (m_s mv 0 0) 2 s) = (r, m_r (m_s mv 0 0) 2 s2) ∧ OI o2 := by
  intro n
  induction n with
  | zero => intro i x o s h1 h2 h3; omega
  | succ n ih =>
    intro i x o s h1 h2 h3
    rw [k_X5_simulate_L39, k_X6_simulate_L45]
    have e1 : (c_o cv 2 o).2.1 2 = o := co_g
    have e10 : (c_o cv 2 o).2.1 0 = cv.2.1 0 := co_n (by decide)
    have e2 : (m_r (m_s mv 0 0) 2 s).2 2 = s := mr_g
    have e21 : (m_r (m_s mv 0 0) 2 s).2 1 = mv.2 1 := mr_n (mv := m_s mv 0 0) (by decide)
    by_cases hi : i = v
    · subst hi
      have hle : nI i ≤ nI i := nI_le (Nat.le_refl _) (by omega)
      rw [if_pos hle, if_pos hle, e1, e10, e2, e21, RF_6 h1, RF_7 h1, RF_10 h1, RF_6 h.2.2.1, RF_7 h.2.2.1]
      exact ⟨_, o, s, rfl, rfl, RF_OI h1⟩
    · have hge : ¬ nI v ≤ nI i := nI_ge (by omega) (by omega)
      rw [if_neg hge, if_neg hge, e2, nI_1]
      obtain ⟨R, hR, eR⟩ := nI_rng (N := 2147483647) (sh_nn ((x * 6364136223846793005) + 1442695040888963407)) (by have := Int32.toInt_lt (Int64.toInt32 (x_lushr ((x * 6364136223846793005) + 1442695040888963407) 33)); omega)
      rw [eR]
      obtain ⟨o2, t1, t2⟩ := turn_R (cv := cv) h1 (show R < 2 ^ 31 by omega)
      unfold kbind
      rw [t1]
      simp only [m_r2]
      exact ih (i + 1) _ _ _ t2 (by omega) (by omega)
theorem T_sim {cv : CV} {mv : MV} (h : TRel cv mv) (x : Int64) (m : Int32) : AG [IAE] (k_X5_simulate cv x m) (k_X6_simulate mv x m) := by
  have e1 : (1 : Int32).toInt = 1 := rfl
  have e60 : (60 : Int32).toInt = 60 := rfl
  have f1 : (1 : Int64).toInt = 1 := rfl
  have f60 : (60 : Int64).toInt = 60 := rfl
  unfold k_X5_simulate k_X6_simulate
  by_cases hc : 1 ≤ m.toInt ∧ m.toInt ≤ 60
  · have hin : ¬ k_X6_in (m.toInt64) 1 60 = 0 := in_y (a := 1) (b := 60) (by omega)
    have c1 : ¬ m < 1 := by rw [i_lt]; omega
    have c2 : m ≤ 60 := by rw [i_le]; omega
    rw [if_neg c1, if_pos c2, if_neg hin, rf_0]
    dsimp only
    rw [if_pos p00]
    obtain ⟨v, hv, rfl⟩ := nI_rng (N := 60) (show 0 ≤ m.toInt by omega) hc.2
    have hcp : RF (k_X1_copyFrom (cv.2.1 2) (cv.2.1 0)) (k_X6_copyState ((m_s mv 0 0).2 1) ((m_s mv 0 0).2 2) 0 0) := copy_R (RF_s (fun i hi => cps_0 hi) h.2.2.1)
    obtain ⟨r, o3, s3, d1, d2, d3⟩ := sim_L (c0 := cv) (m0 := mv) (vs := x) h hv 61 0 x _ _ hcp (Nat.zero_le _) (by omega)
    rw [show (nI 0 : Int32) = 0 from rfl] at d1 d2
    rw [d1, d2]
    exact AG_ok (TR_look h d3) rfl rfl
  · have hin : k_X6_in (m.toInt64) 1 60 = 0 := in_z.mpr (by omega)
    rw [if_pos hin, rf_1]
    dsimp only
    rw [if_neg n10]
    by_cases c1 : m < 1
    · rw [if_pos c1]
      exact AG_bad h (by decide) (by simp)
    · have c2 : ¬ m ≤ 60 := by
        rw [i_lt] at c1
        rw [i_le]
        omega
      rw [if_neg c1, if_neg c2]
      exact AG_bad h (by decide) (by simp)
