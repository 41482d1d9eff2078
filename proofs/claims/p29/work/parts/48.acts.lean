/-! Layer 2: what is allowed; the actions, by their answers. -/
theorem in_z {x : Int32} {a b : Int64} : k_X6_in (x.toInt64) a b = 0 ↔ ¬ (a.toInt ≤ x.toInt ∧ x.toInt ≤ b.toInt) := by
  constructor
  · intro h
    have := in_nb h
    omega
  · intro h
    rcases in01 (a := x.toInt64) (b := a) (c := b) with h1 | h1
    · exact h1
    · exact absurd (in_b (by rw [h1]; decide)) h
theorem e64_0 : (0 : Int64).toInt = 0 := rfl
theorem pP (x : Int32) : (k_X5_isPipe x = 0 ∧ k_X6_isPipe x = 0) ∨ (k_X5_isPipe x = 1 ∧ ¬ k_X6_isPipe x = 0 ∧ ∃ p, p < 6 ∧ x = nI p) := by
  have e0 : (0 : Int32).toInt = 0 := rfl
  have e6 : (6 : Int32).toInt = 6 := rfl
  have f5 : (5 : Int64).toInt = 5 := rfl
  have f0 := e64_0
  by_cases h : 0 ≤ x.toInt ∧ x.toInt ≤ 5
  · have hin : ¬ k_X6_isPipe x = 0 := in_y (a := 0) (b := 5) (by omega)
    obtain ⟨p, hp, rfl⟩ := nI_rng (N := 5) h.1 h.2
    exact Or.inr ⟨pipe_y (by omega), hin, p, by omega, rfl⟩
  · refine Or.inl ⟨?_, in_z.mpr (by omega)⟩
    unfold k_X5_isPipe
    by_cases h1 : x < 0
    · rw [if_pos h1]
    · rw [i_lt] at h1
      have h2 : 6 ≤ x := by rw [i_le]; omega
      rw [if_neg (by rw [i_lt]; exact h1), if_pos h2]
theorem bar_y {b : Nat} (hb : b < 24) : k_X5_isBar (nI b) = 1 := (by decide +kernel : ∀ b, b < 24 → k_X5_isBar (nI b) = 1) b hb
theorem bB (x : Int32) : (k_X5_isBar x = 0 ∧ k_X6_isBar x = 0) ∨ (k_X5_isBar x = 1 ∧ ¬ k_X6_isBar x = 0 ∧ ∃ p, p < 24 ∧ x = nI p) := by
  have e0 : (0 : Int32).toInt = 0 := rfl
  have e6 : (24 : Int32).toInt = 24 := rfl
  have f5 : (23 : Int64).toInt = 23 := rfl
  have f0 := e64_0
  by_cases h : 0 ≤ x.toInt ∧ x.toInt ≤ 23
  · have hin : ¬ k_X6_isBar x = 0 := in_y (a := 0) (b := 23) (by omega)
    obtain ⟨p, hp, rfl⟩ := nI_rng (N := 23) h.1 h.2
    exact Or.inr ⟨bar_y (by omega), hin, p, by omega, rfl⟩
  · refine Or.inl ⟨?_, in_z.mpr (by omega)⟩
    unfold k_X5_isBar
    by_cases h1 : x < 0
    · rw [if_pos h1]
    · rw [i_lt] at h1
      have h2 : 24 ≤ x := by rw [i_le]; omega
      rw [if_neg (by rw [i_lt]; exact h1), if_pos h2]
theorem lL (x : Int32) : (k_X5_isLength x = 0 ∧ k_X6_in (x.toInt64) 1 6 = 0) ∨ (k_X5_isLength x = 1 ∧ ¬ k_X6_in (x.toInt64) 1 6 = 0 ∧ ∃ p, 1 ≤ p ∧ p < 7 ∧ x = nI p) := by
  have e0 : (1 : Int32).toInt = 1 := rfl
  have e6 : (6 : Int32).toInt = 6 := rfl
  have f5 : (6 : Int64).toInt = 6 := rfl
  have f0 : (1 : Int64).toInt = 1 := rfl
  by_cases h : 1 ≤ x.toInt ∧ x.toInt ≤ 6
  · have hin : ¬ k_X6_in (x.toInt64) 1 6 = 0 := in_y (a := 1) (b := 6) (by omega)
    obtain ⟨p, hp, rfl⟩ := nI_rng (N := 6) (show 0 ≤ x.toInt by omega) h.2
    rw [nI_toInt (by omega)] at h
    refine Or.inr ⟨?_, hin, p, by omega, by omega, rfl⟩
    exact (by decide +kernel : ∀ p, p < 7 → 1 ≤ p → k_X5_isLength (nI p) = 1) p (by omega) (by omega)
  · refine Or.inl ⟨?_, in_z.mpr (by omega)⟩
    unfold k_X5_isLength
    by_cases h1 : x < 1
    · rw [if_pos h1]
    · rw [i_lt] at h1
      have h2 : 6 < x := by rw [i_lt]; omega
      rw [if_neg (by rw [i_lt]; exact h1), if_pos h2]
theorem tT (x : Int32) : (k_X5_isTicks x = 0 ∧ k_X6_in (x.toInt64) 1 99 = 0) ∨ (k_X5_isTicks x = 1 ∧ ¬ k_X6_in (x.toInt64) 1 99 = 0 ∧ ∃ p, 1 ≤ p ∧ p ≤ 99 ∧ x = nI p) := by
  have e0 : (1 : Int32).toInt = 1 := rfl
  have e6 : (99 : Int32).toInt = 99 := rfl
  have f5 : (99 : Int64).toInt = 99 := rfl
  have f0 : (1 : Int64).toInt = 1 := rfl
  by_cases h : 1 ≤ x.toInt ∧ x.toInt ≤ 99
  · have hin : ¬ k_X6_in (x.toInt64) 1 99 = 0 := in_y (a := 1) (b := 99) (by omega)
    obtain ⟨p, hp, rfl⟩ := nI_rng (N := 99) (show 0 ≤ x.toInt by omega) h.2
    rw [nI_toInt (by omega)] at h
    exact Or.inr ⟨ticks_y (by omega) (by omega), hin, p, by omega, by omega, rfl⟩
  · refine Or.inl ⟨?_, in_z.mpr (by omega)⟩
    unfold k_X5_isTicks
    by_cases h1 : x < 1
    · rw [if_pos h1]
    · rw [i_lt] at h1
      have h2 : 99 < x := by rw [i_lt]; omega
      rw [if_neg (by rw [i_lt]; exact h1), if_pos h2]
theorem sS (w v : Int32) : (k_X5_isSettingValue w v = 0 ∧ k_X6_isSetting w v = 0) ∨ (k_X5_isSettingValue w v = 1 ∧ ¬ k_X6_isSetting w v = 0 ∧ ∃ a b, sOK a b ∧ w = nI a ∧ v = nI b) := by
  have e0 : (0 : Int32).toInt = 0 := rfl
  have e1 : (1 : Int32).toInt = 1 := rfl
  have e2 : (2 : Int32).toInt = 2 := rfl
  have e3 : (3 : Int32).toInt = 3 := rfl
  have e9 : (9 : Int32).toInt = 9 := rfl
  have e60 : (60 : Int32).toInt = 60 := rfl
  by_cases h : w = 0 ∧ 0 ≤ v.toInt ∧ v.toInt ≤ 3 ∨ w = 1 ∧ 0 ≤ v.toInt ∧ v.toInt ≤ 9 ∨ w = 2 ∧ 0 ≤ v.toInt ∧ v.toInt ≤ 60
  · have hy := set_y h
    have : ∃ a b, sOK a b ∧ w = nI a ∧ v = nI b := by
      rcases h with ⟨rfl, h1, h2⟩ | ⟨rfl, h1, h2⟩ | ⟨rfl, h1, h2⟩
      · obtain ⟨b, hb, rfl⟩ := nI_rng (N := 3) h1 h2
        exact ⟨0, b, Or.inl ⟨rfl, hb⟩, rfl, rfl⟩
      · obtain ⟨b, hb, rfl⟩ := nI_rng (N := 9) h1 h2
        exact ⟨1, b, Or.inr (Or.inl ⟨rfl, hb⟩), rfl, rfl⟩
      · obtain ⟨b, hb, rfl⟩ := nI_rng (N := 60) h1 h2
        exact ⟨2, b, Or.inr (Or.inr ⟨rfl, hb⟩), rfl, rfl⟩
    obtain ⟨a, b, hok, rfl, rfl⟩ := this
    exact Or.inr ⟨sv_y hok, hy, a, b, hok, rfl, rfl⟩
  · refine Or.inl ⟨?_, Decidable.byContradiction (fun c => h (set_w c))⟩
    unfold k_X5_isSettingValue
    by_cases h1 : k_X5_isSetting w = 0
    · rw [if_pos h1]
    rw [if_neg h1]
    by_cases h2 : v < 0
    · rw [if_pos h2]
    rw [if_neg h2]
    rw [i_lt] at h2
    have hw : w = 0 ∨ w = 1 ∨ w = 2 := by
      have hin := vp_in_iff.mp (sm_in h1)
      rcases (show w.toInt = 0 ∨ w.toInt = 1 ∨ w.toInt = 2 by omega) with q | q | q
      · exact Or.inl (Int32.toInt_inj.mp (q.trans e0.symm))
      · exact Or.inr (Or.inl (Int32.toInt_inj.mp (q.trans e1.symm)))
      · exact Or.inr (Or.inr (Int32.toInt_inj.mp (q.trans e2.symm)))
    have hx0 : x_sm 0 = 3 := by decide
    have hx1 : x_sm 1 = 9 := by decide
    have hx2 : x_sm 2 = 60 := by decide
    rcases hw with rfl | rfl | rfl
    · have q : ¬ v.toInt ≤ 3 := fun q => h (Or.inl ⟨rfl, by omega, q⟩)
      rw [hx0, if_pos (by rw [i_lt]; omega)]
    · have q : ¬ v.toInt ≤ 9 := fun q => h (Or.inr (Or.inl ⟨rfl, by omega, q⟩))
      rw [hx1, if_pos (by rw [i_lt]; omega)]
    · have q : ¬ v.toInt ≤ 60 := fun q => h (Or.inr (Or.inr ⟨rfl, by omega, q⟩))
      rw [hx2, if_pos (by rw [i_lt]; omega)]
theorem tB {n : Nat} {x : Int32} (hn : n ≤ 30) (t : TV) (y : Int32) (h1 : t.1 = nI n) (h2 : y = nI n) : (k_X4_has t x = 0 ∧ k_X6_in (x.toInt64) 0 ((y - 1).toInt64) = 0) ∨ (k_X4_has t x = 1 ∧ ¬ k_X6_in (x.toInt64) 0 ((y - 1).toInt64) = 0 ∧ ∃ k, k < n ∧ x = nI k) := by
  have e0 : (0 : Int32).toInt = 0 := rfl
  have e1 : (1 : Int32).toInt = 1 := rfl
  have f0 := e64_0
  have fy : ((y - 1).toInt64).toInt = (n : Int) - 1 := by
    rw [Int32.toInt_toInt64, h2, i_sub (by rw [nI_toInt (by omega)]; omega) (by rw [nI_toInt (by omega)]; omega), nI_toInt (by omega), e1]
  by_cases h : 0 ≤ x.toInt ∧ x.toInt < n
  · have hin : ¬ k_X6_in (x.toInt64) 0 ((y - 1).toInt64) = 0 := in_y (by rw [fy]; omega)
    obtain ⟨k, hk, rfl⟩ := nI_rng (N := n) h.1 (by omega)
    rw [nI_toInt (by omega)] at h
    exact Or.inr ⟨has_y h1 (by omega) hn, hin, k, by omega, rfl⟩
  · refine Or.inl ⟨?_, in_z.mpr (by rw [fy]; omega)⟩
    unfold k_X4_has
    by_cases h3 : x < 0
    · rw [if_pos h3]
    · rw [i_lt] at h3
      rw [if_neg (by rw [i_lt]; exact h3), if_pos (by rw [h1, i_le, nI_toInt (by omega)]; omega)]
theorem oO {o : OV} {s : Nat → Int32} (h : RF o s) (x : Int32) : (k_X4_has (g_ot o) x = 0 ∧ k_X6_isOrder s x = 0) ∨ (k_X4_has (g_ot o) x = 1 ∧ ¬ k_X6_isOrder s x = 0 ∧ ∃ k M, k < M ∧ M ≤ 12 ∧ s 1 = nI M ∧ x = nI k) := by
  obtain ⟨M, h1, h2, h3⟩ := RF_M h
  rcases tB (n := M) (x := x) (by omega) (g_ot o) (s 1) h3 h2 with q | ⟨q1, q2, k, hk, q3⟩
  · exact Or.inl q
  · exact Or.inr ⟨q1, q2, k, M, hk, h1, h2, q3⟩
theorem oP {o : OV} {s : Nat → Int32} (h : RF o s) (x : Int32) : (k_X4_has (g_pt o) x = 0 ∧ k_X6_isPeg s x = 0) ∨ (k_X4_has (g_pt o) x = 1 ∧ ¬ k_X6_isPeg s x = 0 ∧ ∃ k N, k < N ∧ N ≤ 30 ∧ s 0 = nI N ∧ x = nI k) := by
  obtain ⟨N, h1, h2, h3⟩ := RF_N h
  rcases tB (n := N) (x := x) (by omega) (g_pt o) (s 0) h3 h2 with q | ⟨q1, q2, k, hk, q3⟩
  · exact Or.inl q
  · exact Or.inr ⟨q1, q2, k, N, hk, h1, h2, q3⟩
theorem m12 {M : Nat} (hM : M ≤ 12) : (12 : Int32) ≤ nI M ↔ M = 12 := by
  rw [show (12 : Int32) = nI 12 from rfl, nI_leI (by omega) (by omega)]
  omega
/-- the actions -/
theorem op_put {o : OV} {s : Nat → Int32} {M p f n : Nat} (h : RF o s) (hs : s 1 = nI M) (hM : M < 12) (hp : p < 6) (hf : f < 24) (h1 : 1 ≤ n) (hn : n < 7) : k_X1_orderPut o (nI p) (nI f) (nI n) = (nI M, adO o M 1 (nI p) (nI f) (nI n)) ∧ k_X6_orderOn s 1 (nI p) (nI f) (nI n) = (nI M, adS s M 1 (nI p) (nI f) (nI n)) ∧ RF (adO o M 1 (nI p) (nI f) (nI n)) (adS s M 1 (nI p) (nI f) (nI n)) := by
  obtain ⟨M2, m1, m2, m3⟩ := RF_M h
  have : M2 = M := by
    rw [hs] at m2
    exact ((nI_eq (by omega) (by omega)).mp m2).symm
  subst this
  refine ⟨?_, oon_eq hs hM, ad_R h hs hM hp hf hn (Or.inl ⟨rfl, h1⟩)⟩
  unfold k_X1_orderPut
  rw [(by decide +kernel : ∀ p, p < 7 → 1 ≤ p → k_X5_isLength (nI p) = 1) n hn h1, if_neg (by decide), add_in2 m3 hM hp hf]
theorem op_putF {o : OV} {vp vb vn : Int32} (h : o.1 11 = nI 12) : k_X1_orderPut o vp vb vn = (-1, o) := by
  unfold k_X1_orderPut
  rw [add_full h]
  split <;> rfl
theorem op_putN {o : OV} {vp vb vn : Int32} (h : k_X5_isPipe vp = 0 ∨ k_X5_isBar vb = 0 ∨ k_X5_isLength vn = 0) : k_X1_orderPut o vp vb vn = (-1, o) := by
  unfold k_X1_orderPut
  rcases h with h | h | h
  · rw [add_no (Or.inl h)]
    split <;> rfl
  · rw [add_no (Or.inr h)]
    split <;> rfl
  · rw [if_pos h]
theorem op_pull {o : OV} {s : Nat → Int32} {M p f : Nat} (h : RF o s) (hs : s 1 = nI M) (hM : M < 12) (hp : p < 6) (hf : f < 24) : k_X1_orderPull o (nI p) (nI f) = (nI M, adO o M 0 (nI p) (nI f) 0) ∧ k_X6_orderOn s 0 (nI p) (nI f) 0 = (nI M, adS s M 0 (nI p) (nI f) 0) ∧ RF (adO o M 0 (nI p) (nI f) 0) (adS s M 0 (nI p) (nI f) 0) := by
  obtain ⟨M2, m1, m2, m3⟩ := RF_M h
  have : M2 = M := by
    rw [hs] at m2
    exact ((nI_eq (by omega) (by omega)).mp m2).symm
  subst this
  refine ⟨?_, oon_eq hs hM, ad_R (n := 0) h hs hM hp hf (by omega) (Or.inr ⟨rfl, rfl⟩)⟩
  unfold k_X1_orderPull
  rw [add_in2 m3 hM hp hf]
theorem op_pullF {o : OV} {vp vb : Int32} (h : o.1 11 = nI 12) : k_X1_orderPull o vp vb = (-1, o) := by
  unfold k_X1_orderPull
  rw [add_full h]
theorem op_pullN {o : OV} {vp vb : Int32} (h : k_X5_isPipe vp = 0 ∨ k_X5_isBar vb = 0) : k_X1_orderPull o vp vb = (-1, o) := by
  unfold k_X1_orderPull
  rw [add_no h]
theorem op_can {o : OV} {s : Nat → Int32} {M k : Nat} (h : RF o s) (hs : s 1 = nI M) (hM : M ≤ 12) (hk : k < M) : ∃ o2, k_X1_dropOrder o (nI k) = (nI (M - 1), o2) ∧ k_X6_cancelOn s (nI k) = (nI (M - 1), k_X6_dropOrder s (nI k)) ∧ RF o2 (k_X6_dropOrder s (nI k)) := by
  obtain ⟨d1, d2, d3⟩ := drop_F h hs hM hk
  refine ⟨(k_X1_dropOrder o (nI k)).2, Prod.ext d2 rfl, ?_, d1⟩
  unfold k_X6_cancelOn
  rw [d3]
theorem op_set {o : OV} {s : Nat → Int32} {w v : Nat} (h : RF o s) (hok : sOK w v) : k_X1_change o (nI w) (nI v) = (s (12 + w), o_r o 5 (va_up (o.2.2 5) w (nI v))) ∧ k_X6_change s (nI w) (nI v) = (s (12 + w), va_up s (12 + w) (nI v)) ∧ RF (o_r o 5 (va_up (o.2.2 5) w (nI v))) (va_up s (12 + w) (nI v)) ∧ ∃ a, a ≤ 60 ∧ s (12 + w) = nI a := by
  obtain ⟨c1, c2⟩ := chg_R h hok
  refine ⟨by rw [chg_eq hok, c2], chS_eq (by unfold sOK at hok; omega), c1, ?_⟩
  obtain ⟨N, M, ⟨-, ⟨-, -, -, ⟨a4, d4, e4⟩, ⟨a5, d5, e5⟩, ⟨a6, d6, e6⟩⟩, -, -⟩, -⟩ := h
  rcases hok with ⟨rfl, -⟩ | ⟨rfl, -⟩ | ⟨rfl, -⟩
  · exact ⟨a4, by omega, e4⟩
  · exact ⟨a5, by omega, e5⟩
  · exact ⟨a6, by omega, e6⟩
theorem op_setN {o : OV} {vw vv : Int32} (h : k_X5_isSettingValue vw vv = 0) : k_X1_change o vw vv = (-1, o) := by
  unfold k_X1_change
  rw [if_pos h]
/-- the notes of some ticks -/
theorem take6L {o : OV} {vk : Int32} : ∀ (n : Nat) (k : Int32), (k_X1_takePeg_L23 o vk n k).2.1 6 = o.1 6 := by
  intro n
  induction n with
  | zero => intro k; rfl
  | succ n ih =>
    intro k
    rw [k_X1_takePeg_L23]
    split
    · rfl
    split
    · rfl
    split
    · split
      · rfl
      · exact ih _
    · exact ih _
theorem place6 {o : OV} {vk : Int32} : (k_X1_placePeg o vk).2.1 6 = o.1 6 := by
  unfold k_X1_placePeg
  split
  · rfl
  split
  · rfl
  split
  · rfl
  · rfl
theorem drop6 {o : OV} {vk : Int32} : (k_X1_dropOrder o vk).2.1 6 = o.1 6 := by
  unfold k_X1_dropOrder
  split
  · rfl
  split
  · rfl
  split
  · rfl
  · rfl
theorem pr6 {o : OV} {k : Int32} : (pr o k).1 6 = o.1 6 := by
  unfold pr
  split
  · split <;> exact take6L _ _
  · split <;> exact place6
theorem look6 {o0 : OV} : ∀ (n : Nat) (k lft : Int32) (ow : OV), (k_X1_lookAtOrders_L10 o0 n k lft ow).1 6 = ow.1 6 := by
  intro n
  induction n with
  | zero => intro k lft ow; rfl
  | succ n ih =>
    intro k lft ow
    rw [look_C]
    split
    · rfl
    split
    · rw [ih]; exact drop6.trans pr6
    · rw [ih]; rfl
theorem blow6 {o0 : OV} : ∀ (n : Nat) (i acc : Int32) (ow : OV), ∃ d, d ≤ n ∧ (k_X1_blowPipes_L4 o0 n i acc ow).1 6 = ow.1 6 + nI d := by
  intro n
  induction n with
  | zero => intro i acc ow; exact ⟨0, Nat.le_refl _, (Int32.add_zero _).symm⟩
  | succ n ih =>
    intro i acc ow
    rw [k_X1_blowPipes_L4]
    split
    · exact ⟨0, Nat.zero_le _, (Int32.add_zero _).symm⟩
    split
    · obtain ⟨d, h1, h2⟩ := ih (i + 1) acc ow
      exact ⟨d, by omega, h2⟩
    split
    · obtain ⟨d, h1, h2⟩ := ih (i + 1) acc (o_r (o_s ow 7 ((ow.1 7) + 1)) 4 (va_up (ow.2.2 4) i.toNatClampNeg (((ow.2.2 4) i.toNatClampNeg) + 1)))
      exact ⟨d, by omega, h2⟩
    · obtain ⟨d, h1, h2⟩ := ih (i + 1) (acc ||| ((1 : Int32) <<< (i &&& 31))) (o_r (o_s (o_s ow 4 ((ow.1 4) - 1)) 6 ((ow.1 6) + 1)) 3 (va_up (ow.2.2 3) i.toNatClampNeg (((ow.2.2 3) i.toNatClampNeg) + 1)))
      refine ⟨d + 1, by omega, h2.trans ?_⟩
      show ow.1 6 + 1 + nI d = _
      rw [← nI_1, Int32.add_assoc, Int32.add_comm 1]
theorem tk6 (o : OV) : ∃ d, d ≤ 7 ∧ (tkC o).1 6 = o.1 6 + nI d := by
  unfold tkC
  obtain ⟨d, h1, h2⟩ := blow6 (o0 := k_X1_lookAtOrders (wnd (k_X1_turnCrank (o_s o 0 ((o.1 0) + 1))))) 7 0 0 (k_X1_lookAtOrders (wnd (k_X1_turnCrank (o_s o 0 ((o.1 0) + 1)))))
  refine ⟨d, h1, h2.trans ?_⟩
  congr 1
  unfold k_X1_lookAtOrders
  rw [look6]
  unfold wnd k_X1_turnCrank
  split <;> rfl
theorem it6 (o : OV) : ∀ m, ∃ d, d ≤ 7 * m ∧ (itC m o).1 6 = o.1 6 + nI d := by
  intro m
  induction m with
  | zero => exact ⟨0, Nat.le_refl _, (Int32.add_zero _).symm⟩
  | succ m ih =>
    obtain ⟨d, h1, h2⟩ := ih
    obtain ⟨e, h3, h4⟩ := tk6 (itC m o)
    refine ⟨d + e, by omega, ?_⟩
    show (tkC (itC m o)).1 6 = _
    rw [h4, h2, Int32.add_assoc, nI_add]
theorem op_play {o : OV} {s : Nat → Int32} {v : Nat} (h : RF o s) (h1 : 1 ≤ v) (h2 : v ≤ 99) : ∃ d, d ≤ 693 ∧ k_X1_play o (nI v) = (nI d, itC v o) ∧ k_X6_ticksOn s (nI v) = (nI d, itS v s) ∧ RF (itC v o) (itS v s) := by
  obtain ⟨d, h3, h4⟩ := it6 o v
  have e : (itC v o).1 6 - o.1 6 = nI d := by
    rw [h4, Int32.add_comm, Int32.add_sub_cancel]
  refine ⟨d, by omega, ?_, ?_, RF_it h v⟩
  · rw [play_eq h1 h2, e]
  · rw [ton_eq h2, ← RF_6 (RF_it h v), ← RF_6 h, e]
theorem op_playN {o : OV} {vn : Int32} (h : k_X5_isTicks vn = 0) : k_X1_play o vn = (-1, o) := by
  unfold k_X1_play
  rw [if_pos h]
theorem nI_nn {x : Nat} (h : x < 2 ^ 31) : ¬ nI x < 0 := nI_pos h
