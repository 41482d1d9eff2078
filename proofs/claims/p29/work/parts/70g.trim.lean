/-! p29: what was done and undone; ticks done by two organs. -/
def trm (t : Nat) (c : KC) : KC := (c.1, (min c.2.1.1 (14 - t), c.2.1.2), c.2.2)
theorem kc_eq {c d : KC} (h1 : c.1 = d.1) (h2 : c.2.1.1 = d.2.1.1) (h3 : c.2.1.2 = d.2.1.2) (h4 : c.2.2 = d.2.2) : c = d := Prod.ext h1 (Prod.ext (Prod.ext h2 h3) h4)
theorem trm_0 {c : KC} (h : c.2.1.1 ≤ 14) : trm 0 c = c := kc_eq rfl (show min c.2.1.1 (14 - 0) = c.2.1.1 by omega) rfl rfl
theorem trm_1 {t : Nat} {c : KC} : (trm t c).1 = c.1 := rfl
theorem trm_trm {t u : Nat} {c : KC} : trm t (trm u c) = trm (max t u) c := kc_eq rfl (show min (min c.2.1.1 (14 - u)) (14 - t) = min c.2.1.1 (14 - max t u) by omega) rfl rfl
theorem unc_1 {c : KC} {r : KR} : unc (psh c r) = trm 1 c := kc_eq rfl (show min (c.2.1.1 + 1) 14 - 1 = min c.2.1.1 (14 - 1) by omega) rfl rfl
theorem unc_t {t : Nat} {c : KC} {r : KR} (h : t ≤ 13) : unc (trm t (psh c r)) = trm (t + 1) c := kc_eq rfl (show min (min (c.2.1.1 + 1) 14) (14 - t) - 1 = min c.2.1.1 (14 - (t + 1)) by omega) rfl rfl
theorem psh_n {c : KC} {r : KR} : (psh c r).2.1.1 ≠ 0 := by show min (c.2.1.1 + 1) 14 ≠ 0; omega
theorem psh_tn {t : Nat} {c : KC} {r : KR} (h : t ≤ 13) : (trm t (psh c r)).2.1.1 ≠ 0 := by show min (min (c.2.1.1 + 1) 14) (14 - t) ≠ 0; omega
/-- n ticks as two organs do them: not more than 99 in a call -/
def wtk (c : KC) (n : Nat) : KC := if n ≤ 99 then psh c (itS n c.1) else psh (psh c (itS 99 c.1)) (itS 1 (itS 99 c.1))
def unk (c : KC) (n : Nat) : KC := if n ≤ 99 then unc c else unc (unc c)
theorem wtk_1 {c : KC} {n : Nat} (h : n ≤ 100) : (wtk c n).1 = itS n c.1 := by
  unfold wtk
  by_cases h9 : n ≤ 99
  · rw [if_pos h9]; rfl
  · rw [if_neg h9]
    have : n = 100 := by omega
    subst this
    rfl
/-- how deep -/
def dpt (n : Nat) : Nat := if n ≤ 99 then 1 else 2
theorem unk_wtk {c : KC} {n : Nat} : unk (wtk c n) n = trm (dpt n) c := by
  unfold unk wtk dpt
  by_cases h9 : n ≤ 99
  · rw [if_pos h9, if_pos h9, if_pos h9]; exact unc_1
  · rw [if_neg h9, if_neg h9, if_neg h9, unc_1]; exact unc_t (by omega)
theorem dpt_b (n : Nat) : 1 ≤ dpt n ∧ dpt n ≤ 2 := by unfold dpt; split <;> omega
theorem R_ticks {cv0 : CV} {c : KC} (h0 : QR cv0 c) {v : Nat} (h1 : 1 ≤ v) (h2 : v ≤ 99) : ∃ d, d ≤ 693 ∧ ∀ cv, QR cv c → QR (k_X5_ticks cv (nI v)).2.2 (psh c (itS v c.1)) ∧ aX (k_X5_ticks cv (nI v)) = nI d := by
  obtain ⟨d, hd, -, a2, -⟩ := op_play (QR_R h0) h1 h2
  refine ⟨d, hd, fun cv h => ?_⟩
  have hg := T_ticks h.1 (nI v)
  unfold k_X6_ticks at hg
  have b1 : ¬ k_X6_in ((nI v).toInt64) 1 99 = 0 := (by decide +kernel : ∀ v, v ≤ 99 → 1 ≤ v → ¬ k_X6_in ((nI v).toInt64) 1 99 = 0) v h2 h1
  rw [if_neg b1, rf_0] at hg
  dsimp only at hg
  rw [if_pos p00, rem_c h, a2] at hg
  exact Q_act (by decide) h hg
theorem m99 {n : Nat} (h : n ≤ 99) : nI n + Int32.ofInt (-99) ≤ 0 := by
  have e1 : (Int32.ofInt (-99)).toInt = -99 := rfl
  have e2 := nI_toInt (n := n) (by omega)
  have e0 : (0 : Int32).toInt = 0 := rfl
  rw [i_le, i_add (by omega) (by omega), e1, e2, e0]
  omega
theorem m1x {n : Nat} (h : 1 ≤ n) : nI n + Int32.ofInt (-1) = nI (n - 1) := nI_decr h
/-- a tick has a state to come back to -/
theorem tick_QR {cv : CV} {c : KC} (h : QR cv c) {v : Nat} (h1 : 1 ≤ v) (h2 : v ≤ 99) : ∃ cv2, QR cv2 (psh c (itS v c.1)) := by
  obtain ⟨d, -, hq⟩ := R_ticks h h1 h2
  exact ⟨_, (hq cv h).1⟩
theorem P_least_u {r : KR} {v : Nat} {a b : Int32} (x : P_least r v a) (y : P_least r v b) : a = b := by
  rcases x with ⟨b, b1, b2, b3, b4⟩ | ⟨b1, b2⟩
  · rcases y with ⟨d, d1, d2, d3, d4⟩ | ⟨d1, d2⟩
    · have : b = d := by
        rcases Nat.lt_trichotomy b d with q | q | q
        · exact absurd b3 (d4 b q)
        · exact q
        · exact absurd d3 (b4 d q)
      rw [b2, d2, this]
    · exact absurd b3 (d2 b b1)
  · rcases y with ⟨d, d1, d2, d3, d4⟩ | ⟨d1, d2⟩
    · exact absurd d3 (b2 d d1)
    · rw [b1, d1]
theorem R_least2 {r : KR} {v : Nat} {z : Int32} (hz : P_least r v z) (h1 : 1 ≤ v) (h2 : v ≤ 99) {c : KC} (hc : c.1 = r) : ∀ cv, QR cv c → QR (k_X5_leastSpeed cv (nI v)).2.2 c ∧ aX (k_X5_leastSpeed cv (nI v)) = z := fun cv h => ⟨(Q_least h h1 h2).1, P_least_u (by rw [← hc]; exact (Q_least h h1 h2).2) hz⟩
theorem R_full2 {c : KC} : ∀ cv, QR cv c → k_X5_fullest cv = (k_X6_fullest (nmv c)).1 := fun cv h => (T_full h.1).2
