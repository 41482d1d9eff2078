/-! p29: what was done and undone; ticks done by two organs. -/
def trm (t : Nat) (c : KC) : KC := (c.1, (min c.2.1.1 (14 - t), c.2.1.2), c.2.2)
theorem kc_eq {c d : KC} (h1 : c.1 = d.1) (h2 : c.2.1.1 = d.2.1.1) (h3 : c.2.1.2 = d.2.1.2) (h4 : c.2.2 = d.2.2) : c = d := Prod.ext h1 (Prod.ext (Prod.ext h2 h3) h4)
theorem trm_0 {c : KC} (h : c.2.1.1 ≤ 14) : trm 0 c = c := kc_eq rfl (show min c.2.1.1 (14 - 0) = c.2.1.1 by omega) rfl rfl
theorem trm_1 {t : Nat} {c : KC} : (trm t c).1 = c.1 := rfl
theorem trm_trm {t u : Nat} {c : KC} : trm t (trm u c) = trm (max t u) c := kc_eq rfl (show min (min c.2.1.1 (14 - u)) (14 - t) = min c.2.1.1 (14 - max t u) by omega) rfl rfl
theorem unc_1 {c : KC} {r : KR} : unc (psh c r) = trm 1 c := kc_eq rfl (show min (c.2.1.1 + 1) 14 - 1 = min c.2.1.1 (14 - 1) by omega) rfl rfl
theorem unc_t {t : Nat} {c : KC} {r : KR} (h : t ≤ 13) : unc (trm t (psh c r)) = trm (t + 1) c := kc_eq rfl (show min (min (c.2.1.1 + 1) 14) (14 - t) - 1 = min c.2.1.1 (14 - (t + 1)) by omega) rfl rfl
theorem psh_n {c : KC} {r : KR} : (psh c r).2.1.1 ≠ 0 := by show min (c.2.1.1 + 1) 14 ≠ 0; omega
theorem psh_tn {t : Nat} {c : KC} {r : KR} (h : t ≤ 13) : (trm t (psh c r)).2.1.1 ≠ 0 := by show min (min (c.2.1.1 + 1) 14) (14 - t) ≠ 0; omega
/-- n ticks as two organs do them: not more than 99 in a call -/
def wtk (c : KC) (n : Nat) : KC := if n ≤ 99 then psh c (itS n c.1) else psh (psh c (itS 99 c.1)) (itS 1 (itS 99 c.1))
def unk (c : KC) (n : Nat) : KC := if n ≤ 99 then unc c else unc (unc c)
theorem itS_S (m : Nat) (s : KR) : itS (m + 1) s = k_X6_tick (itS m s) := rfl
theorem itS_1 (s : KR) : itS 1 s = k_X6_tick s := rfl
theorem wt2 {c : KC} {m : Nat} {r : KR} : (psh (psh c (itS m r)) (itS 1 (itS m r))).1 = itS (m + 1) r := rfl
theorem wtk_1 {c : KC} {n : Nat} (h : n ≤ 100) : (wtk c n).1 = itS n c.1 := by
  unfold wtk
  by_cases h9 : n ≤ 99
  · rw [if_pos h9]; rfl
  · rw [if_neg h9]
    have : n = 99 + 1 := by omega
    subst this
    exact wt2
/-- how deep -/
def dpt (n : Nat) : Nat := if n ≤ 99 then 1 else 2
theorem unk_wtk {c : KC} {n : Nat} : unk (wtk c n) n = trm (dpt n) c := by
  unfold unk wtk dpt
  by_cases h9 : n ≤ 99
  · rw [if_pos h9, if_pos h9, if_pos h9]; exact unc_1
  · rw [if_neg h9, if_neg h9, if_neg h9, unc_1]; exact unc_t (by omega)
theorem dpt_b (n : Nat) : 1 ≤ dpt n ∧ dpt n ≤ 2 := by unfold dpt; split <;> omega
theorem R_ticks {cv0 : CV} {c : KC} (h0 : QR cv0 c) {v : Nat} (h1 : 1 ≤ v) (h2 : v ≤ 99) : ∃ d, d ≤ 693 ∧ ∀ cv, QR cv c → QR (k_X5_ticks cv (nI v)).2.2 (psh c (itS v c.1)) ∧ aX (k_X5_ticks cv (nI v)) = nI d := by
  obtain ⟨d, hd, -, a2, -⟩ := op_play (QR_R h0) h1 h2
  refine ⟨d, hd, fun cv h => ?_⟩
  have hg := T_ticks h.1 (nI v)
  unfold k_X6_ticks at hg
  have b1 : ¬ k_X6_in ((nI v).toInt64) 1 99 = 0 := (by decide +kernel : ∀ v, v ≤ 99 → 1 ≤ v → ¬ k_X6_in ((nI v).toInt64) 1 99 = 0) v h2 h1
  rw [if_neg b1, rf_0] at hg
  dsimp only at hg
  rw [if_pos p00, rem_c h, a2] at hg
  exact Q_act (by decide) h hg
theorem m99 {n : Nat} (h : n ≤ 99) : nI n + Int32.ofInt (-99) ≤ 0 := by
  have e1 : (Int32.ofInt (-99)).toInt = -99 := rfl
  have e2 := nI_toInt (n := n) (by omega)
  have e0 : (0 : Int32).toInt = 0 := rfl
  rw [i_le, i_add (by omega) (by omega), e1, e2, e0]
  omega
theorem m1x {n : Nat} (h : 1 ≤ n) : nI n + Int32.ofInt (-1) = nI (n - 1) := nI_decr h
/-- a tick has a state to come back to -/
theorem tick_QR {cv : CV} {c : KC} (h : QR cv c) {v : Nat} (h1 : 1 ≤ v) (h2 : v ≤ 99) : ∃ cv2, QR cv2 (psh c (itS v c.1)) := by
  obtain ⟨d, -, hq⟩ := R_ticks h h1 h2
  exact ⟨_, (hq cv h).1⟩
theorem P_least_u {r : KR} {v : Nat} {a b : Int32} (x : P_least r v a) (y : P_least r v b) : a = b := by
  rcases x with ⟨b, b1, b2, b3, b4⟩ | ⟨b1, b2⟩
  · rcases y with ⟨d, d1, d2, d3, d4⟩ | ⟨d1, d2⟩
    · have : b = d := by
        rcases Nat.lt_trichotomy b d with q | q | q
        · exact absurd b3 (d4 b q)
        · exact q
        · exact absurd d3 (b4 d q)
      rw [b2, d2, this]
    · exact absurd b3 (d2 b b1)
  · rcases y with ⟨d, d1, d2, d3, d4⟩ | ⟨d1, d2⟩
    · exact absurd d3 (b2 d d1)
    · rw [b1, d1]
theorem R_least2 {r : KR} {v : Nat} {z : Int32} (hz : P_least r v z) (h1 : 1 ≤ v) (h2 : v ≤ 99) {c : KC} (hc : c.1 = r) : ∀ cv, QR cv c → QR (k_X5_leastSpeed cv (nI v)).2.2 c ∧ aX (k_X5_leastSpeed cv (nI v)) = z := fun cv h => ⟨(Q_least h h1 h2).1, P_least_u (by rw [← hc]; exact (Q_least h h1 h2).2) hz⟩
theorem R_full2 {c : KC} : ∀ cv, QR cv c → k_X5_fullest cv = (k_X6_fullest (nmv c)).1 := fun cv h => (T_full h.1).2
theorem trm_lt {t : Nat} {c : KC} : (trm t c).2.1.1 - 1 < 2 ^ 31 := by show min c.2.1.1 (14 - t) - 1 < 2 ^ 31; omega
theorem F_undo_t {t : Nat} {c : KC} {r : KR} (ht : t ≤ 13) : ∀ cv, QR cv (trm t (psh c r)) → QR (k_X5_undo cv).2.2 (trm (t + 1) c) ∧ aX (k_X5_undo cv) = nI ((trm t (psh c r)).2.1.1 - 1) := fun cv h => by
  have := Q_undo h (psh_tn ht)
  rw [unc_t ht] at this
  exact this
theorem dpt_c {c : KC} {n : Nat} : dpt n ≤ (wtk c n).2.1.1 := by
  unfold dpt wtk
  by_cases h9 : n ≤ 99
  · rw [if_pos h9, if_pos h9]
    show 1 ≤ min (c.2.1.1 + 1) 14
    omega
  · rw [if_neg h9, if_neg h9]
    show 2 ≤ min (min (c.2.1.1 + 1) 14 + 1) 14
    omega
/-- orders cancelled, the last one first -/
def rwc (r : KR) (M : Nat) : Nat → KR
  | 0 => r
  | i + 1 => k_X6_dropOrder (rwc r M i) (nI (M - 1 - i))
def cch (c : KC) (M : Nat) : Nat → KC
  | 0 => c
  | i + 1 => psh (cch c M i) (rwc c.1 M (i + 1))
theorem cch_1 {c : KC} {M i : Nat} : (cch c M i).1 = rwc c.1 M i := by cases i <;> rfl
theorem rwc_ok {T M : Nat} {r : KR} {o : OV} (h : RF o r) (hM1 : r 1 = nI M) (hM : M ≤ 12) (he : EI T r) : ∀ i, i ≤ M → (∃ o2, RF o2 (rwc r M i)) ∧ EI T (rwc r M i) ∧ (rwc r M i) 1 = nI (M - i) := by
  intro i
  induction i with
  | zero => exact fun _ => ⟨⟨o, h⟩, he, hM1⟩
  | succ i ih =>
    intro hi
    obtain ⟨⟨o2, h2⟩, h3, h4⟩ := ih (by omega)
    obtain ⟨o3, -, -, h5⟩ := op_can h2 h4 (by omega) (show M - 1 - i < M - i by omega)
    obtain ⟨N, M2, hRC, -⟩ := h2
    have hMM : M2 = M - i := (nI_eq (by have := hRC.1.2.1.2.1; omega) (by omega)).mp (hRC.1.2.1.1.symm.trans h4)
    subst hMM
    obtain ⟨h6, -, h7⟩ := EI_drop hRC (show M - 1 - i < M - i by omega) h3
    exact ⟨⟨o3, h5⟩, h6, h7.trans (congrArg nI (by omega))⟩
theorem F_cancel {c : KC} {M i : Nat} (h1 : (rwc c.1 M i) 1 = nI (M - i)) (hM : M ≤ 12) (hi : i < M) : ∀ cv, QR cv (cch c M i) → QR (k_X5_cancel cv (nI (M - 1 - i))).2.2 (cch c M (i + 1)) ∧ aX (k_X5_cancel cv (nI (M - 1 - i))) = nI (M - 1 - i) := fun cv h => by
  have := Q_cancel h (M := M - i) (k := M - 1 - i) (by rw [cch_1]; exact h1) (by omega) (by omega)
  rw [cch_1, show M - i - 1 = M - 1 - i by omega] at this
  exact this
/-- one order left: never more -/
def P4 : WP := fun _ M _ _ _ => M ≤ 1
theorem P4_C : WC P4 := ⟨fun _ _ _ _ _ _ _ _ _ h => h, fun _ _ _ _ _ _ _ h => h, fun _ M _ _ _ _ _ h => Nat.le_trans (Nat.sub_le M 1) h⟩
theorem it_M1 {o : OV} {s : KR} (h : RF o s) (h1 : s 1 = nI 1) : ∀ m, ∃ N M, RC (itC m o) (itS m s) N M ∧ M ≤ 1 := by
  intro m
  induction m with
  | zero =>
    obtain ⟨N, M, hRC, -⟩ := h
    have hMM : M = 1 := (nI_eq (by have := hRC.1.2.1.2.1; omega) (by omega)).mp (hRC.1.2.1.1.symm.trans h1)
    exact ⟨N, M, hRC, by omega⟩
  | succ m ih =>
    obtain ⟨N, M, h2, h3⟩ := ih
    obtain ⟨N2, M2, h4, h5⟩ := tick_R P4_C h2 h3
    exact ⟨N2, M2, h4, h5⟩
/-- what m ticks make of one order: done or not, the sum of versions and voids goes with it -/
theorem one_it {T m : Nat} {o : OV} {s : KR} (h : RF o s) (h1 : s 1 = nI 1) (he : EI T s) (hT : T + m ≤ BIG) : ∃ V X M, (itS m s) 5 = nI V ∧ (itS m s) 11 = nI X ∧ (itS m s) 1 = nI M ∧ M ≤ 1 ∧ V + X + M = gA s 5 + gA s 11 + 1 ∧ V + X ≤ 12 * BIG := by
  have hBB : BIG = 1000000 := rfl
  obtain ⟨i1, i2, -, -⟩ := EI_it h he m hT
  obtain ⟨N, M, h2, h3⟩ := it_M1 h h1 m
  obtain ⟨⟨-, t2⟩, ⟨v1, v2, v3⟩, -⟩ := i1
  rw [RC_gM h2, gA_n h1 (by omega)] at i2
  exact ⟨_, _, M, v1, v2, h2.1.2.1.1, h3, i2, by omega⟩
