/-! Layer 2: the class's whole state and the reference's; the calls, one by one. -/
abbrev IAE : String := "java/lang/IllegalArgumentException"
abbrev ISE : String := "java/lang/IllegalStateException"
abbrev IOB : String := "java/lang/IndexOutOfBoundsException"
def HS (cv : CV) (mv : MV) : Prop := ∃ a nx, a ≤ 14 ∧ nx < 14 ∧ mv.1 2 = nI a ∧ cv.2.2.1 1 = nI a ∧ cv.2.2.1 0 = nI nx ∧ ∀ j, j < a → RF (cv.2.1 (3 + (nx + 14 - a + j) % 14)) (fun i => mv.2 3 (217 * j + i))
def SL (cv : CV) (mv : MV) : Prop := ∀ i, i < 2 → (cv.2.2.2 i = 0 ∧ mv.2 5 i = 0) ∨ (cv.2.2.2 i = 1 ∧ mv.2 5 i = 1 ∧ RF (cv.2.1 (17 + i)) (fun q => mv.2 4 (217 * i + q)))
def s00 : Nat → Int32 := k_X6_clear (fun _ => 0)
def TRel (cv : CV) (mv : MV) : Prop := TX cv.1 mv ∧ CO cv ∧ RF (cv.2.1 0) (mv.2 1) ∧ RF (cv.2.1 1) s00 ∧ HS cv mv ∧ SL cv mv
def cdx : List String → String → Nat → Int32
  | [], _, _ => -1
  | a :: L, E, n => if a = E then nI n else cdx L E (n + 1)
def cod (L : List String) (x : Option String) : Int32 := match x with
  | none => 0
  | some E => cdx L E 1
def AG (L : List String) (q : Option String × Int32 × CV) (r : Int32 × MV) : Prop := TRel q.2.2 r.2 ∧ r.2.1 0 = cod L q.1 ∧ (q.1 = none → q.2.1 = r.1) ∧ ∀ E, q.1 = some E → E ∈ L
theorem TR_MO {cv : CV} {mv : MV} (h : TRel cv mv) : MO mv := by
  obtain ⟨⟨L, a1, a2, a3, -⟩, -, h3, -, ⟨a, nx, b1, b2, b3, -⟩, -⟩ := h
  refine ⟨RF_SI h3, ?_, ?_⟩
  · rw [a3, nI_toInt (by omega)]; omega
  · rw [b3, nI_toInt (by omega)]; omega
theorem TR_upd {cv cv2 : CV} {mv mv2 : MV} (h : TRel cv mv) (hT : TX cv2.1 mv2) (hC : CO cv2) (hR : RF (cv2.2.1 0) (mv2.2 1)) (ho : ∀ k, k ≠ 0 → k ≠ 2 → cv2.2.1 k = cv.2.1 k) (hs : cv2.2.2 = cv.2.2) (h2 : mv2.1 2 = mv.1 2) (h3 : mv2.2 3 = mv.2 3) (h4 : mv2.2 4 = mv.2 4) (h5 : mv2.2 5 = mv.2 5) : TRel cv2 mv2 := by
  obtain ⟨-, -, -, t4, ⟨a, nx, b1, b2, b3, b4, b5, b6⟩, t6⟩ := h
  refine ⟨hT, hC, hR, by rw [ho 1 (by omega) (by omega)]; exact t4, ⟨a, nx, b1, b2, h2.trans b3, by rw [hs]; exact b4, by rw [hs]; exact b5, fun j hj => ?_⟩, fun i hi => ?_⟩
  · rw [ho _ (by omega) (by omega), h3]; exact b6 j hj
  · rw [ho _ (by omega) (by omega), hs, h4, h5]; exact t6 i hi
theorem TR_m {cv : CV} {mv : MV} {v : Int32} (h : TRel cv mv) : TRel cv (m_s mv 0 v) := TR_upd h (TX_of h.1 rfl rfl rfl rfl) h.2.1 h.2.2.1 (fun _ _ _ => rfl) rfl rfl rfl rfl rfl
theorem rf_0 (mv : MV) : k_X6_refused mv 0 = (0, m_s mv 0 0) := if_pos (by decide)
theorem rf_1 (mv : MV) : k_X6_refused mv 1 = (1, m_s mv 0 1) := if_neg (by decide)
theorem rf_2 (mv : MV) : k_X6_refused mv 2 = (1, m_s mv 0 2) := if_neg (by decide)
theorem rf_3 (mv : MV) : k_X6_refused mv 3 = (1, m_s mv 0 3) := if_neg (by decide)
theorem n10 : ¬ (1 : Int32) = 0 := by decide
theorem p00 : (0 : Int32) = 0 := rfl
theorem AG_bad {L : List String} {cv : CV} {mv : MV} {E : String} {n : Int32} (h : TRel cv mv) (hc : cod L (some E) = n) (hE : E ∈ L) : AG L (some E, 0, cv) (0, m_s mv 0 n) := ⟨TR_m h, hc.symm, fun q => (by cases q), fun E2 q => (by cases q; exact hE)⟩
theorem AG_ok {L : List String} {cv2 : CV} {mv2 : MV} {a b : Int32} (h : TRel cv2 mv2) (hz : mv2.1 0 = 0) (hab : a = b) : AG L (none, a, cv2) (b, mv2) := ⟨h, hz, fun _ => hab, fun E q => (by cases q)⟩
-- ---------------------------------------------------------------- text
theorem T_append {cv : CV} {mv : MV} (h : TRel cv mv) (c : Int32) : AG [IAE, ISE] (k_X5_append cv c) (k_X6_append mv c) := by
  have e0 : (0 : Int32).toInt = 0 := rfl
  have e2 : (255 : Int32).toInt = 255 := rfl
  have f2 : (255 : Int64).toInt = 255 := rfl
  have f0 := e64_0
  obtain ⟨L, a1, a2, a3, a4⟩ := h.1
  unfold k_X5_append k_X6_append
  by_cases hc : 0 ≤ c.toInt ∧ c.toInt ≤ 255
  · have hin : ¬ k_X6_in (c.toInt64) 0 255 = 0 := in_y (a := 0) (b := 255) (by omega)
    have c1 : ¬ c < 0 := by rw [i_lt]; omega
    have c2 : c ≤ 255 := by rw [i_le]; omega
    rw [if_neg c1, if_pos c2, if_neg hin, a3]
    unfold k_X2_isFull
    rw [a2]
    by_cases hL : L = 120
    · subst hL
      rw [if_neg (show ¬ nI 120 < 120 by decide), if_neg n10, if_pos (show nI 120 = 120 from rfl), rf_2]
      dsimp only
      rw [if_neg n10]
      exact AG_bad h (by decide) (by simp)
    · have hL2 : nI L < 120 := nI_lt (b := 120) (by omega) (by omega)
      have hL3 : ¬ nI L = 120 := fun e => hL ((nI_eq (b := 120) (by omega) (by omega)).mp e)
      rw [if_pos hL2, if_pos p00, if_neg hL3, rf_0, (i2c_b c1 c2).1]
      dsimp only
      rw [if_pos p00]
      have hadd : k_X2_addCharacter cv.1 c = (nI (L + 1), r_t (r_s cv.1 0 (nI (L + 1))) (va_up cv.1.2 L c)) := by
        unfold k_X2_addCharacter
        have n120 : ¬ (120 : Int32) ≤ nI L := nI_ge (b := 120) (by omega) (by omega)
        rw [a2, if_neg (nI_pos (by omega)), if_neg n120, nI_1, nI_clamp (by omega)]
      rw [hadd, show (m_s mv 0 0).1 1 = nI L from a3, nI_1, nI_clamp (by omega)]
      have hcq : ∃ q, q ≤ 255 ∧ c = nI q := by
        obtain ⟨q, h1, h2⟩ := nI_rng (N := 255) hc.1 hc.2
        exact ⟨q, h1, h2⟩
      refine AG_ok (TR_upd h ?_ ?_ h.2.2.1 (fun _ _ _ => rfl) rfl rfl rfl rfl rfl) rfl rfl
      · refine ⟨L + 1, by omega, rfl, rfl, fun i hi => ?_⟩
        show va_up cv.1.2 L c i = va_up (mv.2 0) L c i ∧ ∃ q, q ≤ 255 ∧ va_up cv.1.2 L c i = nI q
        by_cases hiL : i = L
        · subst hiL
          rw [va_eq, va_eq]
          exact ⟨rfl, hcq⟩
        · rw [va_ne hiL, va_ne hiL]
          exact a4 i (by omega)
      · refine CO_r h.2.1 (fun k => ?_)
        show 0 ≤ (va_up cv.1.2 L c k).toInt ∧ (va_up cv.1.2 L c k).toInt ≤ 255
        unfold va_up
        split
        · exact hc
        · exact h.2.1.2.1 k
  · have hin : k_X6_in (c.toInt64) 0 255 = 0 := in_z.mpr (by omega)
    rw [if_pos hin, rf_1]
    dsimp only
    rw [if_neg n10]
    by_cases c1 : c < 0
    · rw [if_pos c1]
      exact AG_bad h (by decide) (by simp)
    · have c2 : ¬ c ≤ 255 := by
        rw [i_lt] at c1
        rw [i_le]
        omega
      rw [if_neg c1, if_neg c2]
      exact AG_bad h (by decide) (by simp)
theorem T_clear {cv : CV} {mv : MV} (h : TRel cv mv) : TRel (k_X5_clearText cv).2 (k_X6_clearText mv).2 ∧ (k_X5_clearText cv).1 = (k_X6_clearText mv).1 := by
  obtain ⟨L, a1, a2, a3, a4⟩ := h.1
  refine ⟨TR_upd h ⟨0, by omega, rfl, rfl, fun i hi => by omega⟩ (CO_r h.2.1 h.2.1.2.1) h.2.2.1 (fun _ _ _ => rfl) rfl rfl rfl rfl rfl, ?_⟩
  exact a2.trans a3.symm
theorem TR_fw {cv : CV} {mv mv2 : MV} {r2 : RV} (h : TRel cv mv) (h1 : r2.2 = cv.1.2) (h2 : r2.1 0 = cv.1.1 0) (h3 : ∀ j, j ≠ 2 → mv2.2 j = mv.2 j) (h4 : ∀ j, j ≠ 3 → j ≠ 4 → mv2.1 j = mv.1 j) : TRel (c_r cv r2) mv2 := by
  refine TR_upd h (TX_of h.1 h1 h2 (h3 0 (by omega)) (h4 1 (by omega) (by omega))) (CO_r h.2.1 ?_) ?_ (fun _ _ _ => rfl) rfl (h4 2 (by omega) (by omega)) (h3 3 (by omega)) (h3 4 (by omega)) (h3 5 (by omega))
  · intro k
    rw [h1]
    exact h.2.1.2.1 k
  · rw [h3 1 (by omega)]
    exact h.2.2.1
theorem T_error {cv : CV} {mv : MV} (h : TRel cv mv) : TRel (k_X5_errorPosition cv).2 (k_X6_errorPosition mv).2 ∧ (k_X5_errorPosition cv).1 = (k_X6_errorPosition mv).1 := by
  have h0 := TR_m (v := 0) h
  have hf := fw_R h0.1
  unfold k_X5_errorPosition k_X6_errorPosition
  generalize k_X2_firstWrong cv.1 = A at hf ⊢
  generalize k_X6_readText (m_s mv 0 0) = B at hf ⊢
  obtain ⟨a, A⟩ := A
  obtain ⟨b, B⟩ := B
  obtain ⟨f1, f2, f3, f4, f5⟩ := hf
  exact ⟨TR_fw h0 f3 f2 f4 f5, f1⟩
-- ---------------------------------------------------------------- what there is
theorem T_about {cv : CV} {mv : MV} (h : TRel cv mv) (w : Int32) : AG [IAE] (k_X5_about cv w) (k_X6_about mv w) := by
  have e0 : (0 : Int32).toInt = 0 := rfl
  have e2 : (11 : Int32).toInt = 11 := rfl
  have f2 : (11 : Int64).toInt = 11 := rfl
  have f0 := e64_0
  unfold k_X5_about k_X6_about
  by_cases hc : 0 ≤ w.toInt ∧ w.toInt ≤ 11
  · have hin : ¬ k_X6_in (w.toInt64) 0 11 = 0 := in_y (a := 0) (b := 11) (by omega)
    have c1 : ¬ w < 0 := by rw [i_lt]; omega
    have c2 : w ≤ 11 := by rw [i_le]; omega
    rw [if_neg c1, if_pos c2, if_neg hin, rf_0]
    dsimp only
    rw [if_pos p00]
    refine AG_ok (TR_m h) rfl ?_
    show k_X1_tell (cv.2.1 0) w = mv.2 1 w.toNatClampNeg
    obtain ⟨N, M, ⟨⟨⟨n1, n2, n3⟩, ⟨m1, m2, m3⟩, -⟩, -, ⟨a1, a2, a3⟩, ⟨b1, b2, b3, b4, b5, b6, b7, b8, -⟩⟩, -⟩ := h.2.2.1
    obtain ⟨k, hk, rfl⟩ := nI_rng (N := 11) hc.1 hc.2
    rw [nI_clamp (by omega)]
    have h7 := a3 0 (by omega)
    rcases (show k = 0 ∨ k = 1 ∨ k = 2 ∨ k = 3 ∨ k = 4 ∨ k = 5 ∨ k = 6 ∨ k = 7 ∨ k = 8 ∨ k = 9 ∨ k = 10 ∨ k = 11 by omega) with rfl | rfl | rfl | rfl | rfl | rfl | rfl | rfl | rfl | rfl | rfl | rfl
    · exact n3.trans n1.symm
    · exact m3.trans m1.symm
    · exact b1
    · exact b2
    · exact b3
    · exact b4
    · exact b5
    · exact h7.trans a2.symm
    · exact a1
    · exact b6
    · exact b7
    · exact b8
  · have hin : k_X6_in (w.toInt64) 0 11 = 0 := in_z.mpr (by omega)
    rw [if_pos hin, rf_1]
    dsimp only
    rw [if_neg n10]
    by_cases c1 : w < 0
    · rw [if_pos c1]
      exact AG_bad h (by decide) (by simp)
    · have c2 : ¬ w ≤ 11 := by
        rw [i_lt] at c1
        rw [i_le]
        omega
      rw [if_neg c1, if_neg c2]
      exact AG_bad h (by decide) (by simp)
theorem T_peg {cv : CV} {mv : MV} (h : TRel cv mv) (x w : Int32) : AG [IOB, IAE] (k_X5_pegOf cv x w) (k_X6_pegOf mv x w) := by
  have e0 : (0 : Int32).toInt = 0 := rfl
  have e2 : (4 : Int32).toInt = 4 := rfl
  have f2 : (3 : Int64).toInt = 3 := rfl
  have f0 := e64_0
  unfold k_X5_pegOf k_X6_pegOf
  rcases oP h.2.2.1 x with ⟨q1, q2⟩ | ⟨q1, q2, k, N, hk, hN, hs, rfl⟩
  · rw [if_pos q1, if_pos q2, rf_1]
    dsimp only
    rw [if_neg n10]
    exact AG_bad h (by decide) (by simp)
  rw [if_neg (by rw [q1]; decide), if_neg q2]
  by_cases hc : 0 ≤ w.toInt ∧ w.toInt ≤ 3
  · have hin : ¬ k_X6_in (w.toInt64) 0 3 = 0 := in_y (a := 0) (b := 3) (by omega)
    have c1 : ¬ w < 0 := by rw [i_lt]; omega
    have c2 : w < 4 := by rw [i_lt]; omega
    rw [if_neg c1, if_pos c2, if_neg hin, rf_0]
    dsimp only
    rw [if_pos p00]
    refine AG_ok (TR_m h) rfl ?_
    show k_X4_at 4 30 (g_pt (cv.2.1 0)) (nI k) w = k_X6_peg (mv.2 1) (nI k) w
    obtain ⟨c, hc2, rfl⟩ := nI_rng (N := 3) hc.1 hc.2
    obtain ⟨N2, M, ⟨⟨⟨n1, n2, n3⟩, -, hp, -⟩, -⟩, -⟩ := h.2.2.1
    have hNN : N2 = N := by
      rw [hs] at n1
      exact ((nI_eq (by omega) (by omega)).mp n1).symm
    rw [pg (by omega) hc2, show k_X4_at 4 30 (g_pt (cv.2.1 0)) (nI k) (nI c) = _ from at_eq (C := 4) (M := 30) (t := g_pt (cv.2.1 0)) (by omega) (by omega) (by omega) (by omega)]
    exact spl (show k < N2 by omega) hp (by omega)
  · have hin : k_X6_in (w.toInt64) 0 3 = 0 := in_z.mpr (by omega)
    rw [if_pos hin, rf_2]
    dsimp only
    rw [if_neg n10]
    by_cases c1 : w < 0
    · rw [if_pos c1]
      exact AG_bad h (by decide) (by simp)
    · have c2 : ¬ w < 4 := by
        rw [i_lt] at c1
        rw [i_lt]
        omega
      rw [if_neg c1, if_neg c2]
      exact AG_bad h (by decide) (by simp)
theorem T_order {cv : CV} {mv : MV} (h : TRel cv mv) (x w : Int32) : AG [IOB, IAE] (k_X5_orderOf cv x w) (k_X6_orderOf mv x w) := by
  have e0 : (0 : Int32).toInt = 0 := rfl
  have e2 : (5 : Int32).toInt = 5 := rfl
  have f2 : (4 : Int64).toInt = 4 := rfl
  have f0 := e64_0
  unfold k_X5_orderOf k_X6_orderOf
  rcases oO h.2.2.1 x with ⟨q1, q2⟩ | ⟨q1, q2, k, M, hk, hM, hs, rfl⟩
  · rw [if_pos q1, if_pos q2, rf_1]
    dsimp only
    rw [if_neg n10]
    exact AG_bad h (by decide) (by simp)
  rw [if_neg (by rw [q1]; decide), if_neg q2]
  by_cases hc : 0 ≤ w.toInt ∧ w.toInt ≤ 4
  · have hin : ¬ k_X6_in (w.toInt64) 0 4 = 0 := in_y (a := 0) (b := 4) (by omega)
    have c1 : ¬ w < 0 := by rw [i_lt]; omega
    have c2 : w < 5 := by rw [i_lt]; omega
    rw [if_neg c1, if_pos c2, if_neg hin, rf_0]
    dsimp only
    rw [if_pos p00]
    refine AG_ok (TR_m h) rfl ?_
    show k_X4_at 5 12 (g_ot (cv.2.1 0)) (nI k) w = k_X6_order (mv.2 1) (nI k) w
    obtain ⟨c, hc2, rfl⟩ := nI_rng (N := 4) hc.1 hc.2
    obtain ⟨N2, M2, ⟨⟨-, ⟨m1, m2, m3⟩, hp, hv, hd, hC, ho, hq⟩, -⟩, hw⟩ := h.2.2.1
    have hMM : M2 = M := by
      rw [hs] at m1
      exact ((nI_eq (by omega) (by omega)).mp m1).symm
    subst hMM
    rw [od (by omega) hc2, show k_X4_at 5 12 (g_ot (cv.2.1 0)) (nI k) (nI c) = _ from at_eq (C := 5) (M := 12) (t := g_ot (cv.2.1 0)) (by omega) (by omega) (by omega) (by omega)]
    by_cases hc4 : c = 4
    · subst hc4
      exact hw k hk
    · exact ho k hk c (by omega)
  · have hin : k_X6_in (w.toInt64) 0 4 = 0 := in_z.mpr (by omega)
    rw [if_pos hin, rf_2]
    dsimp only
    rw [if_neg n10]
    by_cases c1 : w < 0
    · rw [if_pos c1]
      exact AG_bad h (by decide) (by simp)
    · have c2 : ¬ w < 5 := by
        rw [i_lt] at c1
        rw [i_lt]
        omega
      rw [if_neg c1, if_neg c2]
      exact AG_bad h (by decide) (by simp)
theorem T_pipe {cv : CV} {mv : MV} (h : TRel cv mv) (x w : Int32) : AG [IOB, IAE] (k_X5_pipeOf cv x w) (k_X6_pipeOf mv x w) := by
  have e0 : (0 : Int32).toInt = 0 := rfl
  have e2 : (4 : Int32).toInt = 4 := rfl
  have f2 : (4 : Int64).toInt = 4 := rfl
  have f0 := e64_0
  unfold k_X5_pipeOf k_X6_pipeOf
  rcases pP x with ⟨q1, q2⟩ | ⟨q1, q2, p, hp, rfl⟩
  · rw [if_pos q1, if_pos q2, rf_1]
    dsimp only
    rw [if_neg n10]
    exact AG_bad h (by decide) (by simp)
  rw [if_neg (by rw [q1]; decide), if_neg q2]
  by_cases hc : 0 ≤ w.toInt ∧ w.toInt ≤ 4
  · have hin : ¬ k_X6_in (w.toInt64) 0 4 = 0 := in_y (a := 0) (b := 4) (by omega)
    have c1 : ¬ w < 0 := by rw [i_lt]; omega
    have c2 : w ≤ 4 := by rw [i_le]; omega
    rw [if_neg c1, if_pos c2, if_neg hin, rf_0]
    dsimp only
    rw [if_pos p00]
    obtain ⟨N, M, hRC, hw⟩ := h.2.2.1
    have hB := hRC.1
    obtain ⟨⟨n1, n2, n3⟩, ⟨m1, m2, m3⟩, hpg, hv, hd, hC, ho, hq⟩ := hB
    obtain ⟨d1, d2, -⟩ := hRC.2.1
    obtain ⟨b1, b2', -, -, -, -, -, -, cb, hcb, b9⟩ := hRC.2.2.2
    have hpp := ppL (o := cv.2.1 0) (mv := mv) (mw := m_s mv 0 0) (vk := nI p) (vw := w) (N := N) (M := M) hRC.1 31 0 0 (Nat.zero_le _) (by omega)
    rw [show k_X6_pipeOf_L42 mv (nI p) w 31 0 0 (m_s mv 0 0) = _ from hpp]
    have t1 : k_X1_tellOfPipe (cv.2.1 0) (nI p) w = (if w = 0 then k_X1_pegsOfPipe (cv.2.1 0) (nI p) else if w = 1 then k_X6_barsOf (mv.2 1) (nI p) else if w = 2 then (if k_X6_isOpen (mv.2 1) (nI p) = 0 then 0 else 1) else if w = 3 then mv.2 1 (25 + p) else mv.2 1 (31 + p)) := by
      unfold k_X1_tellOfPipe
      rw [q1, if_neg n10, nI_clamp (by omega), bcC hRC.1 hp, barsE n1 n2 hv hp, d1 p hp, d2 p hp]
      have hop : k_X1_isOpen (cv.2.1 0) (nI p) ((cv.2.1 0).1 1) = k_X6_isOpen (mv.2 1) (nI p) := by
        rw [b2', b9, opn hC hp hcb]
        unfold k_X6_isOpen
        rw [b9, isC n1 n2 hv hp hcb]
      rw [hop]
    rw [t1]
    have e25 : (25 + nI p : Int32).toNatClampNeg = 25 + p := by rw [show (25 + nI p : Int32) = nI (25 + p) from nI_add 25 p, nI_clamp (by omega)]
    have e31 : (31 + nI p : Int32).toNatClampNeg = 31 + p := by rw [show (31 + nI p : Int32) = nI (31 + p) from nI_add 31 p, nI_clamp (by omega)]
    rw [e25, e31]
    have hfin : ∀ a : Int32, AG [IOB, IAE] (none, a, cv) (a, m_s mv 0 0) := fun a => AG_ok (TR_m h) rfl rfl
    by_cases w0 : w = 0
    · rw [if_pos w0, if_pos w0]; exact hfin _
    rw [if_neg w0, if_neg w0]
    by_cases w1 : w = 1
    · rw [if_pos w1, if_pos w1]; exact hfin _
    rw [if_neg w1, if_neg w1]
    by_cases w2 : w = 2
    · rw [if_pos w2, if_pos w2]
      show AG [IOB, IAE] _ (if k_X6_isOpen (mv.2 1) (nI p) = 0 then _ else _)
      by_cases ho : k_X6_isOpen (mv.2 1) (nI p) = 0
      · rw [if_pos ho, if_pos ho]; exact hfin _
      · rw [if_neg ho, if_neg ho]; exact hfin _
    rw [if_neg w2, if_neg w2]
    by_cases w3 : w = 3
    · rw [if_pos w3, if_pos w3]; exact hfin _
    rw [if_neg w3, if_neg w3]
    exact hfin _
  · have hin : k_X6_in (w.toInt64) 0 4 = 0 := in_z.mpr (by omega)
    rw [if_pos hin, rf_2]
    dsimp only
    rw [if_neg n10]
    by_cases c1 : w < 0
    · rw [if_pos c1]
      exact AG_bad h (by decide) (by simp)
    · have c2 : ¬ w ≤ 4 := by
        rw [i_lt] at c1
        rw [i_le]
        omega
      rw [if_neg c1, if_neg c2]
      exact AG_bad h (by decide) (by simp)
theorem T_chord {cv : CV} {mv : MV} (h : TRel cv mv) (x : Int32) : AG [IOB] (k_X5_chord cv x) (k_X6_chord mv x) := by
  unfold k_X5_chord k_X6_chord
  rcases bB x with ⟨q1, q2⟩ | ⟨q1, q2, b, hb, rfl⟩
  · rw [if_pos q1, if_pos q2, rf_1]
    dsimp only
    rw [if_neg n10]
    exact AG_bad h (by decide) (by simp)
  rw [if_neg (by rw [q1]; decide), if_neg q2, rf_0]
  dsimp only
  rw [if_pos p00]
  refine AG_ok (TR_m h) rfl ?_
  obtain ⟨N, M, hRC, hw⟩ := h.2.2.1
  exact (chE hRC.1.1.1 hRC.1.1.2.1 hRC.1.2.2.2.1 hRC.1.2.2.2.2.2.1 hb).1
theorem T_cov {cv : CV} {mv : MV} (h : TRel cv mv) (w : Int32) : AG [IAE] (k_X5_covered cv w) (k_X6_covered mv w) := by
  have e0 : (0 : Int32).toInt = 0 := rfl
  have e1 : (1 : Int32).toInt = 1 := rfl
  have f2 : (1 : Int64).toInt = 1 := rfl
  have f0 := e64_0
  unfold k_X5_covered k_X6_covered
  obtain ⟨N, M, hRC, hw⟩ := h.2.2.1
  have hcl : k_X6_covered_L28 mv w 7 0 0 (m_s mv 0 0) = (nI (lenS (mv.2 1) N), m_s mv 0 0) := covL (mv := mv) (mw := m_s mv 0 0) (vk := w) hRC.1.1.1 hRC.1.1.2.1 hRC.1.2.2.2.1 7 0 (by omega) (by omega)
  by_cases w0 : w = 0
  · subst w0
    have hin : ¬ k_X6_in ((0 : Int32).toInt64) 0 1 = 0 := by decide
    rw [if_pos rfl, if_pos rfl, if_neg hin, rf_0]
    dsimp only
    rw [if_pos p00, hcl]
    exact AG_ok (TR_m h) rfl (cvbE hRC.1)
  rw [if_neg w0]
  by_cases w1 : w = 1
  · subst w1
    have hin : ¬ k_X6_in ((1 : Int32).toInt64) 0 1 = 0 := by decide
    rw [if_pos rfl, if_neg (by decide), if_neg hin, rf_0]
    dsimp only
    rw [if_pos p00, hcl]
    exact AG_ok (TR_m h) rfl (sumE hRC.1)
  rw [if_neg w1]
  have hin : k_X6_in (w.toInt64) 0 1 = 0 := in_z.mpr (by
    intro hc
    rcases (show w.toInt = 0 ∨ w.toInt = 1 by omega) with q | q
    · exact w0 (Int32.toInt_inj.mp (q.trans e0.symm))
    · exact w1 (Int32.toInt_inj.mp (q.trans e1.symm)))
  rw [if_pos hin, rf_1]
  dsimp only
  rw [if_neg n10]
  exact AG_bad h (by decide) (by simp)
theorem T_setting {cv : CV} {mv : MV} (h : TRel cv mv) (w : Int32) : AG [IAE] (k_X5_setting cv w) (k_X6_setting mv w) := by
  have e0 : (0 : Int32).toInt = 0 := rfl
  have e1 : (3 : Int32).toInt = 3 := rfl
  have f2 : (2 : Int64).toInt = 2 := rfl
  have f0 := e64_0
  unfold k_X5_setting k_X6_setting
  by_cases hc : 0 ≤ w.toInt ∧ w.toInt ≤ 2
  · have hin : ¬ k_X6_in (w.toInt64) 0 2 = 0 := in_y (a := 0) (b := 2) (by omega)
    obtain ⟨k, hk, rfl⟩ := nI_rng (N := 2) hc.1 hc.2
    have hs : k_X5_isSetting (nI k) = 1 := (by decide +kernel : ∀ k, k < 3 → k_X5_isSetting (nI k) = 1) k (by omega)
    rw [if_neg (by rw [hs]; decide), if_neg hin, rf_0]
    dsimp only
    rw [if_pos p00]
    refine AG_ok (TR_m h) rfl ?_
    unfold k_X1_settingOf
    rw [hs, if_neg n10, nI_clamp (by omega), show (12 + nI k : Int32) = nI (12 + k) from nI_add 12 k, nI_clamp (by omega)]
    obtain ⟨N, M, hRC, hw⟩ := h.2.2.1
    exact hRC.2.1.2.2.1 k (by omega)
  · have hin : k_X6_in (w.toInt64) 0 2 = 0 := in_z.mpr (by omega)
    have hs : k_X5_isSetting w = 0 := by
      unfold k_X5_isSetting
      by_cases h1 : w < 0
      · rw [if_pos h1]
      · rw [i_lt] at h1
        have h2 : 3 ≤ w := by rw [i_le]; omega
        rw [if_neg (by rw [i_lt]; exact h1), if_pos h2]
    rw [if_pos hs, if_pos hin, rf_1]
    dsimp only
    rw [if_neg n10]
    exact AG_bad h (by decide) (by simp)
