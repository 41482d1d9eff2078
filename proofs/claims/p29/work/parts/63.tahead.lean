/-! Layer 2: what would be. -/
theorem co_g {cv : CV} {k : Nat} {o : OV} : (c_o cv k o).2.1 k = o := va_eq cv.2.1 k o
theorem mr_g {mv : MV} {k : Nat} {s : Nat → Int32} : (m_r mv k s).2 k = s := va_eq mv.2 k s
theorem co_n {cv : CV} {k j : Nat} {o : OV} (h : j ≠ k) : (c_o cv k o).2.1 j = cv.2.1 j := va_ne (f := cv.2.1) h
theorem mr_n {mv : MV} {k j : Nat} {s : Nat → Int32} (h : j ≠ k) : (m_r mv k s).2 j = mv.2 j := va_ne (f := mv.2) h
theorem c_oo {cv : CV} {k : Nat} {a b : OV} : c_o (c_o cv k a) k b = c_o cv k b := by
  unfold c_o
  refine Prod.ext rfl (Prod.ext (funext fun i => ?_) rfl)
  show va_up (va_up cv.2.1 k a) k b i = va_up cv.2.1 k b i
  unfold va_up
  split <;> rfl
theorem m_r2 {mw : MV} {k : Nat} {y o : Nat → Int32} : m_r (m_r mw k y) k o = m_r mw k o := by
  unfold m_r
  refine Prod.ext rfl (funext fun i => ?_)
  show va_up (va_up mw.2 k y) k o i = va_up mw.2 k o i
  unfold va_up
  split <;> rfl
theorem TR_look {cv : CV} {mv : MV} {o : OV} {s : Nat → Int32} (h : TRel cv mv) (ho : OI o) : TRel (c_o cv 2 o) (m_r (m_s mv 0 0) 2 s) :=
  TR_upd h (TX_of h.1 rfl rfl rfl rfl) (CO_o h.2.1 ho) h.2.2.1 (fun k _ hk => va_ne hk) rfl rfl rfl rfl rfl
theorem RC_w {o : OV} {s s2 : Nat → Int32} {N M : Nat} {v : Int32} (h : RC o s N M) (h1 : ∀ j c, j < 12 → c < 4 → s2 (157 + 5 * j + c) = s (157 + 5 * j + c)) (h2 : ∀ i, (i < 157 ∨ 217 ≤ i) → s2 i = s i) : RC (o_s o 9 v) s2 N M := by
  obtain ⟨⟨⟨n1, n2, n3⟩, ⟨m1, m2, m3⟩, hp, hv, hd, hC, ho, hq⟩, hD, hH, hS⟩ := h
  have eP : eqP s s2 := fun i h3 h4 => h2 i (Or.inl h4)
  refine ⟨⟨⟨by rw [h2 _ (by omega)]; exact n1, n2, n3⟩, ⟨by rw [h2 _ (by omega)]; exact m1, m2, m3⟩, fun i hi => ?_, fun k hk => ?_, DJ_c n2 eP hd, CR_c n2 eP hC, fun j hj c hc => ?_, fun j hj => ?_⟩, ?_, ?_, ?_⟩
  · rw [h2 _ (by omega)]; exact hp i hi
  · exact PV_c (fun c hc => h2 _ (by omega)) (hv k hk)
  · rw [h1 j c (by omega) hc]; exact ho j hj c hc
  · exact QV_c (fun c hc => h1 j c (by omega) hc) (hq j hj)
  · exact RD_c (o := o) (s := s) (fun j h3 h4 => h2 _ (by omega)) (fun j h3 h4 => h2 _ (by omega)) rfl rfl rfl hD
  · exact RH_c (o := o) (s := s) (fun j h3 h4 => h2 _ (by omega)) (h2 _ (by omega)) (h2 _ (by omega)) rfl rfl hH
  · exact RS_c (o := o) (s := s) (fun j h3 h4 => h2 _ (by omega)) (fun j hj => va_ne (by omega)) hS
theorem RM_OI {t : Nat} {o : OV} {s : Nat → Int32} (h : RM t o s) : OI o := by
  obtain ⟨N, M, h1, -⟩ := h
  exact RC_OI h1
theorem play1 (o : OV) : (k_X1_play o 1).2 = tkC o := by
  rw [show (1 : Int32) = nI 1 from rfl, play_eq (v := 1) (by omega) (by omega)]
  rfl
theorem dn_L {c0 cv : CV} {m0 mv : MV} {vk : Int32} : ∀ (n t : Nat) (o : OV) (s : Nat → Int32), RM (t - 1) o s → 1 ≤ t → t ≤ 101 → 101 - t < n → ∃ r o2 s2, k_X5_doneIn_L45 c0 vk n (nI t) (c_o cv 2 o) = (none, r, c_o cv 2 o2) ∧ k_X6_doneIn_L84 m0 vk n (nI t) (m_r mv 2 s) = (r, m_r mv 2 s2) ∧ OI o2 := by
  intro n
  induction n with
  | zero => intro t o s h h1 h2 h3; omega
  | succ n ih =>
    intro t o s h h1 h2 h3
    rw [k_X5_doneIn_L45, k_X6_doneIn_L84]
    by_cases ht : t = 101
    · subst ht
      rw [if_pos (show (100 : Int32) < nI 101 by decide), if_pos (show (100 : Int32) < nI 101 by decide)]
      exact ⟨-1, o, s, rfl, rfl, RM_OI h⟩
    have hlt : ¬ (100 : Int32) < nI t := nI_nlt (a := 100) (by omega) (by omega)
    rw [if_neg hlt, if_neg hlt]
    have e1 : (c_o cv 2 o).2.1 2 = o := co_g
    have e2 : (m_r mv 2 s).2 2 = s := mr_g
    rw [e1, e2, m_r2]
    dsimp only
    rw [play1, c_oo]
    have h' : RM t (tkC o) (k_X6_tick s) := by
      have := RM_tick h
      rw [show t - 1 + 1 = t by omega] at this
      exact this
    have hlk := lk_R (mv := m0) (mx := m_r mv 2 (k_X6_tick s)) (vk := vk) (t := t) (o := tkC o) (by omega) h'
    by_cases hd : (tkC o).1 9 = -1
    · rw [if_pos hd, if_pos (hlk.mpr hd)]
      exact ⟨nI t, _, _, rfl, rfl, RM_OI h'⟩
    · rw [if_neg hd, if_neg (fun q => hd (hlk.mp q)), nI_1]
      exact ih (t + 1) _ _ h' (by omega) (by omega) (by omega)
theorem T_done {cv : CV} {mv : MV} (h : TRel cv mv) (x : Int32) : AG [IOB] (k_X5_doneIn cv x) (k_X6_doneIn mv x) := by
  unfold k_X5_doneIn k_X6_doneIn
  rcases oO h.2.2.1 x with ⟨q1, q2⟩ | ⟨q1, q2, k, M, hk, hM, hs, rfl⟩
  · rw [if_pos q1, if_pos q2, rf_1]
    dsimp only
    rw [if_neg n10]
    exact AG_bad h (by decide) (by simp)
  rw [if_neg (by rw [q1]; decide), if_neg q2, rf_0]
  dsimp only
  rw [if_pos p00]
  have hcp : RF (k_X1_copyFrom (cv.2.1 2) (cv.2.1 0)) (k_X6_copyState ((m_s mv 0 0).2 1) ((m_s mv 0 0).2 2) 0 0) := copy_R (RF_s (fun i hi => cps_0 hi) h.2.2.1)
  have h1 : k_X6_copyState ((m_s mv 0 0).2 1) ((m_s mv 0 0).2 2) 0 0 1 = nI M := (cps_0 (by omega)).trans hs
  generalize k_X6_copyState ((m_s mv 0 0).2 1) ((m_s mv 0 0).2 2) 0 0 = C at hcp h1 ⊢
  have hrow : (m_r (m_s mv 0 0) 2 C).2 2 = C := mr_g
  obtain ⟨s2, g1, g2, g3, g4, g5⟩ := mk_L (mv := mv) (x := k) (M := M) hM (by omega) 13 0 (m_r (m_s mv 0 0) 2 C) (Nat.zero_le _) (by omega) (by rw [hrow]; exact h1)
  rw [hrow] at g2 g3 g4
  rw [show (0 : Int32) = nI 0 from rfl] at g1 ⊢
  rw [g1, m_r2]
  obtain ⟨N, M2, hRC, hw⟩ := hcp
  have hMM : M2 = M := by
    have := hRC.1.2.1.1
    rw [h1] at this
    exact ((nI_eq (by have := hRC.1.2.1.2.1; omega) (by have := hRC.1.2.1.2.1; omega)).mp this).symm
  subst hMM
  have hRM : RM 0 (o_s (k_X1_copyFrom (cv.2.1 2) (cv.2.1 0)) 9 (nI k)) s2 := by
    refine ⟨N, M2, RC_w hRC g2 g3, Or.inr ⟨k, hk, rfl, ⟨0, Nat.zero_le _, ?_⟩, fun j hj hjk => ⟨0, Nat.zero_le _, ?_⟩⟩⟩
    · show s2 (157 + 5 * k + 4) = _
      rw [g5 k (Nat.zero_le _) hk, if_pos rfl]
      rfl
    · show s2 (157 + 5 * j + 4) = _
      rw [g5 j (Nat.zero_le _) hj, if_neg hjk]
      rfl
  obtain ⟨r, o3, s3, d1, d2, d3⟩ := dn_L (c0 := cv) (cv := cv) (m0 := mv) (mv := m_s mv 0 (nI 0)) (vk := nI k) 101 1 _ _ hRM (by omega) (by omega) (by omega)
  rw [show (1 : Int32) = nI 1 from rfl, d1, d2]
  exact AG_ok (TR_look h d3) rfl rfl
theorem sd_L {c0 cv : CV} {m0 mv : MV} {p : Nat} (hp : p < 6) : ∀ (n t : Nat) (o : OV) (s : Nat → Int32), RF o s → 1 ≤ t → t ≤ 101 → 101 - t < n → ∃ r o2 s2, k_X5_soundsIn_L30 c0 (nI p) n (nI t) (c_o cv 2 o) = (none, r, c_o cv 2 o2) ∧ k_X6_soundsIn_L36 m0 (nI p) n (nI t) (m_r mv 2 s) = (r, m_r mv 2 s2) ∧ OI o2 := by
  intro n
  induction n with
  | zero => intro t o s h h1 h2 h3; omega
  | succ n ih =>
    intro t o s h h1 h2 h3
    rw [k_X5_soundsIn_L30, k_X6_soundsIn_L36]
    by_cases ht : t = 101
    · subst ht
      rw [if_pos (show (100 : Int32) < nI 101 by decide), if_pos (show (100 : Int32) < nI 101 by decide)]
      exact ⟨-1, o, s, rfl, rfl, RF_OI h⟩
    have hlt : ¬ (100 : Int32) < nI t := nI_nlt (a := 100) (by omega) (by omega)
    rw [if_neg hlt, if_neg hlt]
    have e1 : (c_o cv 2 o).2.1 2 = o := co_g
    have e2 : (m_r mv 2 s).2 2 = s := mr_g
    rw [e1, e2, m_r2]
    dsimp only
    rw [play1, c_oo]
    have h' := RF_tick h
    have hs : k_X1_soundedAgo (tkC o) 0 = k_X6_tick s 7 := by
      obtain ⟨N, M, hRC, -⟩ := h'
      exact (hRC.2.2.1.2.2 0 (by omega)).trans hRC.2.2.1.2.1.symm
    rw [hs]
    by_cases hd : ((k_X6_tick s 7) >>> (nI p &&& 31)) &&& 1 = 1
    · rw [if_pos hd, if_pos hd]
      exact ⟨nI t, _, _, rfl, rfl, RF_OI h'⟩
    · rw [if_neg hd, if_neg hd, nI_1]
      exact ih (t + 1) _ _ h' (by omega) (by omega) (by omega)
theorem T_sounds {cv : CV} {mv : MV} (h : TRel cv mv) (x : Int32) : AG [IOB] (k_X5_soundsIn cv x) (k_X6_soundsIn mv x) := by
  unfold k_X5_soundsIn k_X6_soundsIn
  rcases pP x with ⟨q1, q2⟩ | ⟨q1, q2, p, hp, rfl⟩
  · rw [if_pos q1, if_pos q2, rf_1]
    dsimp only
    rw [if_neg n10]
    exact AG_bad h (by decide) (by simp)
  rw [if_neg (by rw [q1]; decide), if_neg q2, rf_0]
  dsimp only
  rw [if_pos p00]
  have hcp : RF (k_X1_copyFrom (cv.2.1 2) (cv.2.1 0)) (k_X6_copyState ((m_s mv 0 0).2 1) ((m_s mv 0 0).2 2) 0 0) := copy_R (RF_s (fun i hi => cps_0 hi) h.2.2.1)
  obtain ⟨r, o3, s3, d1, d2, d3⟩ := sd_L (c0 := cv) (cv := cv) (m0 := mv) (mv := m_s mv 0 0) hp 101 1 _ _ hcp (by omega) (by omega) (by omega)
  rw [show (1 : Int32) = nI 1 from rfl, d1, d2]
  exact AG_ok (TR_look h d3) rfl rfl
theorem ls_L {c0 cv : CV} {m0 mv : MV} {v : Nat} (h : TRel cv mv) (hv1 : 1 ≤ v) (hv2 : v ≤ 99) : ∀ (n t : Nat) (o : OV) (s : Nat → Int32), OI o → t ≤ 4 → 4 - t < n → ∃ r o2 s2, k_X5_leastSpeed_L19 c0 (nI v) n (nI t) (c_o cv 2 o) = (none, r, c_o cv 2 o2) ∧ k_X6_leastSpeed_L28 m0 (nI v) n (nI t) (m_r (m_s mv 0 0) 2 s) = (r, m_r (m_s mv 0 0) 2 s2) ∧ OI o2 := by
  intro n
  induction n with
  | zero => intro t o s h h2 h3; omega
  | succ n ih =>
    intro t o s h1 h2 h3
    rw [k_X5_leastSpeed_L19, k_X6_leastSpeed_L28]
    by_cases ht : t = 4
    · subst ht
      rw [if_pos (show (3 : Int32) < nI 4 by decide), if_pos (show (3 : Int32) < nI 4 by decide)]
      exact ⟨-1, o, s, rfl, rfl, h1⟩
    have hlt : ¬ (3 : Int32) < nI t := nI_nlt (a := 3) (by omega) (by omega)
    rw [if_neg hlt, if_neg hlt]
    have e1 : (c_o cv 2 o).2.1 2 = o := co_g
    have e10 : (c_o cv 2 o).2.1 0 = cv.2.1 0 := co_n (by decide)
    have e2 : (m_r (m_s mv 0 0) 2 s).2 2 = s := mr_g
    have e21 : (m_r (m_s mv 0 0) 2 s).2 1 = mv.2 1 := mr_n (mv := m_s mv 0 0) (by decide)
    rw [e1, e10, e2, e21]
    have hcp : RF (k_X1_copyFrom o (cv.2.1 0)) (k_X6_copyState (mv.2 1) s 0 0) := copy_R (RF_s (fun i hi => cps_0 hi) h.2.2.1)
    obtain ⟨a1, a2, a3, -⟩ := op_set (w := 0) (v := t) hcp (Or.inl ⟨rfl, by omega⟩)
    rw [show k_X1_change (k_X1_copyFrom o (cv.2.1 0)) 0 (nI t) = _ from a1, show k_X6_change (k_X6_copyState (mv.2 1) s 0 0) 0 (nI t) = _ from a2]
    obtain ⟨d, hd, b1, b2, b3⟩ := op_play a3 hv1 hv2
    dsimp only
    rw [b1, b2, RF_7 b3, RF_7 h.2.2.1, m_r2, c_oo]
    dsimp only
    by_cases hq : (itS v (va_up (k_X6_copyState (mv.2 1) s 0 0) (12 + 0) (nI t))) 10 = mv.2 1 10
    · rw [if_pos hq, if_pos hq]
      exact ⟨nI t, _, _, rfl, rfl, RF_OI b3⟩
    · rw [if_neg hq, if_neg hq, nI_1]
      exact ih (t + 1) _ _ (RF_OI b3) (by omega) (by omega)
theorem c_id {cv : CV} : c_o cv 2 (cv.2.1 2) = cv := by
  unfold c_o
  refine Prod.ext rfl (Prod.ext (funext fun i => ?_) rfl)
  show va_up cv.2.1 2 (cv.2.1 2) i = cv.2.1 i
  unfold va_up
  split
  · rename_i h; rw [h]
  · rfl
theorem m_id {mv : MV} : m_r mv 2 (mv.2 2) = mv := by
  unfold m_r
  refine Prod.ext rfl (funext fun i => ?_)
  show va_up mv.2 2 (mv.2 2) i = mv.2 i
  unfold va_up
  split
  · rename_i h; rw [h]
  · rfl
theorem T_least {cv : CV} {mv : MV} (h : TRel cv mv) (x : Int32) : AG [IAE] (k_X5_leastSpeed cv x) (k_X6_leastSpeed mv x) := by
  unfold k_X5_leastSpeed k_X6_leastSpeed
  rcases tT x with ⟨q1, q2⟩ | ⟨q1, q2, v, hv1, hv2, rfl⟩
  · rw [if_pos q1, if_pos q2, rf_1]
    dsimp only
    rw [if_neg n10]
    exact AG_bad h (by decide) (by simp)
  rw [if_neg (by rw [q1]; decide), if_neg q2, rf_0]
  dsimp only
  rw [if_pos p00]
  obtain ⟨r, o3, s3, d1, d2, d3⟩ := ls_L (c0 := cv) (m0 := mv) h hv1 hv2 5 0 (cv.2.1 2) ((m_s mv 0 0).2 2) (h.2.1.1 2 (by omega)) (by omega) (by omega)
  rw [c_id] at d1
  rw [m_id] at d2
  rw [show (0 : Int32) = nI 0 from rfl] at d2 ⊢
  rw [d1, d2]
  exact AG_ok (TR_look h d3) rfl rfl
theorem fl_L {cv : CV} {m0 mw : MV} {N M : Nat} (h : RB (cv.2.1 0) (mw.2 1) N M) : ∀ (n i a : Nat), i ≤ 24 → a < 24 → 24 - i < n → (k_X6_fullest_L9 m0 n (nI i) (nI a) mw) = (k_X5_fullest_L4 cv n (nI i) (nI a), mw) := by
  intro n
  induction n with
  | zero => intro i a h1 h2 h3; omega
  | succ n ih =>
    intro i a h1 h2 h3
    rw [k_X6_fullest_L9, k_X5_fullest_L4]
    by_cases hi : i = 24
    · subst hi
      rw [if_pos (by decide), if_pos (by decide)]
    have h24 : ¬ (24 : Int32) ≤ nI i := nI_ge (b := 24) (by omega) (by omega)
    obtain ⟨c1, c2⟩ := chE (o := cv.2.1 0) h.1.1 h.1.2.1 h.2.2.2.1 h.2.2.2.2.2.1 (show i < 24 by omega)
    obtain ⟨c3, c4⟩ := chE (o := cv.2.1 0) h.1.1 h.1.2.1 h.2.2.2.1 h.2.2.2.2.2.1 h2
    rw [if_neg h24, if_neg h24, c1, c3, bc_6 c2, bc_6 c4, bitsE c2, bitsE c4, nI_1]
    by_cases hq : nI (fb_ct (fun j => cvs (mw.2 1) N j i) 6) ≤ nI (fb_ct (fun j => cvs (mw.2 1) N j a) 6)
    · rw [if_pos hq, if_pos hq]
      exact ih (i + 1) a (by omega) h2 (by omega)
    · rw [if_neg hq, if_neg hq]
      exact ih (i + 1) i (by omega) (by omega) (by omega)
theorem T_full {cv : CV} {mv : MV} (h : TRel cv mv) : TRel cv (k_X6_fullest mv).2 ∧ k_X5_fullest cv = (k_X6_fullest mv).1 := by
  obtain ⟨N, M, hRC, -⟩ := h.2.2.1
  have e : k_X6_fullest mv = (k_X5_fullest cv, m_s mv 0 0) := fl_L (m0 := mv) (mw := m_s mv 0 0) hRC.1 24 1 0 (by omega) (by omega) (by omega)
  rw [e]
  exact ⟨TR_m h, rfl⟩
theorem rm_L {c0 cv : CV} {m0 mw : MV} {p n9 N M : Nat} (h : RB (cv.2.1 0) (mw.2 1) N M) (hp : p < 6) (hn : n9 < 7) : ∀ (n i : Nat), i ≤ 24 → 24 - i < n → ∃ r, k_X5_room_L36 c0 (nI p) (nI n9) n (nI i) cv = (none, r, cv) ∧ k_X6_room_L39 m0 (nI p) (nI n9) n (nI i) mw = (r, mw) := by
  intro n
  induction n with
  | zero => intro i h1 h3; omega
  | succ n ih =>
    intro i h1 h3
    rw [k_X5_room_L36, k_X6_room_L39]
    by_cases hi : i = 24
    · subst hi
      rw [if_pos (by decide), if_pos (by decide)]
      exact ⟨-1, rfl, rfl⟩
    have h24 : ¬ (24 : Int32) ≤ nI i := nI_ge (b := 24) (by omega) (by omega)
    rw [if_neg h24, if_neg h24, fre h.2.2.2.2.2.1 hp (show i < 24 by omega) hn, isT h.1.1 h.1.2.1 h.2.2.2.1 hp (show i < 24 by omega) hn, nI_1]
    cases hq : tkn (mw.2 1) N p i n9
    · rw [Bool.not_false, b2_t, b2_f, if_neg n10, if_pos p00]
      exact ⟨nI i, rfl, rfl⟩
    · rw [Bool.not_true, b2_t, b2_f, if_pos p00, if_neg n10]
      exact ih (i + 1) (by omega) (by omega)
theorem T_room {cv : CV} {mv : MV} (h : TRel cv mv) (x y : Int32) : AG [IOB, IAE] (k_X5_room cv x y) (k_X6_room mv x y) := by
  unfold k_X5_room k_X6_room
  rcases pP x with ⟨q1, q2⟩ | ⟨q1, q2, p, hp, rfl⟩
  · rw [if_pos q1, if_pos q2, rf_1]
    dsimp only
    rw [if_neg n10]
    exact AG_bad h (by decide) (by simp)
  rw [if_neg (by rw [q1]; decide), if_neg q2]
  rcases lL y with ⟨q1, q2⟩ | ⟨q1, q2, n, hn1, hn2, rfl⟩
  · rw [if_pos q1, if_pos q2, rf_2]
    dsimp only
    rw [if_neg n10]
    exact AG_bad h (by decide) (by simp)
  rw [if_neg (by rw [q1]; decide), if_neg q2, rf_0]
  dsimp only
  rw [if_pos p00]
  obtain ⟨N, M, hRC, -⟩ := h.2.2.1
  obtain ⟨r, d1, d2⟩ := rm_L (c0 := cv) (cv := cv) (m0 := mv) (mw := m_s mv 0 0) hRC.1 hp hn2 25 0 (by omega) (by omega)
  rw [show (0 : Int32) = nI 0 from rfl] at d2 ⊢
  rw [d1, d2]
  exact AG_ok (TR_m h) rfl rfl
