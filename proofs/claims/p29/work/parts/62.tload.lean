/-! Layer 2: a roll is loaded. -/
theorem no_neg {d : Nat} (h : d ≤ 693) : ¬ nI d < 0 := nI_pos (by omega)
theorem no_m1 {d : Nat} (h : d ≤ 693) : ¬ nI d = -1 := nI_nm (by omega)
/-- the class's obeying, against what the reference's reading did -/
theorem ob_R {cv : CV} {s s2 : Nat → Int32} {y : Int32} (hE : CE (cv.1.1 3) (cv.1.1 4) (cv.1.1 5) (cv.1.1 6) s s2 y) (h : RF (cv.2.1 0) s) : ∃ o2, RF o2 s2 ∧ ((k_X5_obeysCommand cv = (0, c_o cv 0 o2) ∧ y = 1) ∨ (k_X5_obeysCommand cv = (1, c_o cv 0 o2) ∧ y = 0)) := by
  obtain ⟨M, hM, m1, m2⟩ := RF_M h
  unfold k_X5_obeysCommand
  rcases hE with ⟨hl, ⟨p, f, n, hp, hf, hn1, hn2, ha, hb, hc⟩, g1, g2⟩ | ⟨hl, ⟨p, f, hp, hf, ha, hb⟩, g1, g2⟩ | ⟨hl, ⟨w, v, hw, hv, ha, hb⟩, g1, g2⟩ | ⟨hl, ⟨v, hv1, hv2, ha⟩, g1, g2⟩ | ⟨hl, ⟨k, hk, ha⟩, g1, g2⟩
  · rw [hl, if_neg (by decide), if_neg (by decide), if_pos rfl, ha, hb, hc]
    rw [ha, hb, hc] at g2
    by_cases h12 : M = 12
    · subst h12
      obtain ⟨rfl, rfl⟩ := g1 (by rw [m1]; decide)
      rw [op_putF m2]
      exact ⟨_, h, Or.inl ⟨if_pos rfl, rfl⟩⟩
    · obtain ⟨e1, e2⟩ := g2 (by rw [m1]; exact fun q => h12 ((m12 hM).mp q))
      obtain ⟨a1, a2, a3⟩ := op_put h m1 (by omega) hp hf hn1 hn2
      rw [a2] at e1 e2
      subst e1
      rw [a1]
      exact ⟨_, a3, Or.inr ⟨if_neg (nI_nm (by omega)), e2.trans (if_neg (nI_pos (by omega)))⟩⟩
  · rw [hl, if_neg (by decide), if_pos rfl, ha, hb]
    rw [ha, hb] at g2
    by_cases h12 : M = 12
    · subst h12
      obtain ⟨rfl, rfl⟩ := g1 (by rw [m1]; decide)
      rw [op_pullF m2]
      exact ⟨_, h, Or.inl ⟨if_pos rfl, rfl⟩⟩
    · obtain ⟨e1, e2⟩ := g2 (by rw [m1]; exact fun q => h12 ((m12 hM).mp q))
      obtain ⟨a1, a2, a3⟩ := op_pull h m1 (by omega) hp hf
      rw [a2] at e1 e2
      subst e1
      rw [a1]
      exact ⟨_, a3, Or.inr ⟨if_neg (nI_nm (by omega)), e2.trans (if_neg (nI_pos (by omega)))⟩⟩
  · rw [hl, if_neg (by decide), if_neg (by decide), if_neg (by decide), if_neg (by decide), if_pos rfl, ha, hb]
    rw [ha, hb] at g1 g2
    rcases sS (nI w) (nI v) with ⟨q1, q2⟩ | ⟨q1, q2, a, b, hok, e1, e2⟩
    · obtain ⟨rfl, rfl⟩ := g1 q2
      rw [op_setN q1]
      exact ⟨_, h, Or.inl ⟨if_pos rfl, rfl⟩⟩
    · obtain ⟨e3, e4⟩ := g2 q2
      rw [e1, e2] at e3 e4 ⊢
      obtain ⟨a1, a2, a3, z, hz, a4⟩ := op_set h hok
      rw [a2] at e3 e4
      subst e3
      rw [a1, a4]
      rw [a4] at e4
      exact ⟨_, a3, Or.inr ⟨if_neg (nI_nm (by omega)), e4.trans (if_neg (nI_pos (by omega)))⟩⟩
  · rw [hl, if_neg (by decide), if_neg (by decide), if_neg (by decide), if_pos rfl, ha]
    rw [ha] at g1 g2
    obtain ⟨d, hd, a1, a2, a3⟩ := op_play h hv1 hv2
    rw [a2] at g1 g2
    subst g1
    rw [a1]
    exact ⟨_, a3, Or.inr ⟨if_neg (no_m1 hd), g2.trans (if_neg (no_neg hd))⟩⟩
  · rw [hl, if_pos rfl, ha]
    rw [ha] at g1 g2
    rcases oO h (nI k) with ⟨q1, q2⟩ | ⟨q1, q2, k2, M2, hk2, hM2, hs2, e1⟩
    · obtain ⟨rfl, rfl⟩ := g1 q2
      rw [drop_no q1]
      exact ⟨_, h, Or.inl ⟨if_pos rfl, rfl⟩⟩
    · obtain ⟨e3, e4⟩ := g2 q2
      rw [e1] at e3 e4 ⊢
      obtain ⟨o2, a1, a2, a3⟩ := op_can h hs2 hM2 hk2
      rw [a2] at e3 e4
      subst e3
      rw [a1]
      exact ⟨_, a3, Or.inr ⟨if_neg (nI_nm (by omega)), e4.trans (if_neg (nI_pos (by omega)))⟩⟩
theorem ld_L {c0 : CV} {m0 : MV} {L : Nat} : ∀ (n m i P : Nat) (acc : Int32) (cw : CV) (mw : MV), PS cw.1 mw L P → cw.1.1 2 = 0 → RF (cw.2.1 0) (mw.2 2) → mw.1 4 = acc → i + 1 ≤ P → L - P < n → L - P < m → (k_X6_readText_L39 m0 m mw).1 = -1 →
    ∃ cw2, k_X5_load_L57 c0 n (nI i) acc cw = (none, (k_X6_readText_L39 m0 m mw).2.1 4, cw2) ∧ RF (cw2.2.1 0) ((k_X6_readText_L39 m0 m mw).2.2 2) ∧ cw2.1.2 = cw.1.2 ∧ cw2.1.1 0 = cw.1.1 0 ∧ (∀ k, k ≠ 0 → cw2.2.1 k = cw.2.1 k) ∧ cw2.2.2 = cw.2.2 ∧ (∀ j, j ≠ 2 → (k_X6_readText_L39 m0 m mw).2.2 j = mw.2 j) ∧ ∀ j, j ≠ 3 → j ≠ 4 → (k_X6_readText_L39 m0 m mw).2.1 j = mw.1 j := by
  intro n
  induction n with
  | zero => intro m i P acc cw mw h hw hR ha h1 h2; omega
  | succ n ih =>
    intro m i P acc cw mw h hw hR ha h1 h2 h3 hm1
    obtain ⟨m, rfl⟩ : ∃ q, m = q + 1 := ⟨m - 1, by omega⟩
    have hL := h.1
    have hPL := h.2.1
    have n120 : ¬ (120 : Int32) ≤ nI i := nI_ge (b := 120) (by omega) (by omega)
    rw [k_X5_load_L57, if_neg n120]
    rw [k_X6_readText_L39, h.2.2.2.1, h.2.2.2.2.2.1] at hm1 ⊢
    by_cases hP : P = L
    · subst hP
      have hle : nI P ≤ nI P := nI_le (Nat.le_refl _) (by omega)
      simp only [if_pos hle]
      rw [cmd_E h hw]
      dsimp only
      rw [if_pos p00]
      exact ⟨c_r cw cw.1, by rw [ha], hR, rfl, rfl, fun _ _ => rfl, rfl, fun _ _ => (by trivial), fun _ _ _ => (by trivial)⟩
    have hge : ¬ nI L ≤ nI P := nI_ge (by omega) (by omega)
    simp only [if_neg hge] at hm1 ⊢
    rcases cmd_R h hw (by omega) with ⟨b1, b2, b3, ⟨P2, b4⟩, b5⟩ | ⟨b1, b2, b3, ⟨P2, b4, b5⟩, b6, y, b7, b8⟩
    · exfalso
      rw [if_pos b2] at hm1
      have := b4.2.2.2.2.2.1
      rw [this] at hm1
      exact nI_nm (by have := b4.2.1; omega) hm1
    · have hz : ¬ (k_X6_readCommand mw).1 = 0 := by rw [b2]; decide
      have hz1 : ¬ (k_X2_readCommand cw.1).1 = 0 := by rw [b1]; decide
      simp only [if_neg hz] at hm1 ⊢
      rw [if_neg hz1]
      obtain ⟨o2, c1, c2⟩ := ob_R (cv := c_r cw (k_X2_readCommand cw.1).2) b7 hR
      have fin : ∀ (acc2 : Int32), (k_X6_readCommand mw).2.1 4 = acc2 → ∃ cw2, k_X5_load_L57 c0 n (nI i + 1) acc2 (c_o (c_r cw (k_X2_readCommand cw.1).2) 0 o2) = (none, (k_X6_readText_L39 m0 m (k_X6_readCommand mw).2).2.1 4, cw2) ∧ RF (cw2.2.1 0) ((k_X6_readText_L39 m0 m (k_X6_readCommand mw).2).2.2 2) ∧ cw2.1.2 = cw.1.2 ∧ cw2.1.1 0 = cw.1.1 0 ∧ (∀ k, k ≠ 0 → cw2.2.1 k = cw.2.1 k) ∧ cw2.2.2 = cw.2.2 ∧ (∀ j, j ≠ 2 → (k_X6_readText_L39 m0 m (k_X6_readCommand mw).2).2.2 j = mw.2 j) ∧ ∀ j, j ≠ 3 → j ≠ 4 → (k_X6_readText_L39 m0 m (k_X6_readCommand mw).2).2.1 j = mw.1 j := by
        intro acc2 hacc
        rw [nI_1]
        obtain ⟨cw2, r1, r2, r3, r4, r5, r6, r7, r8⟩ := ih m (i + 1) P2 acc2 (c_o (c_r cw (k_X2_readCommand cw.1).2) 0 o2) (k_X6_readCommand mw).2 b5 b3 c1 hacc (by omega) (by omega) (by omega) hm1
        refine ⟨cw2, r1, r2, r3.trans b6.1, r4.trans ?_, fun k hk => (r5 k hk).trans (va_ne hk), r6, fun j hj => (r7 j hj).trans (b6.2.1 j hj), fun j h1 h2 => (r8 j h1 h2).trans (b6.2.2 j h1 h2)⟩
        show (k_X2_readCommand cw.1).2.1 0 = _
        rw [b5.2.2.1, h.2.2.1]
      rcases c2 with ⟨c2, c3⟩ | ⟨c2, c3⟩
      · rw [c2]
        dsimp only
        rw [if_pos p00]
        exact fin _ (by rw [b8, c3, ha])
      · rw [c2]
        dsimp only
        rw [if_neg n10]
        exact fin _ (by rw [b8, c3, ha, Int32.add_zero])
theorem wipe_eq (cv : CV) : k_X3_wipe cv = c_z cv (va_up (va_up cv.2.2.2 0 0) 1 0) := by
  unfold k_X3_wipe
  rw [k_X3_wipe_L2, if_neg (by decide), k_X3_wipe_L2, if_neg (by decide), k_X3_wipe_L2, if_pos (by decide)]
  rfl
theorem s00_R {o : OV} {x : Nat → Int32} (h : RF o s00) : RF o (k_X6_clear x) := by
  refine RF_s (fun i hi => ?_) h
  unfold s00
  rw [clear_at, clear_at]
  by_cases h1 : i = 14
  · rw [if_pos h1, if_pos h1]
  rw [if_neg h1, if_neg h1]
  by_cases h2 : i = 12
  · rw [if_pos h2, if_pos h2]
  rw [if_neg h2, if_neg h2, if_pos hi, if_pos hi]
theorem T_load {cv : CV} {mv : MV} (h : TRel cv mv) : AG [ISE] (k_X5_load cv) (k_X6_load mv) := by
  obtain ⟨f1, f2, f3, f4, f5⟩ := fw_R h.1
  obtain ⟨t1, t2, t3, t4, ⟨a, nx, b1, b2, b3, b4, b5, b6⟩, t6⟩ := id h
  have hfw := TR_fw h f3 f2 f4 f5
  unfold k_X5_load k_X6_load
  by_cases hb : (k_X6_readText mv).1 = -1
  · have hb2 : (k_X2_firstWrong cv.1).1 = -1 := f1.trans hb
    dsimp only
    rw [if_pos hb2, if_pos hb, rf_0]
    dsimp only
    rw [if_pos p00, wipe_eq]
    -- the text is a roll: it begins with an O
    have hsz : ¬ mv.1 1 = 0 := by
      intro e
      rw [k_X6_readText, if_pos e] at hb
      exact absurd (show (0 : Int32) = -1 from hb) (by decide)
    have hO : mv.2 0 0 = 79 := by
      refine Decidable.byContradiction (fun e => ?_)
      rw [k_X6_readText, if_neg hsz, if_neg e] at hb
      exact absurd (show (0 : Int32) = -1 from hb) (by decide)
    have hrt : k_X6_readText mv = k_X6_readText_L39 mv 121 (m_r (m_s (m_s mv 3 1) 4 0) 2 (k_X6_clear (mv.2 2))) := by
      rw [k_X6_readText, if_neg hsz, if_pos hO]
    have hrw : k_X2_rewind (k_X2_firstWrong cv.1).2 = r_s (r_s (k_X2_firstWrong cv.1).2 1 1) 2 0 := by
      have tx : TX (k_X2_firstWrong cv.1).2 mv := TX_of t1 f3 f2 rfl rfl
      exact rw_y tx hsz hO
    have hrw2 : k_X2_rewind ((c_z (k_X0_forget (c_o (c_r cv (k_X2_firstWrong cv.1).2) 0 (k_X1_copyFrom (cv.2.1 0) (cv.2.1 1)))) (va_up (va_up (k_X0_forget (c_o (c_r cv (k_X2_firstWrong cv.1).2) 0 (k_X1_copyFrom (cv.2.1 0) (cv.2.1 1)))).2.2.2 0 0) 1 0)).1) = r_s (r_s (k_X2_firstWrong cv.1).2 1 1) 2 0 := hrw
    rw [hrw2]
    obtain ⟨L, hL, hp⟩ := PS_st (r := (k_X2_firstWrong cv.1).2) (mv := mv) (x := k_X6_clear (mv.2 2)) (TX_of t1 f3 f2 rfl rfl) hsz
    have hL2 := hp.1
    rw [hrt] at hb ⊢
    have hcl : RF (k_X1_copyFrom (cv.2.1 0) (cv.2.1 1)) (k_X6_clear (mv.2 2)) := copy_R (s00_R t4)
    generalize k_X6_clear (mv.2 2) = C at hcl hb hp hrt ⊢
    obtain ⟨cw2, r1, r2, r3, r4, r5, r6, r7, r8⟩ := ld_L (c0 := cv) (m0 := mv) 121 121 0 1 0 (c_r (c_z (k_X0_forget (c_o (c_r cv (k_X2_firstWrong cv.1).2) 0 (k_X1_copyFrom (cv.2.1 0) (cv.2.1 1)))) (va_up (va_up (k_X0_forget (c_o (c_r cv (k_X2_firstWrong cv.1).2) 0 (k_X1_copyFrom (cv.2.1 0) (cv.2.1 1)))).2.2.2 0 0) 1 0)) (r_s (r_s (k_X2_firstWrong cv.1).2 1 1) 2 0)) _ hp rfl hcl rfl (by omega) (by omega) (by omega) hb
    rw [show k_X5_load_L57 cv 121 0 0 _ = _ from r1]
    clear r1 hrt hb hp
    generalize k_X6_readText_L39 mv 121 (m_r (m_s (m_s mv 3 1) 4 0) 2 C) = Z at r2 r7 r8 ⊢
    obtain ⟨Y, hY⟩ : ∃ Y, Y = k_X6_copyState (Z.2.2 2) (Z.2.2 1) 0 0 := ⟨_, rfl⟩
    rw [show k_X6_copyState ((m_s Z.2 0 0).2 2) ((m_s Z.2 0 0).2 1) 0 0 = Y from hY.symm]
    have hYR : RF (cw2.2.1 0) Y := by
      rw [hY]
      exact RF_s (fun i hi => cps_0 hi) r2
    clear hY hrw hrw2 hfw
    generalize k_X2_firstWrong cv.1 = W at f2 f3 r3 r4 r5 r6
    have r5' : ∀ k, k ≠ 0 → cw2.2.1 k = cv.2.1 k := fun k hk => (r5 k hk).trans (va_ne hk)
    have sz : Z.2.1 1 = mv.1 1 := r8 1 (by omega) (by omega)
    refine AG_ok ⟨TX_of t1 (r3.trans f3) (r4.trans f2) ((r7 0 (by omega)).trans rfl) sz, ?_, hYR, ?_, ⟨0, nx, by omega, b2, rfl, by rw [r6]; rfl, by rw [r6]; exact b5, fun j hj => by omega⟩, fun i hi => Or.inl ⟨?_, ?_⟩⟩ rfl rfl
    · refine ⟨fun k hk => ?_, fun k => ?_, ?_⟩
      · by_cases hk0 : k = 0
        · subst hk0; exact RF_OI r2
        · rw [r5' k hk0]; exact t2.1 k hk
      · rw [show cw2.1.2 = cv.1.2 from r3.trans f3]
        exact t2.2.1 k
      · rw [r6]; exact t2.2.2
    · rw [r5' 1 (by omega)]; exact t4
    · rw [r6]
      show va_up (va_up cv.2.2.2 0 0) 1 0 i = 0
      rcases (show i = 0 ∨ i = 1 by omega) with rfl | rfl
      · rfl
      · rfl
    · rcases (show i = 0 ∨ i = 1 by omega) with rfl | rfl
      · rfl
      · rfl
  · have hb2 : ¬ (k_X2_firstWrong cv.1).1 = -1 := fun e => hb (f1.symm.trans e)
    dsimp only
    rw [if_neg hb2, if_neg hb, rf_1]
    dsimp only
    rw [if_neg n10]
    exact AG_bad hfw (by decide) (by simp)
