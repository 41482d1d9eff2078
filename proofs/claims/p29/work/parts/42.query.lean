/-! Layer 2: what there is. -/
theorem barsL {s : Nat → Int32} {p N : Nat} (h0 : s 0 = nI N) (hN : N ≤ 30) (hv : ∀ k, k < N → PV s k) (hp : p < 6) : ∀ n i, i ≤ 24 → 24 - i < n → k_X6_barsOf_L4 s (nI p) n (nI i) (nI (fb_ct (fun b => cvs s N p b) i)) = nI (fb_ct (fun b => cvs s N p b) 24) := by
  intro n
  induction n with
  | zero => intro i h1 h2; omega
  | succ n ih =>
    intro i h1 h2
    unfold k_X6_barsOf_L4
    by_cases hi : i = 24
    · subst hi; rw [if_pos (by decide)]
    have h24 : ¬ (24 : Int32) ≤ nI i := nI_ge (b := 24) (by omega) (by omega)
    rw [if_neg h24, isC h0 hN hv hp (by omega), nI_1]
    have := ih (i + 1) (by omega) (by omega)
    rw [fb_ct_succ] at this
    cases hc : cvs s N p i
    · rw [b2_f, if_pos rfl, Int32.add_zero]
      rw [hc] at this
      exact this
    · rw [b2_t, if_neg (by decide), nI_1]
      rw [hc] at this
      exact this
theorem barsE {s : Nat → Int32} {p N : Nat} (h0 : s 0 = nI N) (hN : N ≤ 30) (hv : ∀ k, k < N → PV s k) (hp : p < 6) : k_X6_barsOf s (nI p) = nI (fb_ct (fun b => cvs s N p b) 24) := barsL h0 hN hv hp 25 0 (by omega) (by omega)
/-- the pipes that are open at a bar -/
theorem chL {o : OV} {s : Nat → Int32} {b N : Nat} (h0 : s 0 = nI N) (hN : N ≤ 30) (hv : ∀ k, k < N → PV s k) (hC : CR (o.2.2 2) s N) (hb : b < 24) : ∀ n i acc, i ≤ 6 → 6 - i < n → (∀ j, j < 32 → bt acc j = (decide (j < i) && cvs s N j b)) → k_X1_openPipes_L4 o (nI b) n (nI i) acc = k_X6_chordAt_L4 s (nI b) n (nI i) acc ∧ ∀ j, j < 32 → bt (k_X6_chordAt_L4 s (nI b) n (nI i) acc) j = (decide (j < 6) && cvs s N j b) := by
  intro n
  induction n with
  | zero => intro i acc h1 h2; omega
  | succ n ih =>
    intro i acc h1 h2 h3
    unfold k_X1_openPipes_L4 k_X6_chordAt_L4
    by_cases hi : i = 6
    · subst hi
      have h6 : (6 : Int32) ≤ nI 6 := by decide
      simp only [if_pos h6]
      exact ⟨trivial, h3⟩
    have h6 : ¬ (6 : Int32) ≤ nI i := nI_ge (b := 6) (by omega) (by omega)
    simp only [if_neg h6]
    rw [opn hC (by omega) hb, isC h0 hN hv (by omega) hb, nI_1]
    cases hc : cvs s N i b
    · rw [b2_f, if_pos rfl, if_pos rfl, A6_z]
      refine ih (i + 1) acc (by omega) (by omega) (fun j hj => ?_)
      rw [h3 j hj]
      by_cases hji : j = i
      · subst hji; rw [hc]; simp
      · rw [show decide (j < i + 1) = decide (j < i) from decide_eq_decide.mpr (by omega)]
    · rw [b2_t, if_neg (by decide), if_neg (by decide)]
      refine ih (i + 1) _ (by omega) (by omega) (fun j hj => ?_)
      rw [b_or, h3 j hj, bit_6 i (by omega) j hj]
      by_cases hji : j = i
      · subst hji; rw [hc]; simp
      · rw [show decide (j < i + 1) = decide (j < i) from decide_eq_decide.mpr (by omega), decide_eq_false hji]; simp
theorem chE {o : OV} {s : Nat → Int32} {b N : Nat} (h0 : s 0 = nI N) (hN : N ≤ 30) (hv : ∀ k, k < N → PV s k) (hC : CR (o.2.2 2) s N) (hb : b < 24) : k_X1_openPipes o (nI b) = k_X6_chordAt s (nI b) ∧ ∀ j, j < 32 → bt (k_X6_chordAt s (nI b)) j = (decide (j < 6) && cvs s N j b) :=
  chL h0 hN hv hC hb 7 0 0 (by omega) (by omega) (fun j hj => by rw [b_0]; rfl)
theorem bc_6 {x : Int32} {c : Nat → Bool} (h : ∀ j, j < 32 → bt x j = (decide (j < 6) && c j)) : k_J6_bitCount_0f7a4 x = nI (fb_ct c 6) := by
  rw [bc_eq (fun j h1 h2 => by rw [h j h2, decide_eq_false (by omega)]; rfl)]
  congr 1
  have z : fb_ct (fun k => bt x (6 + k)) 18 = 0 := fb_ct_zero.mpr (fun k hk => by rw [h (6 + k) (by omega), decide_eq_false (by omega)]; rfl)
  rw [show 24 = 6 + 18 from rfl, fb_ct_split, z, Nat.add_zero]
  exact fb_ct_cong (fun k hk => by rw [h k (by omega), decide_eq_true hk, Bool.true_and])
theorem bit_1 : ∀ i, i < 32 → bt 1 i = decide (i = 0) := by decide +kernel
theorem shr_1 {x : Int32} {i : Nat} (hi : i < 6) : (x >>> (nI i &&& 31)) &&& 1 = if bt x i then 1 else 0 := by
  refine b_ext (fun j hj => ?_)
  rw [b_and, bit_1 j hj, b_sshr i (by omega) x hj]
  by_cases h : j = 0
  · subst h
    rw [if_pos (by omega), Nat.add_zero]
    cases bt x i <;> decide
  · rw [decide_eq_false h, Bool.and_false]
    cases bt x i
    · exact (b_0 j).symm
    · exact ((bit_1 j hj).trans (decide_eq_false h)).symm
theorem bitsL {x : Int32} {c : Nat → Bool} (h : ∀ j, j < 32 → bt x j = (decide (j < 6) && c j)) : ∀ n i, i ≤ 6 → 6 - i < n → k_X6_bits_L4 x n (nI i) (nI (fb_ct c i)) = nI (fb_ct c 6) := by
  intro n
  induction n with
  | zero => intro i h1 h2; omega
  | succ n ih =>
    intro i h1 h2
    unfold k_X6_bits_L4
    by_cases hi : i = 6
    · subst hi; rw [if_pos (by decide)]
    have h6 : ¬ (6 : Int32) ≤ nI i := nI_ge (b := 6) (by omega) (by omega)
    rw [if_neg h6, nI_1, shr_1 (by omega), h i (by omega), decide_eq_true (show i < 6 by omega), Bool.true_and]
    have := ih (i + 1) (by omega) (by omega)
    rw [fb_ct_succ] at this
    cases hc : c i
    · rw [hc] at this
      simp only [Bool.false_eq_true, if_false] at this ⊢
      rw [Int32.add_zero]; exact this
    · rw [hc] at this
      simp only [if_true] at this ⊢
      rw [nI_1]; exact this
theorem bitsE {x : Int32} {c : Nat → Bool} (h : ∀ j, j < 32 → bt x j = (decide (j < 6) && c j)) : k_X6_bits x = nI (fb_ct c 6) := bitsL h 7 0 (by omega) (by omega)
/-- both ways to count what is covered -/
theorem swp (c : Nat → Nat → Bool) (m : Nat) : ∀ n, fb_sm (fun b => fb_ct (fun p => c p b) m) n = fb_sm (fun p => fb_ct (fun b => c p b) n) m := by
  intro n
  induction n with
  | zero =>
    show 0 = fb_sm (fun p => 0) m
    rw [fb_sm_const, Nat.mul_zero]
  | succ n ih =>
    rw [fb_sm_succ, ih]
    have e : ∀ m, fb_sm (fun p => if c p n then 1 else 0) m = fb_ct (fun p => c p n) m := by
      intro m
      induction m with
      | zero => rfl
      | succ m ih2 => rw [fb_sm_succ, ih2, fb_ct_succ]
    rw [← e, ← fb_sm_add]
    exact fb_sm_cong (fun k _ => (fb_ct_succ _ _).symm)
def lenS (s : Nat → Int32) (N : Nat) : Nat := fb_sm (fun p => fb_ct (fun b => cvs s N p b) 24) 6
theorem ov_ct : ∀ f, f < 24 → ∀ n, n < 7 → fb_ct (fun b => ov f n b) 24 = n := by decide +kernel
theorem one_ct {p n : Nat} (hp : p < 6) : fb_sm (fun q => if p = q then n else 0) 6 = n := by
  rcases (show p = 0 ∨ p = 1 ∨ p = 2 ∨ p = 3 ∨ p = 4 ∨ p = 5 by omega) with rfl | rfl | rfl | rfl | rfl | rfl <;> simp [fb_sm]
theorem len_eq {s : Nat → Int32} : ∀ N, (∀ k, k < N → PV s k) → DJ s N → lenS s N = fb_sm (fun k => gA s (37 + 4 * k + 2)) N := by
  intro N
  induction N with
  | zero =>
    intro _ _
    unfold lenS
    have : ∀ p, fb_ct (fun b => cvs s 0 p b) 24 = 0 := fun p => fb_ct_zero.mpr (fun k _ => rfl)
    rw [fb_sm_cong (g := fun _ => 0) (fun k _ => this k), fb_sm_const]
    rfl
  | succ N ih =>
    intro hv hd
    rw [fb_sm_succ, ← ih (fun k hk => hv k (by omega)) (fun k hk j hj hkj => hd k (by omega) j (by omega) hkj)]
    unfold lenS
    obtain ⟨v1, v2, v3, v4, v5, v6, v7⟩ := hv N (by omega)
    have e : fb_sm (fun p => fb_ct (fun b => cvs s (N + 1) p b) 24) 6 = fb_sm (fun p => fb_ct (fun b => cvs s N p b) 24 + (if gA s (37 + 4 * N) = p then gA s (37 + 4 * N + 2) else 0)) 6 := by
      refine fb_sm_cong (fun p hp => ?_)
      rw [fb_ct_cong (q := fun b => cvs s N p b || cv s N p b) (fun b _ => cvs_S), fb_ct_or (fun b hb h => ?_)]
      · congr 1
        unfold cv
        by_cases hq : gA s (37 + 4 * N) = p
        · rw [if_pos hq]
          refine Eq.trans (fb_ct_cong (q := fun b => ov (gA s (37 + 4 * N + 1)) (gA s (37 + 4 * N + 2)) b) (fun b _ => ?_)) (ov_ct _ v2 _ v4)
          simp [hq]
        · rw [if_neg hq]
          exact fb_ct_zero.mpr (fun b _ => by simp [hq])
      · obtain ⟨h1, h2⟩ := h
        obtain ⟨k, hk, h1⟩ := cvs_t.mp h1
        have := hd k (by omega) N (by omega) (by omega) p hp b hb h1
        rw [this] at h2
        cases h2
    rw [e, fb_sm_add, one_ct v1]
theorem sumL {o : OV} {s : Nat → Int32} {N : Nat} (n3 : o.1 10 = nI N) (hN : N ≤ 30) (hp : ∀ i, i < 4 * N → o.2.2 0 i = s (37 + i)) (hv : ∀ k, k < N → PV s k) : ∀ n k, k ≤ N → N - k < n → k_X1_sumOfLengths_L4 o n (nI k) (nI (fb_sm (fun k => gA s (37 + 4 * k + 2)) k)) = nI (fb_sm (fun k => gA s (37 + 4 * k + 2)) N) := by
  intro n
  induction n with
  | zero => intro k h1 h2; omega
  | succ n ih =>
    intro k h1 h2
    unfold k_X1_sumOfLengths_L4
    rw [n3]
    by_cases hk : k = N
    · subst hk; rw [if_pos (nI_le (Nat.le_refl _) (by omega))]
    obtain ⟨v1, v2, v3, v4, v5, v6, v7⟩ := hv k (by omega)
    rw [if_neg (nI_ge (by omega) (by omega)), ap2 (by omega), show o.2.2 0 (4 * k + 2) = nI (gA s (37 + 4 * k + 2)) from (spl (show k < N by omega) hp (c := 2) (by omega)).trans v7, nI_1, nI_add]
    exact ih (k + 1) (by omega) (by omega)
theorem sumE {o : OV} {s : Nat → Int32} {N M : Nat} (h : RB o s N M) : k_X1_sumOfLengths o = nI (lenS s N) := by
  rw [len_eq N h.2.2.2.1 h.2.2.2.2.1]
  exact sumL h.1.2.2 h.1.2.1 h.2.2.1 h.2.2.2.1 31 0 (Nat.zero_le _) (by have := h.1.2.1; omega)
theorem cvbL {o : OV} {s : Nat → Int32} {N M : Nat} (h : RB o s N M) : ∀ n i, i ≤ 24 → 24 - i < n → k_X1_coveredBars_L4 o n (nI i) (nI (fb_sm (fun b => fb_ct (fun p => cvs s N p b) 6) i)) = nI (fb_sm (fun b => fb_ct (fun p => cvs s N p b) 6) 24) := by
  intro n
  induction n with
  | zero => intro k h1 h2; omega
  | succ n ih =>
    intro i h1 h2
    unfold k_X1_coveredBars_L4
    by_cases hi : i = 24
    · subst hi; rw [if_pos (by decide)]
    have h24 : ¬ (24 : Int32) ≤ nI i := nI_ge (b := 24) (by omega) (by omega)
    obtain ⟨c1, c2⟩ := chE (o := o) h.1.1 h.1.2.1 h.2.2.2.1 h.2.2.2.2.2.1 (show i < 24 by omega)
    rw [if_neg h24, nI_1, c1, bc_6 c2, nI_add]
    exact ih (i + 1) (by omega) (by omega)
theorem cvbE {o : OV} {s : Nat → Int32} {N M : Nat} (h : RB o s N M) : k_X1_coveredBars o = nI (lenS s N) := by
  refine (cvbL h 25 0 (by omega) (by omega)).trans (congrArg nI ?_)
  exact swp (fun p b => cvs s N p b) 6 24
theorem covL {mv mw : MV} {vk : Int32} {N : Nat} (h0 : mw.2 1 0 = nI N) (hN : N ≤ 30) (hv : ∀ k, k < N → PV (mw.2 1) k) : ∀ n i, i ≤ 6 → 6 - i < n → k_X6_covered_L28 mv vk n (nI i) (nI (fb_sm (fun p => fb_ct (fun b => cvs (mw.2 1) N p b) 24) i)) mw = (nI (lenS (mw.2 1) N), mw) := by
  intro n
  induction n with
  | zero => intro k h1 h2; omega
  | succ n ih =>
    intro i h1 h2
    unfold k_X6_covered_L28
    by_cases hi : i = 6
    · subst hi; rw [if_pos (by decide)]; rfl
    have h24 : ¬ (6 : Int32) ≤ nI i := nI_ge (b := 6) (by omega) (by omega)
    rw [if_neg h24, nI_1, barsE h0 hN hv (by omega), nI_add]
    exact ih (i + 1) (by omega) (by omega)
/-- a pipe's numbers -/
theorem ppL {o : OV} {mv mw : MV} {vk vw : Int32} {N M : Nat} (h : RB o (mw.2 1) N M) : ∀ n k acc, k ≤ N → N - k < n → k_X6_pipeOf_L42 mv vk vw n (nI k) acc mw = (if vw = 0 then (k_X1_pegsOfPipe_L4 o vk n (nI k) acc, mw) else (if vw = 1 then ((k_X6_barsOf (mw.2 1) vk), mw) else (if vw = 2 then (if (k_X6_isOpen (mw.2 1) vk) = 0 then (0, mw) else (1, mw)) else (if vw = 3 then (((mw.2 1) ((25 + vk).toNatClampNeg)), mw) else (((mw.2 1) ((31 + vk).toNatClampNeg)), mw))))) := by
  have n3 := h.1.2.2
  have n1 := h.1.1
  have hN := h.1.2.1
  intro n
  induction n with
  | zero => intro k acc h1 h2; omega
  | succ n ih =>
    intro k acc h1 h2
    unfold k_X6_pipeOf_L42 k_X1_pegsOfPipe_L4
    rw [n1, n3]
    by_cases hk : k = N
    · subst hk
      have hle : nI k ≤ nI k := nI_le (Nat.le_refl _) (by omega)
      simp only [if_pos hle]
    have hkN : k < N := by omega
    have hge : ¬ nI N ≤ nI k := nI_ge hkN (by omega)
    simp only [if_neg hge]
    have e0 : k_X6_peg (mw.2 1) (nI k) 0 = mw.2 1 (37 + 4 * k) := pg (w := 0) (by omega) (by omega)
    have e1 : k_X4_at 4 30 (g_pt o) (nI k) 0 = mw.2 1 (37 + 4 * k) := (ap0 (by omega)).trans (h.2.2.1 (4 * k) (by omega))
    rw [e0, e1, nI_1]
    by_cases hq : mw.2 1 (37 + 4 * k) = vk
    · simp only [if_pos hq]
      exact ih (k + 1) _ (by omega) (by omega)
    · simp only [if_neg hq]
      rw [Int32.add_zero]
      exact ih (k + 1) _ (by omega) (by omega)
theorem bcC {o : OV} {s : Nat → Int32} {N M p : Nat} (h : RB o s N M) (hp : p < 6) : k_J6_bitCount_0f7a4 (o.2.2 2 p) = nI (fb_ct (fun b => cvs s N p b) 24) := by
  have hC := h.2.2.2.2.2.1
  rw [bc_eq (fun j h1 h2 => by rw [hC p hp j h2, decide_eq_false (by omega)]; rfl)]
  congr 1
  exact fb_ct_cong (fun k hk => by rw [hC p hp k (by omega), decide_eq_true hk, Bool.true_and])
