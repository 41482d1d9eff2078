/-! Layer 2: the pipes sound. -/
def bL (x : Int64) (i : Nat) : Bool := x.toBitVec.getLsbD i
theorem sL_u : ∀ n, n < 64 → (((nI n).toInt64.toUInt64 &&& Int64.toUInt64 63).toBitVec % 64).toNat = n := by decide +kernel
theorem bL_ushr (n : Nat) (hn : n < 64) (x : Int64) (i : Nat) : bL (x_lushr x (nI n)) i = bL x (n + i) := by
  show (x.toUInt64 >>> ((nI n).toInt64.toUInt64 &&& Int64.toUInt64 63)).toBitVec.getLsbD i = x.toUInt64.toBitVec.getLsbD (n + i)
  rw [UInt64.toBitVec_shiftRight]
  show (x.toUInt64.toBitVec >>> (((nI n).toInt64.toUInt64 &&& Int64.toUInt64 63).toBitVec % 64).toNat).getLsbD i = _
  rw [sL_u n hn, BitVec.getLsbD_ushiftRight]
theorem sL_l : (((6 : Int32).toInt64 &&& 63).toBitVec.smod 64).toNat = 6 := by decide +kernel
theorem bL_shl (x : Int64) {i : Nat} (hi : i < 64) : bL (x_lshl x 6) i = (decide (6 ≤ i) && bL x (i - 6)) := by
  unfold bL x_lshl
  rw [Int64.toBitVec_shiftLeft]
  show (x.toBitVec <<< (((6 : Int32).toInt64 &&& 63).toBitVec.smod 64).toNat).getLsbD i = _
  rw [sL_l, BitVec.getLsbD_shiftLeft]
  rcases Nat.lt_or_ge i 6 with h | h
  · simp [h, Nat.not_le.mpr h]
  · simp [hi, h, Nat.not_lt.mpr h]
theorem bL_or (x y : Int64) (i : Nat) : bL (x ||| y) i = (bL x i || bL y i) := by unfold bL; rw [Int64.toBitVec_or, BitVec.getLsbD_or]
theorem bt_l2i (x : Int64) {i : Nat} (hi : i < 32) : bt (Int64.toInt32 x) i = bL x i := by
  unfold bt bL
  rw [Int64.toBitVec_toInt32, BitVec.getLsbD_signExtend, if_pos (by omega), decide_eq_true hi, Bool.true_and]
theorem bL_i2l (x : Int32) {i : Nat} (hi : i < 64) (h31 : bt x 31 = false) : bL (x.toInt64) i = (decide (i < 32) && bt x i) := by
  unfold bL
  rw [Int32.toBitVec_toInt64, BitVec.getLsbD_signExtend, BitVec.msb_eq_getLsbD_last]
  show (decide (i < 64) && if i < 32 then bt x i else bt x 31) = _
  rw [h31]
  by_cases h : i < 32 <;> simp [h, hi]
theorem b_63 : ∀ i, i < 32 → bt 63 i = decide (i < 6) := by decide +kernel
theorem bt_snd {o : OV} {j i : Nat} (hj : j < 10) (hi : i < 32) : bt (k_X1_soundedAgo o (nI j)) i = (decide (i < 6) && bL o.2.1 (6 * j + i)) := by
  unfold k_X1_soundedAgo
  rw [show (6 * nI j : Int32) = nI (6 * j) from nI_mul 6 j, b_and, bt_l2i _ hi, bL_ushr _ (by omega), b_63 i hi, Bool.and_comm]
/-- a set of pipes -/
def A6 (x : Int32) : Prop := ∀ i, 6 ≤ i → i < 32 → bt x i = false
theorem A6_0 : A6 0 := fun i _ _ => b_0 i
theorem bit_6 : ∀ p, p < 6 → ∀ i, i < 32 → bt ((1 : Int32) <<< (nI p &&& 31)) i = decide (i = p) := by decide +kernel
theorem A6_or {x : Int32} {p : Nat} (h : A6 x) (hp : p < 6) : A6 (x ||| ((1 : Int32) <<< (nI p &&& 31))) := by
  intro i h1 h2
  rw [b_or, h i h1 h2, bit_6 p hp i h2, decide_eq_false (by omega)]
  rfl
theorem snd_0 {o : OV} {acc : Int32} {p9 : Int64} (hA : A6 acc) (e : o.2.1 = x_lshl p9 6 ||| acc.toInt64) : k_X1_soundedAgo o (nI 0) = acc := by
  refine b_ext (fun i hi => ?_)
  rw [bt_snd (by omega) hi, e]
  by_cases h : i < 6
  · rw [decide_eq_true h, bL_or, bL_shl _ (by omega), decide_eq_false (by omega), bL_i2l _ (by omega) (hA 31 (by omega) (by omega)), decide_eq_true (show 6 * 0 + i < 32 by omega)]
    simp
  · rw [decide_eq_false h, hA i (by omega) hi]
    rfl
theorem snd_S {o o2 : OV} {acc : Int32} {j : Nat} (hA : A6 acc) (hj : j < 9) (e : o2.2.1 = x_lshl o.2.1 6 ||| acc.toInt64) : k_X1_soundedAgo o2 (nI (j + 1)) = k_X1_soundedAgo o (nI j) := by
  refine b_ext (fun i hi => ?_)
  rw [bt_snd (by omega) hi, bt_snd (by omega) hi, e]
  by_cases h : i < 6
  · rw [bL_or, bL_shl _ (by omega), decide_eq_true (show 6 ≤ 6 * (j + 1) + i by omega), bL_i2l _ (by omega) (hA 31 (by omega) (by omega)), show 6 * (j + 1) + i - 6 = 6 * j + i by omega]
    by_cases h2 : 6 * (j + 1) + i < 32
    · rw [hA _ (by omega) h2]; simp
    · rw [decide_eq_false h2]; simp
  · rw [decide_eq_false h]; rfl
/-- the reference's row of what sounded -/
theorem sh_L {s0 : Nat → Int32} {acc : Int32} {e : Nat} (he : e ≤ 9) : ∀ (n k : Nat) (xw : Nat → Int32), k ≤ 9 → k < n → xw 13 = nI e → ∃ Y : Nat → Int32, k_X6_play_L138 s0 n (nI k) acc xw = va_up (va_up (va_up Y 15 acc) 7 acc) 8 (acc ||| (va_up (va_up Y 15 acc) 7 acc) (15 + e)) ∧ ∀ i, Y i = if 16 ≤ i ∧ i ≤ 15 + k then xw (i - 1) else xw i := by
  intro n
  induction n with
  | zero => intro k xw h1 h2; omega
  | succ n ih =>
    intro k xw h1 h2 h3
    unfold k_X6_play_L138
    by_cases hk : k = 0
    · subst hk
      rw [if_pos (by decide), h3, show (15 + nI e : Int32) = nI (15 + e) from nI_add 15 e, nI_clamp (by omega)]
      exact ⟨xw, rfl, fun i => (if_neg (by omega)).symm⟩
    · rw [if_neg (nI_nle (by omega) (by omega)), nI_decr (by omega), show (15 + nI k : Int32) = nI (15 + k) from nI_add 15 k, show nI (15 + k) - 1 = nI (15 + k - 1) from nI_sub (a := 15 + k) (b := 1) (by omega), nI_clamp (by omega), nI_clamp (by omega)]
      obtain ⟨Y, y1, y2⟩ := ih (k - 1) (va_up xw (15 + k) (xw (15 + k - 1))) (by omega) (by omega) (by rw [va_ne (by omega)]; exact h3)
      refine ⟨Y, y1, fun i => ?_⟩
      rw [y2 i]
      by_cases h5 : i = 15 + k
      · subst h5
        rw [if_neg (by omega), va_eq, if_pos (by omega)]
      · rw [va_ne h5]
        by_cases h6 : 16 ≤ i ∧ i ≤ 15 + (k - 1)
        · rw [if_pos h6, va_ne (by omega), if_pos (by omega)]
        · rw [if_neg h6, if_neg (by omega)]
theorem RS_d {o o2 : OV} {s s2 : Nat → Int32} (h1 : ∀ j, 2 ≤ j → j < 12 → j ≠ 7 → j ≠ 8 → s2 j = s j) (h2 : ∀ j, j < 9 → j ≠ 5 → o2.1 j = o.1 j) (h : RS o s) : RS o2 s2 := by
  obtain ⟨a1, a2, a3, a4, a5, a6, a7, a8, a9⟩ := h
  refine ⟨?_, ?_, ?_, ?_, ?_, ?_, ?_, ?_, ?_⟩
  · rw [h2 _ (by omega) (by omega), h1 _ (by omega) (by omega) (by omega) (by omega)]; exact a1
  · rw [h2 _ (by omega) (by omega), h1 _ (by omega) (by omega) (by omega) (by omega)]; exact a2
  · rw [h2 _ (by omega) (by omega), h1 _ (by omega) (by omega) (by omega) (by omega)]; exact a3
  · rw [h2 _ (by omega) (by omega), h1 _ (by omega) (by omega) (by omega) (by omega)]; exact a4
  · rw [h2 _ (by omega) (by omega), h1 _ (by omega) (by omega) (by omega) (by omega)]; exact a5
  · rw [h2 _ (by omega) (by omega), h1 _ (by omega) (by omega) (by omega) (by omega)]; exact a6
  · rw [h2 _ (by omega) (by omega), h1 _ (by omega) (by omega) (by omega) (by omega)]; exact a7
  · rw [h2 _ (by omega) (by omega), h1 _ (by omega) (by omega) (by omega) (by omega)]; exact a8
  · rw [h1 _ (by omega) (by omega) (by omega) (by omega)]; exact a9
/-- behind the last pipe -/
theorem end_R {o : OV} {s s2 : Nat → Int32} {N M e : Nat} {acc : Int32} {Y : Nat → Int32} (h : RC o s N M) (hA : A6 acc) (he : e ≤ 9) (h13 : s 13 = nI e) (e1 : s2 = va_up (va_up (va_up Y 15 acc) 7 acc) 8 (acc ||| (va_up (va_up Y 15 acc) 7 acc) (15 + e))) (hY : ∀ i, Y i = if 16 ≤ i ∧ i ≤ 15 + 9 then s (i - 1) else s i) :
    RC (o_p (o_s o 5 (acc ||| (k_X1_soundedAgo (o_p o ((x_lshl o.2.1 6) ||| (acc.toInt64))) ((o.2.2 5) 1)))) ((x_lshl o.2.1 6) ||| (acc.toInt64))) s2 N M ∧ wS s2 = wS s := by
  obtain ⟨⟨⟨n1, n2, n3⟩, ⟨m1, m2, m3⟩, hp, hv, hd, hC, ho, hq⟩, hD, hH, hS⟩ := h
  have u : ∀ i, i ≠ 7 → i ≠ 8 → (i < 15 ∨ 25 ≤ i) → s2 i = s i := by
    intro i h1 h2 h3
    subst e1
    rw [va_ne h2, va_ne h1, va_ne (by omega), hY, if_neg (by omega)]
  have z0 : s2 15 = acc := by subst e1; simp (disch := omega) only [va_ne, va_eq]
  have z7 : s2 7 = acc := by subst e1; simp (disch := omega) only [va_ne, va_eq]
  have zS : ∀ j, j < 9 → s2 (15 + (j + 1)) = s (15 + j) := by
    intro j hj
    subst e1
    rw [va_ne (by omega), va_ne (by omega), va_ne (by omega), hY, if_pos (by omega)]
    exact congrArg s (by omega)
  have z8 : s2 8 = acc ||| s2 (15 + e) := by
    subst e1
    rw [va_eq, va_ne (show 15 + e ≠ 8 by omega)]
  have eP : eqP s s2 := fun i h1 h2 => u i (by omega) (by omega) (by omega)
  have hs : ∀ (q : OV), q.2.1 = ((x_lshl o.2.1 6) ||| (acc.toInt64)) → ∀ j, j < 10 → k_X1_soundedAgo q (nI j) = s2 (15 + j) := by
    intro q hq j hj
    rcases Nat.eq_zero_or_pos j with rfl | hj0
    · exact (snd_0 hA hq).trans z0.symm
    · obtain ⟨j, rfl⟩ : ∃ i, j = i + 1 := ⟨j - 1, by omega⟩
      rw [zS j (by omega), snd_S (o := o) hA (by omega) hq]
      exact hH.2.2 j (by omega)
  refine ⟨⟨⟨⟨by rw [u _ (by omega) (by omega) (by omega)]; exact n1, n2, n3⟩, ⟨by rw [u _ (by omega) (by omega) (by omega)]; exact m1, m2, m3⟩, fun i hi => ?_, fun k hk => ?_, DJ_c n2 eP hd, CR_c n2 eP hC, fun j hj c hc => ?_, fun j hj => ?_⟩, ?_, ?_, ?_⟩, ?_⟩
  · rw [u _ (by omega) (by omega) (by omega)]; exact hp i hi
  · exact PV_c (fun c hc => u _ (by omega) (by omega) (by omega)) (hv k hk)
  · rw [u _ (by omega) (by omega) (by omega)]; exact ho j hj c hc
  · exact QV_c (fun c hc => u _ (by omega) (by omega) (by omega)) (hq j hj)
  · exact RD_c (fun j h1 h2 => u _ (by omega) (by omega) (by omega)) (fun j h1 h2 => u _ (by omega) (by omega) (by omega)) rfl rfl rfl hD
  · refine ⟨?_, by rw [z7, z0], fun j hj => hs _ rfl j hj⟩
    rw [z8]
    show acc ||| k_X1_soundedAgo (o_p o ((x_lshl o.2.1 6) ||| (acc.toInt64))) ((o.2.2 5) 1) = _
    rw [hD.2.2.1 1 (by omega), h13, hs _ rfl e (by omega)]
  · refine RS_d (o := o) (s := s) (fun j h1 h2 h3 h4 => u _ h3 h4 (by omega)) (fun j hj h5 => ?_) hS
    show va_up o.1 5 _ j = o.1 j
    rw [va_ne h5]
  · funext j
    unfold wS
    rw [u _ (by omega) (by omega) (by omega)]
/-- one pipe that is open -/
theorem yes_R {o : OV} {s : Nat → Int32} {N M i : Nat} (h : RC o s N M) (hi : i < 6) : RC (o_r (o_s (o_s o 4 ((o.1 4) - 1)) 6 ((o.1 6) + 1)) 3 (va_up (o.2.2 3) i (((o.2.2 3) i) + 1))) (va_up (va_up (va_up (va_up (va_up s 6 (s 6 - 1)) 9 (s 9 + 1)) 10 (s 10 + 0)) (25 + i) (s (25 + i) + 1)) (31 + i) (s (31 + i) + 0)) N M := by
  obtain ⟨⟨⟨n1, n2, n3⟩, ⟨m1, m2, m3⟩, hp, hv, hd, hC, ho, hq⟩, hD, hH, hS⟩ := h
  generalize e1 : va_up (va_up (va_up (va_up (va_up s 6 (s 6 - 1)) 9 (s 9 + 1)) 10 (s 10 + 0)) (25 + i) (s (25 + i) + 1)) (31 + i) (s (31 + i) + 0) = s2
  have u : ∀ j, j ≠ 6 → j ≠ 9 → j ≠ 25 + i → s2 j = s j := by
    intro j h1 h2 h3
    subst e1
    by_cases h4 : j = 31 + i
    · subst h4; rw [va_eq, Int32.add_zero]
    rw [va_ne h4, va_ne h3]
    by_cases h5 : j = 10
    · subst h5; rw [va_eq, Int32.add_zero]
    rw [va_ne h5, va_ne h2, va_ne h1]
  have z6 : s2 6 = s 6 - 1 := by subst e1; simp (disch := omega) only [va_ne, va_eq]
  have z9 : s2 9 = s 9 + 1 := by subst e1; simp (disch := omega) only [va_ne, va_eq]
  have z25 : s2 (25 + i) = s (25 + i) + 1 := by subst e1; simp (disch := omega) only [va_ne, va_eq]
  have eP : eqP s s2 := fun i h1 h2 => u i (by omega) (by omega) (by omega)
  refine ⟨⟨⟨by rw [u _ (by omega) (by omega) (by omega)]; exact n1, n2, n3⟩, ⟨by rw [u _ (by omega) (by omega) (by omega)]; exact m1, m2, m3⟩, fun i hi => ?_, fun k hk => ?_, DJ_c n2 eP hd, CR_c n2 eP hC, fun j hj c hc => ?_, fun j hj => ?_⟩, ?_, ?_, ?_⟩
  · rw [u _ (by omega) (by omega) (by omega)]; exact hp i hi
  · exact PV_c (fun c hc => u _ (by omega) (by omega) (by omega)) (hv k hk)
  · rw [u _ (by omega) (by omega) (by omega)]; exact ho j hj c hc
  · exact QV_c (fun c hc => u _ (by omega) (by omega) (by omega)) (hq j hj)
  · obtain ⟨a1, a2, a3, a4, a5, a6⟩ := hD
    refine ⟨fun j hj => ?_, fun j hj => ?_, fun j hj => ?_, ?_, ?_, ?_⟩
    · show va_up (o.2.2 3) i _ j = _
      by_cases hji : j = i
      · subst hji; rw [va_eq, z25, a1 j hj]
      · rw [va_ne hji, u _ (by omega) (by omega) (by omega)]; exact a1 j hj
    · rw [u _ (by omega) (by omega) (by omega)]; exact a2 j hj
    · rw [u _ (by omega) (by omega) (by omega)]; exact a3 j hj
    · rw [u _ (by omega) (by omega) (by omega)]; exact a4
    · rw [u _ (by omega) (by omega) (by omega)]; exact a5
    · rw [u _ (by omega) (by omega) (by omega)]; exact a6
  · exact RH_c (o := o) (s := s) (fun j h1 h2 => u _ (by omega) (by omega) (by omega)) (u _ (by omega) (by omega) (by omega)) (u _ (by omega) (by omega) (by omega)) rfl rfl hH
  · obtain ⟨b1, b2, b3, b4, b5, b6, b7, b8, b9⟩ := hS
    refine ⟨?_, ?_, ?_, ?_, ?_, ?_, ?_, ?_, ?_⟩
    · rw [u _ (by omega) (by omega) (by omega)]; exact b1
    · rw [u _ (by omega) (by omega) (by omega)]; exact b2
    · rw [u _ (by omega) (by omega) (by omega)]; exact b3
    · rw [u _ (by omega) (by omega) (by omega)]; exact b4
    · rw [z6, ← b5]; rfl
    · rw [z9, ← b6]; rfl
    · rw [u _ (by omega) (by omega) (by omega)]; exact b7
    · rw [u _ (by omega) (by omega) (by omega)]; exact b8
    · rw [u _ (by omega) (by omega) (by omega)]; exact b9
theorem not_R {o : OV} {s : Nat → Int32} {N M i : Nat} (h : RC o s N M) (hi : i < 6) : RC (o_r (o_s o 7 ((o.1 7) + 1)) 4 (va_up (o.2.2 4) i (((o.2.2 4) i) + 1))) (va_up (va_up (va_up (va_up (va_up s 6 (s 6 - 0)) 9 (s 9 + 0)) 10 (s 10 + 1)) (25 + i) (s (25 + i) + 0)) (31 + i) (s (31 + i) + 1)) N M := by
  obtain ⟨⟨⟨n1, n2, n3⟩, ⟨m1, m2, m3⟩, hp, hv, hd, hC, ho, hq⟩, hD, hH, hS⟩ := h
  generalize e1 : va_up (va_up (va_up (va_up (va_up s 6 (s 6 - 0)) 9 (s 9 + 0)) 10 (s 10 + 1)) (25 + i) (s (25 + i) + 0)) (31 + i) (s (31 + i) + 1) = s2
  have u : ∀ j, j ≠ 10 → j ≠ 31 + i → s2 j = s j := by
    intro j h1 h2
    subst e1
    rw [va_ne h2]
    by_cases h4 : j = 25 + i
    · subst h4; rw [va_eq, Int32.add_zero]
    rw [va_ne h4, va_ne h1]
    by_cases h5 : j = 9
    · subst h5; rw [va_eq, Int32.add_zero]
    rw [va_ne h5]
    by_cases h6 : j = 6
    · subst h6; rw [va_eq, Int32.sub_zero]
    rw [va_ne h6]
  have z10 : s2 10 = s 10 + 1 := by subst e1; simp (disch := omega) only [va_ne, va_eq]
  have z31 : s2 (31 + i) = s (31 + i) + 1 := by subst e1; simp (disch := omega) only [va_ne, va_eq]
  have eP : eqP s s2 := fun i h1 h2 => u i (by omega) (by omega)
  refine ⟨⟨⟨by rw [u _ (by omega) (by omega)]; exact n1, n2, n3⟩, ⟨by rw [u _ (by omega) (by omega)]; exact m1, m2, m3⟩, fun i hi => ?_, fun k hk => ?_, DJ_c n2 eP hd, CR_c n2 eP hC, fun j hj c hc => ?_, fun j hj => ?_⟩, ?_, ?_, ?_⟩
  · rw [u _ (by omega) (by omega)]; exact hp i hi
  · exact PV_c (fun c hc => u _ (by omega) (by omega)) (hv k hk)
  · rw [u _ (by omega) (by omega)]; exact ho j hj c hc
  · exact QV_c (fun c hc => u _ (by omega) (by omega)) (hq j hj)
  · obtain ⟨a1, a2, a3, a4, a5, a6⟩ := hD
    refine ⟨fun j hj => ?_, fun j hj => ?_, fun j hj => ?_, ?_, ?_, ?_⟩
    · rw [u _ (by omega) (by omega)]; exact a1 j hj
    · show va_up (o.2.2 4) i _ j = _
      by_cases hji : j = i
      · subst hji; rw [va_eq, z31, a2 j hj]
      · rw [va_ne hji, u _ (by omega) (by omega)]; exact a2 j hj
    · rw [u _ (by omega) (by omega)]; exact a3 j hj
    · rw [u _ (by omega) (by omega)]; exact a4
    · rw [u _ (by omega) (by omega)]; exact a5
    · rw [u _ (by omega) (by omega)]; exact a6
  · exact RH_c (o := o) (s := s) (fun j h1 h2 => u _ (by omega) (by omega)) (u _ (by omega) (by omega)) (u _ (by omega) (by omega)) rfl rfl hH
  · obtain ⟨b1, b2, b3, b4, b5, b6, b7, b8, b9⟩ := hS
    refine ⟨?_, ?_, ?_, ?_, ?_, ?_, ?_, ?_, ?_⟩
    · rw [u _ (by omega) (by omega)]; exact b1
    · rw [u _ (by omega) (by omega)]; exact b2
    · rw [u _ (by omega) (by omega)]; exact b3
    · rw [u _ (by omega) (by omega)]; exact b4
    · rw [u _ (by omega) (by omega)]; exact b5
    · rw [u _ (by omega) (by omega)]; exact b6
    · rw [z10, ← b7]; rfl
    · rw [u _ (by omega) (by omega)]; exact b8
    · rw [u _ (by omega) (by omega)]; exact b9
theorem A6_z {x : Int32} : x ||| 0 = x := b_ext (fun i _ => by rw [b_or, b_0, Bool.or_false])
theorem blow_L {o0 : OV} {s0 : Nat → Int32} {N M : Nat} : ∀ (n m i : Nat) (acc : Int32) (o : OV) (s : Nat → Int32), RC o s N M → A6 acc → i ≤ 6 → 6 - i < n → 6 - i < m →
    RC (k_X1_blowPipes_L4 o0 n (nI i) acc o) (k_X6_play_L4 s0 m (nI i) acc s) N M ∧ (k_X1_blowPipes_L4 o0 n (nI i) acc o).1 9 = o.1 9 ∧ wO (k_X1_blowPipes_L4 o0 n (nI i) acc o) = wO o ∧ wS (k_X6_play_L4 s0 m (nI i) acc s) = wS s := by
  intro n
  induction n with
  | zero => intro m i acc o s h hA h1 h2; omega
  | succ n ih =>
    intro m i acc o s h hA h1 h2 h3
    obtain ⟨m, rfl⟩ : ∃ q, m = q + 1 := ⟨m - 1, by omega⟩
    unfold k_X1_blowPipes_L4 k_X6_play_L4
    by_cases hi : i = 6
    · subst hi
      simp only [if_pos (show (6 : Int32) ≤ nI 6 by decide)]
      obtain ⟨e, he, h13⟩ := h.2.1.2.2.2.2.1
      obtain ⟨Y, y1, y2⟩ := sh_L (s0 := s0) (acc := acc) he 10 9 s (by omega) (by omega) h13
      obtain ⟨r1, r2⟩ := end_R h hA he h13 y1 y2
      exact ⟨r1, rfl, rfl, r2⟩
    have hi6 : i < 6 := by omega
    obtain ⟨b1, b2', b3, b4, b5, b6, b7, b8, c, hc, b9⟩ := h.2.2.2
    have hop : k_X1_isOpen o (nI i) (o.1 1) = b2 (cvs s N i c) := by
      rw [b2', b9]
      exact opn h.1.2.2.2.2.2.1 hi6 hc
    have hos : k_X6_isOpen s (nI i) = b2 (cvs s N i c) := by
      unfold k_X6_isOpen
      rw [b9]
      exact isC h.1.1.1 h.1.1.2.1 h.1.2.2.2.1 hi6 hc
    have n6 : ¬ (6 : Int32) ≤ nI i := nI_ge (a := i) (b := 6) (by omega) (by omega)
    simp only [if_neg n6, hop, hos, nI_1]
    cases hcv : cvs s N i c
    · rw [b2_f, if_pos (show (0 : Int32) = 0 from rfl), if_pos (show (0 : Int32) = 0 from rfl)]
      exact ih m (i + 1) acc o s h hA (by omega) (by omega) (by omega)
    rw [b2_t, if_neg (show ¬ (1 : Int32) = 0 by decide), if_neg (show ¬ (1 : Int32) = 0 by decide), b5]
    have e25 : (25 + nI i : Int32).toNatClampNeg = 25 + i := by rw [show (25 + nI i : Int32) = nI (25 + i) from nI_add 25 i, nI_clamp (by omega)]
    have e31 : (31 + nI i : Int32).toNatClampNeg = 31 + i := by rw [show (31 + nI i : Int32) = nI (31 + i) from nI_add 31 i, nI_clamp (by omega)]
    have ei : (nI i).toNatClampNeg = i := nI_clamp (by omega)
    simp only [kbind]
    rw [e25, e31, ei]
    by_cases hw : s 6 ≤ 0
    · rw [if_pos hw, if_pos hw, A6_z]
      simp (disch := omega) only [va_ne]
      exact ih m (i + 1) acc _ _ (not_R h hi6) hA (by omega) (by omega) (by omega) |>.imp id (fun q => ⟨q.1, q.2.1, q.2.2.trans (by funext j; unfold wS; simp (disch := omega) only [va_ne])⟩)
    · rw [if_neg hw, if_neg hw]
      simp (disch := omega) only [va_ne]
      have hy := yes_R h hi6
      rw [b5] at hy
      exact ih m (i + 1) _ _ _ hy (A6_or hA hi6) (by omega) (by omega) (by omega) |>.imp id (fun q => ⟨q.1, q.2.1, q.2.2.trans (by funext j; unfold wS; simp (disch := omega) only [va_ne])⟩)
theorem blow_R {o : OV} {s : Nat → Int32} {N M : Nat} (h : RC o s N M) : RC (k_X1_blowPipes o) (k_X6_play s) N M ∧ (k_X1_blowPipes o).1 9 = o.1 9 ∧ wO (k_X1_blowPipes o) = wO o ∧ wS (k_X6_play s) = wS s := blow_L 7 7 0 0 o s h A6_0 (by omega) (by omega) (by omega)
