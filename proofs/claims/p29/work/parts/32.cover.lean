/-! Layer 2: which bars the pegs cover: the reference's search, the class's sets of bits. -/
theorem b2_0 {b : Bool} : b2 b = 0 ↔ b = false := by cases b <;> simp [b2]
theorem b2_1 {b : Bool} : b2 b = 1 ↔ b = true := by cases b <;> simp [b2]
theorem b2_f : b2 false = 0 := rfl
theorem b2_t : b2 true = 1 := rfl
def gA (s : Nat → Int32) (i : Nat) : Nat := (s i).toNatClampNeg
/-- peg k of the row is one -/
def PV (s : Nat → Int32) (k : Nat) : Prop := gA s (37 + 4 * k) < 6 ∧ gA s (37 + 4 * k + 1) < 24 ∧ 1 ≤ gA s (37 + 4 * k + 2) ∧ gA s (37 + 4 * k + 2) < 7 ∧ s (37 + 4 * k) = nI (gA s (37 + 4 * k)) ∧ s (37 + 4 * k + 1) = nI (gA s (37 + 4 * k + 1)) ∧ s (37 + 4 * k + 2) = nI (gA s (37 + 4 * k + 2))
/-- peg k covers the bar b of the pipe p -/
def cv (s : Nat → Int32) (k p b : Nat) : Bool := decide (gA s (37 + 4 * k) = p) && ov (gA s (37 + 4 * k + 1)) (gA s (37 + 4 * k + 2)) b
def cvs (s : Nat → Int32) (N p b : Nat) : Bool := (List.range N).any fun k => cv s k p b
theorem cvs_t {s : Nat → Int32} {N p b : Nat} : cvs s N p b = true ↔ ∃ k, k < N ∧ cv s k p b = true := by
  unfold cvs
  rw [List.any_eq_true]
  exact ⟨fun ⟨k, h1, h2⟩ => ⟨k, List.mem_range.mp h1, h2⟩, fun ⟨k, h1, h2⟩ => ⟨k, List.mem_range.mpr h1, h2⟩⟩
theorem cvs_f {s : Nat → Int32} {N p b : Nat} : cvs s N p b = false ↔ ∀ k, k < N → cv s k p b = false := by
  rw [← Bool.not_eq_true, cvs_t]
  constructor
  · intro h k hk
    cases e : cv s k p b
    · rfl
    · exact absurd ⟨k, hk, e⟩ h
  · rintro h ⟨k, hk, e⟩
    rw [h k hk] at e
    cases e
theorem cv_L {s : Nat → Int32} {p b N : Nat} (h0 : s 0 = nI N) (hN : N ≤ 30) (hv : ∀ k, k < N → PV s k) (hp : p < 6) (hb : b < 24) : ∀ (n j : Nat) (acc : Int32), j ≤ N → N - j < n → (acc = 0 ∨ acc = 1) → (k_X6_isCovered_L5 s (nI p) (nI b) n (nI j) acc = 0 ↔ acc = 0 ∧ ∀ k, j ≤ k → k < N → cv s k p b = false) := by
  intro n
  induction n with
  | zero => intro j acc h1 h2; omega
  | succ n ih =>
    intro j acc h1 h2 h3
    unfold k_X6_isCovered_L5
    rw [h0]
    by_cases hj : j = N
    · subst hj
      rw [if_pos (nI_le (Nat.le_refl _) (by omega))]
      exact ⟨fun h => ⟨h, fun k h3 h4 => absurd h4 (by omega)⟩, fun h => h.1⟩
    rw [if_neg (nI_ge (by omega) (by omega)), nI_1]
    obtain ⟨v1, v2, v3, v4, e1, e2, e3⟩ := hv j (by omega)
    have e0 : k_X6_peg s (nI j) 0 = nI (gA s (37 + 4 * j)) := (pg (w := 0) (by omega) (by omega)).trans e1
    have e2 : k_X6_peg s (nI j) 1 = nI (gA s (37 + 4 * j + 1)) := (pg (w := 1) (by omega) (by omega)).trans e2
    have e3 : k_X6_peg s (nI j) 2 = nI (gA s (37 + 4 * j + 2)) := (pg (w := 2) (by omega) (by omega)).trans e3
    rw [e0, e2, e3, ov_is _ v2 _ v4 _ hb]
    have step : ∀ (a : Int32), (a = 0 ↔ (acc = 0 ∧ cv s j p b = false)) → (a = 0 ∨ a = 1) → (k_X6_isCovered_L5 s (nI p) (nI b) n (nI (j + 1)) a = 0 ↔ acc = 0 ∧ ∀ k, j ≤ k → k < N → cv s k p b = false) := by
      intro a ha ha2
      rw [ih (j + 1) a (by omega) (by omega) ha2, ha]
      constructor
      · rintro ⟨⟨h5, h6⟩, h7⟩
        refine ⟨h5, fun k h8 h9 => ?_⟩
        by_cases hk : k = j
        · rw [hk]; exact h6
        · exact h7 k (by omega) h9
      · rintro ⟨h5, h6⟩
        exact ⟨⟨h5, h6 j (Nat.le_refl _) (by omega)⟩, fun k h8 h9 => h6 k (by omega) h9⟩
    have hcv : cv s j p b = (decide (gA s (37 + 4 * j) = p) && ov (gA s (37 + 4 * j + 1)) (gA s (37 + 4 * j + 2)) b) := rfl
    by_cases ha : acc = 0
    · rw [if_pos ha]
      by_cases hq : gA s (37 + 4 * j) = p
      · rw [if_pos ((nI_eq (by omega) (by omega)).mpr hq)]
        rw [decide_eq_true hq] at hcv
        cases hov : ov (gA s (37 + 4 * j + 1)) (gA s (37 + 4 * j + 2)) b
        · rw [b2_f, if_pos rfl]
          refine step 0 ⟨fun _ => ⟨ha, ?_⟩, fun _ => rfl⟩ (Or.inl rfl)
          rw [hcv, hov]; simp
        · rw [b2_t, if_neg (by decide)]
          refine step 1 ⟨fun h => absurd h (by decide), fun h => ?_⟩ (Or.inr rfl)
          rw [hcv, hov] at h
          simp at h
      · rw [if_neg (fun h => hq ((nI_eq (by omega) (by omega)).mp h))]
        refine step 0 ⟨fun _ => ⟨ha, ?_⟩, fun _ => rfl⟩ (Or.inl rfl)
        rw [hcv, decide_eq_false hq]; rfl
    · rw [if_neg ha]
      exact step 1 ⟨fun h => absurd h (by decide), fun h => absurd h.1 ha⟩ (Or.inr rfl)
theorem is01 {x : Int32} {b : Bool} (h : x = 0 ∨ x = 1) (h2 : x = 0 ↔ b = false) : x = b2 b := by
  cases b
  · exact h2.mpr rfl
  · rcases h with h | h
    · exact absurd (h2.mp h) (by decide)
    · exact h
/-- the reference's search -/
theorem isC {s : Nat → Int32} {p b N : Nat} (h0 : s 0 = nI N) (hN : N ≤ 30) (hv : ∀ k, k < N → PV s k) (hp : p < 6) (hb : b < 24) : k_X6_isCovered s (nI p) (nI b) = b2 (cvs s N p b) := by
  refine is01 cov01 ?_
  rw [cvs_f]
  have h := cv_L h0 hN hv hp hb 31 0 0 (by omega) (by omega) (Or.inl rfl)
  exact h.trans ⟨fun q k hk => q.2 k (Nat.zero_le _) hk, fun q => ⟨rfl, fun k _ hk => q k hk⟩⟩
def tkn (s : Nat → Int32) (N p b n : Nat) : Bool := (List.range n).any fun i => cvs s N p ((b + i) % 24)
theorem tkn_f {s : Nat → Int32} {N p b n : Nat} : tkn s N p b n = false ↔ ∀ i, i < n → cvs s N p ((b + i) % 24) = false := by
  unfold tkn
  rw [List.any_eq_false]
  constructor
  · intro h i hi
    have := h i (List.mem_range.mpr hi)
    simpa using this
  · intro h i hi
    rw [h i (List.mem_range.mp hi)]
    decide
theorem tk_L {s : Nat → Int32} {p b N m : Nat} (h0 : s 0 = nI N) (hN : N ≤ 30) (hv : ∀ k, k < N → PV s k) (hp : p < 6) (hb : b < 24) (hm : m < 7) : ∀ (n j : Nat) (acc : Int32), j ≤ m → m - j < n → (acc = 0 ∨ acc = 1) → ((k_X6_isTaken_L6 s (nI p) (nI b) (nI m) n (nI j) acc = 0 ∨ k_X6_isTaken_L6 s (nI p) (nI b) (nI m) n (nI j) acc = 1) ∧ (k_X6_isTaken_L6 s (nI p) (nI b) (nI m) n (nI j) acc = 0 ↔ acc = 0 ∧ ∀ i, j ≤ i → i < m → cvs s N p ((b + i) % 24) = false)) := by
  intro n
  induction n with
  | zero => intro j acc h1 h2; omega
  | succ n ih =>
    intro j acc h1 h2 h3
    unfold k_X6_isTaken_L6
    by_cases hj : j = m
    · subst hj
      rw [if_pos (nI_le (Nat.le_refl _) (by omega))]
      exact ⟨h3, ⟨fun h => ⟨h, fun k h3 h4 => absurd h4 (by omega)⟩, fun h => h.1⟩⟩
    rw [if_neg (nI_ge (by omega) (by omega)), nI_1, nI_add, show nI (b + j) - nI (b + j) / 24 * 24 = nI ((b + j) % 24) from nI_mod (b := 24) (by omega) (by omega) (by omega), isC h0 hN hv hp (by omega)]
    have step : ∀ (a : Int32), (a = 0 ↔ (acc = 0 ∧ cvs s N p ((b + j) % 24) = false)) → (a = 0 ∨ a = 1) → ((k_X6_isTaken_L6 s (nI p) (nI b) (nI m) n (nI (j + 1)) a = 0 ∨ k_X6_isTaken_L6 s (nI p) (nI b) (nI m) n (nI (j + 1)) a = 1) ∧ (k_X6_isTaken_L6 s (nI p) (nI b) (nI m) n (nI (j + 1)) a = 0 ↔ acc = 0 ∧ ∀ i, j ≤ i → i < m → cvs s N p ((b + i) % 24) = false)) := by
      intro a ha ha2
      obtain ⟨i1, i2⟩ := ih (j + 1) a (by omega) (by omega) ha2
      refine ⟨i1, ?_⟩
      rw [i2, ha]
      constructor
      · rintro ⟨⟨h5, h6⟩, h7⟩
        refine ⟨h5, fun k h8 h9 => ?_⟩
        by_cases hk : k = j
        · rw [hk]; exact h6
        · exact h7 k (by omega) h9
      · rintro ⟨h5, h6⟩
        exact ⟨⟨h5, h6 j (Nat.le_refl _) (by omega)⟩, fun k h8 h9 => h6 k (by omega) h9⟩
    by_cases ha : acc = 0
    · rw [if_pos ha]
      cases hc : cvs s N p ((b + j) % 24)
      · rw [b2_f, if_pos rfl]
        exact step 0 ⟨fun _ => ⟨ha, hc⟩, fun _ => rfl⟩ (Or.inl rfl)
      · rw [b2_t, if_neg (by decide)]
        exact step 1 ⟨fun h => absurd h (by decide), fun h => by rw [hc] at h; exact absurd h.2 (by decide)⟩ (Or.inr rfl)
    · rw [if_neg ha]
      exact step 1 ⟨fun h => absurd h (by decide), fun h => absurd h.1 ha⟩ (Or.inr rfl)
theorem isT {s : Nat → Int32} {p b N m : Nat} (h0 : s 0 = nI N) (hN : N ≤ 30) (hv : ∀ k, k < N → PV s k) (hp : p < 6) (hb : b < 24) (hm : m < 7) : k_X6_isTaken s (nI p) (nI b) (nI m) = b2 (tkn s N p b m) := by
  unfold k_X6_isTaken
  obtain ⟨h1, h2⟩ := tk_L h0 hN hv hp hb hm ((nI m).toInt.toNat + 2) 0 0 (Nat.zero_le _) (by rw [nI_toInt (by omega)]; omega) (Or.inl rfl)
  refine is01 h1 ?_
  rw [tkn_f]
  exact h2.trans ⟨fun q k hk => q.2 k (Nat.zero_le _) hk, fun q => ⟨rfl, fun k _ hk => q k hk⟩⟩
/-- the class's sets are those of the row -/
def CR (f : Nat → Int32) (s : Nat → Int32) (N : Nat) : Prop := ∀ p, p < 6 → ∀ j, j < 32 → bt (f p) j = (decide (j < 24) && cvs s N p j)
theorem pipe_y {p : Nat} (hp : p < 6) : k_X5_isPipe (nI p) = 1 := (by decide +kernel : ∀ p, p < 6 → k_X5_isPipe (nI p) = 1) p hp
theorem and_z {x y : Int32} : x &&& y = 0 ↔ ∀ j, j < 32 → (bt x j && bt y j) = false := by
  rw [bz]
  exact ⟨fun h j hj => by rw [← b_and]; exact h j hj, fun h j hj => by rw [b_and]; exact h j hj⟩
theorem ov_1 : ∀ b, b < 24 → ∀ j, j < 24 → (ov b 1 j = true ↔ j = b) := by decide +kernel
theorem opn {o : OV} {s : Nat → Int32} {N p b : Nat} (hC : CR (o.2.2 2) s N) (hp : p < 6) (hb : b < 24) : k_X1_isOpen o (nI p) (nI b) = b2 (cvs s N p b) := by
  unfold k_X1_isOpen
  rw [pipe_y hp, if_neg (by decide), nI_clamp (by omega)]
  have e : (o.2.2 2 p &&& k_X5_span (nI b) 1 = 0) ↔ cvs s N p b = false := by
    rw [and_z]
    constructor
    · intro h
      have := h b (by omega)
      rw [hC p hp b (by omega), show bt (k_X5_span (nI b) 1) b = _ from sp_bt b hb 1 (by omega) b (by omega), (ov_1 b hb b hb).mpr rfl] at this
      simpa [hb] using this
    · intro h j hj
      rw [hC p hp j hj, show bt (k_X5_span (nI b) 1) j = _ from sp_bt b hb 1 (by omega) j hj]
      by_cases h24 : j < 24
      · by_cases hjb : j = b
        · subst hjb; rw [h]; simp
        · cases ho : ov b 1 j
          · simp
          · exact absurd ((ov_1 b hb j h24).mp ho) hjb
      · rw [decide_eq_false h24]; rfl
  cases hc : cvs s N p b
  · rw [if_pos (e.mpr hc)]; rfl
  · rw [if_neg (fun h => by rw [e.mp h] at hc; cases hc)]; rfl
theorem fre {o : OV} {s : Nat → Int32} {N p b n : Nat} (hC : CR (o.2.2 2) s N) (hp : p < 6) (hb : b < 24) (hn : n < 7) : k_X1_isFree o (nI p) (k_X5_span (nI b) (nI n)) = b2 (!tkn s N p b n) := by
  unfold k_X1_isFree
  rw [pipe_y hp, if_neg (by decide), nI_clamp (by omega)]
  have e : (o.2.2 2 p &&& k_X5_span (nI b) (nI n) = 0) ↔ tkn s N p b n = false := by
    rw [and_z, tkn_f]
    constructor
    · intro h i hi
      have := h ((b + i) % 24) (by omega)
      rw [hC p hp _ (by omega), sp_bt b hb n hn _ (by omega), show ov b n ((b + i) % 24) = true from decide_eq_true (by omega), decide_eq_true (show (b + i) % 24 < 24 by omega)] at this
      simpa using this
    · intro h j hj
      rw [hC p hp j hj, sp_bt b hb n hn j hj]
      by_cases h24 : j < 24
      · cases ho : ov b n j
        · simp
        · have ho2 : (j + 24 - b) % 24 < n := of_decide_eq_true ho
          have := h ((j + 24 - b) % 24) ho2
          rw [show (b + (j + 24 - b) % 24) % 24 = j by omega] at this
          rw [this]; simp
      · rw [decide_eq_false h24]; rfl
  cases hc : tkn s N p b n
  · rw [if_pos (e.mpr hc)]; rfl
  · rw [if_neg (fun h => by rw [e.mp h] at hc; cases hc)]; rfl
