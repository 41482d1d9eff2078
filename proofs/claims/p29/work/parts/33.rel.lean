/-! Layer 2: what holds between the class's organ and the reference's row. -/
theorem ao0 {o : OV} {k : Nat} (hk : k < 12) : k_X4_at 5 12 (g_ot o) (nI k) 0 = o.2.2 1 (5 * k) := at_eq (C := 5) (M := 12) (c := 0) hk (by omega) (by omega) (by omega)
theorem ao1 {o : OV} {k : Nat} (hk : k < 12) : k_X4_at 5 12 (g_ot o) (nI k) 1 = o.2.2 1 (5 * k + 1) := at_eq (C := 5) (M := 12) (c := 1) hk (by omega) (by omega) (by omega)
theorem ao2 {o : OV} {k : Nat} (hk : k < 12) : k_X4_at 5 12 (g_ot o) (nI k) 2 = o.2.2 1 (5 * k + 2) := at_eq (C := 5) (M := 12) (c := 2) hk (by omega) (by omega) (by omega)
theorem ao3 {o : OV} {k : Nat} (hk : k < 12) : k_X4_at 5 12 (g_ot o) (nI k) 3 = o.2.2 1 (5 * k + 3) := at_eq (C := 5) (M := 12) (c := 3) hk (by omega) (by omega) (by omega)
theorem ao4 {o : OV} {k : Nat} (hk : k < 12) : k_X4_at 5 12 (g_ot o) (nI k) 4 = o.2.2 1 (5 * k + 4) := at_eq (C := 5) (M := 12) (c := 4) hk (by omega) (by omega) (by omega)
theorem ap0 {o : OV} {k : Nat} (hk : k < 30) : k_X4_at 4 30 (g_pt o) (nI k) 0 = o.2.2 0 (4 * k) := at_eq (C := 4) (M := 30) (c := 0) hk (by omega) (by omega) (by omega)
theorem ap1 {o : OV} {k : Nat} (hk : k < 30) : k_X4_at 4 30 (g_pt o) (nI k) 1 = o.2.2 0 (4 * k + 1) := at_eq (C := 4) (M := 30) (c := 1) hk (by omega) (by omega) (by omega)
theorem ap2 {o : OV} {k : Nat} (hk : k < 30) : k_X4_at 4 30 (g_pt o) (nI k) 2 = o.2.2 0 (4 * k + 2) := at_eq (C := 4) (M := 30) (c := 2) hk (by omega) (by omega) (by omega)
theorem ap3 {o : OV} {k : Nat} (hk : k < 30) : k_X4_at 4 30 (g_pt o) (nI k) 3 = o.2.2 0 (4 * k + 3) := at_eq (C := 4) (M := 30) (c := 3) hk (by omega) (by omega) (by omega)
/-- order k of the row is one -/
def QV (s : Nat → Int32) (k : Nat) : Prop := gA s (157 + 5 * k + 1) < 6 ∧ gA s (157 + 5 * k + 2) < 24 ∧ gA s (157 + 5 * k + 3) < 7 ∧ s (157 + 5 * k + 1) = nI (gA s (157 + 5 * k + 1)) ∧ s (157 + 5 * k + 2) = nI (gA s (157 + 5 * k + 2)) ∧ s (157 + 5 * k + 3) = nI (gA s (157 + 5 * k + 3)) ∧ ((s (157 + 5 * k) = 1 ∧ 1 ≤ gA s (157 + 5 * k + 3)) ∨ (s (157 + 5 * k) = 0 ∧ gA s (157 + 5 * k + 3) = 0))
/-- no two pegs of a pipe cover the same bar -/
def DJ (s : Nat → Int32) (N : Nat) : Prop := ∀ k, k < N → ∀ j, j < N → k ≠ j → ∀ p, p < 6 → ∀ b, b < 24 → cv s k p b = true → cv s j p b = false
/-- pegs and orders -/
def RB (o : OV) (s : Nat → Int32) (N M : Nat) : Prop := (s 0 = nI N ∧ N ≤ 30 ∧ o.1 10 = nI N) ∧ (s 1 = nI M ∧ M ≤ 12 ∧ o.1 11 = nI M) ∧ (∀ i, i < 4 * N → o.2.2 0 i = s (37 + i)) ∧ (∀ k, k < N → PV s k) ∧ DJ s N ∧ CR (o.2.2 2) s N ∧ (∀ k, k < M → ∀ c, c < 4 → o.2.2 1 (5 * k + c) = s (157 + 5 * k + c)) ∧ (∀ k, k < M → QV s k)
/-- settings, own notes -/
def RD (o : OV) (s : Nat → Int32) : Prop := (∀ j, j < 6 → o.2.2 3 j = s (25 + j)) ∧ (∀ j, j < 6 → o.2.2 4 j = s (31 + j)) ∧ (∀ j, j < 3 → o.2.2 5 j = s (12 + j)) ∧ (∃ a, a ≤ 3 ∧ s 12 = nI a) ∧ (∃ a, a ≤ 9 ∧ s 13 = nI a) ∧ (∃ a, a ≤ 60 ∧ s 14 = nI a)
/-- what was heard -/
def RH (o : OV) (s : Nat → Int32) : Prop := o.1 5 = s 8 ∧ s 7 = s 15 ∧ ∀ j, j < 10 → k_X1_soundedAgo o (nI j) = s (15 + j)
/-- the other numbers -/
def RS (o : OV) (s : Nat → Int32) : Prop := o.1 0 = s 2 ∧ o.1 1 = s 3 ∧ o.1 2 = s 4 ∧ o.1 3 = s 5 ∧ o.1 4 = s 6 ∧ o.1 6 = s 9 ∧ o.1 7 = s 10 ∧ o.1 8 = s 11 ∧ ∃ c, c < 24 ∧ s 3 = nI c
def RC (o : OV) (s : Nat → Int32) (N M : Nat) : Prop := RB o s N M ∧ RD o s ∧ RH o s ∧ RS o s
/-- what is told of the orders' waiting: k orders are looked at, M wait, w the order that is watched, f and g the ticks -/
abbrev WP : Type := Nat → Nat → Int32 → (Nat → Int32) → (Nat → Int32) → Prop
def wO (o : OV) : Nat → Int32 := fun j => o.2.2 1 (5 * j + 4)
def wS (s : Nat → Int32) : Nat → Int32 := fun j => s (157 + 5 * j + 4)
def rmv (f : Nat → Int32) (k : Nat) : Nat → Int32 := fun j => if j < k then f j else f (j + 1)
def wdr (w : Int32) (k : Nat) : Int32 := if nI k = w then -1 else if w ≤ nI k then w else w - 1
def WC (P : WP) : Prop := (∀ k M w f g f2 g2, (∀ j, j < M → f j = f2 j) → (∀ j, j < M → g j = g2 j) → P k M w f g → P k M w f2 g2) ∧ (∀ k M w f g, k < M → M ≤ 12 → P k M w f g → P (k + 1) M w (va_up f k (f k + 1)) (va_up g k (g k + 1))) ∧ ∀ k M w f g, k < M → M ≤ 12 → P k M w f g → P k (M - 1) (wdr w k) (rmv f k) (rmv g k)
theorem spl {s : Nat → Int32} {N : Nat} {f : Nat → Int32} {x : Nat} (hk : x < N) (h : ∀ i, i < 4 * N → f i = s (37 + i)) {c : Nat} (hc : c < 4) : f (4 * x + c) = s (37 + 4 * x + c) := by rw [h (4 * x + c) (by omega), Nat.add_assoc]
/-- an order goes on waiting, or doesn't -/
theorem gow {o : OV} {s : Nat → Int32} {N M k : Nat} (hB : RB o s N M) (hS : RS o s) (hk : k < M) : k_X1_goesOnWaiting o (nI k) = k_X6_waits s (nI k) ∧ (k_X6_waits s (nI k) = 0 ∨ k_X6_waits s (nI k) = 1) := by
  obtain ⟨⟨n1, n2, n3⟩, ⟨m1, m2, m3⟩, hp, hv, hd, hC, ho, hq⟩ := hB
  obtain ⟨t0, t1, t2, t3, t4, t6, t7, t8, c, hc, t9⟩ := hS
  obtain ⟨q1, q2, q3, q4, q5, q6, q7⟩ := hq k hk
  have o0 := ho k hk 0 (by omega)
  have o1 := ho k hk 1 (by omega)
  have o2 := ho k hk 2 (by omega)
  have o3 := ho k hk 3 (by omega)
  have e0 : k_X6_order s (nI k) 0 = s (157 + 5 * k) := od (w := 0) (by omega) (by omega)
  have e1 : k_X6_order s (nI k) 1 = nI (gA s (157 + 5 * k + 1)) := (od (w := 1) (by omega) (by omega)).trans q4
  have e2 : k_X6_order s (nI k) 2 = nI (gA s (157 + 5 * k + 2)) := (od (w := 2) (by omega) (by omega)).trans q5
  have e3 : k_X6_order s (nI k) 3 = nI (gA s (157 + 5 * k + 3)) := (od (w := 3) (by omega) (by omega)).trans q6
  have hop : k_X6_isOpen s (nI (gA s (157 + 5 * k + 1))) = b2 (cvs s N (gA s (157 + 5 * k + 1)) c) := by
    unfold k_X6_isOpen
    rw [t9]
    exact isC n1 n2 hv q1 hc
  have hop2 : k_X1_isOpen o (nI (gA s (157 + 5 * k + 1))) (nI c) = b2 (cvs s N (gA s (157 + 5 * k + 1)) c) := opn hC q1 hc
  have hsp : ((k_X5_span (nI (gA s (157 + 5 * k + 2))) (nI (gA s (157 + 5 * k + 3)))) &&& (k_X5_span (nI c) 1) = 0) ↔ ov (gA s (157 + 5 * k + 2)) (gA s (157 + 5 * k + 3)) c = false := by
    rw [and_z]
    constructor
    · intro h
      have := h c (by omega)
      rw [sp_bt _ q2 _ q3 c (by omega), show bt (k_X5_span (nI c) 1) c = _ from sp_bt c hc 1 (by omega) c (by omega), (ov_1 c hc c hc).mpr rfl] at this
      simpa [hc] using this
    · intro h j hj
      rw [sp_bt _ q2 _ q3 j hj, show bt (k_X5_span (nI c) 1) j = _ from sp_bt c hc 1 (by omega) j hj]
      by_cases h24 : j < 24
      · by_cases hjb : j = c
        · subst hjb; rw [h]; simp
        · cases h5 : ov c 1 j
          · simp
          · exact absurd ((ov_1 c hc j h24).mp h5) hjb
      · rw [decide_eq_false h24]; rfl
  unfold k_X1_goesOnWaiting k_X6_waits
  rw [ao1 (by omega), ao2 (by omega), ao3 (by omega), o1, o2, o3, q4, q5, q6, t1, t9, e0, e1, e2, e3, hop, hop2, ov_is _ q2 _ q3 _ hc]
  rcases q7 with ⟨q7, q8⟩ | ⟨q7, q8⟩
  · rw [q7, if_pos rfl]
    cases h1 : ov (gA s (157 + 5 * k + 2)) (gA s (157 + 5 * k + 3)) c
    · rw [if_pos (hsp.mpr h1)]
      cases h2 : cvs s N (gA s (157 + 5 * k + 1)) c <;> simp [b2]
    · rw [if_neg (fun h => by rw [hsp.mp h] at h1; cases h1)]
      cases h2 : cvs s N (gA s (157 + 5 * k + 1)) c <;> simp [b2]
  · have hz : ov (gA s (157 + 5 * k + 2)) (gA s (157 + 5 * k + 3)) c = false := by rw [q8]; unfold ov; exact decide_eq_false (by omega)
    rw [q7, if_pos (hsp.mpr hz), if_neg (show ¬ (0 : Int32) = 1 by decide)]
    cases h2 : cvs s N (gA s (157 + 5 * k + 1)) c <;> simp [b2]
/-- an order is dropped -/
theorem drC {o : OV} {k M : Nat} (h : o.1 11 = nI M) (hM : M ≤ 12) (hk : k < M) : k_X1_dropOrder o (nI k) = (nI (M - 1), o_ot (o_s o 9 (wdr (o.1 9) k)) (nI (M - 1), va_cpy (o.2.2 1) (o.2.2 1) (5 * (k + 1)) (5 * k) (5 * (M - 1 - k)))) := by
  have e := rm_eq (C := 5) (M := 12) (t := g_ot o) (k := k) (n := M) h hk (by omega) (by omega)
  have e : k_X4_removeLine 5 12 (g_ot o) (nI k) = _ := e
  unfold k_X1_dropOrder
  rw [has_y (t := g_ot o) (n := M) h hk (by omega), if_neg (by decide), e]
  unfold wdr
  by_cases h1 : nI k = o.1 9
  · rw [if_pos h1, if_pos h1]; rfl
  rw [if_neg h1, if_neg h1]
  by_cases h2 : o.1 9 ≤ nI k
  · rw [if_pos h2, if_pos h2]
    have : o_s o 9 (o.1 9) = o := by
      unfold o_s
      rw [show va_up o.1 9 (o.1 9) = o.1 from funext fun j => by unfold va_up; split <;> simp_all]
    rw [this]; rfl
  · rw [if_neg h2, if_neg h2]; rfl
