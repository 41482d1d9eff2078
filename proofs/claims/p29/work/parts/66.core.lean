/-! p29: the class's state as one row, the rows that undo brings back (the latest first), and the slots; the calls by it. -/
theorem cdx_ne {E : String} : ∀ (L : List String) (n : Nat), 1 ≤ n → n + L.length ≤ 100 → E ∈ L → cdx L E n ≠ 0 := by
  intro L
  induction L with
  | nil => intro n h1 h2 h; exact absurd h List.not_mem_nil
  | cons a L ih =>
    intro n h1 h2 h
    rw [List.length_cons] at h2
    unfold cdx
    by_cases c : a = E
    · rw [if_pos c]
      exact fun q => absurd ((nI_eq (b := 0) (by omega) (by omega)).mp q) (by omega)
    · rw [if_neg c]
      exact ih (n + 1) (by omega) (by omega) ((List.mem_cons.mp h).resolve_left (fun q => c q.symm))
/-- what a call's answer is told by -/
def cx (x : Option String) (r : Int32) : Int32 := match x with
  | none => r
  | some E => if E = IOB then -9999001 else if E = IAE then -9999002 else -9999003
abbrev aX (q : Option String × Int32 × CV) : Int32 := cx q.1 q.2.1
theorem cx_n {r : Int32} : cx none r = r := rfl
theorem cx_IOB {r : Int32} : cx (some IOB) r = -9999001 := by
  show (if IOB = IOB then (-9999001 : Int32) else if IOB = IAE then -9999002 else -9999003) = -9999001
  rw [if_pos rfl]
theorem cx_IAE {r : Int32} : cx (some IAE) r = -9999002 := by
  show (if IAE = IOB then (-9999001 : Int32) else if IAE = IAE then -9999002 else -9999003) = -9999002
  rw [if_neg (by decide), if_pos rfl]
theorem cx_ISE {r : Int32} : cx (some ISE) r = -9999003 := by
  show (if ISE = IOB then (-9999001 : Int32) else if ISE = IAE then -9999002 else -9999003) = -9999003
  rw [if_neg (by decide), if_neg (by decide)]
theorem AG_0 {L : List String} {q : Option String × Int32 × CV} {r : Int32 × MV} (hL : L.length ≤ 50) (h : AG L q r) (h0 : r.2.1 0 = 0) : aX q = r.1 := by
  obtain ⟨-, h2, h3, h4⟩ := h
  obtain ⟨x, v, c2⟩ := q
  cases x with
  | none => exact h3 rfl
  | some E => exact absurd (h2.symm.trans h0) (cdx_ne L 1 (by omega) (by omega) (h4 E rfl))
theorem AG_n {L : List String} {A : String} {n : Int32} {q : Option String × Int32 × CV} {r : Int32 × MV} (h : AG L q r) (hn : n ≠ 0) (hL : ∀ E, E ∈ L → E ≠ A → cdx L E 1 ≠ n) (h0 : r.2.1 0 = n) : aX q = cx (some A) 0 := by
  obtain ⟨-, h2, h3, h4⟩ := h
  obtain ⟨x, v, c2⟩ := q
  cases x with
  | none => exact absurd (h0.symm.trans h2) hn
  | some E =>
    by_cases e : E = A
    · subst e; rfl
    · exact absurd (h2.symm.trans h0) (hL E (h4 E rfl) e)
-- ---------------------------------------------------------------- the state
abbrev KR : Type := Nat → Int32
abbrev KC : Type := KR × (Nat × (Nat → KR)) × (Nat → Int32) × (Nat → KR)
def nmv (c : KC) : MV := ((fun k => if k = 2 then nI c.2.1.1 else 0), (fun k => if k = 1 then c.1 else if k = 3 then (fun i => (c.2.1.2 (c.2.1.1 - 1 - i / 217)) (i % 217)) else if k = 4 then (fun i => c.2.2.2 (i / 217) (i % 217)) else if k = 5 then c.2.2.1 else fun _ => 0))
def QR (cv : CV) (c : KC) : Prop := TRel cv (nmv c) ∧ c.2.1.1 ≤ 14
theorem TR_nm {cv : CV} {mv : MV} {c : KC} (h : TRel cv mv) (h0 : mv.1 1 = 0) (h1 : ∀ i, i < 217 → c.1 i = mv.2 1 i) (h2 : mv.1 2 = nI c.2.1.1) (hl : c.2.1.1 ≤ 14) (h3 : ∀ j, j < c.2.1.1 → ∀ i, i < 217 → (c.2.1.2 (c.2.1.1 - 1 - j)) i = mv.2 3 (217 * j + i)) (h5 : ∀ i, i < 2 → c.2.2.1 i = mv.2 5 i) (h4 : ∀ i, i < 2 → mv.2 5 i = 1 → ∀ q, q < 217 → c.2.2.2 i q = mv.2 4 (217 * i + q)) : QR cv c := by
  obtain ⟨⟨L, a1, a2, a3, a4⟩, t2, t3, t4, ⟨a, nx, b1, b2, b3, b4, b5, b6⟩, t6⟩ := h
  have hL : L = 0 := (nI_eq (b := 0) (by omega) (by omega)).mp (a3.symm.trans h0)
  have ha : a = c.2.1.1 := (nI_eq (by omega) (by omega)).mp (b3.symm.trans h2)
  subst hL
  subst ha
  refine ⟨⟨⟨0, by omega, a2, rfl, fun i hi => absurd hi (Nat.not_lt_zero i)⟩, t2, RF_s h1 t3, t4, ⟨c.2.1.1, nx, b1, b2, rfl, b4, b5, fun j hj => RF_s (fun i hi => ?_) (b6 j hj)⟩, fun i hi => ?_⟩, hl⟩
  · show (c.2.1.2 (c.2.1.1 - 1 - (217 * j + i) / 217)) ((217 * j + i) % 217) = mv.2 3 (217 * j + i)
    rw [show (217 * j + i) / 217 = j by omega, show (217 * j + i) % 217 = i by omega]
    exact h3 j hj i hi
  · rcases t6 i hi with ⟨z1, z2⟩ | ⟨z1, z2, z3⟩
    · exact Or.inl ⟨z1, (h5 i hi).trans z2⟩
    · refine Or.inr ⟨z1, (h5 i hi).trans z2, RF_s (fun q hq => ?_) z3⟩
      show c.2.2.2 ((217 * i + q) / 217) ((217 * i + q) % 217) = mv.2 4 (217 * i + q)
      rw [show (217 * i + q) / 217 = i by omega, show (217 * i + q) % 217 = q by omega]
      exact h4 i hi z2 q hq
/-- the memory is the core's -/
def SM (m : MV) (c : KC) : Prop := m.1 1 = 0 ∧ m.1 2 = nI c.2.1.1 ∧ m.2 1 = c.1 ∧ m.2 3 = (nmv c).2 3 ∧ m.2 4 = (nmv c).2 4 ∧ m.2 5 = c.2.2.1
theorem nm3 {c : KC} {j i : Nat} (hi : i < 217) : (nmv c).2 3 (217 * j + i) = (c.2.1.2 (c.2.1.1 - 1 - j)) i := by
  show (c.2.1.2 (c.2.1.1 - 1 - (217 * j + i) / 217)) ((217 * j + i) % 217) = _
  rw [show (217 * j + i) / 217 = j by omega, show (217 * j + i) % 217 = i by omega]
theorem nm4 {c : KC} {j i : Nat} (hi : i < 217) : (nmv c).2 4 (217 * j + i) = c.2.2.2 j i := by
  show c.2.2.2 ((217 * j + i) / 217) ((217 * j + i) % 217) = _
  rw [show (217 * j + i) / 217 = j by omega, show (217 * j + i) % 217 = i by omega]
theorem QR_sm {cv : CV} {m : MV} {c : KC} (h : TRel cv m) (hl : c.2.1.1 ≤ 14) (hm : SM m c) : QR cv c := by
  obtain ⟨h0, h2, h1, h3, h4, h5⟩ := hm
  exact TR_nm h h0 (fun i _ => by rw [h1]) h2 hl (fun j hj i hi => by rw [h3, nm3 hi]) (fun i _ => by rw [h5]) (fun i hi _ q hq => by rw [h4, nm4 hq])
theorem SM_s {c : KC} {v : Int32} : SM (m_s (nmv c) 0 v) c := ⟨rfl, rfl, rfl, rfl, rfl, rfl⟩
theorem SM_t {c : KC} {v : Int32} {s : KR} : SM (m_r (m_s (nmv c) 0 v) 2 s) c := ⟨rfl, rfl, rfl, rfl, rfl, rfl⟩
theorem nm1 {c : KC} : (nmv c).2 1 = c.1 := rfl
theorem s0_0 {m : MV} {v : Int32} : (m_s m 0 v).1 0 = v := va_eq m.1 0 v
theorem QR_R {cv : CV} {c : KC} (h : QR cv c) : RF (cv.2.1 0) c.1 := h.1.2.2.1
/-- a call that reads -/
theorem Q_read {L : List String} {q : Option String × Int32 × CV} {c : KC} {r : Int32} {m : MV} (hl : c.2.1.1 ≤ 14) (h : AG L q (r, m)) (hm : SM m c) : QR q.2.2 c := QR_sm h.1 hl hm
def a_about (r : KR) (w : Int32) : Int32 := if k_X6_in (w.toInt64) 0 11 = 0 then -9999002 else r w.toNatClampNeg
theorem Q_about {cv : CV} {c : KC} (h : QR cv c) (w : Int32) : QR (k_X5_about cv w).2.2 c ∧ aX (k_X5_about cv w) = a_about c.1 w := by
  have hg := T_about h.1 w
  unfold k_X6_about at hg
  unfold a_about
  by_cases h1 : k_X6_in (w.toInt64) 0 11 = 0
  · rw [if_pos h1, rf_1] at hg
    dsimp only at hg
    rw [if_neg n10] at hg
    rw [if_pos h1]
    exact ⟨Q_read h.2 hg SM_s, AG_n (A := IAE) hg (by decide) (by decide) s0_0⟩
  · rw [if_neg h1, rf_0] at hg
    dsimp only at hg
    rw [if_pos p00] at hg
    rw [if_neg h1]
    exact ⟨Q_read h.2 hg SM_s, AG_0 (by decide) hg s0_0⟩
def a_peg (r : KR) (k w : Int32) : Int32 := if k_X6_isPeg r k = 0 then -9999001 else if k_X6_in (w.toInt64) 0 3 = 0 then -9999002 else k_X6_peg r k w
theorem Q_peg {cv : CV} {c : KC} (h : QR cv c) (k w : Int32) : QR (k_X5_pegOf cv k w).2.2 c ∧ aX (k_X5_pegOf cv k w) = a_peg c.1 k w := by
  have hg := T_peg h.1 k w
  unfold k_X6_pegOf at hg
  unfold a_peg
  rw [nm1] at hg
  by_cases h1 : k_X6_isPeg c.1 k = 0
  · rw [if_pos h1, rf_1] at hg
    dsimp only at hg
    rw [if_neg n10] at hg
    rw [if_pos h1]
    exact ⟨Q_read h.2 hg SM_s, AG_n (A := IOB) hg (by decide) (by decide) s0_0⟩
  rw [if_neg h1] at hg ⊢
  by_cases h2 : k_X6_in (w.toInt64) 0 3 = 0
  · rw [if_pos h2, rf_2] at hg
    dsimp only at hg
    rw [if_neg n10] at hg
    rw [if_pos h2]
    exact ⟨Q_read h.2 hg SM_s, AG_n (A := IAE) hg (by decide) (by decide) s0_0⟩
  · rw [if_neg h2, rf_0] at hg
    dsimp only at hg
    rw [if_pos p00] at hg
    rw [if_neg h2]
    exact ⟨Q_read h.2 hg SM_s, AG_0 (by decide) hg s0_0⟩
def a_order (r : KR) (k w : Int32) : Int32 := if k_X6_isOrder r k = 0 then -9999001 else if k_X6_in (w.toInt64) 0 4 = 0 then -9999002 else k_X6_order r k w
theorem Q_order {cv : CV} {c : KC} (h : QR cv c) (k w : Int32) : QR (k_X5_orderOf cv k w).2.2 c ∧ aX (k_X5_orderOf cv k w) = a_order c.1 k w := by
  have hg := T_order h.1 k w
  unfold k_X6_orderOf at hg
  unfold a_order
  rw [nm1] at hg
  by_cases h1 : k_X6_isOrder c.1 k = 0
  · rw [if_pos h1, rf_1] at hg
    dsimp only at hg
    rw [if_neg n10] at hg
    rw [if_pos h1]
    exact ⟨Q_read h.2 hg SM_s, AG_n (A := IOB) hg (by decide) (by decide) s0_0⟩
  rw [if_neg h1] at hg ⊢
  by_cases h2 : k_X6_in (w.toInt64) 0 4 = 0
  · rw [if_pos h2, rf_2] at hg
    dsimp only at hg
    rw [if_neg n10] at hg
    rw [if_pos h2]
    exact ⟨Q_read h.2 hg SM_s, AG_n (A := IAE) hg (by decide) (by decide) s0_0⟩
  · rw [if_neg h2, rf_0] at hg
    dsimp only at hg
    rw [if_pos p00] at hg
    rw [if_neg h2]
    exact ⟨Q_read h.2 hg SM_s, AG_0 (by decide) hg s0_0⟩
/-- the pegs of a pipe -/
def pgs (r : KR) (p : Int32) : Nat → Int32 → Int32 → Int32
  | 0, _, _ => 0
  | n + 1, i, acc => if r 0 ≤ i then acc else if k_X6_peg r i 0 = p then pgs r p n (i + 1) (acc + 1) else pgs r p n (i + 1) (acc + 0)
def v_pipe (r : KR) (k w : Int32) : Int32 := if w = 0 then pgs r k 31 0 0 else if w = 1 then k_X6_barsOf r k else if w = 2 then (if k_X6_isOpen r k = 0 then 0 else 1) else if w = 3 then r ((25 + k).toNatClampNeg) else r ((31 + k).toNatClampNeg)
def a_pipe (r : KR) (k w : Int32) : Int32 := if k_X6_isPipe k = 0 then -9999001 else if k_X6_in (w.toInt64) 0 4 = 0 then -9999002 else v_pipe r k w
theorem pipe_L {mv mw : MV} {k w : Int32} (h0 : 0 ≤ (mw.2 1 0).toInt ∧ (mw.2 1 0).toInt ≤ 30) : ∀ (n : Nat) (i acc : Int32), 0 ≤ i.toInt → i.toInt ≤ (mw.2 1 0).toInt → (mw.2 1 0).toInt - i.toInt < n → k_X6_pipeOf_L42 mv k w n i acc mw = ((if w = 0 then pgs (mw.2 1) k n i acc else if w = 1 then k_X6_barsOf (mw.2 1) k else if w = 2 then (if k_X6_isOpen (mw.2 1) k = 0 then 0 else 1) else if w = 3 then (mw.2 1) ((25 + k).toNatClampNeg) else (mw.2 1) ((31 + k).toNatClampNeg)), mw) := by
  intro n
  induction n with
  | zero => intro i acc h1 h2 h3; omega
  | succ n ih =>
    intro i acc h1 h2 h3
    rw [k_X6_pipeOf_L42, pgs]
    by_cases hi : mw.2 1 0 ≤ i
    · rw [if_pos hi, if_pos hi]
      by_cases w0 : w = 0
      · rw [if_pos w0, if_pos w0]
      rw [if_neg w0, if_neg w0]
      by_cases w1 : w = 1
      · rw [if_pos w1, if_pos w1]
      rw [if_neg w1, if_neg w1]
      by_cases w2 : w = 2
      · rw [if_pos w2, if_pos w2]
        by_cases ho : k_X6_isOpen (mw.2 1) k = 0
        · rw [if_pos ho, if_pos ho]
        · rw [if_neg ho, if_neg ho]
      rw [if_neg w2, if_neg w2]
      by_cases w3 : w = 3
      · rw [if_pos w3, if_pos w3]
      rw [if_neg w3, if_neg w3]
    · rw [if_neg hi, if_neg hi]
      rw [i_le] at hi
      have e := i_inc (i := i) (by omega)
      by_cases hp : k_X6_peg (mw.2 1) i 0 = k
      · rw [if_pos hp, if_pos hp]
        exact ih _ _ (by omega) (by omega) (by omega)
      · rw [if_neg hp, if_neg hp]
        exact ih _ _ (by omega) (by omega) (by omega)
theorem Q_pipe {cv : CV} {c : KC} (h : QR cv c) (k w : Int32) : QR (k_X5_pipeOf cv k w).2.2 c ∧ aX (k_X5_pipeOf cv k w) = a_pipe c.1 k w := by
  have hg := T_pipe h.1 k w
  unfold k_X6_pipeOf at hg
  unfold a_pipe
  by_cases h1 : k_X6_isPipe k = 0
  · rw [if_pos h1, rf_1] at hg
    dsimp only at hg
    rw [if_neg n10] at hg
    rw [if_pos h1]
    exact ⟨Q_read h.2 hg SM_s, AG_n (A := IOB) hg (by decide) (by decide) s0_0⟩
  rw [if_neg h1] at hg ⊢
  by_cases h2 : k_X6_in (w.toInt64) 0 4 = 0
  · rw [if_pos h2, rf_2] at hg
    dsimp only at hg
    rw [if_neg n10] at hg
    rw [if_pos h2]
    exact ⟨Q_read h.2 hg SM_s, AG_n (A := IAE) hg (by decide) (by decide) s0_0⟩
  · rw [if_neg h2, rf_0] at hg
    dsimp only at hg
    have hS := (RF_SI (QR_R h)).1
    rw [if_pos p00, pipe_L (mv := nmv c) (mw := m_s (nmv c) 0 0) (k := k) (w := w) hS 31 0 0 (by decide) hS.1 (by have := hS.2; have e0 : (0 : Int32).toInt = 0 := rfl; show (c.1 0).toInt - (0 : Int32).toInt < _; omega)] at hg
    rw [if_neg h2]
    exact ⟨Q_read h.2 hg SM_s, AG_0 (by decide) hg s0_0⟩
def a_chord (r : KR) (b : Int32) : Int32 := if k_X6_isBar b = 0 then -9999001 else k_X6_chordAt r b
theorem Q_chord {cv : CV} {c : KC} (h : QR cv c) (b : Int32) : QR (k_X5_chord cv b).2.2 c ∧ aX (k_X5_chord cv b) = a_chord c.1 b := by
  have hg := T_chord h.1 b
  unfold k_X6_chord at hg
  unfold a_chord
  by_cases h1 : k_X6_isBar b = 0
  · rw [if_pos h1, rf_1] at hg
    dsimp only at hg
    rw [if_neg n10] at hg
    rw [if_pos h1]
    exact ⟨Q_read h.2 hg SM_s, AG_n (A := IOB) hg (by decide) (by decide) s0_0⟩
  · rw [if_neg h1, rf_0] at hg
    dsimp only at hg
    rw [if_pos p00] at hg
    rw [if_neg h1]
    exact ⟨Q_read h.2 hg SM_s, AG_0 (by decide) hg s0_0⟩
def a_cov (r : KR) (w : Int32) : Int32 := if k_X6_in (w.toInt64) 0 1 = 0 then -9999002 else nI (lenS r (gA r 0))
theorem RF_gN {o : OV} {s : KR} {N M : Nat} (h : RC o s N M) : gA s 0 = N := by
  unfold gA
  rw [h.1.1.1, nI_clamp (by have := h.1.1.2.1; omega)]
theorem Q_cov {cv : CV} {c : KC} (h : QR cv c) (w : Int32) : QR (k_X5_covered cv w).2.2 c ∧ aX (k_X5_covered cv w) = a_cov c.1 w := by
  have hg := T_cov h.1 w
  unfold k_X6_covered at hg
  unfold a_cov
  by_cases h1 : k_X6_in (w.toInt64) 0 1 = 0
  · rw [if_pos h1, rf_1] at hg
    dsimp only at hg
    rw [if_neg n10] at hg
    rw [if_pos h1]
    exact ⟨Q_read h.2 hg SM_s, AG_n (A := IAE) hg (by decide) (by decide) s0_0⟩
  · rw [if_neg h1, rf_0] at hg
    dsimp only at hg
    obtain ⟨N, M, hRC, -⟩ := QR_R h
    have hcl : k_X6_covered_L28 (nmv c) w 7 0 0 (m_s (nmv c) 0 0) = (nI (lenS c.1 N), m_s (nmv c) 0 0) := covL (mv := nmv c) (mw := m_s (nmv c) 0 0) (vk := w) hRC.1.1.1 hRC.1.1.2.1 hRC.1.2.2.2.1 7 0 (by omega) (by omega)
    rw [if_pos p00, hcl] at hg
    rw [if_neg h1, RF_gN hRC]
    exact ⟨Q_read h.2 hg SM_s, AG_0 (by decide) hg s0_0⟩
def a_setting (r : KR) (w : Int32) : Int32 := if k_X6_in (w.toInt64) 0 2 = 0 then -9999002 else r ((12 + w).toNatClampNeg)
theorem Q_setting {cv : CV} {c : KC} (h : QR cv c) (w : Int32) : QR (k_X5_setting cv w).2.2 c ∧ aX (k_X5_setting cv w) = a_setting c.1 w := by
  have hg := T_setting h.1 w
  unfold k_X6_setting at hg
  unfold a_setting
  by_cases h1 : k_X6_in (w.toInt64) 0 2 = 0
  · rw [if_pos h1, rf_1] at hg
    dsimp only at hg
    rw [if_neg n10] at hg
    rw [if_pos h1]
    exact ⟨Q_read h.2 hg SM_s, AG_n (A := IAE) hg (by decide) (by decide) s0_0⟩
  · rw [if_neg h1, rf_0] at hg
    dsimp only at hg
    rw [if_pos p00] at hg
    rw [if_neg h1]
    exact ⟨Q_read h.2 hg SM_s, AG_0 (by decide) hg s0_0⟩
