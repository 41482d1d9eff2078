/-! ===== how many places have a property ===== -/
def fb_ct (p : Nat → Bool) : Nat → Nat
  | 0 => 0
  | n + 1 => fb_ct p n + (if p n then 1 else 0)
theorem fb_ct_succ (p : Nat → Bool) (n : Nat) : fb_ct p (n + 1) = fb_ct p n + (if p n then 1 else 0) := rfl
theorem fb_ct_le (p : Nat → Bool) : ∀ n, fb_ct p n ≤ n
  | 0 => Nat.le_refl _
  | n + 1 => by
    have h := fb_ct_le p n
    rw [fb_ct_succ]
    split <;> omega
theorem fb_ct_step (p : Nat → Bool) (m : Nat) : ∀ n, fb_ct p m ≤ fb_ct p (m + n)
  | 0 => Nat.le_refl _
  | n + 1 => by
    have h := fb_ct_step p m n
    show fb_ct p m ≤ fb_ct p (m + n + 1)
    rw [fb_ct_succ]
    omega
theorem fb_ct_mono (p : Nat → Bool) {m n : Nat} (h : m ≤ n) : fb_ct p m ≤ fb_ct p n := by
  have := fb_ct_step p m (n - m)
  rwa [Nat.add_sub_cancel' h] at this
theorem fb_ct_cong {p q : Nat → Bool} : ∀ {n : Nat}, (∀ k, k < n → p k = q k) → fb_ct p n = fb_ct q n
  | 0, _ => rfl
  | n + 1, h => by
    rw [fb_ct_succ, fb_ct_succ, fb_ct_cong (fun k hk => h k (by omega)), h n (by omega)]
/-- one place changed -/
theorem fb_ct_out (p : Nat → Bool) (b : Bool) {i n : Nat} (h : n ≤ i) : fb_ct (fun k => if k = i then b else p k) n = fb_ct p n :=
  fb_ct_cong fun k hk => if_neg (by omega)
theorem fb_ct_upd (p : Nat → Bool) (b : Bool) {i : Nat} : ∀ {n : Nat}, i < n → fb_ct (fun k => if k = i then b else p k) n + (if p i then 1 else 0) = fb_ct p n + (if b then 1 else 0)
  | 0, h => absurd h (Nat.not_lt_zero i)
  | n + 1, h => by
    rw [fb_ct_succ, fb_ct_succ]
    rcases Nat.lt_or_ge i n with q | q
    · have := fb_ct_upd p b q
      have e : (if n = i then b else p n) = p n := if_neg (by omega)
      rw [e]
      omega
    · have e : i = n := by omega
      subst e
      rw [fb_ct_out p b (Nat.le_refl _)]
      simp only [if_true]
      omega
theorem fb_ct_sub {p q : Nat → Bool} : ∀ {n : Nat}, (∀ k, k < n → p k = true → q k = true) → fb_ct p n ≤ fb_ct q n
  | 0, _ => Nat.le_refl _
  | n + 1, h => by
    have h1 := fb_ct_sub (n := n) (p := p) (q := q) (fun k hk => h k (by omega))
    have h2 := h n (by omega)
    rw [fb_ct_succ, fb_ct_succ]
    cases hp : p n <;> cases hq : q n <;> simp_all <;> omega
theorem fb_ct_or {p q : Nat → Bool} : ∀ {n : Nat}, (∀ k, k < n → ¬ (p k = true ∧ q k = true)) → fb_ct (fun k => p k || q k) n = fb_ct p n + fb_ct q n
  | 0, _ => rfl
  | n + 1, h => by
    have h1 := fb_ct_or (n := n) (p := p) (q := q) (fun k hk => h k (by omega))
    have h2 := h n (by omega)
    rw [fb_ct_succ, fb_ct_succ, fb_ct_succ, h1]
    cases hp : p n <;> cases hq : q n <;> simp_all <;> omega
theorem fb_ct_not (p : Nat → Bool) : ∀ n, fb_ct p n + fb_ct (fun k => !p k) n = n
  | 0 => rfl
  | n + 1 => by
    have h := fb_ct_not p n
    rw [fb_ct_succ, fb_ct_succ]
    cases p n <;> simp <;> omega
theorem fb_ct_split (p : Nat → Bool) (m : Nat) : ∀ n, fb_ct p (m + n) = fb_ct p m + fb_ct (fun k => p (m + k)) n
  | 0 => rfl
  | n + 1 => by
    have h := fb_ct_split p m n
    show fb_ct p (m + n + 1) = _
    rw [fb_ct_succ, fb_ct_succ, h, Nat.add_assoc]
theorem fb_ct_zero {p : Nat → Bool} : ∀ {n : Nat}, fb_ct p n = 0 ↔ ∀ k, k < n → p k = false
  | 0 => ⟨fun _ k hk => absurd hk (Nat.not_lt_zero k), fun _ => rfl⟩
  | n + 1 => by
    have h := fb_ct_zero (p := p) (n := n)
    rw [fb_ct_succ]
    constructor
    · intro e k hk
      have e1 : fb_ct p n = 0 := by omega
      rcases Nat.lt_or_ge k n with q | q
      · exact h.mp e1 k q
      · have ek : k = n := by omega
        subst ek
        cases hp : p k
        · rfl
        · simp [hp] at e
    · intro a
      rw [h.mpr (fun k hk => a k (by omega)), a n (by omega)]
      rfl
theorem fb_ct_pos {p : Nat → Bool} {n : Nat} : 0 < fb_ct p n ↔ ∃ k, k < n ∧ p k = true := by
  constructor
  · intro h
    refine Classical.byContradiction fun hx => ?_
    have := fb_ct_zero.mpr (fun k hk => by
      cases hp : p k
      · rfl
      · exact absurd ⟨k, hk, hp⟩ hx : ∀ k, k < n → p k = false)
    omega
  · rintro ⟨k, hk, hp⟩
    rcases Nat.eq_zero_or_pos (fb_ct p n) with e | e
    · have := fb_ct_zero.mp e k hk
      rw [this] at hp
      cases hp
    · exact e
theorem fb_ct_all {p : Nat → Bool} {n : Nat} : fb_ct p n = n ↔ ∀ k, k < n → p k = true := by
  have h := fb_ct_not p n
  constructor
  · intro e k hk
    have z : fb_ct (fun k => !p k) n = 0 := by omega
    have := fb_ct_zero.mp z k hk
    cases hp : p k
    · simp [hp] at this
    · rfl
  · intro a
    have z : fb_ct (fun k => !p k) n = 0 := fb_ct_zero.mpr (fun k hk => by simp [a k hk])
    omega
/-- the k-th place with the property -/
theorem fb_ct_kth {p : Nat → Bool} {k : Nat} : ∀ {n : Nat}, k < fb_ct p n → ∃ i, i < n ∧ p i = true ∧ fb_ct p i = k
  | 0, h => absurd h (Nat.not_lt_zero k)
  | n + 1, h => by
    rcases Nat.lt_or_ge k (fb_ct p n) with q | q
    · obtain ⟨i, h1, h2⟩ := fb_ct_kth q
      exact ⟨i, by omega, h2⟩
    · rw [fb_ct_succ] at h
      cases hp : p n
      · simp [hp] at h; omega
      · simp [hp] at h
        exact ⟨n, by omega, hp, by omega⟩
theorem fb_ct_kth_one {p : Nat → Bool} {i j : Nat} (hi : p i = true) (hj : p j = true) (e : fb_ct p i = fb_ct p j) : i = j := by
  have key : ∀ a b : Nat, a < b → p a = true → fb_ct p a < fb_ct p b := by
    intro a b hab ha
    have h := fb_ct_mono p (show a + 1 ≤ b from hab)
    rw [fb_ct_succ, ha] at h
    simp at h
    omega
  rcases Nat.lt_trichotomy i j with q | q | q
  · have := key i j q hi; omega
  · exact q
  · have := key j i q hj; omega
/-! ===== sums over a range: one place changed, parts, bounds ===== -/
def fb_sm (f : Nat → Nat) : Nat → Nat
  | 0 => 0
  | n + 1 => fb_sm f n + f n
theorem fb_sm_succ (f : Nat → Nat) (n : Nat) : fb_sm f (n + 1) = fb_sm f n + f n := rfl
theorem fb_sm_cong {f g : Nat → Nat} : ∀ {n : Nat}, (∀ k, k < n → f k = g k) → fb_sm f n = fb_sm g n
  | 0, _ => rfl
  | n + 1, h => by rw [fb_sm_succ, fb_sm_succ, fb_sm_cong (fun k hk => h k (by omega)), h n (by omega)]
theorem fb_sm_out (f : Nat → Nat) (v : Nat) {i n : Nat} (h : n ≤ i) : fb_sm (fun k => if k = i then v else f k) n = fb_sm f n :=
  fb_sm_cong fun k hk => if_neg (by omega)
theorem fb_sm_upd (f : Nat → Nat) (v : Nat) {i : Nat} : ∀ {n : Nat}, i < n → fb_sm (fun k => if k = i then v else f k) n + f i = fb_sm f n + v
  | 0, h => absurd h (Nat.not_lt_zero i)
  | n + 1, h => by
    rw [fb_sm_succ, fb_sm_succ]
    rcases Nat.lt_or_ge i n with q | q
    · have := fb_sm_upd f v q
      have e : (if n = i then v else f n) = f n := if_neg (by omega)
      rw [e]
      omega
    · have e : i = n := by omega
      subst e
      rw [fb_sm_out f v (Nat.le_refl _)]
      simp only [if_true]
      omega
theorem fb_sm_add (f g : Nat → Nat) : ∀ n, fb_sm (fun k => f k + g k) n = fb_sm f n + fb_sm g n
  | 0 => rfl
  | n + 1 => by
    have h := fb_sm_add f g n
    rw [fb_sm_succ, fb_sm_succ, fb_sm_succ, h]
    omega
theorem fb_sm_le {f g : Nat → Nat} : ∀ {n : Nat}, (∀ k, k < n → f k ≤ g k) → fb_sm f n ≤ fb_sm g n
  | 0, _ => Nat.le_refl _
  | n + 1, h => by
    have h1 := fb_sm_le (n := n) (f := f) (g := g) (fun k hk => h k (by omega))
    have h2 := h n (by omega)
    rw [fb_sm_succ, fb_sm_succ]
    omega
theorem fb_sm_const (c : Nat) : ∀ n, fb_sm (fun _ => c) n = n * c
  | 0 => by rw [Nat.zero_mul]; rfl
  | n + 1 => by rw [fb_sm_succ, fb_sm_const c n, Nat.succ_mul]
theorem fb_sm_bound {f : Nat → Nat} {c n : Nat} (h : ∀ k, k < n → f k ≤ c) : fb_sm f n ≤ n * c := by
  rw [← fb_sm_const c n]
  exact fb_sm_le h
theorem fb_sm_mono (f : Nat → Nat) (m : Nat) : ∀ n, fb_sm f m ≤ fb_sm f (m + n)
  | 0 => Nat.le_refl _
  | n + 1 => by
    have h := fb_sm_mono f m n
    show fb_sm f m ≤ fb_sm f (m + n + 1)
    rw [fb_sm_succ]
    omega
theorem fb_sm_part (f : Nat → Nat) {i n : Nat} (h : i < n) : fb_sm f i + f i ≤ fb_sm f n := by
  have := fb_sm_mono f (i + 1) (n - (i + 1))
  rw [fb_sm_succ, show i + 1 + (n - (i + 1)) = n by omega] at this
  exact this
theorem fb_sm_split (f : Nat → Nat) (m : Nat) : ∀ n, fb_sm f (m + n) = fb_sm f m + fb_sm (fun k => f (m + k)) n
  | 0 => rfl
  | n + 1 => by
    have h := fb_sm_split f m n
    show fb_sm f (m + n + 1) = _
    rw [fb_sm_succ, fb_sm_succ, h, Nat.add_assoc]
theorem fb_sm_zero {f : Nat → Nat} {n : Nat} (h : fb_sm f n = 0) : ∀ k, k < n → f k = 0 := fun k hk => by
  have := fb_sm_part f hk
  omega
/-- the same over whole numbers -/
def fb_si (f : Nat → Int) : Nat → Int
  | 0 => 0
  | n + 1 => fb_si f n + f n
theorem fb_si_succ (f : Nat → Int) (n : Nat) : fb_si f (n + 1) = fb_si f n + f n := rfl
theorem fb_si_cong {f g : Nat → Int} : ∀ {n : Nat}, (∀ k, k < n → f k = g k) → fb_si f n = fb_si g n
  | 0, _ => rfl
  | n + 1, h => by rw [fb_si_succ, fb_si_succ, fb_si_cong (fun k hk => h k (by omega)), h n (by omega)]
theorem fb_si_out (f : Nat → Int) (v : Int) {i n : Nat} (h : n ≤ i) : fb_si (fun k => if k = i then v else f k) n = fb_si f n :=
  fb_si_cong fun k hk => if_neg (by omega)
theorem fb_si_upd (f : Nat → Int) (v : Int) {i : Nat} : ∀ {n : Nat}, i < n → fb_si (fun k => if k = i then v else f k) n = fb_si f n - f i + v
  | 0, h => absurd h (Nat.not_lt_zero i)
  | n + 1, h => by
    rw [fb_si_succ, fb_si_succ]
    rcases Nat.lt_or_ge i n with q | q
    · have := fb_si_upd f v q
      have e : (if n = i then v else f n) = f n := if_neg (by omega)
      rw [e]
      omega
    · have e : i = n := by omega
      subst e
      rw [fb_si_out f v (Nat.le_refl _)]
      simp only [if_true]
      omega
theorem fb_si_add (f g : Nat → Int) : ∀ n, fb_si (fun k => f k + g k) n = fb_si f n + fb_si g n
  | 0 => rfl
  | n + 1 => by
    have h := fb_si_add f g n
    rw [fb_si_succ, fb_si_succ, fb_si_succ, h]
    omega
theorem fb_si_sub (f g : Nat → Int) : ∀ n, fb_si (fun k => f k - g k) n = fb_si f n - fb_si g n
  | 0 => rfl
  | n + 1 => by
    have h := fb_si_sub f g n
    rw [fb_si_succ, fb_si_succ, fb_si_succ, h]
    omega
theorem fb_si_mul (c : Int) (f : Nat → Int) : ∀ n, fb_si (fun k => c * f k) n = c * fb_si f n
  | 0 => (Int.mul_zero c).symm
  | n + 1 => by
    have h := fb_si_mul c f n
    rw [fb_si_succ, fb_si_succ, h, Int.mul_add]
theorem fb_si_split (f : Nat → Int) (m : Nat) : ∀ n, fb_si f (m + n) = fb_si f m + fb_si (fun k => f (m + k)) n
  | 0 => (Int.add_zero _).symm
  | n + 1 => by
    have h := fb_si_split f m n
    show fb_si f (m + n + 1) = _
    rw [fb_si_succ, fb_si_succ, h, Int.add_assoc]
theorem fb_si_nat (f : Nat → Nat) : ∀ n, fb_si (fun k => (f k : Int)) n = (fb_sm f n : Int)
  | 0 => rfl
  | n + 1 => by
    have h := fb_si_nat f n
    rw [fb_si_succ, fb_sm_succ, h]
    omega
theorem fb_si_bound {f : Nat → Int} {c : Int} (hc : 0 ≤ c) : ∀ {n : Nat}, (∀ k, k < n → -c ≤ f k ∧ f k ≤ c) → -(n * c) ≤ fb_si f n ∧ fb_si f n ≤ n * c
  | 0, _ => by simp [fb_si]
  | n + 1, h => by
    have h1 := fb_si_bound (n := n) (f := f) hc (fun k hk => h k (by omega))
    have h2 := h n (by omega)
    have e : ((n + 1 : Nat) : Int) * c = n * c + c := by rw [Int.natCast_add, Int.add_mul]; simp
    rw [fb_si_succ, e]
    omega
/-! Layer 2: the number of bits. -/
theorem and_split {k a b c d : Nat} (ha : a < 2 ^ k) (hc : c < 2 ^ k) : (a + 2 ^ k * b) &&& (c + 2 ^ k * d) = (a &&& c) + 2 ^ k * (b &&& d) := by
  have hac : a &&& c < 2 ^ k := Nat.and_lt_two_pow _ hc
  apply Nat.eq_of_testBit_eq
  intro i
  rw [Nat.testBit_and, Nat.add_comm a, Nat.add_comm c, Nat.add_comm (a &&& c), Nat.testBit_two_pow_mul_add _ ha, Nat.testBit_two_pow_mul_add _ hc, Nat.testBit_two_pow_mul_add _ hac]
  split
  · rw [Nat.testBit_and]
  · rw [Nat.testBit_and]
def s1 (x : Nat) : Nat := x - ((x / 2) &&& 1431655765)
def s2 (y : Nat) : Nat := (y &&& 858993459) + ((y / 4) &&& 858993459)
def s3 (z : Nat) : Nat := (z + z / 16) &&& 252645135
theorem and_le (a b : Nat) : a &&& b ≤ a := Nat.and_le_left
theorem s1_split {a b : Nat} (ha : a < 256) (hb : b < 65536) : s1 (a + 256 * b) = s1 a + 256 * s1 b := by
  unfold s1
  have e1 : (a + 256 * b) / 2 = (a / 2 + 128 * (b % 2)) + 2 ^ 8 * (b / 2) := by omega
  have e2 : (1431655765 : Nat) = 85 + 2 ^ 8 * 5592405 := by decide
  have e3 : (a / 2 + 128 * (b % 2)) &&& 85 = (a / 2) &&& 1431655765 := by
    have : ∀ a, a < 256 → ∀ e, e < 2 → (a / 2 + 128 * e) &&& 85 = (a / 2) &&& 1431655765 := by decide +kernel
    exact this a ha _ (by omega)
  have e4 : (b / 2) &&& 5592405 = (b / 2) &&& 1431655765 := by
    have h := and_split (k := 24) (a := b / 2) (b := 0) (c := 5592405) (d := 85) (by omega) (by decide)
    rw [show 5592405 + 2 ^ 24 * 85 = 1431655765 by decide] at h
    simpa using h.symm
  have e5 := and_le (a / 2) 1431655765
  have e6 := and_le (b / 2) 1431655765
  rw [show ((a + 256 * b) / 2) &&& 1431655765 = ((a / 2) &&& 1431655765) + 256 * ((b / 2) &&& 1431655765) from by
    rw [e1]
    conv => lhs; rw [e2]
    rw [and_split (by omega) (by decide), e3, e4]]
  omega
theorem s2_split {a b : Nat} (ha : a < 256) (hb : b < 65536) : s2 (a + 256 * b) = s2 a + 256 * s2 b := by
  unfold s2
  have e1 : (a + 256 * b) / 4 = (a / 4 + 64 * (b % 4)) + 2 ^ 8 * (b / 4) := by omega
  have e2 : (858993459 : Nat) = 51 + 2 ^ 8 * 3355443 := by decide
  have e3 : (a / 4 + 64 * (b % 4)) &&& 51 = (a / 4) &&& 858993459 := by
    have : ∀ a, a < 256 → ∀ e, e < 4 → (a / 4 + 64 * e) &&& 51 = (a / 4) &&& 858993459 := by decide +kernel
    exact this a ha _ (by omega)
  have e3' : a &&& 51 = a &&& 858993459 := by
    have : ∀ a, a < 256 → a &&& 51 = a &&& 858993459 := by decide +kernel
    exact this a ha
  have lw : ∀ q, q < 2 ^ 24 → q &&& 3355443 = q &&& 858993459 := by
    intro q hq
    have h := and_split (k := 24) (a := q) (b := 0) (c := 3355443) (d := 51) hq (by decide)
    rw [show 3355443 + 2 ^ 24 * 51 = 858993459 by decide] at h
    simpa using h.symm
  have f1 : (a + 256 * b) &&& 858993459 = (a &&& 858993459) + 256 * (b &&& 858993459) := by
    conv => lhs; rw [e2]
    rw [show a + 256 * b = a + 2 ^ 8 * b from rfl, and_split (by omega) (by decide), e3', lw b (by omega)]
  have f2 : ((a + 256 * b) / 4) &&& 858993459 = ((a / 4) &&& 858993459) + 256 * ((b / 4) &&& 858993459) := by
    rw [e1]
    conv => lhs; rw [e2]
    rw [and_split (by omega) (by decide), e3, lw _ (by omega)]
  rw [f1, f2]
  omega
theorem s3_split {a b : Nat} (ha : a ≤ 68) (hb : b < 65536) (hb2 : b % 16 ≤ 4) (hs : b + b / 16 < 2 ^ 24) : s3 (a + 256 * b) = s3 a + 256 * s3 b := by
  unfold s3
  have e1 : (a + 256 * b) + (a + 256 * b) / 16 = (a + a / 16 + 16 * (b % 16)) + 2 ^ 8 * (b + b / 16) := by omega
  have e2 : (252645135 : Nat) = 15 + 2 ^ 8 * 986895 := by decide
  have e3 : (a + a / 16 + 16 * (b % 16)) &&& 15 = (a + a / 16) &&& 252645135 := by
    have : ∀ a, a < 69 → ∀ e, e < 5 → (a + a / 16 + 16 * e) &&& 15 = (a + a / 16) &&& 252645135 := by decide +kernel
    exact this a (by omega) _ (by omega)
  have e4 : (b + b / 16) &&& 986895 = (b + b / 16) &&& 252645135 := by
    have h := and_split (k := 24) (a := b + b / 16) (b := 0) (c := 986895) (d := 15) hs (by decide)
    rw [show 986895 + 2 ^ 24 * 15 = 252645135 by decide] at h
    simpa using h.symm
  rw [e1]
  conv => lhs; rw [e2]
  rw [and_split (by omega) (by decide), e3, e4]
/-- the bits of a byte -/
def pB (a : Nat) : Nat := fb_ct (fun j => a.testBit j) 8
theorem by_1 : ∀ a, a < 256 → s1 a < 256 ∧ s2 (s1 a) ≤ 68 ∧ s2 (s1 a) % 16 ≤ 4 ∧ s3 (s2 (s1 a)) = pB a := by decide +kernel
theorem pB_le (a : Nat) : pB a ≤ 8 := fb_ct_le _ _
theorem sw_3 {a b c : Nat} (ha : a < 256) (hb : b < 256) (hc : c < 256) : s3 (s2 (s1 (a + 256 * (b + 256 * c)))) = pB a + 256 * (pB b + 256 * pB c) := by
  obtain ⟨a1, a2, a3, a4⟩ := by_1 a ha
  obtain ⟨b1, b2, b3, b4⟩ := by_1 b hb
  obtain ⟨c1, c2, c3, c4⟩ := by_1 c hc
  rw [s1_split ha (by omega), s1_split hb (by omega), s2_split a1 (by omega), s2_split b1 (by omega), s3_split a2 (by omega) (by omega) (by omega), s3_split b2 (by omega) c3 (by omega), a4, b4, c4]
theorem x_un {k j : Nat} (hk : k < 2 ^ 31) (hj : j < 32) : x_ushr (nI k) (nI j) = nI (k / 2 ^ j) := by
  unfold x_ushr
  have hs : k / 2 ^ j ≤ k := Nat.div_le_self _ _
  have cnt : ∀ j, j < 32 → (UInt32.ofNat j &&& Int32.toUInt32 31).toNat % 32 = j := by decide +kernel
  have e2 : UInt32.ofNat k >>> (UInt32.ofNat j &&& Int32.toUInt32 31) = UInt32.ofNat (k / 2 ^ j) := by
    apply UInt32.toNat_inj.1
    have h1 : (UInt32.ofNat k).toNat = k := Nat.mod_eq_of_lt (by omega)
    have h2 : (UInt32.ofNat (k / 2 ^ j)).toNat = k / 2 ^ j := Nat.mod_eq_of_lt (by omega)
    rw [UInt32.toNat_shiftRight, cnt j hj, h1, h2, Nat.shiftRight_eq_div_pow]
  show (UInt32.ofNat k >>> (UInt32.ofNat j &&& Int32.toUInt32 31)).toInt32 = _
  rw [e2]
  rfl
theorem nI_and (a b : Nat) : nI a &&& nI b = nI (a &&& b) := by
  apply Int32.toBitVec_inj.1
  show BitVec.ofNat 32 a &&& BitVec.ofNat 32 b = BitVec.ofNat 32 (a &&& b)
  apply BitVec.eq_of_getLsbD_eq
  intro i hi
  simp [hi]
theorem bc_nat {n : Nat} (h : n < 2 ^ 24) : k_J6_bitCount_0f7a4 (nI n) = nI (fb_ct (fun j => n.testBit j) 24) := by
  have hs := sw_3 (a := n % 256) (b := n / 256 % 256) (c := n / 65536) (by omega) (by omega) (by omega)
  rw [show n % 256 + 256 * (n / 256 % 256 + 256 * (n / 65536)) = n by omega] at hs
  have h1 : s1 n ≤ n := Nat.sub_le _ _
  have h2 : s2 (s1 n) ≤ n + n := by
    unfold s2
    have q1 := and_le (s1 n) 858993459
    have q2 := and_le (s1 n / 4) 858993459
    omega
  have t1 : nI n - ((x_ushr (nI n) 1) &&& 1431655765) = nI (s1 n) := by
    rw [show x_ushr (nI n) 1 = nI (n / 2) from x_un (j := 1) (by omega) (by omega), show nI (n / 2) &&& 1431655765 = nI ((n / 2) &&& 1431655765) from nI_and _ _]
    have q := and_le (n / 2) 1431655765
    exact nI_sub (by omega)
  have t2 : (nI (s1 n) &&& 858993459) + ((x_ushr (nI (s1 n)) 2) &&& 858993459) = nI (s2 (s1 n)) := by
    rw [show x_ushr (nI (s1 n)) 2 = nI (s1 n / 4) from x_un (j := 2) (by omega) (by omega), show nI (s1 n / 4) &&& 858993459 = nI ((s1 n / 4) &&& 858993459) from nI_and _ _, show nI (s1 n) &&& 858993459 = nI (s1 n &&& 858993459) from nI_and _ _, nI_add]
    rfl
  have t3 : (nI (s2 (s1 n)) + x_ushr (nI (s2 (s1 n))) 4) &&& 252645135 = nI (s3 (s2 (s1 n))) := by
    rw [show x_ushr (nI (s2 (s1 n))) 4 = nI (s2 (s1 n) / 16) from x_un (j := 4) (by omega) (by omega), nI_add]
    exact nI_and _ _
  unfold k_J6_bitCount_0f7a4
  rw [t1, t2, t3, hs]
  have pa := pB_le (n % 256)
  have pb := pB_le (n / 256 % 256)
  have pc := pB_le (n / 65536)
  have hct : fb_ct (fun j => n.testBit j) 24 = pB (n % 256) + (pB (n / 256 % 256) + pB (n / 65536)) := by
    rw [show 24 = 8 + 16 from rfl, fb_ct_split, show 16 = 8 + 8 from rfl, fb_ct_split]
    unfold pB
    have g0 : fb_ct (fun j => n.testBit j) 8 = fb_ct (fun j => (n % 256).testBit j) 8 := fb_ct_cong (fun k hk => by
      rw [show (256 : Nat) = 2 ^ 8 from rfl, Nat.testBit_mod_two_pow, decide_eq_true hk, Bool.true_and])
    have g1 : fb_ct (fun k => n.testBit (8 + k)) 8 = fb_ct (fun j => (n / 256 % 256).testBit j) 8 := fb_ct_cong (fun k hk => by
      rw [show (256 : Nat) = 2 ^ 8 from rfl, Nat.testBit_mod_two_pow, decide_eq_true hk, Bool.true_and, Nat.testBit_div_two_pow, Nat.add_comm])
    have g2 : fb_ct (fun k => n.testBit (8 + (8 + k))) 8 = fb_ct (fun j => (n / 65536).testBit j) 8 := fb_ct_cong (fun k hk => by
      rw [show (65536 : Nat) = 2 ^ 16 from rfl, Nat.testBit_div_two_pow]
      congr 1
      omega)
    rw [g0, g1, g2]
  rw [hct]
  generalize pB (n % 256) = A at pa ⊢
  generalize pB (n / 256 % 256) = B at pb ⊢
  generalize pB (n / 65536) = C at pc ⊢
  rw [show x_ushr (nI (A + 256 * (B + 256 * C))) 8 = nI ((A + 256 * (B + 256 * C)) / 256) from x_un (j := 8) (by omega) (by omega), nI_add]
  rw [show x_ushr (nI (A + 256 * (B + 256 * C) + (A + 256 * (B + 256 * C)) / 256)) 16 = nI ((A + 256 * (B + 256 * C) + (A + 256 * (B + 256 * C)) / 256) / 65536) from x_un (j := 16) (by omega) (by omega), nI_add]
  rw [show ∀ x, nI x &&& 63 = nI (x % 64) from fun x => by
    refine (nI_and x 63).trans ?_
    rw [show (63 : Nat) = 2 ^ 6 - 1 from rfl, Nat.and_two_pow_sub_one_eq_mod]]
  have q1 : (A + 256 * (B + 256 * C)) / 256 = B + 256 * C := by omega
  rw [q1]
  have q2 : (A + 256 * (B + 256 * C) + (B + 256 * C)) / 65536 = C := by omega
  rw [q2]
  exact congrArg nI (by omega)
/-- .. of a set of bars or of pipes -/
theorem bc_eq {x : Int32} (h : ∀ j, 24 ≤ j → j < 32 → bt x j = false) : k_J6_bitCount_0f7a4 x = nI (fb_ct (fun j => bt x j) 24) := by
  have e : x = nI x.toBitVec.toNat := by
    apply Int32.toBitVec_inj.1
    show x.toBitVec = BitVec.ofNat 32 x.toBitVec.toNat
    simp
  have hlt : x.toBitVec.toNat < 2 ^ 24 := by
    refine Nat.lt_pow_two_of_testBit _ (fun i hi => ?_)
    show bt x i = false
    by_cases h32 : i < 32
    · exact h i hi h32
    · exact b_big (by omega)
  conv => lhs; rw [e]
  rw [bc_nat hlt]
  rfl
