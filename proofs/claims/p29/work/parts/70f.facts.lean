/-! p29: what the calls answer, in numbers. -/
theorem inx {x : Int32} {A B : Int64} (a b : Int) (ha : A.toInt = a) (hb : B.toInt = b) : k_X6_in (x.toInt64) A B = 0 ↔ ¬ (a ≤ x.toInt ∧ x.toInt ≤ b) := by
  subst ha
  subst hb
  exact in_z
theorem sub1 {k : Nat} (hk : k < 2 ^ 30) : (-1 - nI k : Int32).toInt = -1 - (k : Int) := by
  have e1 : (-1 : Int32).toInt = -1 := rfl
  have e2 := nI_toInt (n := k) (by omega)
  rw [i_sub (by omega) (by omega), e1, e2]
theorem isP_x {x : Int32} (h : ¬ (0 ≤ x.toInt ∧ x.toInt ≤ 5)) : k_X6_isPipe x = 0 := (inx 0 5 rfl rfl).mpr h
theorem isB_x {x : Int32} (h : ¬ (0 ≤ x.toInt ∧ x.toInt ≤ 23)) : k_X6_isBar x = 0 := (inx 0 23 rfl rfl).mpr h
theorem isP_y {p : Nat} (hp : p < 6) : ¬ k_X6_isPipe (nI p) = 0 := (by decide +kernel : ∀ p, p < 6 → ¬ k_X6_isPipe (nI p) = 0) p hp
theorem isB_y {p : Nat} (hp : p < 24) : ¬ k_X6_isBar (nI p) = 0 := (by decide +kernel : ∀ p, p < 24 → ¬ k_X6_isBar (nI p) = 0) p hp
/-- of a count n -/
theorem cnt_i {n : Nat} (hn : n ≤ 30) : ((nI n - 1).toInt64).toInt = (n : Int) - 1 := by
  rw [Int32.toInt_toInt64]
  have e1 : (1 : Int32).toInt = 1 := rfl
  have e2 := nI_toInt (n := n) (by omega)
  rw [i_sub (by omega) (by omega), e1, e2]
theorem isO_x {s : KR} {M : Nat} {x : Int32} (h : s 1 = nI M) (hM : M ≤ 12) (hx : ¬ (0 ≤ x.toInt ∧ x.toInt < M)) : k_X6_isOrder s x = 0 := by
  unfold k_X6_isOrder
  rw [h]
  exact (inx 0 ((M : Int) - 1) rfl (cnt_i (by omega))).mpr (by omega)
theorem isO_y {s : KR} {M k : Nat} (h : s 1 = nI M) (hM : M ≤ 12) (hk : k < M) : ¬ k_X6_isOrder s (nI k) = 0 := by
  unfold k_X6_isOrder
  rw [h]
  exact fun q => (inx 0 ((M : Int) - 1) rfl (cnt_i (by omega))).mp q (by rw [nI_toInt (by omega)]; omega)
theorem isG_x {s : KR} {N : Nat} {x : Int32} (h : s 0 = nI N) (hN : N ≤ 30) (hx : ¬ (0 ≤ x.toInt ∧ x.toInt < N)) : k_X6_isPeg s x = 0 := by
  unfold k_X6_isPeg
  rw [h]
  exact (inx 0 ((N : Int) - 1) rfl (cnt_i hN)).mpr (by omega)
theorem isG_y {s : KR} {N k : Nat} (h : s 0 = nI N) (hN : N ≤ 30) (hk : k < N) : ¬ k_X6_isPeg s (nI k) = 0 := by
  unfold k_X6_isPeg
  rw [h]
  exact fun q => (inx 0 ((N : Int) - 1) rfl (cnt_i hN)).mp q (by rw [nI_toInt (by omega)]; omega)
theorem F_about {c : KC} {i : Nat} (hi : i < 12) : ∀ cv, QR cv c → QR (k_X5_about cv (nI i)).2.2 c ∧ aX (k_X5_about cv (nI i)) = c.1 i := fun cv h => ⟨(Q_about h _).1, (Q_about h _).2.trans (by
  unfold a_about
  rw [if_neg ((by decide +kernel : ∀ i, i < 12 → ¬ k_X6_in ((nI i).toInt64) 0 11 = 0) i hi), nI_clamp (by omega)])⟩
theorem F_about_x {c : KC} {w : Int32} (h9 : ¬ (0 ≤ w.toInt ∧ w.toInt ≤ 11)) : ∀ cv, QR cv c → QR (k_X5_about cv w).2.2 c ∧ aX (k_X5_about cv w) = -9999002 := fun cv h => ⟨(Q_about h _).1, (Q_about h _).2.trans (if_pos ((inx 0 11 rfl rfl).mpr h9))⟩
theorem F_peg {c : KC} {N k w : Nat} (h0 : c.1 0 = nI N) (hN : N ≤ 30) (hk : k < N) (hw : w < 4) : ∀ cv, QR cv c → QR (k_X5_pegOf cv (nI k) (nI w)).2.2 c ∧ aX (k_X5_pegOf cv (nI k) (nI w)) = c.1 (37 + 4 * k + w) := fun cv h => ⟨(Q_peg h _ _).1, (Q_peg h _ _).2.trans (by
  unfold a_peg
  rw [if_neg (isG_y h0 hN hk), if_neg ((by decide +kernel : ∀ i, i < 4 → ¬ k_X6_in ((nI i).toInt64) 0 3 = 0) w hw), pg (by omega) (by omega)])⟩
theorem F_peg_x {c : KC} {N : Nat} {k w : Int32} (h0 : c.1 0 = nI N) (hN : N ≤ 30) (hx : ¬ (0 ≤ k.toInt ∧ k.toInt < N)) : ∀ cv, QR cv c → QR (k_X5_pegOf cv k w).2.2 c ∧ aX (k_X5_pegOf cv k w) = -9999001 := fun cv h => ⟨(Q_peg h _ _).1, (Q_peg h _ _).2.trans (if_pos (isG_x h0 hN hx))⟩
theorem F_peg_a {c : KC} {N k : Nat} {w : Int32} (h0 : c.1 0 = nI N) (hN : N ≤ 30) (hk : k < N) (hw : ¬ (0 ≤ w.toInt ∧ w.toInt ≤ 3)) : ∀ cv, QR cv c → QR (k_X5_pegOf cv (nI k) w).2.2 c ∧ aX (k_X5_pegOf cv (nI k) w) = -9999002 := fun cv h => ⟨(Q_peg h _ _).1, (Q_peg h _ _).2.trans ((if_neg (isG_y h0 hN hk)).trans (if_pos ((inx 0 3 rfl rfl).mpr hw)))⟩
theorem F_order {c : KC} {M k w : Nat} (h0 : c.1 1 = nI M) (hM : M ≤ 12) (hk : k < M) (hw : w < 5) : ∀ cv, QR cv c → QR (k_X5_orderOf cv (nI k) (nI w)).2.2 c ∧ aX (k_X5_orderOf cv (nI k) (nI w)) = c.1 (157 + 5 * k + w) := fun cv h => ⟨(Q_order h _ _).1, (Q_order h _ _).2.trans (by
  unfold a_order
  rw [if_neg (isO_y h0 hM hk), if_neg ((by decide +kernel : ∀ i, i < 5 → ¬ k_X6_in ((nI i).toInt64) 0 4 = 0) w hw), od (by omega) (by omega)])⟩
theorem F_order_x {c : KC} {M : Nat} {k w : Int32} (h0 : c.1 1 = nI M) (hM : M ≤ 12) (hx : ¬ (0 ≤ k.toInt ∧ k.toInt < M)) : ∀ cv, QR cv c → QR (k_X5_orderOf cv k w).2.2 c ∧ aX (k_X5_orderOf cv k w) = -9999001 := fun cv h => ⟨(Q_order h _ _).1, (Q_order h _ _).2.trans (if_pos (isO_x h0 hM hx))⟩
theorem F_order_a {c : KC} {M k : Nat} {w : Int32} (h0 : c.1 1 = nI M) (hM : M ≤ 12) (hk : k < M) (hw : ¬ (0 ≤ w.toInt ∧ w.toInt ≤ 4)) : ∀ cv, QR cv c → QR (k_X5_orderOf cv (nI k) w).2.2 c ∧ aX (k_X5_orderOf cv (nI k) w) = -9999002 := fun cv h => ⟨(Q_order h _ _).1, (Q_order h _ _).2.trans ((if_neg (isO_y h0 hM hk)).trans (if_pos ((inx 0 4 rfl rfl).mpr hw)))⟩
theorem F_pipe {c : KC} {p w : Nat} (hp : p < 6) (hw : w < 5) : ∀ cv, QR cv c → QR (k_X5_pipeOf cv (nI p) (nI w)).2.2 c ∧ aX (k_X5_pipeOf cv (nI p) (nI w)) = v_pipe c.1 (nI p) (nI w) := fun cv h => ⟨(Q_pipe h _ _).1, (Q_pipe h _ _).2.trans ((if_neg (isP_y hp)).trans (if_neg ((by decide +kernel : ∀ i, i < 5 → ¬ k_X6_in ((nI i).toInt64) 0 4 = 0) w hw)))⟩
theorem F_pipe_x {c : KC} {k w : Int32} (hx : ¬ (0 ≤ k.toInt ∧ k.toInt ≤ 5)) : ∀ cv, QR cv c → QR (k_X5_pipeOf cv k w).2.2 c ∧ aX (k_X5_pipeOf cv k w) = -9999001 := fun cv h => ⟨(Q_pipe h _ _).1, (Q_pipe h _ _).2.trans (if_pos (isP_x hx))⟩
theorem F_pipe_a {c : KC} {p : Nat} {w : Int32} (hp : p < 6) (hw : ¬ (0 ≤ w.toInt ∧ w.toInt ≤ 4)) : ∀ cv, QR cv c → QR (k_X5_pipeOf cv (nI p) w).2.2 c ∧ aX (k_X5_pipeOf cv (nI p) w) = -9999002 := fun cv h => ⟨(Q_pipe h _ _).1, (Q_pipe h _ _).2.trans ((if_neg (isP_y hp)).trans (if_pos ((inx 0 4 rfl rfl).mpr hw)))⟩
theorem F_chord {c : KC} {b : Nat} (hb : b < 24) : ∀ cv, QR cv c → QR (k_X5_chord cv (nI b)).2.2 c ∧ aX (k_X5_chord cv (nI b)) = k_X6_chordAt c.1 (nI b) := fun cv h => ⟨(Q_chord h _).1, (Q_chord h _).2.trans (if_neg (isB_y hb))⟩
theorem F_chord_x {c : KC} {b : Int32} (hx : ¬ (0 ≤ b.toInt ∧ b.toInt ≤ 23)) : ∀ cv, QR cv c → QR (k_X5_chord cv b).2.2 c ∧ aX (k_X5_chord cv b) = -9999001 := fun cv h => ⟨(Q_chord h _).1, (Q_chord h _).2.trans (if_pos (isB_x hx))⟩
theorem F_cov {c : KC} {w : Nat} (hw : w < 2) : ∀ cv, QR cv c → QR (k_X5_covered cv (nI w)).2.2 c ∧ aX (k_X5_covered cv (nI w)) = nI (lenS c.1 (gA c.1 0)) := fun cv h => ⟨(Q_cov h _).1, (Q_cov h _).2.trans (if_neg (in01k w hw))⟩
theorem F_cov_x {c : KC} {w : Int32} (hx : ¬ (0 ≤ w.toInt ∧ w.toInt ≤ 1)) : ∀ cv, QR cv c → QR (k_X5_covered cv w).2.2 c ∧ aX (k_X5_covered cv w) = -9999002 := fun cv h => ⟨(Q_cov h _).1, (Q_cov h _).2.trans (if_pos ((inx 0 1 rfl rfl).mpr hx))⟩
theorem F_setting_x {c : KC} {w : Int32} (hx : ¬ (0 ≤ w.toInt ∧ w.toInt ≤ 2)) : ∀ cv, QR cv c → QR (k_X5_setting cv w).2.2 c ∧ aX (k_X5_setting cv w) = -9999002 := fun cv h => ⟨(Q_setting h _).1, (Q_setting h _).2.trans (if_pos ((inx 0 2 rfl rfl).mpr hx))⟩
theorem isS_x {w v : Int32} (h : ¬ ((w.toInt = 0 ∧ 0 ≤ v.toInt ∧ v.toInt ≤ 3) ∨ (w.toInt = 1 ∧ 0 ≤ v.toInt ∧ v.toInt ≤ 9) ∨ (w.toInt = 2 ∧ 0 ≤ v.toInt ∧ v.toInt ≤ 60))) : k_X6_isSetting w v = 0 := by
  rcases sS w v with ⟨-, q⟩ | ⟨-, -, a, b, hok, rfl, rfl⟩
  · exact q
  · refine absurd ?_ h
    unfold sOK at hok
    rw [nI_toInt (by omega), nI_toInt (by omega)]
    omega
-- ---------------------------------------------------------------- what is so of a row
/-- the pegs of a pipe, counted -/
def ctp (r : KR) (N p : Nat) : Nat := fb_ct (fun k => decide (gA r (37 + 4 * k) = p)) N
theorem pgs_L {r : KR} {N p : Nat} (h0 : r 0 = nI N) (hN : N ≤ 30) (hv : ∀ k, k < N → PV r k) (hp : p < 6) : ∀ n i, i ≤ N → N - i < n → pgs r (nI p) n (nI i) (nI (ctp r i p)) = nI (ctp r N p) := by
  intro n
  induction n with
  | zero => intro i h1 h2; omega
  | succ n ih =>
    intro i h1 h2
    rw [pgs, h0]
    by_cases hi : i = N
    · subst hi
      rw [if_pos (nI_le (Nat.le_refl _) (by omega))]
    rw [if_neg (nI_ge (by omega) (by omega)), show k_X6_peg r (nI i) 0 = r (37 + 4 * i + 0) from pg (k := i) (w := 0) (by omega) (by omega), Nat.add_zero, nI_1]
    obtain ⟨p1, p2, p3, p4, p5, p6, p7⟩ := hv i (by omega)
    have e : ctp r (i + 1) p = ctp r i p + (if decide (gA r (37 + 4 * i) = p) then 1 else 0) := fb_ct_succ _ _
    by_cases hg : gA r (37 + 4 * i) = p
    · rw [if_pos (by rw [p5, hg]), nI_1]
      rw [decide_eq_true hg, if_pos rfl] at e
      rw [← e]
      exact ih (i + 1) (by omega) (by omega)
    · rw [if_neg (fun q => hg ((nI_eq (by omega) (by omega)).mp (p5.symm.trans q))), Int32.add_zero]
      rw [decide_eq_false hg, if_neg (by simp)] at e
      have e : ctp r (i + 1) p = ctp r i p := e
      rw [← e]
      exact ih (i + 1) (by omega) (by omega)
theorem pgs_E {r : KR} {N p : Nat} (h0 : r 0 = nI N) (hN : N ≤ 30) (hv : ∀ k, k < N → PV r k) (hp : p < 6) : v_pipe r (nI p) (nI 0) = nI (ctp r N p) := (if_pos rfl).trans (pgs_L h0 hN hv hp 31 0 (by omega) (by omega))
theorem one_6 : ∀ x, x < 6 → fb_ct (fun p => decide (x = p)) 6 = 1 := by decide +kernel
theorem ctp_sum {r : KR} {N : Nat} (hv : ∀ k, k < N → PV r k) : fb_sm (fun p => ctp r N p) 6 = N := by
  have h1 := swp (fun p k => decide (gA r (37 + 4 * k) = p)) 6 N
  have h2 : fb_sm (fun k => fb_ct (fun p => decide (gA r (37 + 4 * k) = p)) 6) N = fb_sm (fun _ => 1) N := fb_sm_cong (fun k hk => one_6 _ (hv k hk).1)
  rw [fb_sm_const, Nat.mul_one] at h2
  exact h1.symm.trans h2
theorem vp_1 {r : KR} {N p : Nat} (h0 : r 0 = nI N) (hN : N ≤ 30) (hv : ∀ k, k < N → PV r k) (hp : p < 6) : v_pipe r (nI p) (nI 1) = nI (fb_ct (fun b => cvs r N p b) 24) := (if_neg (by decide)).trans ((if_pos rfl).trans (barsE h0 hN hv hp))
theorem vp_2 {r : KR} {N p cb : Nat} (h0 : r 0 = nI N) (hN : N ≤ 30) (hv : ∀ k, k < N → PV r k) (h3 : r 3 = nI cb) (hc : cb < 24) (hp : p < 6) : v_pipe r (nI p) (nI 2) = b2 (cvs r N p cb) := by
  refine (if_neg (by decide)).trans ((if_neg (by decide)).trans ((if_pos rfl).trans ?_))
  unfold k_X6_isOpen
  rw [h3, isC h0 hN hv hp hc]
  cases cvs r N p cb <;> rfl
theorem vp_3 {r : KR} {p : Nat} (hp : p < 6) : v_pipe r (nI p) (nI 3) = r (25 + p) := by
  refine (if_neg (by decide)).trans ((if_neg (by decide)).trans ((if_neg (by decide)).trans ((if_pos rfl).trans ?_)))
  rw [show (25 + nI p : Int32) = nI (25 + p) from nI_add 25 p, nI_clamp (by omega)]
theorem vp_4 {r : KR} {p : Nat} (hp : p < 6) : v_pipe r (nI p) (nI 4) = r (31 + p) := by
  refine (if_neg (by decide)).trans ((if_neg (by decide)).trans ((if_neg (by decide)).trans ((if_neg (by decide)).trans ?_)))
  rw [show (31 + nI p : Int32) = nI (31 + p) from nI_add 31 p, nI_clamp (by omega)]
/-- a chord's bits -/
theorem ch_b {o : OV} {r : KR} {N M b : Nat} (h : RC o r N M) (hb : b < 24) : ∀ j, j < 32 → bt (k_X6_chordAt r (nI b)) j = (decide (j < 6) && cvs r N j b) := (chE h.1.1.1 h.1.1.2.1 h.1.2.2.2.1 h.1.2.2.2.2.2.1 hb).2
theorem ch_p {o : OV} {r : KR} {N M b p : Nat} (h : RC o r N M) (hb : b < 24) (hp : p < 6) : (k_X6_chordAt r (nI b) >>> (nI p &&& 31)) &&& 1 = b2 (cvs r N p b) := by
  rw [shr_1 hp, ch_b h hb p (by omega), decide_eq_true hp, Bool.true_and]
  rfl
theorem ch_n {o : OV} {r : KR} {N M b : Nat} (h : RC o r N M) (hb : b < 24) : k_X6_bits (k_X6_chordAt r (nI b)) = nI (ctb r b) := by
  unfold ctb
  rw [RF_gN h]
  exact bitsE (ch_b h hb)
theorem ctb_sum {r : KR} {o : OV} {N M : Nat} (h : RC o r N M) : fb_sm (fun b => ctb r b) 24 = lenS r N := by
  unfold ctb lenS
  rw [RF_gN h]
  exact swp (fun p b => cvs r N p b) 6 24
theorem tkn_S {r : KR} {N p b n : Nat} : tkn r N p b (n + 1) = (tkn r N p b n || cvs r N p ((b + n) % 24)) := by
  unfold tkn
  rw [List.range_succ, List.any_append]
  simp
/-- versions: the number of pegs is not beyond -/
theorem LV_k {s : KR} {N V : Nat} (h : LV s N V) : ∀ k, k < N → k + 1 ≤ gA s (37 + 4 * k + 3) := by
  intro k
  induction k with
  | zero => exact fun hk => (h.1 0 hk).2.1
  | succ k ih =>
    intro hk
    have := ih (by omega)
    have := h.2 k (k + 1) (by omega) hk
    omega
theorem LV_N {s : KR} {N V : Nat} (h : LV s N V) : N ≤ V := by
  by_cases hN : N = 0
  · omega
  · have a := LV_k h (N - 1) (by omega)
    have b := (h.1 (N - 1) (by omega)).2.2
    omega
-- ---------------------------------------------------------------- answers that are told by what they must be: there is one
theorem R_room {cv0 : CV} {c : KC} (h0 : QR cv0 c) {p n : Nat} (hp : p < 6) (hn1 : 1 ≤ n) (hn2 : n < 7) : ∃ a, P_room c.1 p n a ∧ ∀ cv, QR cv c → QR (k_X5_room cv (nI p) (nI n)).2.2 c ∧ aX (k_X5_room cv (nI p) (nI n)) = a := by
  refine ⟨_, (Q_room h0 hp hn1 hn2).2, fun cv h => ⟨(Q_room h hp hn1 hn2).1, ?_⟩⟩
  have x := (Q_room h hp hn1 hn2).2
  have y := (Q_room h0 hp hn1 hn2).2
  rcases x with ⟨b, b1, b2, b3, b4⟩ | ⟨b1, b2⟩
  · rcases y with ⟨d, d1, d2, d3, d4⟩ | ⟨d1, d2⟩
    · have : b = d := by
        rcases Nat.lt_trichotomy b d with q | q | q
        · have := d4 b q; rw [b3] at this; cases this
        · exact q
        · have := b4 d q; rw [d3] at this; cases this
      rw [b2, d2, this]
    · have := d2 b b1; rw [b3] at this; cases this
  · rcases y with ⟨d, d1, d2, d3, d4⟩ | ⟨d1, d2⟩
    · have := b2 d d1; rw [d3] at this; cases this
    · rw [b1, d1]
theorem R_sounds {cv0 : CV} {c : KC} (h0 : QR cv0 c) {p : Nat} (hp : p < 6) : ∃ a, P_snd c.1 p a ∧ ∀ cv, QR cv c → QR (k_X5_soundsIn cv (nI p)).2.2 c ∧ aX (k_X5_soundsIn cv (nI p)) = a := by
  refine ⟨_, (Q_sounds h0 hp).2, fun cv h => ⟨(Q_sounds h hp).1, ?_⟩⟩
  have x := (Q_sounds h hp).2
  have y := (Q_sounds h0 hp).2
  rcases x with ⟨b, b0, b1, b2, b3, b4⟩ | ⟨b1, b2⟩
  · rcases y with ⟨d, d0, d1, d2, d3, d4⟩ | ⟨d1, d2⟩
    · have : b = d := by
        rcases Nat.lt_trichotomy b d with q | q | q
        · exact absurd b3 (d4 b b0 q)
        · exact q
        · exact absurd d3 (b4 d d0 q)
      rw [b2, d2, this]
    · exact absurd b3 (d2 b b0 b1)
  · rcases y with ⟨d, d0, d1, d2, d3, d4⟩ | ⟨d1, d2⟩
    · exact absurd d3 (b2 d d0 d1)
    · rw [b1, d1]
theorem R_done {cv0 : CV} {c : KC} (h0 : QR cv0 c) (hM : c.1 1 = nI 1) : ∃ a, P_done c.1 a ∧ ∀ cv, QR cv c → QR (k_X5_doneIn cv 0).2.2 c ∧ aX (k_X5_doneIn cv 0) = a := by
  refine ⟨_, (Q_done h0 hM).2, fun cv h => ⟨(Q_done h hM).1, ?_⟩⟩
  have x := (Q_done h hM).2
  have y := (Q_done h0 hM).2
  rcases x with ⟨b, b0, b1, b2, b3, b4⟩ | ⟨b1, b2⟩
  · rcases y with ⟨d, d0, d1, d2, d3, d4⟩ | ⟨d1, d2⟩
    · have : b = d := by
        rcases Nat.lt_trichotomy b d with q | q | q
        · exact absurd b3 (d4 b b0 q)
        · exact q
        · exact absurd d3 (b4 d d0 q)
      rw [b2, d2, this]
    · exact absurd b3 (d2 b b0 b1)
  · rcases y with ⟨d, d0, d1, d2, d3, d4⟩ | ⟨d1, d2⟩
    · exact absurd d3 (b2 d d0 d1)
    · rw [b1, d1]
theorem R_least {cv0 : CV} {c : KC} (h0 : QR cv0 c) {v : Nat} (h1 : 1 ≤ v) (h2 : v ≤ 99) : ∃ a, P_least c.1 v a ∧ ∀ cv, QR cv c → QR (k_X5_leastSpeed cv (nI v)).2.2 c ∧ aX (k_X5_leastSpeed cv (nI v)) = a := by
  refine ⟨_, (Q_least h0 h1 h2).2, fun cv h => ⟨(Q_least h h1 h2).1, ?_⟩⟩
  have x := (Q_least h h1 h2).2
  have y := (Q_least h0 h1 h2).2
  rcases x with ⟨b, b1, b2, b3, b4⟩ | ⟨b1, b2⟩
  · rcases y with ⟨d, d1, d2, d3, d4⟩ | ⟨d1, d2⟩
    · have : b = d := by
        rcases Nat.lt_trichotomy b d with q | q | q
        · exact absurd b3 (d4 b q)
        · exact q
        · exact absurd d3 (b4 d q)
      rw [b2, d2, this]
    · exact absurd b3 (d2 b b1)
  · rcases y with ⟨d, d1, d2, d3, d4⟩ | ⟨d1, d2⟩
    · exact absurd d3 (b2 d d1)
    · rw [b1, d1]
theorem R_full {cv0 : CV} {c : KC} (h0 : QR cv0 c) : ∃ a, P_full c.1 a ∧ ∀ cv, QR cv c → k_X5_fullest cv = nI a := by
  obtain ⟨a, a1, a2⟩ := Q_full h0
  refine ⟨a, a1, fun cv h => ?_⟩
  obtain ⟨b, b1, b2⟩ := Q_full h
  have x := a1.2 b b1.1
  have y := b1.2 a a1.1
  have : a = b := by omega
  rw [b2, this]
