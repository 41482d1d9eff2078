/-! p29: bits, thrown, isFree. -/
abbrev RM_bits : Room := { frames := 0, cells := 0, slots := 0, locals := 0 }
def pbs (x : Int32) : Nat → Int32
  | 0 => 0
  | j + 1 => pbs x j + ((x >>> (nI j &&& 31)) &&& 1)
theorem pbs_L (x : Int32) : ∀ n i, i ≤ 6 → 6 - i < n → k_X6_bits_L4 x n (nI i) (pbs x i) = pbs x 6 := by
  intro n
  induction n with
  | zero => intro i h1 h2; omega
  | succ n ih =>
    intro i h1 h2
    rw [k_X6_bits_L4]
    by_cases hi : i = 6
    · subst hi
      rw [if_pos (by decide)]
    · rw [if_neg (show ¬ (6 : Int32) ≤ nI i from nI_ge (a := i) (b := 6) (by omega) (by omega)), nI_1]
      exact ih (i + 1) (by omega) (by omega)
theorem pbs_E (x : Int32) : pbs x 6 = k_X6_bits x := (pbs_L x 7 0 (by omega) (by omega)).symm
theorem nI_nn2 {n : Nat} {k : Int32} (h : n < 2 ^ 31) (hk : k.toInt < 0) : ¬ nI n = k := fun q => by
  have := congrArg Int32.toInt q
  rw [nI_toInt h] at this
  omega
set_option maxHeartbeats 4000000 in
set_option maxRecDepth 100000 in
theorem bits_w {p : Program} {l : Launch} {e : Env} {s : State} {m : MethodId} {args : Array Value} {below : List Frame} {meth : Method} {c : Code} {D : va_G} {cs : Nat → ClassId} {A : Nat → Prop} {Q : State → Prop} {x : Int32} (hE : kE p s m args meth c D cs yL_bits wsL_bits cL_bits 3 (some .int) A) (kr : ∀ (lv : List (Nat × Value)) (pc cells slots : Nat), cells ≤ 0 → slots ≤ 0 → decode cL_bits pc = .ok (.ireturn, 1) → KX p l e RM_bits s m args below meth c D A 3 Q (fun _ : Unit => True) (fun _ : Unit => ([] : va_W)) lv [.int (pbs x 6)] pc cells slots) : KX p l e RM_bits s m args below meth c D A 3 Q (fun _ : Unit => True) (fun _ : Unit => ([] : va_W)) [(0, .int x)] [] 0 0 0 := by
  obtain ⟨hx, hb, hr, hlocks, hml, hown, hts, hK, hA, hG, hnm⟩ := id hE
  have hown : s.vm.findClass RL = some m.cls := hown
  have L : ∀ n j, j + n = 6 → KX p l e RM_bits s m args below meth c D A 3 Q (fun _ : Unit => True) (fun _ : Unit => ([] : va_W)) [(2, .int (nI j)), (1, .int (pbs x j)), (0, .int x)] [] 4 0 0 := by
    intro n
    induction n with
    | zero =>
      intro j hj
      have hj : j = 6 := by omega
      subst hj
      refine KX_step (fun H locs ls hl => lv_iload_n hx hb dL_bits_4 rfl (lv_at hl 0 rfl)) ?_
      refine KX_step (fun H locs ls hl => lv_bipush (v := 6) hx hb dL_bits_5 (by decide)) ?_
      refine KX_if (fun H locs ls hl => lv_icmp_ge (tgt := 24) hx hb dL_bits_7 (by decide)) (fun _ => ?_) (fun q => absurd (by decide) q)
      refine KX_step (fun H locs ls hl => lv_iload_n hx hb dL_bits_24 rfl (lv_at hl 1 rfl)) ?_
      exact kr _ _ _ _ (Nat.le_of_ble_eq_true rfl) (Nat.le_of_ble_eq_true rfl) dL_bits_25
    | succ n ih =>
      intro j hj
      refine KX_step (fun H locs ls hl => lv_iload_n hx hb dL_bits_4 rfl (lv_at hl 0 rfl)) ?_
      refine KX_step (fun H locs ls hl => lv_bipush (v := 6) hx hb dL_bits_5 (by decide)) ?_
      refine KX_if (fun H locs ls hl => lv_icmp_ge (tgt := 24) hx hb dL_bits_7 (by decide)) (fun q => absurd q (nI_ge (b := 6) (by omega) (by omega))) (fun _ => ?_)
      refine KX_step (fun H locs ls hl => lv_iload_n hx hb dL_bits_10 rfl (lv_at hl 1 rfl)) ?_
      refine KX_step (fun H locs ls hl => lv_iload_n hx hb dL_bits_11 rfl (lv_at hl 2 rfl)) ?_
      refine KX_step (fun H locs ls hl => lv_iload_n hx hb dL_bits_12 rfl (lv_at hl 0 rfl)) ?_
      refine KX_step (fun H locs ls hl => lv_ishr hx hb dL_bits_13) ?_
      refine KX_step (fun H locs ls hl => lv_iconst (v := 1) hx hb dL_bits_14 (by decide)) ?_
      refine KX_step (fun H locs ls hl => lv_iand hx hb dL_bits_15) ?_
      refine KX_step (st1 := [.int (pbs x (j + 1))]) (fun H locs ls hl K => lv_iadd hx hb dL_bits_16 (by rw [show ((pbs x j) + ((x >>> ((nI j) &&& 31)) &&& 1) : Int32) = (pbs x (j + 1)) from rfl]; exact K)) ?_
      refine KX_store (lv1 := [(1, .int (pbs x (j + 1))), (2, .int (nI j)), (0, .int x)]) (fun H locs ls hl K => lv_istore_n hx hb dL_bits_17 rfl hl (by decide) rfl K) ?_
      refine KX_store (lv1 := [(2, .int (nI (j + 1))), (1, .int (pbs x (j + 1))), (0, .int x)]) (fun H locs ls hl K => lv_iinc (k := 1) (lv' := [(2, .int (nI (j + 1))), (1, .int (pbs x (j + 1))), (0, .int x)]) hx hb dL_bits_18 hl rfl (nI_1 _) (by decide) rfl K) ?_
      refine KX_step (fun H locs ls hl => lv_goto (tgt := 4) hx hb dL_bits_21 (by decide)) ?_
      refine KX_sub (lv1 := [(2, .int (nI (j + 1))), (1, .int (pbs x (j + 1))), (0, .int x)]) [0, 1, 2] rfl ?_
      exact ih (j + 1) (by omega)
  refine KX_step (fun H locs ls hl => lv_iconst (v := 0) hx hb dL_bits_0 (by decide)) ?_
  refine KX_store (lv1 := [(1, .int 0), (0, .int x)]) (fun H locs ls hl K => lv_istore_n hx hb dL_bits_1 rfl hl (by decide) rfl K) ?_
  refine KX_step (fun H locs ls hl => lv_iconst (v := 0) hx hb dL_bits_2 (by decide)) ?_
  refine KX_store (lv1 := [(2, .int 0), (1, .int 0), (0, .int x)]) (fun H locs ls hl K => lv_istore_n hx hb dL_bits_3 rfl hl (by decide) rfl K) ?_
  refine KX_sub (lv1 := [(2, .int 0), (1, .int 0), (0, .int x)]) [0, 1, 2] rfl ?_
  exact L 6 0 rfl
theorem c_bits (l : Launch) (D : va_G) (cs : Nat → ClassId) (x : Int32) : kQ l yL_bits wsL_bits RM_bits 0 0 D cs [.int x] [] (k_X6_bits x) (fun _ : Unit => True) (fun _ => []) := by
  rw [← pbs_E]
  exact kQ_of (U := Unit) (Φ := fun _ => True) (wc := fun _ => []) (cc := cL_bits) (maxL := 3) (ret := some .int) (by decide) rfl (Nat.le_of_ble_eq_true rfl) (fun p e s m below meth c A hE => bits_w hE (fun lv pc cells slots h1 h2 hd => KX_ret hE rfl rfl (fun u hu => ⟨u, hu, List.Perm.refl _⟩) h1 h2 hd)) () trivial
abbrev RM_thrown : Room := { frames := 0, cells := 0, slots := 0, locals := 0 }
set_option maxHeartbeats 4000000 in
set_option maxRecDepth 100000 in
theorem thrown_w {p : Program} {l : Launch} {e : Env} {s : State} {m : MethodId} {args : Array Value} {below : List Frame} {meth : Method} {c : Code} {D : va_G} {cs : Nat → ClassId} {A : Nat → Prop} {Q : State → Prop} {n : Nat} (hn : n < 2 ^ 31) (hE : kE p s m args meth c D cs yL_thrown wsL_thrown cL_thrown 1 (some .boolean) A) (kr : ∀ (lv : List (Nat × Value)) (pc cells slots : Nat), cells ≤ 0 → slots ≤ 0 → decode cL_thrown pc = .ok (.ireturn, 1) → KX p l e RM_thrown s m args below meth c D A 1 Q (fun _ : Unit => True) (fun _ : Unit => ([] : va_W)) lv [.int 0] pc cells slots) : KX p l e RM_thrown s m args below meth c D A 1 Q (fun _ : Unit => True) (fun _ : Unit => ([] : va_W)) [(0, .int (nI n))] [] 0 0 0 := by
  obtain ⟨hx, hb, hr, hlocks, hml, hown, hts, hK, hA, hG, hnm⟩ := id hE
  have hown : s.vm.findClass RL = some m.cls := hown
  refine KX_step (fun H locs ls hl => lv_iload_n hx hb dL_thrown_0 rfl (lv_at hl 0 rfl)) ?_
  refine KX_step (fun H locs ls hl => lv_ldc (v := (-9999001)) hx hb hown (hts (.constant RL 40 (-9999001)) (by decide +kernel)) dL_thrown_1) ?_
  refine KX_if (fun H locs ls hl => lv_icmp_eq (tgt := 18) hx hb dL_thrown_3 (by decide)) (fun q => absurd q (nI_nn2 hn (by decide))) (fun _ => ?_)
  refine KX_step (fun H locs ls hl => lv_iload_n hx hb dL_thrown_6 rfl (lv_at hl 0 rfl)) ?_
  refine KX_step (fun H locs ls hl => lv_ldc (v := (-9999002)) hx hb hown (hts (.constant RL 15 (-9999002)) (by decide +kernel)) dL_thrown_7) ?_
  refine KX_if (fun H locs ls hl => lv_icmp_eq (tgt := 18) hx hb dL_thrown_9 (by decide)) (fun q => absurd q (nI_nn2 hn (by decide))) (fun _ => ?_)
  refine KX_step (fun H locs ls hl => lv_iload_n hx hb dL_thrown_12 rfl (lv_at hl 0 rfl)) ?_
  refine KX_step (fun H locs ls hl => lv_ldc (v := (-9999003)) hx hb hown (hts (.constant RL 26 (-9999003)) (by decide +kernel)) dL_thrown_13) ?_
  refine KX_if (fun H locs ls hl => lv_icmp_ne (tgt := 22) hx hb dL_thrown_15 (by decide)) (fun _ => ?_) (fun q => absurd q (nI_nn2 hn (by decide)))
  refine KX_step (fun H locs ls hl => lv_iconst (v := 0) hx hb dL_thrown_22 (by decide)) ?_
  exact kr _ _ _ _ (Nat.le_of_ble_eq_true rfl) (Nat.le_of_ble_eq_true rfl) dL_thrown_23
theorem c_thrown (l : Launch) (D : va_G) (cs : Nat → ClassId) {n : Nat} (hn : n < 2 ^ 31) : kQ l yL_thrown wsL_thrown RM_thrown 0 0 D cs [.int (nI n)] [] 0 (fun _ : Unit => True) (fun _ => []) :=
  kQ_of (U := Unit) (Φ := fun _ => True) (wc := fun _ => []) (cc := cL_thrown) (maxL := 1) (ret := some .boolean) (by decide) rfl (Nat.le_of_ble_eq_true rfl) (fun p e s m below meth c A hE => thrown_w hn hE (fun lv pc cells slots h1 h2 hd => KX_ret hE rfl rfl (fun u hu => ⟨u, hu, List.Perm.refl _⟩) h1 h2 hd)) () trivial
abbrev RM_isFree : Room := { frames := 9, cells := 6, slots := 36, locals := 149 }
set_option maxHeartbeats 4000000 in
set_option maxRecDepth 100000 in
theorem isFree_w {p : Program} {l : Launch} {e : Env} {s : State} {m : MethodId} {args : Array Value} {below : List Frame} {meth : Method} {c : Code} {D : va_G} {cs : Nat → ClassId} {A : Nat → Prop} {Q : State → Prop} {ca : Nat → Nat → Nat} (hfl : l.stackTraces = false) {k : KC} {o : OV} {N M q b n : Nat} (hRC : RC o k.1 N M) (hq : q < 6) (hb9 : b < 24) (hn : n ≤ 6) (hE : kE p s m args meth c D cs yL_isFree wsN_isFree cL_isFree 6 (some .boolean) A) (kr : ∀ (lv : List (Nat × Value)) (pc cells slots : Nat), cells ≤ 6 → slots ≤ 36 → decode cL_isFree pc = .ok (.ireturn, 1) → KX p l e RM_isFree s m args below meth c D A 6 Q (f_1 k) (w_1 cs ca) lv [.int (b2 (!tkn k.1 N q b n))] pc cells slots) : KX p l e RM_isFree s m args below meth c D A 6 Q (f_1 k) (w_1 cs ca) [(0, .ref (ca 0 0)), (1, .int (nI q)), (2, .int (nI b)), (3, .int (nI n))] [] 0 0 0 := by
  obtain ⟨hx, hb, hr, hlocks, hml, hown, hts, hK, hA, hG, hnm⟩ := id hE
  have hown : s.vm.findClass RL = some m.cls := hown
  have L : ∀ i j, j + i = n → KX p l e RM_isFree s m args below meth c D A 6 Q (f_1 k) (w_1 cs ca) [(5, .int (nI j)), (4, .int (b2 (!tkn k.1 N q b j))), (0, .ref (ca 0 0)), (1, .int (nI q)), (2, .int (nI b)), (3, .int (nI n))] [] 6 j (6 * j) := by
    intro i
    induction i with
    | zero =>
      intro j hj
      have hj : j = n := by omega
      subst hj
      refine KX_step (fun H locs ls hl => lv_iload hx hb dL_isFree_6 (lv_at hl 0 rfl)) ?_
      refine KX_step (fun H locs ls hl => lv_iload_n hx hb dL_isFree_8 rfl (lv_at hl 5 rfl)) ?_
      refine KX_if (fun H locs ls hl => lv_icmp_ge (tgt := 52) hx hb dL_isFree_9 (by decide)) (fun _ => ?_) (fun q => absurd (nI_le (Nat.le_refl _) (by omega)) q)
      refine KX_step (fun H locs ls hl => lv_iload hx hb dL_isFree_52 (lv_at hl 1 rfl)) ?_
      exact kr _ _ _ _ (by omega) (by omega) dL_isFree_54
    | succ i ih =>
      intro j hj
      refine KX_step (fun H locs ls hl => lv_iload hx hb dL_isFree_6 (lv_at hl 0 rfl)) ?_
      refine KX_step (fun H locs ls hl => lv_iload_n hx hb dL_isFree_8 rfl (lv_at hl 5 rfl)) ?_
      refine KX_if (fun H locs ls hl => lv_icmp_ge (tgt := 52) hx hb dL_isFree_9 (by decide)) (fun q => absurd q (nI_ge (by omega) (by omega))) (fun _ => ?_)
      cases ht : tkn k.1 N q b j
      · refine KX_step (fun H locs ls hl => lv_iload hx hb dL_isFree_12 (lv_at hl 1 rfl)) ?_
        refine KX_if (fun H locs ls hl => lv_if_eq (tgt := 43) hx hb dL_isFree_14 (by decide)) (fun q => absurd q (by decide)) (fun _ => ?_)
        refine KX_step (fun H locs ls hl => lv_aload_n hx hb dL_isFree_17 rfl (lv_at hl 2 rfl)) ?_
        refine KX_step (fun H locs ls hl => lv_bipush (v := 6) hx hb dL_isFree_18 (by decide)) ?_
        refine KX_step (fun H locs ls hl => lv_iload_n hx hb dL_isFree_20 rfl (lv_at hl 4 rfl)) ?_
        refine KX_step (fun H locs ls hl => lv_iload hx hb dL_isFree_21 (lv_at hl 0 rfl)) ?_
        refine KX_step (st1 := [.int (nI (b + j)), .int 6, .ref (ca 0 0)]) (fun H locs ls hl K => lv_iadd hx hb dL_isFree_23 (by rw [show ((nI b) + (nI j) : Int32) = (nI (b + j)) from nI_add (b) (j)]; exact K)) ?_
        refine KX_step (fun H locs ls hl => lv_bipush (v := 24) hx hb dL_isFree_24 (by decide)) ?_
        refine KX_step (st1 := [.int (nI ((b + j) % 24)), .int 6, .ref (ca 0 0)]) (fun H locs ls hl K => lv_irem hx hb dL_isFree_26 (by decide) (by rw [show ((nI (b + j)) - (nI (b + j)) / 24 * 24 : Int32) = (nI ((b + j) % 24)) from nI_mod (a := b + j) (b := 24) (by omega) (by omega) (by omega)]; exact K)) ?_
        refine KX_step (fun H locs ls hl => lv_iconst (v := 0) hx hb dL_isFree_27 (by decide)) ?_
        refine KX_step (fun H locs ls hl => lv_iconst (v := 0) hx hb dL_isFree_28 (by decide)) ?_
        refine KX_call (cells2 := j + 1) (slots2 := 6 * j + 6) (st0 := [.int 0, .int 0, .int (nI ((b + j) % 24)), .int 6, .ref (ca 0 0)]) (rest := []) hE rfl (sp1 (q_call_6 l hfl D cs ca (nI ((b + j) % 24)) 0 0 (F_chord (b := (b + j) % 24) (by omega)))) (va_cwS 5 hts gN_isFree_L_call rfl rfl rfl (by decide +kernel) ⟨(Nat.le_of_ble_eq_true rfl), (Nat.le_of_ble_eq_true rfl)⟩) rfl rfl (Nat.le_of_ble_eq_true rfl) ⟨(show j + 1 ≤ 6 by omega), (show 6 * j + 6 ≤ 36 by omega)⟩ dL_isFree_29 (by omega) (by omega) ?_
        refine KX_step (fun H locs ls hl => lv_iload_n hx hb dL_isFree_32 rfl (lv_at hl 3 rfl)) ?_
        refine KX_step (fun H locs ls hl => lv_ishr hx hb dL_isFree_33) ?_
        refine KX_step (fun H locs ls hl => lv_iconst (v := 1) hx hb dL_isFree_34 (by decide)) ?_
        refine KX_step (st1 := [.int (b2 (cvs k.1 N q ((b + j) % 24)))]) (fun H locs ls hl K => lv_iand hx hb dL_isFree_35 (by rw [show (((k_X6_chordAt k.1 (nI ((b + j) % 24))) >>> ((nI q) &&& 31)) &&& 1 : Int32) = (b2 (cvs k.1 N q ((b + j) % 24))) from ch_p hRC (by omega) hq]; exact K)) ?_
        cases hv : cvs k.1 N q ((b + j) % 24)
        · refine KX_if (fun H locs ls hl => lv_if_ne (tgt := 43) hx hb dL_isFree_36 (by decide)) (fun q => absurd p00 q) (fun _ => ?_)
          refine KX_step (fun H locs ls hl => lv_iconst (v := 1) hx hb dL_isFree_39 (by decide)) ?_
          refine KX_step (fun H locs ls hl => lv_goto (tgt := 44) hx hb dL_isFree_40 (by decide)) ?_
          refine KX_store (lv1 := [(4, .int 1), (5, .int (nI j)), (0, .ref (ca 0 0)), (1, .int (nI q)), (2, .int (nI b)), (3, .int (nI n))]) (fun H locs ls hl K => lv_istore hx hb dL_isFree_44 hl (by decide) rfl K) ?_
          refine KX_store (lv1 := [(5, .int (nI (j + 1))), (4, .int 1), (0, .ref (ca 0 0)), (1, .int (nI q)), (2, .int (nI b)), (3, .int (nI n))]) (fun H locs ls hl K => lv_iinc (k := 1) (lv' := [(5, .int (nI (j + 1))), (4, .int 1), (0, .ref (ca 0 0)), (1, .int (nI q)), (2, .int (nI b)), (3, .int (nI n))]) hx hb dL_isFree_46 hl rfl (nI_1 _) (by decide) rfl K) ?_
          refine KX_step (fun H locs ls hl => lv_goto (tgt := 6) hx hb dL_isFree_49 (by decide)) ?_
          refine KX_sub (lv1 := [(5, .int (nI (j + 1))), (4, .int 1), (0, .ref (ca 0 0)), (1, .int (nI q)), (2, .int (nI b)), (3, .int (nI n))]) [0, 1, 2, 3, 4, 5] rfl ?_
          have := ih (j + 1) (by omega)
          rw [tkn_S, ht, hv] at this
          exact KX_wid (by omega) (by omega) this
        · refine KX_if (fun H locs ls hl => lv_if_ne (tgt := 43) hx hb dL_isFree_36 (by decide)) (fun _ => ?_) (fun q => absurd q n10)
          refine KX_step (fun H locs ls hl => lv_iconst (v := 0) hx hb dL_isFree_43 (by decide)) ?_
          refine KX_store (lv1 := [(4, .int 0), (5, .int (nI j)), (0, .ref (ca 0 0)), (1, .int (nI q)), (2, .int (nI b)), (3, .int (nI n))]) (fun H locs ls hl K => lv_istore hx hb dL_isFree_44 hl (by decide) rfl K) ?_
          refine KX_store (lv1 := [(5, .int (nI (j + 1))), (4, .int 0), (0, .ref (ca 0 0)), (1, .int (nI q)), (2, .int (nI b)), (3, .int (nI n))]) (fun H locs ls hl K => lv_iinc (k := 1) (lv' := [(5, .int (nI (j + 1))), (4, .int 0), (0, .ref (ca 0 0)), (1, .int (nI q)), (2, .int (nI b)), (3, .int (nI n))]) hx hb dL_isFree_46 hl rfl (nI_1 _) (by decide) rfl K) ?_
          refine KX_step (fun H locs ls hl => lv_goto (tgt := 6) hx hb dL_isFree_49 (by decide)) ?_
          refine KX_sub (lv1 := [(5, .int (nI (j + 1))), (4, .int 0), (0, .ref (ca 0 0)), (1, .int (nI q)), (2, .int (nI b)), (3, .int (nI n))]) [0, 1, 2, 3, 4, 5] rfl ?_
          have := ih (j + 1) (by omega)
          rw [tkn_S, ht, hv] at this
          exact KX_wid (by omega) (by omega) this
      · refine KX_step (fun H locs ls hl => lv_iload hx hb dL_isFree_12 (lv_at hl 1 rfl)) ?_
        refine KX_if (fun H locs ls hl => lv_if_eq (tgt := 43) hx hb dL_isFree_14 (by decide)) (fun _ => ?_) (fun q => absurd (by decide) q)
        refine KX_step (fun H locs ls hl => lv_iconst (v := 0) hx hb dL_isFree_43 (by decide)) ?_
        refine KX_store (lv1 := [(4, .int 0), (5, .int (nI j)), (0, .ref (ca 0 0)), (1, .int (nI q)), (2, .int (nI b)), (3, .int (nI n))]) (fun H locs ls hl K => lv_istore hx hb dL_isFree_44 hl (by decide) rfl K) ?_
        refine KX_store (lv1 := [(5, .int (nI (j + 1))), (4, .int 0), (0, .ref (ca 0 0)), (1, .int (nI q)), (2, .int (nI b)), (3, .int (nI n))]) (fun H locs ls hl K => lv_iinc (k := 1) (lv' := [(5, .int (nI (j + 1))), (4, .int 0), (0, .ref (ca 0 0)), (1, .int (nI q)), (2, .int (nI b)), (3, .int (nI n))]) hx hb dL_isFree_46 hl rfl (nI_1 _) (by decide) rfl K) ?_
        refine KX_step (fun H locs ls hl => lv_goto (tgt := 6) hx hb dL_isFree_49 (by decide)) ?_
        refine KX_sub (lv1 := [(5, .int (nI (j + 1))), (4, .int 0), (0, .ref (ca 0 0)), (1, .int (nI q)), (2, .int (nI b)), (3, .int (nI n))]) [0, 1, 2, 3, 4, 5] rfl ?_
        have := ih (j + 1) (by omega)
        rw [tkn_S, ht] at this
        exact KX_wid (by omega) (by omega) this
  refine KX_step (fun H locs ls hl => lv_iconst (v := 1) hx hb dL_isFree_0 (by decide)) ?_
  refine KX_store (lv1 := [(4, .int 1), (0, .ref (ca 0 0)), (1, .int (nI q)), (2, .int (nI b)), (3, .int (nI n))]) (fun H locs ls hl K => lv_istore hx hb dL_isFree_1 hl (by decide) rfl K) ?_
  refine KX_step (fun H locs ls hl => lv_iconst (v := 0) hx hb dL_isFree_3 (by decide)) ?_
  refine KX_store (lv1 := [(5, .int 0), (4, .int 1), (0, .ref (ca 0 0)), (1, .int (nI q)), (2, .int (nI b)), (3, .int (nI n))]) (fun H locs ls hl K => lv_istore hx hb dL_isFree_4 hl (by decide) rfl K) ?_
  refine KX_sub (lv1 := [(5, .int 0), (4, .int 1), (0, .ref (ca 0 0)), (1, .int (nI q)), (2, .int (nI b)), (3, .int (nI n))]) [0, 1, 2, 3, 4, 5] rfl ?_
  exact L n 0 (by omega)
theorem c_isFree (l : Launch) (hfl : l.stackTraces = false) (D : va_G) (cs : Nat → ClassId) (ca : Nat → Nat → Nat) {k : KC} {o : OV} {N M q b n : Nat} (hRC : RC o k.1 N M) (hq : q < 6) (hb9 : b < 24) (hn : n ≤ 6) : k1 l yL_isFree wsN_isFree RM_isFree 6 36 D cs ca [.ref (ca 0 0), .int (nI q), .int (nI b), .int (nI n)] (b2 (!tkn k.1 N q b n)) k k :=
  kQ_of (U := CV) (cc := cL_isFree) (maxL := 6) (ret := some .boolean) (by decide) rfl (Nat.le_of_ble_eq_true rfl) (fun p e s m below meth c A hE => isFree_w hfl hRC hq hb9 hn hE (fun lv pc cells slots h1 h2 hd => KX_ret hE (by cases (tkn k.1 N q b n) <;> rfl) rfl (fun u hu => ⟨u, hu, List.Perm.refl _⟩) h1 h2 hd))
