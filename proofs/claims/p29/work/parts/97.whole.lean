/-! The law, from its entry. -/
def core0 (S : KR) : KC := (S, (0, fun _ => S), fun _ => 0, fun _ => S)
theorem first_Qg {S : KR} {mv : MV} (h : TRel c00 mv) (h0 : mv.1 1 = 0) (h1 : mv.2 1 = S) (h2 : mv.1 2 = nI 0) (h5 : ∀ i, mv.2 5 i = 0) : QR c00 (core0 S) := TR_nm h h0 (fun i _ => by rw [h1]; rfl) h2 (Nat.zero_le _) (fun j hj => absurd hj (Nat.not_lt_zero j)) (fun i _ => (h5 i).symm) (fun i _ h => absurd ((h5 i).symm.trans h) (by decide))
theorem first_CIg {S : KR} (h : EI 0 S) : CI 0 (core0 S) := ⟨h, fun j hj => absurd hj (Nat.not_lt_zero j), fun i _ h => absurd (show (0 : Int32) = 1 from h) (by decide)⟩
theorem first_Q : QR c00 (core0 s00) := first_Qg first_T rfl mv_1 rfl (fun i => rfl)
theorem first_CI : CI (12 * 0) (core0 s00) := first_CIg EI_0
set_option maxHeartbeats 4000000 in
set_option maxRecDepth 100000 in
theorem whole_start {p : Program} {e : Env} {s : State} {m : MethodId} {below : List Frame} {meth : Method} {c : Code} (l : Launch) (hflags : l.flags = flags0) {b L : Nat} {xs : Nat → Int32} (hL : L ≤ 260) (C0 : lw_At p s m meth c b L xs) : W p l e room_1 s m #[Value.ref b] below meth c s.heap [] 0 0 (lw_Z below #[Value.ref b] s) (entryFrame m ([Value.ref b] : List Value).toArray 8) := by
  obtain ⟨hx, hb, hr, hml, hown, hts, hXs, hbl, hlocks, hgv⟩ := C0
  have hb : c.code = cL_law := hb
  have hown : s.vm.findClass RL = some m.cls := hown
  have hX := start_XA hts hgv
  obtain ⟨D, cs, hK⟩ := start_K hts hX.1 it_wsX00 it_wsX10 it_wsX20 it_wsX30 it_wsX40 it_wsX50
  have hG : Gl (lwA s) s s.heap := ⟨start_Gv hts, start_Gh hts hgv⟩
  have hA : ∀ q : Nat, s.heap.size ≤ q → lwA s q := fun _ h => h
  have hE : kE p s m #[Value.ref b] meth c D cs ⟨RL, meth.name, ""⟩ lw_tbl cL_law 8 ret (lwA s) := ⟨hx, hb, hr, hlocks, hml, hown, hts, hK, hA, hG, rfl⟩
  have hfl : l.stackTraces = false := by
    unfold Launch.stackTraces
    rw [hflags]
    decide
  have hS : va_S (lwA s) s.heap s.heap [] := va_S.rf
  have hP : va_P D vwCl [] s.heap := fun k q h => by simp at h
  have hD : va_D (lwA s) [] := ⟨fun i j p q h => by simp at h, fun k q h => by simp at h⟩
  have hl := lv_entry ([.ref b]) (n := 8) (Nat.le_of_ble_eq_true rfl)
  rw [lg_entry_eq]
  generalize (lg_sl ([.ref b]) ++ List.replicate (8 - (lg_sl ([.ref b])).length) Slot.unset).toArray = ls at hl ⊢
  have hl : lv_has ls 8 [(0, .ref b)] := hl
  refine va_new (ci := 5) (fs := [.null, .null, .null, .null, .null, .null]) (C := RX5) (T := TX5) (N := 6) hx hb hts it_wsX50 tyX5 tyX5_ok hown (hts (.classLink RL 8 RX5) (tbl_in _ (by decide +kernel))) (hts (.instantiable RX5 6) (tbl_in _ (by decide +kernel))) (hts (.initialized RX5) (tbl_in _ (by decide +kernel))) hK hP hD hS hA rfl (fun j hj => by rcases (show j = 0 ∨ j = 1 ∨ j = 2 ∨ j = 3 ∨ j = 4 ∨ j = 5 by omega) with rfl | rfl | rfl | rfl | rfl | rfl <;> rfl) (Nat.le_of_ble_eq_true rfl) (Nat.le_of_ble_eq_true rfl) dL_law_0 (fun q0 H hP hD hS => ?_)
  have hP : va_P D vwCl ([(q0, .inr (5, [.null, .null, .null, .null, .null, .null]))] ++ []) H := hP
  have hD : va_D (lwA s) ([(q0, .inr (5, [.null, .null, .null, .null, .null, .null]))] ++ []) := hD
  refine lv_dup hx hb dL_law_3 rfl ?_
  refine kV_call (S := Nat → Nat → Nat) (ps := fun ca => ca 0 0 = q0) (wc := [(q0, .inr (5, [.null, .null, .null, .null, .null, .null]))]) (wr := []) (w1 := fun ca => ca_W cs ca c00) hE hP hD hS (k_rIO (own := RL) (rest := [.ref q0]) (As := []) hE hX.1 rfl (c_X5_init l D cs q0 H.size) (cwI 0 hts gN_law_X5_init rfl rfl rfl (hts (.initialized RX5) (tbl_in _ (by decide +kernel))) (hts (.methodLink RL 188 yX5_init) (tbl_in _ (by decide +kernel))) (hts (.instanceMethod yX5_init) (tbl_in _ (by decide +kernel))) rfl (by decide +kernel) ⟨(Nat.le_of_ble_eq_true rfl), (Nat.le_of_ble_eq_true rfl)⟩) hP hD hS rfl hl rfl (Nat.le_of_ble_eq_true rfl) ⟨(Nat.le_of_ble_eq_true rfl), (Nat.le_of_ble_eq_true rfl)⟩ dL_law_4) (fun ca H locs hca hP hD hS => ?_)
  rw [← hca]
  have hP := k_uP hP
  have hD := k_uD hD
  refine lv_astore_n (lv' := [(1, .ref (ca 0 0)), (0, .ref b)]) hx hb dL_law_7 rfl hl (by decide) rfl (fun ls hl => ?_)
  refine va_new (ci := 5) (fs := [.null, .null, .null, .null, .null, .null]) (C := RX5) (T := TX5) (N := 6) hx hb hts it_wsX50 tyX5 tyX5_ok hown (hts (.classLink RL 8 RX5) (tbl_in _ (by decide +kernel))) (hts (.instantiable RX5 6) (tbl_in _ (by decide +kernel))) (hts (.initialized RX5) (tbl_in _ (by decide +kernel))) hK hP hD hS hA rfl (fun j hj => by rcases (show j = 0 ∨ j = 1 ∨ j = 2 ∨ j = 3 ∨ j = 4 ∨ j = 5 by omega) with rfl | rfl | rfl | rfl | rfl | rfl <;> rfl) (Nat.le_of_ble_eq_true rfl) (Nat.le_of_ble_eq_true rfl) dL_law_8 (fun q8 H hP hD hS => ?_)
  have hP : va_P D vwCl ([(q8, .inr (5, [.null, .null, .null, .null, .null, .null]))] ++ ca_W cs ca c00) H := pmP List.perm_append_comm hP
  have hD : va_D (lwA s) ([(q8, .inr (5, [.null, .null, .null, .null, .null, .null]))] ++ ca_W cs ca c00) := pmD List.perm_append_comm hD
  refine lv_dup hx hb dL_law_11 rfl ?_
  refine kV_call (S := Nat → Nat → Nat) (ps := fun cb => cb 0 0 = q8) (wc := [(q8, .inr (5, [.null, .null, .null, .null, .null, .null]))]) (wr := ca_W cs ca c00) (w1 := fun cb => ca_W cs cb c00) hE hP hD hS (k_rIO (own := RL) (rest := [.ref q8]) (As := []) hE hX.1 rfl (c_X5_init l D cs q8 H.size) (cwI 0 hts gN_law_X5_init rfl rfl rfl (hts (.initialized RX5) (tbl_in _ (by decide +kernel))) (hts (.methodLink RL 188 yX5_init) (tbl_in _ (by decide +kernel))) (hts (.instanceMethod yX5_init) (tbl_in _ (by decide +kernel))) rfl (by decide +kernel) ⟨(Nat.le_of_ble_eq_true rfl), (Nat.le_of_ble_eq_true rfl)⟩) hP hD hS rfl hl rfl (Nat.le_of_ble_eq_true rfl) ⟨(Nat.le_of_ble_eq_true rfl), (Nat.le_of_ble_eq_true rfl)⟩ dL_law_12) (fun cb H locs hcb hP hD hS => ?_)
  rw [← hcb]
  refine lv_astore_n (lv' := [(2, .ref (cb 0 0)), (1, .ref (ca 0 0)), (0, .ref b)]) hx hb dL_law_15 rfl hl (by decide) rfl (fun ls hl => ?_)
  have kr : ∀ i, i ≤ 34 → ∀ (lv : List (Nat × Value)) (pc cells slots : Nat), cells ≤ 663680 → slots ≤ 7110428 → decode cL_law pc = .ok (.ireturn, 1) → KX p l e room_1 s m #[Value.ref b] below meth c D (lwA s) 8 (lw_Z below #[Value.ref b] s) (fun u : CV × CV => ∃ k, CI (12 * i) k ∧ f_2 k k u) (w_2 cs ca cb) lv [.int 1] pc cells slots := fun i _ lv pc cells slots h1 h2 hd u H locs ls _ hS _ _ _ => va_forget (fun q hq => hS.2.2 q hq) (W.widen (k := 663680) (n := 7110428) h1 h2 (lw_ret hx hb hr hlocks hd))
  refine W.widen (k := 900) (n := 19000) (Nat.le_of_ble_eq_true rfl) (Nat.le_of_ble_eq_true rfl) ?_
  exact law_k hfl hE rfl hL hXs hbl kr (c00, c00) H locs ls ⟨core0 s00, first_CI, first_Q, first_Q⟩ hS (pmP List.perm_append_comm hP) (pmD List.perm_append_comm hD) hl
