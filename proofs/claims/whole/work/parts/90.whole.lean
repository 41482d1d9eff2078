/-! The law, from its entry. -/
set_option maxHeartbeats 4000000 in
set_option maxRecDepth 100000 in
theorem whole_start {p : Program} {e : Env} {s : State} {m : MethodId} {below : List Frame} {meth : Method} {c : Code} (l : Launch) (hflags : l.flags = flags0) {b L : Nat} {xs : Nat → Int32} (hL : L ≤ 2048) (C0 : lw_At p s m meth c b L xs) : W p l e room_1 s m #[Value.ref b] below meth c s.heap [] 0 0 (lw_Z below #[Value.ref b] s) (entryFrame m ([Value.ref b] : List Value).toArray 7) := by
  obtain ⟨hx, hb, hr, hml, hown, hts, hXs, hbl, hlocks, hgv⟩ := C0
  have hb : c.code = cL_law := hb
  have hown : s.vm.findClass RL = some m.cls := hown
  have hX := start_XA hts hgv
  obtain ⟨D, cs, hK⟩ := start_K hts hX.1 inX0 inX1 inX2 inX3 inX4 inX5 inX6
  have hG : Gl (lwA s) s s.heap := ⟨start_Gv hts, start_Gh hts hgv⟩
  have hA : ∀ q : Nat, s.heap.size ≤ q → lwA s q := fun _ h => h
  have hE : kE p s m #[Value.ref b] meth c D cs ⟨RL, meth.name, ""⟩ wsL_law cL_law 7 ret (lwA s) := ⟨hx, hb, hr, hlocks, hml, hown, fun w h => hts w (wsL_law_in w h), hK, hA, hG, rfl⟩
  have hfl : l.stackTraces = false := by
    unfold Launch.stackTraces
    rw [hflags]
    decide
  have hw : ∀ w ∈ wsL_law, w.before #[Value.ref b] s = true := fun w h => hts w (wsL_law_in w h)
  have hS : va_S (lwA s) s.heap s.heap [] := va_S.rf
  have hP : va_P D vwCl [] s.heap := fun k q h => by simp at h
  have hD : va_D (lwA s) [] := ⟨fun i j p q h => by simp at h, fun k q h => by simp at h⟩
  have hl := lv_entry ([.ref b]) (n := 7) (Nat.le_of_ble_eq_true rfl)
  rw [lg_entry_eq]
  generalize (lg_sl ([.ref b]) ++ List.replicate (7 - (lg_sl ([.ref b])).length) Slot.unset).toArray = ls at hl ⊢
  have hl : lv_has ls 7 [(0, .ref b)] := hl
  refine va_new (ci := 5) (fs := [.null, .null, .null, .null, .null, .null]) (C := RX5) (T := TX5) (N := 6) hx hb hts inX5 tyX5 tyX5_ok hown (hts (.classLink RL 8 RX5) (tbl_in _ (by decide +kernel))) (hts (.instantiable RX5 6) (tbl_in _ (by decide +kernel))) (hts (.initialized RX5) (tbl_in _ (by decide +kernel))) hK hP hD hS hA rfl (fun j hj => by rcases (show j = 0 ∨ j = 1 ∨ j = 2 ∨ j = 3 ∨ j = 4 ∨ j = 5 by omega) with rfl | rfl | rfl | rfl | rfl | rfl <;> rfl) (Nat.le_of_ble_eq_true rfl) (Nat.le_of_ble_eq_true rfl) dL_law_0 (fun q0 H hP hD hS => ?_)
  have hP : va_P D vwCl ([(q0, .inr (5, [.null, .null, .null, .null, .null, .null]))] ++ []) H := hP
  have hD : va_D (lwA s) ([(q0, .inr (5, [.null, .null, .null, .null, .null, .null]))] ++ []) := hD
  refine lv_dup hx hb dL_law_3 rfl ?_
  refine kV_call (S := Nat → Nat → Nat) (ps := fun ca => ca 0 0 = q0) (wc := [(q0, .inr (5, [.null, .null, .null, .null, .null, .null]))]) (wr := []) (w1 := fun ca => ca_W cs ca c00) hE hP hD hS (k_rIO (own := RL) (rest := [.ref q0]) (As := []) hE hX.1 rfl (c_X5_init l D cs q0 H.size) (cwI 0 hw gL_law_X5_init rfl rfl rfl (hts (.initialized RX5) (tbl_in _ (by decide +kernel))) (hts (.methodLink RL 90 yX5_init) (tbl_in _ (by decide +kernel))) (hts (.instanceMethod yX5_init) (tbl_in _ (by decide +kernel))) rfl (by decide +kernel) ⟨Nat.le_of_ble_eq_true rfl, Nat.le_of_ble_eq_true rfl⟩) hP hD hS rfl hl rfl (Nat.le_of_ble_eq_true rfl) ⟨Nat.le_of_ble_eq_true rfl, Nat.le_of_ble_eq_true rfl⟩ dL_law_4) (fun ca H locs hca hP hD hS => ?_)
  rw [← hca]
  have hP := k_uP hP
  have hD := k_uD hD
  refine lv_astore_n (lv' := [(1, .ref (ca 0 0)), (0, .ref b)]) hx hb dL_law_7 rfl hl (by decide) rfl (fun ls hl => ?_)
  refine va_new (ci := 6) (fs := [.int 0, .null, .int 0, .null, .null, .null, .int 0, .null, .null, .int 0, .int 0]) (C := RX6) (T := TX6) (N := 11) hx hb hts inX6 tyX6 tyX6_ok hown (hts (.classLink RL 91 RX6) (tbl_in _ (by decide +kernel))) (hts (.instantiable RX6 11) (tbl_in _ (by decide +kernel))) (hts (.initialized RX6) (tbl_in _ (by decide +kernel))) hK hP hD hS hA rfl (fun j hj => by rcases (show j = 0 ∨ j = 1 ∨ j = 2 ∨ j = 3 ∨ j = 4 ∨ j = 5 ∨ j = 6 ∨ j = 7 ∨ j = 8 ∨ j = 9 ∨ j = 10 by omega) with rfl | rfl | rfl | rfl | rfl | rfl | rfl | rfl | rfl | rfl | rfl <;> rfl) (Nat.le_of_ble_eq_true rfl) (Nat.le_of_ble_eq_true rfl) dL_law_8 (fun q8 H hP hD hS => ?_)
  have hP : va_P D vwCl ([(q8, .inr (6, [.int 0, .null, .int 0, .null, .null, .null, .int 0, .null, .null, .int 0, .int 0]))] ++ ca_W cs ca c00) H := pmP List.perm_append_comm hP
  have hD : va_D (lwA s) ([(q8, .inr (6, [.int 0, .null, .int 0, .null, .null, .null, .int 0, .null, .null, .int 0, .int 0]))] ++ ca_W cs ca c00) := pmD List.perm_append_comm hD
  refine lv_dup hx hb dL_law_11 rfl ?_
  refine kV_call (S := Nat → Nat) (ps := fun ma => ma 0 = q8) (wc := [(q8, .inr (6, [.int 0, .null, .int 0, .null, .null, .null, .int 0, .null, .null, .int 0, .int 0]))]) (wr := ca_W cs ca c00) (w1 := fun ma => md_W cs ma mv0) hE hP hD hS (k_rI (own := RL) (rest := [.ref q8]) (As := []) hE rfl (c_X6_init l D cs q8 H.size) (cwI 0 hw gL_law_X6_init rfl rfl rfl (hts (.initialized RX6) (tbl_in _ (by decide +kernel))) (hts (.methodLink RL 93 yX6_init) (tbl_in _ (by decide +kernel))) (hts (.instanceMethod yX6_init) (tbl_in _ (by decide +kernel))) rfl (by decide +kernel) ⟨Nat.le_of_ble_eq_true rfl, Nat.le_of_ble_eq_true rfl⟩) hP hD hS rfl hl rfl (Nat.le_of_ble_eq_true rfl) ⟨Nat.le_of_ble_eq_true rfl, Nat.le_of_ble_eq_true rfl⟩ dL_law_12) (fun ma H locs hma hP hD hS => ?_)
  rw [← hma]
  refine lv_astore_n (lv' := [(2, .ref (ma 0)), (1, .ref (ca 0 0)), (0, .ref b)]) hx hb dL_law_15 rfl hl (by decide) rfl (fun ls hl => ?_)
  refine lv_iconst (v := 1) hx hb dL_law_16 (by decide) ?_
  refine k_newa (atype := .long) (ty := .long) (t0 := 4) (a0 := (1, .inr (.inl (fun _ => 0)))) hE (hts (.arrayClass .long) (tbl_in _ (by decide +kernel))) rfl rfl hP hD hS (fun _ => rfl) (by decide) (by decide) (by decide) (Nat.le_of_ble_eq_true rfl) (Nat.le_of_ble_eq_true rfl) dL_law_17 (fun oa H hP hD hS => ?_)
  have pm : ((md_W cs ma mv0 ++ ca_W cs ca c00) ++ [lo cs oa (fun _ => 0)]).Perm (lwW cs ca ma oa c00 mv0 (fun _ => 0)) := List.perm_append_comm.trans ((List.perm_append_comm (l₁ := md_W cs ma mv0) (l₂ := ca_W cs ca c00)).cons (lo cs oa (fun _ => 0)))
  have hP := pmP pm hP
  have hD := pmD pm hD
  refine lv_astore_n (lv' := [(3, .ref oa), (2, .ref (ma 0)), (1, .ref (ca 0 0)), (0, .ref b)]) hx hb dL_law_19 rfl hl (by decide) rfl (fun ls hl => ?_)
  refine lv_iconst (v := 0) hx hb dL_law_20 (by decide) ?_
  refine lv_istore (lv' := [(4, .int 0), (3, .ref oa), (2, .ref (ma 0)), (1, .ref (ca 0 0)), (0, .ref b)]) hx hb dL_law_21 hl (by decide) rfl (fun ls hl => ?_)
  exact law_loop hfl hE rfl hX hXs hbl hL (L + 1) 0 _ _ (by omega) (by omega) (by omega) (by omega) first_T hS hP hD (lv_sub hl [4, 3, 2, 1, 0] rfl)
