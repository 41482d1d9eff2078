/-! The law's wrappers: one call of the class, what it throws is caught and told by a number. -/
section KW
variable {p : Program} {l : Launch} {e : Env} {R : Room} {s : State} {m : MethodId} {args : Array Value} {below : List Frame} {meth : Method} {c : Code} {H : Heap} {locs : List Loc} {cells slots : Nat} {Q : State → Prop}
variable {D : va_G} {cs : Nat → ClassId} {as : List Value} {wc w1 wr : va_W} {A : Nat → Prop} {y y2 : MethodName} {ws ws' ws2 : List Cond} {rm rm2 : Room} {mc ms mc2 ms2 n index : Nat} {cc bytes2 : ByteArray} {maxL maxL2 : Nat} {ret ret2 : Option FieldType} {As rest st0 : List Value} {b pc : Nat} {ls : Array Slot} {lv : List (Nat × Value)} {own C : String} {Qc2 : Array Value → State → Outcome → State → Prop} {XC2 : String → State → State → Prop} {hh : List (Nat × Nat × Nat × Nat)}
/-- a method with handlers -/
theorem kH_of {r : Int32} (hy : plainName y.cls = true) (hw : ws = Cond.codeWith y cc maxL ret hh :: ws') (hmx : (lg_sl as).length ≤ maxL)
    (body : ∀ (p : Program) (e : Env) (s : State) (m : MethodId) (below : List Frame) (meth : Method) (c : Code) (A : Nat → Prop) (ls : Array Slot) (H : Heap) (locs : List Loc), kE p s m as.toArray meth c D cs y ws cc maxL ret A → c.exceptionTable.toList = tableOf hh → va_S A s.heap H locs → va_P D vwCl wc H → va_D A wc → lv_has ls maxL (lv_args 0 as) →
      W p l e rm s m as.toArray below meth c H locs 0 0 (MQ below (va_Qi (fun (r' : Int32) (_ : Unit) => r' = r) (kB D (fun _ => w1) A) A) as.toArray s mc ms A) (F0 m 0 ls [])) : kI l y ws rm mc ms D cs as wc r w1 := by
  intro sz
  refine MetFree.of_bodyS (code := cc) (maxLocals := maxL) (ret := ret) hy ?_ ?_
  · intro args s m h hn
    obtain ⟨m9, meth, c, hn9, h1, h2, h3, h4, -, h5, h6, -⟩ := Cond.codeWith_spec (atoms_spec (ws := ws) h _ (by rw [hw]; exact List.mem_cons_self))
    cases hn.symm.trans hn9
    exact ⟨meth, c, h1, h2, h3, h4, h5, h6⟩
  · intro p e s m args below meth c s₁ B hml hP _
    have hh0 : s₁.heap = s.heap := by rw [B.state]; rfl
    have ht := vx_table (x := y) B (atoms_spec (ws := ws) B.pre _ (by rw [hw]; exact List.mem_cons_self))
    obtain ⟨rfl, hsz, hP1, hK, hD0, hG⟩ := hP
    subst hsz
    have K : W p l e rm s m as.toArray below meth c s.heap [] 0 0 (MQ below (va_Qi (fun (r' : Int32) (_ : Unit) => r' = r) (kB D (fun _ => w1) (va_A wc s.heap.size)) (va_A wc s.heap.size)) as.toArray s mc ms (va_A wc s.heap.size)) (entryFrame m as.toArray maxL) := by
      rw [lg_entry_eq]
      exact body p e s m below meth c _ _ _ _ ⟨B.exec, B.bytes, B.returns, B.notSynchronized, hml, findClass_of_methodNamed B.named, atoms_spec (ws := ws) B.pre, hK, fun q h => Or.inr h, hG, (name_of_methodNamed B.named B.method).1⟩ ht va_S.rf hP1 (hD0.self) (lv_entry as hmx)
    obtain ⟨t, a1, o, b1, b2, b3⟩ := K s₁ hh0 (Stand.of_body B)
    exact ⟨t, o, a1, b1, b2, ⟨b3.1, b3.2⟩⟩
theorem k_rX (hE : kE p s m args meth c D cs y ws cc maxL ret A) (ho : own = y.cls) (hM : vx_Met l y2 ws2 rm2 (kP D cs (.ref b :: As) wc H.size) Qc2 XC2 mc2 ms2 (va_A wc H.size)) (cw : CallW R s args own C index y2 bytes2 maxL2 ret2 ws2 rm2 mc2 ms2 n)
    (hP : va_P D vwCl (wc ++ wr) H) (hD : va_D A (wc ++ wr)) (hS : va_S A s.heap H locs) {q0 ci N : Nat} {T : u_T} {fs : List Value} (hcl : vwCl[ci]? = some (C, T, N)) (he : wc[q0]? = some (b, .inr (ci, fs)))
    (hn : As.length = n) (hl : lv_has ls maxL lv) (hst : st0 = As.reverse ++ .ref b :: rest) (hrm : (rest.map fun v => v.category).sum ≤ 8) (hf : cells + mc2 ≤ R.cells ∧ slots + ms2 ≤ R.slots) (hdg : decode cc pc = .ok (.invokevirtual index, 3)) :
    vx_Run p l e R s m args below meth c H locs cells slots mc2 ms2 (F0 m pc ls st0) rest (Qc2 (Value.ref b :: As).toArray) XC2 (va_A wc H.size) :=
  vx_runV (k_fix hE ho) hM cw ⟨kP_blind, k_recv hE hP hcl he, k_pre hE hP hD hS⟩ rfl hn hl.1 hst (lv_room hrm) hdg hf
theorem kX_call {x : Option String} {r : Int32} {a9 : Array Value} (hE : kE p s m args meth c D cs y ws cc maxL ret A) (hP : va_P D vwCl (wc ++ wr) H) (hD : va_D A (wc ++ wr)) (hS : va_S A s.heap H locs)
    (hr : vx_Run p l e R s m args below meth c H locs cells slots mc2 ms2 (F0 m pc ls st0) rest (va_Qi (fun (r' : Int32) (_ : Unit) => x = none ∧ r' = r) (kB D (fun _ => w1) (va_A wc H.size)) (va_A wc H.size) a9) (kT D x w1 (va_A wc H.size)) (va_A wc H.size))
    (kx : ∀ (E : String) (ce : Cell) (q9 : Addr) (H1 : Heap) (locs1 : List Loc), x = some E → va_P D vwCl (w1 ++ wr) H1 → va_D A (w1 ++ wr) → va_S A s.heap H1 locs1 → H1[q9]? = some ce → ce.vm = .none → s.vm.findClass E = some ce.cls → vx_W p l e R s m args below meth c H1 locs1 (cells + mc2) (slots + ms2) Q (F0 m pc ls rest) q9)
    (kk : ∀ (H1 : Heap) (locs1 : List Loc), x = none → va_P D vwCl (w1 ++ wr) H1 → va_D A (w1 ++ wr) → va_S A s.heap H1 locs1 → W p l e R s m args below meth c H1 locs1 (cells + mc2) (slots + ms2) Q (F0 m (pc + 3) ls (.int r :: rest))) : W p l e R s m args below meth c H locs cells slots Q (F0 m pc ls st0) := by
  obtain ⟨-, -, -, -, -, -, -, -, hA, -⟩ := hE
  refine vx_calli hr hS (fun q _ h => k_free hD hS hA q h) (k_free hD hS hA) (fun q _ h => k_free hD hS hA q h) (fun E ce q9 u t H1 locs1 ht hvm hpx hB hz1 hk1 hS1 hce hcv hcl => ?_) (fun r9 u t H1 locs1 ht hvm hw hB hz1 hk1 hS1 => ?_)
  · obtain ⟨hxE, hP1, hD1⟩ := hB
    rw [ht] at hP1
    obtain ⟨hP2, hD2⟩ := k_join hP hD hS hA hk1 hP1 hD1
    exact kx E ce q9 H1 locs1 hxE hP2 hD2 hS1 hce hcv hcl
  · obtain ⟨hx0, hr9⟩ := hw
    subst hr9
    obtain ⟨hP1, hD1⟩ := hB
    rw [ht] at hP1
    obtain ⟨hP2, hD2⟩ := k_join hP hD hS hA hk1 hP1 hD1
    exact kk H1 locs1 hx0 hP2 hD2 hS1
end KW
theorem ct_IAE : Cond.castable IAE IAE ∈ tables_1 := by decide +kernel
theorem ct_ISE : Cond.castable ISE ISE ∈ tables_1 := by decide +kernel
theorem ct_IOB : Cond.castable IOB IOB ∈ tables_1 := by decide +kernel
/-! The wrappers, one by one. -/
set_option maxHeartbeats 4000000 in
set_option maxRecDepth 100000 in
theorem w_doScript (l : Launch) (hfl : l.stackTraces = false) (D : va_G) (cs : Nat → ClassId) (ca : Nat → Nat → Nat) (cv c2 : CV) (p0 : Int32) (p1 : Int64) (hC : CO cv) (x : Option String) (r : Int32) (e0 : k_X5_runScript cv p0 p1 = (x, r, c2)) (hL : ∀ E, x = some E → E ∈ [IAE]) : kI l yL_doScript wsL_doScript { frames := 8, cells := 1, slots := 6, locals := 204 } 1 6 D cs [.ref (ca 0 0), .int p0, .long p1] (ca_W cs ca cv) (cx x r) (ca_W cs ca c2) := by
  have hc := c_X5_runScript l hfl D cs ca cv p0 p1 hC
  rw [e0] at hc
  dsimp only at hc
  refine kH_of (cc := cL_doScript) (maxL := 5) (ret := (some .int)) (hh := [(0, 6, 7, 13)]) (by decide) rfl (Nat.le_of_ble_eq_true rfl) ?_
  intro p e s m below meth c A ls H locs hE ht hS hP hD hl
  obtain ⟨hx, hb, hr, hlocks, hml, hown, hts, hK, hA, hG, hnm⟩ := id hE
  have hown : s.vm.findClass RL = some m.cls := hown
  have hl : lv_has ls 5 [(0, .ref (ca 0 0)), (1, .int p0), (2, .long p1)] := hl
  refine lv_aload_n hx hb dL_doScript_0 rfl (lv_at hl 0 rfl) ?_
  refine lv_iload_n hx hb dL_doScript_1 rfl (lv_at hl 1 rfl) ?_
  refine lv_lload_n hx hb dL_doScript_2 rfl (lv_at hl 2 rfl) ?_
  have hP : va_P D vwCl (ca_W cs ca cv ++ []) H := k_nP hP
  have hD : va_D A (ca_W cs ca cv ++ []) := k_nD hD
  refine kX_call (wc := ca_W cs ca cv) (wr := []) (w1 := ca_W cs ca c2) (x := x) (r := r) hE hP hD hS (k_rX (rest := []) (As := [.int p0, .long p1]) hE rfl (hc H.size) (cwV 2 hts gL_doScript_X5_runScript rfl rfl rfl (by decide +kernel) ⟨(Nat.le_of_ble_eq_true rfl), (Nat.le_of_ble_eq_true rfl)⟩) hP hD hS (ci := 5) (q0 := 0) rfl rfl rfl hl rfl (Nat.le_of_ble_eq_true rfl) ⟨(Nat.le_of_ble_eq_true rfl), (Nat.le_of_ble_eq_true rfl)⟩ dL_doScript_3) (fun E ce q9 H locs hE9 hP hD hS hce hcv hcl => ?_) (fun H locs hx0 hP hD hS => ?_)
  · have hP := k_uP hP
    have hD := k_uD hD
    have hq := hL E hE9
    subst hE9
    rcases List.mem_cons.mp hq with hq | hq
    · subst hq
      refine vx_catch (own := RL) (name := IAE) hown (tableOf []) ⟨0, 6, 7, 13⟩ (tableOf []) (by rw [ht]; rfl) ?_ rfl (by decide) (hts (.classLink RL 13 IAE) (by decide +kernel)) (va_Nw.use rfl (hG.1.2.2.1 _ _ ct_IAE)) hce hcv hcl ?_
      · intro z hz
        exact absurd hz List.not_mem_nil
      · refine lv_astore (lv' := [(4, .ref q9), (0, .ref (ca 0 0)), (1, .int p0), (2, .long p1)]) hx hb dL_doScript_7 hl (by decide) rfl (fun ls hl => ?_)
        refine lv_ldc (v := (-9999002)) hx hb hown (hts (.constant RL 15 (-9999002)) (by decide +kernel)) dL_doScript_9 ?_
        exact kI_ret hE hS hP hD rfl cx_IAE.symm (Nat.le_of_ble_eq_true rfl) (Nat.le_of_ble_eq_true rfl) dL_doScript_11
    exact absurd hq List.not_mem_nil
  · have hP := k_uP hP
    have hD := k_uD hD
    subst hx0
    exact kI_ret hE hS hP hD rfl rfl (Nat.le_of_ble_eq_true rfl) (Nat.le_of_ble_eq_true rfl) dL_doScript_6
set_option maxHeartbeats 4000000 in
set_option maxRecDepth 100000 in
theorem w_doSimulate (l : Launch) (hfl : l.stackTraces = false) (D : va_G) (cs : Nat → ClassId) (ca : Nat → Nat → Nat) (cv c2 : CV) (p0 : Int64) (p1 : Int32) (hC : CO cv) (x : Option String) (r : Int32) (e0 : k_X5_simulate cv p0 p1 = (x, r, c2)) (hL : ∀ E, x = some E → E ∈ [IAE]) : kI l yL_doSimulate wsL_doSimulate { frames := 8, cells := 1, slots := 6, locals := 201 } 1 6 D cs [.ref (ca 0 0), .long p0, .int p1] (ca_W cs ca cv) (cx x r) (ca_W cs ca c2) := by
  have hc := c_X5_simulate l hfl D cs ca cv p0 p1 hC
  rw [e0] at hc
  dsimp only at hc
  refine kH_of (cc := cL_doSimulate) (maxL := 5) (ret := (some .int)) (hh := [(0, 6, 7, 13)]) (by decide) rfl (Nat.le_of_ble_eq_true rfl) ?_
  intro p e s m below meth c A ls H locs hE ht hS hP hD hl
  obtain ⟨hx, hb, hr, hlocks, hml, hown, hts, hK, hA, hG, hnm⟩ := id hE
  have hown : s.vm.findClass RL = some m.cls := hown
  have hl : lv_has ls 5 [(0, .ref (ca 0 0)), (1, .long p0), (3, .int p1)] := hl
  refine lv_aload_n hx hb dL_doSimulate_0 rfl (lv_at hl 0 rfl) ?_
  refine lv_lload_n hx hb dL_doSimulate_1 rfl (lv_at hl 1 rfl) ?_
  refine lv_iload_n hx hb dL_doSimulate_2 rfl (lv_at hl 2 rfl) ?_
  have hP : va_P D vwCl (ca_W cs ca cv ++ []) H := k_nP hP
  have hD : va_D A (ca_W cs ca cv ++ []) := k_nD hD
  refine kX_call (wc := ca_W cs ca cv) (wr := []) (w1 := ca_W cs ca c2) (x := x) (r := r) hE hP hD hS (k_rX (rest := []) (As := [.long p0, .int p1]) hE rfl (hc H.size) (cwV 2 hts gL_doSimulate_X5_simulate rfl rfl rfl (by decide +kernel) ⟨(Nat.le_of_ble_eq_true rfl), (Nat.le_of_ble_eq_true rfl)⟩) hP hD hS (ci := 5) (q0 := 0) rfl rfl rfl hl rfl (Nat.le_of_ble_eq_true rfl) ⟨(Nat.le_of_ble_eq_true rfl), (Nat.le_of_ble_eq_true rfl)⟩ dL_doSimulate_3) (fun E ce q9 H locs hE9 hP hD hS hce hcv hcl => ?_) (fun H locs hx0 hP hD hS => ?_)
  · have hP := k_uP hP
    have hD := k_uD hD
    have hq := hL E hE9
    subst hE9
    rcases List.mem_cons.mp hq with hq | hq
    · subst hq
      refine vx_catch (own := RL) (name := IAE) hown (tableOf []) ⟨0, 6, 7, 13⟩ (tableOf []) (by rw [ht]; rfl) ?_ rfl (by decide) (hts (.classLink RL 13 IAE) (by decide +kernel)) (va_Nw.use rfl (hG.1.2.2.1 _ _ ct_IAE)) hce hcv hcl ?_
      · intro z hz
        exact absurd hz List.not_mem_nil
      · refine lv_astore (lv' := [(4, .ref q9), (0, .ref (ca 0 0)), (1, .long p0), (3, .int p1)]) hx hb dL_doSimulate_7 hl (by decide) rfl (fun ls hl => ?_)
        refine lv_ldc (v := (-9999002)) hx hb hown (hts (.constant RL 15 (-9999002)) (by decide +kernel)) dL_doSimulate_9 ?_
        exact kI_ret hE hS hP hD rfl cx_IAE.symm (Nat.le_of_ble_eq_true rfl) (Nat.le_of_ble_eq_true rfl) dL_doSimulate_11
    exact absurd hq List.not_mem_nil
  · have hP := k_uP hP
    have hD := k_uD hD
    subst hx0
    exact kI_ret hE hS hP hD rfl rfl (Nat.le_of_ble_eq_true rfl) (Nat.le_of_ble_eq_true rfl) dL_doSimulate_6
set_option maxHeartbeats 4000000 in
set_option maxRecDepth 100000 in
theorem w_tryAppend (l : Launch) (hfl : l.stackTraces = false) (D : va_G) (cs : Nat → ClassId) (ca : Nat → Nat → Nat) (cv c2 : CV) (p0 : Int32) (hC : CO cv) (x : Option String) (r : Int32) (e0 : k_X5_append cv p0 = (x, r, c2)) (hL : ∀ E, x = some E → E ∈ [IAE, ISE]) : kI l yL_tryAppend wsL_tryAppend { frames := 7, cells := 1, slots := 6, locals := 103 } 1 6 D cs [.ref (ca 0 0), .int p0] (ca_W cs ca cv) (cx x r) (ca_W cs ca c2) := by
  have hc := c_X5_append l hfl D cs ca cv p0 hC
  rw [e0] at hc
  dsimp only at hc
  refine kH_of (cc := cL_tryAppend) (maxL := 3) (ret := (some .int)) (hh := [(0, 5, 6, 13), (0, 5, 10, 24)]) (by decide) rfl (Nat.le_of_ble_eq_true rfl) ?_
  intro p e s m below meth c A ls H locs hE ht hS hP hD hl
  obtain ⟨hx, hb, hr, hlocks, hml, hown, hts, hK, hA, hG, hnm⟩ := id hE
  have hown : s.vm.findClass RL = some m.cls := hown
  have hl : lv_has ls 3 [(0, .ref (ca 0 0)), (1, .int p0)] := hl
  refine lv_aload_n hx hb dL_tryAppend_0 rfl (lv_at hl 0 rfl) ?_
  refine lv_iload_n hx hb dL_tryAppend_1 rfl (lv_at hl 1 rfl) ?_
  have hP : va_P D vwCl (ca_W cs ca cv ++ []) H := k_nP hP
  have hD : va_D A (ca_W cs ca cv ++ []) := k_nD hD
  refine kX_call (wc := ca_W cs ca cv) (wr := []) (w1 := ca_W cs ca c2) (x := x) (r := r) hE hP hD hS (k_rX (rest := []) (As := [.int p0]) hE rfl (hc H.size) (cwV 1 hts gL_tryAppend_X5_append rfl rfl rfl (by decide +kernel) ⟨(Nat.le_of_ble_eq_true rfl), (Nat.le_of_ble_eq_true rfl)⟩) hP hD hS (ci := 5) (q0 := 0) rfl rfl rfl hl rfl (Nat.le_of_ble_eq_true rfl) ⟨(Nat.le_of_ble_eq_true rfl), (Nat.le_of_ble_eq_true rfl)⟩ dL_tryAppend_2) (fun E ce q9 H locs hE9 hP hD hS hce hcv hcl => ?_) (fun H locs hx0 hP hD hS => ?_)
  · have hP := k_uP hP
    have hD := k_uD hD
    have hq := hL E hE9
    subst hE9
    rcases List.mem_cons.mp hq with hq | hq
    · subst hq
      refine vx_catch (own := RL) (name := IAE) hown (tableOf []) ⟨0, 5, 6, 13⟩ (tableOf [(0, 5, 10, 24)]) (by rw [ht]; rfl) ?_ rfl (by decide) (hts (.classLink RL 13 IAE) (by decide +kernel)) (va_Nw.use rfl (hG.1.2.2.1 _ _ ct_IAE)) hce hcv hcl ?_
      · intro z hz
        exact absurd hz List.not_mem_nil
      · refine lv_astore_n (lv' := [(2, .ref q9), (0, .ref (ca 0 0)), (1, .int p0)]) hx hb dL_tryAppend_6 rfl hl (by decide) rfl (fun ls hl => ?_)
        refine lv_ldc (v := (-9999002)) hx hb hown (hts (.constant RL 15 (-9999002)) (by decide +kernel)) dL_tryAppend_7 ?_
        exact kI_ret hE hS hP hD rfl cx_IAE.symm (Nat.le_of_ble_eq_true rfl) (Nat.le_of_ble_eq_true rfl) dL_tryAppend_9
    rcases List.mem_cons.mp hq with hq | hq
    · subst hq
      refine vx_catch (own := RL) (name := ISE) hown (tableOf [(0, 5, 6, 13)]) ⟨0, 5, 10, 24⟩ (tableOf []) (by rw [ht]; rfl) ?_ rfl (by decide) (hts (.classLink RL 24 ISE) (by decide +kernel)) (va_Nw.use rfl (hG.1.2.2.1 _ _ ct_ISE)) hce hcv hcl ?_
      · intro z hz
        rcases List.mem_cons.mp hz with hz | hz
        · subst hz
          exact Or.inr ⟨(by decide), IAE, hts (.classLink RL 13 IAE) (by decide +kernel), hG.2.2.2.2.2.1⟩
        exact absurd hz List.not_mem_nil
      · refine lv_astore_n (lv' := [(2, .ref q9), (0, .ref (ca 0 0)), (1, .int p0)]) hx hb dL_tryAppend_10 rfl hl (by decide) rfl (fun ls hl => ?_)
        refine lv_ldc (v := (-9999003)) hx hb hown (hts (.constant RL 26 (-9999003)) (by decide +kernel)) dL_tryAppend_11 ?_
        exact kI_ret hE hS hP hD rfl cx_ISE.symm (Nat.le_of_ble_eq_true rfl) (Nat.le_of_ble_eq_true rfl) dL_tryAppend_13
    exact absurd hq List.not_mem_nil
  · have hP := k_uP hP
    have hD := k_uD hD
    subst hx0
    exact kI_ret hE hS hP hD rfl rfl (Nat.le_of_ble_eq_true rfl) (Nat.le_of_ble_eq_true rfl) dL_tryAppend_5
set_option maxHeartbeats 4000000 in
set_option maxRecDepth 100000 in
theorem w_tryLoad (l : Launch) (hfl : l.stackTraces = false) (D : va_G) (cs : Nat → ClassId) (ca : Nat → Nat → Nat) (cv c2 : CV) (hC : CO cv) (x : Option String) (r : Int32) (e0 : k_X5_load cv = (x, r, c2)) (hL : ∀ E, x = some E → E ∈ [ISE]) : kI l yL_tryLoad wsL_tryLoad { frames := 8, cells := 1, slots := 6, locals := 194 } 1 6 D cs [.ref (ca 0 0)] (ca_W cs ca cv) (cx x r) (ca_W cs ca c2) := by
  have hc := c_X5_load l hfl D cs ca cv hC
  rw [e0] at hc
  dsimp only at hc
  refine kH_of (cc := cL_tryLoad) (maxL := 2) (ret := (some .int)) (hh := [(0, 4, 5, 24)]) (by decide) rfl (Nat.le_of_ble_eq_true rfl) ?_
  intro p e s m below meth c A ls H locs hE ht hS hP hD hl
  obtain ⟨hx, hb, hr, hlocks, hml, hown, hts, hK, hA, hG, hnm⟩ := id hE
  have hown : s.vm.findClass RL = some m.cls := hown
  have hl : lv_has ls 2 [(0, .ref (ca 0 0))] := hl
  refine lv_aload_n hx hb dL_tryLoad_0 rfl (lv_at hl 0 rfl) ?_
  have hP : va_P D vwCl (ca_W cs ca cv ++ []) H := k_nP hP
  have hD : va_D A (ca_W cs ca cv ++ []) := k_nD hD
  refine kX_call (wc := ca_W cs ca cv) (wr := []) (w1 := ca_W cs ca c2) (x := x) (r := r) hE hP hD hS (k_rX (rest := []) (As := []) hE rfl (hc H.size) (cwV 0 hts gL_tryLoad_X5_load rfl rfl rfl (by decide +kernel) ⟨(Nat.le_of_ble_eq_true rfl), (Nat.le_of_ble_eq_true rfl)⟩) hP hD hS (ci := 5) (q0 := 0) rfl rfl rfl hl rfl (Nat.le_of_ble_eq_true rfl) ⟨(Nat.le_of_ble_eq_true rfl), (Nat.le_of_ble_eq_true rfl)⟩ dL_tryLoad_1) (fun E ce q9 H locs hE9 hP hD hS hce hcv hcl => ?_) (fun H locs hx0 hP hD hS => ?_)
  · have hP := k_uP hP
    have hD := k_uD hD
    have hq := hL E hE9
    subst hE9
    rcases List.mem_cons.mp hq with hq | hq
    · subst hq
      refine vx_catch (own := RL) (name := ISE) hown (tableOf []) ⟨0, 4, 5, 24⟩ (tableOf []) (by rw [ht]; rfl) ?_ rfl (by decide) (hts (.classLink RL 24 ISE) (by decide +kernel)) (va_Nw.use rfl (hG.1.2.2.1 _ _ ct_ISE)) hce hcv hcl ?_
      · intro z hz
        exact absurd hz List.not_mem_nil
      · refine lv_astore_n (lv' := [(1, .ref q9), (0, .ref (ca 0 0))]) hx hb dL_tryLoad_5 rfl hl (by decide) rfl (fun ls hl => ?_)
        refine lv_ldc (v := (-9999003)) hx hb hown (hts (.constant RL 26 (-9999003)) (by decide +kernel)) dL_tryLoad_6 ?_
        exact kI_ret hE hS hP hD rfl cx_ISE.symm (Nat.le_of_ble_eq_true rfl) (Nat.le_of_ble_eq_true rfl) dL_tryLoad_8
    exact absurd hq List.not_mem_nil
  · have hP := k_uP hP
    have hD := k_uD hD
    subst hx0
    exact kI_ret hE hS hP hD rfl rfl (Nat.le_of_ble_eq_true rfl) (Nat.le_of_ble_eq_true rfl) dL_tryLoad_4
set_option maxHeartbeats 4000000 in
set_option maxRecDepth 100000 in
theorem w_tryAbout (l : Launch) (hfl : l.stackTraces = false) (D : va_G) (cs : Nat → ClassId) (ca : Nat → Nat → Nat) (cv c2 : CV) (p0 : Int32) (hC : CO cv) (x : Option String) (r : Int32) (e0 : k_X5_about cv p0 = (x, r, c2)) (hL : ∀ E, x = some E → E ∈ [IAE]) : kI l yL_tryAbout wsL_tryAbout { frames := 7, cells := 1, slots := 6, locals := 103 } 1 6 D cs [.ref (ca 0 0), .int p0] (ca_W cs ca cv) (cx x r) (ca_W cs ca c2) := by
  have hc := c_X5_about l hfl D cs ca cv p0 hC
  rw [e0] at hc
  dsimp only at hc
  refine kH_of (cc := cL_tryAbout) (maxL := 3) (ret := (some .int)) (hh := [(0, 5, 6, 13)]) (by decide) rfl (Nat.le_of_ble_eq_true rfl) ?_
  intro p e s m below meth c A ls H locs hE ht hS hP hD hl
  obtain ⟨hx, hb, hr, hlocks, hml, hown, hts, hK, hA, hG, hnm⟩ := id hE
  have hown : s.vm.findClass RL = some m.cls := hown
  have hl : lv_has ls 3 [(0, .ref (ca 0 0)), (1, .int p0)] := hl
  refine lv_aload_n hx hb dL_tryAbout_0 rfl (lv_at hl 0 rfl) ?_
  refine lv_iload_n hx hb dL_tryAbout_1 rfl (lv_at hl 1 rfl) ?_
  have hP : va_P D vwCl (ca_W cs ca cv ++ []) H := k_nP hP
  have hD : va_D A (ca_W cs ca cv ++ []) := k_nD hD
  refine kX_call (wc := ca_W cs ca cv) (wr := []) (w1 := ca_W cs ca c2) (x := x) (r := r) hE hP hD hS (k_rX (rest := []) (As := [.int p0]) hE rfl (hc H.size) (cwV 1 hts gL_tryAbout_X5_about rfl rfl rfl (by decide +kernel) ⟨(Nat.le_of_ble_eq_true rfl), (Nat.le_of_ble_eq_true rfl)⟩) hP hD hS (ci := 5) (q0 := 0) rfl rfl rfl hl rfl (Nat.le_of_ble_eq_true rfl) ⟨(Nat.le_of_ble_eq_true rfl), (Nat.le_of_ble_eq_true rfl)⟩ dL_tryAbout_2) (fun E ce q9 H locs hE9 hP hD hS hce hcv hcl => ?_) (fun H locs hx0 hP hD hS => ?_)
  · have hP := k_uP hP
    have hD := k_uD hD
    have hq := hL E hE9
    subst hE9
    rcases List.mem_cons.mp hq with hq | hq
    · subst hq
      refine vx_catch (own := RL) (name := IAE) hown (tableOf []) ⟨0, 5, 6, 13⟩ (tableOf []) (by rw [ht]; rfl) ?_ rfl (by decide) (hts (.classLink RL 13 IAE) (by decide +kernel)) (va_Nw.use rfl (hG.1.2.2.1 _ _ ct_IAE)) hce hcv hcl ?_
      · intro z hz
        exact absurd hz List.not_mem_nil
      · refine lv_astore_n (lv' := [(2, .ref q9), (0, .ref (ca 0 0)), (1, .int p0)]) hx hb dL_tryAbout_6 rfl hl (by decide) rfl (fun ls hl => ?_)
        refine lv_ldc (v := (-9999002)) hx hb hown (hts (.constant RL 15 (-9999002)) (by decide +kernel)) dL_tryAbout_7 ?_
        exact kI_ret hE hS hP hD rfl cx_IAE.symm (Nat.le_of_ble_eq_true rfl) (Nat.le_of_ble_eq_true rfl) dL_tryAbout_9
    exact absurd hq List.not_mem_nil
  · have hP := k_uP hP
    have hD := k_uD hD
    subst hx0
    exact kI_ret hE hS hP hD rfl rfl (Nat.le_of_ble_eq_true rfl) (Nat.le_of_ble_eq_true rfl) dL_tryAbout_5
set_option maxHeartbeats 4000000 in
set_option maxRecDepth 100000 in
theorem w_tryPeg (l : Launch) (hfl : l.stackTraces = false) (D : va_G) (cs : Nat → ClassId) (ca : Nat → Nat → Nat) (cv c2 : CV) (p0 : Int32) (p1 : Int32) (hC : CO cv) (x : Option String) (r : Int32) (e0 : k_X5_pegOf cv p0 p1 = (x, r, c2)) (hL : ∀ E, x = some E → E ∈ [IOB, IAE]) : kI l yL_tryPeg wsL_tryPeg { frames := 7, cells := 1, slots := 6, locals := 104 } 1 6 D cs [.ref (ca 0 0), .int p0, .int p1] (ca_W cs ca cv) (cx x r) (ca_W cs ca c2) := by
  have hc := c_X5_pegOf l hfl D cs ca cv p0 p1 hC
  rw [e0] at hc
  dsimp only at hc
  refine kH_of (cc := cL_tryPeg) (maxL := 4) (ret := (some .int)) (hh := [(0, 6, 7, 38), (0, 6, 11, 13)]) (by decide) rfl (Nat.le_of_ble_eq_true rfl) ?_
  intro p e s m below meth c A ls H locs hE ht hS hP hD hl
  obtain ⟨hx, hb, hr, hlocks, hml, hown, hts, hK, hA, hG, hnm⟩ := id hE
  have hown : s.vm.findClass RL = some m.cls := hown
  have hl : lv_has ls 4 [(0, .ref (ca 0 0)), (1, .int p0), (2, .int p1)] := hl
  refine lv_aload_n hx hb dL_tryPeg_0 rfl (lv_at hl 0 rfl) ?_
  refine lv_iload_n hx hb dL_tryPeg_1 rfl (lv_at hl 1 rfl) ?_
  refine lv_iload_n hx hb dL_tryPeg_2 rfl (lv_at hl 2 rfl) ?_
  have hP : va_P D vwCl (ca_W cs ca cv ++ []) H := k_nP hP
  have hD : va_D A (ca_W cs ca cv ++ []) := k_nD hD
  refine kX_call (wc := ca_W cs ca cv) (wr := []) (w1 := ca_W cs ca c2) (x := x) (r := r) hE hP hD hS (k_rX (rest := []) (As := [.int p0, .int p1]) hE rfl (hc H.size) (cwV 2 hts gL_tryPeg_X5_pegOf rfl rfl rfl (by decide +kernel) ⟨(Nat.le_of_ble_eq_true rfl), (Nat.le_of_ble_eq_true rfl)⟩) hP hD hS (ci := 5) (q0 := 0) rfl rfl rfl hl rfl (Nat.le_of_ble_eq_true rfl) ⟨(Nat.le_of_ble_eq_true rfl), (Nat.le_of_ble_eq_true rfl)⟩ dL_tryPeg_3) (fun E ce q9 H locs hE9 hP hD hS hce hcv hcl => ?_) (fun H locs hx0 hP hD hS => ?_)
  · have hP := k_uP hP
    have hD := k_uD hD
    have hq := hL E hE9
    subst hE9
    rcases List.mem_cons.mp hq with hq | hq
    · subst hq
      refine vx_catch (own := RL) (name := IOB) hown (tableOf []) ⟨0, 6, 7, 38⟩ (tableOf [(0, 6, 11, 13)]) (by rw [ht]; rfl) ?_ rfl (by decide) (hts (.classLink RL 38 IOB) (by decide +kernel)) (va_Nw.use rfl (hG.1.2.2.1 _ _ ct_IOB)) hce hcv hcl ?_
      · intro z hz
        exact absurd hz List.not_mem_nil
      · refine lv_astore_n (lv' := [(3, .ref q9), (0, .ref (ca 0 0)), (1, .int p0), (2, .int p1)]) hx hb dL_tryPeg_7 rfl hl (by decide) rfl (fun ls hl => ?_)
        refine lv_ldc (v := (-9999001)) hx hb hown (hts (.constant RL 40 (-9999001)) (by decide +kernel)) dL_tryPeg_8 ?_
        exact kI_ret hE hS hP hD rfl cx_IOB.symm (Nat.le_of_ble_eq_true rfl) (Nat.le_of_ble_eq_true rfl) dL_tryPeg_10
    rcases List.mem_cons.mp hq with hq | hq
    · subst hq
      refine vx_catch (own := RL) (name := IAE) hown (tableOf [(0, 6, 7, 38)]) ⟨0, 6, 11, 13⟩ (tableOf []) (by rw [ht]; rfl) ?_ rfl (by decide) (hts (.classLink RL 13 IAE) (by decide +kernel)) (va_Nw.use rfl (hG.1.2.2.1 _ _ ct_IAE)) hce hcv hcl ?_
      · intro z hz
        rcases List.mem_cons.mp hz with hz | hz
        · subst hz
          exact Or.inr ⟨(by decide), IOB, hts (.classLink RL 38 IOB) (by decide +kernel), hG.2.2.2.2.2.2.1⟩
        exact absurd hz List.not_mem_nil
      · refine lv_astore_n (lv' := [(3, .ref q9), (0, .ref (ca 0 0)), (1, .int p0), (2, .int p1)]) hx hb dL_tryPeg_11 rfl hl (by decide) rfl (fun ls hl => ?_)
        refine lv_ldc (v := (-9999002)) hx hb hown (hts (.constant RL 15 (-9999002)) (by decide +kernel)) dL_tryPeg_12 ?_
        exact kI_ret hE hS hP hD rfl cx_IAE.symm (Nat.le_of_ble_eq_true rfl) (Nat.le_of_ble_eq_true rfl) dL_tryPeg_14
    exact absurd hq List.not_mem_nil
  · have hP := k_uP hP
    have hD := k_uD hD
    subst hx0
    exact kI_ret hE hS hP hD rfl rfl (Nat.le_of_ble_eq_true rfl) (Nat.le_of_ble_eq_true rfl) dL_tryPeg_6
set_option maxHeartbeats 4000000 in
set_option maxRecDepth 100000 in
theorem w_tryOrder (l : Launch) (hfl : l.stackTraces = false) (D : va_G) (cs : Nat → ClassId) (ca : Nat → Nat → Nat) (cv c2 : CV) (p0 : Int32) (p1 : Int32) (hC : CO cv) (x : Option String) (r : Int32) (e0 : k_X5_orderOf cv p0 p1 = (x, r, c2)) (hL : ∀ E, x = some E → E ∈ [IOB, IAE]) : kI l yL_tryOrder wsL_tryOrder { frames := 7, cells := 1, slots := 6, locals := 104 } 1 6 D cs [.ref (ca 0 0), .int p0, .int p1] (ca_W cs ca cv) (cx x r) (ca_W cs ca c2) := by
  have hc := c_X5_orderOf l hfl D cs ca cv p0 p1 hC
  rw [e0] at hc
  dsimp only at hc
  refine kH_of (cc := cL_tryOrder) (maxL := 4) (ret := (some .int)) (hh := [(0, 6, 7, 38), (0, 6, 11, 13)]) (by decide) rfl (Nat.le_of_ble_eq_true rfl) ?_
  intro p e s m below meth c A ls H locs hE ht hS hP hD hl
  obtain ⟨hx, hb, hr, hlocks, hml, hown, hts, hK, hA, hG, hnm⟩ := id hE
  have hown : s.vm.findClass RL = some m.cls := hown
  have hl : lv_has ls 4 [(0, .ref (ca 0 0)), (1, .int p0), (2, .int p1)] := hl
  refine lv_aload_n hx hb dL_tryOrder_0 rfl (lv_at hl 0 rfl) ?_
  refine lv_iload_n hx hb dL_tryOrder_1 rfl (lv_at hl 1 rfl) ?_
  refine lv_iload_n hx hb dL_tryOrder_2 rfl (lv_at hl 2 rfl) ?_
  have hP : va_P D vwCl (ca_W cs ca cv ++ []) H := k_nP hP
  have hD : va_D A (ca_W cs ca cv ++ []) := k_nD hD
  refine kX_call (wc := ca_W cs ca cv) (wr := []) (w1 := ca_W cs ca c2) (x := x) (r := r) hE hP hD hS (k_rX (rest := []) (As := [.int p0, .int p1]) hE rfl (hc H.size) (cwV 2 hts gL_tryOrder_X5_orderOf rfl rfl rfl (by decide +kernel) ⟨(Nat.le_of_ble_eq_true rfl), (Nat.le_of_ble_eq_true rfl)⟩) hP hD hS (ci := 5) (q0 := 0) rfl rfl rfl hl rfl (Nat.le_of_ble_eq_true rfl) ⟨(Nat.le_of_ble_eq_true rfl), (Nat.le_of_ble_eq_true rfl)⟩ dL_tryOrder_3) (fun E ce q9 H locs hE9 hP hD hS hce hcv hcl => ?_) (fun H locs hx0 hP hD hS => ?_)
  · have hP := k_uP hP
    have hD := k_uD hD
    have hq := hL E hE9
    subst hE9
    rcases List.mem_cons.mp hq with hq | hq
    · subst hq
      refine vx_catch (own := RL) (name := IOB) hown (tableOf []) ⟨0, 6, 7, 38⟩ (tableOf [(0, 6, 11, 13)]) (by rw [ht]; rfl) ?_ rfl (by decide) (hts (.classLink RL 38 IOB) (by decide +kernel)) (va_Nw.use rfl (hG.1.2.2.1 _ _ ct_IOB)) hce hcv hcl ?_
      · intro z hz
        exact absurd hz List.not_mem_nil
      · refine lv_astore_n (lv' := [(3, .ref q9), (0, .ref (ca 0 0)), (1, .int p0), (2, .int p1)]) hx hb dL_tryOrder_7 rfl hl (by decide) rfl (fun ls hl => ?_)
        refine lv_ldc (v := (-9999001)) hx hb hown (hts (.constant RL 40 (-9999001)) (by decide +kernel)) dL_tryOrder_8 ?_
        exact kI_ret hE hS hP hD rfl cx_IOB.symm (Nat.le_of_ble_eq_true rfl) (Nat.le_of_ble_eq_true rfl) dL_tryOrder_10
    rcases List.mem_cons.mp hq with hq | hq
    · subst hq
      refine vx_catch (own := RL) (name := IAE) hown (tableOf [(0, 6, 7, 38)]) ⟨0, 6, 11, 13⟩ (tableOf []) (by rw [ht]; rfl) ?_ rfl (by decide) (hts (.classLink RL 13 IAE) (by decide +kernel)) (va_Nw.use rfl (hG.1.2.2.1 _ _ ct_IAE)) hce hcv hcl ?_
      · intro z hz
        rcases List.mem_cons.mp hz with hz | hz
        · subst hz
          exact Or.inr ⟨(by decide), IOB, hts (.classLink RL 38 IOB) (by decide +kernel), hG.2.2.2.2.2.2.1⟩
        exact absurd hz List.not_mem_nil
      · refine lv_astore_n (lv' := [(3, .ref q9), (0, .ref (ca 0 0)), (1, .int p0), (2, .int p1)]) hx hb dL_tryOrder_11 rfl hl (by decide) rfl (fun ls hl => ?_)
        refine lv_ldc (v := (-9999002)) hx hb hown (hts (.constant RL 15 (-9999002)) (by decide +kernel)) dL_tryOrder_12 ?_
        exact kI_ret hE hS hP hD rfl cx_IAE.symm (Nat.le_of_ble_eq_true rfl) (Nat.le_of_ble_eq_true rfl) dL_tryOrder_14
    exact absurd hq List.not_mem_nil
  · have hP := k_uP hP
    have hD := k_uD hD
    subst hx0
    exact kI_ret hE hS hP hD rfl rfl (Nat.le_of_ble_eq_true rfl) (Nat.le_of_ble_eq_true rfl) dL_tryOrder_6
set_option maxHeartbeats 4000000 in
set_option maxRecDepth 100000 in
theorem w_tryPipe (l : Launch) (hfl : l.stackTraces = false) (D : va_G) (cs : Nat → ClassId) (ca : Nat → Nat → Nat) (cv c2 : CV) (p0 : Int32) (p1 : Int32) (hC : CO cv) (x : Option String) (r : Int32) (e0 : k_X5_pipeOf cv p0 p1 = (x, r, c2)) (hL : ∀ E, x = some E → E ∈ [IOB, IAE]) : kI l yL_tryPipe wsL_tryPipe { frames := 7, cells := 1, slots := 6, locals := 111 } 1 6 D cs [.ref (ca 0 0), .int p0, .int p1] (ca_W cs ca cv) (cx x r) (ca_W cs ca c2) := by
  have hc := c_X5_pipeOf l hfl D cs ca cv p0 p1 hC
  rw [e0] at hc
  dsimp only at hc
  refine kH_of (cc := cL_tryPipe) (maxL := 4) (ret := (some .int)) (hh := [(0, 6, 7, 38), (0, 6, 11, 13)]) (by decide) rfl (Nat.le_of_ble_eq_true rfl) ?_
  intro p e s m below meth c A ls H locs hE ht hS hP hD hl
  obtain ⟨hx, hb, hr, hlocks, hml, hown, hts, hK, hA, hG, hnm⟩ := id hE
  have hown : s.vm.findClass RL = some m.cls := hown
  have hl : lv_has ls 4 [(0, .ref (ca 0 0)), (1, .int p0), (2, .int p1)] := hl
  refine lv_aload_n hx hb dL_tryPipe_0 rfl (lv_at hl 0 rfl) ?_
  refine lv_iload_n hx hb dL_tryPipe_1 rfl (lv_at hl 1 rfl) ?_
  refine lv_iload_n hx hb dL_tryPipe_2 rfl (lv_at hl 2 rfl) ?_
  have hP : va_P D vwCl (ca_W cs ca cv ++ []) H := k_nP hP
  have hD : va_D A (ca_W cs ca cv ++ []) := k_nD hD
  refine kX_call (wc := ca_W cs ca cv) (wr := []) (w1 := ca_W cs ca c2) (x := x) (r := r) hE hP hD hS (k_rX (rest := []) (As := [.int p0, .int p1]) hE rfl (hc H.size) (cwV 2 hts gL_tryPipe_X5_pipeOf rfl rfl rfl (by decide +kernel) ⟨(Nat.le_of_ble_eq_true rfl), (Nat.le_of_ble_eq_true rfl)⟩) hP hD hS (ci := 5) (q0 := 0) rfl rfl rfl hl rfl (Nat.le_of_ble_eq_true rfl) ⟨(Nat.le_of_ble_eq_true rfl), (Nat.le_of_ble_eq_true rfl)⟩ dL_tryPipe_3) (fun E ce q9 H locs hE9 hP hD hS hce hcv hcl => ?_) (fun H locs hx0 hP hD hS => ?_)
  · have hP := k_uP hP
    have hD := k_uD hD
    have hq := hL E hE9
    subst hE9
    rcases List.mem_cons.mp hq with hq | hq
    · subst hq
      refine vx_catch (own := RL) (name := IOB) hown (tableOf []) ⟨0, 6, 7, 38⟩ (tableOf [(0, 6, 11, 13)]) (by rw [ht]; rfl) ?_ rfl (by decide) (hts (.classLink RL 38 IOB) (by decide +kernel)) (va_Nw.use rfl (hG.1.2.2.1 _ _ ct_IOB)) hce hcv hcl ?_
      · intro z hz
        exact absurd hz List.not_mem_nil
      · refine lv_astore_n (lv' := [(3, .ref q9), (0, .ref (ca 0 0)), (1, .int p0), (2, .int p1)]) hx hb dL_tryPipe_7 rfl hl (by decide) rfl (fun ls hl => ?_)
        refine lv_ldc (v := (-9999001)) hx hb hown (hts (.constant RL 40 (-9999001)) (by decide +kernel)) dL_tryPipe_8 ?_
        exact kI_ret hE hS hP hD rfl cx_IOB.symm (Nat.le_of_ble_eq_true rfl) (Nat.le_of_ble_eq_true rfl) dL_tryPipe_10
    rcases List.mem_cons.mp hq with hq | hq
    · subst hq
      refine vx_catch (own := RL) (name := IAE) hown (tableOf [(0, 6, 7, 38)]) ⟨0, 6, 11, 13⟩ (tableOf []) (by rw [ht]; rfl) ?_ rfl (by decide) (hts (.classLink RL 13 IAE) (by decide +kernel)) (va_Nw.use rfl (hG.1.2.2.1 _ _ ct_IAE)) hce hcv hcl ?_
      · intro z hz
        rcases List.mem_cons.mp hz with hz | hz
        · subst hz
          exact Or.inr ⟨(by decide), IOB, hts (.classLink RL 38 IOB) (by decide +kernel), hG.2.2.2.2.2.2.1⟩
        exact absurd hz List.not_mem_nil
      · refine lv_astore_n (lv' := [(3, .ref q9), (0, .ref (ca 0 0)), (1, .int p0), (2, .int p1)]) hx hb dL_tryPipe_11 rfl hl (by decide) rfl (fun ls hl => ?_)
        refine lv_ldc (v := (-9999002)) hx hb hown (hts (.constant RL 15 (-9999002)) (by decide +kernel)) dL_tryPipe_12 ?_
        exact kI_ret hE hS hP hD rfl cx_IAE.symm (Nat.le_of_ble_eq_true rfl) (Nat.le_of_ble_eq_true rfl) dL_tryPipe_14
    exact absurd hq List.not_mem_nil
  · have hP := k_uP hP
    have hD := k_uD hD
    subst hx0
    exact kI_ret hE hS hP hD rfl rfl (Nat.le_of_ble_eq_true rfl) (Nat.le_of_ble_eq_true rfl) dL_tryPipe_6
set_option maxHeartbeats 4000000 in
set_option maxRecDepth 100000 in
theorem w_tryChord (l : Launch) (hfl : l.stackTraces = false) (D : va_G) (cs : Nat → ClassId) (ca : Nat → Nat → Nat) (cv c2 : CV) (p0 : Int32) (hC : CO cv) (x : Option String) (r : Int32) (e0 : k_X5_chord cv p0 = (x, r, c2)) (hL : ∀ E, x = some E → E ∈ [IOB]) : kI l yL_tryChord wsL_tryChord { frames := 7, cells := 1, slots := 6, locals := 103 } 1 6 D cs [.ref (ca 0 0), .int p0] (ca_W cs ca cv) (cx x r) (ca_W cs ca c2) := by
  have hc := c_X5_chord l hfl D cs ca cv p0 hC
  rw [e0] at hc
  dsimp only at hc
  refine kH_of (cc := cL_tryChord) (maxL := 3) (ret := (some .int)) (hh := [(0, 5, 6, 38)]) (by decide) rfl (Nat.le_of_ble_eq_true rfl) ?_
  intro p e s m below meth c A ls H locs hE ht hS hP hD hl
  obtain ⟨hx, hb, hr, hlocks, hml, hown, hts, hK, hA, hG, hnm⟩ := id hE
  have hown : s.vm.findClass RL = some m.cls := hown
  have hl : lv_has ls 3 [(0, .ref (ca 0 0)), (1, .int p0)] := hl
  refine lv_aload_n hx hb dL_tryChord_0 rfl (lv_at hl 0 rfl) ?_
  refine lv_iload_n hx hb dL_tryChord_1 rfl (lv_at hl 1 rfl) ?_
  have hP : va_P D vwCl (ca_W cs ca cv ++ []) H := k_nP hP
  have hD : va_D A (ca_W cs ca cv ++ []) := k_nD hD
  refine kX_call (wc := ca_W cs ca cv) (wr := []) (w1 := ca_W cs ca c2) (x := x) (r := r) hE hP hD hS (k_rX (rest := []) (As := [.int p0]) hE rfl (hc H.size) (cwV 1 hts gL_tryChord_X5_chord rfl rfl rfl (by decide +kernel) ⟨(Nat.le_of_ble_eq_true rfl), (Nat.le_of_ble_eq_true rfl)⟩) hP hD hS (ci := 5) (q0 := 0) rfl rfl rfl hl rfl (Nat.le_of_ble_eq_true rfl) ⟨(Nat.le_of_ble_eq_true rfl), (Nat.le_of_ble_eq_true rfl)⟩ dL_tryChord_2) (fun E ce q9 H locs hE9 hP hD hS hce hcv hcl => ?_) (fun H locs hx0 hP hD hS => ?_)
  · have hP := k_uP hP
    have hD := k_uD hD
    have hq := hL E hE9
    subst hE9
    rcases List.mem_cons.mp hq with hq | hq
    · subst hq
      refine vx_catch (own := RL) (name := IOB) hown (tableOf []) ⟨0, 5, 6, 38⟩ (tableOf []) (by rw [ht]; rfl) ?_ rfl (by decide) (hts (.classLink RL 38 IOB) (by decide +kernel)) (va_Nw.use rfl (hG.1.2.2.1 _ _ ct_IOB)) hce hcv hcl ?_
      · intro z hz
        exact absurd hz List.not_mem_nil
      · refine lv_astore_n (lv' := [(2, .ref q9), (0, .ref (ca 0 0)), (1, .int p0)]) hx hb dL_tryChord_6 rfl hl (by decide) rfl (fun ls hl => ?_)
        refine lv_ldc (v := (-9999001)) hx hb hown (hts (.constant RL 40 (-9999001)) (by decide +kernel)) dL_tryChord_7 ?_
        exact kI_ret hE hS hP hD rfl cx_IOB.symm (Nat.le_of_ble_eq_true rfl) (Nat.le_of_ble_eq_true rfl) dL_tryChord_9
    exact absurd hq List.not_mem_nil
  · have hP := k_uP hP
    have hD := k_uD hD
    subst hx0
    exact kI_ret hE hS hP hD rfl rfl (Nat.le_of_ble_eq_true rfl) (Nat.le_of_ble_eq_true rfl) dL_tryChord_5
set_option maxHeartbeats 4000000 in
set_option maxRecDepth 100000 in
theorem w_tryCovered (l : Launch) (hfl : l.stackTraces = false) (D : va_G) (cs : Nat → ClassId) (ca : Nat → Nat → Nat) (cv c2 : CV) (p0 : Int32) (hC : CO cv) (x : Option String) (r : Int32) (e0 : k_X5_covered cv p0 = (x, r, c2)) (hL : ∀ E, x = some E → E ∈ [IAE]) : kI l yL_tryCovered wsL_tryCovered { frames := 7, cells := 1, slots := 6, locals := 111 } 1 6 D cs [.ref (ca 0 0), .int p0] (ca_W cs ca cv) (cx x r) (ca_W cs ca c2) := by
  have hc := c_X5_covered l hfl D cs ca cv p0 hC
  rw [e0] at hc
  dsimp only at hc
  refine kH_of (cc := cL_tryCovered) (maxL := 3) (ret := (some .int)) (hh := [(0, 5, 6, 13)]) (by decide) rfl (Nat.le_of_ble_eq_true rfl) ?_
  intro p e s m below meth c A ls H locs hE ht hS hP hD hl
  obtain ⟨hx, hb, hr, hlocks, hml, hown, hts, hK, hA, hG, hnm⟩ := id hE
  have hown : s.vm.findClass RL = some m.cls := hown
  have hl : lv_has ls 3 [(0, .ref (ca 0 0)), (1, .int p0)] := hl
  refine lv_aload_n hx hb dL_tryCovered_0 rfl (lv_at hl 0 rfl) ?_
  refine lv_iload_n hx hb dL_tryCovered_1 rfl (lv_at hl 1 rfl) ?_
  have hP : va_P D vwCl (ca_W cs ca cv ++ []) H := k_nP hP
  have hD : va_D A (ca_W cs ca cv ++ []) := k_nD hD
  refine kX_call (wc := ca_W cs ca cv) (wr := []) (w1 := ca_W cs ca c2) (x := x) (r := r) hE hP hD hS (k_rX (rest := []) (As := [.int p0]) hE rfl (hc H.size) (cwV 1 hts gL_tryCovered_X5_covered rfl rfl rfl (by decide +kernel) ⟨(Nat.le_of_ble_eq_true rfl), (Nat.le_of_ble_eq_true rfl)⟩) hP hD hS (ci := 5) (q0 := 0) rfl rfl rfl hl rfl (Nat.le_of_ble_eq_true rfl) ⟨(Nat.le_of_ble_eq_true rfl), (Nat.le_of_ble_eq_true rfl)⟩ dL_tryCovered_2) (fun E ce q9 H locs hE9 hP hD hS hce hcv hcl => ?_) (fun H locs hx0 hP hD hS => ?_)
  · have hP := k_uP hP
    have hD := k_uD hD
    have hq := hL E hE9
    subst hE9
    rcases List.mem_cons.mp hq with hq | hq
    · subst hq
      refine vx_catch (own := RL) (name := IAE) hown (tableOf []) ⟨0, 5, 6, 13⟩ (tableOf []) (by rw [ht]; rfl) ?_ rfl (by decide) (hts (.classLink RL 13 IAE) (by decide +kernel)) (va_Nw.use rfl (hG.1.2.2.1 _ _ ct_IAE)) hce hcv hcl ?_
      · intro z hz
        exact absurd hz List.not_mem_nil
      · refine lv_astore_n (lv' := [(2, .ref q9), (0, .ref (ca 0 0)), (1, .int p0)]) hx hb dL_tryCovered_6 rfl hl (by decide) rfl (fun ls hl => ?_)
        refine lv_ldc (v := (-9999002)) hx hb hown (hts (.constant RL 15 (-9999002)) (by decide +kernel)) dL_tryCovered_7 ?_
        exact kI_ret hE hS hP hD rfl cx_IAE.symm (Nat.le_of_ble_eq_true rfl) (Nat.le_of_ble_eq_true rfl) dL_tryCovered_9
    exact absurd hq List.not_mem_nil
  · have hP := k_uP hP
    have hD := k_uD hD
    subst hx0
    exact kI_ret hE hS hP hD rfl rfl (Nat.le_of_ble_eq_true rfl) (Nat.le_of_ble_eq_true rfl) dL_tryCovered_5
set_option maxHeartbeats 4000000 in
set_option maxRecDepth 100000 in
theorem w_trySetting (l : Launch) (hfl : l.stackTraces = false) (D : va_G) (cs : Nat → ClassId) (ca : Nat → Nat → Nat) (cv c2 : CV) (p0 : Int32) (hC : CO cv) (x : Option String) (r : Int32) (e0 : k_X5_setting cv p0 = (x, r, c2)) (hL : ∀ E, x = some E → E ∈ [IAE]) : kI l yL_trySetting wsL_trySetting { frames := 7, cells := 1, slots := 6, locals := 103 } 1 6 D cs [.ref (ca 0 0), .int p0] (ca_W cs ca cv) (cx x r) (ca_W cs ca c2) := by
  have hc := c_X5_setting l hfl D cs ca cv p0 hC
  rw [e0] at hc
  dsimp only at hc
  refine kH_of (cc := cL_trySetting) (maxL := 3) (ret := (some .int)) (hh := [(0, 5, 6, 13)]) (by decide) rfl (Nat.le_of_ble_eq_true rfl) ?_
  intro p e s m below meth c A ls H locs hE ht hS hP hD hl
  obtain ⟨hx, hb, hr, hlocks, hml, hown, hts, hK, hA, hG, hnm⟩ := id hE
  have hown : s.vm.findClass RL = some m.cls := hown
  have hl : lv_has ls 3 [(0, .ref (ca 0 0)), (1, .int p0)] := hl
  refine lv_aload_n hx hb dL_trySetting_0 rfl (lv_at hl 0 rfl) ?_
  refine lv_iload_n hx hb dL_trySetting_1 rfl (lv_at hl 1 rfl) ?_
  have hP : va_P D vwCl (ca_W cs ca cv ++ []) H := k_nP hP
  have hD : va_D A (ca_W cs ca cv ++ []) := k_nD hD
  refine kX_call (wc := ca_W cs ca cv) (wr := []) (w1 := ca_W cs ca c2) (x := x) (r := r) hE hP hD hS (k_rX (rest := []) (As := [.int p0]) hE rfl (hc H.size) (cwV 1 hts gL_trySetting_X5_setting rfl rfl rfl (by decide +kernel) ⟨(Nat.le_of_ble_eq_true rfl), (Nat.le_of_ble_eq_true rfl)⟩) hP hD hS (ci := 5) (q0 := 0) rfl rfl rfl hl rfl (Nat.le_of_ble_eq_true rfl) ⟨(Nat.le_of_ble_eq_true rfl), (Nat.le_of_ble_eq_true rfl)⟩ dL_trySetting_2) (fun E ce q9 H locs hE9 hP hD hS hce hcv hcl => ?_) (fun H locs hx0 hP hD hS => ?_)
  · have hP := k_uP hP
    have hD := k_uD hD
    have hq := hL E hE9
    subst hE9
    rcases List.mem_cons.mp hq with hq | hq
    · subst hq
      refine vx_catch (own := RL) (name := IAE) hown (tableOf []) ⟨0, 5, 6, 13⟩ (tableOf []) (by rw [ht]; rfl) ?_ rfl (by decide) (hts (.classLink RL 13 IAE) (by decide +kernel)) (va_Nw.use rfl (hG.1.2.2.1 _ _ ct_IAE)) hce hcv hcl ?_
      · intro z hz
        exact absurd hz List.not_mem_nil
      · refine lv_astore_n (lv' := [(2, .ref q9), (0, .ref (ca 0 0)), (1, .int p0)]) hx hb dL_trySetting_6 rfl hl (by decide) rfl (fun ls hl => ?_)
        refine lv_ldc (v := (-9999002)) hx hb hown (hts (.constant RL 15 (-9999002)) (by decide +kernel)) dL_trySetting_7 ?_
        exact kI_ret hE hS hP hD rfl cx_IAE.symm (Nat.le_of_ble_eq_true rfl) (Nat.le_of_ble_eq_true rfl) dL_trySetting_9
    exact absurd hq List.not_mem_nil
  · have hP := k_uP hP
    have hD := k_uD hD
    subst hx0
    exact kI_ret hE hS hP hD rfl rfl (Nat.le_of_ble_eq_true rfl) (Nat.le_of_ble_eq_true rfl) dL_trySetting_5
set_option maxHeartbeats 4000000 in
set_option maxRecDepth 100000 in
theorem w_tryPut (l : Launch) (hfl : l.stackTraces = false) (D : va_G) (cs : Nat → ClassId) (ca : Nat → Nat → Nat) (cv c2 : CV) (p0 : Int32) (p1 : Int32) (p2 : Int32) (hC : CO cv) (x : Option String) (r : Int32) (e0 : k_X5_put cv p0 p1 p2 = (x, r, c2)) (hL : ∀ E, x = some E → E ∈ [IOB, IAE, ISE]) : kI l yL_tryPut wsL_tryPut { frames := 7, cells := 1, slots := 6, locals := 167 } 1 6 D cs [.ref (ca 0 0), .int p0, .int p1, .int p2] (ca_W cs ca cv) (cx x r) (ca_W cs ca c2) := by
  have hc := c_X5_put l hfl D cs ca cv p0 p1 p2 hC
  rw [e0] at hc
  dsimp only at hc
  refine kH_of (cc := cL_tryPut) (maxL := 5) (ret := (some .int)) (hh := [(0, 7, 8, 38), (0, 7, 13, 13), (0, 7, 18, 24)]) (by decide) rfl (Nat.le_of_ble_eq_true rfl) ?_
  intro p e s m below meth c A ls H locs hE ht hS hP hD hl
  obtain ⟨hx, hb, hr, hlocks, hml, hown, hts, hK, hA, hG, hnm⟩ := id hE
  have hown : s.vm.findClass RL = some m.cls := hown
  have hl : lv_has ls 5 [(0, .ref (ca 0 0)), (1, .int p0), (2, .int p1), (3, .int p2)] := hl
  refine lv_aload_n hx hb dL_tryPut_0 rfl (lv_at hl 0 rfl) ?_
  refine lv_iload_n hx hb dL_tryPut_1 rfl (lv_at hl 1 rfl) ?_
  refine lv_iload_n hx hb dL_tryPut_2 rfl (lv_at hl 2 rfl) ?_
  refine lv_iload_n hx hb dL_tryPut_3 rfl (lv_at hl 3 rfl) ?_
  have hP : va_P D vwCl (ca_W cs ca cv ++ []) H := k_nP hP
  have hD : va_D A (ca_W cs ca cv ++ []) := k_nD hD
  refine kX_call (wc := ca_W cs ca cv) (wr := []) (w1 := ca_W cs ca c2) (x := x) (r := r) hE hP hD hS (k_rX (rest := []) (As := [.int p0, .int p1, .int p2]) hE rfl (hc H.size) (cwV 3 hts gL_tryPut_X5_put rfl rfl rfl (by decide +kernel) ⟨(Nat.le_of_ble_eq_true rfl), (Nat.le_of_ble_eq_true rfl)⟩) hP hD hS (ci := 5) (q0 := 0) rfl rfl rfl hl rfl (Nat.le_of_ble_eq_true rfl) ⟨(Nat.le_of_ble_eq_true rfl), (Nat.le_of_ble_eq_true rfl)⟩ dL_tryPut_4) (fun E ce q9 H locs hE9 hP hD hS hce hcv hcl => ?_) (fun H locs hx0 hP hD hS => ?_)
  · have hP := k_uP hP
    have hD := k_uD hD
    have hq := hL E hE9
    subst hE9
    rcases List.mem_cons.mp hq with hq | hq
    · subst hq
      refine vx_catch (own := RL) (name := IOB) hown (tableOf []) ⟨0, 7, 8, 38⟩ (tableOf [(0, 7, 13, 13), (0, 7, 18, 24)]) (by rw [ht]; rfl) ?_ rfl (by decide) (hts (.classLink RL 38 IOB) (by decide +kernel)) (va_Nw.use rfl (hG.1.2.2.1 _ _ ct_IOB)) hce hcv hcl ?_
      · intro z hz
        exact absurd hz List.not_mem_nil
      · refine lv_astore (lv' := [(4, .ref q9), (0, .ref (ca 0 0)), (1, .int p0), (2, .int p1), (3, .int p2)]) hx hb dL_tryPut_8 hl (by decide) rfl (fun ls hl => ?_)
        refine lv_ldc (v := (-9999001)) hx hb hown (hts (.constant RL 40 (-9999001)) (by decide +kernel)) dL_tryPut_10 ?_
        exact kI_ret hE hS hP hD rfl cx_IOB.symm (Nat.le_of_ble_eq_true rfl) (Nat.le_of_ble_eq_true rfl) dL_tryPut_12
    rcases List.mem_cons.mp hq with hq | hq
    · subst hq
      refine vx_catch (own := RL) (name := IAE) hown (tableOf [(0, 7, 8, 38)]) ⟨0, 7, 13, 13⟩ (tableOf [(0, 7, 18, 24)]) (by rw [ht]; rfl) ?_ rfl (by decide) (hts (.classLink RL 13 IAE) (by decide +kernel)) (va_Nw.use rfl (hG.1.2.2.1 _ _ ct_IAE)) hce hcv hcl ?_
      · intro z hz
        rcases List.mem_cons.mp hz with hz | hz
        · subst hz
          exact Or.inr ⟨(by decide), IOB, hts (.classLink RL 38 IOB) (by decide +kernel), hG.2.2.2.2.2.2.1⟩
        exact absurd hz List.not_mem_nil
      · refine lv_astore (lv' := [(4, .ref q9), (0, .ref (ca 0 0)), (1, .int p0), (2, .int p1), (3, .int p2)]) hx hb dL_tryPut_13 hl (by decide) rfl (fun ls hl => ?_)
        refine lv_ldc (v := (-9999002)) hx hb hown (hts (.constant RL 15 (-9999002)) (by decide +kernel)) dL_tryPut_15 ?_
        exact kI_ret hE hS hP hD rfl cx_IAE.symm (Nat.le_of_ble_eq_true rfl) (Nat.le_of_ble_eq_true rfl) dL_tryPut_17
    rcases List.mem_cons.mp hq with hq | hq
    · subst hq
      refine vx_catch (own := RL) (name := ISE) hown (tableOf [(0, 7, 8, 38), (0, 7, 13, 13)]) ⟨0, 7, 18, 24⟩ (tableOf []) (by rw [ht]; rfl) ?_ rfl (by decide) (hts (.classLink RL 24 ISE) (by decide +kernel)) (va_Nw.use rfl (hG.1.2.2.1 _ _ ct_ISE)) hce hcv hcl ?_
      · intro z hz
        rcases List.mem_cons.mp hz with hz | hz
        · subst hz
          exact Or.inr ⟨(by decide), IOB, hts (.classLink RL 38 IOB) (by decide +kernel), hG.2.2.2.2.2.2.2⟩
        rcases List.mem_cons.mp hz with hz | hz
        · subst hz
          exact Or.inr ⟨(by decide), IAE, hts (.classLink RL 13 IAE) (by decide +kernel), hG.2.2.2.2.2.1⟩
        exact absurd hz List.not_mem_nil
      · refine lv_astore (lv' := [(4, .ref q9), (0, .ref (ca 0 0)), (1, .int p0), (2, .int p1), (3, .int p2)]) hx hb dL_tryPut_18 hl (by decide) rfl (fun ls hl => ?_)
        refine lv_ldc (v := (-9999003)) hx hb hown (hts (.constant RL 26 (-9999003)) (by decide +kernel)) dL_tryPut_20 ?_
        exact kI_ret hE hS hP hD rfl cx_ISE.symm (Nat.le_of_ble_eq_true rfl) (Nat.le_of_ble_eq_true rfl) dL_tryPut_22
    exact absurd hq List.not_mem_nil
  · have hP := k_uP hP
    have hD := k_uD hD
    subst hx0
    exact kI_ret hE hS hP hD rfl rfl (Nat.le_of_ble_eq_true rfl) (Nat.le_of_ble_eq_true rfl) dL_tryPut_7
set_option maxHeartbeats 4000000 in
set_option maxRecDepth 100000 in
theorem w_tryPull (l : Launch) (hfl : l.stackTraces = false) (D : va_G) (cs : Nat → ClassId) (ca : Nat → Nat → Nat) (cv c2 : CV) (p0 : Int32) (p1 : Int32) (hC : CO cv) (x : Option String) (r : Int32) (e0 : k_X5_pull cv p0 p1 = (x, r, c2)) (hL : ∀ E, x = some E → E ∈ [IOB, ISE]) : kI l yL_tryPull wsL_tryPull { frames := 7, cells := 1, slots := 6, locals := 166 } 1 6 D cs [.ref (ca 0 0), .int p0, .int p1] (ca_W cs ca cv) (cx x r) (ca_W cs ca c2) := by
  have hc := c_X5_pull l hfl D cs ca cv p0 p1 hC
  rw [e0] at hc
  dsimp only at hc
  refine kH_of (cc := cL_tryPull) (maxL := 4) (ret := (some .int)) (hh := [(0, 6, 7, 38), (0, 6, 11, 24)]) (by decide) rfl (Nat.le_of_ble_eq_true rfl) ?_
  intro p e s m below meth c A ls H locs hE ht hS hP hD hl
  obtain ⟨hx, hb, hr, hlocks, hml, hown, hts, hK, hA, hG, hnm⟩ := id hE
  have hown : s.vm.findClass RL = some m.cls := hown
  have hl : lv_has ls 4 [(0, .ref (ca 0 0)), (1, .int p0), (2, .int p1)] := hl
  refine lv_aload_n hx hb dL_tryPull_0 rfl (lv_at hl 0 rfl) ?_
  refine lv_iload_n hx hb dL_tryPull_1 rfl (lv_at hl 1 rfl) ?_
  refine lv_iload_n hx hb dL_tryPull_2 rfl (lv_at hl 2 rfl) ?_
  have hP : va_P D vwCl (ca_W cs ca cv ++ []) H := k_nP hP
  have hD : va_D A (ca_W cs ca cv ++ []) := k_nD hD
  refine kX_call (wc := ca_W cs ca cv) (wr := []) (w1 := ca_W cs ca c2) (x := x) (r := r) hE hP hD hS (k_rX (rest := []) (As := [.int p0, .int p1]) hE rfl (hc H.size) (cwV 2 hts gL_tryPull_X5_pull rfl rfl rfl (by decide +kernel) ⟨(Nat.le_of_ble_eq_true rfl), (Nat.le_of_ble_eq_true rfl)⟩) hP hD hS (ci := 5) (q0 := 0) rfl rfl rfl hl rfl (Nat.le_of_ble_eq_true rfl) ⟨(Nat.le_of_ble_eq_true rfl), (Nat.le_of_ble_eq_true rfl)⟩ dL_tryPull_3) (fun E ce q9 H locs hE9 hP hD hS hce hcv hcl => ?_) (fun H locs hx0 hP hD hS => ?_)
  · have hP := k_uP hP
    have hD := k_uD hD
    have hq := hL E hE9
    subst hE9
    rcases List.mem_cons.mp hq with hq | hq
    · subst hq
      refine vx_catch (own := RL) (name := IOB) hown (tableOf []) ⟨0, 6, 7, 38⟩ (tableOf [(0, 6, 11, 24)]) (by rw [ht]; rfl) ?_ rfl (by decide) (hts (.classLink RL 38 IOB) (by decide +kernel)) (va_Nw.use rfl (hG.1.2.2.1 _ _ ct_IOB)) hce hcv hcl ?_
      · intro z hz
        exact absurd hz List.not_mem_nil
      · refine lv_astore_n (lv' := [(3, .ref q9), (0, .ref (ca 0 0)), (1, .int p0), (2, .int p1)]) hx hb dL_tryPull_7 rfl hl (by decide) rfl (fun ls hl => ?_)
        refine lv_ldc (v := (-9999001)) hx hb hown (hts (.constant RL 40 (-9999001)) (by decide +kernel)) dL_tryPull_8 ?_
        exact kI_ret hE hS hP hD rfl cx_IOB.symm (Nat.le_of_ble_eq_true rfl) (Nat.le_of_ble_eq_true rfl) dL_tryPull_10
    rcases List.mem_cons.mp hq with hq | hq
    · subst hq
      refine vx_catch (own := RL) (name := ISE) hown (tableOf [(0, 6, 7, 38)]) ⟨0, 6, 11, 24⟩ (tableOf []) (by rw [ht]; rfl) ?_ rfl (by decide) (hts (.classLink RL 24 ISE) (by decide +kernel)) (va_Nw.use rfl (hG.1.2.2.1 _ _ ct_ISE)) hce hcv hcl ?_
      · intro z hz
        rcases List.mem_cons.mp hz with hz | hz
        · subst hz
          exact Or.inr ⟨(by decide), IOB, hts (.classLink RL 38 IOB) (by decide +kernel), hG.2.2.2.2.2.2.2⟩
        exact absurd hz List.not_mem_nil
      · refine lv_astore_n (lv' := [(3, .ref q9), (0, .ref (ca 0 0)), (1, .int p0), (2, .int p1)]) hx hb dL_tryPull_11 rfl hl (by decide) rfl (fun ls hl => ?_)
        refine lv_ldc (v := (-9999003)) hx hb hown (hts (.constant RL 26 (-9999003)) (by decide +kernel)) dL_tryPull_12 ?_
        exact kI_ret hE hS hP hD rfl cx_ISE.symm (Nat.le_of_ble_eq_true rfl) (Nat.le_of_ble_eq_true rfl) dL_tryPull_14
    exact absurd hq List.not_mem_nil
  · have hP := k_uP hP
    have hD := k_uD hD
    subst hx0
    exact kI_ret hE hS hP hD rfl rfl (Nat.le_of_ble_eq_true rfl) (Nat.le_of_ble_eq_true rfl) dL_tryPull_6
set_option maxHeartbeats 4000000 in
set_option maxRecDepth 100000 in
theorem w_tryCancel (l : Launch) (hfl : l.stackTraces = false) (D : va_G) (cs : Nat → ClassId) (ca : Nat → Nat → Nat) (cv c2 : CV) (p0 : Int32) (hC : CO cv) (x : Option String) (r : Int32) (e0 : k_X5_cancel cv p0 = (x, r, c2)) (hL : ∀ E, x = some E → E ∈ [IOB]) : kI l yL_tryCancel wsL_tryCancel { frames := 7, cells := 1, slots := 6, locals := 165 } 1 6 D cs [.ref (ca 0 0), .int p0] (ca_W cs ca cv) (cx x r) (ca_W cs ca c2) := by
  have hc := c_X5_cancel l hfl D cs ca cv p0 hC
  rw [e0] at hc
  dsimp only at hc
  refine kH_of (cc := cL_tryCancel) (maxL := 3) (ret := (some .int)) (hh := [(0, 5, 6, 38)]) (by decide) rfl (Nat.le_of_ble_eq_true rfl) ?_
  intro p e s m below meth c A ls H locs hE ht hS hP hD hl
  obtain ⟨hx, hb, hr, hlocks, hml, hown, hts, hK, hA, hG, hnm⟩ := id hE
  have hown : s.vm.findClass RL = some m.cls := hown
  have hl : lv_has ls 3 [(0, .ref (ca 0 0)), (1, .int p0)] := hl
  refine lv_aload_n hx hb dL_tryCancel_0 rfl (lv_at hl 0 rfl) ?_
  refine lv_iload_n hx hb dL_tryCancel_1 rfl (lv_at hl 1 rfl) ?_
  have hP : va_P D vwCl (ca_W cs ca cv ++ []) H := k_nP hP
  have hD : va_D A (ca_W cs ca cv ++ []) := k_nD hD
  refine kX_call (wc := ca_W cs ca cv) (wr := []) (w1 := ca_W cs ca c2) (x := x) (r := r) hE hP hD hS (k_rX (rest := []) (As := [.int p0]) hE rfl (hc H.size) (cwV 1 hts gL_tryCancel_X5_cancel rfl rfl rfl (by decide +kernel) ⟨(Nat.le_of_ble_eq_true rfl), (Nat.le_of_ble_eq_true rfl)⟩) hP hD hS (ci := 5) (q0 := 0) rfl rfl rfl hl rfl (Nat.le_of_ble_eq_true rfl) ⟨(Nat.le_of_ble_eq_true rfl), (Nat.le_of_ble_eq_true rfl)⟩ dL_tryCancel_2) (fun E ce q9 H locs hE9 hP hD hS hce hcv hcl => ?_) (fun H locs hx0 hP hD hS => ?_)
  · have hP := k_uP hP
    have hD := k_uD hD
    have hq := hL E hE9
    subst hE9
    rcases List.mem_cons.mp hq with hq | hq
    · subst hq
      refine vx_catch (own := RL) (name := IOB) hown (tableOf []) ⟨0, 5, 6, 38⟩ (tableOf []) (by rw [ht]; rfl) ?_ rfl (by decide) (hts (.classLink RL 38 IOB) (by decide +kernel)) (va_Nw.use rfl (hG.1.2.2.1 _ _ ct_IOB)) hce hcv hcl ?_
      · intro z hz
        exact absurd hz List.not_mem_nil
      · refine lv_astore_n (lv' := [(2, .ref q9), (0, .ref (ca 0 0)), (1, .int p0)]) hx hb dL_tryCancel_6 rfl hl (by decide) rfl (fun ls hl => ?_)
        refine lv_ldc (v := (-9999001)) hx hb hown (hts (.constant RL 40 (-9999001)) (by decide +kernel)) dL_tryCancel_7 ?_
        exact kI_ret hE hS hP hD rfl cx_IOB.symm (Nat.le_of_ble_eq_true rfl) (Nat.le_of_ble_eq_true rfl) dL_tryCancel_9
    exact absurd hq List.not_mem_nil
  · have hP := k_uP hP
    have hD := k_uD hD
    subst hx0
    exact kI_ret hE hS hP hD rfl rfl (Nat.le_of_ble_eq_true rfl) (Nat.le_of_ble_eq_true rfl) dL_tryCancel_5
set_option maxHeartbeats 4000000 in
set_option maxRecDepth 100000 in
theorem w_tryTicks (l : Launch) (hfl : l.stackTraces = false) (D : va_G) (cs : Nat → ClassId) (ca : Nat → Nat → Nat) (cv c2 : CV) (p0 : Int32) (hC : CO cv) (x : Option String) (r : Int32) (e0 : k_X5_ticks cv p0 = (x, r, c2)) (hL : ∀ E, x = some E → E ∈ [IAE]) : kI l yL_tryTicks wsL_tryTicks { frames := 7, cells := 1, slots := 6, locals := 173 } 1 6 D cs [.ref (ca 0 0), .int p0] (ca_W cs ca cv) (cx x r) (ca_W cs ca c2) := by
  have hc := c_X5_ticks l hfl D cs ca cv p0 hC
  rw [e0] at hc
  dsimp only at hc
  refine kH_of (cc := cL_tryTicks) (maxL := 3) (ret := (some .int)) (hh := [(0, 5, 6, 13)]) (by decide) rfl (Nat.le_of_ble_eq_true rfl) ?_
  intro p e s m below meth c A ls H locs hE ht hS hP hD hl
  obtain ⟨hx, hb, hr, hlocks, hml, hown, hts, hK, hA, hG, hnm⟩ := id hE
  have hown : s.vm.findClass RL = some m.cls := hown
  have hl : lv_has ls 3 [(0, .ref (ca 0 0)), (1, .int p0)] := hl
  refine lv_aload_n hx hb dL_tryTicks_0 rfl (lv_at hl 0 rfl) ?_
  refine lv_iload_n hx hb dL_tryTicks_1 rfl (lv_at hl 1 rfl) ?_
  have hP : va_P D vwCl (ca_W cs ca cv ++ []) H := k_nP hP
  have hD : va_D A (ca_W cs ca cv ++ []) := k_nD hD
  refine kX_call (wc := ca_W cs ca cv) (wr := []) (w1 := ca_W cs ca c2) (x := x) (r := r) hE hP hD hS (k_rX (rest := []) (As := [.int p0]) hE rfl (hc H.size) (cwV 1 hts gL_tryTicks_X5_ticks rfl rfl rfl (by decide +kernel) ⟨(Nat.le_of_ble_eq_true rfl), (Nat.le_of_ble_eq_true rfl)⟩) hP hD hS (ci := 5) (q0 := 0) rfl rfl rfl hl rfl (Nat.le_of_ble_eq_true rfl) ⟨(Nat.le_of_ble_eq_true rfl), (Nat.le_of_ble_eq_true rfl)⟩ dL_tryTicks_2) (fun E ce q9 H locs hE9 hP hD hS hce hcv hcl => ?_) (fun H locs hx0 hP hD hS => ?_)
  · have hP := k_uP hP
    have hD := k_uD hD
    have hq := hL E hE9
    subst hE9
    rcases List.mem_cons.mp hq with hq | hq
    · subst hq
      refine vx_catch (own := RL) (name := IAE) hown (tableOf []) ⟨0, 5, 6, 13⟩ (tableOf []) (by rw [ht]; rfl) ?_ rfl (by decide) (hts (.classLink RL 13 IAE) (by decide +kernel)) (va_Nw.use rfl (hG.1.2.2.1 _ _ ct_IAE)) hce hcv hcl ?_
      · intro z hz
        exact absurd hz List.not_mem_nil
      · refine lv_astore_n (lv' := [(2, .ref q9), (0, .ref (ca 0 0)), (1, .int p0)]) hx hb dL_tryTicks_6 rfl hl (by decide) rfl (fun ls hl => ?_)
        refine lv_ldc (v := (-9999002)) hx hb hown (hts (.constant RL 15 (-9999002)) (by decide +kernel)) dL_tryTicks_7 ?_
        exact kI_ret hE hS hP hD rfl cx_IAE.symm (Nat.le_of_ble_eq_true rfl) (Nat.le_of_ble_eq_true rfl) dL_tryTicks_9
    exact absurd hq List.not_mem_nil
  · have hP := k_uP hP
    have hD := k_uD hD
    subst hx0
    exact kI_ret hE hS hP hD rfl rfl (Nat.le_of_ble_eq_true rfl) (Nat.le_of_ble_eq_true rfl) dL_tryTicks_5
set_option maxHeartbeats 4000000 in
set_option maxRecDepth 100000 in
theorem w_tryLay (l : Launch) (hfl : l.stackTraces = false) (D : va_G) (cs : Nat → ClassId) (ca : Nat → Nat → Nat) (cv c2 : CV) (p0 : Int32) (p1 : Int32) (hC : CO cv) (x : Option String) (r : Int32) (e0 : k_X5_set cv p0 p1 = (x, r, c2)) (hL : ∀ E, x = some E → E ∈ [IAE]) : kI l yL_tryLay wsL_tryLay { frames := 7, cells := 1, slots := 6, locals := 166 } 1 6 D cs [.ref (ca 0 0), .int p0, .int p1] (ca_W cs ca cv) (cx x r) (ca_W cs ca c2) := by
  have hc := c_X5_set l hfl D cs ca cv p0 p1 hC
  rw [e0] at hc
  dsimp only at hc
  refine kH_of (cc := cL_tryLay) (maxL := 4) (ret := (some .int)) (hh := [(0, 6, 7, 13)]) (by decide) rfl (Nat.le_of_ble_eq_true rfl) ?_
  intro p e s m below meth c A ls H locs hE ht hS hP hD hl
  obtain ⟨hx, hb, hr, hlocks, hml, hown, hts, hK, hA, hG, hnm⟩ := id hE
  have hown : s.vm.findClass RL = some m.cls := hown
  have hl : lv_has ls 4 [(0, .ref (ca 0 0)), (1, .int p0), (2, .int p1)] := hl
  refine lv_aload_n hx hb dL_tryLay_0 rfl (lv_at hl 0 rfl) ?_
  refine lv_iload_n hx hb dL_tryLay_1 rfl (lv_at hl 1 rfl) ?_
  refine lv_iload_n hx hb dL_tryLay_2 rfl (lv_at hl 2 rfl) ?_
  have hP : va_P D vwCl (ca_W cs ca cv ++ []) H := k_nP hP
  have hD : va_D A (ca_W cs ca cv ++ []) := k_nD hD
  refine kX_call (wc := ca_W cs ca cv) (wr := []) (w1 := ca_W cs ca c2) (x := x) (r := r) hE hP hD hS (k_rX (rest := []) (As := [.int p0, .int p1]) hE rfl (hc H.size) (cwV 2 hts gL_tryLay_X5_set rfl rfl rfl (by decide +kernel) ⟨(Nat.le_of_ble_eq_true rfl), (Nat.le_of_ble_eq_true rfl)⟩) hP hD hS (ci := 5) (q0 := 0) rfl rfl rfl hl rfl (Nat.le_of_ble_eq_true rfl) ⟨(Nat.le_of_ble_eq_true rfl), (Nat.le_of_ble_eq_true rfl)⟩ dL_tryLay_3) (fun E ce q9 H locs hE9 hP hD hS hce hcv hcl => ?_) (fun H locs hx0 hP hD hS => ?_)
  · have hP := k_uP hP
    have hD := k_uD hD
    have hq := hL E hE9
    subst hE9
    rcases List.mem_cons.mp hq with hq | hq
    · subst hq
      refine vx_catch (own := RL) (name := IAE) hown (tableOf []) ⟨0, 6, 7, 13⟩ (tableOf []) (by rw [ht]; rfl) ?_ rfl (by decide) (hts (.classLink RL 13 IAE) (by decide +kernel)) (va_Nw.use rfl (hG.1.2.2.1 _ _ ct_IAE)) hce hcv hcl ?_
      · intro z hz
        exact absurd hz List.not_mem_nil
      · refine lv_astore_n (lv' := [(3, .ref q9), (0, .ref (ca 0 0)), (1, .int p0), (2, .int p1)]) hx hb dL_tryLay_7 rfl hl (by decide) rfl (fun ls hl => ?_)
        refine lv_ldc (v := (-9999002)) hx hb hown (hts (.constant RL 15 (-9999002)) (by decide +kernel)) dL_tryLay_8 ?_
        exact kI_ret hE hS hP hD rfl cx_IAE.symm (Nat.le_of_ble_eq_true rfl) (Nat.le_of_ble_eq_true rfl) dL_tryLay_10
    exact absurd hq List.not_mem_nil
  · have hP := k_uP hP
    have hD := k_uD hD
    subst hx0
    exact kI_ret hE hS hP hD rfl rfl (Nat.le_of_ble_eq_true rfl) (Nat.le_of_ble_eq_true rfl) dL_tryLay_6
set_option maxHeartbeats 4000000 in
set_option maxRecDepth 100000 in
theorem w_tryUndo (l : Launch) (hfl : l.stackTraces = false) (D : va_G) (cs : Nat → ClassId) (ca : Nat → Nat → Nat) (cv c2 : CV) (hC : CO cv) (x : Option String) (r : Int32) (e0 : k_X5_undo cv = (x, r, c2)) (hL : ∀ E, x = some E → E ∈ [ISE]) : kI l yL_tryUndo wsL_tryUndo { frames := 7, cells := 1, slots := 6, locals := 164 } 1 6 D cs [.ref (ca 0 0)] (ca_W cs ca cv) (cx x r) (ca_W cs ca c2) := by
  have hc := c_X5_undo l hfl D cs ca cv hC
  rw [e0] at hc
  dsimp only at hc
  refine kH_of (cc := cL_tryUndo) (maxL := 2) (ret := (some .int)) (hh := [(0, 4, 5, 24)]) (by decide) rfl (Nat.le_of_ble_eq_true rfl) ?_
  intro p e s m below meth c A ls H locs hE ht hS hP hD hl
  obtain ⟨hx, hb, hr, hlocks, hml, hown, hts, hK, hA, hG, hnm⟩ := id hE
  have hown : s.vm.findClass RL = some m.cls := hown
  have hl : lv_has ls 2 [(0, .ref (ca 0 0))] := hl
  refine lv_aload_n hx hb dL_tryUndo_0 rfl (lv_at hl 0 rfl) ?_
  have hP : va_P D vwCl (ca_W cs ca cv ++ []) H := k_nP hP
  have hD : va_D A (ca_W cs ca cv ++ []) := k_nD hD
  refine kX_call (wc := ca_W cs ca cv) (wr := []) (w1 := ca_W cs ca c2) (x := x) (r := r) hE hP hD hS (k_rX (rest := []) (As := []) hE rfl (hc H.size) (cwV 0 hts gL_tryUndo_X5_undo rfl rfl rfl (by decide +kernel) ⟨(Nat.le_of_ble_eq_true rfl), (Nat.le_of_ble_eq_true rfl)⟩) hP hD hS (ci := 5) (q0 := 0) rfl rfl rfl hl rfl (Nat.le_of_ble_eq_true rfl) ⟨(Nat.le_of_ble_eq_true rfl), (Nat.le_of_ble_eq_true rfl)⟩ dL_tryUndo_1) (fun E ce q9 H locs hE9 hP hD hS hce hcv hcl => ?_) (fun H locs hx0 hP hD hS => ?_)
  · have hP := k_uP hP
    have hD := k_uD hD
    have hq := hL E hE9
    subst hE9
    rcases List.mem_cons.mp hq with hq | hq
    · subst hq
      refine vx_catch (own := RL) (name := ISE) hown (tableOf []) ⟨0, 4, 5, 24⟩ (tableOf []) (by rw [ht]; rfl) ?_ rfl (by decide) (hts (.classLink RL 24 ISE) (by decide +kernel)) (va_Nw.use rfl (hG.1.2.2.1 _ _ ct_ISE)) hce hcv hcl ?_
      · intro z hz
        exact absurd hz List.not_mem_nil
      · refine lv_astore_n (lv' := [(1, .ref q9), (0, .ref (ca 0 0))]) hx hb dL_tryUndo_5 rfl hl (by decide) rfl (fun ls hl => ?_)
        refine lv_ldc (v := (-9999003)) hx hb hown (hts (.constant RL 26 (-9999003)) (by decide +kernel)) dL_tryUndo_6 ?_
        exact kI_ret hE hS hP hD rfl cx_ISE.symm (Nat.le_of_ble_eq_true rfl) (Nat.le_of_ble_eq_true rfl) dL_tryUndo_8
    exact absurd hq List.not_mem_nil
  · have hP := k_uP hP
    have hD := k_uD hD
    subst hx0
    exact kI_ret hE hS hP hD rfl rfl (Nat.le_of_ble_eq_true rfl) (Nat.le_of_ble_eq_true rfl) dL_tryUndo_4
set_option maxHeartbeats 4000000 in
set_option maxRecDepth 100000 in
theorem w_tryDone (l : Launch) (hfl : l.stackTraces = false) (D : va_G) (cs : Nat → ClassId) (ca : Nat → Nat → Nat) (cv c2 : CV) (p0 : Int32) (hC : CO cv) (x : Option String) (r : Int32) (e0 : k_X5_doneIn cv p0 = (x, r, c2)) (hL : ∀ E, x = some E → E ∈ [IOB]) : kI l yL_tryDone wsL_tryDone { frames := 7, cells := 1, slots := 6, locals := 174 } 1 6 D cs [.ref (ca 0 0), .int p0] (ca_W cs ca cv) (cx x r) (ca_W cs ca c2) := by
  have hc := c_X5_doneIn l hfl D cs ca cv p0 hC
  rw [e0] at hc
  dsimp only at hc
  refine kH_of (cc := cL_tryDone) (maxL := 3) (ret := (some .int)) (hh := [(0, 5, 6, 38)]) (by decide) rfl (Nat.le_of_ble_eq_true rfl) ?_
  intro p e s m below meth c A ls H locs hE ht hS hP hD hl
  obtain ⟨hx, hb, hr, hlocks, hml, hown, hts, hK, hA, hG, hnm⟩ := id hE
  have hown : s.vm.findClass RL = some m.cls := hown
  have hl : lv_has ls 3 [(0, .ref (ca 0 0)), (1, .int p0)] := hl
  refine lv_aload_n hx hb dL_tryDone_0 rfl (lv_at hl 0 rfl) ?_
  refine lv_iload_n hx hb dL_tryDone_1 rfl (lv_at hl 1 rfl) ?_
  have hP : va_P D vwCl (ca_W cs ca cv ++ []) H := k_nP hP
  have hD : va_D A (ca_W cs ca cv ++ []) := k_nD hD
  refine kX_call (wc := ca_W cs ca cv) (wr := []) (w1 := ca_W cs ca c2) (x := x) (r := r) hE hP hD hS (k_rX (rest := []) (As := [.int p0]) hE rfl (hc H.size) (cwV 1 hts gL_tryDone_X5_doneIn rfl rfl rfl (by decide +kernel) ⟨(Nat.le_of_ble_eq_true rfl), (Nat.le_of_ble_eq_true rfl)⟩) hP hD hS (ci := 5) (q0 := 0) rfl rfl rfl hl rfl (Nat.le_of_ble_eq_true rfl) ⟨(Nat.le_of_ble_eq_true rfl), (Nat.le_of_ble_eq_true rfl)⟩ dL_tryDone_2) (fun E ce q9 H locs hE9 hP hD hS hce hcv hcl => ?_) (fun H locs hx0 hP hD hS => ?_)
  · have hP := k_uP hP
    have hD := k_uD hD
    have hq := hL E hE9
    subst hE9
    rcases List.mem_cons.mp hq with hq | hq
    · subst hq
      refine vx_catch (own := RL) (name := IOB) hown (tableOf []) ⟨0, 5, 6, 38⟩ (tableOf []) (by rw [ht]; rfl) ?_ rfl (by decide) (hts (.classLink RL 38 IOB) (by decide +kernel)) (va_Nw.use rfl (hG.1.2.2.1 _ _ ct_IOB)) hce hcv hcl ?_
      · intro z hz
        exact absurd hz List.not_mem_nil
      · refine lv_astore_n (lv' := [(2, .ref q9), (0, .ref (ca 0 0)), (1, .int p0)]) hx hb dL_tryDone_6 rfl hl (by decide) rfl (fun ls hl => ?_)
        refine lv_ldc (v := (-9999001)) hx hb hown (hts (.constant RL 40 (-9999001)) (by decide +kernel)) dL_tryDone_7 ?_
        exact kI_ret hE hS hP hD rfl cx_IOB.symm (Nat.le_of_ble_eq_true rfl) (Nat.le_of_ble_eq_true rfl) dL_tryDone_9
    exact absurd hq List.not_mem_nil
  · have hP := k_uP hP
    have hD := k_uD hD
    subst hx0
    exact kI_ret hE hS hP hD rfl rfl (Nat.le_of_ble_eq_true rfl) (Nat.le_of_ble_eq_true rfl) dL_tryDone_5
set_option maxHeartbeats 4000000 in
set_option maxRecDepth 100000 in
theorem w_trySounds (l : Launch) (hfl : l.stackTraces = false) (D : va_G) (cs : Nat → ClassId) (ca : Nat → Nat → Nat) (cv c2 : CV) (p0 : Int32) (hC : CO cv) (x : Option String) (r : Int32) (e0 : k_X5_soundsIn cv p0 = (x, r, c2)) (hL : ∀ E, x = some E → E ∈ [IOB]) : kI l yL_trySounds wsL_trySounds { frames := 7, cells := 1, slots := 6, locals := 174 } 1 6 D cs [.ref (ca 0 0), .int p0] (ca_W cs ca cv) (cx x r) (ca_W cs ca c2) := by
  have hc := c_X5_soundsIn l hfl D cs ca cv p0 hC
  rw [e0] at hc
  dsimp only at hc
  refine kH_of (cc := cL_trySounds) (maxL := 3) (ret := (some .int)) (hh := [(0, 5, 6, 38)]) (by decide) rfl (Nat.le_of_ble_eq_true rfl) ?_
  intro p e s m below meth c A ls H locs hE ht hS hP hD hl
  obtain ⟨hx, hb, hr, hlocks, hml, hown, hts, hK, hA, hG, hnm⟩ := id hE
  have hown : s.vm.findClass RL = some m.cls := hown
  have hl : lv_has ls 3 [(0, .ref (ca 0 0)), (1, .int p0)] := hl
  refine lv_aload_n hx hb dL_trySounds_0 rfl (lv_at hl 0 rfl) ?_
  refine lv_iload_n hx hb dL_trySounds_1 rfl (lv_at hl 1 rfl) ?_
  have hP : va_P D vwCl (ca_W cs ca cv ++ []) H := k_nP hP
  have hD : va_D A (ca_W cs ca cv ++ []) := k_nD hD
  refine kX_call (wc := ca_W cs ca cv) (wr := []) (w1 := ca_W cs ca c2) (x := x) (r := r) hE hP hD hS (k_rX (rest := []) (As := [.int p0]) hE rfl (hc H.size) (cwV 1 hts gL_trySounds_X5_soundsIn rfl rfl rfl (by decide +kernel) ⟨(Nat.le_of_ble_eq_true rfl), (Nat.le_of_ble_eq_true rfl)⟩) hP hD hS (ci := 5) (q0 := 0) rfl rfl rfl hl rfl (Nat.le_of_ble_eq_true rfl) ⟨(Nat.le_of_ble_eq_true rfl), (Nat.le_of_ble_eq_true rfl)⟩ dL_trySounds_2) (fun E ce q9 H locs hE9 hP hD hS hce hcv hcl => ?_) (fun H locs hx0 hP hD hS => ?_)
  · have hP := k_uP hP
    have hD := k_uD hD
    have hq := hL E hE9
    subst hE9
    rcases List.mem_cons.mp hq with hq | hq
    · subst hq
      refine vx_catch (own := RL) (name := IOB) hown (tableOf []) ⟨0, 5, 6, 38⟩ (tableOf []) (by rw [ht]; rfl) ?_ rfl (by decide) (hts (.classLink RL 38 IOB) (by decide +kernel)) (va_Nw.use rfl (hG.1.2.2.1 _ _ ct_IOB)) hce hcv hcl ?_
      · intro z hz
        exact absurd hz List.not_mem_nil
      · refine lv_astore_n (lv' := [(2, .ref q9), (0, .ref (ca 0 0)), (1, .int p0)]) hx hb dL_trySounds_6 rfl hl (by decide) rfl (fun ls hl => ?_)
        refine lv_ldc (v := (-9999001)) hx hb hown (hts (.constant RL 40 (-9999001)) (by decide +kernel)) dL_trySounds_7 ?_
        exact kI_ret hE hS hP hD rfl cx_IOB.symm (Nat.le_of_ble_eq_true rfl) (Nat.le_of_ble_eq_true rfl) dL_trySounds_9
    exact absurd hq List.not_mem_nil
  · have hP := k_uP hP
    have hD := k_uD hD
    subst hx0
    exact kI_ret hE hS hP hD rfl rfl (Nat.le_of_ble_eq_true rfl) (Nat.le_of_ble_eq_true rfl) dL_trySounds_5
set_option maxHeartbeats 4000000 in
set_option maxRecDepth 100000 in
theorem w_tryLeast (l : Launch) (hfl : l.stackTraces = false) (D : va_G) (cs : Nat → ClassId) (ca : Nat → Nat → Nat) (cv c2 : CV) (p0 : Int32) (hC : CO cv) (x : Option String) (r : Int32) (e0 : k_X5_leastSpeed cv p0 = (x, r, c2)) (hL : ∀ E, x = some E → E ∈ [IAE]) : kI l yL_tryLeast wsL_tryLeast { frames := 7, cells := 1, slots := 6, locals := 174 } 1 6 D cs [.ref (ca 0 0), .int p0] (ca_W cs ca cv) (cx x r) (ca_W cs ca c2) := by
  have hc := c_X5_leastSpeed l hfl D cs ca cv p0 hC
  rw [e0] at hc
  dsimp only at hc
  refine kH_of (cc := cL_tryLeast) (maxL := 3) (ret := (some .int)) (hh := [(0, 5, 6, 13)]) (by decide) rfl (Nat.le_of_ble_eq_true rfl) ?_
  intro p e s m below meth c A ls H locs hE ht hS hP hD hl
  obtain ⟨hx, hb, hr, hlocks, hml, hown, hts, hK, hA, hG, hnm⟩ := id hE
  have hown : s.vm.findClass RL = some m.cls := hown
  have hl : lv_has ls 3 [(0, .ref (ca 0 0)), (1, .int p0)] := hl
  refine lv_aload_n hx hb dL_tryLeast_0 rfl (lv_at hl 0 rfl) ?_
  refine lv_iload_n hx hb dL_tryLeast_1 rfl (lv_at hl 1 rfl) ?_
  have hP : va_P D vwCl (ca_W cs ca cv ++ []) H := k_nP hP
  have hD : va_D A (ca_W cs ca cv ++ []) := k_nD hD
  refine kX_call (wc := ca_W cs ca cv) (wr := []) (w1 := ca_W cs ca c2) (x := x) (r := r) hE hP hD hS (k_rX (rest := []) (As := [.int p0]) hE rfl (hc H.size) (cwV 1 hts gL_tryLeast_X5_leastSpeed rfl rfl rfl (by decide +kernel) ⟨(Nat.le_of_ble_eq_true rfl), (Nat.le_of_ble_eq_true rfl)⟩) hP hD hS (ci := 5) (q0 := 0) rfl rfl rfl hl rfl (Nat.le_of_ble_eq_true rfl) ⟨(Nat.le_of_ble_eq_true rfl), (Nat.le_of_ble_eq_true rfl)⟩ dL_tryLeast_2) (fun E ce q9 H locs hE9 hP hD hS hce hcv hcl => ?_) (fun H locs hx0 hP hD hS => ?_)
  · have hP := k_uP hP
    have hD := k_uD hD
    have hq := hL E hE9
    subst hE9
    rcases List.mem_cons.mp hq with hq | hq
    · subst hq
      refine vx_catch (own := RL) (name := IAE) hown (tableOf []) ⟨0, 5, 6, 13⟩ (tableOf []) (by rw [ht]; rfl) ?_ rfl (by decide) (hts (.classLink RL 13 IAE) (by decide +kernel)) (va_Nw.use rfl (hG.1.2.2.1 _ _ ct_IAE)) hce hcv hcl ?_
      · intro z hz
        exact absurd hz List.not_mem_nil
      · refine lv_astore_n (lv' := [(2, .ref q9), (0, .ref (ca 0 0)), (1, .int p0)]) hx hb dL_tryLeast_6 rfl hl (by decide) rfl (fun ls hl => ?_)
        refine lv_ldc (v := (-9999002)) hx hb hown (hts (.constant RL 15 (-9999002)) (by decide +kernel)) dL_tryLeast_7 ?_
        exact kI_ret hE hS hP hD rfl cx_IAE.symm (Nat.le_of_ble_eq_true rfl) (Nat.le_of_ble_eq_true rfl) dL_tryLeast_9
    exact absurd hq List.not_mem_nil
  · have hP := k_uP hP
    have hD := k_uD hD
    subst hx0
    exact kI_ret hE hS hP hD rfl rfl (Nat.le_of_ble_eq_true rfl) (Nat.le_of_ble_eq_true rfl) dL_tryLeast_5
set_option maxHeartbeats 4000000 in
set_option maxRecDepth 100000 in
theorem w_tryRoom (l : Launch) (hfl : l.stackTraces = false) (D : va_G) (cs : Nat → ClassId) (ca : Nat → Nat → Nat) (cv c2 : CV) (p0 : Int32) (p1 : Int32) (hC : CO cv) (x : Option String) (r : Int32) (e0 : k_X5_room cv p0 p1 = (x, r, c2)) (hL : ∀ E, x = some E → E ∈ [IOB, IAE]) : kI l yL_tryRoom wsL_tryRoom { frames := 7, cells := 1, slots := 6, locals := 105 } 1 6 D cs [.ref (ca 0 0), .int p0, .int p1] (ca_W cs ca cv) (cx x r) (ca_W cs ca c2) := by
  have hc := c_X5_room l hfl D cs ca cv p0 p1 hC
  rw [e0] at hc
  dsimp only at hc
  refine kH_of (cc := cL_tryRoom) (maxL := 4) (ret := (some .int)) (hh := [(0, 6, 7, 38), (0, 6, 11, 13)]) (by decide) rfl (Nat.le_of_ble_eq_true rfl) ?_
  intro p e s m below meth c A ls H locs hE ht hS hP hD hl
  obtain ⟨hx, hb, hr, hlocks, hml, hown, hts, hK, hA, hG, hnm⟩ := id hE
  have hown : s.vm.findClass RL = some m.cls := hown
  have hl : lv_has ls 4 [(0, .ref (ca 0 0)), (1, .int p0), (2, .int p1)] := hl
  refine lv_aload_n hx hb dL_tryRoom_0 rfl (lv_at hl 0 rfl) ?_
  refine lv_iload_n hx hb dL_tryRoom_1 rfl (lv_at hl 1 rfl) ?_
  refine lv_iload_n hx hb dL_tryRoom_2 rfl (lv_at hl 2 rfl) ?_
  have hP : va_P D vwCl (ca_W cs ca cv ++ []) H := k_nP hP
  have hD : va_D A (ca_W cs ca cv ++ []) := k_nD hD
  refine kX_call (wc := ca_W cs ca cv) (wr := []) (w1 := ca_W cs ca c2) (x := x) (r := r) hE hP hD hS (k_rX (rest := []) (As := [.int p0, .int p1]) hE rfl (hc H.size) (cwV 2 hts gL_tryRoom_X5_room rfl rfl rfl (by decide +kernel) ⟨(Nat.le_of_ble_eq_true rfl), (Nat.le_of_ble_eq_true rfl)⟩) hP hD hS (ci := 5) (q0 := 0) rfl rfl rfl hl rfl (Nat.le_of_ble_eq_true rfl) ⟨(Nat.le_of_ble_eq_true rfl), (Nat.le_of_ble_eq_true rfl)⟩ dL_tryRoom_3) (fun E ce q9 H locs hE9 hP hD hS hce hcv hcl => ?_) (fun H locs hx0 hP hD hS => ?_)
  · have hP := k_uP hP
    have hD := k_uD hD
    have hq := hL E hE9
    subst hE9
    rcases List.mem_cons.mp hq with hq | hq
    · subst hq
      refine vx_catch (own := RL) (name := IOB) hown (tableOf []) ⟨0, 6, 7, 38⟩ (tableOf [(0, 6, 11, 13)]) (by rw [ht]; rfl) ?_ rfl (by decide) (hts (.classLink RL 38 IOB) (by decide +kernel)) (va_Nw.use rfl (hG.1.2.2.1 _ _ ct_IOB)) hce hcv hcl ?_
      · intro z hz
        exact absurd hz List.not_mem_nil
      · refine lv_astore_n (lv' := [(3, .ref q9), (0, .ref (ca 0 0)), (1, .int p0), (2, .int p1)]) hx hb dL_tryRoom_7 rfl hl (by decide) rfl (fun ls hl => ?_)
        refine lv_ldc (v := (-9999001)) hx hb hown (hts (.constant RL 40 (-9999001)) (by decide +kernel)) dL_tryRoom_8 ?_
        exact kI_ret hE hS hP hD rfl cx_IOB.symm (Nat.le_of_ble_eq_true rfl) (Nat.le_of_ble_eq_true rfl) dL_tryRoom_10
    rcases List.mem_cons.mp hq with hq | hq
    · subst hq
      refine vx_catch (own := RL) (name := IAE) hown (tableOf [(0, 6, 7, 38)]) ⟨0, 6, 11, 13⟩ (tableOf []) (by rw [ht]; rfl) ?_ rfl (by decide) (hts (.classLink RL 13 IAE) (by decide +kernel)) (va_Nw.use rfl (hG.1.2.2.1 _ _ ct_IAE)) hce hcv hcl ?_
      · intro z hz
        rcases List.mem_cons.mp hz with hz | hz
        · subst hz
          exact Or.inr ⟨(by decide), IOB, hts (.classLink RL 38 IOB) (by decide +kernel), hG.2.2.2.2.2.2.1⟩
        exact absurd hz List.not_mem_nil
      · refine lv_astore_n (lv' := [(3, .ref q9), (0, .ref (ca 0 0)), (1, .int p0), (2, .int p1)]) hx hb dL_tryRoom_11 rfl hl (by decide) rfl (fun ls hl => ?_)
        refine lv_ldc (v := (-9999002)) hx hb hown (hts (.constant RL 15 (-9999002)) (by decide +kernel)) dL_tryRoom_12 ?_
        exact kI_ret hE hS hP hD rfl cx_IAE.symm (Nat.le_of_ble_eq_true rfl) (Nat.le_of_ble_eq_true rfl) dL_tryRoom_14
    exact absurd hq List.not_mem_nil
  · have hP := k_uP hP
    have hD := k_uD hD
    subst hx0
    exact kI_ret hE hS hP hD rfl rfl (Nat.le_of_ble_eq_true rfl) (Nat.le_of_ble_eq_true rfl) dL_tryRoom_6
set_option maxHeartbeats 4000000 in
set_option maxRecDepth 100000 in
theorem w_tryKeep (l : Launch) (hfl : l.stackTraces = false) (D : va_G) (cs : Nat → ClassId) (ca : Nat → Nat → Nat) (cv c2 : CV) (p0 : Int32) (hC : CO cv) (x : Option String) (r : Int32) (e0 : k_X5_save cv p0 = (x, r, c2)) (hL : ∀ E, x = some E → E ∈ [IOB]) : kI l yL_tryKeep wsL_tryKeep { frames := 7, cells := 1, slots := 6, locals := 166 } 1 6 D cs [.ref (ca 0 0), .int p0] (ca_W cs ca cv) (cx x r) (ca_W cs ca c2) := by
  have hc := c_X5_save l hfl D cs ca cv p0 hC
  rw [e0] at hc
  dsimp only at hc
  refine kH_of (cc := cL_tryKeep) (maxL := 3) (ret := (some .int)) (hh := [(0, 5, 6, 38)]) (by decide) rfl (Nat.le_of_ble_eq_true rfl) ?_
  intro p e s m below meth c A ls H locs hE ht hS hP hD hl
  obtain ⟨hx, hb, hr, hlocks, hml, hown, hts, hK, hA, hG, hnm⟩ := id hE
  have hown : s.vm.findClass RL = some m.cls := hown
  have hl : lv_has ls 3 [(0, .ref (ca 0 0)), (1, .int p0)] := hl
  refine lv_aload_n hx hb dL_tryKeep_0 rfl (lv_at hl 0 rfl) ?_
  refine lv_iload_n hx hb dL_tryKeep_1 rfl (lv_at hl 1 rfl) ?_
  have hP : va_P D vwCl (ca_W cs ca cv ++ []) H := k_nP hP
  have hD : va_D A (ca_W cs ca cv ++ []) := k_nD hD
  refine kX_call (wc := ca_W cs ca cv) (wr := []) (w1 := ca_W cs ca c2) (x := x) (r := r) hE hP hD hS (k_rX (rest := []) (As := [.int p0]) hE rfl (hc H.size) (cwV 1 hts gL_tryKeep_X5_save rfl rfl rfl (by decide +kernel) ⟨(Nat.le_of_ble_eq_true rfl), (Nat.le_of_ble_eq_true rfl)⟩) hP hD hS (ci := 5) (q0 := 0) rfl rfl rfl hl rfl (Nat.le_of_ble_eq_true rfl) ⟨(Nat.le_of_ble_eq_true rfl), (Nat.le_of_ble_eq_true rfl)⟩ dL_tryKeep_2) (fun E ce q9 H locs hE9 hP hD hS hce hcv hcl => ?_) (fun H locs hx0 hP hD hS => ?_)
  · have hP := k_uP hP
    have hD := k_uD hD
    have hq := hL E hE9
    subst hE9
    rcases List.mem_cons.mp hq with hq | hq
    · subst hq
      refine vx_catch (own := RL) (name := IOB) hown (tableOf []) ⟨0, 5, 6, 38⟩ (tableOf []) (by rw [ht]; rfl) ?_ rfl (by decide) (hts (.classLink RL 38 IOB) (by decide +kernel)) (va_Nw.use rfl (hG.1.2.2.1 _ _ ct_IOB)) hce hcv hcl ?_
      · intro z hz
        exact absurd hz List.not_mem_nil
      · refine lv_astore_n (lv' := [(2, .ref q9), (0, .ref (ca 0 0)), (1, .int p0)]) hx hb dL_tryKeep_6 rfl hl (by decide) rfl (fun ls hl => ?_)
        refine lv_ldc (v := (-9999001)) hx hb hown (hts (.constant RL 40 (-9999001)) (by decide +kernel)) dL_tryKeep_7 ?_
        exact kI_ret hE hS hP hD rfl cx_IOB.symm (Nat.le_of_ble_eq_true rfl) (Nat.le_of_ble_eq_true rfl) dL_tryKeep_9
    exact absurd hq List.not_mem_nil
  · have hP := k_uP hP
    have hD := k_uD hD
    subst hx0
    exact kI_ret hE hS hP hD rfl rfl (Nat.le_of_ble_eq_true rfl) (Nat.le_of_ble_eq_true rfl) dL_tryKeep_5
set_option maxHeartbeats 4000000 in
set_option maxRecDepth 100000 in
theorem w_tryBack (l : Launch) (hfl : l.stackTraces = false) (D : va_G) (cs : Nat → ClassId) (ca : Nat → Nat → Nat) (cv c2 : CV) (p0 : Int32) (hC : CO cv) (x : Option String) (r : Int32) (e0 : k_X5_restore cv p0 = (x, r, c2)) (hL : ∀ E, x = some E → E ∈ [IOB, ISE]) : kI l yL_tryBack wsL_tryBack { frames := 7, cells := 1, slots := 6, locals := 166 } 1 6 D cs [.ref (ca 0 0), .int p0] (ca_W cs ca cv) (cx x r) (ca_W cs ca c2) := by
  have hc := c_X5_restore l hfl D cs ca cv p0 hC
  rw [e0] at hc
  dsimp only at hc
  refine kH_of (cc := cL_tryBack) (maxL := 3) (ret := (some .int)) (hh := [(0, 5, 6, 38), (0, 5, 10, 24)]) (by decide) rfl (Nat.le_of_ble_eq_true rfl) ?_
  intro p e s m below meth c A ls H locs hE ht hS hP hD hl
  obtain ⟨hx, hb, hr, hlocks, hml, hown, hts, hK, hA, hG, hnm⟩ := id hE
  have hown : s.vm.findClass RL = some m.cls := hown
  have hl : lv_has ls 3 [(0, .ref (ca 0 0)), (1, .int p0)] := hl
  refine lv_aload_n hx hb dL_tryBack_0 rfl (lv_at hl 0 rfl) ?_
  refine lv_iload_n hx hb dL_tryBack_1 rfl (lv_at hl 1 rfl) ?_
  have hP : va_P D vwCl (ca_W cs ca cv ++ []) H := k_nP hP
  have hD : va_D A (ca_W cs ca cv ++ []) := k_nD hD
  refine kX_call (wc := ca_W cs ca cv) (wr := []) (w1 := ca_W cs ca c2) (x := x) (r := r) hE hP hD hS (k_rX (rest := []) (As := [.int p0]) hE rfl (hc H.size) (cwV 1 hts gL_tryBack_X5_restore rfl rfl rfl (by decide +kernel) ⟨(Nat.le_of_ble_eq_true rfl), (Nat.le_of_ble_eq_true rfl)⟩) hP hD hS (ci := 5) (q0 := 0) rfl rfl rfl hl rfl (Nat.le_of_ble_eq_true rfl) ⟨(Nat.le_of_ble_eq_true rfl), (Nat.le_of_ble_eq_true rfl)⟩ dL_tryBack_2) (fun E ce q9 H locs hE9 hP hD hS hce hcv hcl => ?_) (fun H locs hx0 hP hD hS => ?_)
  · have hP := k_uP hP
    have hD := k_uD hD
    have hq := hL E hE9
    subst hE9
    rcases List.mem_cons.mp hq with hq | hq
    · subst hq
      refine vx_catch (own := RL) (name := IOB) hown (tableOf []) ⟨0, 5, 6, 38⟩ (tableOf [(0, 5, 10, 24)]) (by rw [ht]; rfl) ?_ rfl (by decide) (hts (.classLink RL 38 IOB) (by decide +kernel)) (va_Nw.use rfl (hG.1.2.2.1 _ _ ct_IOB)) hce hcv hcl ?_
      · intro z hz
        exact absurd hz List.not_mem_nil
      · refine lv_astore_n (lv' := [(2, .ref q9), (0, .ref (ca 0 0)), (1, .int p0)]) hx hb dL_tryBack_6 rfl hl (by decide) rfl (fun ls hl => ?_)
        refine lv_ldc (v := (-9999001)) hx hb hown (hts (.constant RL 40 (-9999001)) (by decide +kernel)) dL_tryBack_7 ?_
        exact kI_ret hE hS hP hD rfl cx_IOB.symm (Nat.le_of_ble_eq_true rfl) (Nat.le_of_ble_eq_true rfl) dL_tryBack_9
    rcases List.mem_cons.mp hq with hq | hq
    · subst hq
      refine vx_catch (own := RL) (name := ISE) hown (tableOf [(0, 5, 6, 38)]) ⟨0, 5, 10, 24⟩ (tableOf []) (by rw [ht]; rfl) ?_ rfl (by decide) (hts (.classLink RL 24 ISE) (by decide +kernel)) (va_Nw.use rfl (hG.1.2.2.1 _ _ ct_ISE)) hce hcv hcl ?_
      · intro z hz
        rcases List.mem_cons.mp hz with hz | hz
        · subst hz
          exact Or.inr ⟨(by decide), IOB, hts (.classLink RL 38 IOB) (by decide +kernel), hG.2.2.2.2.2.2.2⟩
        exact absurd hz List.not_mem_nil
      · refine lv_astore_n (lv' := [(2, .ref q9), (0, .ref (ca 0 0)), (1, .int p0)]) hx hb dL_tryBack_10 rfl hl (by decide) rfl (fun ls hl => ?_)
        refine lv_ldc (v := (-9999003)) hx hb hown (hts (.constant RL 26 (-9999003)) (by decide +kernel)) dL_tryBack_11 ?_
        exact kI_ret hE hS hP hD rfl cx_ISE.symm (Nat.le_of_ble_eq_true rfl) (Nat.le_of_ble_eq_true rfl) dL_tryBack_13
    exact absurd hq List.not_mem_nil
  · have hP := k_uP hP
    have hD := k_uD hD
    subst hx0
    exact kI_ret hE hS hP hD rfl rfl (Nat.le_of_ble_eq_true rfl) (Nat.le_of_ble_eq_true rfl) dL_tryBack_5
