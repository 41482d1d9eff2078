/-! The law's wrappers: one call of the class, what it throws is caught. -/
def XA (U : State) : Prop := va_AO RX1 U ∧ va_Nc ISE IAE U ∧ va_Nc IAE IOB U ∧ va_Nc ISE IOB U
theorem XA.moved {u U : State} (hvm : u.vm.Alike U.vm) (h : XA u) : XA U := ⟨va_AO.moved hvm h.1, va_Nc.moved hvm h.2.1, va_Nc.moved hvm h.2.2.1, va_Nc.moved hvm h.2.2.2⟩
def kSL (D : va_G) (cs : Nat → ClassId) (wc : va_W) (sz : Nat) : State → Prop := fun U => kS D cs wc sz U ∧ XA U
abbrev kPL (D : va_G) (cs : Nat → ClassId) (as : List Value) (wc : va_W) (sz : Nat) : Array Value → State → Prop := va_Pc as (kSL D cs wc sz)
def kL (l : Launch) (y : MethodName) (ws : List Cond) (rm : Room) (mc ms : Nat) (D : va_G) (cs : Nat → ClassId) (as : List Value) (wc : va_W) (r : Int32) (w1 : va_W) : Prop :=
  ∀ sz, Met l y ws rm (kPL D cs as wc sz) (va_Qi (fun (r' : Int32) (_ : Unit) => r' = r) (kB D (fun _ => w1) (va_A wc sz)) (va_A wc sz)) mc ms (va_A wc sz)
theorem kPL_blind {D : va_G} {cs : Nat → ClassId} {as : List Value} {wc : va_W} {sz : Nat} : FrameBlind (kPL D cs as wc sz) := by
  intro a U g mk h
  obtain ⟨h0, ⟨h1, h2, h3, h4, h5⟩, h6⟩ := h
  exact ⟨h0, ⟨h1, h2, va_K.moved (u := U) (U := U.calling g mk a) (Vm.Alike.refl U.vm) h3, h4, Gl.blind (U := U) (V := U.calling g mk a) rfl rfl h5⟩, XA.moved (u := U) (U := U.calling g mk a) (Vm.Alike.refl U.vm) h6⟩
section KW
variable {p : Program} {l : Launch} {e : Env} {R : Room} {s : State} {m : MethodId} {args : Array Value} {below : List Frame} {meth : Method} {c : Code} {H : Heap} {locs : List Loc} {cells slots : Nat} {Q : State → Prop}
variable {D : va_G} {cs : Nat → ClassId} {as : List Value} {wc w1 wr : va_W} {A : Nat → Prop} {y y2 : MethodName} {ws ws' ws2 : List Cond} {rm rm2 : Room} {mc ms mc2 ms2 n index : Nat} {cc bytes2 : ByteArray} {maxL maxL2 : Nat} {ret ret2 : Option FieldType} {As rest st0 : List Value} {b pc : Nat} {ls : Array Slot} {lv : List (Nat × Value)} {own C : String} {Qc2 : Array Value → State → Outcome → State → Prop} {XC2 : String → State → State → Prop} {hh : List (Nat × Nat × Nat × Nat)}
theorem kL_of {r : Int32} (hy : plainName y.cls = true) (hw : ws = Cond.codeWith y cc maxL ret hh :: ws') (hmx : (lg_sl as).length ≤ maxL)
    (body : ∀ (p : Program) (e : Env) (s : State) (m : MethodId) (below : List Frame) (meth : Method) (c : Code) (A : Nat → Prop) (ls : Array Slot) (H : Heap) (locs : List Loc), kE p s m as.toArray meth c D cs y ws cc maxL ret A → c.exceptionTable.toList = tableOf hh → XA s → va_S A s.heap H locs → va_P D vwCl wc H → va_D A wc → lv_has ls maxL (lv_args 0 as) →
      W p l e rm s m as.toArray below meth c H locs 0 0 (MQ below (va_Qi (fun (r' : Int32) (_ : Unit) => r' = r) (kB D (fun _ => w1) A) A) as.toArray s mc ms A) (F0 m 0 ls [])) : kL l y ws rm mc ms D cs as wc r w1 := by
  intro sz
  refine MetFree.of_bodyS (code := cc) (maxLocals := maxL) (ret := ret) hy ?_ ?_
  · intro args s m h hn
    obtain ⟨m9, meth, c, hn9, h1, h2, h3, h4, -, h5, h6, -⟩ := Cond.codeWith_spec (atoms_spec (ws := ws) h _ (by rw [hw]; exact List.mem_cons_self))
    cases hn.symm.trans hn9
    exact ⟨meth, c, h1, h2, h3, h4, h5, h6⟩
  · intro p e s m args below meth c s₁ B hml hP _
    have hh0 : s₁.heap = s.heap := by rw [B.state]; rfl
    have ht := vx_table (x := y) B (atoms_spec (ws := ws) B.pre _ (by rw [hw]; exact List.mem_cons_self))
    obtain ⟨rfl, ⟨hsz, hP1, hK, hD0, hG⟩, hX⟩ := hP
    subst hsz
    have K : W p l e rm s m as.toArray below meth c s.heap [] 0 0 (MQ below (va_Qi (fun (r' : Int32) (_ : Unit) => r' = r) (kB D (fun _ => w1) (va_A wc s.heap.size)) (va_A wc s.heap.size)) as.toArray s mc ms (va_A wc s.heap.size)) (entryFrame m as.toArray maxL) := by
      rw [lg_entry_eq]
      exact body p e s m below meth c _ _ _ _ ⟨B.exec, B.bytes, B.returns, B.notSynchronized, hml, findClass_of_methodNamed B.named, atoms_spec (ws := ws) B.pre, hK, fun q h => Or.inr h, hG, (name_of_methodNamed B.named B.method).1⟩ ht hX va_S.rf hP1 (hD0.self) (lv_entry as hmx)
    obtain ⟨t, a1, o, b1, b2, b3⟩ := K s₁ hh0 (Stand.of_body B)
    exact ⟨t, o, a1, b1, b2, ⟨b3.1, b3.2⟩⟩
theorem k_rX (hE : kE p s m args meth c D cs y ws cc maxL ret A) (ho : own = y.cls) (hM : vx_Met l y2 ws2 rm2 (kP D cs (.ref b :: As) wc H.size) Qc2 XC2 mc2 ms2 (va_A wc H.size)) (cw : CallW R s args own C index y2 bytes2 maxL2 ret2 ws2 rm2 mc2 ms2 n)
    (hP : va_P D vwCl (wc ++ wr) H) (hD : va_D A (wc ++ wr)) (hS : va_S A s.heap H locs) {q0 ci N : Nat} {T : u_T} {fs : List Value} (hcl : vwCl[ci]? = some (C, T, N)) (he : wc[q0]? = some (b, .inr (ci, fs)))
    (hn : As.length = n) (hl : lv_has ls maxL lv) (hst : st0 = As.reverse ++ .ref b :: rest) (hrm : (rest.map fun v => v.category).sum ≤ 8) (hf : cells + mc2 ≤ R.cells ∧ slots + ms2 ≤ R.slots) (hdg : decode cc pc = .ok (.invokevirtual index, 3)) :
    vx_Run p l e R s m args below meth c H locs cells slots mc2 ms2 (F0 m pc ls st0) rest (Qc2 (Value.ref b :: As).toArray) XC2 (va_A wc H.size) :=
  vx_runV (k_fix hE ho) hM cw ⟨kP_blind, k_recv hE hP hcl he, k_pre hE hP hD hS⟩ rfl hn hl.1 hst (lv_room hrm) hdg hf
theorem kX_call {x : Option String} {r : Int32} {a9 : Array Value} (hE : kE p s m args meth c D cs y ws cc maxL ret A) (hP : va_P D vwCl (wc ++ wr) H) (hD : va_D A (wc ++ wr)) (hS : va_S A s.heap H locs)
    (hr : vx_Run p l e R s m args below meth c H locs cells slots mc2 ms2 (F0 m pc ls st0) rest (va_Qi (fun (r' : Int32) (_ : Unit) => x = none ∧ r' = r) (kB D (fun _ => w1) (va_A wc H.size)) (va_A wc H.size) a9) (kT D x w1 (va_A wc H.size)) (va_A wc H.size))
    (kx : ∀ (E : String) (ce : Cell) (q9 : Addr) (H1 : Heap) (locs1 : List Loc), x = some E → va_P D vwCl (w1 ++ wr) H1 → va_D A (w1 ++ wr) → va_S A s.heap H1 locs1 → H1[q9]? = some ce → ce.vm = .none → s.vm.findClass E = some ce.cls → vx_W p l e R s m args below meth c H1 locs1 (cells + mc2) (slots + ms2) Q (F0 m pc ls rest) q9)
    (kk : ∀ (H1 : Heap) (locs1 : List Loc), x = none → va_P D vwCl (w1 ++ wr) H1 → va_D A (w1 ++ wr) → va_S A s.heap H1 locs1 → W p l e R s m args below meth c H1 locs1 (cells + mc2) (slots + ms2) Q (F0 m (pc + 3) ls (.int r :: rest))) : W p l e R s m args below meth c H locs cells slots Q (F0 m pc ls st0) := by
  obtain ⟨-, -, -, -, -, -, -, -, hA, -⟩ := hE
  refine vx_calli hr hS (fun q _ h => k_free hD hS hA q h) (k_free hD hS hA) (fun q _ h => k_free hD hS hA q h) (fun E ce q9 u t H1 locs1 ht hvm hpx hB hz1 hk1 hS1 hce hcv hcl => ?_) (fun r9 u t H1 locs1 ht hvm hw hB hz1 hk1 hS1 => ?_)
  · obtain ⟨hxE, hP1, hD1⟩ := hB
    rw [ht] at hP1
    obtain ⟨hP2, hD2⟩ := k_join hP hD hS hA hk1 hP1 hD1
    exact kx E ce q9 H1 locs1 hxE hP2 hD2 hS1 hce hcv hcl
  · obtain ⟨hx0, hr9⟩ := hw
    subst hr9
    obtain ⟨hP1, hD1⟩ := hB
    rw [ht] at hP1
    obtain ⟨hP2, hD2⟩ := k_join hP hD hS hA hk1 hP1 hD1
    exact kk H1 locs1 hx0 hP2 hD2 hS1
end KW
def lo (cs : Nat → ClassId) (oa : Nat) (f : Nat → Int64) : Nat × va_E := (oa, .inl (cs 4, 1, .inr (.inl f)))
theorem ct_IAE : Cond.castable IAE IAE ∈ tables_1 := by decide +kernel
theorem ct_ISE : Cond.castable ISE ISE ∈ tables_1 := by decide +kernel
theorem ct_IOB : Cond.castable IOB IOB ∈ tables_1 := by decide +kernel
theorem lo_pm {a : Nat × va_E} {w : va_W} : (a :: w).Perm (w ++ [a]) := List.perm_append_comm (l₁ := [a])
