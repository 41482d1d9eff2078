/-! The layer: one form of contract for all methods of this claim (a world of cells before, an answer, a world of cells behind), its entry, its end, its calls. -/
abbrev tyS (cs : Nat → ClassId) : List (ClassId × FieldType) := [(cs 0, .int), (cs 1, .char), (cs 2, .boolean), (cs 3, .object "OrganPegs$Organ")]
def sm_f : Nat → Value := fun j => .int (if j = 0 then 3 else if j = 1 then 9 else 60)
/-- what the machine's tables say, whatever the heap: links into nest mates, castable, declares; the text constants -/
def Gv (U : State) : Prop := (∀ a i b n d h, Cond.fieldLinkNest a i b n d h ∈ tables_1 → va_Nw (.fieldLinkNest a i b n d h) U) ∧ (∀ a i x h, Cond.methodLinkNest a i x h ∈ tables_1 → va_Nw (.methodLinkNest a i x h) U) ∧ (∀ C T, Cond.castable C T ∈ tables_1 → va_Nw (.castable C T) U) ∧ (∀ x, Cond.declares x ∈ tables_1 → va_Nw (.declares x) U) ∧ ∀ own k tx, Cond.stringRef own k tx ∈ tables_1 → ∃ a, vk_R own k tx a U
/-- of the classes of the exceptions none is a kind of another; the array of organs -/
def XA (U : State) : Prop := va_AO RX1 U ∧ va_Nc "java/lang/IllegalStateException" "java/lang/IllegalArgumentException" U ∧ va_Nc "java/lang/IllegalArgumentException" "java/lang/IndexOutOfBoundsException" U ∧ va_Nc "java/lang/IllegalStateException" "java/lang/IndexOutOfBoundsException" U
theorem XA.moved {u U : State} (hvm : u.vm.Alike U.vm) (h : XA u) : XA U := ⟨va_AO.moved hvm h.1, va_Nc.moved hvm h.2.1, va_Nc.moved hvm h.2.2.1, va_Nc.moved hvm h.2.2.2⟩
/-- the statics, outside of what a method may change -/
def Gh (A : Nat → Prop) (U : State) (H : Heap) : Prop := (∃ t, va_Z "OrganPegs" "SETTING_MOST" "[I" (.ref t) A U H ∧ va_T .int t 3 sm_f A U H) ∧ vx_Zq Bundle.tN "UNASSIGNED_STACK" Bundle.steD A U H ∧ vx_Zq Bundle.tN "SUPPRESSED_SENTINEL" Bundle.listD A U H ∧ XA U
def Gl (A : Nat → Prop) (U : State) (H : Heap) : Prop := Gv U ∧ Gh A U H
theorem Gv.warm {s U : State} (hW : s.WarmedH U.vm) (h : Gv s) : Gv U :=
  ⟨fun a i b n d h9 hm => va_Nw.warmF hW (h.1 a i b n d h9 hm), fun a i x h9 hm => va_Nw.warmM hW (h.2.1 a i x h9 hm), fun C T hm => va_Nw.warmC hW (h.2.2.1 C T hm), fun x hm => va_Nw.warmD hW (h.2.2.2.1 x hm), fun own k tx hm => by obtain ⟨a, ha⟩ := h.2.2.2.2 own k tx hm; exact ⟨a, vk_R.warm hW ha⟩⟩
theorem Gh.go {A B : Nat → Prop} {s U : State} {H H1 : Heap} (hvm : s.vm.Alike U.vm) (h : Gh A s H) (hq : ∀ a : Nat, a < H.size → ¬ A a → H1[a]? = H[a]?) (hAB : ∀ q, B q → A q) : Gh B U H1 := by
  obtain ⟨⟨t, h1, h2⟩, h3, h4, h5⟩ := h
  exact ⟨⟨t, ((h1.kept hq).moved hvm).narrow hAB, ((h2.kept hq).moved hvm).narrow hAB⟩, vx_Zq.narrow (vx_Zq.moved hvm (vx_Zq.kept h3 hq)) hAB, vx_Zq.narrow (vx_Zq.moved hvm (vx_Zq.kept h4 hq)) hAB, XA.moved hvm h5⟩
theorem Gl.call {A B : Nat → Prop} {s U : State} {H : Heap} {locs : List Loc} (hG : Gl A s s.heap) (hS : va_S A s.heap H locs) (hU : U.heap = H) (hW : s.WarmedH U.vm) (hAB : ∀ q, B q → A q) : Gl B U U.heap :=
  ⟨hG.1.warm hW, Gh.go hW.alike hG.2 (by rw [hU]; exact hS.2.1) hAB⟩
theorem Gl.blind {A : Nat → Prop} {U V : State} (hv : U.vm = V.vm) (hh : U.heap = V.heap) (hG : Gl A U U.heap) : Gl A V V.heap := by
  have hW : U.WarmedH V.vm := by rw [← hv]; exact State.WarmedH.refl U
  exact ⟨hG.1.warm hW, Gh.go hW.alike hG.2 (by rw [← hh]; exact fun _ _ _ => rfl) (fun _ h => h)⟩
/-- what holds at a method's start -/
def kS (D : va_G) (cs : Nat → ClassId) (wc : va_W) (sz : Nat) : State → Prop := fun U => U.heap.size = sz ∧ va_P D vwCl wc U.heap ∧ va_K D vwCl (tyS cs) U ∧ va_D (fun _ => True) wc ∧ Gl (va_A wc sz) U U.heap
abbrev kP (D : va_G) (cs : Nat → ClassId) (as : List Value) (wc : va_W) (sz : Nat) : Array Value → State → Prop := va_Pc as (kS D cs wc sz)
def kB {S : Type} (D : va_G) (w1 : S → va_W) (A : Nat → Prop) : S → State → Prop := fun u t => va_P D vwCl (w1 u) t.heap ∧ va_D A (w1 u)
/-- returns the int r, the world is w1 then -/
def kI (l : Launch) (y : MethodName) (ws : List Cond) (rm : Room) (mc ms : Nat) (D : va_G) (cs : Nat → ClassId) (as : List Value) (wc : va_W) (r : Int32) (w1 : va_W) : Prop :=
  ∀ sz, Met l y ws rm (kP D cs as wc sz) (va_Qi (fun (r' : Int32) (_ : Unit) => r' = r) (kB D (fun _ => w1) (va_A wc sz)) (va_A wc sz)) mc ms (va_A wc sz)
def kJ (l : Launch) (y : MethodName) (ws : List Cond) (rm : Room) (mc ms : Nat) (D : va_G) (cs : Nat → ClassId) (as : List Value) (wc : va_W) (r : Int64) (w1 : va_W) : Prop :=
  ∀ sz, Met l y ws rm (kP D cs as wc sz) (va_Ql (fun (r' : Int64) (_ : Unit) => r' = r) (kB D (fun _ => w1) (va_A wc sz)) (va_A wc sz)) mc ms (va_A wc sz)
/-- returns nothing, the world is w1 of some u then -/
def kV {S : Type} (l : Launch) (y : MethodName) (ws : List Cond) (rm : Room) (mc ms : Nat) (D : va_G) (cs : Nat → ClassId) (as : List Value) (wc : va_W) (ps : S → Prop) (w1 : S → va_W) : Prop :=
  ∀ sz, Met l y ws rm (kP D cs as wc sz) (va_Qv ps (kB D w1 (va_A wc sz)) (va_A wc sz)) mc ms (va_A wc sz)
theorem kP_blind {D : va_G} {cs : Nat → ClassId} {as : List Value} {wc : va_W} {sz : Nat} : FrameBlind (kP D cs as wc sz) := by
  intro a U g mk h
  obtain ⟨h0, h1, h2, h3, h4, h5⟩ := h
  exact ⟨h0, h1, h2, va_K.moved (u := U) (U := U.calling g mk a) (Vm.Alike.refl U.vm) h3, h4, Gl.blind (U := U) (V := U.calling g mk a) rfl rfl h5⟩
section KL
variable {p : Program} {l : Launch} {e : Env} {R : Room} {s : State} {m : MethodId} {args : Array Value} {below : List Frame} {meth : Method} {c : Code} {H : Heap} {locs : List Loc} {cells slots : Nat} {Q : State → Prop}
variable {D : va_G} {cs : Nat → ClassId} {as : List Value} {wc w1 wr : va_W} {A : Nat → Prop} {y : MethodName} {ws ws' : List Cond} {rm : Room} {mc ms : Nat} {cc : ByteArray} {maxL : Nat} {ret : Option FieldType}
/-- what a body's proof is given at its entry -/
def kE (p : Program) (s : State) (m : MethodId) (args : Array Value) (meth : Method) (c : Code) (D : va_G) (cs : Nat → ClassId) (y : MethodName) (ws : List Cond) (cc : ByteArray) (maxL : Nat) (ret : Option FieldType) (A : Nat → Prop) : Prop :=
  p.tables.exec = Jvm.exec ∧ c.code = cc ∧ meth.sig.returnType = ret ∧ meth.locks = false ∧ c.maxLocals = maxL ∧ s.vm.findClass y.cls = some m.cls ∧ (∀ w ∈ ws, w.before args s = true) ∧ va_K D vwCl (tyS cs) s ∧ (∀ q : Nat, s.heap.size ≤ q → A q) ∧ Gl A s s.heap ∧ meth.name = y.name
theorem kM_of {Qc : (Nat → Prop) → Array Value → State → Outcome → State → Prop} {sz : Nat} (hy : plainName y.cls = true) (hw : ws = Cond.code y cc maxL ret :: ws') (hmx : (lg_sl as).length ≤ maxL)
    (body : ∀ (p : Program) (e : Env) (s : State) (m : MethodId) (below : List Frame) (meth : Method) (c : Code) (A : Nat → Prop) (ls : Array Slot) (H : Heap) (locs : List Loc), kE p s m as.toArray meth c D cs y ws cc maxL ret A → va_S A s.heap H locs → va_P D vwCl wc H → va_D A wc → lv_has ls maxL (lv_args 0 as) →
      W p l e rm s m as.toArray below meth c H locs 0 0 (MQ below (Qc A) as.toArray s mc ms A) (F0 m 0 ls [])) :
    Met l y ws rm (kP D cs as wc sz) (Qc (va_A wc sz)) mc ms (va_A wc sz) := by
  refine Met.ofW (cc := cc) (maxL := maxL) (ret := ret) hy hw ?_
  intro p e s m args below meth c s₁ B hml hv
  obtain ⟨rfl, hsz, hP, hK, hD0, hG⟩ := hv
  subst hsz
  rw [lg_entry_eq]
  exact body p e s m below meth c _ _ _ _ ⟨B.exec, B.bytes, B.returns, B.notSynchronized, hml, findClass_of_methodNamed B.named, atoms_spec (ws := ws) B.pre, hK, fun q h => Or.inr h, hG, (name_of_methodNamed B.named B.method).1⟩ va_S.rf hP (hD0.self) (lv_entry as hmx)
theorem kI_of {r : Int32} (hy : plainName y.cls = true) (hw : ws = Cond.code y cc maxL ret :: ws') (hmx : (lg_sl as).length ≤ maxL)
    (body : ∀ (p : Program) (e : Env) (s : State) (m : MethodId) (below : List Frame) (meth : Method) (c : Code) (A : Nat → Prop) (ls : Array Slot) (H : Heap) (locs : List Loc), kE p s m as.toArray meth c D cs y ws cc maxL ret A → va_S A s.heap H locs → va_P D vwCl wc H → va_D A wc → lv_has ls maxL (lv_args 0 as) →
      W p l e rm s m as.toArray below meth c H locs 0 0 (MQ below (va_Qi (fun (r' : Int32) (_ : Unit) => r' = r) (kB D (fun _ => w1) A) A) as.toArray s mc ms A) (F0 m 0 ls [])) : kI l y ws rm mc ms D cs as wc r w1 :=
  fun _ => kM_of (Qc := fun A => va_Qi (fun (r' : Int32) (_ : Unit) => r' = r) (kB D (fun _ => w1) A) A) hy hw hmx body
theorem kJ_of {r : Int64} (hy : plainName y.cls = true) (hw : ws = Cond.code y cc maxL ret :: ws') (hmx : (lg_sl as).length ≤ maxL)
    (body : ∀ (p : Program) (e : Env) (s : State) (m : MethodId) (below : List Frame) (meth : Method) (c : Code) (A : Nat → Prop) (ls : Array Slot) (H : Heap) (locs : List Loc), kE p s m as.toArray meth c D cs y ws cc maxL ret A → va_S A s.heap H locs → va_P D vwCl wc H → va_D A wc → lv_has ls maxL (lv_args 0 as) →
      W p l e rm s m as.toArray below meth c H locs 0 0 (MQ below (va_Ql (fun (r' : Int64) (_ : Unit) => r' = r) (kB D (fun _ => w1) A) A) as.toArray s mc ms A) (F0 m 0 ls [])) : kJ l y ws rm mc ms D cs as wc r w1 :=
  fun _ => kM_of (Qc := fun A => va_Ql (fun (r' : Int64) (_ : Unit) => r' = r) (kB D (fun _ => w1) A) A) hy hw hmx body
theorem kV_of {S : Type} {ps : S → Prop} {w1 : S → va_W} (hy : plainName y.cls = true) (hw : ws = Cond.code y cc maxL ret :: ws') (hmx : (lg_sl as).length ≤ maxL)
    (body : ∀ (p : Program) (e : Env) (s : State) (m : MethodId) (below : List Frame) (meth : Method) (c : Code) (A : Nat → Prop) (ls : Array Slot) (H : Heap) (locs : List Loc), kE p s m as.toArray meth c D cs y ws cc maxL ret A → va_S A s.heap H locs → va_P D vwCl wc H → va_D A wc → lv_has ls maxL (lv_args 0 as) →
      W p l e rm s m as.toArray below meth c H locs 0 0 (MQ below (va_Qv ps (kB D w1 A) A) as.toArray s mc ms A) (F0 m 0 ls [])) : kV l y ws rm mc ms D cs as wc ps w1 :=
  fun _ => kM_of (Qc := fun A => va_Qv ps (kB D w1 A) A) hy hw hmx body
/-- the ends -/
theorem kI_ret {pc : Nat} {ls : Array Slot} {v r : Int32} {ty : FieldType} (hE : kE p s m args meth c D cs y ws cc maxL (some ty) A) (hS : va_S A s.heap H locs) (hP : va_P D vwCl w1 H) (hD : va_D A w1) (hn : narrow ty (.int v) = .int v) (hv : v = r) (hc : cells ≤ mc) (hs : slots ≤ ms) (hdg : decode cc pc = .ok (.ireturn, 1)) :
    W p l e R s m args below meth c H locs cells slots (MQ below (va_Qi (fun (r' : Int32) (_ : Unit) => r' = r) (kB D (fun _ => w1) A) A) args s mc ms A) (F0 m pc ls [.int v]) := by
  obtain ⟨hx, hb, hr, hlocks, -⟩ := hE
  refine W.widen hc hs ?_
  exact W.zret hx hb hr hn (fun t ht hW => ⟨⟨v, (), rfl, hv, by rw [ht]; exact hP, hD⟩, hS.F ht⟩) hS.2.2 hdg
theorem kJ_ret {pc : Nat} {ls : Array Slot} {v r : Int64} (hE : kE p s m args meth c D cs y ws cc maxL (some .long) A) (hS : va_S A s.heap H locs) (hP : va_P D vwCl w1 H) (hD : va_D A w1) (hv : v = r) (hc : cells ≤ mc) (hs : slots ≤ ms) (hdg : decode cc pc = .ok (.lreturn, 1)) :
    W p l e R s m args below meth c H locs cells slots (MQ below (va_Ql (fun (r' : Int64) (_ : Unit) => r' = r) (kB D (fun _ => w1) A) A) args s mc ms A) (F0 m pc ls [.long v]) := by
  obtain ⟨hx, hb, hr, hlocks, -⟩ := hE
  refine W.widen hc hs ?_
  exact W.lret hx hb hr (fun t ht hW => ⟨⟨v, (), rfl, hv, by rw [ht]; exact hP, hD⟩, hS.F ht⟩) hS.2.2 hdg
theorem kV_ret {S : Type} {ps : S → Prop} {w1 : S → va_W} {pc : Nat} {ls : Array Slot} (u : S) (hE : kE p s m args meth c D cs y ws cc maxL none A) (hS : va_S A s.heap H locs) (hP : va_P D vwCl (w1 u) H) (hD : va_D A (w1 u)) (hv : ps u) (hc : cells ≤ mc) (hs : slots ≤ ms) (hdg : decode cc pc = .ok (.return_, 1)) :
    W p l e R s m args below meth c H locs cells slots (MQ below (va_Qv ps (kB D w1 A) A) args s mc ms A) (F0 m pc ls []) := by
  obtain ⟨hx, hb, hr, hlocks, -⟩ := hE
  refine W.widen hc hs ?_
  exact W.vret hx hb hr (fun t ht hW => ⟨⟨u, rfl, hv, by rw [ht]; exact hP, hD⟩, hS.F ht⟩) hS.2.2 hdg
/-- the callee's cells are free to change -/
theorem k_free (hD : va_D A (wc ++ wr)) (hS : va_S A s.heap H locs) (hA : ∀ q : Nat, s.heap.size ≤ q → A q) : ∀ q, va_A wc H.size q → A q := by
  intro q h
  rcases h with ⟨k, e9, h⟩ | h
  · exact hD.2 k (q, e9) (by rw [List.getElem?_append_left (List.getElem?_eq_some_iff.mp h).1]; exact h)
  · exact hA q (Nat.le_trans hS.1 h)
theorem k_left (hP : va_P D vwCl (wc ++ wr) H) : va_P D vwCl wc H := fun k q h => hP k q (by rw [List.getElem?_append_left (List.getElem?_eq_some_iff.mp h).1]; exact h)
theorem k_right (hP : va_P D vwCl (wc ++ wr) H) : va_P D vwCl wr H := fun k q h => hP (wc.length + k) q (by rw [List.getElem?_append_right (Nat.le_add_right _ _), Nat.add_sub_cancel_left]; exact h)
theorem k_leftD (hD : va_D A (wc ++ wr)) : va_D A wc := ⟨fun i j p9 q h1 h2 => hD.1 i j p9 q (by rw [List.getElem?_append_left (List.getElem?_eq_some_iff.mp h1).1]; exact h1) (by rw [List.getElem?_append_left (List.getElem?_eq_some_iff.mp h2).1]; exact h2), fun k q h => hD.2 k q (by rw [List.getElem?_append_left (List.getElem?_eq_some_iff.mp h).1]; exact h)⟩
theorem k_rightD (hD : va_D A (wc ++ wr)) : va_D A wr := ⟨fun i j p9 q h1 h2 h3 => by
    have := hD.1 (wc.length + i) (wc.length + j) p9 q (by rw [List.getElem?_append_right (Nat.le_add_right _ _), Nat.add_sub_cancel_left]; exact h1) (by rw [List.getElem?_append_right (Nat.le_add_right _ _), Nat.add_sub_cancel_left]; exact h2) h3
    omega, fun k q h => hD.2 (wc.length + k) q (by rw [List.getElem?_append_right (Nat.le_add_right _ _), Nat.add_sub_cancel_left]; exact h)⟩
theorem k_apart (hD : va_D A (wc ++ wr)) {i j : Nat} {a b : Nat × va_E} (h1 : wc[i]? = some a) (h2 : wr[j]? = some b) : a.1 ≠ b.1 := by
  intro h3
  have hi := (List.getElem?_eq_some_iff.mp h1).1
  have := hD.1 i (wc.length + j) a b (by rw [List.getElem?_append_left hi]; exact h1) (by rw [List.getElem?_append_right (Nat.le_add_right _ _), Nat.add_sub_cancel_left]; exact h2) h3
  omega
/-- behind a call: what came back, and the rest, which is as it was -/
theorem k_join {H1 : Heap} (hP : va_P D vwCl (wc ++ wr) H) (hD : va_D A (wc ++ wr)) (hS : va_S A s.heap H locs) (hA : ∀ q : Nat, s.heap.size ≤ q → A q)
    (hk : ∀ q : Nat, q < H.size → ¬ va_A wc H.size q → H1[q]? = H[q]?) (hP1 : va_P D vwCl w1 H1) (hD1 : va_D (va_A wc H.size) w1) : va_P D vwCl (w1 ++ wr) H1 ∧ va_D A (w1 ++ wr) := by
  have ap : ∀ (k : Nat) (q : Nat × va_E), wr[k]? = some q → q.1 < H.size ∧ ¬ va_A wc H.size q.1 := by
    intro k q hq
    have hl := (k_right hP k q hq).lt
    refine ⟨hl, fun h => ?_⟩
    rcases h with ⟨k2, e9, h⟩ | h
    · exact k_apart hD h hq rfl
    · exact absurd hl (Nat.not_lt.mpr h)
  refine ⟨va_P.app hP1 (fun k q hq => (k_right hP k q hq).kept (hk q.1 (ap k q hq).1 (ap k q hq).2)), va_D.app (hD1.weaken (fun k q _ h => k_free hD hS hA q.1 h)) (k_rightD hD) (fun i j x9 y9 hx hy hxy => ?_)⟩
  exact (ap j y9 hy).2 (by rw [← hxy]; exact hD1.2 i x9 hx)
theorem k_pre (hE : kE p s m args meth c D cs y ws cc maxL ret A) {as2 : List Value} (hP : va_P D vwCl (wc ++ wr) H) (hD : va_D A (wc ++ wr)) (hS : va_S A s.heap H locs) : ∀ U : State, U.heap = H → s.WarmedH U.vm → kP D cs as2 wc H.size as2.toArray U := by
  intro U hU hW
  obtain ⟨-, -, -, -, -, -, -, hK, hA, hG, -⟩ := hE
  exact ⟨rfl, by rw [hU], by rw [hU]; exact k_left hP, va_K.moved hW.alike hK, (k_leftD hD).weaken (fun _ _ _ _ => trivial), hG.call hS hU hW (k_free hD hS hA)⟩
end KL
section KC
variable {p : Program} {l : Launch} {e : Env} {R : Room} {s : State} {m : MethodId} {args : Array Value} {below : List Frame} {meth : Method} {c : Code} {H : Heap} {locs : List Loc} {cells slots : Nat} {Q : State → Prop}
variable {D : va_G} {cs : Nat → ClassId} {wc w1 wr : va_W} {A : Nat → Prop} {y y2 : MethodName} {ws ws2 : List Cond} {rm2 : Room} {mc2 ms2 : Nat} {cc bytes2 : ByteArray} {maxL maxL2 n index : Nat} {ret ret2 : Option FieldType} {As rest st0 : List Value} {b pc : Nat} {ls : Array Slot} {lv : List (Nat × Value)} {own C host : String} {Qc2 : Array Value → State → Outcome → State → Prop}
theorem k_fix (hE : kE p s m args meth c D cs y ws cc maxL ret A) (ho : own = y.cls) : CallFix p m c cc maxL s args ws own := by
  obtain ⟨h1, h2, h3, h4, h5, h6, h7, h8, h9, h10⟩ := hE
  exact ⟨h1, h2, h5, by rw [ho]; exact h6, h7⟩
theorem k_recv (hE : kE p s m args meth c D cs y ws cc maxL ret A) (hP : va_P D vwCl (wc ++ wr) H) {q0 ci N : Nat} {T : u_T} {fs : List Value} (hc : vwCl[ci]? = some (C, T, N)) (he : wc[q0]? = some (b, .inr (ci, fs))) : ∃ cell : Cell, H[b]? = some cell ∧ cell.vm.isStatics = false ∧ s.vm.findClass C = some cell.cls := by
  obtain ⟨-, -, -, -, -, -, -, hK, -⟩ := hE
  exact va_recv hK (k_left hP) (ci := ci) (q0 := q0) hc he
/-- the runs: by invokevirtual, invokestatic, to a nest mate's private static, to a constructor .. -/
theorem k_rV (hE : kE p s m args meth c D cs y ws cc maxL ret A) (ho : own = y.cls) (hM : Met l y2 ws2 rm2 (kP D cs (.ref b :: As) wc H.size) Qc2 mc2 ms2 (va_A wc H.size)) (cw : CallW R s args own C index y2 bytes2 maxL2 ret2 ws2 rm2 mc2 ms2 n)
    (hP : va_P D vwCl (wc ++ wr) H) (hD : va_D A (wc ++ wr)) (hS : va_S A s.heap H locs) {q0 ci N : Nat} {T : u_T} {fs : List Value} (hcl : vwCl[ci]? = some (C, T, N)) (he : wc[q0]? = some (b, .inr (ci, fs)))
    (hn : As.length = n) (hl : lv_has ls maxL lv) (hst : st0 = As.reverse ++ .ref b :: rest) (hrm : (rest.map fun v => v.category).sum ≤ 8) (hf : cells + mc2 ≤ R.cells ∧ slots + ms2 ≤ R.slots) (hdg : decode cc pc = .ok (.invokevirtual index, 3)) :
    va_Run p l e R s m args below meth c H locs cells slots mc2 ms2 (F0 m pc ls st0) rest (Qc2 (Value.ref b :: As).toArray) (va_A wc H.size) :=
  va_runV (k_fix hE ho) hM cw ⟨kP_blind, k_recv hE hP hcl he, k_pre hE hP hD hS⟩ rfl hn hl.1 hst (lv_room hrm) hdg hf
theorem k_rS (hE : kE p s m args meth c D cs y ws cc maxL ret A) (ho : own = y.cls) (hM : Met l y2 ws2 rm2 (kP D cs As wc H.size) Qc2 mc2 ms2 (va_A wc H.size)) (cw : CallB R s args own index y2 bytes2 maxL2 ret2 ws2 rm2 mc2 ms2 n ∧ (Cond.static y2).before args s = true)
    (hP : va_P D vwCl (wc ++ wr) H) (hD : va_D A (wc ++ wr)) (hS : va_S A s.heap H locs)
    (hn : As.length = n) (hl : lv_has ls maxL lv) (hst : st0 = As.reverse ++ rest) (hrm : (rest.map fun v => v.category).sum ≤ 8) (hf : cells + mc2 ≤ R.cells ∧ slots + ms2 ≤ R.slots) (hdg : decode cc pc = .ok (.invokestatic index, 3)) :
    va_Run p l e R s m args below meth c H locs cells slots mc2 ms2 (F0 m pc ls st0) rest (Qc2 As.toArray) (va_A wc H.size) :=
  va_runS (k_fix hE ho) hM cw ⟨kP_blind, k_pre hE hP hD hS⟩ rfl hn hl.1 hst (lv_room hrm) hdg hf
theorem k_rSN (hE : kE p s m args meth c D cs y ws cc maxL ret A) (ho : own = y.cls) (hM : Met l y2 ws2 rm2 (kP D cs As wc H.size) Qc2 mc2 ms2 (va_A wc H.size)) (cw : va_CN R s args own index y2 host bytes2 maxL2 ret2 ws2 rm2 mc2 ms2 n ∧ (Cond.static y2).before args s = true ∧ True)
    (hP : va_P D vwCl (wc ++ wr) H) (hD : va_D A (wc ++ wr)) (hS : va_S A s.heap H locs)
    (hn : As.length = n) (hl : lv_has ls maxL lv) (hst : st0 = As.reverse ++ rest) (hrm : (rest.map fun v => v.category).sum ≤ 8) (hf : cells + mc2 ≤ R.cells ∧ slots + ms2 ≤ R.slots) (hdg : decode cc pc = .ok (.invokestatic index, 3)) :
    va_Run p l e R s m args below meth c H locs cells slots mc2 ms2 (F0 m pc ls st0) rest (Qc2 As.toArray) (va_A wc H.size) :=
  va_runSN (k_fix hE ho) hM cw ⟨kP_blind, k_pre hE hP hD hS⟩ rfl hn hl.1 hst (lv_room hrm) hdg hf
theorem k_rI (hE : kE p s m args meth c D cs y ws cc maxL ret A) (ho : own = y.cls) (hM : Met l y2 ws2 rm2 (kP D cs (.ref b :: As) wc H.size) Qc2 mc2 ms2 (va_A wc H.size)) (cw : CallB R s args own index y2 bytes2 maxL2 none ws2 rm2 mc2 ms2 n ∧ y2.name = "<init>" ∧ (Cond.instanceMethod y2).before args s = true)
    (hP : va_P D vwCl (wc ++ wr) H) (hD : va_D A (wc ++ wr)) (hS : va_S A s.heap H locs)
    (hn : As.length = n) (hl : lv_has ls maxL lv) (hst : st0 = As.reverse ++ .ref b :: rest) (hrm : (rest.map fun v => v.category).sum ≤ 8) (hf : cells + mc2 ≤ R.cells ∧ slots + ms2 ≤ R.slots) (hdg : decode cc pc = .ok (.invokespecial index, 3)) :
    va_Run p l e R s m args below meth c H locs cells slots mc2 ms2 (F0 m pc ls st0) rest (Qc2 (Value.ref b :: As).toArray) (va_A wc H.size) :=
  va_runI (k_fix hE ho) hM cw ⟨kP_blind, k_pre hE hP hD hS⟩ rfl hn hl.1 hst (lv_room hrm) hdg hf
theorem k_rIN (hE : kE p s m args meth c D cs y ws cc maxL ret A) (ho : own = y.cls) (hM : Met l y2 ws2 rm2 (kP D cs (.ref b :: As) wc H.size) Qc2 mc2 ms2 (va_A wc H.size)) (cw : va_CN R s args own index y2 host bytes2 maxL2 none ws2 rm2 mc2 ms2 n ∧ y2.name = "<init>" ∧ (Cond.instanceMethod y2).before args s = true)
    (hP : va_P D vwCl (wc ++ wr) H) (hD : va_D A (wc ++ wr)) (hS : va_S A s.heap H locs)
    (hn : As.length = n) (hl : lv_has ls maxL lv) (hst : st0 = As.reverse ++ .ref b :: rest) (hrm : (rest.map fun v => v.category).sum ≤ 8) (hf : cells + mc2 ≤ R.cells ∧ slots + ms2 ≤ R.slots) (hdg : decode cc pc = .ok (.invokespecial index, 3)) :
    va_Run p l e R s m args below meth c H locs cells slots mc2 ms2 (F0 m pc ls st0) rest (Qc2 (Value.ref b :: As).toArray) (va_A wc H.size) :=
  va_runIN (k_fix hE ho) hM cw ⟨kP_blind, k_pre hE hP hD hS⟩ rfl hn hl.1 hst (lv_room hrm) hdg hf
/-- what comes behind a call -/
theorem kI_call {r : Int32} {a9 : Array Value} (hE : kE p s m args meth c D cs y ws cc maxL ret A) (hP : va_P D vwCl (wc ++ wr) H) (hD : va_D A (wc ++ wr)) (hS : va_S A s.heap H locs)
    (hr : va_Run p l e R s m args below meth c H locs cells slots mc2 ms2 (F0 m pc ls st0) rest (va_Qi (fun (r' : Int32) (_ : Unit) => r' = r) (kB D (fun _ => w1) (va_A wc H.size)) (va_A wc H.size) a9) (va_A wc H.size))
    (kk : ∀ (H1 : Heap) (locs1 : List Loc), va_P D vwCl (w1 ++ wr) H1 → va_D A (w1 ++ wr) → va_S A s.heap H1 locs1 → W p l e R s m args below meth c H1 locs1 (cells + mc2) (slots + ms2) Q (F0 m (pc + 3) ls (.int r :: rest))) : W p l e R s m args below meth c H locs cells slots Q (F0 m pc ls st0) := by
  obtain ⟨-, -, -, -, -, -, -, -, hA, -⟩ := hE
  refine va_calli hr hS (fun q _ h => k_free hD hS hA q h) (k_free hD hS hA) (fun r9 u t H1 locs1 ht hvm hw hB hz1 hk1 hS1 => ?_)
  subst hw
  obtain ⟨hP1, hD1⟩ := hB
  rw [ht] at hP1
  obtain ⟨hP2, hD2⟩ := k_join hP hD hS hA hk1 hP1 hD1
  exact kk H1 locs1 hP2 hD2 hS1
theorem kJ_call {r : Int64} {a9 : Array Value} (hE : kE p s m args meth c D cs y ws cc maxL ret A) (hP : va_P D vwCl (wc ++ wr) H) (hD : va_D A (wc ++ wr)) (hS : va_S A s.heap H locs)
    (hr : va_Run p l e R s m args below meth c H locs cells slots mc2 ms2 (F0 m pc ls st0) rest (va_Ql (fun (r' : Int64) (_ : Unit) => r' = r) (kB D (fun _ => w1) (va_A wc H.size)) (va_A wc H.size) a9) (va_A wc H.size))
    (kk : ∀ (H1 : Heap) (locs1 : List Loc), va_P D vwCl (w1 ++ wr) H1 → va_D A (w1 ++ wr) → va_S A s.heap H1 locs1 → W p l e R s m args below meth c H1 locs1 (cells + mc2) (slots + ms2) Q (F0 m (pc + 3) ls (.long r :: rest))) : W p l e R s m args below meth c H locs cells slots Q (F0 m pc ls st0) := by
  obtain ⟨-, -, -, -, -, -, -, -, hA, -⟩ := hE
  refine va_calll hr hS (fun q _ h => k_free hD hS hA q h) (k_free hD hS hA) (fun r9 u t H1 locs1 ht hvm hw hB hz1 hk1 hS1 => ?_)
  subst hw
  obtain ⟨hP1, hD1⟩ := hB
  rw [ht] at hP1
  obtain ⟨hP2, hD2⟩ := k_join hP hD hS hA hk1 hP1 hD1
  exact kk H1 locs1 hP2 hD2 hS1
theorem kV_call {S : Type} {ps : S → Prop} {w1 : S → va_W} {a9 : Array Value} (hE : kE p s m args meth c D cs y ws cc maxL ret A) (hP : va_P D vwCl (wc ++ wr) H) (hD : va_D A (wc ++ wr)) (hS : va_S A s.heap H locs)
    (hr : va_Run p l e R s m args below meth c H locs cells slots mc2 ms2 (F0 m pc ls st0) rest (va_Qv ps (kB D w1 (va_A wc H.size)) (va_A wc H.size) a9) (va_A wc H.size))
    (kk : ∀ (u : S) (H1 : Heap) (locs1 : List Loc), ps u → va_P D vwCl (w1 u ++ wr) H1 → va_D A (w1 u ++ wr) → va_S A s.heap H1 locs1 → W p l e R s m args below meth c H1 locs1 (cells + mc2) (slots + ms2) Q (F0 m (pc + 3) ls rest)) : W p l e R s m args below meth c H locs cells slots Q (F0 m pc ls st0) := by
  obtain ⟨-, -, -, -, -, -, -, -, hA, -⟩ := hE
  refine va_callv hr hS (fun q _ h => k_free hD hS hA q h) (k_free hD hS hA) (fun u t H1 locs1 ht hvm hw hB hz1 hk1 hS1 => ?_)
  obtain ⟨hP1, hD1⟩ := hB
  rw [ht] at hP1
  obtain ⟨hP2, hD2⟩ := k_join hP hD hS hA hk1 hP1 hD1
  exact kk u H1 locs1 hw hP2 hD2 hS1
end KC
def bi (b : Bool) : Int32 := if b then 1 else 0
theorem bi_f {b : Bool} (h : bi b = 0) : b = false := by cases b; rfl; simp [bi] at h
theorem bi_t {b : Bool} (h : ¬ bi b = 0) : b = true := by cases b; exact absurd rfl h; rfl
