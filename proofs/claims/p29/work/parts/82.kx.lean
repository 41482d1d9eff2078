/-! p29: walks of the law's methods, whatever class state stands for the core. -/
/-- returns r, and the world is w1 of some u of which Φ holds -/
def kQ {U : Type} (l : Launch) (y : MethodName) (ws : List Cond) (rm : Room) (mc ms : Nat) (D : va_G) (cs : Nat → ClassId) (as : List Value) (wc : va_W) (r : Int32) (Φ : U → Prop) (w1 : U → va_W) : Prop :=
  ∀ sz, Met l y ws rm (kP D cs as wc sz) (va_Qi (fun (r' : Int32) (u : U) => r' = r ∧ Φ u) (kB D w1 (va_A wc sz)) (va_A wc sz)) mc ms (va_A wc sz)
theorem kQ_of_I {U : Type} {l : Launch} {y : MethodName} {ws : List Cond} {rm : Room} {mc ms : Nat} {D : va_G} {cs : Nat → ClassId} {as : List Value} {wc wd : va_W} {r r2 : Int32} {Φ : U → Prop} {w1 : U → va_W} (u : U) (h : kI l y ws rm mc ms D cs as wc r wd) (hr : r = r2) (hw : wd = w1 u) (hu : Φ u) : kQ l y ws rm mc ms D cs as wc r2 Φ w1 := by
  subst hr
  subst hw
  intro sz p e ha hc hk s m args below hf happ hP hK
  obtain ⟨n, o, h1, h2, h3, ⟨⟨⟨r9, u9, e1, e2, e3⟩, f⟩, g⟩⟩ := h sz p e ha hc hk s m args below hf happ hP hK
  exact ⟨n, o, h1, h2, h3, ⟨⟨⟨r9, u, e1, ⟨e2, hu⟩, e3⟩, f⟩, g⟩⟩
section KX
variable {p : Program} {l : Launch} {e : Env} {R : Room} {s : State} {m : MethodId} {args : Array Value} {below : List Frame} {meth : Method} {c : Code} {Q : State → Prop}
variable {D : va_G} {cs : Nat → ClassId} {as : List Value} {A : Nat → Prop} {y y2 : MethodName} {ws ws' ws2 : List Cond} {rm rm2 : Room} {mc ms mc2 ms2 n index : Nat} {cc bytes2 : ByteArray} {maxL maxL2 : Nat} {ret ret2 : Option FieldType} {As rest st0 st1 st2 : List Value} {b pc pc1 pc2 cells slots cells2 slots2 : Nat} {lv lv1 lv2 : List (Nat × Value)} {own C : String} {U V : Type} {Φ : U → Prop} {w : U → va_W} {Ψ : V → Prop} {w2 : V → va_W}
/-- at a place of the method, with these locals and this stack, whatever state u is -/
def KX (p : Program) (l : Launch) (e : Env) (R : Room) (s : State) (m : MethodId) (args : Array Value) (below : List Frame) (meth : Method) (c : Code) (D : va_G) (A : Nat → Prop) (maxL : Nat) (Q : State → Prop) {U : Type} (Φ : U → Prop) (w : U → va_W) (lv : List (Nat × Value)) (st : List Value) (pc cells slots : Nat) : Prop :=
  ∀ (u : U) (H : Heap) (locs : List Loc) (ls : Array Slot), Φ u → va_S A s.heap H locs → va_P D vwCl (w u) H → va_D A (w u) → lv_has ls maxL lv → W p l e R s m args below meth c H locs cells slots Q (F0 m pc ls st)
/-- a step that writes no local -/
theorem KX_step (h : ∀ (H : Heap) (locs : List Loc) (ls : Array Slot), lv_has ls maxL lv → W p l e R s m args below meth c H locs cells slots Q (F0 m pc1 ls st1) → W p l e R s m args below meth c H locs cells slots Q (F0 m pc ls st0)) (k : KX p l e R s m args below meth c D A maxL Q Φ w lv st1 pc1 cells slots) : KX p l e R s m args below meth c D A maxL Q Φ w lv st0 pc cells slots :=
  fun u H locs ls hu hS hP hD hl => h H locs ls hl (k u H locs ls hu hS hP hD hl)
theorem KX_store (h : ∀ (H : Heap) (locs : List Loc) (ls : Array Slot), lv_has ls maxL lv → (∀ ls1 : Array Slot, lv_has ls1 maxL lv1 → W p l e R s m args below meth c H locs cells slots Q (F0 m pc1 ls1 st1)) → W p l e R s m args below meth c H locs cells slots Q (F0 m pc ls st0)) (k : KX p l e R s m args below meth c D A maxL Q Φ w lv1 st1 pc1 cells slots) : KX p l e R s m args below meth c D A maxL Q Φ w lv st0 pc cells slots :=
  fun u H locs ls hu hS hP hD hl => h H locs ls hl (fun ls1 hl1 => k u H locs ls1 hu hS hP hD hl1)
theorem KX_if {c1 c2 : Prop} (h : ∀ (H : Heap) (locs : List Loc) (ls : Array Slot), lv_has ls maxL lv → (c1 → W p l e R s m args below meth c H locs cells slots Q (F0 m pc1 ls st1)) → (c2 → W p l e R s m args below meth c H locs cells slots Q (F0 m pc2 ls st1)) → W p l e R s m args below meth c H locs cells slots Q (F0 m pc ls st0)) (k1 : c1 → KX p l e R s m args below meth c D A maxL Q Φ w lv st1 pc1 cells slots) (k2 : c2 → KX p l e R s m args below meth c D A maxL Q Φ w lv st1 pc2 cells slots) : KX p l e R s m args below meth c D A maxL Q Φ w lv st0 pc cells slots :=
  fun u H locs ls hu hS hP hD hl => h H locs ls hl (fun q => k1 q u H locs ls hu hS hP hD hl) (fun q => k2 q u H locs ls hu hS hP hD hl)
theorem KX_wid (h1 : cells ≤ cells2) (h2 : slots ≤ slots2) (k : KX p l e R s m args below meth c D A maxL Q Φ w lv st0 pc cells2 slots2) : KX p l e R s m args below meth c D A maxL Q Φ w lv st0 pc cells slots :=
  fun u H locs ls hu hS hP hD hl => W.widen h1 h2 (k u H locs ls hu hS hP hD hl)
theorem KX_sub (idx : List Nat) (h : lv_pick lv idx = lv1) (k : KX p l e R s m args below meth c D A maxL Q Φ w lv1 st0 pc cells slots) : KX p l e R s m args below meth c D A maxL Q Φ w lv st0 pc cells slots :=
  fun u H locs ls hu hS hP hD hl => k u H locs ls hu hS hP hD (lv_sub hl idx h)
/-- a call: of what stands for u a part goes into it -/
theorem KX_call {r : Int32} (hE : kE p s m args meth c D cs y ws cc maxL ret A) (ho : own = y.cls)
    (hc : ∀ u, Φ u → ∃ (S : Type) (wc wr : va_W) (Φ2 : S → Prop) (w1 : S → va_W), (w u).Perm (wc ++ wr) ∧ kQ l y2 ws2 rm2 mc2 ms2 D cs As wc r Φ2 w1 ∧ ∀ x, Φ2 x → ∃ v, Ψ v ∧ (w1 x ++ wr).Perm (w2 v))
    (cw : CallB R s args own index y2 bytes2 maxL2 ret2 ws2 rm2 mc2 ms2 n ∧ (Cond.static y2).before args s = true) (hn : As.length = n) (hst : st0 = As.reverse ++ rest) (hrm : (rest.map fun v => v.category).sum ≤ 8) (hf : cells + mc2 ≤ R.cells ∧ slots + ms2 ≤ R.slots) (hdg : decode cc pc = .ok (.invokestatic index, 3)) (h1 : cells + mc2 ≤ cells2) (h2 : slots + ms2 ≤ slots2)
    (k : KX p l e R s m args below meth c D A maxL Q Ψ w2 lv (.int r :: rest) (pc + 3) cells2 slots2) : KX p l e R s m args below meth c D A maxL Q Φ w lv st0 pc cells slots := by
  intro u H locs ls hu hS hP hD hl
  obtain ⟨S, wc, wr, Φ2, w1, pm, hq, hx⟩ := hc u hu
  have hP := pmP pm hP
  have hD := pmD pm hD
  have hA : ∀ q : Nat, s.heap.size ≤ q → A q := hE.2.2.2.2.2.2.2.2.1
  refine va_calli (k_rS hE ho (hq H.size) cw hP hD hS hn hl hst hrm hf hdg) hS (fun q _ h => k_free hD hS hA q h) (k_free hD hS hA) (fun r9 u9 t H1 locs1 ht hvm hw hB hz1 hk1 hS1 => ?_)
  obtain ⟨hw, hu9⟩ := hw
  subst hw
  obtain ⟨hP1, hD1⟩ := hB
  rw [ht] at hP1
  obtain ⟨hP2, hD2⟩ := k_join hP hD hS hA hk1 hP1 hD1
  obtain ⟨v, hv, pm2⟩ := hx u9 hu9
  exact W.widen h1 h2 (k v H1 locs1 ls hv hS1 (pmP pm2 hP2) (pmD pm2 hD2) hl)
/-- the same, of a method that has handlers -/
theorem KX_callH {hh : List (Nat × Nat × Nat × Nat)} {r : Int32} (hE : kE p s m args meth c D cs y ws cc maxL ret A) (ho : own = y.cls)
    (hc : ∀ u, Φ u → ∃ (S : Type) (wc wr : va_W) (Φ2 : S → Prop) (w1 : S → va_W), (w u).Perm (wc ++ wr) ∧ kQ l y2 ws2 rm2 mc2 ms2 D cs As wc r Φ2 w1 ∧ ∀ x, Φ2 x → ∃ v, Ψ v ∧ (w1 x ++ wr).Perm (w2 v))
    (cw : vx_CSW R s args own index y2 bytes2 maxL2 ret2 hh ws2 rm2 mc2 ms2 n) (hn : As.length = n) (hst : st0 = As.reverse ++ rest) (hrm : (rest.map fun v => v.category).sum ≤ 8) (hf : cells + mc2 ≤ R.cells ∧ slots + ms2 ≤ R.slots) (hdg : decode cc pc = .ok (.invokestatic index, 3)) (h1 : cells + mc2 ≤ cells2) (h2 : slots + ms2 ≤ slots2)
    (k : KX p l e R s m args below meth c D A maxL Q Ψ w2 lv (.int r :: rest) (pc + 3) cells2 slots2) : KX p l e R s m args below meth c D A maxL Q Φ w lv st0 pc cells slots := by
  intro u H locs ls hu hS hP hD hl
  obtain ⟨S, wc, wr, Φ2, w1, pm, hq, hx⟩ := hc u hu
  have hP := pmP pm hP
  have hD := pmD pm hD
  have hA : ∀ q : Nat, s.heap.size ≤ q → A q := hE.2.2.2.2.2.2.2.2.1
  refine va_calli (k_rH hE ho (hq H.size) cw hP hD hS hn hl hst hrm hf hdg) hS (fun q _ h => k_free hD hS hA q h) (k_free hD hS hA) (fun r9 u9 t H1 locs1 ht hvm hw hB hz1 hk1 hS1 => ?_)
  obtain ⟨hw, hu9⟩ := hw
  subst hw
  obtain ⟨hP1, hD1⟩ := hB
  rw [ht] at hP1
  obtain ⟨hP2, hD2⟩ := k_join hP hD hS hA hk1 hP1 hD1
  obtain ⟨v, hv, pm2⟩ := hx u9 hu9
  exact W.widen h1 h2 (k v H1 locs1 ls hv hS1 (pmP pm2 hP2) (pmD pm2 hD2) hl)
/-- the same, of a method of the class's own -/
theorem KX_callV {r : Int32} (hE : kE p s m args meth c D cs y ws cc maxL ret A) (ho : own = y.cls)
    (hc : ∀ u, Φ u → ∃ (S : Type) (wc wr : va_W) (Φ2 : S → Prop) (w1 : S → va_W) (fs : List Value), (w u).Perm (wc ++ wr) ∧ wc[0]? = some (b, .inr (5, fs)) ∧ kQ l y2 ws2 rm2 mc2 ms2 D cs (.ref b :: As) wc r Φ2 w1 ∧ ∀ x, Φ2 x → ∃ v, Ψ v ∧ (w1 x ++ wr).Perm (w2 v))
    (cw : CallW R s args own RX5 index y2 bytes2 maxL2 ret2 ws2 rm2 mc2 ms2 n) (hn : As.length = n) (hst : st0 = As.reverse ++ .ref b :: rest) (hrm : (rest.map fun v => v.category).sum ≤ 8) (hf : cells + mc2 ≤ R.cells ∧ slots + ms2 ≤ R.slots) (hdg : decode cc pc = .ok (.invokevirtual index, 3)) (h1 : cells + mc2 ≤ cells2) (h2 : slots + ms2 ≤ slots2)
    (k : KX p l e R s m args below meth c D A maxL Q Ψ w2 lv (.int r :: rest) (pc + 3) cells2 slots2) : KX p l e R s m args below meth c D A maxL Q Φ w lv st0 pc cells slots := by
  intro u H locs ls hu hS hP hD hl
  obtain ⟨S, wc, wr, Φ2, w1, fs, pm, h0, hq, hx⟩ := hc u hu
  have hP := pmP pm hP
  have hD := pmD pm hD
  have hA : ∀ q : Nat, s.heap.size ≤ q → A q := hE.2.2.2.2.2.2.2.2.1
  refine va_calli (k_rV hE ho (hq H.size) cw hP hD hS (ci := 5) (q0 := 0) rfl h0 hn hl hst hrm hf hdg) hS (fun q _ h => k_free hD hS hA q h) (k_free hD hS hA) (fun r9 u9 t H1 locs1 ht hvm hw hB hz1 hk1 hS1 => ?_)
  obtain ⟨hw, hu9⟩ := hw
  subst hw
  obtain ⟨hP1, hD1⟩ := hB
  rw [ht] at hP1
  obtain ⟨hP2, hD2⟩ := k_join hP hD hS hA hk1 hP1 hD1
  obtain ⟨v, hv, pm2⟩ := hx u9 hu9
  exact W.widen h1 h2 (k v H1 locs1 ls hv hS1 (pmP pm2 hP2) (pmD pm2 hD2) hl)
/-- what is so of every state may be used -/
theorem KX_fact {F : Prop} (hf : ∀ u, Φ u → F) (k : F → KX p l e R s m args below meth c D A maxL Q Φ w lv st0 pc cells slots) : KX p l e R s m args below meth c D A maxL Q Φ w lv st0 pc cells slots :=
  fun u H locs ls hu hS hP hD hl => k (hf u hu) u H locs ls hu hS hP hD hl
theorem KX_ex {X : Type} {Φx : X → U → Prop} (k : ∀ x, KX p l e R s m args below meth c D A maxL Q (Φx x) w lv st0 pc cells slots) : KX p l e R s m args below meth c D A maxL Q (fun u => ∃ x, Φx x u) w lv st0 pc cells slots :=
  fun u H locs ls hu hS hP hD hl => by
    obtain ⟨x, hx⟩ := hu
    exact k x u H locs ls hx hS hP hD hl
theorem KX_imp {Φ2 : U → Prop} (hi : ∀ u, Φ u → Φ2 u) (k : KX p l e R s m args below meth c D A maxL Q Φ2 w lv st0 pc cells slots) : KX p l e R s m args below meth c D A maxL Q Φ w lv st0 pc cells slots :=
  fun u H locs ls hu hS hP hD hl => k u H locs ls (hi u hu) hS hP hD hl
/-- the end -/
theorem KX_ret {ty : FieldType} {v r : Int32} {Φ1 : V → Prop} {w1 : V → va_W} (hE : kE p s m args meth c D cs y ws cc maxL (some ty) A) (hn : narrow ty (.int v) = .int v) (hv : v = r) (hu : ∀ u, Φ u → ∃ x, Φ1 x ∧ (w u).Perm (w1 x)) (hc : cells ≤ mc) (hs : slots ≤ ms) (hdg : decode cc pc = .ok (.ireturn, 1)) :
    KX p l e R s m args below meth c D A maxL (MQ below (va_Qi (fun (r' : Int32) (x : V) => r' = r ∧ Φ1 x) (kB D w1 A) A) args s mc ms A) Φ w lv [.int v] pc cells slots := by
  intro u H locs ls hu9 hS hP hD hl
  obtain ⟨x, hx, pm⟩ := hu u hu9
  obtain ⟨hx9, hb, hr, hlocks, -⟩ := hE
  refine W.widen hc hs ?_
  exact W.zret hx9 hb hr hn (fun t ht hW => ⟨⟨v, x, rfl, ⟨hv, hx⟩, by rw [ht]; exact pmP pm hP, pmD pm hD⟩, hS.F ht⟩) hS.2.2 hdg
theorem kQ_of {r : Int32} {Φ1 : V → Prop} {w1 : V → va_W} {wc : U → va_W} (hy : plainName y.cls = true) (hw : ws = Cond.code y cc maxL ret :: ws') (hmx : (lg_sl as).length ≤ maxL)
    (body : ∀ (p : Program) (e : Env) (s : State) (m : MethodId) (below : List Frame) (meth : Method) (c : Code) (A : Nat → Prop), kE p s m as.toArray meth c D cs y ws cc maxL ret A →
      KX p l e rm s m as.toArray below meth c D A maxL (MQ below (va_Qi (fun (r' : Int32) (x : V) => r' = r ∧ Φ1 x) (kB D w1 A) A) as.toArray s mc ms A) Φ wc (lv_args 0 as) [] 0 0 0) : ∀ u, Φ u → kQ l y ws rm mc ms D cs as (wc u) r Φ1 w1 :=
  fun u hu _ => kM_of (Qc := fun A => va_Qi (fun (r' : Int32) (x : V) => r' = r ∧ Φ1 x) (kB D w1 A) A) hy hw hmx (fun p e s m below meth c A ls H locs hE hS hP hD hl => body p e s m below meth c A hE u H locs ls hu hS hP hD hl)
end KX
-- ---------------------------------------------------------------- worlds of one organ and of two
section KY
variable {l : Launch} {D : va_G} {cs : Nat → ClassId} {ca cb : Nat → Nat → Nat} {y2 : MethodName} {ws2 : List Cond} {rm2 : Room} {mc2 ms2 : Nat} {As : List Value} {r : Int32}
abbrev w_1 (cs : Nat → ClassId) (ca : Nat → Nat → Nat) : CV → va_W := fun v => ca_W cs ca v
abbrev w_2 (cs : Nat → ClassId) (ca cb : Nat → Nat → Nat) : CV × CV → va_W := fun v => ca_W cs ca v.1 ++ ca_W cs cb v.2
abbrev f_1 (c : KC) : CV → Prop := fun v => QR v c
abbrev f_2 (c d : KC) : CV × CV → Prop := fun v => QR v.1 c ∧ QR v.2 d
/-- the contract of a call on one organ -/
abbrev k1 (l : Launch) (y2 : MethodName) (ws2 : List Cond) (rm2 : Room) (mc2 ms2 : Nat) (D : va_G) (cs : Nat → ClassId) (ca : Nat → Nat → Nat) (As : List Value) (r : Int32) (c c2 : KC) : Prop := ∀ v, QR v c → kQ l y2 ws2 rm2 mc2 ms2 D cs As (ca_W cs ca v) r (f_1 c2) (w_1 cs ca)
abbrev k2 (l : Launch) (y2 : MethodName) (ws2 : List Cond) (rm2 : Room) (mc2 ms2 : Nat) (D : va_G) (cs : Nat → ClassId) (ca cb : Nat → Nat → Nat) (As : List Value) (r : Int32) (c d c2 d2 : KC) : Prop := ∀ v, f_2 c d v → kQ l y2 ws2 rm2 mc2 ms2 D cs As (w_2 cs ca cb v) r (f_2 c2 d2) (w_2 cs ca cb)
theorem sp0 {U : Type} {Φ : U → Prop} {w : U → va_W} (h : kQ l y2 ws2 rm2 mc2 ms2 D cs As [] r (fun _ : Unit => True) (fun _ => [])) : ∀ u, Φ u → ∃ (S : Type) (wc wr : va_W) (Φ2 : S → Prop) (w1 : S → va_W), (w u).Perm (wc ++ wr) ∧ kQ l y2 ws2 rm2 mc2 ms2 D cs As wc r Φ2 w1 ∧ ∀ x, Φ2 x → ∃ v, Φ v ∧ (w1 x ++ wr).Perm (w v) :=
  fun u hu => ⟨Unit, [], w u, _, _, List.Perm.refl _, h, fun _ _ => ⟨u, hu, List.Perm.refl _⟩⟩
theorem sp1 {c c2 : KC} (h : k1 l y2 ws2 rm2 mc2 ms2 D cs ca As r c c2) : ∀ u, f_1 c u → ∃ (S : Type) (wc wr : va_W) (Φ2 : S → Prop) (w1 : S → va_W), (w_1 cs ca u).Perm (wc ++ wr) ∧ kQ l y2 ws2 rm2 mc2 ms2 D cs As wc r Φ2 w1 ∧ ∀ x, Φ2 x → ∃ v, f_1 c2 v ∧ (w1 x ++ wr).Perm (w_1 cs ca v) :=
  fun u hu => ⟨CV, ca_W cs ca u, [], _, _, by rw [List.append_nil], h u hu, fun x hx => ⟨x, hx, by rw [List.append_nil]⟩⟩
theorem sp2a {c d c2 : KC} (h : k1 l y2 ws2 rm2 mc2 ms2 D cs ca As r c c2) : ∀ u, f_2 c d u → ∃ (S : Type) (wc wr : va_W) (Φ2 : S → Prop) (w1 : S → va_W), (w_2 cs ca cb u).Perm (wc ++ wr) ∧ kQ l y2 ws2 rm2 mc2 ms2 D cs As wc r Φ2 w1 ∧ ∀ x, Φ2 x → ∃ v, f_2 c2 d v ∧ (w1 x ++ wr).Perm (w_2 cs ca cb v) :=
  fun u hu => ⟨CV, ca_W cs ca u.1, ca_W cs cb u.2, _, _, List.Perm.refl _, h u.1 hu.1, fun x hx => ⟨(x, u.2), ⟨hx, hu.2⟩, List.Perm.refl _⟩⟩
theorem sp2b {c d d2 : KC} (h : k1 l y2 ws2 rm2 mc2 ms2 D cs cb As r d d2) : ∀ u, f_2 c d u → ∃ (S : Type) (wc wr : va_W) (Φ2 : S → Prop) (w1 : S → va_W), (w_2 cs ca cb u).Perm (wc ++ wr) ∧ kQ l y2 ws2 rm2 mc2 ms2 D cs As wc r Φ2 w1 ∧ ∀ x, Φ2 x → ∃ v, f_2 c d2 v ∧ (w1 x ++ wr).Perm (w_2 cs ca cb v) :=
  fun u hu => ⟨CV, ca_W cs cb u.2, ca_W cs ca u.1, _, _, List.perm_append_comm, h u.2 hu.2, fun x hx => ⟨(u.1, x), ⟨hu.1, hx⟩, List.perm_append_comm⟩⟩
theorem sp2 {c d c2 d2 : KC} (h : k2 l y2 ws2 rm2 mc2 ms2 D cs ca cb As r c d c2 d2) : ∀ u, f_2 c d u → ∃ (S : Type) (wc wr : va_W) (Φ2 : S → Prop) (w1 : S → va_W), (w_2 cs ca cb u).Perm (wc ++ wr) ∧ kQ l y2 ws2 rm2 mc2 ms2 D cs As wc r Φ2 w1 ∧ ∀ x, Φ2 x → ∃ v, f_2 c2 d2 v ∧ (w1 x ++ wr).Perm (w_2 cs ca cb v) :=
  fun u hu => ⟨CV × CV, w_2 cs ca cb u, [], _, _, by rw [List.append_nil], h u hu, fun x hx => ⟨x, hx, by rw [List.append_nil]⟩⟩
theorem ca_00 (cs : Nat → ClassId) (ca : Nat → Nat → Nat) (cv : CV) : ∃ fs, (ca_W cs ca cv)[0]? = some (ca 0 0, .inr (5, fs)) := ⟨_, rfl⟩
theorem sv1 {c : KC} {v : Int32} (hf : ∀ cv, QR cv c → k_X5_fullest cv = v) : ∀ u, f_1 c u → ∃ (S : Type) (wc wr : va_W) (Φ2 : S → Prop) (w1 : S → va_W) (fs : List Value), (w_1 cs ca u).Perm (wc ++ wr) ∧ wc[0]? = some (ca 0 0, .inr (5, fs)) ∧ kQ l yX5_fullest wsX5_fullest { frames := 3, cells := 0, slots := 0, locals := 68 } 0 0 D cs [.ref (ca 0 0)] wc v Φ2 w1 ∧ ∀ x, Φ2 x → ∃ v, f_1 c v ∧ (w1 x ++ wr).Perm (w_1 cs ca v) :=
  fun u hu => by
    obtain ⟨fs, h0⟩ := ca_00 cs ca u
    exact ⟨CV, ca_W cs ca u, [], f_1 c, w_1 cs ca, fs, by rw [List.append_nil], h0, kQ_of_I u (c_X5_fullest l D cs ca u hu.1.2.1) (hf u hu) rfl hu, fun x hx => ⟨x, hx, by rw [List.append_nil]⟩⟩
theorem sv2a {c d : KC} {v : Int32} (hf : ∀ cv, QR cv c → k_X5_fullest cv = v) : ∀ u, f_2 c d u → ∃ (S : Type) (wc wr : va_W) (Φ2 : S → Prop) (w1 : S → va_W) (fs : List Value), (w_2 cs ca cb u).Perm (wc ++ wr) ∧ wc[0]? = some (ca 0 0, .inr (5, fs)) ∧ kQ l yX5_fullest wsX5_fullest { frames := 3, cells := 0, slots := 0, locals := 68 } 0 0 D cs [.ref (ca 0 0)] wc v Φ2 w1 ∧ ∀ x, Φ2 x → ∃ v, f_2 c d v ∧ (w1 x ++ wr).Perm (w_2 cs ca cb v) :=
  fun u hu => by
    obtain ⟨fs, h0⟩ := ca_00 cs ca u.1
    exact ⟨CV, ca_W cs ca u.1, ca_W cs cb u.2, f_1 c, w_1 cs ca, fs, List.Perm.refl _, h0, kQ_of_I u.1 (c_X5_fullest l D cs ca u.1 hu.1.1.2.1) (hf u.1 hu.1) rfl hu.1, fun x hx => ⟨(x, u.2), ⟨hx, hu.2⟩, List.Perm.refl _⟩⟩
theorem sv2b {c d : KC} {v : Int32} (hf : ∀ cv, QR cv d → k_X5_fullest cv = v) : ∀ u, f_2 c d u → ∃ (S : Type) (wc wr : va_W) (Φ2 : S → Prop) (w1 : S → va_W) (fs : List Value), (w_2 cs ca cb u).Perm (wc ++ wr) ∧ wc[0]? = some (cb 0 0, .inr (5, fs)) ∧ kQ l yX5_fullest wsX5_fullest { frames := 3, cells := 0, slots := 0, locals := 68 } 0 0 D cs [.ref (cb 0 0)] wc v Φ2 w1 ∧ ∀ x, Φ2 x → ∃ v, f_2 c d v ∧ (w1 x ++ wr).Perm (w_2 cs ca cb v) :=
  fun u hu => by
    obtain ⟨fs, h0⟩ := ca_00 cs cb u.2
    exact ⟨CV, ca_W cs cb u.2, ca_W cs ca u.1, f_1 d, w_1 cs cb, fs, List.perm_append_comm, h0, kQ_of_I u.2 (c_X5_fullest l D cs cb u.2 hu.2.1.2.1) (hf u.2 hu.2) rfl hu.2, fun x hx => ⟨(u.1, x), ⟨hu.1, hx⟩, List.perm_append_comm⟩⟩
end KY
