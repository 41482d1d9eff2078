def k_X0_isEmpty (cv : CV) : Int32 := (if (cv.2.2.1 1) = 0 then 1 else 0)
set_option maxHeartbeats 4000000 in
set_option maxRecDepth 100000 in
theorem c_X0_isEmpty (l : Launch) (D : va_G) (cs : Nat → ClassId) (ca : Nat → Nat → Nat) (cv : CV) (hC : CO cv) : kI l yX0_isEmpty wsX0_isEmpty { frames := 0, cells := 0, slots := 0, locals := 0 } 0 0 D cs [.ref (ca 2 0)] (ca_W cs ca cv) (k_X0_isEmpty cv) (ca_W cs ca cv) := by
  generalize hres : k_X0_isEmpty cv = res
  refine kI_of (cc := cX0_isEmpty) (maxL := 1) (ret := (some .boolean)) (by decide) rfl (Nat.le_of_ble_eq_true rfl) ?_
  intro p e s m below meth c A ls H locs hE hS hP hD hl
  obtain ⟨hx, hb, hr, hlocks, hml, hown, hts, hK, hA, hG, hnm⟩ := id hE
  have hown : s.vm.findClass RX0 = some m.cls := hown
  have hl : lv_has ls 1 [(0, .ref (ca 2 0))] := hl
  have hinX0 : ∀ w ∈ wsX00, w ∈ wsX0_isEmpty := by decide +kernel
  have lk_0 := hts (.fieldLink RX0 18 "OrganPegs$History" "count" "I") (by decide +kernel)
  unfold k_X0_isEmpty at hres
  refine lv_aload_n hx hb dX0_isEmpty_0 rfl (lv_at hl 0 rfl) ?_
  refine va_get (D := D) (ci := 0) (v := .int (cv.2.2.1 1)) (C := RX0) (T := TX0) (N := 3) hx hb hts hinX0 hown hK hP 3 rfl rfl 2 (by decide) lk_0 (fun _ h9 => h9) rfl dX0_isEmpty_1 ?_
  refine lv_if_ne (tgt := 11) hx hb dX0_isEmpty_4 (by decide) (fun c_4 => ?_) (fun c_4 => ?_)
  · skip
    have c_4 : ¬ ((cv.2.2.1 1) = 0) := c_4
    rw [if_neg c_4] at hres
    refine lv_iconst (v := 0) hx hb dX0_isEmpty_11 (by decide) ?_
    subst hres
    exact kI_ret hE hS hP hD rfl rfl (Nat.le_of_ble_eq_true rfl) (Nat.le_of_ble_eq_true rfl) dX0_isEmpty_12
  · skip
    have c_4 : ((cv.2.2.1 1) = 0) := c_4
    rw [if_pos c_4] at hres
    refine lv_iconst (v := 1) hx hb dX0_isEmpty_7 (by decide) ?_
    refine lv_goto (tgt := 12) hx hb dX0_isEmpty_8 (by decide) ?_
    subst hres
    exact kI_ret hE hS hP hD rfl rfl (Nat.le_of_ble_eq_true rfl) (Nat.le_of_ble_eq_true rfl) dX0_isEmpty_12
def k_X0_forget (cv : CV) : CV := (c_s cv 1 0)
set_option maxHeartbeats 4000000 in
set_option maxRecDepth 100000 in
theorem c_X0_forget (l : Launch) (D : va_G) (cs : Nat → ClassId) (ca : Nat → Nat → Nat) (cv : CV) (hC : CO cv) : kV l yX0_forget wsX0_forget { frames := 0, cells := 0, slots := 0, locals := 0 } 0 0 D cs [.ref (ca 2 0)] (ca_W cs ca cv) (fun (_ : Unit) => True) (fun _ => ca_W cs ca (k_X0_forget cv)) := by
  generalize hres : k_X0_forget cv = res
  refine kV_of (cc := cX0_forget) (maxL := 1) (ret := none) (by decide) rfl (Nat.le_of_ble_eq_true rfl) ?_
  intro p e s m below meth c A ls H locs hE hS hP hD hl
  obtain ⟨hx, hb, hr, hlocks, hml, hown, hts, hK, hA, hG, hnm⟩ := id hE
  have hown : s.vm.findClass RX0 = some m.cls := hown
  have hl : lv_has ls 1 [(0, .ref (ca 2 0))] := hl
  have hinX0 : ∀ w ∈ wsX00, w ∈ wsX0_forget := by decide +kernel
  have lk_0 := hts (.fieldLink RX0 18 "OrganPegs$History" "count" "I") (by decide +kernel)
  unfold k_X0_forget at hres
  refine lv_aload_n hx hb dX0_forget_0 rfl (lv_at hl 0 rfl) ?_
  refine lv_iconst (v := 0) hx hb dX0_forget_1 (by decide) ?_
  refine va_put (D := D) (ci := 0) (v := .int 0) (ty := .int) (C := RX0) (T := TX0) (N := 3) hx hb hts hinX0 tyX0 tyX0_ok nmX0 hown hK hP hD hS 3 rfl rfl 2 (by decide) lk_0 (fun _ h9 => h9) rfl (by decide +kernel) rfl rfl (Nat.le_of_ble_eq_true rfl) dX0_forget_2 (fun H locs hP hD hS => ?_)
  have hP : va_P D vwCl (ca_W cs ca (c_s cv 1 0)) H := hP
  have hD : va_D A (ca_W cs ca (c_s cv 1 0)) := hD
  subst hres
  exact kV_ret () hE hS hP hD trivial (Nat.le_of_ble_eq_true rfl) (Nat.le_of_ble_eq_true rfl) dX0_forget_5
/-- answers the object r, the world is w1 then -/
def kR (l : Launch) (y : MethodName) (ws : List Cond) (rm : Room) (mc ms : Nat) (D : va_G) (cs : Nat → ClassId) (as : List Value) (wc : va_W) (r : Nat) (w1 : va_W) : Prop :=
  ∀ sz, Met l y ws rm (kP D cs as wc sz) (va_Qr (fun (_ : Unit) => True) (fun u ra t => ra = r ∧ kB D (fun _ => w1) (va_A wc sz) u t) (va_A wc sz)) mc ms (va_A wc sz)
section KR
variable {p : Program} {l : Launch} {e : Env} {R : Room} {s : State} {m : MethodId} {args : Array Value} {below : List Frame} {meth : Method} {c : Code} {H : Heap} {locs : List Loc} {cells slots : Nat} {Q : State → Prop}
variable {D : va_G} {cs : Nat → ClassId} {as : List Value} {wc w1 wr : va_W} {A : Nat → Prop} {y : MethodName} {ws ws' : List Cond} {rm : Room} {mc ms mc2 ms2 : Nat} {cc : ByteArray} {maxL : Nat} {ret : Option FieldType} {rest st0 : List Value} {pc : Nat} {ls : Array Slot}
theorem kR_of {r : Nat} (hy : plainName y.cls = true) (hw : ws = Cond.code y cc maxL ret :: ws') (hmx : (lg_sl as).length ≤ maxL)
    (body : ∀ (p : Program) (e : Env) (s : State) (m : MethodId) (below : List Frame) (meth : Method) (c : Code) (A : Nat → Prop) (ls : Array Slot) (H : Heap) (locs : List Loc), kE p s m as.toArray meth c D cs y ws cc maxL ret A → va_S A s.heap H locs → va_P D vwCl wc H → va_D A wc → lv_has ls maxL (lv_args 0 as) →
      W p l e rm s m as.toArray below meth c H locs 0 0 (MQ below (va_Qr (fun (_ : Unit) => True) (fun u ra t => ra = r ∧ kB D (fun _ => w1) A u t) A) as.toArray s mc ms A) (F0 m 0 ls [])) : kR l y ws rm mc ms D cs as wc r w1 :=
  fun _ => kM_of (Qc := fun A => va_Qr (fun (_ : Unit) => True) (fun u ra t => ra = r ∧ kB D (fun _ => w1) A u t) A) hy hw hmx body
theorem kR_ret {v r : Nat} {ty : String} (hE : kE p s m args meth c D cs y ws cc maxL (some (.object ty)) A) (hS : va_S A s.heap H locs) (hP : va_P D vwCl w1 H) (hD : va_D A w1) (hv : v = r) (hc : cells ≤ mc) (hs : slots ≤ ms) (hdg : decode cc pc = .ok (.areturn, 1)) :
    W p l e R s m args below meth c H locs cells slots (MQ below (va_Qr (fun (_ : Unit) => True) (fun u ra t => ra = r ∧ kB D (fun _ => w1) A u t) A) args s mc ms A) (F0 m pc ls [.ref v]) := by
  obtain ⟨hx, hb, hr, hlocks, -⟩ := hE
  refine W.widen hc hs ?_
  exact W.aret hx hb hr (Or.inl ⟨_, rfl⟩) (Or.inr ⟨_, rfl⟩) (fun t ht hW => ⟨⟨(), v, rfl, trivial, hv, by rw [ht]; exact hP, hD⟩, hS.F ht⟩) hS.2.2 hdg
theorem kR_call {r : Nat} {a9 : Array Value} (hE : kE p s m args meth c D cs y ws cc maxL ret A) (hP : va_P D vwCl (wc ++ wr) H) (hD : va_D A (wc ++ wr)) (hS : va_S A s.heap H locs)
    (hr : va_Run p l e R s m args below meth c H locs cells slots mc2 ms2 (F0 m pc ls st0) rest (va_Qr (fun (_ : Unit) => True) (fun u ra t => ra = r ∧ kB D (fun _ => w1) (va_A wc H.size) u t) (va_A wc H.size) a9) (va_A wc H.size))
    (kk : ∀ (H1 : Heap) (locs1 : List Loc), va_P D vwCl (w1 ++ wr) H1 → va_D A (w1 ++ wr) → va_S A s.heap H1 locs1 → W p l e R s m args below meth c H1 locs1 (cells + mc2) (slots + ms2) Q (F0 m (pc + 3) ls (.ref r :: rest))) : W p l e R s m args below meth c H locs cells slots Q (F0 m pc ls st0) := by
  obtain ⟨-, -, -, -, -, -, -, -, hA, -⟩ := hE
  refine va_callr hr hS (fun q _ h => k_free hD hS hA q h) (k_free hD hS hA) (fun u ra t H1 locs1 ht hvm hw hB hz1 hk1 hS1 => ?_)
  obtain ⟨e1, hP1, hD1⟩ := hB
  subst e1
  rw [ht] at hP1
  obtain ⟨hP2, hD2⟩ := k_join hP hD hS hA hk1 hP1 hD1
  exact kk H1 locs1 hP2 hD2 hS1
end KR
set_option maxHeartbeats 4000000 in
set_option maxRecDepth 100000 in
theorem c_X0_stateAt (l : Launch) (D : va_G) (cs : Nat → ClassId) (ca : Nat → Nat → Nat) (cv : CV) (vs : Int32) (hv : 0 ≤ vs.toInt ∧ vs.toInt ≤ 13) : kR l yX0_stateAt wsX0_stateAt { frames := 0, cells := 0, slots := 0, locals := 0 } 0 0 D cs [.ref (ca 2 0), .int vs] (ca_W cs ca cv) (ca (10 + (3 + vs.toNatClampNeg)) 0) (ca_W cs ca cv) := by
  refine kR_of (cc := cX0_stateAt) (maxL := 2) (ret := (some (.object "OrganPegs$Organ"))) (by decide) rfl (Nat.le_of_ble_eq_true rfl) ?_
  intro p e s m below meth c A ls H locs hE hS hP hD hl
  obtain ⟨hx, hb, hr, hlocks, hml, hown, hts, hK, hA, hG, hnm⟩ := id hE
  have hown : s.vm.findClass RX0 = some m.cls := hown
  have hl : lv_has ls 2 [(0, .ref (ca 2 0)), (1, .int vs)] := hl
  have hinX0 : ∀ w ∈ wsX00, w ∈ wsX0_stateAt := by decide +kernel
  have lk_0 := hts (.fieldLink RX0 11 "OrganPegs$History" "states" "[LOrganPegs$Organ;") (by decide +kernel)
  have e0 : (0 : Int32).toInt = 0 := rfl
  have e14 : (14 : Int32).toInt = 14 := rfl
  refine lv_aload_n hx hb dX0_stateAt_0 rfl (lv_at hl 0 rfl) ?_
  refine va_get (D := D) (ci := 0) (v := .ref (ca 2 1)) (C := RX0) (T := TX0) (N := 3) hx hb hts hinX0 hown hK hP 3 rfl rfl 0 (by decide) lk_0 (fun _ h9 => h9) rfl dX0_stateAt_1 ?_
  refine lv_iload_n hx hb dX0_stateAt_4 rfl (lv_at hl 1 rfl) ?_
  refine lv_if_lt (tgt := 18) hx hb dX0_stateAt_5 (by decide) (fun c_5 => ?_) (fun c_5 => ?_)
  · have c_5 : vs < 0 := c_5
    rw [i_lt] at c_5
    exfalso
    omega
  refine lv_iload_n hx hb dX0_stateAt_8 rfl (lv_at hl 1 rfl) ?_
  refine lv_bipush (v := 14) hx hb dX0_stateAt_9 (by decide) ?_
  refine lv_icmp_ge (tgt := 18) hx hb dX0_stateAt_11 (by decide) (fun c_11 => ?_) (fun c_11 => ?_)
  · have c_11 : (14 : Int32) ≤ vs := c_11
    rw [i_le] at c_11
    exfalso
    omega
  refine lv_iload_n hx hb dX0_stateAt_14 rfl (lv_at hl 1 rfl) ?_
  refine lv_goto (tgt := 19) hx hb dX0_stateAt_15 (by decide) ?_
  refine k_aldq hx hb hK hP 4 3 (v := (ca (10 + (3 + vs.toNatClampNeg)) 0)) rfl rfl (b_13 hv) rfl dX0_stateAt_19 ?_
  exact kR_ret hE hS hP hD rfl (Nat.le_of_ble_eq_true rfl) (Nat.le_of_ble_eq_true rfl) dX0_stateAt_20
def k_X0_remember (cv : CV) : CV := (if 14 ≤ ((cv.2.2.1 0) + 1) then (c_s (c_s (c_o cv (3 + (cv.2.2.1 0).toNatClampNeg) (k_X1_copyFrom (cv.2.1 (3 + (cv.2.2.1 0).toNatClampNeg)) (cv.2.1 0))) 0 0) 1 (x_mmin ((cv.2.2.1 1) + 1) 14)) else (c_s (c_s (c_o cv (3 + (cv.2.2.1 0).toNatClampNeg) (k_X1_copyFrom (cv.2.1 (3 + (cv.2.2.1 0).toNatClampNeg)) (cv.2.1 0))) 0 ((cv.2.2.1 0) + 1)) 1 (x_mmin ((cv.2.2.1 1) + 1) 14)))
set_option maxHeartbeats 4000000 in
set_option maxRecDepth 100000 in
theorem c_X0_remember (l : Launch) (D : va_G) (cs : Nat → ClassId) (ca : Nat → Nat → Nat) (cv : CV) (hC : CO cv) : kV l yX0_remember wsX0_remember { frames := 4, cells := 0, slots := 0, locals := 123 } 0 0 D cs [.ref (ca 2 0), .ref (ca 10 0)] (ca_W cs ca cv) (fun (_ : Unit) => True) (fun _ => ca_W cs ca (k_X0_remember cv)) := by
  generalize hres : k_X0_remember cv = res
  refine kV_of (cc := cX0_remember) (maxL := 2) (ret := none) (by decide) rfl (Nat.le_of_ble_eq_true rfl) ?_
  intro p e s m below meth c A ls H locs hE hS hP hD hl
  obtain ⟨hx, hb, hr, hlocks, hml, hown, hts, hK, hA, hG, hnm⟩ := id hE
  have hown : s.vm.findClass RX0 = some m.cls := hown
  have hl : lv_has ls 2 [(0, .ref (ca 2 0)), (1, .ref (ca 10 0))] := hl
  have hinX0 : ∀ w ∈ wsX00, w ∈ wsX0_remember := by decide +kernel
  have lk_1 := hts (.fieldLink RX0 22 "OrganPegs$History" "next" "I") (by decide +kernel)
  have lk_2 := hts (.fieldLink RX0 18 "OrganPegs$History" "count" "I") (by decide +kernel)
  have lk_3 := hts (.methodLink RX0 33 Lib.Math.min.name) (by decide +kernel)
  have lk_4 := hts (.static Lib.Math.min.name) (by decide +kernel)
  have lk_5 := hts (.initialized "java/lang/Math") (by decide +kernel)
  have lk_6 := hts (.code Lib.Math.min.name Lib.Math.min.code 2 (some .int)) (by decide +kernel)
  have hk19 : 3 + (cv.2.2.1 0).toNatClampNeg < 19 := k_13 hC.2.2
  have hkne : (0 : Nat) ≠ 3 + (cv.2.2.1 0).toNatClampNeg := by omega
  unfold k_X0_remember at hres
  refine lv_aload_n hx hb dX0_remember_0 rfl (lv_at hl 0 rfl) ?_
  refine lv_aload_n hx hb dX0_remember_1 rfl (lv_at hl 0 rfl) ?_
  refine va_get (D := D) (ci := 0) (v := .int (cv.2.2.1 0)) (C := RX0) (T := TX0) (N := 3) hx hb hts hinX0 hown hK hP 3 rfl rfl 1 (by decide) lk_1 (fun _ h9 => h9) rfl dX0_remember_2 ?_
  have hP : va_P D vwCl ((ca_W cs ca cv) ++ []) H := k_nP hP
  have hD : va_D A ((ca_W cs ca cv) ++ []) := k_nD hD
  have hc_s : kR l yX0_stateAt wsX0_stateAt { frames := 0, cells := 0, slots := 0, locals := 0 } 0 0 D cs [.ref (ca 2 0), .int (cv.2.2.1 0)] (ca_W cs ca cv) (ca (10 + (3 + (cv.2.2.1 0).toNatClampNeg)) 0) (ca_W cs ca cv) := c_X0_stateAt l D cs ca cv (cv.2.2.1 0) hC.2.2
  refine kR_call (wc := (ca_W cs ca cv)) (wr := []) (w1 := (ca_W cs ca cv)) (r := (ca (10 + (3 + (cv.2.2.1 0).toNatClampNeg)) 0)) hE hP hD hS (k_rV (rest := []) (As := [.int (cv.2.2.1 0)]) hE rfl (hc_s H.size) (cwV 1 hts gX0_remember_X0_stateAt rfl rfl rfl (by decide +kernel) ⟨Nat.le_of_ble_eq_true rfl, Nat.le_of_ble_eq_true rfl⟩) hP hD hS (ci := 0) (q0 := 3) rfl rfl rfl hl rfl (Nat.le_of_ble_eq_true rfl) ⟨Nat.le_of_ble_eq_true rfl, Nat.le_of_ble_eq_true rfl⟩ dX0_remember_5) (fun H locs hP hD hS => ?_)
  have hP := k_uP hP
  have hD := k_uD hD
  have hP : va_P D vwCl (ca_W cs ca cv) H := hP
  have hD : va_D A (ca_W cs ca cv) := hD
  refine lv_aload_n hx hb dX0_remember_8 rfl (lv_at hl 1 rfl) ?_
  have hP := pmP (ca_pm2 (cs := cs) (ca := ca) (cv := cv) (k := (3 + (cv.2.2.1 0).toNatClampNeg)) (j := 0) (by omega) (by decide) (by omega)) hP
  have hD := pmD (ca_pm2 (cs := cs) (ca := ca) (cv := cv) (k := (3 + (cv.2.2.1 0).toNatClampNeg)) (j := 0) (by omega) (by decide) (by omega)) hD
  have hc_10 := c_X1_copyFrom l D cs (ca (10 + (3 + (cv.2.2.1 0).toNatClampNeg))) (ca 10) (cv.2.1 (3 + (cv.2.2.1 0).toNatClampNeg)) (cv.2.1 0)
  refine kV_call (wc := (og_W cs (ca (10 + (3 + (cv.2.2.1 0).toNatClampNeg))) (cv.2.1 (3 + (cv.2.2.1 0).toNatClampNeg)) ++ og_W cs (ca 10) (cv.2.1 0))) (wr := (ca_r2 cs ca cv (3 + (cv.2.2.1 0).toNatClampNeg) 0)) (w1 := fun _ => og_W cs (ca (10 + (3 + (cv.2.2.1 0).toNatClampNeg))) (k_X1_copyFrom (cv.2.1 (3 + (cv.2.2.1 0).toNatClampNeg)) (cv.2.1 0)) ++ og_W cs (ca 10) (cv.2.1 0)) hE hP hD hS (k_rV (rest := []) (As := [.ref (ca 10 0)]) hE rfl (hc_10 H.size) (cwV 1 hts gX0_remember_X1_copyFrom rfl rfl rfl (by decide +kernel) ⟨Nat.le_of_ble_eq_true rfl, Nat.le_of_ble_eq_true rfl⟩) hP hD hS (ci := 1) (q0 := 0) rfl rfl rfl hl rfl (Nat.le_of_ble_eq_true rfl) ⟨Nat.le_of_ble_eq_true rfl, Nat.le_of_ble_eq_true rfl⟩ dX0_remember_9) (fun _ H locs _ hP hD hS => ?_)
  have hP := pmP (ca_bk2 (cs := cs) (ca := ca) (cv := cv) (k := (3 + (cv.2.2.1 0).toNatClampNeg)) (j := 0) (by omega) (by decide) (by omega)) hP
  have hD := pmD (ca_bk2 (cs := cs) (ca := ca) (cv := cv) (k := (3 + (cv.2.2.1 0).toNatClampNeg)) (j := 0) (by omega) (by decide) (by omega)) hD
  have hP : va_P D vwCl (ca_W cs ca (c_o cv (3 + (cv.2.2.1 0).toNatClampNeg) (k_X1_copyFrom (cv.2.1 (3 + (cv.2.2.1 0).toNatClampNeg)) (cv.2.1 0)))) H := hP
  have hD : va_D A (ca_W cs ca (c_o cv (3 + (cv.2.2.1 0).toNatClampNeg) (k_X1_copyFrom (cv.2.1 (3 + (cv.2.2.1 0).toNatClampNeg)) (cv.2.1 0)))) := hD
  refine lv_aload_n hx hb dX0_remember_12 rfl (lv_at hl 0 rfl) ?_
  refine lv_aload_n hx hb dX0_remember_13 rfl (lv_at hl 0 rfl) ?_
  refine va_get (D := D) (ci := 0) (v := .int (cv.2.2.1 0)) (C := RX0) (T := TX0) (N := 3) hx hb hts hinX0 hown hK hP 3 rfl rfl 1 (by decide) lk_1 (fun _ h9 => h9) rfl dX0_remember_14 ?_
  refine lv_iconst (v := 1) hx hb dX0_remember_17 (by decide) ?_
  refine lv_iadd hx hb dX0_remember_18 ?_
  refine lv_bipush (v := 14) hx hb dX0_remember_19 (by decide) ?_
  refine lv_icmp_ge (tgt := 33) hx hb dX0_remember_21 (by decide) (fun c_22 => ?_) (fun c_22 => ?_)
  · skip
    have c_22 : (14 ≤ ((cv.2.2.1 0) + 1)) := c_22
    rw [if_pos c_22] at hres
    refine lv_iconst (v := 0) hx hb dX0_remember_33 (by decide) ?_
    refine va_put (D := D) (ci := 0) (v := .int 0) (ty := .int) (C := RX0) (T := TX0) (N := 3) hx hb hts hinX0 tyX0 tyX0_ok nmX0 hown hK hP hD hS 3 rfl rfl 1 (by decide) lk_1 (fun _ h9 => h9) rfl (by decide +kernel) rfl rfl (Nat.le_of_ble_eq_true rfl) dX0_remember_34 (fun H locs hP hD hS => ?_)
    have hP : va_P D vwCl (ca_W cs ca (c_s (c_o cv (3 + (cv.2.2.1 0).toNatClampNeg) (k_X1_copyFrom (cv.2.1 (3 + (cv.2.2.1 0).toNatClampNeg)) (cv.2.1 0))) 0 0)) H := hP
    have hD : va_D A (ca_W cs ca (c_s (c_o cv (3 + (cv.2.2.1 0).toNatClampNeg) (k_X1_copyFrom (cv.2.1 (3 + (cv.2.2.1 0).toNatClampNeg)) (cv.2.1 0))) 0 0)) := hD
    refine lv_aload_n hx hb dX0_remember_37 rfl (lv_at hl 0 rfl) ?_
    refine lv_aload_n hx hb dX0_remember_38 rfl (lv_at hl 0 rfl) ?_
    refine va_get (D := D) (ci := 0) (v := .int (cv.2.2.1 1)) (C := RX0) (T := TX0) (N := 3) hx hb hts hinX0 hown hK hP 3 rfl rfl 2 (by decide) lk_2 (fun _ h9 => h9) rfl dX0_remember_39 ?_
    refine lv_iconst (v := 1) hx hb dX0_remember_42 (by decide) ?_
    refine lv_iadd hx hb dX0_remember_43 ?_
    refine lv_bipush (v := 14) hx hb dX0_remember_44 (by decide) ?_
    refine va_mmin hx hb (hml.trans hl.1.symm) hown lk_3 lk_4 lk_5 lk_6 (Nat.le_of_ble_eq_true rfl) (Nat.le_of_ble_eq_true rfl) (Nat.le_of_ble_eq_true rfl) (Nat.le_of_ble_eq_true rfl) dX0_remember_46 ?_
    refine va_put (D := D) (ci := 0) (v := .int (x_mmin ((cv.2.2.1 1) + 1) 14)) (ty := .int) (C := RX0) (T := TX0) (N := 3) hx hb hts hinX0 tyX0 tyX0_ok nmX0 hown hK hP hD hS 3 rfl rfl 2 (by decide) lk_2 (fun _ h9 => h9) rfl (by decide +kernel) rfl rfl (Nat.le_of_ble_eq_true rfl) dX0_remember_49 (fun H locs hP hD hS => ?_)
    have hP : va_P D vwCl (ca_W cs ca (c_s (c_s (c_o cv (3 + (cv.2.2.1 0).toNatClampNeg) (k_X1_copyFrom (cv.2.1 (3 + (cv.2.2.1 0).toNatClampNeg)) (cv.2.1 0))) 0 0) 1 (x_mmin ((cv.2.2.1 1) + 1) 14))) H := hP
    have hD : va_D A (ca_W cs ca (c_s (c_s (c_o cv (3 + (cv.2.2.1 0).toNatClampNeg) (k_X1_copyFrom (cv.2.1 (3 + (cv.2.2.1 0).toNatClampNeg)) (cv.2.1 0))) 0 0) 1 (x_mmin ((cv.2.2.1 1) + 1) 14))) := hD
    subst hres
    exact kV_ret () hE hS hP hD trivial (Nat.le_of_ble_eq_true rfl) (Nat.le_of_ble_eq_true rfl) dX0_remember_52
  · skip
    have c_22 : ¬ (14 ≤ ((cv.2.2.1 0) + 1)) := c_22
    rw [if_neg c_22] at hres
    refine lv_aload_n hx hb dX0_remember_24 rfl (lv_at hl 0 rfl) ?_
    refine va_get (D := D) (ci := 0) (v := .int (cv.2.2.1 0)) (C := RX0) (T := TX0) (N := 3) hx hb hts hinX0 hown hK hP 3 rfl rfl 1 (by decide) lk_1 (fun _ h9 => h9) rfl dX0_remember_25 ?_
    refine lv_iconst (v := 1) hx hb dX0_remember_28 (by decide) ?_
    refine lv_iadd hx hb dX0_remember_29 ?_
    refine lv_goto (tgt := 34) hx hb dX0_remember_30 (by decide) ?_
    refine va_put (D := D) (ci := 0) (v := .int ((cv.2.2.1 0) + 1)) (ty := .int) (C := RX0) (T := TX0) (N := 3) hx hb hts hinX0 tyX0 tyX0_ok nmX0 hown hK hP hD hS 3 rfl rfl 1 (by decide) lk_1 (fun _ h9 => h9) rfl (by decide +kernel) rfl rfl (Nat.le_of_ble_eq_true rfl) dX0_remember_34 (fun H locs hP hD hS => ?_)
    have hP : va_P D vwCl (ca_W cs ca (c_s (c_o cv (3 + (cv.2.2.1 0).toNatClampNeg) (k_X1_copyFrom (cv.2.1 (3 + (cv.2.2.1 0).toNatClampNeg)) (cv.2.1 0))) 0 ((cv.2.2.1 0) + 1))) H := hP
    have hD : va_D A (ca_W cs ca (c_s (c_o cv (3 + (cv.2.2.1 0).toNatClampNeg) (k_X1_copyFrom (cv.2.1 (3 + (cv.2.2.1 0).toNatClampNeg)) (cv.2.1 0))) 0 ((cv.2.2.1 0) + 1))) := hD
    refine lv_aload_n hx hb dX0_remember_37 rfl (lv_at hl 0 rfl) ?_
    refine lv_aload_n hx hb dX0_remember_38 rfl (lv_at hl 0 rfl) ?_
    refine va_get (D := D) (ci := 0) (v := .int (cv.2.2.1 1)) (C := RX0) (T := TX0) (N := 3) hx hb hts hinX0 hown hK hP 3 rfl rfl 2 (by decide) lk_2 (fun _ h9 => h9) rfl dX0_remember_39 ?_
    refine lv_iconst (v := 1) hx hb dX0_remember_42 (by decide) ?_
    refine lv_iadd hx hb dX0_remember_43 ?_
    refine lv_bipush (v := 14) hx hb dX0_remember_44 (by decide) ?_
    refine va_mmin hx hb (hml.trans hl.1.symm) hown lk_3 lk_4 lk_5 lk_6 (Nat.le_of_ble_eq_true rfl) (Nat.le_of_ble_eq_true rfl) (Nat.le_of_ble_eq_true rfl) (Nat.le_of_ble_eq_true rfl) dX0_remember_46 ?_
    refine va_put (D := D) (ci := 0) (v := .int (x_mmin ((cv.2.2.1 1) + 1) 14)) (ty := .int) (C := RX0) (T := TX0) (N := 3) hx hb hts hinX0 tyX0 tyX0_ok nmX0 hown hK hP hD hS 3 rfl rfl 2 (by decide) lk_2 (fun _ h9 => h9) rfl (by decide +kernel) rfl rfl (Nat.le_of_ble_eq_true rfl) dX0_remember_49 (fun H locs hP hD hS => ?_)
    have hP : va_P D vwCl (ca_W cs ca (c_s (c_s (c_o cv (3 + (cv.2.2.1 0).toNatClampNeg) (k_X1_copyFrom (cv.2.1 (3 + (cv.2.2.1 0).toNatClampNeg)) (cv.2.1 0))) 0 ((cv.2.2.1 0) + 1)) 1 (x_mmin ((cv.2.2.1 1) + 1) 14))) H := hP
    have hD : va_D A (ca_W cs ca (c_s (c_s (c_o cv (3 + (cv.2.2.1 0).toNatClampNeg) (k_X1_copyFrom (cv.2.1 (3 + (cv.2.2.1 0).toNatClampNeg)) (cv.2.1 0))) 0 ((cv.2.2.1 0) + 1)) 1 (x_mmin ((cv.2.2.1 1) + 1) 14))) := hD
    subst hres
    exact kV_ret () hE hS hP hD trivial (Nat.le_of_ble_eq_true rfl) (Nat.le_of_ble_eq_true rfl) dX0_remember_52
theorem nx_dec {x : Int32} (h : 0 ≤ x.toInt ∧ x.toInt ≤ 13) (c : ¬ x ≤ 0) : 0 ≤ (x - 1).toInt ∧ (x - 1).toInt ≤ 13 := by
  rw [i_le] at c
  have e0 : (0 : Int32).toInt = 0 := rfl
  have e1 : (1 : Int32).toInt = 1 := rfl
  rw [i_sub (by omega) (by omega)]
  omega
def k_X0_bringBack (cv : CV) : Int32 × CV := (if (cv.2.2.1 0) ≤ 0 then (((cv.2.2.1 1) - 1), (c_s (c_s (c_o cv 0 (k_X1_copyFrom (cv.2.1 0) (cv.2.1 (3 + 13)))) 0 13) 1 ((cv.2.2.1 1) - 1))) else (((cv.2.2.1 1) - 1), (c_s (c_s (c_o cv 0 (k_X1_copyFrom (cv.2.1 0) (cv.2.1 (3 + ((cv.2.2.1 0) - 1).toNatClampNeg)))) 0 ((cv.2.2.1 0) - 1)) 1 ((cv.2.2.1 1) - 1))))
set_option maxHeartbeats 4000000 in
set_option maxRecDepth 100000 in
theorem c_X0_bringBack (l : Launch) (D : va_G) (cs : Nat → ClassId) (ca : Nat → Nat → Nat) (cv : CV) (hC : CO cv) : kI l yX0_bringBack wsX0_bringBack { frames := 4, cells := 0, slots := 0, locals := 123 } 0 0 D cs [.ref (ca 2 0), .ref (ca 10 0)] (ca_W cs ca cv) (k_X0_bringBack cv).1 (ca_W cs ca ((k_X0_bringBack cv).2)) := by
  generalize hres : k_X0_bringBack cv = res
  refine kI_of (cc := cX0_bringBack) (maxL := 2) (ret := (some .int)) (by decide) rfl (Nat.le_of_ble_eq_true rfl) ?_
  intro p e s m below meth c A ls H locs hE hS hP hD hl
  obtain ⟨hx, hb, hr, hlocks, hml, hown, hts, hK, hA, hG, hnm⟩ := id hE
  have hown : s.vm.findClass RX0 = some m.cls := hown
  have hl : lv_has ls 2 [(0, .ref (ca 2 0)), (1, .ref (ca 10 0))] := hl
  have hinX0 : ∀ w ∈ wsX00, w ∈ wsX0_bringBack := by decide +kernel
  have lk_0 := hts (.fieldLink RX0 22 "OrganPegs$History" "next" "I") (by decide +kernel)
  have lk_2 := hts (.fieldLink RX0 18 "OrganPegs$History" "count" "I") (by decide +kernel)
  unfold k_X0_bringBack at hres
  refine lv_aload_n hx hb dX0_bringBack_0 rfl (lv_at hl 0 rfl) ?_
  refine lv_aload_n hx hb dX0_bringBack_1 rfl (lv_at hl 0 rfl) ?_
  refine va_get (D := D) (ci := 0) (v := .int (cv.2.2.1 0)) (C := RX0) (T := TX0) (N := 3) hx hb hts hinX0 hown hK hP 3 rfl rfl 1 (by decide) lk_0 (fun _ h9 => h9) rfl dX0_bringBack_2 ?_
  refine lv_if_le (tgt := 17) hx hb dX0_bringBack_5 (by decide) (fun c_5 => ?_) (fun c_5 => ?_)
  · skip
    have c_5 : ((cv.2.2.1 0) ≤ 0) := c_5
    rw [if_pos c_5] at hres
    refine lv_bipush (v := 13) hx hb dX0_bringBack_17 (by decide) ?_
    refine va_put (D := D) (ci := 0) (v := .int 13) (ty := .int) (C := RX0) (T := TX0) (N := 3) hx hb hts hinX0 tyX0 tyX0_ok nmX0 hown hK hP hD hS 3 rfl rfl 1 (by decide) lk_0 (fun _ h9 => h9) rfl (by decide +kernel) rfl rfl (Nat.le_of_ble_eq_true rfl) dX0_bringBack_19 (fun H locs hP hD hS => ?_)
    have hP : va_P D vwCl (ca_W cs ca (c_s cv 0 13)) H := hP
    have hD : va_D A (ca_W cs ca (c_s cv 0 13)) := hD
    first | (have hk19 : 3 + ((cv.2.2.1 0) - 1).toNatClampNeg < 19 := k_13 (nx_dec hC.2.2 c_5)) | skip
    refine lv_aload_n hx hb dX0_bringBack_22 rfl (lv_at hl 1 rfl) ?_
    refine lv_aload_n hx hb dX0_bringBack_23 rfl (lv_at hl 0 rfl) ?_
    refine lv_aload_n hx hb dX0_bringBack_24 rfl (lv_at hl 0 rfl) ?_
    refine va_get (D := D) (ci := 0) (v := .int 13) (C := RX0) (T := TX0) (N := 3) hx hb hts hinX0 hown hK hP 3 rfl rfl 1 (by decide) lk_0 (fun _ h9 => h9) rfl dX0_bringBack_25 ?_
    have hP : va_P D vwCl ((ca_W cs ca (c_s cv 0 13)) ++ []) H := k_nP hP
    have hD : va_D A ((ca_W cs ca (c_s cv 0 13)) ++ []) := k_nD hD
    have hc_s : kR l yX0_stateAt wsX0_stateAt { frames := 0, cells := 0, slots := 0, locals := 0 } 0 0 D cs [.ref (ca 2 0), .int 13] (ca_W cs ca (c_s cv 0 13)) (ca (10 + (3 + 13)) 0) (ca_W cs ca (c_s cv 0 13)) := c_X0_stateAt l D cs ca (c_s cv 0 13) 13 ⟨by decide, by decide⟩
    refine kR_call (wc := (ca_W cs ca (c_s cv 0 13))) (wr := []) (w1 := (ca_W cs ca (c_s cv 0 13))) (r := (ca (10 + (3 + 13)) 0)) hE hP hD hS (k_rV (rest := [.ref (ca 10 0)]) (As := [.int 13]) hE rfl (hc_s H.size) (cwV 1 hts gX0_bringBack_X0_stateAt rfl rfl rfl (by decide +kernel) ⟨Nat.le_of_ble_eq_true rfl, Nat.le_of_ble_eq_true rfl⟩) hP hD hS (ci := 0) (q0 := 3) rfl rfl rfl hl rfl (Nat.le_of_ble_eq_true rfl) ⟨Nat.le_of_ble_eq_true rfl, Nat.le_of_ble_eq_true rfl⟩ dX0_bringBack_28) (fun H locs hP hD hS => ?_)
    have hP := k_uP hP
    have hD := k_uD hD
    have hP : va_P D vwCl (ca_W cs ca (c_s cv 0 13)) H := hP
    have hD : va_D A (ca_W cs ca (c_s cv 0 13)) := hD
    have hP := pmP (ca_pm2 (cs := cs) (ca := ca) (cv := (c_s cv 0 13)) (k := 0) (j := (3 + 13)) (by decide) (by omega) (by omega)) hP
    have hD := pmD (ca_pm2 (cs := cs) (ca := ca) (cv := (c_s cv 0 13)) (k := 0) (j := (3 + 13)) (by decide) (by omega) (by omega)) hD
    have hc_32 := c_X1_copyFrom l D cs (ca 10) (ca (10 + (3 + 13))) (cv.2.1 0) (cv.2.1 (3 + 13))
    refine kV_call (wc := (og_W cs (ca 10) (cv.2.1 0) ++ og_W cs (ca (10 + (3 + 13))) (cv.2.1 (3 + 13)))) (wr := (ca_r2 cs ca (c_s cv 0 13) 0 (3 + 13))) (w1 := fun _ => og_W cs (ca 10) (k_X1_copyFrom (cv.2.1 0) (cv.2.1 (3 + 13))) ++ og_W cs (ca (10 + (3 + 13))) (cv.2.1 (3 + 13))) hE hP hD hS (k_rV (rest := []) (As := [.ref (ca (10 + (3 + 13)) 0)]) hE rfl (hc_32 H.size) (cwV 1 hts gX0_bringBack_X1_copyFrom rfl rfl rfl (by decide +kernel) ⟨Nat.le_of_ble_eq_true rfl, Nat.le_of_ble_eq_true rfl⟩) hP hD hS (ci := 1) (q0 := 0) rfl rfl rfl hl rfl (Nat.le_of_ble_eq_true rfl) ⟨Nat.le_of_ble_eq_true rfl, Nat.le_of_ble_eq_true rfl⟩ dX0_bringBack_31) (fun _ H locs _ hP hD hS => ?_)
    have hP := pmP (ca_bk2 (cs := cs) (ca := ca) (cv := (c_s cv 0 13)) (k := 0) (j := (3 + 13)) (by decide) (by omega) (by omega)) hP
    have hD := pmD (ca_bk2 (cs := cs) (ca := ca) (cv := (c_s cv 0 13)) (k := 0) (j := (3 + 13)) (by decide) (by omega) (by omega)) hD
    have hP : va_P D vwCl (ca_W cs ca (c_s (c_o cv 0 (k_X1_copyFrom (cv.2.1 0) (cv.2.1 (3 + 13)))) 0 13)) H := hP
    have hD : va_D A (ca_W cs ca (c_s (c_o cv 0 (k_X1_copyFrom (cv.2.1 0) (cv.2.1 (3 + 13)))) 0 13)) := hD
    refine lv_aload_n hx hb dX0_bringBack_34 rfl (lv_at hl 0 rfl) ?_
    refine lv_dup hx hb dX0_bringBack_35 rfl ?_
    refine va_get (D := D) (ci := 0) (v := .int (cv.2.2.1 1)) (C := RX0) (T := TX0) (N := 3) hx hb hts hinX0 hown hK hP 3 rfl rfl 2 (by decide) lk_2 (fun _ h9 => h9) rfl dX0_bringBack_36 ?_
    refine lv_iconst (v := 1) hx hb dX0_bringBack_39 (by decide) ?_
    refine lv_isub hx hb dX0_bringBack_40 ?_
    refine va_put (D := D) (ci := 0) (v := .int ((cv.2.2.1 1) - 1)) (ty := .int) (C := RX0) (T := TX0) (N := 3) hx hb hts hinX0 tyX0 tyX0_ok nmX0 hown hK hP hD hS 3 rfl rfl 2 (by decide) lk_2 (fun _ h9 => h9) rfl (by decide +kernel) rfl rfl (Nat.le_of_ble_eq_true rfl) dX0_bringBack_41 (fun H locs hP hD hS => ?_)
    have hP : va_P D vwCl (ca_W cs ca (c_s (c_s (c_o cv 0 (k_X1_copyFrom (cv.2.1 0) (cv.2.1 (3 + 13)))) 0 13) 1 ((cv.2.2.1 1) - 1))) H := hP
    have hD : va_D A (ca_W cs ca (c_s (c_s (c_o cv 0 (k_X1_copyFrom (cv.2.1 0) (cv.2.1 (3 + 13)))) 0 13) 1 ((cv.2.2.1 1) - 1))) := hD
    refine lv_aload_n hx hb dX0_bringBack_44 rfl (lv_at hl 0 rfl) ?_
    refine va_get (D := D) (ci := 0) (v := .int ((cv.2.2.1 1) - 1)) (C := RX0) (T := TX0) (N := 3) hx hb hts hinX0 hown hK hP 3 rfl rfl 2 (by decide) lk_2 (fun _ h9 => h9) rfl dX0_bringBack_45 ?_
    subst hres
    exact kI_ret hE hS hP hD rfl rfl (Nat.le_of_ble_eq_true rfl) (Nat.le_of_ble_eq_true rfl) dX0_bringBack_48
  · skip
    have c_5 : ¬ ((cv.2.2.1 0) ≤ 0) := c_5
    rw [if_neg c_5] at hres
    refine lv_aload_n hx hb dX0_bringBack_8 rfl (lv_at hl 0 rfl) ?_
    refine va_get (D := D) (ci := 0) (v := .int (cv.2.2.1 0)) (C := RX0) (T := TX0) (N := 3) hx hb hts hinX0 hown hK hP 3 rfl rfl 1 (by decide) lk_0 (fun _ h9 => h9) rfl dX0_bringBack_9 ?_
    refine lv_iconst (v := 1) hx hb dX0_bringBack_12 (by decide) ?_
    refine lv_isub hx hb dX0_bringBack_13 ?_
    refine lv_goto (tgt := 19) hx hb dX0_bringBack_14 (by decide) ?_
    refine va_put (D := D) (ci := 0) (v := .int ((cv.2.2.1 0) - 1)) (ty := .int) (C := RX0) (T := TX0) (N := 3) hx hb hts hinX0 tyX0 tyX0_ok nmX0 hown hK hP hD hS 3 rfl rfl 1 (by decide) lk_0 (fun _ h9 => h9) rfl (by decide +kernel) rfl rfl (Nat.le_of_ble_eq_true rfl) dX0_bringBack_19 (fun H locs hP hD hS => ?_)
    have hP : va_P D vwCl (ca_W cs ca (c_s cv 0 ((cv.2.2.1 0) - 1))) H := hP
    have hD : va_D A (ca_W cs ca (c_s cv 0 ((cv.2.2.1 0) - 1))) := hD
    first | (have hk19 : 3 + ((cv.2.2.1 0) - 1).toNatClampNeg < 19 := k_13 (nx_dec hC.2.2 c_5)) | skip
    refine lv_aload_n hx hb dX0_bringBack_22 rfl (lv_at hl 1 rfl) ?_
    refine lv_aload_n hx hb dX0_bringBack_23 rfl (lv_at hl 0 rfl) ?_
    refine lv_aload_n hx hb dX0_bringBack_24 rfl (lv_at hl 0 rfl) ?_
    refine va_get (D := D) (ci := 0) (v := .int ((cv.2.2.1 0) - 1)) (C := RX0) (T := TX0) (N := 3) hx hb hts hinX0 hown hK hP 3 rfl rfl 1 (by decide) lk_0 (fun _ h9 => h9) rfl dX0_bringBack_25 ?_
    have hP : va_P D vwCl ((ca_W cs ca (c_s cv 0 ((cv.2.2.1 0) - 1))) ++ []) H := k_nP hP
    have hD : va_D A ((ca_W cs ca (c_s cv 0 ((cv.2.2.1 0) - 1))) ++ []) := k_nD hD
    have hc_s : kR l yX0_stateAt wsX0_stateAt { frames := 0, cells := 0, slots := 0, locals := 0 } 0 0 D cs [.ref (ca 2 0), .int ((cv.2.2.1 0) - 1)] (ca_W cs ca (c_s cv 0 ((cv.2.2.1 0) - 1))) (ca (10 + (3 + ((cv.2.2.1 0) - 1).toNatClampNeg)) 0) (ca_W cs ca (c_s cv 0 ((cv.2.2.1 0) - 1))) := c_X0_stateAt l D cs ca (c_s cv 0 ((cv.2.2.1 0) - 1)) ((cv.2.2.1 0) - 1) (nx_dec hC.2.2 c_5)
    refine kR_call (wc := (ca_W cs ca (c_s cv 0 ((cv.2.2.1 0) - 1)))) (wr := []) (w1 := (ca_W cs ca (c_s cv 0 ((cv.2.2.1 0) - 1)))) (r := (ca (10 + (3 + ((cv.2.2.1 0) - 1).toNatClampNeg)) 0)) hE hP hD hS (k_rV (rest := [.ref (ca 10 0)]) (As := [.int ((cv.2.2.1 0) - 1)]) hE rfl (hc_s H.size) (cwV 1 hts gX0_bringBack_X0_stateAt rfl rfl rfl (by decide +kernel) ⟨Nat.le_of_ble_eq_true rfl, Nat.le_of_ble_eq_true rfl⟩) hP hD hS (ci := 0) (q0 := 3) rfl rfl rfl hl rfl (Nat.le_of_ble_eq_true rfl) ⟨Nat.le_of_ble_eq_true rfl, Nat.le_of_ble_eq_true rfl⟩ dX0_bringBack_28) (fun H locs hP hD hS => ?_)
    have hP := k_uP hP
    have hD := k_uD hD
    have hP : va_P D vwCl (ca_W cs ca (c_s cv 0 ((cv.2.2.1 0) - 1))) H := hP
    have hD : va_D A (ca_W cs ca (c_s cv 0 ((cv.2.2.1 0) - 1))) := hD
    have hP := pmP (ca_pm2 (cs := cs) (ca := ca) (cv := (c_s cv 0 ((cv.2.2.1 0) - 1))) (k := 0) (j := (3 + ((cv.2.2.1 0) - 1).toNatClampNeg)) (by decide) (by omega) (by omega)) hP
    have hD := pmD (ca_pm2 (cs := cs) (ca := ca) (cv := (c_s cv 0 ((cv.2.2.1 0) - 1))) (k := 0) (j := (3 + ((cv.2.2.1 0) - 1).toNatClampNeg)) (by decide) (by omega) (by omega)) hD
    have hc_32 := c_X1_copyFrom l D cs (ca 10) (ca (10 + (3 + ((cv.2.2.1 0) - 1).toNatClampNeg))) (cv.2.1 0) (cv.2.1 (3 + ((cv.2.2.1 0) - 1).toNatClampNeg))
    refine kV_call (wc := (og_W cs (ca 10) (cv.2.1 0) ++ og_W cs (ca (10 + (3 + ((cv.2.2.1 0) - 1).toNatClampNeg))) (cv.2.1 (3 + ((cv.2.2.1 0) - 1).toNatClampNeg)))) (wr := (ca_r2 cs ca (c_s cv 0 ((cv.2.2.1 0) - 1)) 0 (3 + ((cv.2.2.1 0) - 1).toNatClampNeg))) (w1 := fun _ => og_W cs (ca 10) (k_X1_copyFrom (cv.2.1 0) (cv.2.1 (3 + ((cv.2.2.1 0) - 1).toNatClampNeg))) ++ og_W cs (ca (10 + (3 + ((cv.2.2.1 0) - 1).toNatClampNeg))) (cv.2.1 (3 + ((cv.2.2.1 0) - 1).toNatClampNeg))) hE hP hD hS (k_rV (rest := []) (As := [.ref (ca (10 + (3 + ((cv.2.2.1 0) - 1).toNatClampNeg)) 0)]) hE rfl (hc_32 H.size) (cwV 1 hts gX0_bringBack_X1_copyFrom rfl rfl rfl (by decide +kernel) ⟨Nat.le_of_ble_eq_true rfl, Nat.le_of_ble_eq_true rfl⟩) hP hD hS (ci := 1) (q0 := 0) rfl rfl rfl hl rfl (Nat.le_of_ble_eq_true rfl) ⟨Nat.le_of_ble_eq_true rfl, Nat.le_of_ble_eq_true rfl⟩ dX0_bringBack_31) (fun _ H locs _ hP hD hS => ?_)
    have hP := pmP (ca_bk2 (cs := cs) (ca := ca) (cv := (c_s cv 0 ((cv.2.2.1 0) - 1))) (k := 0) (j := (3 + ((cv.2.2.1 0) - 1).toNatClampNeg)) (by decide) (by omega) (by omega)) hP
    have hD := pmD (ca_bk2 (cs := cs) (ca := ca) (cv := (c_s cv 0 ((cv.2.2.1 0) - 1))) (k := 0) (j := (3 + ((cv.2.2.1 0) - 1).toNatClampNeg)) (by decide) (by omega) (by omega)) hD
    have hP : va_P D vwCl (ca_W cs ca (c_s (c_o cv 0 (k_X1_copyFrom (cv.2.1 0) (cv.2.1 (3 + ((cv.2.2.1 0) - 1).toNatClampNeg)))) 0 ((cv.2.2.1 0) - 1))) H := hP
    have hD : va_D A (ca_W cs ca (c_s (c_o cv 0 (k_X1_copyFrom (cv.2.1 0) (cv.2.1 (3 + ((cv.2.2.1 0) - 1).toNatClampNeg)))) 0 ((cv.2.2.1 0) - 1))) := hD
    refine lv_aload_n hx hb dX0_bringBack_34 rfl (lv_at hl 0 rfl) ?_
    refine lv_dup hx hb dX0_bringBack_35 rfl ?_
    refine va_get (D := D) (ci := 0) (v := .int (cv.2.2.1 1)) (C := RX0) (T := TX0) (N := 3) hx hb hts hinX0 hown hK hP 3 rfl rfl 2 (by decide) lk_2 (fun _ h9 => h9) rfl dX0_bringBack_36 ?_
    refine lv_iconst (v := 1) hx hb dX0_bringBack_39 (by decide) ?_
    refine lv_isub hx hb dX0_bringBack_40 ?_
    refine va_put (D := D) (ci := 0) (v := .int ((cv.2.2.1 1) - 1)) (ty := .int) (C := RX0) (T := TX0) (N := 3) hx hb hts hinX0 tyX0 tyX0_ok nmX0 hown hK hP hD hS 3 rfl rfl 2 (by decide) lk_2 (fun _ h9 => h9) rfl (by decide +kernel) rfl rfl (Nat.le_of_ble_eq_true rfl) dX0_bringBack_41 (fun H locs hP hD hS => ?_)
    have hP : va_P D vwCl (ca_W cs ca (c_s (c_s (c_o cv 0 (k_X1_copyFrom (cv.2.1 0) (cv.2.1 (3 + ((cv.2.2.1 0) - 1).toNatClampNeg)))) 0 ((cv.2.2.1 0) - 1)) 1 ((cv.2.2.1 1) - 1))) H := hP
    have hD : va_D A (ca_W cs ca (c_s (c_s (c_o cv 0 (k_X1_copyFrom (cv.2.1 0) (cv.2.1 (3 + ((cv.2.2.1 0) - 1).toNatClampNeg)))) 0 ((cv.2.2.1 0) - 1)) 1 ((cv.2.2.1 1) - 1))) := hD
    refine lv_aload_n hx hb dX0_bringBack_44 rfl (lv_at hl 0 rfl) ?_
    refine va_get (D := D) (ci := 0) (v := .int ((cv.2.2.1 1) - 1)) (C := RX0) (T := TX0) (N := 3) hx hb hts hinX0 hown hK hP 3 rfl rfl 2 (by decide) lk_2 (fun _ h9 => h9) rfl dX0_bringBack_45 ?_
    subst hres
    exact kI_ret hE hS hP hD rfl rfl (Nat.le_of_ble_eq_true rfl) (Nat.le_of_ble_eq_true rfl) dX0_bringBack_48
def k_X3_has (cv : CV) (vs : Int32) : Int32 := (if vs < 0 then 0 else (if 2 ≤ vs then 0 else 1))
set_option maxHeartbeats 4000000 in
set_option maxRecDepth 100000 in
theorem c_X3_has (l : Launch) (D : va_G) (cs : Nat → ClassId) (ca : Nat → Nat → Nat) (cv : CV) (vs : Int32) (hC : CO cv) : kI l yX3_has wsX3_has { frames := 0, cells := 0, slots := 0, locals := 0 } 0 0 D cs [.ref (ca 3 0), .int vs] (ca_W cs ca cv) (k_X3_has cv vs) (ca_W cs ca cv) := by
  generalize hres : k_X3_has cv vs = res
  refine kI_of (cc := cX3_has) (maxL := 2) (ret := (some .boolean)) (by decide) rfl (Nat.le_of_ble_eq_true rfl) ?_
  intro p e s m below meth c A ls H locs hE hS hP hD hl
  obtain ⟨hx, hb, hr, hlocks, hml, hown, hts, hK, hA, hG, hnm⟩ := id hE
  have hown : s.vm.findClass RX3 = some m.cls := hown
  have hl : lv_has ls 2 [(0, .ref (ca 3 0)), (1, .int vs)] := hl
  unfold k_X3_has at hres
  refine lv_iload_n hx hb dX3_has_0 rfl (lv_at hl 1 rfl) ?_
  refine lv_if_lt (tgt := 13) hx hb dX3_has_1 (by decide) (fun c_1 => ?_) (fun c_1 => ?_)
  · skip
    have c_1 : (vs < 0) := c_1
    rw [if_pos c_1] at hres
    refine lv_iconst (v := 0) hx hb dX3_has_13 (by decide) ?_
    subst hres
    exact kI_ret hE hS hP hD rfl rfl (Nat.le_of_ble_eq_true rfl) (Nat.le_of_ble_eq_true rfl) dX3_has_14
  · skip
    have c_1 : ¬ (vs < 0) := c_1
    rw [if_neg c_1] at hres
    refine lv_iload_n hx hb dX3_has_4 rfl (lv_at hl 1 rfl) ?_
    refine lv_iconst (v := 2) hx hb dX3_has_5 (by decide) ?_
    refine lv_icmp_ge (tgt := 13) hx hb dX3_has_6 (by decide) (fun c_6 => ?_) (fun c_6 => ?_)
    · skip
      have c_6 : (2 ≤ vs) := c_6
      rw [if_pos c_6] at hres
      refine lv_iconst (v := 0) hx hb dX3_has_13 (by decide) ?_
      subst hres
      exact kI_ret hE hS hP hD rfl rfl (Nat.le_of_ble_eq_true rfl) (Nat.le_of_ble_eq_true rfl) dX3_has_14
    · skip
      have c_6 : ¬ (2 ≤ vs) := c_6
      rw [if_neg c_6] at hres
      refine lv_iconst (v := 1) hx hb dX3_has_9 (by decide) ?_
      refine lv_goto (tgt := 14) hx hb dX3_has_10 (by decide) ?_
      subst hres
      exact kI_ret hE hS hP hD rfl rfl (Nat.le_of_ble_eq_true rfl) (Nat.le_of_ble_eq_true rfl) dX3_has_14
theorem sl_b {cv : CV} {x : Int32} (c : ¬ k_X3_has cv x = 0) : 0 ≤ x.toInt ∧ x.toInt ≤ 1 := by
  unfold k_X3_has at c
  by_cases h1 : x < 0
  · rw [if_pos h1] at c; exact absurd rfl c
  rw [if_neg h1] at c
  by_cases h2 : (2 : Int32) ≤ x
  · rw [if_pos h2] at c; exact absurd rfl c
  rw [i_lt] at h1
  rw [i_le] at h2
  have e0 : (0 : Int32).toInt = 0 := rfl
  have e2 : (2 : Int32).toInt = 2 := rfl
  omega
def k_X3_isStored (cv : CV) (vs : Int32) : Int32 := (if (k_X3_has cv vs) = 0 then 0 else (if (cv.2.2.2 vs.toNatClampNeg) = 0 then 0 else 1))
set_option maxHeartbeats 4000000 in
set_option maxRecDepth 100000 in
theorem c_X3_isStored (l : Launch) (D : va_G) (cs : Nat → ClassId) (ca : Nat → Nat → Nat) (cv : CV) (vs : Int32) (hC : CO cv) : kI l yX3_isStored wsX3_isStored { frames := 1, cells := 0, slots := 0, locals := 21 } 0 0 D cs [.ref (ca 3 0), .int vs] (ca_W cs ca cv) (k_X3_isStored cv vs) (ca_W cs ca cv) := by
  generalize hres : k_X3_isStored cv vs = res
  refine kI_of (cc := cX3_isStored) (maxL := 2) (ret := (some .boolean)) (by decide) rfl (Nat.le_of_ble_eq_true rfl) ?_
  intro p e s m below meth c A ls H locs hE hS hP hD hl
  obtain ⟨hx, hb, hr, hlocks, hml, hown, hts, hK, hA, hG, hnm⟩ := id hE
  have hown : s.vm.findClass RX3 = some m.cls := hown
  have hl : lv_has ls 2 [(0, .ref (ca 3 0)), (1, .int vs)] := hl
  have hinX3 : ∀ w ∈ wsX30, w ∈ wsX3_isStored := by decide +kernel
  have lk_0 := hts (.fieldLink RX3 17 "OrganPegs$Slots" "stored" "[Z") (by decide +kernel)
  unfold k_X3_isStored at hres
  refine lv_aload_n hx hb dX3_isStored_0 rfl (lv_at hl 0 rfl) ?_
  refine lv_iload_n hx hb dX3_isStored_1 rfl (lv_at hl 1 rfl) ?_
  have hP : va_P D vwCl ((ca_W cs ca cv) ++ []) H := k_nP hP
  have hD : va_D A ((ca_W cs ca cv) ++ []) := k_nD hD
  have hc_2 := c_X3_has l D cs ca cv vs (by assumption)
  refine kI_call (wc := (ca_W cs ca cv)) (wr := []) (w1 := ca_W cs ca cv) (r := (k_X3_has cv vs)) hE hP hD hS (k_rV (rest := []) (As := [.int vs]) hE rfl (hc_2 H.size) (cwV 1 hts gX3_isStored_X3_has rfl rfl rfl (by decide +kernel) ⟨Nat.le_of_ble_eq_true rfl, Nat.le_of_ble_eq_true rfl⟩) hP hD hS (ci := 3) (q0 := 5) rfl rfl rfl hl rfl (Nat.le_of_ble_eq_true rfl) ⟨Nat.le_of_ble_eq_true rfl, Nat.le_of_ble_eq_true rfl⟩ dX3_isStored_2) (fun H locs hP hD hS => ?_)
  have hP := k_uP hP
  have hD := k_uD hD
  have hP : va_P D vwCl (ca_W cs ca cv) H := hP
  have hD : va_D A (ca_W cs ca cv) := hD
  refine lv_if_eq (tgt := 21) hx hb dX3_isStored_5 (by decide) (fun c_5 => ?_) (fun c_5 => ?_)
  · skip
    have c_5 : ((k_X3_has cv vs) = 0) := c_5
    rw [if_pos c_5] at hres
    refine lv_iconst (v := 0) hx hb dX3_isStored_21 (by decide) ?_
    subst hres
    exact kI_ret hE hS hP hD rfl rfl (Nat.le_of_ble_eq_true rfl) (Nat.le_of_ble_eq_true rfl) dX3_isStored_22
  · skip
    have c_5 : ¬ ((k_X3_has cv vs) = 0) := c_5
    rw [if_neg c_5] at hres
    refine lv_aload_n hx hb dX3_isStored_8 rfl (lv_at hl 0 rfl) ?_
    refine va_get (D := D) (ci := 3) (v := .ref (ca 3 2)) (C := RX3) (T := TX3) (N := 2) hx hb hts hinX3 hown hK hP 5 rfl rfl 1 (by decide) lk_0 (fun _ h9 => h9) rfl dX3_isStored_9 ?_
    refine lv_iload_n hx hb dX3_isStored_12 rfl (lv_at hl 1 rfl) ?_
    refine k_zald hx hb hK hP 7 2 (v := (cv.2.2.2 vs.toNatClampNeg)) rfl rfl (in_2 (sl_b c_5)) rfl dX3_isStored_13 ?_
    refine lv_if_eq (tgt := 21) hx hb dX3_isStored_14 (by decide) (fun c_14 => ?_) (fun c_14 => ?_)
    · skip
      have c_14 : ((cv.2.2.2 vs.toNatClampNeg) = 0) := c_14
      rw [if_pos c_14] at hres
      refine lv_iconst (v := 0) hx hb dX3_isStored_21 (by decide) ?_
      subst hres
      exact kI_ret hE hS hP hD rfl rfl (Nat.le_of_ble_eq_true rfl) (Nat.le_of_ble_eq_true rfl) dX3_isStored_22
    · skip
      have c_14 : ¬ ((cv.2.2.2 vs.toNatClampNeg) = 0) := c_14
      rw [if_neg c_14] at hres
      refine lv_iconst (v := 1) hx hb dX3_isStored_17 (by decide) ?_
      refine lv_goto (tgt := 22) hx hb dX3_isStored_18 (by decide) ?_
      subst hres
      exact kI_ret hE hS hP hD rfl rfl (Nat.le_of_ble_eq_true rfl) (Nat.le_of_ble_eq_true rfl) dX3_isStored_22
def k_X3_store (cv : CV) (vs : Int32) : CV := (if (k_X3_has cv vs) = 0 then cv else (c_z (c_o cv (17 + vs.toNatClampNeg) (k_X1_copyFrom (cv.2.1 (17 + vs.toNatClampNeg)) (cv.2.1 0))) (va_up cv.2.2.2 vs.toNatClampNeg 1)))
set_option maxHeartbeats 4000000 in
set_option maxRecDepth 100000 in
theorem c_X3_store (l : Launch) (D : va_G) (cs : Nat → ClassId) (ca : Nat → Nat → Nat) (cv : CV) (vs : Int32) (hC : CO cv) : kV l yX3_store wsX3_store { frames := 4, cells := 0, slots := 0, locals := 123 } 0 0 D cs [.ref (ca 3 0), .int vs, .ref (ca 10 0)] (ca_W cs ca cv) (fun (_ : Unit) => True) (fun _ => ca_W cs ca (k_X3_store cv vs)) := by
  generalize hres : k_X3_store cv vs = res
  refine kV_of (cc := cX3_store) (maxL := 3) (ret := none) (by decide) rfl (Nat.le_of_ble_eq_true rfl) ?_
  intro p e s m below meth c A ls H locs hE hS hP hD hl
  obtain ⟨hx, hb, hr, hlocks, hml, hown, hts, hK, hA, hG, hnm⟩ := id hE
  have hown : s.vm.findClass RX3 = some m.cls := hown
  have hl : lv_has ls 3 [(0, .ref (ca 3 0)), (1, .int vs), (2, .ref (ca 10 0))] := hl
  have hinX3 : ∀ w ∈ wsX30, w ∈ wsX3_store := by decide +kernel
  have lk_0 := hts (.fieldLink RX3 11 "OrganPegs$Slots" "states" "[LOrganPegs$Organ;") (by decide +kernel)
  have lk_1 := hts (.fieldLink RX3 17 "OrganPegs$Slots" "stored" "[Z") (by decide +kernel)
  unfold k_X3_store at hres
  refine lv_aload_n hx hb dX3_store_0 rfl (lv_at hl 0 rfl) ?_
  refine lv_iload_n hx hb dX3_store_1 rfl (lv_at hl 1 rfl) ?_
  have hP : va_P D vwCl ((ca_W cs ca cv) ++ []) H := k_nP hP
  have hD : va_D A ((ca_W cs ca cv) ++ []) := k_nD hD
  have hc_2 := c_X3_has l D cs ca cv vs (by assumption)
  refine kI_call (wc := (ca_W cs ca cv)) (wr := []) (w1 := ca_W cs ca cv) (r := (k_X3_has cv vs)) hE hP hD hS (k_rV (rest := []) (As := [.int vs]) hE rfl (hc_2 H.size) (cwV 1 hts gX3_store_X3_has rfl rfl rfl (by decide +kernel) ⟨Nat.le_of_ble_eq_true rfl, Nat.le_of_ble_eq_true rfl⟩) hP hD hS (ci := 3) (q0 := 5) rfl rfl rfl hl rfl (Nat.le_of_ble_eq_true rfl) ⟨Nat.le_of_ble_eq_true rfl, Nat.le_of_ble_eq_true rfl⟩ dX3_store_2) (fun H locs hP hD hS => ?_)
  have hP := k_uP hP
  have hD := k_uD hD
  have hP : va_P D vwCl (ca_W cs ca cv) H := hP
  have hD : va_D A (ca_W cs ca cv) := hD
  refine lv_if_eq (tgt := 25) hx hb dX3_store_5 (by decide) (fun c_5 => ?_) (fun c_5 => ?_)
  · skip
    have c_5 : ((k_X3_has cv vs) = 0) := c_5
    rw [if_pos c_5] at hres
    subst hres
    exact kV_ret () hE hS hP hD trivial (Nat.le_of_ble_eq_true rfl) (Nat.le_of_ble_eq_true rfl) dX3_store_25
  · skip
    have c_5 : ¬ ((k_X3_has cv vs) = 0) := c_5
    rw [if_neg c_5] at hres
    have hk19 : 17 + vs.toNatClampNeg < 19 := k_2 (sl_b c_5)
    have hkne : (0 : Nat) ≠ 17 + vs.toNatClampNeg := by omega
    have hkn2 : 17 + vs.toNatClampNeg ≠ 0 := by omega
    refine lv_aload_n hx hb dX3_store_8 rfl (lv_at hl 0 rfl) ?_
    refine va_get (D := D) (ci := 3) (v := .ref (ca 3 1)) (C := RX3) (T := TX3) (N := 2) hx hb hts hinX3 hown hK hP 5 rfl rfl 0 (by decide) lk_0 (fun _ h9 => h9) rfl dX3_store_9 ?_
    refine lv_iload_n hx hb dX3_store_12 rfl (lv_at hl 1 rfl) ?_
    refine k_aldq hx hb hK hP 6 3 (v := (ca (10 + (17 + vs.toNatClampNeg)) 0)) rfl rfl (in_2 (sl_b c_5)) rfl dX3_store_13 ?_
    refine lv_aload_n hx hb dX3_store_14 rfl (lv_at hl 2 rfl) ?_
    have hP := pmP (ca_pm2 (cs := cs) (ca := ca) (cv := cv) (k := (17 + vs.toNatClampNeg)) (j := 0) (by omega) (by decide) (by omega)) hP
    have hD := pmD (ca_pm2 (cs := cs) (ca := ca) (cv := cv) (k := (17 + vs.toNatClampNeg)) (j := 0) (by omega) (by decide) (by omega)) hD
    have hc_15 := c_X1_copyFrom l D cs (ca (10 + (17 + vs.toNatClampNeg))) (ca 10) (cv.2.1 (17 + vs.toNatClampNeg)) (cv.2.1 0)
    refine kV_call (wc := (og_W cs (ca (10 + (17 + vs.toNatClampNeg))) (cv.2.1 (17 + vs.toNatClampNeg)) ++ og_W cs (ca 10) (cv.2.1 0))) (wr := (ca_r2 cs ca cv (17 + vs.toNatClampNeg) 0)) (w1 := fun _ => og_W cs (ca (10 + (17 + vs.toNatClampNeg))) (k_X1_copyFrom (cv.2.1 (17 + vs.toNatClampNeg)) (cv.2.1 0)) ++ og_W cs (ca 10) (cv.2.1 0)) hE hP hD hS (k_rV (rest := []) (As := [.ref (ca 10 0)]) hE rfl (hc_15 H.size) (cwV 1 hts gX3_store_X1_copyFrom rfl rfl rfl (by decide +kernel) ⟨Nat.le_of_ble_eq_true rfl, Nat.le_of_ble_eq_true rfl⟩) hP hD hS (ci := 1) (q0 := 0) rfl rfl rfl hl rfl (Nat.le_of_ble_eq_true rfl) ⟨Nat.le_of_ble_eq_true rfl, Nat.le_of_ble_eq_true rfl⟩ dX3_store_15) (fun _ H locs _ hP hD hS => ?_)
    have hP := pmP (ca_bk2 (cs := cs) (ca := ca) (cv := cv) (k := (17 + vs.toNatClampNeg)) (j := 0) (by omega) (by decide) (by omega)) hP
    have hD := pmD (ca_bk2 (cs := cs) (ca := ca) (cv := cv) (k := (17 + vs.toNatClampNeg)) (j := 0) (by omega) (by decide) (by omega)) hD
    have hP : va_P D vwCl (ca_W cs ca (c_o cv (17 + vs.toNatClampNeg) (k_X1_copyFrom (cv.2.1 (17 + vs.toNatClampNeg)) (cv.2.1 0)))) H := hP
    have hD : va_D A (ca_W cs ca (c_o cv (17 + vs.toNatClampNeg) (k_X1_copyFrom (cv.2.1 (17 + vs.toNatClampNeg)) (cv.2.1 0)))) := hD
    refine lv_aload_n hx hb dX3_store_18 rfl (lv_at hl 0 rfl) ?_
    refine va_get (D := D) (ci := 3) (v := .ref (ca 3 2)) (C := RX3) (T := TX3) (N := 2) hx hb hts hinX3 hown hK hP 5 rfl rfl 1 (by decide) lk_1 (fun _ h9 => h9) rfl dX3_store_19 ?_
    refine lv_iload_n hx hb dX3_store_22 rfl (lv_at hl 1 rfl) ?_
    refine lv_iconst (v := 1) hx hb dX3_store_23 (by decide) ?_
    refine k_zast hx hb hK hP hD hS 7 2 (k := vs.toNatClampNeg) rfl rfl (in_2 (sl_b c_5)) rfl rfl dX3_store_24 (fun H locs hP hD hS => ?_)
    have hP : va_P D vwCl (ca_W cs ca (c_z (c_o cv (17 + vs.toNatClampNeg) (k_X1_copyFrom (cv.2.1 (17 + vs.toNatClampNeg)) (cv.2.1 0))) (va_up cv.2.2.2 vs.toNatClampNeg 1))) H := hP
    have hD : va_D A (ca_W cs ca (c_z (c_o cv (17 + vs.toNatClampNeg) (k_X1_copyFrom (cv.2.1 (17 + vs.toNatClampNeg)) (cv.2.1 0))) (va_up cv.2.2.2 vs.toNatClampNeg 1))) := hD
    subst hres
    exact kV_ret () hE hS hP hD trivial (Nat.le_of_ble_eq_true rfl) (Nat.le_of_ble_eq_true rfl) dX3_store_25
def k_X3_fetch (cv : CV) (vs : Int32) : CV := (if (k_X3_has cv vs) = 0 then cv else (c_o cv 0 (k_X1_copyFrom (cv.2.1 0) (cv.2.1 (17 + vs.toNatClampNeg)))))
set_option maxHeartbeats 4000000 in
set_option maxRecDepth 100000 in
theorem c_X3_fetch (l : Launch) (D : va_G) (cs : Nat → ClassId) (ca : Nat → Nat → Nat) (cv : CV) (vs : Int32) (hC : CO cv) : kV l yX3_fetch wsX3_fetch { frames := 4, cells := 0, slots := 0, locals := 123 } 0 0 D cs [.ref (ca 3 0), .int vs, .ref (ca 10 0)] (ca_W cs ca cv) (fun (_ : Unit) => True) (fun _ => ca_W cs ca (k_X3_fetch cv vs)) := by
  generalize hres : k_X3_fetch cv vs = res
  refine kV_of (cc := cX3_fetch) (maxL := 3) (ret := none) (by decide) rfl (Nat.le_of_ble_eq_true rfl) ?_
  intro p e s m below meth c A ls H locs hE hS hP hD hl
  obtain ⟨hx, hb, hr, hlocks, hml, hown, hts, hK, hA, hG, hnm⟩ := id hE
  have hown : s.vm.findClass RX3 = some m.cls := hown
  have hl : lv_has ls 3 [(0, .ref (ca 3 0)), (1, .int vs), (2, .ref (ca 10 0))] := hl
  have hinX3 : ∀ w ∈ wsX30, w ∈ wsX3_fetch := by decide +kernel
  have lk_0 := hts (.fieldLink RX3 11 "OrganPegs$Slots" "states" "[LOrganPegs$Organ;") (by decide +kernel)
  unfold k_X3_fetch at hres
  refine lv_aload_n hx hb dX3_fetch_0 rfl (lv_at hl 0 rfl) ?_
  refine lv_iload_n hx hb dX3_fetch_1 rfl (lv_at hl 1 rfl) ?_
  have hP : va_P D vwCl ((ca_W cs ca cv) ++ []) H := k_nP hP
  have hD : va_D A ((ca_W cs ca cv) ++ []) := k_nD hD
  have hc_2 := c_X3_has l D cs ca cv vs (by assumption)
  refine kI_call (wc := (ca_W cs ca cv)) (wr := []) (w1 := ca_W cs ca cv) (r := (k_X3_has cv vs)) hE hP hD hS (k_rV (rest := []) (As := [.int vs]) hE rfl (hc_2 H.size) (cwV 1 hts gX3_fetch_X3_has rfl rfl rfl (by decide +kernel) ⟨Nat.le_of_ble_eq_true rfl, Nat.le_of_ble_eq_true rfl⟩) hP hD hS (ci := 3) (q0 := 5) rfl rfl rfl hl rfl (Nat.le_of_ble_eq_true rfl) ⟨Nat.le_of_ble_eq_true rfl, Nat.le_of_ble_eq_true rfl⟩ dX3_fetch_2) (fun H locs hP hD hS => ?_)
  have hP := k_uP hP
  have hD := k_uD hD
  have hP : va_P D vwCl (ca_W cs ca cv) H := hP
  have hD : va_D A (ca_W cs ca cv) := hD
  refine lv_if_eq (tgt := 18) hx hb dX3_fetch_5 (by decide) (fun c_5 => ?_) (fun c_5 => ?_)
  · skip
    have c_5 : ((k_X3_has cv vs) = 0) := c_5
    rw [if_pos c_5] at hres
    subst hres
    exact kV_ret () hE hS hP hD trivial (Nat.le_of_ble_eq_true rfl) (Nat.le_of_ble_eq_true rfl) dX3_fetch_18
  · skip
    have c_5 : ¬ ((k_X3_has cv vs) = 0) := c_5
    rw [if_neg c_5] at hres
    have hk19 : 17 + vs.toNatClampNeg < 19 := k_2 (sl_b c_5)
    have hkne : (0 : Nat) ≠ 17 + vs.toNatClampNeg := by omega
    have hkn2 : 17 + vs.toNatClampNeg ≠ 0 := by omega
    refine lv_aload_n hx hb dX3_fetch_8 rfl (lv_at hl 2 rfl) ?_
    refine lv_aload_n hx hb dX3_fetch_9 rfl (lv_at hl 0 rfl) ?_
    refine va_get (D := D) (ci := 3) (v := .ref (ca 3 1)) (C := RX3) (T := TX3) (N := 2) hx hb hts hinX3 hown hK hP 5 rfl rfl 0 (by decide) lk_0 (fun _ h9 => h9) rfl dX3_fetch_10 ?_
    refine lv_iload_n hx hb dX3_fetch_13 rfl (lv_at hl 1 rfl) ?_
    refine k_aldq hx hb hK hP 6 3 (v := (ca (10 + (17 + vs.toNatClampNeg)) 0)) rfl rfl (in_2 (sl_b c_5)) rfl dX3_fetch_14 ?_
    have hP := pmP (ca_pm2 (cs := cs) (ca := ca) (cv := cv) (k := 0) (j := (17 + vs.toNatClampNeg)) (by decide) (by omega) (by omega)) hP
    have hD := pmD (ca_pm2 (cs := cs) (ca := ca) (cv := cv) (k := 0) (j := (17 + vs.toNatClampNeg)) (by decide) (by omega) (by omega)) hD
    have hc_15 := c_X1_copyFrom l D cs (ca 10) (ca (10 + (17 + vs.toNatClampNeg))) (cv.2.1 0) (cv.2.1 (17 + vs.toNatClampNeg))
    refine kV_call (wc := (og_W cs (ca 10) (cv.2.1 0) ++ og_W cs (ca (10 + (17 + vs.toNatClampNeg))) (cv.2.1 (17 + vs.toNatClampNeg)))) (wr := (ca_r2 cs ca cv 0 (17 + vs.toNatClampNeg))) (w1 := fun _ => og_W cs (ca 10) (k_X1_copyFrom (cv.2.1 0) (cv.2.1 (17 + vs.toNatClampNeg))) ++ og_W cs (ca (10 + (17 + vs.toNatClampNeg))) (cv.2.1 (17 + vs.toNatClampNeg))) hE hP hD hS (k_rV (rest := []) (As := [.ref (ca (10 + (17 + vs.toNatClampNeg)) 0)]) hE rfl (hc_15 H.size) (cwV 1 hts gX3_fetch_X1_copyFrom rfl rfl rfl (by decide +kernel) ⟨Nat.le_of_ble_eq_true rfl, Nat.le_of_ble_eq_true rfl⟩) hP hD hS (ci := 1) (q0 := 0) rfl rfl rfl hl rfl (Nat.le_of_ble_eq_true rfl) ⟨Nat.le_of_ble_eq_true rfl, Nat.le_of_ble_eq_true rfl⟩ dX3_fetch_15) (fun _ H locs _ hP hD hS => ?_)
    have hP := pmP (ca_bk2 (cs := cs) (ca := ca) (cv := cv) (k := 0) (j := (17 + vs.toNatClampNeg)) (by decide) (by omega) (by omega)) hP
    have hD := pmD (ca_bk2 (cs := cs) (ca := ca) (cv := cv) (k := 0) (j := (17 + vs.toNatClampNeg)) (by decide) (by omega) (by omega)) hD
    have hP : va_P D vwCl (ca_W cs ca (c_o cv 0 (k_X1_copyFrom (cv.2.1 0) (cv.2.1 (17 + vs.toNatClampNeg))))) H := hP
    have hD : va_D A (ca_W cs ca (c_o cv 0 (k_X1_copyFrom (cv.2.1 0) (cv.2.1 (17 + vs.toNatClampNeg))))) := hD
    subst hres
    exact kV_ret () hE hS hP hD trivial (Nat.le_of_ble_eq_true rfl) (Nat.le_of_ble_eq_true rfl) dX3_fetch_18
def k_X3_wipe_L2 (cv : CV) : Nat → Int32 → CV → (CV)
  | 0, _, cw => cw
  | n + 1, i, cw => (if 2 ≤ i then cw else (k_X3_wipe_L2 cv n (i + 1) (c_z cw (va_up cw.2.2.2 i.toNatClampNeg 0))))
def k_X3_wipe (cv : CV) : CV := (k_X3_wipe_L2 cv 3 0 cv)
set_option maxHeartbeats 4000000 in
set_option maxRecDepth 100000 in
theorem c_X3_wipe (l : Launch) (D : va_G) (cs : Nat → ClassId) (ca : Nat → Nat → Nat) (cv : CV) (hC : CO cv) : kV l yX3_wipe wsX3_wipe { frames := 0, cells := 0, slots := 0, locals := 0 } 0 0 D cs [.ref (ca 3 0)] (ca_W cs ca cv) (fun (_ : Unit) => True) (fun _ => ca_W cs ca (k_X3_wipe cv)) := by
  generalize hres : k_X3_wipe cv = res
  refine kV_of (cc := cX3_wipe) (maxL := 2) (ret := none) (by decide) rfl (Nat.le_of_ble_eq_true rfl) ?_
  intro p e s m below meth c A ls H locs hE hS hP hD hl
  obtain ⟨hx, hb, hr, hlocks, hml, hown, hts, hK, hA, hG, hnm⟩ := id hE
  have hown : s.vm.findClass RX3 = some m.cls := hown
  have hl : lv_has ls 2 [(0, .ref (ca 3 0))] := hl
  have hinX3 : ∀ w ∈ wsX30, w ∈ wsX3_wipe := by decide +kernel
  have lk_0 := hts (.fieldLink RX3 17 "OrganPegs$Slots" "stored" "[Z") (by decide +kernel)
  have L2 : ∀ (n : Nat) (i : Int32) (cw : CV) (j : Nat) (hi : i = nI j) (hj : j + n = 3) (hj2 : j ≤ 2) (hC2 : CO cw) (H : Heap) (locs : List Loc) (ls : Array Slot), va_S A s.heap H locs → va_P D vwCl (ca_W cs ca cw) H → va_D A (ca_W cs ca cw) → lv_has ls 2 [(0, .ref (ca 3 0)), (1, .int i)] → k_X3_wipe_L2 cv n i cw = res → W p l e { frames := 0, cells := 0, slots := 0, locals := 0 } s m ([.ref (ca 3 0)]).toArray below meth c H locs 0 0 (MQ below (va_Qv (fun (_ : Unit) => True) (kB D (fun _ => ca_W cs ca res) A) A) ([.ref (ca 3 0)]).toArray s 0 0 A) (F0 m 2 ls []) := by
    intro n
    induction n with
    | zero =>
      intro i cw j hi hj hj2 hC2 H locs ls hS hP hD hl hres
      exact absurd hj2 (by omega)
    | succ n ih =>
      intro i cw j hi hj hj2 hC2 H locs ls hS hP hD hl hres
      unfold k_X3_wipe_L2 at hres
      refine lv_iload_n hx hb dX3_wipe_2 rfl (lv_at hl 1 rfl) ?_
      refine lv_iconst (v := 2) hx hb dX3_wipe_3 (by decide) ?_
      refine lv_icmp_ge (tgt := 20) hx hb dX3_wipe_4 (by decide) (fun c_4 => ?_) (fun c_4 => ?_)
      · skip
        have c_4 : (2 ≤ i) := c_4
        rw [if_pos c_4] at hres
        subst hres
        exact kV_ret () hE hS hP hD trivial (Nat.le_of_ble_eq_true rfl) (Nat.le_of_ble_eq_true rfl) dX3_wipe_20
      · skip
        have c_4 : ¬ (2 ≤ i) := c_4
        rw [if_neg c_4] at hres
        refine lv_aload_n hx hb dX3_wipe_7 rfl (lv_at hl 0 rfl) ?_
        refine va_get (D := D) (ci := 3) (v := .ref (ca 3 2)) (C := RX3) (T := TX3) (N := 2) hx hb hts hinX3 hown hK hP 5 rfl rfl 1 (by decide) lk_0 (fun _ h9 => h9) rfl dX3_wipe_8 ?_
        refine lv_iload_n hx hb dX3_wipe_11 rfl (lv_at hl 1 rfl) ?_
        refine lv_iconst (v := 0) hx hb dX3_wipe_12 (by decide) ?_
        refine k_zast hx hb hK hP hD hS 7 2 (k := i.toNatClampNeg) rfl rfl (in_2 (nI_b (N := 1) hi (by omega) (by have := nI_lts (N := 2) hi (by omega) (by decide) c_4; omega))) rfl rfl dX3_wipe_13 (fun H locs hP hD hS => ?_)
        have hP : va_P D vwCl (ca_W cs ca (c_z cw (va_up cw.2.2.2 i.toNatClampNeg 0))) H := hP
        have hD : va_D A (ca_W cs ca (c_z cw (va_up cw.2.2.2 i.toNatClampNeg 0))) := hD
        refine lv_iinc (v := (i + 1)) (lv' := [(1, .int (i + 1)), (0, .ref (ca 3 0))]) hx hb dX3_wipe_14 hl (k := 1) rfl (by rfl) (by decide) rfl (fun ls hl => ?_)
        refine lv_goto (tgt := 2) hx hb dX3_wipe_17 (by decide) ?_
        exact ih (i + 1) (c_z cw (va_up cw.2.2.2 i.toNatClampNeg 0)) (j + 1) (by rw [hi, nI_1]) (by omega) (nI_lts hi (by omega) (by decide) c_4) (hC2) _ _ _ hS hP hD (lv_sub hl [1, 0] rfl) hres
  unfold k_X3_wipe at hres
  refine lv_iconst (v := 0) hx hb dX3_wipe_0 (by decide) ?_
  refine lv_istore_n (lv' := [(1, .int 0), (0, .ref (ca 3 0))]) hx hb dX3_wipe_1 rfl hl (by decide) rfl (fun ls hl => ?_)
  exact L2 3 0 cv 0 ((show (0 : Int32) = nI 0 from rfl)) (rfl) (by decide) (hC) _ _ _ hS hP hD (lv_sub hl [1, 0] rfl) hres
