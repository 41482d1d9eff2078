/-! Constructors over arrays of organs: the word for the array's class is carried beside (va_AO). -/
def kSO (D : va_G) (cs : Nat → ClassId) (wc : va_W) (sz : Nat) : State → Prop := fun U => kS D cs wc sz U ∧ va_AO RX1 U
abbrev kPO (D : va_G) (cs : Nat → ClassId) (as : List Value) (wc : va_W) (sz : Nat) : Array Value → State → Prop := va_Pc as (kSO D cs wc sz)
def kVO {S : Type} (l : Launch) (y : MethodName) (ws : List Cond) (rm : Room) (mc ms : Nat) (D : va_G) (cs : Nat → ClassId) (as : List Value) (wc : va_W) (ps : S → Prop) (w1 : S → va_W) : Prop :=
  ∀ sz, Met l y ws rm (kPO D cs as wc sz) (va_Qv ps (kB D w1 (va_A wc sz)) (va_A wc sz)) mc ms (va_A wc sz)
theorem kPO_blind {D : va_G} {cs : Nat → ClassId} {as : List Value} {wc : va_W} {sz : Nat} : FrameBlind (kPO D cs as wc sz) := by
  intro a U g mk h
  obtain ⟨h0, ⟨h1, h2, h3, h4, h5⟩, h6⟩ := h
  exact ⟨h0, ⟨h1, h2, va_K.moved (u := U) (U := U.calling g mk a) (Vm.Alike.refl U.vm) h3, h4, Gl.blind (U := U) (V := U.calling g mk a) rfl rfl h5⟩, va_AO.moved (u := U) (U := U.calling g mk a) (Vm.Alike.refl U.vm) h6⟩
section KO
variable {p : Program} {l : Launch} {e : Env} {R : Room} {s : State} {m : MethodId} {args : Array Value} {below : List Frame} {meth : Method} {c : Code} {H : Heap} {locs : List Loc} {cells slots : Nat} {Q : State → Prop}
variable {D : va_G} {cs : Nat → ClassId} {as : List Value} {wc wr : va_W} {A : Nat → Prop} {y y2 : MethodName} {ws ws' ws2 : List Cond} {rm rm2 : Room} {mc ms mc2 ms2 n index : Nat} {cc bytes2 : ByteArray} {maxL maxL2 : Nat} {ret : Option FieldType} {As rest st0 : List Value} {b pc : Nat} {ls : Array Slot} {lv : List (Nat × Value)} {own : String} {Qc2 : Array Value → State → Outcome → State → Prop}
theorem kVO_of {S : Type} {ps : S → Prop} {w1 : S → va_W} (hy : plainName y.cls = true) (hw : ws = Cond.code y cc maxL ret :: ws') (hmx : (lg_sl as).length ≤ maxL)
    (body : ∀ (p : Program) (e : Env) (s : State) (m : MethodId) (below : List Frame) (meth : Method) (c : Code) (A : Nat → Prop) (ls : Array Slot) (H : Heap) (locs : List Loc), kE p s m as.toArray meth c D cs y ws cc maxL ret A → va_AO RX1 s → va_S A s.heap H locs → va_P D vwCl wc H → va_D A wc → lv_has ls maxL (lv_args 0 as) →
      W p l e rm s m as.toArray below meth c H locs 0 0 (MQ below (va_Qv ps (kB D w1 A) A) as.toArray s mc ms A) (F0 m 0 ls [])) : kVO l y ws rm mc ms D cs as wc ps w1 := by
  intro sz
  refine Met.ofW (cc := cc) (maxL := maxL) (ret := ret) hy hw ?_
  intro p e s m args below meth c s₁ B hml hv
  obtain ⟨rfl, ⟨hsz, hP, hK, hD0, hG⟩, hO⟩ := hv
  subst hsz
  rw [lg_entry_eq]
  exact body p e s m below meth c _ _ _ _ ⟨B.exec, B.bytes, B.returns, B.notSynchronized, hml, findClass_of_methodNamed B.named, atoms_spec (ws := ws) B.pre, hK, fun q h => Or.inr h, hG, (name_of_methodNamed B.named B.method).1⟩ hO va_S.rf hP (hD0.self) (lv_entry as hmx)
theorem k_preO (hE : kE p s m args meth c D cs y ws cc maxL ret A) (hO : va_AO RX1 s) {as2 : List Value} (hP : va_P D vwCl (wc ++ wr) H) (hD : va_D A (wc ++ wr)) (hS : va_S A s.heap H locs) : ∀ U : State, U.heap = H → s.WarmedH U.vm → kPO D cs as2 wc H.size as2.toArray U := by
  intro U hU hW
  obtain ⟨h0, h1⟩ := k_pre (as2 := as2) hE hP hD hS U hU hW
  exact ⟨h0, h1, va_AO.moved hW.alike hO⟩
theorem k_rIO (hE : kE p s m args meth c D cs y ws cc maxL ret A) (hO : va_AO RX1 s) (ho : own = y.cls) (hM : Met l y2 ws2 rm2 (kPO D cs (.ref b :: As) wc H.size) Qc2 mc2 ms2 (va_A wc H.size)) (cw : CallB R s args own index y2 bytes2 maxL2 none ws2 rm2 mc2 ms2 n ∧ y2.name = "<init>" ∧ (Cond.instanceMethod y2).before args s = true)
    (hP : va_P D vwCl (wc ++ wr) H) (hD : va_D A (wc ++ wr)) (hS : va_S A s.heap H locs)
    (hn : As.length = n) (hl : lv_has ls maxL lv) (hst : st0 = As.reverse ++ .ref b :: rest) (hrm : (rest.map fun v => v.category).sum ≤ 8) (hf : cells + mc2 ≤ R.cells ∧ slots + ms2 ≤ R.slots) (hdg : decode cc pc = .ok (.invokespecial index, 3)) :
    va_Run p l e R s m args below meth c H locs cells slots mc2 ms2 (F0 m pc ls st0) rest (Qc2 (Value.ref b :: As).toArray) (va_A wc H.size) :=
  va_runI (k_fix hE ho) hM cw ⟨kPO_blind, k_preO hE hO hP hD hS⟩ rfl hn hl.1 hst (lv_room hrm) hdg hf
end KO
def arq (cs : Nat → ClassId) (q n : Nat) (f : Nat → Option Nat) : Nat × va_E := (q, .inl (cs 3, n, .inr (.inr (.inr (.inr f)))))
def oss (cs : Nat → ClassId) (g : Nat → Nat → Nat) (n : Nat) : va_W := (List.range n).flatMap (fun i => og_W cs (g i) ov0)
theorem oss_s {cs : Nat → ClassId} {g : Nat → Nat → Nat} {j : Nat} {ad : Nat → Nat} : oss cs (va_up g j ad) (j + 1) = oss cs g j ++ og_W cs ad ov0 := by
  unfold oss
  rw [List.range_succ, List.flatMap_append, List.flatMap_singleton, show va_up g j ad j = ad from if_pos rfl]
  congr 1
  rw [List.flatMap_def, List.flatMap_def]
  congr 1
  refine List.map_congr_left (fun i hi => ?_)
  have : i ≠ j := Nat.ne_of_lt (List.mem_range.mp hi)
  rw [show va_up g j ad i = g i from if_neg this]
theorem oss_pm {cs : Nat → ClassId} {g : Nat → Nat → Nat} {j : Nat} {ad : Nat → Nat} {pre : va_W} : (og_W cs ad ov0 ++ (pre ++ oss cs g j)).Perm (pre ++ oss cs (va_up g j ad) (j + 1)) := by
  rw [oss_s]
  exact (List.perm_append_comm_assoc _ _ _).trans (List.perm_append_comm.append_left _)
theorem vp_ext {cA : ClassId} {n : Nat} {f f2 : Nat → Option Nat} (h : ∀ i, i < n → f i = f2 i) : vp_cell cA (n, .inr (.inr (.inr (.inr f)))) = vp_cell cA (n, .inr (.inr (.inr (.inr f2)))) := by
  show arrV cA n (fun j => va_rf (f j)) = arrV cA n (fun j => va_rf (f2 j))
  unfold arrV
  have : (fun j : Fin n => va_rf (f j.val)) = fun j : Fin n => va_rf (f2 j.val) := funext fun j => by rw [h j.val j.isLt]
  rw [this]
theorem ar_P {D : va_G} {cs : Nat → ClassId} {H : Heap} {w1 w2 : va_W} {q n : Nat} {f f2 : Nat → Option Nat} (h : ∀ i, i < n → f i = f2 i) (hP : va_P D vwCl (w1 ++ arq cs q n f :: w2) H) : va_P D vwCl (w1 ++ arq cs q n f2 :: w2) H := va_Pm.mpr (fun x hx => by
  rcases List.mem_append.mp hx with h1 | h1
  · exact va_Pm.mp hP x (List.mem_append_left _ h1)
  rcases List.mem_cons.mp h1 with h2 | h2
  · subst h2
    have h3 : va_at D vwCl (arq cs q n f) H := va_Pm.mp hP _ (List.mem_append_right _ (List.mem_cons_self ..))
    show H[q]? = some (vp_cell (cs 3) (n, .inr (.inr (.inr (.inr f2)))))
    rw [← vp_ext h]
    exact h3
  · exact va_Pm.mp hP x (List.mem_append_right _ (List.mem_cons_of_mem _ h2)))
theorem rw_D {A : Nat → Prop} {w w2 : va_W} (h : w.map (·.1) = w2.map (·.1)) (hD : va_D A w) : va_D A w2 := va_Dm.mpr ⟨h ▸ (va_Dm.mp hD).1, fun q hq => by
  have h3 : q.1 ∈ w.map (·.1) := by rw [h]; exact List.mem_map_of_mem hq
  obtain ⟨q2, h1, h2⟩ := List.mem_map.mp h3
  rw [← h2]
  exact (va_Dm.mp hD).2 q2 h1⟩
theorem ar_D {A : Nat → Prop} {cs : Nat → ClassId} {w1 w2 : va_W} {q n : Nat} {f f2 : Nat → Option Nat} (hD : va_D A (w1 ++ arq cs q n f :: w2)) : va_D A (w1 ++ arq cs q n f2 :: w2) := rw_D (by simp [arq]) hD
theorem og_dv : ∀ j, j < 17 → defaultValue (tyX1 j) = vp_V og_N j := fun j hj => by rcases (show j = 0 ∨ j = 1 ∨ j = 2 ∨ j = 3 ∨ j = 4 ∨ j = 5 ∨ j = 6 ∨ j = 7 ∨ j = 8 ∨ j = 9 ∨ j = 10 ∨ j = 11 ∨ j = 12 ∨ j = 13 ∨ j = 14 ∨ j = 15 ∨ j = 16 by omega) with rfl | rfl | rfl | rfl | rfl | rfl | rfl | rfl | rfl | rfl | rfl | rfl | rfl | rfl | rfl | rfl | rfl <;> rfl
set_option maxHeartbeats 4000000 in
set_option maxRecDepth 100000 in
theorem c_X0_init (l : Launch) (D : va_G) (cs : Nat → ClassId) (a : Nat) : kVO l yX0_init wsX0_init { frames := 3, cells := 127, slots := 4018, locals := 90 } 127 4018 D cs [.ref a] [(a, .inr (0, [.null, .int 0, .int 0]))] (fun (_ : Nat × (Nat → Nat → Nat)) => True) (fun (u : Nat × (Nat → Nat → Nat)) => [(a, .inr (0, [.ref u.1, .int 0, .int 0])), arq cs u.1 14 (fun i => some (u.2 i 0))] ++ oss cs u.2 14) := by
  refine kVO_of (cc := cX0_init) (maxL := 2) (ret := none) (by decide) rfl (Nat.le_of_ble_eq_true rfl) ?_
  intro p e s m below meth c A ls H locs hE hO hS hP hD hl
  obtain ⟨hx, hb, hr, hlocks, hml, hown, hts, hK, hA, hG, hnm⟩ := id hE
  have hown : s.vm.findClass RX0 = some m.cls := hown
  have hin : meth.name = "<init>" := hnm
  have hl : lv_has ls 2 [(0, .ref a)] := hl
  have hinX0 : ∀ w ∈ wsX00, w ∈ wsX0_init := by decide +kernel
  have hinX1 : ∀ w ∈ wsX10, w ∈ wsX0_init := by decide +kernel
  have lk_0 := (hts (.fieldLink RX0 11 "OrganPegs$History" "states" "[LOrganPegs$Organ;") (by decide +kernel))
  refine lv_aload_n hx hb dX0_init_0 rfl (lv_at hl 0 rfl) ?_
  refine W.objInit hx hb hown (hts (.methodLink RX0 3 objectInit) (List.mem_of_getElem? (i := 1) rfl)) (hts (.instanceMethod objectInit) (List.mem_of_getElem? (i := 2) rfl)) (hts _ (List.mem_of_getElem? (i := 3) rfl)) rfl (by rw [hml]; exact hl.1) rfl dX0_init_1 (Nat.le_of_ble_eq_true rfl) (Nat.le_of_ble_eq_true rfl) ?_
  refine W.eq (g2 := F0 m 4 ls []) rfl ?_
  refine lv_aload_n hx hb dX0_init_4 rfl (lv_at hl 0 rfl) ?_
  refine lv_bipush (v := 14) hx hb dX0_init_5 (by decide) ?_
  refine k_newq hE hown (hts (.classLink RX0 9 RX1) (by decide +kernel)) hO hP hD hS (n := 14) (N' := 14) (by decide) (by decide) (by decide) (Nat.le_of_ble_eq_true rfl) (Nat.le_of_ble_eq_true rfl) dX0_init_7 (fun q H hP hD hS => ?_)
  refine va_putF (D := D) (ci := 0) (v := .ref q) (ty := .array (.object "OrganPegs$Organ")) (C := RX0) (T := TX0) (N := 3) hx hb hts hinX0 tyX0 tyX0_ok nmX0 hown hK hP hD hS 0 rfl rfl 0 (by decide) lk_0 (fun _ h9 => h9) rfl hin rfl (by decide +kernel) rfl rfl (Nat.le_of_ble_eq_true rfl) dX0_init_10 (fun H locs hP hD hS => ?_)
  have hP : va_P D vwCl [(a, .inr (0, [.ref q, .int 0, .int 0])), arq cs q 14 (fun _ => none)] H := hP
  have hD : va_D A [(a, .inr (0, [.ref q, .int 0, .int 0])), arq cs q 14 (fun _ => none)] := hD
  have LP : ∀ (n j : Nat) (g : Nat → Nat → Nat) (f : Nat → Option Nat) (H : Heap) (locs : List Loc) (ls : Array Slot), j + n = 14 → (∀ i, i < j → f i = some (g i 0)) → va_S A s.heap H locs → va_P D vwCl ([(a, .inr (0, [.ref q, .int 0, .int 0])), arq cs q 14 f] ++ oss cs g j) H → va_D A ([(a, .inr (0, [.ref q, .int 0, .int 0])), arq cs q 14 f] ++ oss cs g j) → lv_has ls 2 [(0, .ref a), (1, .int (nI j))] → W p l e { frames := 3, cells := 127, slots := 4018, locals := 90 } s m ([.ref a]).toArray below meth c H locs (1 + 9 * j) (14 + 286 * j) (MQ below (va_Qv (fun (_ : Nat × (Nat → Nat → Nat)) => True) (kB D (fun (u : Nat × (Nat → Nat → Nat)) => [(a, .inr (0, [.ref u.1, .int 0, .int 0])), arq cs u.1 14 (fun i => some (u.2 i 0))] ++ oss cs u.2 14) A) A) ([.ref a]).toArray s 127 4018 A) (F0 m 15 ls []) := by
    intro n
    induction n with
    | zero =>
      intro j g f H locs ls hj hf hS hP hD hl
      obtain rfl : j = 14 := by omega
      refine lv_iload_n hx hb dX0_init_15 rfl (lv_at hl 1 rfl) ?_
      refine lv_bipush (v := 14) hx hb dX0_init_16 (by decide) ?_
      refine lv_icmp_ge (tgt := 40) hx hb dX0_init_18 (by decide) (fun c9 => ?_) (fun c9 => ?_)
      · have hP := ar_P (w1 := [(a, .inr (0, [.ref q, .int 0, .int 0]))]) (f2 := fun i => some (g i 0)) hf hP
        have hD := ar_D (w1 := [(a, .inr (0, [.ref q, .int 0, .int 0]))]) (f2 := fun i => some (g i 0)) hD
        exact kV_ret (q, g) hE hS hP hD trivial (Nat.le_of_ble_eq_true rfl) (Nat.le_of_ble_eq_true rfl) dX0_init_40
      · exact absurd (show (14 : Int32) ≤ nI 14 by decide) c9
    | succ n ih =>
      intro j g f H locs ls hj hf hS hP hD hl
      have hjn : j < 14 := by omega
      refine lv_iload_n hx hb dX0_init_15 rfl (lv_at hl 1 rfl) ?_
      refine lv_bipush (v := 14) hx hb dX0_init_16 (by decide) ?_
      refine lv_icmp_ge (tgt := 40) hx hb dX0_init_18 (by decide) (fun c9 => ?_) (fun c9 => ?_)
      · exact absurd c9 (show ¬ (14 : Int32) ≤ nI j from nI_ge (b := 14) (by omega) (by omega))
      refine lv_aload_n hx hb dX0_init_21 rfl (lv_at hl 0 rfl) ?_
      refine va_get (D := D) (ci := 0) (v := .ref q) (C := RX0) (T := TX0) (N := 3) hx hb hts hinX0 hown hK hP 0 rfl rfl 0 (by decide) lk_0 (fun _ h9 => h9) rfl dX0_init_22 ?_
      refine lv_iload_n hx hb dX0_init_25 rfl (lv_at hl 1 rfl) ?_
      refine va_new (ci := 1) (fs := og_N) (C := RX1) (T := TX1) (N := 17) hx hb hts hinX1 tyX1 tyX1_ok hown (hts (.classLink RX0 9 RX1) (by decide +kernel)) (hts (.instantiable RX1 17) (by decide +kernel)) (hts (.initialized RX1) (by decide +kernel)) hK hP hD hS hA rfl og_dv (by show 1 + 9 * j + 1 ≤ 127; omega) (by show 14 + 286 * j + 17 ≤ 4018; omega) dX0_init_26 (fun b H hP hD hS => ?_)
      refine lv_dup hx hb dX0_init_29 rfl ?_
      have hP : va_P D vwCl ([(b, .inr (1, og_N))] ++ ([(a, .inr (0, [.ref q, .int 0, .int 0])), arq cs q 14 f] ++ oss cs g j)) H := pmP List.perm_append_comm hP
      have hD : va_D A ([(b, .inr (1, og_N))] ++ ([(a, .inr (0, [.ref q, .int 0, .int 0])), arq cs q 14 f] ++ oss cs g j)) := pmD List.perm_append_comm hD
      refine kV_call (S := Nat → Nat) (ps := fun ad => ad 0 = b) (wc := [(b, .inr (1, og_N))]) (wr := [(a, .inr (0, [.ref q, .int 0, .int 0])), arq cs q 14 f] ++ oss cs g j) (w1 := fun ad => og_W cs ad ov0) hE hP hD hS (k_rIN (rest := [.ref b, .int (nI j), .ref q]) (As := []) hE rfl (c_X1_init l D cs b H.size) ⟨va_cnB 0 hts gX0_init_X1_init_n17 rfl rfl rfl (hG.1.2.1 _ _ _ _ nm_X0_17) (hts (.initialized RX1) (by decide +kernel)) (by decide +kernel) ⟨(Nat.le_of_ble_eq_true rfl), (Nat.le_of_ble_eq_true rfl)⟩, rfl, (hts (.instanceMethod yX1_init) (by decide +kernel))⟩ hP hD hS rfl hl rfl (Nat.le_of_ble_eq_true rfl) ⟨by show 1 + 9 * j + 1 + 8 ≤ 127; omega, by show 14 + 286 * j + 17 + 269 ≤ 4018; omega⟩ dX0_init_30) (fun ad H locs had hP hD hS => ?_)
      rw [← had]
      refine va_astq (n := 14) hx hb hK hP hD hS 10 3 0 1 (r := (RX1, TX1, 17)) rfl rfl rfl rfl (vp_in_iff.mpr (by rw [nI_toInt (show j < 2 ^ 31 by omega)]; omega)) dX0_init_33 (fun H locs hP hD hS => ?_)
      rw [nI_clamp (show j < 2 ^ 31 by omega)] at hP hD
      have hP : va_P D vwCl (og_W cs ad ov0 ++ ([(a, .inr (0, [.ref q, .int 0, .int 0])), arq cs q 14 (va_up f j (some (ad 0)))] ++ oss cs g j)) H := hP
      have hD : va_D A (og_W cs ad ov0 ++ ([(a, .inr (0, [.ref q, .int 0, .int 0])), arq cs q 14 (va_up f j (some (ad 0)))] ++ oss cs g j)) := hD
      have hP := pmP oss_pm hP
      have hD := pmD oss_pm hD
      refine lv_iinc (v := (nI j + 1)) (lv' := [(1, .int (nI j + 1)), (0, .ref a)]) hx hb dX0_init_34 hl (k := 1) rfl (by rfl) (by decide) rfl (fun ls hl => ?_)
      refine lv_goto (tgt := 15) hx hb dX0_init_37 (by decide) ?_
      rw [nI_1] at hl
      refine W.widen (k := 1 + 9 * (j + 1)) (n := 14 + 286 * (j + 1)) (by omega) (by omega) ?_
      refine ih (j + 1) (va_up g j ad) (va_up f j (some (ad 0))) H locs ls (by omega) (fun i hi => ?_) hS hP hD (lv_sub hl [1, 0] rfl)
      by_cases hij : i = j
      · subst hij
        rw [va_eq, va_eq]
      · rw [va_ne hij, va_ne hij]
        exact hf i (by omega)
  refine lv_iconst (v := 0) hx hb dX0_init_13 (by decide) ?_
  refine lv_istore_n (lv' := [(1, .int 0), (0, .ref a)]) hx hb dX0_init_14 rfl hl (by decide) rfl (fun ls hl => ?_)
  have hP : va_P D vwCl ([(a, .inr (0, [.ref q, .int 0, .int 0])), arq cs q 14 (fun _ => none)] ++ oss cs (fun _ _ => 0) 0) H := hP
  have hD : va_D A ([(a, .inr (0, [.ref q, .int 0, .int 0])), arq cs q 14 (fun _ => none)] ++ oss cs (fun _ _ => 0) 0) := hD
  exact LP 14 0 (fun _ _ => 0) (fun _ => none) H locs ls rfl (fun i hi => absurd hi (Nat.not_lt_zero i)) hS hP hD (lv_sub hl [1, 0] rfl)
set_option maxHeartbeats 4000000 in
set_option maxRecDepth 100000 in
theorem c_X3_init (l : Launch) (D : va_G) (cs : Nat → ClassId) (a : Nat) : kVO l yX3_init wsX3_init { frames := 3, cells := 20, slots := 576, locals := 90 } 20 576 D cs [.ref a] [(a, .inr (3, [.null, .null]))] (fun (_ : (Nat × Nat) × (Nat → Nat → Nat)) => True) (fun (u : (Nat × Nat) × (Nat → Nat → Nat)) => [(a, .inr (3, [.ref u.1.1, .ref u.1.2])), arq cs u.1.1 2 (fun i => some (u.2 i 0)), (u.1.2, .inl (cs 2, 2, .inl (fun _ => 0)))] ++ oss cs u.2 2) := by
  refine kVO_of (cc := cX3_init) (maxL := 2) (ret := none) (by decide) rfl (Nat.le_of_ble_eq_true rfl) ?_
  intro p e s m below meth c A ls H locs hE hO hS hP hD hl
  obtain ⟨hx, hb, hr, hlocks, hml, hown, hts, hK, hA, hG, hnm⟩ := id hE
  have hown : s.vm.findClass RX3 = some m.cls := hown
  have hin : meth.name = "<init>" := hnm
  have hl : lv_has ls 2 [(0, .ref a)] := hl
  have hinX3 : ∀ w ∈ wsX30, w ∈ wsX3_init := by decide +kernel
  have hinX1 : ∀ w ∈ wsX10, w ∈ wsX3_init := by decide +kernel
  have lk_0 := (hts (.fieldLink RX3 11 "OrganPegs$Slots" "states" "[LOrganPegs$Organ;") (by decide +kernel))
  refine lv_aload_n hx hb dX3_init_0 rfl (lv_at hl 0 rfl) ?_
  refine W.objInit hx hb hown (hts (.methodLink RX3 3 objectInit) (List.mem_of_getElem? (i := 1) rfl)) (hts (.instanceMethod objectInit) (List.mem_of_getElem? (i := 2) rfl)) (hts _ (List.mem_of_getElem? (i := 3) rfl)) rfl (by rw [hml]; exact hl.1) rfl dX3_init_1 (Nat.le_of_ble_eq_true rfl) (Nat.le_of_ble_eq_true rfl) ?_
  refine W.eq (g2 := F0 m 4 ls []) rfl ?_
  refine lv_aload_n hx hb dX3_init_4 rfl (lv_at hl 0 rfl) ?_
  refine lv_iconst (v := 2) hx hb dX3_init_5 (by decide) ?_
  refine k_newq hE hown (hts (.classLink RX3 9 RX1) (by decide +kernel)) hO hP hD hS (n := 2) (N' := 2) (by decide) (by decide) (by decide) (Nat.le_of_ble_eq_true rfl) (Nat.le_of_ble_eq_true rfl) dX3_init_6 (fun q H hP hD hS => ?_)
  refine va_putF (D := D) (ci := 3) (v := .ref q) (ty := .array (.object "OrganPegs$Organ")) (C := RX3) (T := TX3) (N := 2) hx hb hts hinX3 tyX3 tyX3_ok nmX3 hown hK hP hD hS 0 rfl rfl 0 (by decide) lk_0 (fun _ h9 => h9) rfl hin rfl (by decide +kernel) rfl rfl (Nat.le_of_ble_eq_true rfl) dX3_init_9 (fun H locs hP hD hS => ?_)
  have hP : va_P D vwCl [(a, .inr (3, [.ref q, .null])), arq cs q 2 (fun _ => none)] H := hP
  have hD : va_D A [(a, .inr (3, [.ref q, .null])), arq cs q 2 (fun _ => none)] := hD
  refine lv_aload_n hx hb dX3_init_12 rfl (lv_at hl 0 rfl) ?_
  refine lv_iconst (v := 2) hx hb dX3_init_13 (by decide) ?_
  refine k_newa (atype := .boolean) (ty := .boolean) (t0 := 2) (a0 := (2, .inl (fun _ => 0))) hE (hts (.arrayClass .boolean) (by decide +kernel)) rfl rfl hP hD hS (fun _ => rfl) (by decide) (by decide) (by decide) (Nat.le_of_ble_eq_true rfl) (Nat.le_of_ble_eq_true rfl) dX3_init_14 (fun q2 H hP hD hS => ?_)
  have hP : va_P D vwCl [(a, .inr (3, [.ref q, .null])), arq cs q 2 (fun _ => none), (q2, .inl (cs 2, 2, .inl (fun _ => 0)))] H := hP
  have hD : va_D A [(a, .inr (3, [.ref q, .null])), arq cs q 2 (fun _ => none), (q2, .inl (cs 2, 2, .inl (fun _ => 0)))] := hD
  refine va_putF (D := D) (ci := 3) (v := .ref q2) (ty := (.array .boolean)) (C := RX3) (T := TX3) (N := 2) hx hb hts hinX3 tyX3 tyX3_ok nmX3 hown hK hP hD hS 0 rfl rfl 1 (by decide) (hts (.fieldLink RX3 17 "OrganPegs$Slots" "stored" "[Z") (by decide +kernel)) (fun _ h9 => h9) rfl hin rfl (by decide +kernel) rfl rfl (Nat.le_of_ble_eq_true rfl) dX3_init_16 (fun H locs hP hD hS => ?_)
  have hP : va_P D vwCl [(a, .inr (3, [.ref q, .ref q2])), arq cs q 2 (fun _ => none), (q2, .inl (cs 2, 2, .inl (fun _ => 0)))] H := hP
  have hD : va_D A [(a, .inr (3, [.ref q, .ref q2])), arq cs q 2 (fun _ => none), (q2, .inl (cs 2, 2, .inl (fun _ => 0)))] := hD
  have LP : ∀ (n j : Nat) (g : Nat → Nat → Nat) (f : Nat → Option Nat) (H : Heap) (locs : List Loc) (ls : Array Slot), j + n = 2 → (∀ i, i < j → f i = some (g i 0)) → va_S A s.heap H locs → va_P D vwCl ([(a, .inr (3, [.ref q, .ref q2])), arq cs q 2 f, (q2, .inl (cs 2, 2, .inl (fun _ => 0)))] ++ oss cs g j) H → va_D A ([(a, .inr (3, [.ref q, .ref q2])), arq cs q 2 f, (q2, .inl (cs 2, 2, .inl (fun _ => 0)))] ++ oss cs g j) → lv_has ls 2 [(0, .ref a), (1, .int (nI j))] → W p l e { frames := 3, cells := 20, slots := 576, locals := 90 } s m ([.ref a]).toArray below meth c H locs (2 + 9 * j) (4 + 286 * j) (MQ below (va_Qv (fun (_ : (Nat × Nat) × (Nat → Nat → Nat)) => True) (kB D (fun (u : (Nat × Nat) × (Nat → Nat → Nat)) => [(a, .inr (3, [.ref u.1.1, .ref u.1.2])), arq cs u.1.1 2 (fun i => some (u.2 i 0)), (u.1.2, .inl (cs 2, 2, .inl (fun _ => 0)))] ++ oss cs u.2 2) A) A) ([.ref a]).toArray s 20 576 A) (F0 m 21 ls []) := by
    intro n
    induction n with
    | zero =>
      intro j g f H locs ls hj hf hS hP hD hl
      obtain rfl : j = 2 := by omega
      refine lv_iload_n hx hb dX3_init_21 rfl (lv_at hl 1 rfl) ?_
      refine lv_iconst (v := 2) hx hb dX3_init_22 (by decide) ?_
      refine lv_icmp_ge (tgt := 45) hx hb dX3_init_23 (by decide) (fun c9 => ?_) (fun c9 => ?_)
      · have hP := ar_P (w1 := [(a, .inr (3, [.ref q, .ref q2]))]) (f2 := fun i => some (g i 0)) hf hP
        have hD := ar_D (w1 := [(a, .inr (3, [.ref q, .ref q2]))]) (f2 := fun i => some (g i 0)) hD
        exact kV_ret ((q, q2), g) hE hS hP hD trivial (Nat.le_of_ble_eq_true rfl) (Nat.le_of_ble_eq_true rfl) dX3_init_45
      · exact absurd (show (2 : Int32) ≤ nI 2 by decide) c9
    | succ n ih =>
      intro j g f H locs ls hj hf hS hP hD hl
      have hjn : j < 2 := by omega
      refine lv_iload_n hx hb dX3_init_21 rfl (lv_at hl 1 rfl) ?_
      refine lv_iconst (v := 2) hx hb dX3_init_22 (by decide) ?_
      refine lv_icmp_ge (tgt := 45) hx hb dX3_init_23 (by decide) (fun c9 => ?_) (fun c9 => ?_)
      · exact absurd c9 (show ¬ (2 : Int32) ≤ nI j from nI_ge (b := 2) (by omega) (by omega))
      refine lv_aload_n hx hb dX3_init_26 rfl (lv_at hl 0 rfl) ?_
      refine va_get (D := D) (ci := 3) (v := .ref q) (C := RX3) (T := TX3) (N := 2) hx hb hts hinX3 hown hK hP 0 rfl rfl 0 (by decide) lk_0 (fun _ h9 => h9) rfl dX3_init_27 ?_
      refine lv_iload_n hx hb dX3_init_30 rfl (lv_at hl 1 rfl) ?_
      refine va_new (ci := 1) (fs := og_N) (C := RX1) (T := TX1) (N := 17) hx hb hts hinX1 tyX1 tyX1_ok hown (hts (.classLink RX3 9 RX1) (by decide +kernel)) (hts (.instantiable RX1 17) (by decide +kernel)) (hts (.initialized RX1) (by decide +kernel)) hK hP hD hS hA rfl og_dv (by show 2 + 9 * j + 1 ≤ 20; omega) (by show 4 + 286 * j + 17 ≤ 576; omega) dX3_init_31 (fun b H hP hD hS => ?_)
      refine lv_dup hx hb dX3_init_34 rfl ?_
      have hP : va_P D vwCl ([(b, .inr (1, og_N))] ++ ([(a, .inr (3, [.ref q, .ref q2])), arq cs q 2 f, (q2, .inl (cs 2, 2, .inl (fun _ => 0)))] ++ oss cs g j)) H := pmP List.perm_append_comm hP
      have hD : va_D A ([(b, .inr (1, og_N))] ++ ([(a, .inr (3, [.ref q, .ref q2])), arq cs q 2 f, (q2, .inl (cs 2, 2, .inl (fun _ => 0)))] ++ oss cs g j)) := pmD List.perm_append_comm hD
      refine kV_call (S := Nat → Nat) (ps := fun ad => ad 0 = b) (wc := [(b, .inr (1, og_N))]) (wr := [(a, .inr (3, [.ref q, .ref q2])), arq cs q 2 f, (q2, .inl (cs 2, 2, .inl (fun _ => 0)))] ++ oss cs g j) (w1 := fun ad => og_W cs ad ov0) hE hP hD hS (k_rIN (rest := [.ref b, .int (nI j), .ref q]) (As := []) hE rfl (c_X1_init l D cs b H.size) ⟨va_cnB 0 hts gX3_init_X1_init_n21 rfl rfl rfl (hG.1.2.1 _ _ _ _ nm_X3_21) (hts (.initialized RX1) (by decide +kernel)) (by decide +kernel) ⟨(Nat.le_of_ble_eq_true rfl), (Nat.le_of_ble_eq_true rfl)⟩, rfl, (hts (.instanceMethod yX1_init) (by decide +kernel))⟩ hP hD hS rfl hl rfl (Nat.le_of_ble_eq_true rfl) ⟨by show 2 + 9 * j + 1 + 8 ≤ 20; omega, by show 4 + 286 * j + 17 + 269 ≤ 576; omega⟩ dX3_init_35) (fun ad H locs had hP hD hS => ?_)
      rw [← had]
      refine va_astq (n := 2) hx hb hK hP hD hS 10 3 0 1 (r := (RX1, TX1, 17)) rfl rfl rfl rfl (vp_in_iff.mpr (by rw [nI_toInt (show j < 2 ^ 31 by omega)]; omega)) dX3_init_38 (fun H locs hP hD hS => ?_)
      rw [nI_clamp (show j < 2 ^ 31 by omega)] at hP hD
      have hP : va_P D vwCl (og_W cs ad ov0 ++ ([(a, .inr (3, [.ref q, .ref q2])), arq cs q 2 (va_up f j (some (ad 0))), (q2, .inl (cs 2, 2, .inl (fun _ => 0)))] ++ oss cs g j)) H := hP
      have hD : va_D A (og_W cs ad ov0 ++ ([(a, .inr (3, [.ref q, .ref q2])), arq cs q 2 (va_up f j (some (ad 0))), (q2, .inl (cs 2, 2, .inl (fun _ => 0)))] ++ oss cs g j)) := hD
      have hP := pmP oss_pm hP
      have hD := pmD oss_pm hD
      refine lv_iinc (v := (nI j + 1)) (lv' := [(1, .int (nI j + 1)), (0, .ref a)]) hx hb dX3_init_39 hl (k := 1) rfl (by rfl) (by decide) rfl (fun ls hl => ?_)
      refine lv_goto (tgt := 21) hx hb dX3_init_42 (by decide) ?_
      rw [nI_1] at hl
      refine W.widen (k := 2 + 9 * (j + 1)) (n := 4 + 286 * (j + 1)) (by omega) (by omega) ?_
      refine ih (j + 1) (va_up g j ad) (va_up f j (some (ad 0))) H locs ls (by omega) (fun i hi => ?_) hS hP hD (lv_sub hl [1, 0] rfl)
      by_cases hij : i = j
      · subst hij
        rw [va_eq, va_eq]
      · rw [va_ne hij, va_ne hij]
        exact hf i (by omega)
  refine lv_iconst (v := 0) hx hb dX3_init_19 (by decide) ?_
  refine lv_istore_n (lv' := [(1, .int 0), (0, .ref a)]) hx hb dX3_init_20 rfl hl (by decide) rfl (fun ls hl => ?_)
  have hP : va_P D vwCl ([(a, .inr (3, [.ref q, .ref q2])), arq cs q 2 (fun _ => none), (q2, .inl (cs 2, 2, .inl (fun _ => 0)))] ++ oss cs (fun _ _ => 0) 0) H := hP
  have hD : va_D A ([(a, .inr (3, [.ref q, .ref q2])), arq cs q 2 (fun _ => none), (q2, .inl (cs 2, 2, .inl (fun _ => 0)))] ++ oss cs (fun _ _ => 0) 0) := hD
  exact LP 2 0 (fun _ _ => 0) (fun _ => none) H locs ls rfl (fun i hi => absurd hi (Nat.not_lt_zero i)) hS hP hD (lv_sub hl [1, 0] rfl)
