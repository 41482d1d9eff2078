/-! p29: a cell of the script. -/
abbrev RM_cell : Room := { frames := 0, cells := 0, slots := 0, locals := 0 }
def cellv (L : Nat) (xs : Nat → Int32) (j : Nat) : Int32 := (if j < L then xs j else 15520067 * (nI j + 3) + 11987) &&& 2147483647
theorem nI_ofx (x : Int32) : x = nI x.toBitVec.toNat := Int32.toBitVec_inj.mp (by show x.toBitVec = BitVec.ofNat 32 x.toBitVec.toNat; simp)
theorem cell_n (L : Nat) (xs : Nat → Int32) (j : Nat) : ∃ n, n < 2 ^ 31 ∧ cellv L xs j = nI n := by
  unfold cellv
  rw [nI_ofx (if j < L then xs j else 15520067 * (nI j + 3) + 11987), show (2147483647 : Int32) = nI 2147483647 from rfl, nI_and]
  exact ⟨_, Nat.lt_of_le_of_lt Nat.and_le_right (by omega), rfl⟩
def kCe (l : Launch) (D : va_G) (cs : Nat → ClassId) (b L : Nat) (xs : Nat → Int32) (j : Nat) : Prop := ∀ sz, Met l yL_cell wsL_cell RM_cell (fun a U => kP D cs [.ref b, .int (nI j)] [] sz a U ∧ va_X b L xs U U.heap ∧ b < U.heap.size) (va_Qi (fun (r' : Int32) (_ : Unit) => r' = cellv L xs j) (kB D (fun _ => []) (va_A [] sz)) (va_A [] sz)) 0 0 (va_A [] sz)
theorem kCe_blind {D : va_G} {cs : Nat → ClassId} {b L j sz : Nat} {xs : Nat → Int32} : FrameBlind (fun a U => kP D cs [.ref b, .int (nI j)] [] sz a U ∧ va_X b L xs U U.heap ∧ b < U.heap.size) := by
  intro a U g mk h
  obtain ⟨h0, h1, h2⟩ := h
  exact ⟨kP_blind a U g mk h0, va_X.moved (u := U) (U := U.calling g mk a) (Vm.Alike.refl U.vm) h1, h2⟩
set_option maxHeartbeats 4000000 in
set_option maxRecDepth 100000 in
theorem cell_w {p : Program} {l : Launch} {e : Env} {s : State} {m : MethodId} {args : Array Value} {below : List Frame} {meth : Method} {c : Code} {D : va_G} {cs : Nat → ClassId} {A : Nat → Prop} {b L j : Nat} {xs : Nat → Int32} {H : Heap} {locs : List Loc} {ls : Array Slot} (hL : L ≤ 260) (hj : j ≤ 1000) (hE : kE p s m args meth c D cs yL_cell wsL_cell cL_cell 2 (some .int) A) (hX : va_X b L xs s s.heap) (hbl : b < s.heap.size) (hbA : ¬ A b) (hS : va_S A s.heap H locs) (hP : va_P D vwCl [] H) (hD : va_D A []) (hl : lv_has ls 2 [(0, .ref b), (1, .int (nI j))]) : W p l e RM_cell s m args below meth c H locs 0 0 (MQ below (va_Qi (fun (r' : Int32) (_ : Unit) => r' = cellv L xs j) (kB D (fun _ => []) A) A) args s 0 0 A) (F0 m 0 ls []) := by
  obtain ⟨hx, hb, hr, hlocks, hml, hown, hts, hK, hA, hG, hnm⟩ := id hE
  have hown : s.vm.findClass RL = some m.cls := hown
  refine lv_iload_n hx hb dL_cell_0 rfl (lv_at hl 1 rfl) ?_
  refine lv_aload_n hx hb dL_cell_1 rfl (lv_at hl 0 rfl) ?_
  refine va_slen hx hb hX hbl hbA hS dL_cell_2 ?_
  by_cases hjL : j < L
  · have hv : cellv L xs j = xs j &&& 2147483647 := by unfold cellv; rw [if_pos hjL]
    refine lv_icmp_ge (tgt := 12) hx hb dL_cell_3 (by decide) (fun c9 => absurd c9 (show ¬ nI L ≤ nI j from nI_ge (by omega) (by omega))) (fun c9 => ?_)
    refine lv_aload_n hx hb dL_cell_6 rfl (lv_at hl 0 rfl) ?_
    refine lv_iload_n hx hb dL_cell_7 rfl (lv_at hl 1 rfl) ?_
    refine va_sld hx hb hX hbl hbA hS (vp_in_nI hjL (by omega)) dL_cell_8 ?_
    refine lv_goto (tgt := 22) hx hb dL_cell_9 (by decide) ?_
    refine lv_ldc (v := 2147483647) hx hb hown (hts (.constant RL 163 2147483647) (by decide +kernel)) dL_cell_22 ?_
    refine lv_iand hx hb dL_cell_24 ?_
    rw [nI_clamp (show j < 2 ^ 31 by omega)]
    exact kI_ret hE hS hP hD rfl hv.symm (Nat.le_of_ble_eq_true rfl) (Nat.le_of_ble_eq_true rfl) dL_cell_25
  · have hv : cellv L xs j = (15520067 * (nI j + 3) + 11987) &&& 2147483647 := by unfold cellv; rw [if_neg hjL]
    refine lv_icmp_ge (tgt := 12) hx hb dL_cell_3 (by decide) (fun c9 => ?_) (fun c9 => absurd (show nI L ≤ nI j from nI_le (by omega) (by omega)) c9)
    refine lv_ldc (v := 15520067) hx hb hown (hts (.constant RL 162 15520067) (by decide +kernel)) dL_cell_12 ?_
    refine lv_iload_n hx hb dL_cell_14 rfl (lv_at hl 1 rfl) ?_
    refine lv_iconst (v := 3) hx hb dL_cell_15 (by decide) ?_
    refine lv_iadd hx hb dL_cell_16 ?_
    refine lv_imul hx hb dL_cell_17 ?_
    refine lv_sipush (v := 11987) hx hb dL_cell_18 (by decide) ?_
    refine lv_iadd hx hb dL_cell_21 ?_
    refine lv_ldc (v := 2147483647) hx hb hown (hts (.constant RL 163 2147483647) (by decide +kernel)) dL_cell_22 ?_
    refine lv_iand hx hb dL_cell_24 ?_
    exact kI_ret hE hS hP hD rfl hv.symm (Nat.le_of_ble_eq_true rfl) (Nat.le_of_ble_eq_true rfl) dL_cell_25
theorem c_cell (l : Launch) (D : va_G) (cs : Nat → ClassId) {b L j : Nat} {xs : Nat → Int32} (hL : L ≤ 260) (hj : j ≤ 1000) : kCe l D cs b L xs j := by
  intro sz
  refine Met.ofW (cc := cL_cell) (maxL := 2) (ret := some .int) (by decide) rfl ?_
  intro p e s m args below meth c s₁ B hml hv
  obtain ⟨⟨rfl, hsz, hP, hK, hD0, hG⟩, hX, hbl⟩ := hv
  subst hsz
  rw [lg_entry_eq]
  refine cell_w hL hj ⟨B.exec, B.bytes, B.returns, B.notSynchronized, hml, findClass_of_methodNamed B.named, atoms_spec (ws := wsL_cell) B.pre, hK, fun q h => Or.inr h, hG, (name_of_methodNamed B.named B.method).1⟩ hX hbl (fun h => ?_) va_S.rf hP (hD0.self) (lv_entry ([.ref b, .int (nI j)]) (n := 2) (Nat.le_of_ble_eq_true rfl))
  rcases h with ⟨k, e9, h⟩ | h
  · exact absurd h (by simp)
  · exact absurd hbl (Nat.not_lt.mpr h)
section KC2
variable {p : Program} {l : Launch} {e : Env} {R : Room} {s : State} {m : MethodId} {args : Array Value} {below : List Frame} {meth : Method} {c : Code} {Q : State → Prop}
variable {D : va_G} {cs : Nat → ClassId} {A : Nat → Prop} {y : MethodName} {ws : List Cond} {index : Nat} {cc bytes2 : ByteArray} {maxL maxL2 : Nat} {ret ret2 : Option FieldType} {rest : List Value} {pc cells slots : Nat} {lv : List (Nat × Value)} {U : Type} {Φ : U → Prop} {w : U → va_W}
theorem KX_cell {b L j : Nat} {xs : Nat → Int32} {v : Int32} (hE : kE p s m args meth c D cs y ws cc maxL ret A) (ho : RL = y.cls) (hX : va_X b L xs s s.heap) (hbl : b < s.heap.size) (hbA : ¬ A b) (hM : kCe l D cs b L xs j) (hv : cellv L xs j = v) (cw : CallB R s args RL index yL_cell bytes2 maxL2 ret2 wsL_cell RM_cell 0 0 2 ∧ (Cond.static yL_cell).before args s = true) (hrm : (rest.map fun v => v.category).sum ≤ 8) (hf : cells + 0 ≤ R.cells ∧ slots + 0 ≤ R.slots) (hdg : decode cc pc = .ok (.invokestatic index, 3))
    (k : KX p l e R s m args below meth c D A maxL Q Φ w lv (.int v :: rest) (pc + 3) cells slots) : KX p l e R s m args below meth c D A maxL Q Φ w lv (.int (nI j) :: .ref b :: rest) pc cells slots := by
  intro u H locs ls hu hS hP hD hl
  have hP : va_P D vwCl ([] ++ w u) H := hP
  have hD : va_D A ([] ++ w u) := hD
  have hA : ∀ q : Nat, s.heap.size ≤ q → A q := hE.2.2.2.2.2.2.2.2.1
  have pre : ∀ V : State, V.heap = H → s.WarmedH V.vm → kP D cs [.ref b, .int (nI j)] [] H.size [Value.ref b, .int (nI j)].toArray V ∧ va_X b L xs V V.heap ∧ b < V.heap.size := fun V hV hW => ⟨k_pre hE hP hD hS V hV hW, by rw [hV]; exact va_X.moved hW.alike (hX.kept (hS.2.1 b hbl hbA)), by rw [hV]; exact Nat.lt_of_lt_of_le hbl hS.1⟩
  refine va_calli (va_runS (k_fix hE ho) (hM H.size) cw ⟨kCe_blind, pre⟩ rfl (As := [.ref b, .int (nI j)]) rfl hl.1 rfl (lv_room hrm) hdg hf) hS (fun q _ h => k_free hD hS hA q h) (k_free hD hS hA) (fun r9 u9 t H1 locs1 ht hvm hw hB hz1 hk1 hS1 => ?_)
  subst hw
  obtain ⟨hP1, hD1⟩ := hB
  rw [ht] at hP1
  obtain ⟨hP2, hD2⟩ := k_join hP hD hS hA hk1 hP1 hD1
  rw [hv]
  exact k u H1 locs1 ls hu hS1 hP2 hD2 hl
end KC2
section KZ
variable {l : Launch} {D : va_G} {cs : Nat → ClassId} {ca cb : Nat → Nat → Nat} {y2 : MethodName} {ws2 : List Cond} {rm2 : Room} {mc2 ms2 : Nat} {As : List Value} {r : Int32}
theorem sp2x {Φ Ψ : CV × CV → Prop} (h : ∀ v, Φ v → kQ l y2 ws2 rm2 mc2 ms2 D cs As (w_2 cs ca cb v) r Ψ (w_2 cs ca cb)) : ∀ u, Φ u → ∃ (S : Type) (wc wr : va_W) (Φ2 : S → Prop) (w1 : S → va_W), (w_2 cs ca cb u).Perm (wc ++ wr) ∧ kQ l y2 ws2 rm2 mc2 ms2 D cs As wc r Φ2 w1 ∧ ∀ x, Φ2 x → ∃ v, Ψ v ∧ (w1 x ++ wr).Perm (w_2 cs ca cb v) :=
  fun u hu => ⟨CV × CV, w_2 cs ca cb u, [], _, _, by rw [List.append_nil], h u hu, fun x hx => ⟨x, hx, by rw [List.append_nil]⟩⟩
end KZ
abbrev lwA (s : State) : Nat → Prop := fun q => s.heap.size ≤ q
