/-! The law's rounds, case by case. -/
set_option maxHeartbeats 4000000 in
set_option maxRecDepth 100000 in
theorem law_append {p : Program} {l : Launch} {e : Env} {s : State} {m : MethodId} {below : List Frame} {meth : Method} {c : Code} {Q : State → Prop} {D : va_G} {cs : Nat → ClassId} {ca : Nat → Nat → Nat} {ma : Nat → Nat} {oa b L : Nat} {xs : Nat → Int32} {y : MethodName} {rt : Option FieldType} (hfl : l.stackTraces = false) (hE : kE p s m #[Value.ref b] meth c D cs y wsL_law cL_law 7 rt (lwA s)) (ho : RL = y.cls) (hX : XA s) (hXs : va_X b L xs s s.heap) (hbl : b < s.heap.size) (hLb : L ≤ 2048) {i : Nat} (hi : i + 4 ≤ L) {cells slots : Nat} (hc : cells ≤ 600000) (hs : slots ≤ 7000000) {cv : CV} {mv : MV} {f : Nat → Int64} {H : Heap} {locs : List Loc} {ls : Array Slot} (hT : TRel cv mv) (hS : va_S (lwA s) s.heap H locs) (hP : va_P D vwCl (lwW cs ca ma oa cv mv f) H) (hD : va_D (lwA s) (lwW cs ca ma oa cv mv f)) (hl : lv_has ls 7 [(0, .ref b), (1, .ref (ca 0 0)), (2, .ref (ma 0)), (3, .ref oa), (4, .int (nI i))]) (kk : lawK p l e s m below meth c D cs ca ma oa b i (cells + 1) (slots + 6) Q) : W p l e room_1 s m #[Value.ref b] below meth c H locs cells slots Q (F0 m 156 ls []) := by
  obtain ⟨hx, hb, hr, hlocks, hml, hown, hts, hK, hA, hG, hnm⟩ := id hE
  have hown : s.vm.findClass RL = some m.cls := by rw [ho]; exact hown
  have hbA : ¬ lwA s b := Nat.not_le.mpr hbl
  refine lv_aload_n hx hb dL_law_156 rfl (lv_at hl 1 rfl) ?_
  refine lv_aload_n hx hb dL_law_157 rfl (lv_at hl 0 rfl) ?_
  refine lv_iload hx hb dL_law_158 (lv_at hl 4 rfl) ?_
  refine lv_iconst (v := 1) hx hb dL_law_160 (by decide) ?_
  refine lv_iadd hx hb dL_law_161 ?_
  rw [show (nI i + 1 : Int32) = nI (i + 1) from nI_add i 1]
  refine va_sld hx hb hXs hbl hbA hS (vp_in_nI (show i + 1 < L by omega) (by omega)) dL_law_162 ?_
  rw [nI_clamp (show i + 1 < 2 ^ 31 by omega)]
  refine lv_aload_n hx hb dL_law_163 rfl (lv_at hl 3 rfl) ?_
  obtain ⟨x, r, c2, e0⟩ : ∃ x r c2, k_X5_append cv (xs (i + 1)) = (x, r, c2) := ⟨_, _, _, rfl⟩
  obtain ⟨r6, m2, e6⟩ : ∃ r6 m2, k_X6_append mv (xs (i + 1)) = (r6, m2) := ⟨_, _, rfl⟩
  have hAG := T_append hT (xs (i + 1))
  rw [e0, e6] at hAG
  obtain ⟨hT2, hcode, hans, hLx⟩ := hAG
  dsimp only at hT2 hcode hans hLx
  have hw := w_append l hfl D cs ca cv c2 oa f (xs (i + 1)) hT.2.1 x r e0 hLx
  refine kI_call (wc := lo cs oa f :: ca_W cs ca cv) (wr := md_W cs ma mv) (w1 := lo cs oa (if x = none then va_up f 0 r.toInt64 else f) :: ca_W cs ca c2) (r := cod [IAE, ISE] x) hE hP hD hS (k_rL (rest := []) (As := [.ref (ca 0 0), .int (xs (i + 1)), .ref oa]) hE hX ho (hw H.size) (vx_cwSW 3 hts gL_law_L_append rfl rfl rfl (by decide +kernel) ⟨(Nat.le_of_ble_eq_true rfl), (Nat.le_of_ble_eq_true rfl)⟩) hP hD hS rfl hl rfl (Nat.le_of_ble_eq_true rfl) ⟨by show cells + 1 ≤ 601024; omega, by show slots + 6 ≤ 7293034; omega⟩ dL_law_164) (fun H locs hP hD hS => ?_)
  refine lv_istore (lv' := [(5, .int (cod [IAE, ISE] x)), (0, .ref b), (1, .ref (ca 0 0)), (2, .ref (ma 0)), (3, .ref oa), (4, .int (nI i))]) hx hb dL_law_167 hl (by decide) rfl (fun ls hl => ?_)
  refine lv_aload_n hx hb dL_law_169 rfl (lv_at hl 3 rfl) ?_
  refine lv_aload_n hx hb dL_law_170 rfl (lv_at hl 1 rfl) ?_
  refine lv_iload hx hb dL_law_171 (lv_at hl 5 rfl) ?_
  refine lv_iconst (v := 1) hx hb dL_law_173 (by decide) ?_
  refine lv_iadd hx hb dL_law_174 ?_
  rw [show (nI i + 1 : Int32) = nI (i + 1) from nI_add i 1]
  refine va_sld hx hb hXs hbl hbA hS (vp_in_nI (show i + 1 < L by omega) (by omega)) dL_law_175 ?_
  rw [nI_clamp (show i + 1 < 2 ^ 31 by omega)]
  have hm := c_X6_append l D cs ma mv (xs (i + 1)) (TR_MO hT)
  rw [e6] at hm
  dsimp only at hm
  have hP := pmP List.perm_append_comm hP
  have hD := pmD List.perm_append_comm hD
  refine kI_call (wc := md_W cs ma mv) (wr := lo cs oa (if x = none then va_up f 0 r.toInt64 else f) :: ca_W cs ca c2) (w1 := md_W cs ma m2) (r := r6) hE hP hD hS (k_rV (rest := []) (As := [.int (xs (i + 1))]) hE ho (hm H.size) (cwV 1 hts gL_law_X6_append rfl rfl rfl (by decide +kernel) ⟨(Nat.le_of_ble_eq_true rfl), (Nat.le_of_ble_eq_true rfl)⟩) hP hD hS (ci := 6) (q0 := 0) rfl rfl rfl hl rfl (Nat.le_of_ble_eq_true rfl) ⟨by show cells + 1 + 0 ≤ 601024; omega, by show slots + 6 + 0 ≤ 7293034; omega⟩ dL_law_176) (fun H locs hP hD hS => ?_)
  refine lv_istore (lv' := [(6, .int r6), (5, .int (cod [IAE, ISE] x)), (0, .ref b), (1, .ref (ca 0 0)), (2, .ref (ma 0)), (3, .ref oa), (4, .int (nI i))]) hx hb dL_law_179 hl (by decide) rfl (fun ls hl => ?_)
  refine lv_aload_n hx hb dL_law_181 rfl (lv_at hl 4 rfl) ?_
  have ht := c_X6_thrown l D cs ma m2
  rw [show k_X6_thrown m2 = cod [IAE, ISE] x from hcode] at ht
  refine kI_call (wc := md_W cs ma m2) (wr := lo cs oa (if x = none then va_up f 0 r.toInt64 else f) :: ca_W cs ca c2) (w1 := md_W cs ma m2) (r := cod [IAE, ISE] x) hE hP hD hS (k_rV (rest := []) (As := []) hE ho (ht H.size) (cwV 0 hts gL_law_X6_thrown rfl rfl rfl (by decide +kernel) ⟨(Nat.le_of_ble_eq_true rfl), (Nat.le_of_ble_eq_true rfl)⟩) hP hD hS (ci := 6) (q0 := 0) rfl rfl rfl hl rfl (Nat.le_of_ble_eq_true rfl) ⟨by show cells + 1 + 0 + 0 ≤ 601024; omega, by show slots + 6 + 0 + 0 ≤ 7293034; omega⟩ dL_law_182) (fun H locs hP hD hS => ?_)
  have hP : va_P D vwCl (lwW cs ca ma oa c2 m2 (if x = none then va_up f 0 r.toInt64 else f)) H := pmP List.perm_append_comm hP
  have hD : va_D (lwA s) (lwW cs ca ma oa c2 m2 (if x = none then va_up f 0 r.toInt64 else f)) := pmD List.perm_append_comm hD
  refine lv_iload hx hb dL_law_185 (lv_at hl 1 rfl) ?_
  refine lv_icmp_eq (tgt := 192) hx hb dL_law_187 (by decide) (fun c9 => ?_) (fun c9 => absurd rfl c9)
  refine lv_iload hx hb dL_law_192 (lv_at hl 1 rfl) ?_
  refine lv_if_ne (tgt := 209) hx hb dL_law_194 (by decide) (fun c8 => ?_) (fun c8 => ?_)
  · skip
    refine lv_goto (tgt := 1643) hx hb dL_law_209 (by decide) ?_
    refine W.widen (k := cells + 1) (n := slots + 6) (by omega) (by omega) ?_
    exact kk c2 m2 _ H locs ls hT2 hS hP hD (lv_sub hl [2, 3, 4, 5, 6] rfl)
  · have hx0 := cod_0 (L := [IAE, ISE]) (by decide) hLx c8
    have hrr : r = r6 := hans hx0
    refine lv_aload_n hx hb dL_law_197 rfl (lv_at hl 5 rfl) ?_
    refine lv_iconst (v := 0) hx hb dL_law_198 (by decide) ?_
    refine k_lald (n := 1) (v := r6.toInt64) hx hb hK hP 0 4 rfl rfl (vp_in_iff.mpr (by decide)) (by rw [if_pos hx0, hrr]; exact va_eq f 0 r6.toInt64) dL_law_199 ?_
    refine lv_iload hx hb dL_law_200 (lv_at hl 0 rfl) ?_
    refine lv_i2l hx hb dL_law_202 rfl ?_
    refine W.lcmp hx hb dL_law_203 ?_
    refine lv_if_eq (tgt := 209) hx hb dL_law_204 (by decide) (fun c7 => ?_) (fun c7 => absurd ((lg_cmp_eq _ _).mpr rfl) c7)
    refine lv_goto (tgt := 1643) hx hb dL_law_209 (by decide) ?_
    refine W.widen (k := cells + 1) (n := slots + 6) (by omega) (by omega) ?_
    exact kk c2 m2 _ H locs ls hT2 hS hP hD (lv_sub hl [2, 3, 4, 5, 6] rfl)
set_option maxHeartbeats 4000000 in
set_option maxRecDepth 100000 in
theorem law_clearText {p : Program} {l : Launch} {e : Env} {s : State} {m : MethodId} {below : List Frame} {meth : Method} {c : Code} {Q : State → Prop} {D : va_G} {cs : Nat → ClassId} {ca : Nat → Nat → Nat} {ma : Nat → Nat} {oa b L : Nat} {xs : Nat → Int32} {y : MethodName} {rt : Option FieldType} (hfl : l.stackTraces = false) (hE : kE p s m #[Value.ref b] meth c D cs y wsL_law cL_law 7 rt (lwA s)) (ho : RL = y.cls) (hX : XA s) (hXs : va_X b L xs s s.heap) (hbl : b < s.heap.size) (hLb : L ≤ 2048) {i : Nat} (hi : i + 4 ≤ L) {cells slots : Nat} (hc : cells ≤ 600000) (hs : slots ≤ 7000000) {cv : CV} {mv : MV} {f : Nat → Int64} {H : Heap} {locs : List Loc} {ls : Array Slot} (hT : TRel cv mv) (hS : va_S (lwA s) s.heap H locs) (hP : va_P D vwCl (lwW cs ca ma oa cv mv f) H) (hD : va_D (lwA s) (lwW cs ca ma oa cv mv f)) (hl : lv_has ls 7 [(0, .ref b), (1, .ref (ca 0 0)), (2, .ref (ma 0)), (3, .ref oa), (4, .int (nI i))]) (kk : lawK p l e s m below meth c D cs ca ma oa b i (cells + 1) (slots + 6) Q) : W p l e room_1 s m #[Value.ref b] below meth c H locs cells slots Q (F0 m 212 ls []) := by
  obtain ⟨hx, hb, hr, hlocks, hml, hown, hts, hK, hA, hG, hnm⟩ := id hE
  have hown : s.vm.findClass RL = some m.cls := by rw [ho]; exact hown
  have hbA : ¬ lwA s b := Nat.not_le.mpr hbl
  refine lv_aload_n hx hb dL_law_212 rfl (lv_at hl 1 rfl) ?_
  obtain ⟨r, c2, e0⟩ : ∃ r c2, (k_X5_clearText cv) = (r, c2) := ⟨_, _, rfl⟩
  obtain ⟨r6, m2, e6⟩ : ∃ r6 m2, k_X6_clearText mv = (r6, m2) := ⟨_, _, rfl⟩
  obtain ⟨hT2, hans⟩ := T_clear hT
  rw [e0, e6] at hT2 hans
  dsimp only at hT2 hans
  have hw := c_X5_clearText l D cs ca cv hT.2.1
  rw [e0] at hw
  dsimp only at hw
  have hP : va_P D vwCl (ca_W cs ca cv ++ (lo cs oa f :: md_W cs ma mv)) H := pmP List.perm_middle.symm hP
  have hD : va_D (lwA s) (ca_W cs ca cv ++ (lo cs oa f :: md_W cs ma mv)) := pmD List.perm_middle.symm hD
  refine kI_call (wc := ca_W cs ca cv) (wr := lo cs oa f :: md_W cs ma mv) (w1 := ca_W cs ca c2) (r := r) hE hP hD hS (k_rV (rest := []) (As := []) hE ho (hw H.size) (cwV 0 hts gL_law_X5_clearText rfl rfl rfl (by decide +kernel) ⟨(Nat.le_of_ble_eq_true rfl), (Nat.le_of_ble_eq_true rfl)⟩) hP hD hS (ci := 5) (q0 := 0) rfl rfl rfl hl rfl (Nat.le_of_ble_eq_true rfl) ⟨by show cells + 0 ≤ 601024; omega, by show slots + 0 ≤ 7293034; omega⟩ dL_law_213) (fun H locs hP hD hS => ?_)
  refine lv_aload_n hx hb dL_law_216 rfl (lv_at hl 2 rfl) ?_
  have hm := c_X6_clearText l D cs ma mv
  rw [e6] at hm
  dsimp only at hm
  have hP : va_P D vwCl (md_W cs ma mv ++ (lo cs oa f :: ca_W cs ca c2)) H := pmP (List.perm_middle.trans (List.perm_append_comm (l₁ := lo cs oa f :: ca_W cs ca c2) (l₂ := md_W cs ma mv))) hP
  have hD : va_D (lwA s) (md_W cs ma mv ++ (lo cs oa f :: ca_W cs ca c2)) := pmD (List.perm_middle.trans (List.perm_append_comm (l₁ := lo cs oa f :: ca_W cs ca c2) (l₂ := md_W cs ma mv))) hD
  refine kI_call (wc := md_W cs ma mv) (wr := lo cs oa f :: ca_W cs ca c2) (w1 := md_W cs ma m2) (r := r6) hE hP hD hS (k_rV (rest := [.int r]) (As := []) hE ho (hm H.size) (cwV 0 hts gL_law_X6_clearText rfl rfl rfl (by decide +kernel) ⟨(Nat.le_of_ble_eq_true rfl), (Nat.le_of_ble_eq_true rfl)⟩) hP hD hS (ci := 6) (q0 := 0) rfl rfl rfl hl rfl (Nat.le_of_ble_eq_true rfl) ⟨by show cells + 0 + 0 ≤ 601024; omega, by show slots + 0 + 0 ≤ 7293034; omega⟩ dL_law_217) (fun H locs hP hD hS => ?_)
  have hP : va_P D vwCl (lwW cs ca ma oa c2 m2 f) H := pmP List.perm_append_comm hP
  have hD : va_D (lwA s) (lwW cs ca ma oa c2 m2 f) := pmD List.perm_append_comm hD
  refine lv_icmp_eq (tgt := 1643) hx hb dL_law_220 (by decide) (fun c9 => ?_) (fun c9 => absurd hans c9)
  refine W.widen (k := cells + 1) (n := slots + 6) (by omega) (by omega) ?_
  exact kk c2 m2 f H locs ls hT2 hS hP hD (lv_sub hl [0, 1, 2, 3, 4] rfl)
