/-! The law's rounds, case by case. -/
set_option maxHeartbeats 4000000 in
set_option maxRecDepth 100000 in
theorem law_append {p : Program} {l : Launch} {e : Env} {s : State} {m : MethodId} {below : List Frame} {meth : Method} {c : Code} {Q : State → Prop} {D : va_G} {cs : Nat → ClassId} {ca : Nat → Nat → Nat} {ma : Nat → Nat} {oa b L : Nat} {xs : Nat → Int32} {y : MethodName} {rt : Option FieldType} (hfl : l.stackTraces = false) (hE : kE p s m #[Value.ref b] meth c D cs y wsL_law cL_law 7 rt (lwA s)) (ho : RL = y.cls) (hX : XA s) (hXs : va_X b L xs s s.heap) (hbl : b < s.heap.size) (hLb : L ≤ 2048) {i : Nat} (hi : i + 4 ≤ L) {cells slots : Nat} (hc : cells ≤ 600000) (hs : slots ≤ 7000000) {cv : CV} {mv : MV} {f : Nat → Int64} {H : Heap} {locs : List Loc} {ls : Array Slot} (hT : TRel cv mv) (hS : va_S (lwA s) s.heap H locs) (hP : va_P D vwCl (lwW cs ca ma oa cv mv f) H) (hD : va_D (lwA s) (lwW cs ca ma oa cv mv f)) (hl : lv_has ls 7 [(0, .ref b), (1, .ref (ca 0 0)), (2, .ref (ma 0)), (3, .ref oa), (4, .int (nI i))]) (kk : lawK p l e s m below meth c D cs ca ma oa b i (cells + 1) (slots + 6) Q) : W p l e room_1 s m #[Value.ref b] below meth c H locs cells slots Q (F0 m 156 ls []) := by
  obtain ⟨hx, hb, hr, hlocks, hml, hown, hts, hK, hA, hG, hnm⟩ := id hE
  have hown : s.vm.findClass RL = some m.cls := by rw [ho]; exact hown
  have hbA : ¬ lwA s b := Nat.not_le.mpr hbl
  refine lv_aload_n hx hb dL_law_156 rfl (lv_at hl 1 rfl) ?_
  refine lv_aload_n hx hb dL_law_157 rfl (lv_at hl 0 rfl) ?_
  refine lv_iload hx hb dL_law_158 (lv_at hl 4 rfl) ?_
  refine lv_iconst (v := 1) hx hb dL_law_160 (by decide) ?_
  refine lv_iadd hx hb dL_law_161 ?_
  rw [show (nI i + 1 : Int32) = nI (i + 1) from nI_add i 1]
  refine va_sld hx hb hXs hbl hbA hS (vp_in_nI (show i + 1 < L by omega) (by omega)) dL_law_162 ?_
  rw [nI_clamp (show i + 1 < 2 ^ 31 by omega)]
  refine lv_aload_n hx hb dL_law_163 rfl (lv_at hl 3 rfl) ?_
  obtain ⟨x, r, c2, e0⟩ : ∃ x r c2, k_X5_append cv (xs (i + 1)) = (x, r, c2) := ⟨_, _, _, rfl⟩
  obtain ⟨r6, m2, e6⟩ : ∃ r6 m2, k_X6_append mv (xs (i + 1)) = (r6, m2) := ⟨_, _, rfl⟩
  have hAG := T_append hT (xs (i + 1))
  rw [e0, e6] at hAG
  obtain ⟨hT2, hcode, hans, hLx⟩ := hAG
  dsimp only at hT2 hcode hans hLx
  have hw := w_append l hfl D cs ca cv c2 oa f (xs (i + 1)) hT.2.1 x r e0 hLx
  refine kI_call (wc := lo cs oa f :: ca_W cs ca cv) (wr := md_W cs ma mv) (w1 := lo cs oa (if x = none then va_up f 0 r.toInt64 else f) :: ca_W cs ca c2) (r := cod [IAE, ISE] x) hE hP hD hS (k_rL (rest := []) (As := [.ref (ca 0 0), .int (xs (i + 1)), .ref oa]) hE hX ho (hw H.size) (vx_cwSW 3 hts gL_law_L_append rfl rfl rfl (by decide +kernel) ⟨(Nat.le_of_ble_eq_true rfl), (Nat.le_of_ble_eq_true rfl)⟩) hP hD hS rfl hl rfl (Nat.le_of_ble_eq_true rfl) ⟨by show cells + 1 ≤ 601024; omega, by show slots + 6 ≤ 7293034; omega⟩ dL_law_164) (fun H locs hP hD hS => ?_)
  refine lv_istore (lv' := [(5, .int (cod [IAE, ISE] x)), (0, .ref b), (1, .ref (ca 0 0)), (2, .ref (ma 0)), (3, .ref oa), (4, .int (nI i))]) hx hb dL_law_167 hl (by decide) rfl (fun ls hl => ?_)
  refine lv_aload_n hx hb dL_law_169 rfl (lv_at hl 3 rfl) ?_
  refine lv_aload_n hx hb dL_law_170 rfl (lv_at hl 1 rfl) ?_
  refine lv_iload hx hb dL_law_171 (lv_at hl 5 rfl) ?_
  refine lv_iconst (v := 1) hx hb dL_law_173 (by decide) ?_
  refine lv_iadd hx hb dL_law_174 ?_
  rw [show (nI i + 1 : Int32) = nI (i + 1) from nI_add i 1]
  refine va_sld hx hb hXs hbl hbA hS (vp_in_nI (show i + 1 < L by omega) (by omega)) dL_law_175 ?_
  rw [nI_clamp (show i + 1 < 2 ^ 31 by omega)]
  have hm := c_X6_append l D cs ma mv (xs (i + 1)) (TR_MO hT)
  rw [e6] at hm
  dsimp only at hm
  have hP := pmP List.perm_append_comm hP
  have hD := pmD List.perm_append_comm hD
  refine kI_call (wc := md_W cs ma mv) (wr := lo cs oa (if x = none then va_up f 0 r.toInt64 else f) :: ca_W cs ca c2) (w1 := md_W cs ma m2) (r := r6) hE hP hD hS (k_rV (rest := []) (As := [.int (xs (i + 1))]) hE ho (hm H.size) (cwV 1 hts gL_law_X6_append rfl rfl rfl (by decide +kernel) ⟨(Nat.le_of_ble_eq_true rfl), (Nat.le_of_ble_eq_true rfl)⟩) hP hD hS (ci := 6) (q0 := 0) rfl rfl rfl hl rfl (Nat.le_of_ble_eq_true rfl) ⟨by show cells + 1 + 0 ≤ 601024; omega, by show slots + 6 + 0 ≤ 7293034; omega⟩ dL_law_176) (fun H locs hP hD hS => ?_)
  refine lv_istore (lv' := [(6, .int r6), (5, .int (cod [IAE, ISE] x)), (0, .ref b), (1, .ref (ca 0 0)), (2, .ref (ma 0)), (3, .ref oa), (4, .int (nI i))]) hx hb dL_law_179 hl (by decide) rfl (fun ls hl => ?_)
  refine lv_aload_n hx hb dL_law_181 rfl (lv_at hl 4 rfl) ?_
  have ht := c_X6_thrown l D cs ma m2
  rw [show k_X6_thrown m2 = cod [IAE, ISE] x from hcode] at ht
  refine kI_call (wc := md_W cs ma m2) (wr := lo cs oa (if x = none then va_up f 0 r.toInt64 else f) :: ca_W cs ca c2) (w1 := md_W cs ma m2) (r := cod [IAE, ISE] x) hE hP hD hS (k_rV (rest := []) (As := []) hE ho (ht H.size) (cwV 0 hts gL_law_X6_thrown rfl rfl rfl (by decide +kernel) ⟨(Nat.le_of_ble_eq_true rfl), (Nat.le_of_ble_eq_true rfl)⟩) hP hD hS (ci := 6) (q0 := 0) rfl rfl rfl hl rfl (Nat.le_of_ble_eq_true rfl) ⟨by show cells + 1 + 0 + 0 ≤ 601024; omega, by show slots + 6 + 0 + 0 ≤ 7293034; omega⟩ dL_law_182) (fun H locs hP hD hS => ?_)
  have hP : va_P D vwCl (lwW cs ca ma oa c2 m2 (if x = none then va_up f 0 r.toInt64 else f)) H := pmP List.perm_append_comm hP
  have hD : va_D (lwA s) (lwW cs ca ma oa c2 m2 (if x = none then va_up f 0 r.toInt64 else f)) := pmD List.perm_append_comm hD
  refine lv_iload hx hb dL_law_185 (lv_at hl 1 rfl) ?_
  refine lv_icmp_eq (tgt := 192) hx hb dL_law_187 (by decide) (fun c9 => ?_) (fun c9 => absurd rfl c9)
  refine lv_iload hx hb dL_law_192 (lv_at hl 1 rfl) ?_
  refine lv_if_ne (tgt := 209) hx hb dL_law_194 (by decide) (fun c8 => ?_) (fun c8 => ?_)
  · skip
    refine lv_goto (tgt := 1643) hx hb dL_law_209 (by decide) ?_
    refine W.widen (k := cells + 1) (n := slots + 6) (by omega) (by omega) ?_
    exact kk c2 m2 _ H locs ls hT2 hS hP hD (lv_sub hl [2, 3, 4, 5, 6] rfl)
  · have hx0 := cod_0 (L := [IAE, ISE]) (by decide) hLx c8
    have hrr : r = r6 := hans hx0
    refine lv_aload_n hx hb dL_law_197 rfl (lv_at hl 5 rfl) ?_
    refine lv_iconst (v := 0) hx hb dL_law_198 (by decide) ?_
    refine k_lald (n := 1) (v := r6.toInt64) hx hb hK hP 0 4 rfl rfl (vp_in_iff.mpr (by decide)) (by rw [if_pos hx0, hrr]; exact va_eq f 0 r6.toInt64) dL_law_199 ?_
    refine lv_iload hx hb dL_law_200 (lv_at hl 0 rfl) ?_
    refine lv_i2l hx hb dL_law_202 rfl ?_
    refine W.lcmp hx hb dL_law_203 ?_
    refine lv_if_eq (tgt := 209) hx hb dL_law_204 (by decide) (fun c7 => ?_) (fun c7 => absurd ((lg_cmp_eq _ _).mpr rfl) c7)
    refine lv_goto (tgt := 1643) hx hb dL_law_209 (by decide) ?_
    refine W.widen (k := cells + 1) (n := slots + 6) (by omega) (by omega) ?_
    exact kk c2 m2 _ H locs ls hT2 hS hP hD (lv_sub hl [2, 3, 4, 5, 6] rfl)
set_option maxHeartbeats 4000000 in
set_option maxRecDepth 100000 in
theorem law_clearText {p : Program} {l : Launch} {e : Env} {s : State} {m : MethodId} {below : List Frame} {meth : Method} {c : Code} {Q : State → Prop} {D : va_G} {cs : Nat → ClassId} {ca : Nat → Nat → Nat} {ma : Nat → Nat} {oa b L : Nat} {xs : Nat → Int32} {y : MethodName} {rt : Option FieldType} (hfl : l.stackTraces = false) (hE : kE p s m #[Value.ref b] meth c D cs y wsL_law cL_law 7 rt (lwA s)) (ho : RL = y.cls) (hX : XA s) (hXs : va_X b L xs s s.heap) (hbl : b < s.heap.size) (hLb : L ≤ 2048) {i : Nat} (hi : i + 4 ≤ L) {cells slots : Nat} (hc : cells ≤ 600000) (hs : slots ≤ 7000000) {cv : CV} {mv : MV} {f : Nat → Int64} {H : Heap} {locs : List Loc} {ls : Array Slot} (hT : TRel cv mv) (hS : va_S (lwA s) s.heap H locs) (hP : va_P D vwCl (lwW cs ca ma oa cv mv f) H) (hD : va_D (lwA s) (lwW cs ca ma oa cv mv f)) (hl : lv_has ls 7 [(0, .ref b), (1, .ref (ca 0 0)), (2, .ref (ma 0)), (3, .ref oa), (4, .int (nI i))]) (kk : lawK p l e s m below meth c D cs ca ma oa b i (cells + 1) (slots + 6) Q) : W p l e room_1 s m #[Value.ref b] below meth c H locs cells slots Q (F0 m 212 ls []) := by
  obtain ⟨hx, hb, hr, hlocks, hml, hown, hts, hK, hA, hG, hnm⟩ := id hE
  have hown : s.vm.findClass RL = some m.cls := by rw [ho]; exact hown
  have hbA : ¬ lwA s b := Nat.not_le.mpr hbl
  refine lv_aload_n hx hb dL_law_212 rfl (lv_at hl 1 rfl) ?_
  obtain ⟨r, c2, e0⟩ : ∃ r c2, (k_X5_clearText cv) = (r, c2) := ⟨_, _, rfl⟩
  obtain ⟨r6, m2, e6⟩ : ∃ r6 m2, k_X6_clearText mv = (r6, m2) := ⟨_, _, rfl⟩
  obtain ⟨hT2, hans⟩ := T_clear hT
  rw [e0, e6] at hT2 hans
  dsimp only at hT2 hans
  have hw := c_X5_clearText l D cs ca cv hT.2.1
  rw [e0] at hw
  dsimp only at hw
  have hP : va_P D vwCl (ca_W cs ca cv ++ (lo cs oa f :: md_W cs ma mv)) H := pmP List.perm_middle.symm hP
  have hD : va_D (lwA s) (ca_W cs ca cv ++ (lo cs oa f :: md_W cs ma mv)) := pmD List.perm_middle.symm hD
  refine kI_call (wc := ca_W cs ca cv) (wr := lo cs oa f :: md_W cs ma mv) (w1 := ca_W cs ca c2) (r := r) hE hP hD hS (k_rV (rest := []) (As := []) hE ho (hw H.size) (cwV 0 hts gL_law_X5_clearText rfl rfl rfl (by decide +kernel) ⟨(Nat.le_of_ble_eq_true rfl), (Nat.le_of_ble_eq_true rfl)⟩) hP hD hS (ci := 5) (q0 := 0) rfl rfl rfl hl rfl (Nat.le_of_ble_eq_true rfl) ⟨by show cells + 0 ≤ 601024; omega, by show slots + 0 ≤ 7293034; omega⟩ dL_law_213) (fun H locs hP hD hS => ?_)
  refine lv_aload_n hx hb dL_law_216 rfl (lv_at hl 2 rfl) ?_
  have hm := c_X6_clearText l D cs ma mv
  rw [e6] at hm
  dsimp only at hm
  have hP : va_P D vwCl (md_W cs ma mv ++ (lo cs oa f :: ca_W cs ca c2)) H := pmP (List.perm_middle.trans (List.perm_append_comm (l₁ := lo cs oa f :: ca_W cs ca c2) (l₂ := md_W cs ma mv))) hP
  have hD : va_D (lwA s) (md_W cs ma mv ++ (lo cs oa f :: ca_W cs ca c2)) := pmD (List.perm_middle.trans (List.perm_append_comm (l₁ := lo cs oa f :: ca_W cs ca c2) (l₂ := md_W cs ma mv))) hD
  refine kI_call (wc := md_W cs ma mv) (wr := lo cs oa f :: ca_W cs ca c2) (w1 := md_W cs ma m2) (r := r6) hE hP hD hS (k_rV (rest := [.int r]) (As := []) hE ho (hm H.size) (cwV 0 hts gL_law_X6_clearText rfl rfl rfl (by decide +kernel) ⟨(Nat.le_of_ble_eq_true rfl), (Nat.le_of_ble_eq_true rfl)⟩) hP hD hS (ci := 6) (q0 := 0) rfl rfl rfl hl rfl (Nat.le_of_ble_eq_true rfl) ⟨by show cells + 0 + 0 ≤ 601024; omega, by show slots + 0 + 0 ≤ 7293034; omega⟩ dL_law_217) (fun H locs hP hD hS => ?_)
  have hP : va_P D vwCl (lwW cs ca ma oa c2 m2 f) H := pmP List.perm_append_comm hP
  have hD : va_D (lwA s) (lwW cs ca ma oa c2 m2 f) := pmD List.perm_append_comm hD
  refine lv_icmp_eq (tgt := 1643) hx hb dL_law_220 (by decide) (fun c9 => ?_) (fun c9 => absurd hans c9)
  refine W.widen (k := cells + 1) (n := slots + 6) (by omega) (by omega) ?_
  exact kk c2 m2 f H locs ls hT2 hS hP hD (lv_sub hl [0, 1, 2, 3, 4] rfl)
set_option maxHeartbeats 4000000 in
set_option maxRecDepth 100000 in
theorem law_errorPosition {p : Program} {l : Launch} {e : Env} {s : State} {m : MethodId} {below : List Frame} {meth : Method} {c : Code} {Q : State → Prop} {D : va_G} {cs : Nat → ClassId} {ca : Nat → Nat → Nat} {ma : Nat → Nat} {oa b L : Nat} {xs : Nat → Int32} {y : MethodName} {rt : Option FieldType} (hfl : l.stackTraces = false) (hE : kE p s m #[Value.ref b] meth c D cs y wsL_law cL_law 7 rt (lwA s)) (ho : RL = y.cls) (hX : XA s) (hXs : va_X b L xs s s.heap) (hbl : b < s.heap.size) (hLb : L ≤ 2048) {i : Nat} (hi : i + 4 ≤ L) {cells slots : Nat} (hc : cells ≤ 600000) (hs : slots ≤ 7000000) {cv : CV} {mv : MV} {f : Nat → Int64} {H : Heap} {locs : List Loc} {ls : Array Slot} (hT : TRel cv mv) (hS : va_S (lwA s) s.heap H locs) (hP : va_P D vwCl (lwW cs ca ma oa cv mv f) H) (hD : va_D (lwA s) (lwW cs ca ma oa cv mv f)) (hl : lv_has ls 7 [(0, .ref b), (1, .ref (ca 0 0)), (2, .ref (ma 0)), (3, .ref oa), (4, .int (nI i))]) (kk : lawK p l e s m below meth c D cs ca ma oa b i (cells + 1) (slots + 6) Q) : W p l e room_1 s m #[Value.ref b] below meth c H locs cells slots Q (F0 m 225 ls []) := by
  obtain ⟨hx, hb, hr, hlocks, hml, hown, hts, hK, hA, hG, hnm⟩ := id hE
  have hown : s.vm.findClass RL = some m.cls := by rw [ho]; exact hown
  have hbA : ¬ lwA s b := Nat.not_le.mpr hbl
  refine lv_aload_n hx hb dL_law_225 rfl (lv_at hl 1 rfl) ?_
  obtain ⟨r, c2, e0⟩ : ∃ r c2, (k_X5_errorPosition cv) = (r, c2) := ⟨_, _, rfl⟩
  obtain ⟨r6, m2, e6⟩ : ∃ r6 m2, k_X6_errorPosition mv = (r6, m2) := ⟨_, _, rfl⟩
  obtain ⟨hT2, hans⟩ := T_error hT
  rw [e0, e6] at hT2 hans
  dsimp only at hT2 hans
  have hw := c_X5_errorPosition l D cs ca cv hT.2.1
  rw [e0] at hw
  dsimp only at hw
  have hP : va_P D vwCl (ca_W cs ca cv ++ (lo cs oa f :: md_W cs ma mv)) H := pmP List.perm_middle.symm hP
  have hD : va_D (lwA s) (ca_W cs ca cv ++ (lo cs oa f :: md_W cs ma mv)) := pmD List.perm_middle.symm hD
  refine kI_call (wc := ca_W cs ca cv) (wr := lo cs oa f :: md_W cs ma mv) (w1 := ca_W cs ca c2) (r := r) hE hP hD hS (k_rV (rest := []) (As := []) hE ho (hw H.size) (cwV 0 hts gL_law_X5_errorPosition rfl rfl rfl (by decide +kernel) ⟨(Nat.le_of_ble_eq_true rfl), (Nat.le_of_ble_eq_true rfl)⟩) hP hD hS (ci := 5) (q0 := 0) rfl rfl rfl hl rfl (Nat.le_of_ble_eq_true rfl) ⟨by show cells + 0 ≤ 601024; omega, by show slots + 0 ≤ 7293034; omega⟩ dL_law_226) (fun H locs hP hD hS => ?_)
  refine lv_aload_n hx hb dL_law_229 rfl (lv_at hl 2 rfl) ?_
  have hm := c_X6_errorPosition l D cs ma mv (TR_MO hT)
  rw [e6] at hm
  dsimp only at hm
  have hP : va_P D vwCl (md_W cs ma mv ++ (lo cs oa f :: ca_W cs ca c2)) H := pmP (List.perm_middle.trans (List.perm_append_comm (l₁ := lo cs oa f :: ca_W cs ca c2) (l₂ := md_W cs ma mv))) hP
  have hD : va_D (lwA s) (md_W cs ma mv ++ (lo cs oa f :: ca_W cs ca c2)) := pmD (List.perm_middle.trans (List.perm_append_comm (l₁ := lo cs oa f :: ca_W cs ca c2) (l₂ := md_W cs ma mv))) hD
  refine kI_call (wc := md_W cs ma mv) (wr := lo cs oa f :: ca_W cs ca c2) (w1 := md_W cs ma m2) (r := r6) hE hP hD hS (k_rV (rest := [.int r]) (As := []) hE ho (hm H.size) (cwV 0 hts gL_law_X6_errorPosition rfl rfl rfl (by decide +kernel) ⟨(Nat.le_of_ble_eq_true rfl), (Nat.le_of_ble_eq_true rfl)⟩) hP hD hS (ci := 6) (q0 := 0) rfl rfl rfl hl rfl (Nat.le_of_ble_eq_true rfl) ⟨by show cells + 0 + 0 ≤ 601024; omega, by show slots + 0 + 0 ≤ 7293034; omega⟩ dL_law_230) (fun H locs hP hD hS => ?_)
  have hP : va_P D vwCl (lwW cs ca ma oa c2 m2 f) H := pmP List.perm_append_comm hP
  have hD : va_D (lwA s) (lwW cs ca ma oa c2 m2 f) := pmD List.perm_append_comm hD
  refine lv_icmp_eq (tgt := 1643) hx hb dL_law_233 (by decide) (fun c9 => ?_) (fun c9 => absurd hans c9)
  refine W.widen (k := cells + 1) (n := slots + 6) (by omega) (by omega) ?_
  exact kk c2 m2 f H locs ls hT2 hS hP hD (lv_sub hl [0, 1, 2, 3, 4] rfl)
set_option maxHeartbeats 4000000 in
set_option maxRecDepth 100000 in
theorem law_load {p : Program} {l : Launch} {e : Env} {s : State} {m : MethodId} {below : List Frame} {meth : Method} {c : Code} {Q : State → Prop} {D : va_G} {cs : Nat → ClassId} {ca : Nat → Nat → Nat} {ma : Nat → Nat} {oa b L : Nat} {xs : Nat → Int32} {y : MethodName} {rt : Option FieldType} (hfl : l.stackTraces = false) (hE : kE p s m #[Value.ref b] meth c D cs y wsL_law cL_law 7 rt (lwA s)) (ho : RL = y.cls) (hX : XA s) (hXs : va_X b L xs s s.heap) (hbl : b < s.heap.size) (hLb : L ≤ 2048) {i : Nat} (hi : i + 4 ≤ L) {cells slots : Nat} (hc : cells ≤ 600000) (hs : slots ≤ 7000000) {cv : CV} {mv : MV} {f : Nat → Int64} {H : Heap} {locs : List Loc} {ls : Array Slot} (hT : TRel cv mv) (hS : va_S (lwA s) s.heap H locs) (hP : va_P D vwCl (lwW cs ca ma oa cv mv f) H) (hD : va_D (lwA s) (lwW cs ca ma oa cv mv f)) (hl : lv_has ls 7 [(0, .ref b), (1, .ref (ca 0 0)), (2, .ref (ma 0)), (3, .ref oa), (4, .int (nI i))]) (kk : lawK p l e s m below meth c D cs ca ma oa b i (cells + 1) (slots + 6) Q) : W p l e room_1 s m #[Value.ref b] below meth c H locs cells slots Q (F0 m 238 ls []) := by
  obtain ⟨hx, hb, hr, hlocks, hml, hown, hts, hK, hA, hG, hnm⟩ := id hE
  have hown : s.vm.findClass RL = some m.cls := by rw [ho]; exact hown
  have hbA : ¬ lwA s b := Nat.not_le.mpr hbl
  refine lv_aload_n hx hb dL_law_238 rfl (lv_at hl 1 rfl) ?_
  refine lv_aload_n hx hb dL_law_239 rfl (lv_at hl 3 rfl) ?_
  obtain ⟨x, r, c2, e0⟩ : ∃ x r c2, k_X5_load cv  = (x, r, c2) := ⟨_, _, _, rfl⟩
  obtain ⟨r6, m2, e6⟩ : ∃ r6 m2, k_X6_load mv  = (r6, m2) := ⟨_, _, rfl⟩
  have hAG := T_load hT 
  rw [e0, e6] at hAG
  obtain ⟨hT2, hcode, hans, hLx⟩ := hAG
  dsimp only at hT2 hcode hans hLx
  have hw := w_load l hfl D cs ca cv c2 oa f  hT.2.1 x r e0 hLx
  refine kI_call (wc := lo cs oa f :: ca_W cs ca cv) (wr := md_W cs ma mv) (w1 := lo cs oa (if x = none then va_up f 0 r.toInt64 else f) :: ca_W cs ca c2) (r := cod [ISE] x) hE hP hD hS (k_rL (rest := []) (As := [.ref (ca 0 0), .ref oa]) hE hX ho (hw H.size) (vx_cwSW 2 hts gL_law_L_load rfl rfl rfl (by decide +kernel) ⟨(Nat.le_of_ble_eq_true rfl), (Nat.le_of_ble_eq_true rfl)⟩) hP hD hS rfl hl rfl (Nat.le_of_ble_eq_true rfl) ⟨by show cells + 1 ≤ 601024; omega, by show slots + 6 ≤ 7293034; omega⟩ dL_law_240) (fun H locs hP hD hS => ?_)
  refine lv_istore (lv' := [(5, .int (cod [ISE] x)), (0, .ref b), (1, .ref (ca 0 0)), (2, .ref (ma 0)), (3, .ref oa), (4, .int (nI i))]) hx hb dL_law_243 hl (by decide) rfl (fun ls hl => ?_)
  refine lv_aload_n hx hb dL_law_245 rfl (lv_at hl 3 rfl) ?_
  have hm := c_X6_load l D cs ma mv  (TR_MO hT)
  rw [e6] at hm
  dsimp only at hm
  have hP := pmP List.perm_append_comm hP
  have hD := pmD List.perm_append_comm hD
  refine kI_call (wc := md_W cs ma mv) (wr := lo cs oa (if x = none then va_up f 0 r.toInt64 else f) :: ca_W cs ca c2) (w1 := md_W cs ma m2) (r := r6) hE hP hD hS (k_rV (rest := []) (As := []) hE ho (hm H.size) (cwV 0 hts gL_law_X6_load rfl rfl rfl (by decide +kernel) ⟨(Nat.le_of_ble_eq_true rfl), (Nat.le_of_ble_eq_true rfl)⟩) hP hD hS (ci := 6) (q0 := 0) rfl rfl rfl hl rfl (Nat.le_of_ble_eq_true rfl) ⟨by show cells + 1 + 0 ≤ 601024; omega, by show slots + 6 + 0 ≤ 7293034; omega⟩ dL_law_246) (fun H locs hP hD hS => ?_)
  refine lv_istore (lv' := [(6, .int r6), (5, .int (cod [ISE] x)), (0, .ref b), (1, .ref (ca 0 0)), (2, .ref (ma 0)), (3, .ref oa), (4, .int (nI i))]) hx hb dL_law_249 hl (by decide) rfl (fun ls hl => ?_)
  refine lv_aload_n hx hb dL_law_251 rfl (lv_at hl 4 rfl) ?_
  have ht := c_X6_thrown l D cs ma m2
  rw [show k_X6_thrown m2 = cod [ISE] x from hcode] at ht
  refine kI_call (wc := md_W cs ma m2) (wr := lo cs oa (if x = none then va_up f 0 r.toInt64 else f) :: ca_W cs ca c2) (w1 := md_W cs ma m2) (r := cod [ISE] x) hE hP hD hS (k_rV (rest := []) (As := []) hE ho (ht H.size) (cwV 0 hts gL_law_X6_thrown rfl rfl rfl (by decide +kernel) ⟨(Nat.le_of_ble_eq_true rfl), (Nat.le_of_ble_eq_true rfl)⟩) hP hD hS (ci := 6) (q0 := 0) rfl rfl rfl hl rfl (Nat.le_of_ble_eq_true rfl) ⟨by show cells + 1 + 0 + 0 ≤ 601024; omega, by show slots + 6 + 0 + 0 ≤ 7293034; omega⟩ dL_law_252) (fun H locs hP hD hS => ?_)
  have hP : va_P D vwCl (lwW cs ca ma oa c2 m2 (if x = none then va_up f 0 r.toInt64 else f)) H := pmP List.perm_append_comm hP
  have hD : va_D (lwA s) (lwW cs ca ma oa c2 m2 (if x = none then va_up f 0 r.toInt64 else f)) := pmD List.perm_append_comm hD
  refine lv_iload hx hb dL_law_255 (lv_at hl 1 rfl) ?_
  refine lv_icmp_eq (tgt := 262) hx hb dL_law_257 (by decide) (fun c9 => ?_) (fun c9 => absurd rfl c9)
  refine lv_iload hx hb dL_law_262 (lv_at hl 1 rfl) ?_
  refine lv_if_ne (tgt := 279) hx hb dL_law_264 (by decide) (fun c8 => ?_) (fun c8 => ?_)
  · skip
    refine lv_goto (tgt := 1643) hx hb dL_law_279 (by decide) ?_
    refine W.widen (k := cells + 1) (n := slots + 6) (by omega) (by omega) ?_
    exact kk c2 m2 _ H locs ls hT2 hS hP hD (lv_sub hl [2, 3, 4, 5, 6] rfl)
  · have hx0 := cod_0 (L := [ISE]) (by decide) hLx c8
    have hrr : r = r6 := hans hx0
    refine lv_aload_n hx hb dL_law_267 rfl (lv_at hl 5 rfl) ?_
    refine lv_iconst (v := 0) hx hb dL_law_268 (by decide) ?_
    refine k_lald (n := 1) (v := r6.toInt64) hx hb hK hP 0 4 rfl rfl (vp_in_iff.mpr (by decide)) (by rw [if_pos hx0, hrr]; exact va_eq f 0 r6.toInt64) dL_law_269 ?_
    refine lv_iload hx hb dL_law_270 (lv_at hl 0 rfl) ?_
    refine lv_i2l hx hb dL_law_272 rfl ?_
    refine W.lcmp hx hb dL_law_273 ?_
    refine lv_if_eq (tgt := 279) hx hb dL_law_274 (by decide) (fun c7 => ?_) (fun c7 => absurd ((lg_cmp_eq _ _).mpr rfl) c7)
    refine lv_goto (tgt := 1643) hx hb dL_law_279 (by decide) ?_
    refine W.widen (k := cells + 1) (n := slots + 6) (by omega) (by omega) ?_
    exact kk c2 m2 _ H locs ls hT2 hS hP hD (lv_sub hl [2, 3, 4, 5, 6] rfl)
set_option maxHeartbeats 4000000 in
set_option maxRecDepth 100000 in
theorem law_about {p : Program} {l : Launch} {e : Env} {s : State} {m : MethodId} {below : List Frame} {meth : Method} {c : Code} {Q : State → Prop} {D : va_G} {cs : Nat → ClassId} {ca : Nat → Nat → Nat} {ma : Nat → Nat} {oa b L : Nat} {xs : Nat → Int32} {y : MethodName} {rt : Option FieldType} (hfl : l.stackTraces = false) (hE : kE p s m #[Value.ref b] meth c D cs y wsL_law cL_law 7 rt (lwA s)) (ho : RL = y.cls) (hX : XA s) (hXs : va_X b L xs s s.heap) (hbl : b < s.heap.size) (hLb : L ≤ 2048) {i : Nat} (hi : i + 4 ≤ L) {cells slots : Nat} (hc : cells ≤ 600000) (hs : slots ≤ 7000000) {cv : CV} {mv : MV} {f : Nat → Int64} {H : Heap} {locs : List Loc} {ls : Array Slot} (hT : TRel cv mv) (hS : va_S (lwA s) s.heap H locs) (hP : va_P D vwCl (lwW cs ca ma oa cv mv f) H) (hD : va_D (lwA s) (lwW cs ca ma oa cv mv f)) (hl : lv_has ls 7 [(0, .ref b), (1, .ref (ca 0 0)), (2, .ref (ma 0)), (3, .ref oa), (4, .int (nI i))]) (kk : lawK p l e s m below meth c D cs ca ma oa b i (cells + 1) (slots + 6) Q) : W p l e room_1 s m #[Value.ref b] below meth c H locs cells slots Q (F0 m 282 ls []) := by
  obtain ⟨hx, hb, hr, hlocks, hml, hown, hts, hK, hA, hG, hnm⟩ := id hE
  have hown : s.vm.findClass RL = some m.cls := by rw [ho]; exact hown
  have hbA : ¬ lwA s b := Nat.not_le.mpr hbl
  refine lv_aload_n hx hb dL_law_282 rfl (lv_at hl 1 rfl) ?_
  refine lv_aload_n hx hb dL_law_283 rfl (lv_at hl 0 rfl) ?_
  refine lv_iload hx hb dL_law_284 (lv_at hl 4 rfl) ?_
  refine lv_iconst (v := 1) hx hb dL_law_286 (by decide) ?_
  refine lv_iadd hx hb dL_law_287 ?_
  rw [show (nI i + 1 : Int32) = nI (i + 1) from nI_add i 1]
  refine va_sld hx hb hXs hbl hbA hS (vp_in_nI (show i + 1 < L by omega) (by omega)) dL_law_288 ?_
  rw [nI_clamp (show i + 1 < 2 ^ 31 by omega)]
  refine lv_aload_n hx hb dL_law_289 rfl (lv_at hl 3 rfl) ?_
  obtain ⟨x, r, c2, e0⟩ : ∃ x r c2, k_X5_about cv (xs (i + 1)) = (x, r, c2) := ⟨_, _, _, rfl⟩
  obtain ⟨r6, m2, e6⟩ : ∃ r6 m2, k_X6_about mv (xs (i + 1)) = (r6, m2) := ⟨_, _, rfl⟩
  have hAG := T_about hT (xs (i + 1))
  rw [e0, e6] at hAG
  obtain ⟨hT2, hcode, hans, hLx⟩ := hAG
  dsimp only at hT2 hcode hans hLx
  have hw := w_about l hfl D cs ca cv c2 oa f (xs (i + 1)) hT.2.1 x r e0 hLx
  refine kI_call (wc := lo cs oa f :: ca_W cs ca cv) (wr := md_W cs ma mv) (w1 := lo cs oa (if x = none then va_up f 0 r.toInt64 else f) :: ca_W cs ca c2) (r := cod [IAE] x) hE hP hD hS (k_rL (rest := []) (As := [.ref (ca 0 0), .int (xs (i + 1)), .ref oa]) hE hX ho (hw H.size) (vx_cwSW 3 hts gL_law_L_about rfl rfl rfl (by decide +kernel) ⟨(Nat.le_of_ble_eq_true rfl), (Nat.le_of_ble_eq_true rfl)⟩) hP hD hS rfl hl rfl (Nat.le_of_ble_eq_true rfl) ⟨by show cells + 1 ≤ 601024; omega, by show slots + 6 ≤ 7293034; omega⟩ dL_law_290) (fun H locs hP hD hS => ?_)
  refine lv_istore (lv' := [(5, .int (cod [IAE] x)), (0, .ref b), (1, .ref (ca 0 0)), (2, .ref (ma 0)), (3, .ref oa), (4, .int (nI i))]) hx hb dL_law_293 hl (by decide) rfl (fun ls hl => ?_)
  refine lv_aload_n hx hb dL_law_295 rfl (lv_at hl 3 rfl) ?_
  refine lv_aload_n hx hb dL_law_296 rfl (lv_at hl 1 rfl) ?_
  refine lv_iload hx hb dL_law_297 (lv_at hl 5 rfl) ?_
  refine lv_iconst (v := 1) hx hb dL_law_299 (by decide) ?_
  refine lv_iadd hx hb dL_law_300 ?_
  rw [show (nI i + 1 : Int32) = nI (i + 1) from nI_add i 1]
  refine va_sld hx hb hXs hbl hbA hS (vp_in_nI (show i + 1 < L by omega) (by omega)) dL_law_301 ?_
  rw [nI_clamp (show i + 1 < 2 ^ 31 by omega)]
  have hm := c_X6_about l D cs ma mv (xs (i + 1)) (TR_MO hT)
  rw [e6] at hm
  dsimp only at hm
  have hP := pmP List.perm_append_comm hP
  have hD := pmD List.perm_append_comm hD
  refine kI_call (wc := md_W cs ma mv) (wr := lo cs oa (if x = none then va_up f 0 r.toInt64 else f) :: ca_W cs ca c2) (w1 := md_W cs ma m2) (r := r6) hE hP hD hS (k_rV (rest := []) (As := [.int (xs (i + 1))]) hE ho (hm H.size) (cwV 1 hts gL_law_X6_about rfl rfl rfl (by decide +kernel) ⟨(Nat.le_of_ble_eq_true rfl), (Nat.le_of_ble_eq_true rfl)⟩) hP hD hS (ci := 6) (q0 := 0) rfl rfl rfl hl rfl (Nat.le_of_ble_eq_true rfl) ⟨by show cells + 1 + 0 ≤ 601024; omega, by show slots + 6 + 0 ≤ 7293034; omega⟩ dL_law_302) (fun H locs hP hD hS => ?_)
  refine lv_istore (lv' := [(6, .int r6), (5, .int (cod [IAE] x)), (0, .ref b), (1, .ref (ca 0 0)), (2, .ref (ma 0)), (3, .ref oa), (4, .int (nI i))]) hx hb dL_law_305 hl (by decide) rfl (fun ls hl => ?_)
  refine lv_aload_n hx hb dL_law_307 rfl (lv_at hl 4 rfl) ?_
  have ht := c_X6_thrown l D cs ma m2
  rw [show k_X6_thrown m2 = cod [IAE] x from hcode] at ht
  refine kI_call (wc := md_W cs ma m2) (wr := lo cs oa (if x = none then va_up f 0 r.toInt64 else f) :: ca_W cs ca c2) (w1 := md_W cs ma m2) (r := cod [IAE] x) hE hP hD hS (k_rV (rest := []) (As := []) hE ho (ht H.size) (cwV 0 hts gL_law_X6_thrown rfl rfl rfl (by decide +kernel) ⟨(Nat.le_of_ble_eq_true rfl), (Nat.le_of_ble_eq_true rfl)⟩) hP hD hS (ci := 6) (q0 := 0) rfl rfl rfl hl rfl (Nat.le_of_ble_eq_true rfl) ⟨by show cells + 1 + 0 + 0 ≤ 601024; omega, by show slots + 6 + 0 + 0 ≤ 7293034; omega⟩ dL_law_308) (fun H locs hP hD hS => ?_)
  have hP : va_P D vwCl (lwW cs ca ma oa c2 m2 (if x = none then va_up f 0 r.toInt64 else f)) H := pmP List.perm_append_comm hP
  have hD : va_D (lwA s) (lwW cs ca ma oa c2 m2 (if x = none then va_up f 0 r.toInt64 else f)) := pmD List.perm_append_comm hD
  refine lv_iload hx hb dL_law_311 (lv_at hl 1 rfl) ?_
  refine lv_icmp_eq (tgt := 318) hx hb dL_law_313 (by decide) (fun c9 => ?_) (fun c9 => absurd rfl c9)
  refine lv_iload hx hb dL_law_318 (lv_at hl 1 rfl) ?_
  refine lv_if_ne (tgt := 335) hx hb dL_law_320 (by decide) (fun c8 => ?_) (fun c8 => ?_)
  · skip
    refine lv_goto (tgt := 1643) hx hb dL_law_335 (by decide) ?_
    refine W.widen (k := cells + 1) (n := slots + 6) (by omega) (by omega) ?_
    exact kk c2 m2 _ H locs ls hT2 hS hP hD (lv_sub hl [2, 3, 4, 5, 6] rfl)
  · have hx0 := cod_0 (L := [IAE]) (by decide) hLx c8
    have hrr : r = r6 := hans hx0
    refine lv_aload_n hx hb dL_law_323 rfl (lv_at hl 5 rfl) ?_
    refine lv_iconst (v := 0) hx hb dL_law_324 (by decide) ?_
    refine k_lald (n := 1) (v := r6.toInt64) hx hb hK hP 0 4 rfl rfl (vp_in_iff.mpr (by decide)) (by rw [if_pos hx0, hrr]; exact va_eq f 0 r6.toInt64) dL_law_325 ?_
    refine lv_iload hx hb dL_law_326 (lv_at hl 0 rfl) ?_
    refine lv_i2l hx hb dL_law_328 rfl ?_
    refine W.lcmp hx hb dL_law_329 ?_
    refine lv_if_eq (tgt := 335) hx hb dL_law_330 (by decide) (fun c7 => ?_) (fun c7 => absurd ((lg_cmp_eq _ _).mpr rfl) c7)
    refine lv_goto (tgt := 1643) hx hb dL_law_335 (by decide) ?_
    refine W.widen (k := cells + 1) (n := slots + 6) (by omega) (by omega) ?_
    exact kk c2 m2 _ H locs ls hT2 hS hP hD (lv_sub hl [2, 3, 4, 5, 6] rfl)
set_option maxHeartbeats 4000000 in
set_option maxRecDepth 100000 in
theorem law_pegOf {p : Program} {l : Launch} {e : Env} {s : State} {m : MethodId} {below : List Frame} {meth : Method} {c : Code} {Q : State → Prop} {D : va_G} {cs : Nat → ClassId} {ca : Nat → Nat → Nat} {ma : Nat → Nat} {oa b L : Nat} {xs : Nat → Int32} {y : MethodName} {rt : Option FieldType} (hfl : l.stackTraces = false) (hE : kE p s m #[Value.ref b] meth c D cs y wsL_law cL_law 7 rt (lwA s)) (ho : RL = y.cls) (hX : XA s) (hXs : va_X b L xs s s.heap) (hbl : b < s.heap.size) (hLb : L ≤ 2048) {i : Nat} (hi : i + 4 ≤ L) {cells slots : Nat} (hc : cells ≤ 600000) (hs : slots ≤ 7000000) {cv : CV} {mv : MV} {f : Nat → Int64} {H : Heap} {locs : List Loc} {ls : Array Slot} (hT : TRel cv mv) (hS : va_S (lwA s) s.heap H locs) (hP : va_P D vwCl (lwW cs ca ma oa cv mv f) H) (hD : va_D (lwA s) (lwW cs ca ma oa cv mv f)) (hl : lv_has ls 7 [(0, .ref b), (1, .ref (ca 0 0)), (2, .ref (ma 0)), (3, .ref oa), (4, .int (nI i))]) (kk : lawK p l e s m below meth c D cs ca ma oa b i (cells + 1) (slots + 6) Q) : W p l e room_1 s m #[Value.ref b] below meth c H locs cells slots Q (F0 m 338 ls []) := by
  obtain ⟨hx, hb, hr, hlocks, hml, hown, hts, hK, hA, hG, hnm⟩ := id hE
  have hown : s.vm.findClass RL = some m.cls := by rw [ho]; exact hown
  have hbA : ¬ lwA s b := Nat.not_le.mpr hbl
  refine lv_aload_n hx hb dL_law_338 rfl (lv_at hl 1 rfl) ?_
  refine lv_aload_n hx hb dL_law_339 rfl (lv_at hl 0 rfl) ?_
  refine lv_iload hx hb dL_law_340 (lv_at hl 4 rfl) ?_
  refine lv_iconst (v := 1) hx hb dL_law_342 (by decide) ?_
  refine lv_iadd hx hb dL_law_343 ?_
  rw [show (nI i + 1 : Int32) = nI (i + 1) from nI_add i 1]
  refine va_sld hx hb hXs hbl hbA hS (vp_in_nI (show i + 1 < L by omega) (by omega)) dL_law_344 ?_
  rw [nI_clamp (show i + 1 < 2 ^ 31 by omega)]
  refine lv_aload_n hx hb dL_law_345 rfl (lv_at hl 0 rfl) ?_
  refine lv_iload hx hb dL_law_346 (lv_at hl 4 rfl) ?_
  refine lv_iconst (v := 2) hx hb dL_law_348 (by decide) ?_
  refine lv_iadd hx hb dL_law_349 ?_
  rw [show (nI i + 2 : Int32) = nI (i + 2) from nI_add i 2]
  refine va_sld hx hb hXs hbl hbA hS (vp_in_nI (show i + 2 < L by omega) (by omega)) dL_law_350 ?_
  rw [nI_clamp (show i + 2 < 2 ^ 31 by omega)]
  refine lv_aload_n hx hb dL_law_351 rfl (lv_at hl 3 rfl) ?_
  obtain ⟨x, r, c2, e0⟩ : ∃ x r c2, k_X5_pegOf cv (xs (i + 1)) (xs (i + 2)) = (x, r, c2) := ⟨_, _, _, rfl⟩
  obtain ⟨r6, m2, e6⟩ : ∃ r6 m2, k_X6_pegOf mv (xs (i + 1)) (xs (i + 2)) = (r6, m2) := ⟨_, _, rfl⟩
  have hAG := T_peg hT (xs (i + 1)) (xs (i + 2))
  rw [e0, e6] at hAG
  obtain ⟨hT2, hcode, hans, hLx⟩ := hAG
  dsimp only at hT2 hcode hans hLx
  have hw := w_pegOf l hfl D cs ca cv c2 oa f (xs (i + 1)) (xs (i + 2)) hT.2.1 x r e0 hLx
  refine kI_call (wc := lo cs oa f :: ca_W cs ca cv) (wr := md_W cs ma mv) (w1 := lo cs oa (if x = none then va_up f 0 r.toInt64 else f) :: ca_W cs ca c2) (r := cod [IOB, IAE] x) hE hP hD hS (k_rL (rest := []) (As := [.ref (ca 0 0), .int (xs (i + 1)), .int (xs (i + 2)), .ref oa]) hE hX ho (hw H.size) (vx_cwSW 4 hts gL_law_L_pegOf rfl rfl rfl (by decide +kernel) ⟨(Nat.le_of_ble_eq_true rfl), (Nat.le_of_ble_eq_true rfl)⟩) hP hD hS rfl hl rfl (Nat.le_of_ble_eq_true rfl) ⟨by show cells + 1 ≤ 601024; omega, by show slots + 6 ≤ 7293034; omega⟩ dL_law_352) (fun H locs hP hD hS => ?_)
  refine lv_istore (lv' := [(5, .int (cod [IOB, IAE] x)), (0, .ref b), (1, .ref (ca 0 0)), (2, .ref (ma 0)), (3, .ref oa), (4, .int (nI i))]) hx hb dL_law_355 hl (by decide) rfl (fun ls hl => ?_)
  refine lv_aload_n hx hb dL_law_357 rfl (lv_at hl 3 rfl) ?_
  refine lv_aload_n hx hb dL_law_358 rfl (lv_at hl 1 rfl) ?_
  refine lv_iload hx hb dL_law_359 (lv_at hl 5 rfl) ?_
  refine lv_iconst (v := 1) hx hb dL_law_361 (by decide) ?_
  refine lv_iadd hx hb dL_law_362 ?_
  rw [show (nI i + 1 : Int32) = nI (i + 1) from nI_add i 1]
  refine va_sld hx hb hXs hbl hbA hS (vp_in_nI (show i + 1 < L by omega) (by omega)) dL_law_363 ?_
  rw [nI_clamp (show i + 1 < 2 ^ 31 by omega)]
  refine lv_aload_n hx hb dL_law_364 rfl (lv_at hl 1 rfl) ?_
  refine lv_iload hx hb dL_law_365 (lv_at hl 5 rfl) ?_
  refine lv_iconst (v := 2) hx hb dL_law_367 (by decide) ?_
  refine lv_iadd hx hb dL_law_368 ?_
  rw [show (nI i + 2 : Int32) = nI (i + 2) from nI_add i 2]
  refine va_sld hx hb hXs hbl hbA hS (vp_in_nI (show i + 2 < L by omega) (by omega)) dL_law_369 ?_
  rw [nI_clamp (show i + 2 < 2 ^ 31 by omega)]
  have hm := c_X6_pegOf l D cs ma mv (xs (i + 1)) (xs (i + 2)) (TR_MO hT)
  rw [e6] at hm
  dsimp only at hm
  have hP := pmP List.perm_append_comm hP
  have hD := pmD List.perm_append_comm hD
  refine kI_call (wc := md_W cs ma mv) (wr := lo cs oa (if x = none then va_up f 0 r.toInt64 else f) :: ca_W cs ca c2) (w1 := md_W cs ma m2) (r := r6) hE hP hD hS (k_rV (rest := []) (As := [.int (xs (i + 1)), .int (xs (i + 2))]) hE ho (hm H.size) (cwV 2 hts gL_law_X6_pegOf rfl rfl rfl (by decide +kernel) ⟨(Nat.le_of_ble_eq_true rfl), (Nat.le_of_ble_eq_true rfl)⟩) hP hD hS (ci := 6) (q0 := 0) rfl rfl rfl hl rfl (Nat.le_of_ble_eq_true rfl) ⟨by show cells + 1 + 0 ≤ 601024; omega, by show slots + 6 + 0 ≤ 7293034; omega⟩ dL_law_370) (fun H locs hP hD hS => ?_)
  refine lv_istore (lv' := [(6, .int r6), (5, .int (cod [IOB, IAE] x)), (0, .ref b), (1, .ref (ca 0 0)), (2, .ref (ma 0)), (3, .ref oa), (4, .int (nI i))]) hx hb dL_law_373 hl (by decide) rfl (fun ls hl => ?_)
  refine lv_aload_n hx hb dL_law_375 rfl (lv_at hl 4 rfl) ?_
  have ht := c_X6_thrown l D cs ma m2
  rw [show k_X6_thrown m2 = cod [IOB, IAE] x from hcode] at ht
  refine kI_call (wc := md_W cs ma m2) (wr := lo cs oa (if x = none then va_up f 0 r.toInt64 else f) :: ca_W cs ca c2) (w1 := md_W cs ma m2) (r := cod [IOB, IAE] x) hE hP hD hS (k_rV (rest := []) (As := []) hE ho (ht H.size) (cwV 0 hts gL_law_X6_thrown rfl rfl rfl (by decide +kernel) ⟨(Nat.le_of_ble_eq_true rfl), (Nat.le_of_ble_eq_true rfl)⟩) hP hD hS (ci := 6) (q0 := 0) rfl rfl rfl hl rfl (Nat.le_of_ble_eq_true rfl) ⟨by show cells + 1 + 0 + 0 ≤ 601024; omega, by show slots + 6 + 0 + 0 ≤ 7293034; omega⟩ dL_law_376) (fun H locs hP hD hS => ?_)
  have hP : va_P D vwCl (lwW cs ca ma oa c2 m2 (if x = none then va_up f 0 r.toInt64 else f)) H := pmP List.perm_append_comm hP
  have hD : va_D (lwA s) (lwW cs ca ma oa c2 m2 (if x = none then va_up f 0 r.toInt64 else f)) := pmD List.perm_append_comm hD
  refine lv_iload hx hb dL_law_379 (lv_at hl 1 rfl) ?_
  refine lv_icmp_eq (tgt := 386) hx hb dL_law_381 (by decide) (fun c9 => ?_) (fun c9 => absurd rfl c9)
  refine lv_iload hx hb dL_law_386 (lv_at hl 1 rfl) ?_
  refine lv_if_ne (tgt := 403) hx hb dL_law_388 (by decide) (fun c8 => ?_) (fun c8 => ?_)
  · skip
    refine lv_goto (tgt := 1643) hx hb dL_law_403 (by decide) ?_
    refine W.widen (k := cells + 1) (n := slots + 6) (by omega) (by omega) ?_
    exact kk c2 m2 _ H locs ls hT2 hS hP hD (lv_sub hl [2, 3, 4, 5, 6] rfl)
  · have hx0 := cod_0 (L := [IOB, IAE]) (by decide) hLx c8
    have hrr : r = r6 := hans hx0
    refine lv_aload_n hx hb dL_law_391 rfl (lv_at hl 5 rfl) ?_
    refine lv_iconst (v := 0) hx hb dL_law_392 (by decide) ?_
    refine k_lald (n := 1) (v := r6.toInt64) hx hb hK hP 0 4 rfl rfl (vp_in_iff.mpr (by decide)) (by rw [if_pos hx0, hrr]; exact va_eq f 0 r6.toInt64) dL_law_393 ?_
    refine lv_iload hx hb dL_law_394 (lv_at hl 0 rfl) ?_
    refine lv_i2l hx hb dL_law_396 rfl ?_
    refine W.lcmp hx hb dL_law_397 ?_
    refine lv_if_eq (tgt := 403) hx hb dL_law_398 (by decide) (fun c7 => ?_) (fun c7 => absurd ((lg_cmp_eq _ _).mpr rfl) c7)
    refine lv_goto (tgt := 1643) hx hb dL_law_403 (by decide) ?_
    refine W.widen (k := cells + 1) (n := slots + 6) (by omega) (by omega) ?_
    exact kk c2 m2 _ H locs ls hT2 hS hP hD (lv_sub hl [2, 3, 4, 5, 6] rfl)
set_option maxHeartbeats 4000000 in
set_option maxRecDepth 100000 in
theorem law_orderOf {p : Program} {l : Launch} {e : Env} {s : State} {m : MethodId} {below : List Frame} {meth : Method} {c : Code} {Q : State → Prop} {D : va_G} {cs : Nat → ClassId} {ca : Nat → Nat → Nat} {ma : Nat → Nat} {oa b L : Nat} {xs : Nat → Int32} {y : MethodName} {rt : Option FieldType} (hfl : l.stackTraces = false) (hE : kE p s m #[Value.ref b] meth c D cs y wsL_law cL_law 7 rt (lwA s)) (ho : RL = y.cls) (hX : XA s) (hXs : va_X b L xs s s.heap) (hbl : b < s.heap.size) (hLb : L ≤ 2048) {i : Nat} (hi : i + 4 ≤ L) {cells slots : Nat} (hc : cells ≤ 600000) (hs : slots ≤ 7000000) {cv : CV} {mv : MV} {f : Nat → Int64} {H : Heap} {locs : List Loc} {ls : Array Slot} (hT : TRel cv mv) (hS : va_S (lwA s) s.heap H locs) (hP : va_P D vwCl (lwW cs ca ma oa cv mv f) H) (hD : va_D (lwA s) (lwW cs ca ma oa cv mv f)) (hl : lv_has ls 7 [(0, .ref b), (1, .ref (ca 0 0)), (2, .ref (ma 0)), (3, .ref oa), (4, .int (nI i))]) (kk : lawK p l e s m below meth c D cs ca ma oa b i (cells + 1) (slots + 6) Q) : W p l e room_1 s m #[Value.ref b] below meth c H locs cells slots Q (F0 m 406 ls []) := by
  obtain ⟨hx, hb, hr, hlocks, hml, hown, hts, hK, hA, hG, hnm⟩ := id hE
  have hown : s.vm.findClass RL = some m.cls := by rw [ho]; exact hown
  have hbA : ¬ lwA s b := Nat.not_le.mpr hbl
  refine lv_aload_n hx hb dL_law_406 rfl (lv_at hl 1 rfl) ?_
  refine lv_aload_n hx hb dL_law_407 rfl (lv_at hl 0 rfl) ?_
  refine lv_iload hx hb dL_law_408 (lv_at hl 4 rfl) ?_
  refine lv_iconst (v := 1) hx hb dL_law_410 (by decide) ?_
  refine lv_iadd hx hb dL_law_411 ?_
  rw [show (nI i + 1 : Int32) = nI (i + 1) from nI_add i 1]
  refine va_sld hx hb hXs hbl hbA hS (vp_in_nI (show i + 1 < L by omega) (by omega)) dL_law_412 ?_
  rw [nI_clamp (show i + 1 < 2 ^ 31 by omega)]
  refine lv_aload_n hx hb dL_law_413 rfl (lv_at hl 0 rfl) ?_
  refine lv_iload hx hb dL_law_414 (lv_at hl 4 rfl) ?_
  refine lv_iconst (v := 2) hx hb dL_law_416 (by decide) ?_
  refine lv_iadd hx hb dL_law_417 ?_
  rw [show (nI i + 2 : Int32) = nI (i + 2) from nI_add i 2]
  refine va_sld hx hb hXs hbl hbA hS (vp_in_nI (show i + 2 < L by omega) (by omega)) dL_law_418 ?_
  rw [nI_clamp (show i + 2 < 2 ^ 31 by omega)]
  refine lv_aload_n hx hb dL_law_419 rfl (lv_at hl 3 rfl) ?_
  obtain ⟨x, r, c2, e0⟩ : ∃ x r c2, k_X5_orderOf cv (xs (i + 1)) (xs (i + 2)) = (x, r, c2) := ⟨_, _, _, rfl⟩
  obtain ⟨r6, m2, e6⟩ : ∃ r6 m2, k_X6_orderOf mv (xs (i + 1)) (xs (i + 2)) = (r6, m2) := ⟨_, _, rfl⟩
  have hAG := T_order hT (xs (i + 1)) (xs (i + 2))
  rw [e0, e6] at hAG
  obtain ⟨hT2, hcode, hans, hLx⟩ := hAG
  dsimp only at hT2 hcode hans hLx
  have hw := w_orderOf l hfl D cs ca cv c2 oa f (xs (i + 1)) (xs (i + 2)) hT.2.1 x r e0 hLx
  refine kI_call (wc := lo cs oa f :: ca_W cs ca cv) (wr := md_W cs ma mv) (w1 := lo cs oa (if x = none then va_up f 0 r.toInt64 else f) :: ca_W cs ca c2) (r := cod [IOB, IAE] x) hE hP hD hS (k_rL (rest := []) (As := [.ref (ca 0 0), .int (xs (i + 1)), .int (xs (i + 2)), .ref oa]) hE hX ho (hw H.size) (vx_cwSW 4 hts gL_law_L_orderOf rfl rfl rfl (by decide +kernel) ⟨(Nat.le_of_ble_eq_true rfl), (Nat.le_of_ble_eq_true rfl)⟩) hP hD hS rfl hl rfl (Nat.le_of_ble_eq_true rfl) ⟨by show cells + 1 ≤ 601024; omega, by show slots + 6 ≤ 7293034; omega⟩ dL_law_420) (fun H locs hP hD hS => ?_)
  refine lv_istore (lv' := [(5, .int (cod [IOB, IAE] x)), (0, .ref b), (1, .ref (ca 0 0)), (2, .ref (ma 0)), (3, .ref oa), (4, .int (nI i))]) hx hb dL_law_423 hl (by decide) rfl (fun ls hl => ?_)
  refine lv_aload_n hx hb dL_law_425 rfl (lv_at hl 3 rfl) ?_
  refine lv_aload_n hx hb dL_law_426 rfl (lv_at hl 1 rfl) ?_
  refine lv_iload hx hb dL_law_427 (lv_at hl 5 rfl) ?_
  refine lv_iconst (v := 1) hx hb dL_law_429 (by decide) ?_
  refine lv_iadd hx hb dL_law_430 ?_
  rw [show (nI i + 1 : Int32) = nI (i + 1) from nI_add i 1]
  refine va_sld hx hb hXs hbl hbA hS (vp_in_nI (show i + 1 < L by omega) (by omega)) dL_law_431 ?_
  rw [nI_clamp (show i + 1 < 2 ^ 31 by omega)]
  refine lv_aload_n hx hb dL_law_432 rfl (lv_at hl 1 rfl) ?_
  refine lv_iload hx hb dL_law_433 (lv_at hl 5 rfl) ?_
  refine lv_iconst (v := 2) hx hb dL_law_435 (by decide) ?_
  refine lv_iadd hx hb dL_law_436 ?_
  rw [show (nI i + 2 : Int32) = nI (i + 2) from nI_add i 2]
  refine va_sld hx hb hXs hbl hbA hS (vp_in_nI (show i + 2 < L by omega) (by omega)) dL_law_437 ?_
  rw [nI_clamp (show i + 2 < 2 ^ 31 by omega)]
  have hm := c_X6_orderOf l D cs ma mv (xs (i + 1)) (xs (i + 2)) (TR_MO hT)
  rw [e6] at hm
  dsimp only at hm
  have hP := pmP List.perm_append_comm hP
  have hD := pmD List.perm_append_comm hD
  refine kI_call (wc := md_W cs ma mv) (wr := lo cs oa (if x = none then va_up f 0 r.toInt64 else f) :: ca_W cs ca c2) (w1 := md_W cs ma m2) (r := r6) hE hP hD hS (k_rV (rest := []) (As := [.int (xs (i + 1)), .int (xs (i + 2))]) hE ho (hm H.size) (cwV 2 hts gL_law_X6_orderOf rfl rfl rfl (by decide +kernel) ⟨(Nat.le_of_ble_eq_true rfl), (Nat.le_of_ble_eq_true rfl)⟩) hP hD hS (ci := 6) (q0 := 0) rfl rfl rfl hl rfl (Nat.le_of_ble_eq_true rfl) ⟨by show cells + 1 + 0 ≤ 601024; omega, by show slots + 6 + 0 ≤ 7293034; omega⟩ dL_law_438) (fun H locs hP hD hS => ?_)
  refine lv_istore (lv' := [(6, .int r6), (5, .int (cod [IOB, IAE] x)), (0, .ref b), (1, .ref (ca 0 0)), (2, .ref (ma 0)), (3, .ref oa), (4, .int (nI i))]) hx hb dL_law_441 hl (by decide) rfl (fun ls hl => ?_)
  refine lv_aload_n hx hb dL_law_443 rfl (lv_at hl 4 rfl) ?_
  have ht := c_X6_thrown l D cs ma m2
  rw [show k_X6_thrown m2 = cod [IOB, IAE] x from hcode] at ht
  refine kI_call (wc := md_W cs ma m2) (wr := lo cs oa (if x = none then va_up f 0 r.toInt64 else f) :: ca_W cs ca c2) (w1 := md_W cs ma m2) (r := cod [IOB, IAE] x) hE hP hD hS (k_rV (rest := []) (As := []) hE ho (ht H.size) (cwV 0 hts gL_law_X6_thrown rfl rfl rfl (by decide +kernel) ⟨(Nat.le_of_ble_eq_true rfl), (Nat.le_of_ble_eq_true rfl)⟩) hP hD hS (ci := 6) (q0 := 0) rfl rfl rfl hl rfl (Nat.le_of_ble_eq_true rfl) ⟨by show cells + 1 + 0 + 0 ≤ 601024; omega, by show slots + 6 + 0 + 0 ≤ 7293034; omega⟩ dL_law_444) (fun H locs hP hD hS => ?_)
  have hP : va_P D vwCl (lwW cs ca ma oa c2 m2 (if x = none then va_up f 0 r.toInt64 else f)) H := pmP List.perm_append_comm hP
  have hD : va_D (lwA s) (lwW cs ca ma oa c2 m2 (if x = none then va_up f 0 r.toInt64 else f)) := pmD List.perm_append_comm hD
  refine lv_iload hx hb dL_law_447 (lv_at hl 1 rfl) ?_
  refine lv_icmp_eq (tgt := 454) hx hb dL_law_449 (by decide) (fun c9 => ?_) (fun c9 => absurd rfl c9)
  refine lv_iload hx hb dL_law_454 (lv_at hl 1 rfl) ?_
  refine lv_if_ne (tgt := 471) hx hb dL_law_456 (by decide) (fun c8 => ?_) (fun c8 => ?_)
  · skip
    refine lv_goto (tgt := 1643) hx hb dL_law_471 (by decide) ?_
    refine W.widen (k := cells + 1) (n := slots + 6) (by omega) (by omega) ?_
    exact kk c2 m2 _ H locs ls hT2 hS hP hD (lv_sub hl [2, 3, 4, 5, 6] rfl)
  · have hx0 := cod_0 (L := [IOB, IAE]) (by decide) hLx c8
    have hrr : r = r6 := hans hx0
    refine lv_aload_n hx hb dL_law_459 rfl (lv_at hl 5 rfl) ?_
    refine lv_iconst (v := 0) hx hb dL_law_460 (by decide) ?_
    refine k_lald (n := 1) (v := r6.toInt64) hx hb hK hP 0 4 rfl rfl (vp_in_iff.mpr (by decide)) (by rw [if_pos hx0, hrr]; exact va_eq f 0 r6.toInt64) dL_law_461 ?_
    refine lv_iload hx hb dL_law_462 (lv_at hl 0 rfl) ?_
    refine lv_i2l hx hb dL_law_464 rfl ?_
    refine W.lcmp hx hb dL_law_465 ?_
    refine lv_if_eq (tgt := 471) hx hb dL_law_466 (by decide) (fun c7 => ?_) (fun c7 => absurd ((lg_cmp_eq _ _).mpr rfl) c7)
    refine lv_goto (tgt := 1643) hx hb dL_law_471 (by decide) ?_
    refine W.widen (k := cells + 1) (n := slots + 6) (by omega) (by omega) ?_
    exact kk c2 m2 _ H locs ls hT2 hS hP hD (lv_sub hl [2, 3, 4, 5, 6] rfl)
set_option maxHeartbeats 4000000 in
set_option maxRecDepth 100000 in
theorem law_pipeOf {p : Program} {l : Launch} {e : Env} {s : State} {m : MethodId} {below : List Frame} {meth : Method} {c : Code} {Q : State → Prop} {D : va_G} {cs : Nat → ClassId} {ca : Nat → Nat → Nat} {ma : Nat → Nat} {oa b L : Nat} {xs : Nat → Int32} {y : MethodName} {rt : Option FieldType} (hfl : l.stackTraces = false) (hE : kE p s m #[Value.ref b] meth c D cs y wsL_law cL_law 7 rt (lwA s)) (ho : RL = y.cls) (hX : XA s) (hXs : va_X b L xs s s.heap) (hbl : b < s.heap.size) (hLb : L ≤ 2048) {i : Nat} (hi : i + 4 ≤ L) {cells slots : Nat} (hc : cells ≤ 600000) (hs : slots ≤ 7000000) {cv : CV} {mv : MV} {f : Nat → Int64} {H : Heap} {locs : List Loc} {ls : Array Slot} (hT : TRel cv mv) (hS : va_S (lwA s) s.heap H locs) (hP : va_P D vwCl (lwW cs ca ma oa cv mv f) H) (hD : va_D (lwA s) (lwW cs ca ma oa cv mv f)) (hl : lv_has ls 7 [(0, .ref b), (1, .ref (ca 0 0)), (2, .ref (ma 0)), (3, .ref oa), (4, .int (nI i))]) (kk : lawK p l e s m below meth c D cs ca ma oa b i (cells + 1) (slots + 6) Q) : W p l e room_1 s m #[Value.ref b] below meth c H locs cells slots Q (F0 m 474 ls []) := by
  obtain ⟨hx, hb, hr, hlocks, hml, hown, hts, hK, hA, hG, hnm⟩ := id hE
  have hown : s.vm.findClass RL = some m.cls := by rw [ho]; exact hown
  have hbA : ¬ lwA s b := Nat.not_le.mpr hbl
  refine lv_aload_n hx hb dL_law_474 rfl (lv_at hl 1 rfl) ?_
  refine lv_aload_n hx hb dL_law_475 rfl (lv_at hl 0 rfl) ?_
  refine lv_iload hx hb dL_law_476 (lv_at hl 4 rfl) ?_
  refine lv_iconst (v := 1) hx hb dL_law_478 (by decide) ?_
  refine lv_iadd hx hb dL_law_479 ?_
  rw [show (nI i + 1 : Int32) = nI (i + 1) from nI_add i 1]
  refine va_sld hx hb hXs hbl hbA hS (vp_in_nI (show i + 1 < L by omega) (by omega)) dL_law_480 ?_
  rw [nI_clamp (show i + 1 < 2 ^ 31 by omega)]
  refine lv_aload_n hx hb dL_law_481 rfl (lv_at hl 0 rfl) ?_
  refine lv_iload hx hb dL_law_482 (lv_at hl 4 rfl) ?_
  refine lv_iconst (v := 2) hx hb dL_law_484 (by decide) ?_
  refine lv_iadd hx hb dL_law_485 ?_
  rw [show (nI i + 2 : Int32) = nI (i + 2) from nI_add i 2]
  refine va_sld hx hb hXs hbl hbA hS (vp_in_nI (show i + 2 < L by omega) (by omega)) dL_law_486 ?_
  rw [nI_clamp (show i + 2 < 2 ^ 31 by omega)]
  refine lv_aload_n hx hb dL_law_487 rfl (lv_at hl 3 rfl) ?_
  obtain ⟨x, r, c2, e0⟩ : ∃ x r c2, k_X5_pipeOf cv (xs (i + 1)) (xs (i + 2)) = (x, r, c2) := ⟨_, _, _, rfl⟩
  obtain ⟨r6, m2, e6⟩ : ∃ r6 m2, k_X6_pipeOf mv (xs (i + 1)) (xs (i + 2)) = (r6, m2) := ⟨_, _, rfl⟩
  have hAG := T_pipe hT (xs (i + 1)) (xs (i + 2))
  rw [e0, e6] at hAG
  obtain ⟨hT2, hcode, hans, hLx⟩ := hAG
  dsimp only at hT2 hcode hans hLx
  have hw := w_pipeOf l hfl D cs ca cv c2 oa f (xs (i + 1)) (xs (i + 2)) hT.2.1 x r e0 hLx
  refine kI_call (wc := lo cs oa f :: ca_W cs ca cv) (wr := md_W cs ma mv) (w1 := lo cs oa (if x = none then va_up f 0 r.toInt64 else f) :: ca_W cs ca c2) (r := cod [IOB, IAE] x) hE hP hD hS (k_rL (rest := []) (As := [.ref (ca 0 0), .int (xs (i + 1)), .int (xs (i + 2)), .ref oa]) hE hX ho (hw H.size) (vx_cwSW 4 hts gL_law_L_pipeOf rfl rfl rfl (by decide +kernel) ⟨(Nat.le_of_ble_eq_true rfl), (Nat.le_of_ble_eq_true rfl)⟩) hP hD hS rfl hl rfl (Nat.le_of_ble_eq_true rfl) ⟨by show cells + 1 ≤ 601024; omega, by show slots + 6 ≤ 7293034; omega⟩ dL_law_488) (fun H locs hP hD hS => ?_)
  refine lv_istore (lv' := [(5, .int (cod [IOB, IAE] x)), (0, .ref b), (1, .ref (ca 0 0)), (2, .ref (ma 0)), (3, .ref oa), (4, .int (nI i))]) hx hb dL_law_491 hl (by decide) rfl (fun ls hl => ?_)
  refine lv_aload_n hx hb dL_law_493 rfl (lv_at hl 3 rfl) ?_
  refine lv_aload_n hx hb dL_law_494 rfl (lv_at hl 1 rfl) ?_
  refine lv_iload hx hb dL_law_495 (lv_at hl 5 rfl) ?_
  refine lv_iconst (v := 1) hx hb dL_law_497 (by decide) ?_
  refine lv_iadd hx hb dL_law_498 ?_
  rw [show (nI i + 1 : Int32) = nI (i + 1) from nI_add i 1]
  refine va_sld hx hb hXs hbl hbA hS (vp_in_nI (show i + 1 < L by omega) (by omega)) dL_law_499 ?_
  rw [nI_clamp (show i + 1 < 2 ^ 31 by omega)]
  refine lv_aload_n hx hb dL_law_500 rfl (lv_at hl 1 rfl) ?_
  refine lv_iload hx hb dL_law_501 (lv_at hl 5 rfl) ?_
  refine lv_iconst (v := 2) hx hb dL_law_503 (by decide) ?_
  refine lv_iadd hx hb dL_law_504 ?_
  rw [show (nI i + 2 : Int32) = nI (i + 2) from nI_add i 2]
  refine va_sld hx hb hXs hbl hbA hS (vp_in_nI (show i + 2 < L by omega) (by omega)) dL_law_505 ?_
  rw [nI_clamp (show i + 2 < 2 ^ 31 by omega)]
  have hm := c_X6_pipeOf l D cs ma mv (xs (i + 1)) (xs (i + 2)) (TR_MO hT)
  rw [e6] at hm
  dsimp only at hm
  have hP := pmP List.perm_append_comm hP
  have hD := pmD List.perm_append_comm hD
  refine kI_call (wc := md_W cs ma mv) (wr := lo cs oa (if x = none then va_up f 0 r.toInt64 else f) :: ca_W cs ca c2) (w1 := md_W cs ma m2) (r := r6) hE hP hD hS (k_rV (rest := []) (As := [.int (xs (i + 1)), .int (xs (i + 2))]) hE ho (hm H.size) (cwV 2 hts gL_law_X6_pipeOf rfl rfl rfl (by decide +kernel) ⟨(Nat.le_of_ble_eq_true rfl), (Nat.le_of_ble_eq_true rfl)⟩) hP hD hS (ci := 6) (q0 := 0) rfl rfl rfl hl rfl (Nat.le_of_ble_eq_true rfl) ⟨by show cells + 1 + 0 ≤ 601024; omega, by show slots + 6 + 0 ≤ 7293034; omega⟩ dL_law_506) (fun H locs hP hD hS => ?_)
  refine lv_istore (lv' := [(6, .int r6), (5, .int (cod [IOB, IAE] x)), (0, .ref b), (1, .ref (ca 0 0)), (2, .ref (ma 0)), (3, .ref oa), (4, .int (nI i))]) hx hb dL_law_509 hl (by decide) rfl (fun ls hl => ?_)
  refine lv_aload_n hx hb dL_law_511 rfl (lv_at hl 4 rfl) ?_
  have ht := c_X6_thrown l D cs ma m2
  rw [show k_X6_thrown m2 = cod [IOB, IAE] x from hcode] at ht
  refine kI_call (wc := md_W cs ma m2) (wr := lo cs oa (if x = none then va_up f 0 r.toInt64 else f) :: ca_W cs ca c2) (w1 := md_W cs ma m2) (r := cod [IOB, IAE] x) hE hP hD hS (k_rV (rest := []) (As := []) hE ho (ht H.size) (cwV 0 hts gL_law_X6_thrown rfl rfl rfl (by decide +kernel) ⟨(Nat.le_of_ble_eq_true rfl), (Nat.le_of_ble_eq_true rfl)⟩) hP hD hS (ci := 6) (q0 := 0) rfl rfl rfl hl rfl (Nat.le_of_ble_eq_true rfl) ⟨by show cells + 1 + 0 + 0 ≤ 601024; omega, by show slots + 6 + 0 + 0 ≤ 7293034; omega⟩ dL_law_512) (fun H locs hP hD hS => ?_)
  have hP : va_P D vwCl (lwW cs ca ma oa c2 m2 (if x = none then va_up f 0 r.toInt64 else f)) H := pmP List.perm_append_comm hP
  have hD : va_D (lwA s) (lwW cs ca ma oa c2 m2 (if x = none then va_up f 0 r.toInt64 else f)) := pmD List.perm_append_comm hD
  refine lv_iload hx hb dL_law_515 (lv_at hl 1 rfl) ?_
  refine lv_icmp_eq (tgt := 522) hx hb dL_law_517 (by decide) (fun c9 => ?_) (fun c9 => absurd rfl c9)
  refine lv_iload hx hb dL_law_522 (lv_at hl 1 rfl) ?_
  refine lv_if_ne (tgt := 539) hx hb dL_law_524 (by decide) (fun c8 => ?_) (fun c8 => ?_)
  · skip
    refine lv_goto (tgt := 1643) hx hb dL_law_539 (by decide) ?_
    refine W.widen (k := cells + 1) (n := slots + 6) (by omega) (by omega) ?_
    exact kk c2 m2 _ H locs ls hT2 hS hP hD (lv_sub hl [2, 3, 4, 5, 6] rfl)
  · have hx0 := cod_0 (L := [IOB, IAE]) (by decide) hLx c8
    have hrr : r = r6 := hans hx0
    refine lv_aload_n hx hb dL_law_527 rfl (lv_at hl 5 rfl) ?_
    refine lv_iconst (v := 0) hx hb dL_law_528 (by decide) ?_
    refine k_lald (n := 1) (v := r6.toInt64) hx hb hK hP 0 4 rfl rfl (vp_in_iff.mpr (by decide)) (by rw [if_pos hx0, hrr]; exact va_eq f 0 r6.toInt64) dL_law_529 ?_
    refine lv_iload hx hb dL_law_530 (lv_at hl 0 rfl) ?_
    refine lv_i2l hx hb dL_law_532 rfl ?_
    refine W.lcmp hx hb dL_law_533 ?_
    refine lv_if_eq (tgt := 539) hx hb dL_law_534 (by decide) (fun c7 => ?_) (fun c7 => absurd ((lg_cmp_eq _ _).mpr rfl) c7)
    refine lv_goto (tgt := 1643) hx hb dL_law_539 (by decide) ?_
    refine W.widen (k := cells + 1) (n := slots + 6) (by omega) (by omega) ?_
    exact kk c2 m2 _ H locs ls hT2 hS hP hD (lv_sub hl [2, 3, 4, 5, 6] rfl)
set_option maxHeartbeats 4000000 in
set_option maxRecDepth 100000 in
theorem law_chord {p : Program} {l : Launch} {e : Env} {s : State} {m : MethodId} {below : List Frame} {meth : Method} {c : Code} {Q : State → Prop} {D : va_G} {cs : Nat → ClassId} {ca : Nat → Nat → Nat} {ma : Nat → Nat} {oa b L : Nat} {xs : Nat → Int32} {y : MethodName} {rt : Option FieldType} (hfl : l.stackTraces = false) (hE : kE p s m #[Value.ref b] meth c D cs y wsL_law cL_law 7 rt (lwA s)) (ho : RL = y.cls) (hX : XA s) (hXs : va_X b L xs s s.heap) (hbl : b < s.heap.size) (hLb : L ≤ 2048) {i : Nat} (hi : i + 4 ≤ L) {cells slots : Nat} (hc : cells ≤ 600000) (hs : slots ≤ 7000000) {cv : CV} {mv : MV} {f : Nat → Int64} {H : Heap} {locs : List Loc} {ls : Array Slot} (hT : TRel cv mv) (hS : va_S (lwA s) s.heap H locs) (hP : va_P D vwCl (lwW cs ca ma oa cv mv f) H) (hD : va_D (lwA s) (lwW cs ca ma oa cv mv f)) (hl : lv_has ls 7 [(0, .ref b), (1, .ref (ca 0 0)), (2, .ref (ma 0)), (3, .ref oa), (4, .int (nI i))]) (kk : lawK p l e s m below meth c D cs ca ma oa b i (cells + 1) (slots + 6) Q) : W p l e room_1 s m #[Value.ref b] below meth c H locs cells slots Q (F0 m 542 ls []) := by
  obtain ⟨hx, hb, hr, hlocks, hml, hown, hts, hK, hA, hG, hnm⟩ := id hE
  have hown : s.vm.findClass RL = some m.cls := by rw [ho]; exact hown
  have hbA : ¬ lwA s b := Nat.not_le.mpr hbl
  refine lv_aload_n hx hb dL_law_542 rfl (lv_at hl 1 rfl) ?_
  refine lv_aload_n hx hb dL_law_543 rfl (lv_at hl 0 rfl) ?_
  refine lv_iload hx hb dL_law_544 (lv_at hl 4 rfl) ?_
  refine lv_iconst (v := 1) hx hb dL_law_546 (by decide) ?_
  refine lv_iadd hx hb dL_law_547 ?_
  rw [show (nI i + 1 : Int32) = nI (i + 1) from nI_add i 1]
  refine va_sld hx hb hXs hbl hbA hS (vp_in_nI (show i + 1 < L by omega) (by omega)) dL_law_548 ?_
  rw [nI_clamp (show i + 1 < 2 ^ 31 by omega)]
  refine lv_aload_n hx hb dL_law_549 rfl (lv_at hl 3 rfl) ?_
  obtain ⟨x, r, c2, e0⟩ : ∃ x r c2, k_X5_chord cv (xs (i + 1)) = (x, r, c2) := ⟨_, _, _, rfl⟩
  obtain ⟨r6, m2, e6⟩ : ∃ r6 m2, k_X6_chord mv (xs (i + 1)) = (r6, m2) := ⟨_, _, rfl⟩
  have hAG := T_chord hT (xs (i + 1))
  rw [e0, e6] at hAG
  obtain ⟨hT2, hcode, hans, hLx⟩ := hAG
  dsimp only at hT2 hcode hans hLx
  have hw := w_chord l hfl D cs ca cv c2 oa f (xs (i + 1)) hT.2.1 x r e0 hLx
  refine kI_call (wc := lo cs oa f :: ca_W cs ca cv) (wr := md_W cs ma mv) (w1 := lo cs oa (if x = none then va_up f 0 r.toInt64 else f) :: ca_W cs ca c2) (r := cod [IOB] x) hE hP hD hS (k_rL (rest := []) (As := [.ref (ca 0 0), .int (xs (i + 1)), .ref oa]) hE hX ho (hw H.size) (vx_cwSW 3 hts gL_law_L_chord rfl rfl rfl (by decide +kernel) ⟨(Nat.le_of_ble_eq_true rfl), (Nat.le_of_ble_eq_true rfl)⟩) hP hD hS rfl hl rfl (Nat.le_of_ble_eq_true rfl) ⟨by show cells + 1 ≤ 601024; omega, by show slots + 6 ≤ 7293034; omega⟩ dL_law_550) (fun H locs hP hD hS => ?_)
  refine lv_istore (lv' := [(5, .int (cod [IOB] x)), (0, .ref b), (1, .ref (ca 0 0)), (2, .ref (ma 0)), (3, .ref oa), (4, .int (nI i))]) hx hb dL_law_553 hl (by decide) rfl (fun ls hl => ?_)
  refine lv_aload_n hx hb dL_law_555 rfl (lv_at hl 3 rfl) ?_
  refine lv_aload_n hx hb dL_law_556 rfl (lv_at hl 1 rfl) ?_
  refine lv_iload hx hb dL_law_557 (lv_at hl 5 rfl) ?_
  refine lv_iconst (v := 1) hx hb dL_law_559 (by decide) ?_
  refine lv_iadd hx hb dL_law_560 ?_
  rw [show (nI i + 1 : Int32) = nI (i + 1) from nI_add i 1]
  refine va_sld hx hb hXs hbl hbA hS (vp_in_nI (show i + 1 < L by omega) (by omega)) dL_law_561 ?_
  rw [nI_clamp (show i + 1 < 2 ^ 31 by omega)]
  have hm := c_X6_chord l D cs ma mv (xs (i + 1)) (TR_MO hT)
  rw [e6] at hm
  dsimp only at hm
  have hP := pmP List.perm_append_comm hP
  have hD := pmD List.perm_append_comm hD
  refine kI_call (wc := md_W cs ma mv) (wr := lo cs oa (if x = none then va_up f 0 r.toInt64 else f) :: ca_W cs ca c2) (w1 := md_W cs ma m2) (r := r6) hE hP hD hS (k_rV (rest := []) (As := [.int (xs (i + 1))]) hE ho (hm H.size) (cwV 1 hts gL_law_X6_chord rfl rfl rfl (by decide +kernel) ⟨(Nat.le_of_ble_eq_true rfl), (Nat.le_of_ble_eq_true rfl)⟩) hP hD hS (ci := 6) (q0 := 0) rfl rfl rfl hl rfl (Nat.le_of_ble_eq_true rfl) ⟨by show cells + 1 + 0 ≤ 601024; omega, by show slots + 6 + 0 ≤ 7293034; omega⟩ dL_law_562) (fun H locs hP hD hS => ?_)
  refine lv_istore (lv' := [(6, .int r6), (5, .int (cod [IOB] x)), (0, .ref b), (1, .ref (ca 0 0)), (2, .ref (ma 0)), (3, .ref oa), (4, .int (nI i))]) hx hb dL_law_565 hl (by decide) rfl (fun ls hl => ?_)
  refine lv_aload_n hx hb dL_law_567 rfl (lv_at hl 4 rfl) ?_
  have ht := c_X6_thrown l D cs ma m2
  rw [show k_X6_thrown m2 = cod [IOB] x from hcode] at ht
  refine kI_call (wc := md_W cs ma m2) (wr := lo cs oa (if x = none then va_up f 0 r.toInt64 else f) :: ca_W cs ca c2) (w1 := md_W cs ma m2) (r := cod [IOB] x) hE hP hD hS (k_rV (rest := []) (As := []) hE ho (ht H.size) (cwV 0 hts gL_law_X6_thrown rfl rfl rfl (by decide +kernel) ⟨(Nat.le_of_ble_eq_true rfl), (Nat.le_of_ble_eq_true rfl)⟩) hP hD hS (ci := 6) (q0 := 0) rfl rfl rfl hl rfl (Nat.le_of_ble_eq_true rfl) ⟨by show cells + 1 + 0 + 0 ≤ 601024; omega, by show slots + 6 + 0 + 0 ≤ 7293034; omega⟩ dL_law_568) (fun H locs hP hD hS => ?_)
  have hP : va_P D vwCl (lwW cs ca ma oa c2 m2 (if x = none then va_up f 0 r.toInt64 else f)) H := pmP List.perm_append_comm hP
  have hD : va_D (lwA s) (lwW cs ca ma oa c2 m2 (if x = none then va_up f 0 r.toInt64 else f)) := pmD List.perm_append_comm hD
  refine lv_iload hx hb dL_law_571 (lv_at hl 1 rfl) ?_
  refine lv_icmp_eq (tgt := 578) hx hb dL_law_573 (by decide) (fun c9 => ?_) (fun c9 => absurd rfl c9)
  refine lv_iload hx hb dL_law_578 (lv_at hl 1 rfl) ?_
  refine lv_if_ne (tgt := 595) hx hb dL_law_580 (by decide) (fun c8 => ?_) (fun c8 => ?_)
  · skip
    refine lv_goto (tgt := 1643) hx hb dL_law_595 (by decide) ?_
    refine W.widen (k := cells + 1) (n := slots + 6) (by omega) (by omega) ?_
    exact kk c2 m2 _ H locs ls hT2 hS hP hD (lv_sub hl [2, 3, 4, 5, 6] rfl)
  · have hx0 := cod_0 (L := [IOB]) (by decide) hLx c8
    have hrr : r = r6 := hans hx0
    refine lv_aload_n hx hb dL_law_583 rfl (lv_at hl 5 rfl) ?_
    refine lv_iconst (v := 0) hx hb dL_law_584 (by decide) ?_
    refine k_lald (n := 1) (v := r6.toInt64) hx hb hK hP 0 4 rfl rfl (vp_in_iff.mpr (by decide)) (by rw [if_pos hx0, hrr]; exact va_eq f 0 r6.toInt64) dL_law_585 ?_
    refine lv_iload hx hb dL_law_586 (lv_at hl 0 rfl) ?_
    refine lv_i2l hx hb dL_law_588 rfl ?_
    refine W.lcmp hx hb dL_law_589 ?_
    refine lv_if_eq (tgt := 595) hx hb dL_law_590 (by decide) (fun c7 => ?_) (fun c7 => absurd ((lg_cmp_eq _ _).mpr rfl) c7)
    refine lv_goto (tgt := 1643) hx hb dL_law_595 (by decide) ?_
    refine W.widen (k := cells + 1) (n := slots + 6) (by omega) (by omega) ?_
    exact kk c2 m2 _ H locs ls hT2 hS hP hD (lv_sub hl [2, 3, 4, 5, 6] rfl)
set_option maxHeartbeats 4000000 in
set_option maxRecDepth 100000 in
theorem law_covered {p : Program} {l : Launch} {e : Env} {s : State} {m : MethodId} {below : List Frame} {meth : Method} {c : Code} {Q : State → Prop} {D : va_G} {cs : Nat → ClassId} {ca : Nat → Nat → Nat} {ma : Nat → Nat} {oa b L : Nat} {xs : Nat → Int32} {y : MethodName} {rt : Option FieldType} (hfl : l.stackTraces = false) (hE : kE p s m #[Value.ref b] meth c D cs y wsL_law cL_law 7 rt (lwA s)) (ho : RL = y.cls) (hX : XA s) (hXs : va_X b L xs s s.heap) (hbl : b < s.heap.size) (hLb : L ≤ 2048) {i : Nat} (hi : i + 4 ≤ L) {cells slots : Nat} (hc : cells ≤ 600000) (hs : slots ≤ 7000000) {cv : CV} {mv : MV} {f : Nat → Int64} {H : Heap} {locs : List Loc} {ls : Array Slot} (hT : TRel cv mv) (hS : va_S (lwA s) s.heap H locs) (hP : va_P D vwCl (lwW cs ca ma oa cv mv f) H) (hD : va_D (lwA s) (lwW cs ca ma oa cv mv f)) (hl : lv_has ls 7 [(0, .ref b), (1, .ref (ca 0 0)), (2, .ref (ma 0)), (3, .ref oa), (4, .int (nI i))]) (kk : lawK p l e s m below meth c D cs ca ma oa b i (cells + 1) (slots + 6) Q) : W p l e room_1 s m #[Value.ref b] below meth c H locs cells slots Q (F0 m 598 ls []) := by
  obtain ⟨hx, hb, hr, hlocks, hml, hown, hts, hK, hA, hG, hnm⟩ := id hE
  have hown : s.vm.findClass RL = some m.cls := by rw [ho]; exact hown
  have hbA : ¬ lwA s b := Nat.not_le.mpr hbl
  refine lv_aload_n hx hb dL_law_598 rfl (lv_at hl 1 rfl) ?_
  refine lv_aload_n hx hb dL_law_599 rfl (lv_at hl 0 rfl) ?_
  refine lv_iload hx hb dL_law_600 (lv_at hl 4 rfl) ?_
  refine lv_iconst (v := 1) hx hb dL_law_602 (by decide) ?_
  refine lv_iadd hx hb dL_law_603 ?_
  rw [show (nI i + 1 : Int32) = nI (i + 1) from nI_add i 1]
  refine va_sld hx hb hXs hbl hbA hS (vp_in_nI (show i + 1 < L by omega) (by omega)) dL_law_604 ?_
  rw [nI_clamp (show i + 1 < 2 ^ 31 by omega)]
  refine lv_aload_n hx hb dL_law_605 rfl (lv_at hl 3 rfl) ?_
  obtain ⟨x, r, c2, e0⟩ : ∃ x r c2, k_X5_covered cv (xs (i + 1)) = (x, r, c2) := ⟨_, _, _, rfl⟩
  obtain ⟨r6, m2, e6⟩ : ∃ r6 m2, k_X6_covered mv (xs (i + 1)) = (r6, m2) := ⟨_, _, rfl⟩
  have hAG := T_cov hT (xs (i + 1))
  rw [e0, e6] at hAG
  obtain ⟨hT2, hcode, hans, hLx⟩ := hAG
  dsimp only at hT2 hcode hans hLx
  have hw := w_covered l hfl D cs ca cv c2 oa f (xs (i + 1)) hT.2.1 x r e0 hLx
  refine kI_call (wc := lo cs oa f :: ca_W cs ca cv) (wr := md_W cs ma mv) (w1 := lo cs oa (if x = none then va_up f 0 r.toInt64 else f) :: ca_W cs ca c2) (r := cod [IAE] x) hE hP hD hS (k_rL (rest := []) (As := [.ref (ca 0 0), .int (xs (i + 1)), .ref oa]) hE hX ho (hw H.size) (vx_cwSW 3 hts gL_law_L_covered rfl rfl rfl (by decide +kernel) ⟨(Nat.le_of_ble_eq_true rfl), (Nat.le_of_ble_eq_true rfl)⟩) hP hD hS rfl hl rfl (Nat.le_of_ble_eq_true rfl) ⟨by show cells + 1 ≤ 601024; omega, by show slots + 6 ≤ 7293034; omega⟩ dL_law_606) (fun H locs hP hD hS => ?_)
  refine lv_istore (lv' := [(5, .int (cod [IAE] x)), (0, .ref b), (1, .ref (ca 0 0)), (2, .ref (ma 0)), (3, .ref oa), (4, .int (nI i))]) hx hb dL_law_609 hl (by decide) rfl (fun ls hl => ?_)
  refine lv_aload_n hx hb dL_law_611 rfl (lv_at hl 3 rfl) ?_
  refine lv_aload_n hx hb dL_law_612 rfl (lv_at hl 1 rfl) ?_
  refine lv_iload hx hb dL_law_613 (lv_at hl 5 rfl) ?_
  refine lv_iconst (v := 1) hx hb dL_law_615 (by decide) ?_
  refine lv_iadd hx hb dL_law_616 ?_
  rw [show (nI i + 1 : Int32) = nI (i + 1) from nI_add i 1]
  refine va_sld hx hb hXs hbl hbA hS (vp_in_nI (show i + 1 < L by omega) (by omega)) dL_law_617 ?_
  rw [nI_clamp (show i + 1 < 2 ^ 31 by omega)]
  have hm := c_X6_covered l D cs ma mv (xs (i + 1)) (TR_MO hT)
  rw [e6] at hm
  dsimp only at hm
  have hP := pmP List.perm_append_comm hP
  have hD := pmD List.perm_append_comm hD
  refine kI_call (wc := md_W cs ma mv) (wr := lo cs oa (if x = none then va_up f 0 r.toInt64 else f) :: ca_W cs ca c2) (w1 := md_W cs ma m2) (r := r6) hE hP hD hS (k_rV (rest := []) (As := [.int (xs (i + 1))]) hE ho (hm H.size) (cwV 1 hts gL_law_X6_covered rfl rfl rfl (by decide +kernel) ⟨(Nat.le_of_ble_eq_true rfl), (Nat.le_of_ble_eq_true rfl)⟩) hP hD hS (ci := 6) (q0 := 0) rfl rfl rfl hl rfl (Nat.le_of_ble_eq_true rfl) ⟨by show cells + 1 + 0 ≤ 601024; omega, by show slots + 6 + 0 ≤ 7293034; omega⟩ dL_law_618) (fun H locs hP hD hS => ?_)
  refine lv_istore (lv' := [(6, .int r6), (5, .int (cod [IAE] x)), (0, .ref b), (1, .ref (ca 0 0)), (2, .ref (ma 0)), (3, .ref oa), (4, .int (nI i))]) hx hb dL_law_621 hl (by decide) rfl (fun ls hl => ?_)
  refine lv_aload_n hx hb dL_law_623 rfl (lv_at hl 4 rfl) ?_
  have ht := c_X6_thrown l D cs ma m2
  rw [show k_X6_thrown m2 = cod [IAE] x from hcode] at ht
  refine kI_call (wc := md_W cs ma m2) (wr := lo cs oa (if x = none then va_up f 0 r.toInt64 else f) :: ca_W cs ca c2) (w1 := md_W cs ma m2) (r := cod [IAE] x) hE hP hD hS (k_rV (rest := []) (As := []) hE ho (ht H.size) (cwV 0 hts gL_law_X6_thrown rfl rfl rfl (by decide +kernel) ⟨(Nat.le_of_ble_eq_true rfl), (Nat.le_of_ble_eq_true rfl)⟩) hP hD hS (ci := 6) (q0 := 0) rfl rfl rfl hl rfl (Nat.le_of_ble_eq_true rfl) ⟨by show cells + 1 + 0 + 0 ≤ 601024; omega, by show slots + 6 + 0 + 0 ≤ 7293034; omega⟩ dL_law_624) (fun H locs hP hD hS => ?_)
  have hP : va_P D vwCl (lwW cs ca ma oa c2 m2 (if x = none then va_up f 0 r.toInt64 else f)) H := pmP List.perm_append_comm hP
  have hD : va_D (lwA s) (lwW cs ca ma oa c2 m2 (if x = none then va_up f 0 r.toInt64 else f)) := pmD List.perm_append_comm hD
  refine lv_iload hx hb dL_law_627 (lv_at hl 1 rfl) ?_
  refine lv_icmp_eq (tgt := 634) hx hb dL_law_629 (by decide) (fun c9 => ?_) (fun c9 => absurd rfl c9)
  refine lv_iload hx hb dL_law_634 (lv_at hl 1 rfl) ?_
  refine lv_if_ne (tgt := 651) hx hb dL_law_636 (by decide) (fun c8 => ?_) (fun c8 => ?_)
  · skip
    refine lv_goto (tgt := 1643) hx hb dL_law_651 (by decide) ?_
    refine W.widen (k := cells + 1) (n := slots + 6) (by omega) (by omega) ?_
    exact kk c2 m2 _ H locs ls hT2 hS hP hD (lv_sub hl [2, 3, 4, 5, 6] rfl)
  · have hx0 := cod_0 (L := [IAE]) (by decide) hLx c8
    have hrr : r = r6 := hans hx0
    refine lv_aload_n hx hb dL_law_639 rfl (lv_at hl 5 rfl) ?_
    refine lv_iconst (v := 0) hx hb dL_law_640 (by decide) ?_
    refine k_lald (n := 1) (v := r6.toInt64) hx hb hK hP 0 4 rfl rfl (vp_in_iff.mpr (by decide)) (by rw [if_pos hx0, hrr]; exact va_eq f 0 r6.toInt64) dL_law_641 ?_
    refine lv_iload hx hb dL_law_642 (lv_at hl 0 rfl) ?_
    refine lv_i2l hx hb dL_law_644 rfl ?_
    refine W.lcmp hx hb dL_law_645 ?_
    refine lv_if_eq (tgt := 651) hx hb dL_law_646 (by decide) (fun c7 => ?_) (fun c7 => absurd ((lg_cmp_eq _ _).mpr rfl) c7)
    refine lv_goto (tgt := 1643) hx hb dL_law_651 (by decide) ?_
    refine W.widen (k := cells + 1) (n := slots + 6) (by omega) (by omega) ?_
    exact kk c2 m2 _ H locs ls hT2 hS hP hD (lv_sub hl [2, 3, 4, 5, 6] rfl)
set_option maxHeartbeats 4000000 in
set_option maxRecDepth 100000 in
theorem law_setting {p : Program} {l : Launch} {e : Env} {s : State} {m : MethodId} {below : List Frame} {meth : Method} {c : Code} {Q : State → Prop} {D : va_G} {cs : Nat → ClassId} {ca : Nat → Nat → Nat} {ma : Nat → Nat} {oa b L : Nat} {xs : Nat → Int32} {y : MethodName} {rt : Option FieldType} (hfl : l.stackTraces = false) (hE : kE p s m #[Value.ref b] meth c D cs y wsL_law cL_law 7 rt (lwA s)) (ho : RL = y.cls) (hX : XA s) (hXs : va_X b L xs s s.heap) (hbl : b < s.heap.size) (hLb : L ≤ 2048) {i : Nat} (hi : i + 4 ≤ L) {cells slots : Nat} (hc : cells ≤ 600000) (hs : slots ≤ 7000000) {cv : CV} {mv : MV} {f : Nat → Int64} {H : Heap} {locs : List Loc} {ls : Array Slot} (hT : TRel cv mv) (hS : va_S (lwA s) s.heap H locs) (hP : va_P D vwCl (lwW cs ca ma oa cv mv f) H) (hD : va_D (lwA s) (lwW cs ca ma oa cv mv f)) (hl : lv_has ls 7 [(0, .ref b), (1, .ref (ca 0 0)), (2, .ref (ma 0)), (3, .ref oa), (4, .int (nI i))]) (kk : lawK p l e s m below meth c D cs ca ma oa b i (cells + 1) (slots + 6) Q) : W p l e room_1 s m #[Value.ref b] below meth c H locs cells slots Q (F0 m 654 ls []) := by
  obtain ⟨hx, hb, hr, hlocks, hml, hown, hts, hK, hA, hG, hnm⟩ := id hE
  have hown : s.vm.findClass RL = some m.cls := by rw [ho]; exact hown
  have hbA : ¬ lwA s b := Nat.not_le.mpr hbl
  refine lv_aload_n hx hb dL_law_654 rfl (lv_at hl 1 rfl) ?_
  refine lv_aload_n hx hb dL_law_655 rfl (lv_at hl 0 rfl) ?_
  refine lv_iload hx hb dL_law_656 (lv_at hl 4 rfl) ?_
  refine lv_iconst (v := 1) hx hb dL_law_658 (by decide) ?_
  refine lv_iadd hx hb dL_law_659 ?_
  rw [show (nI i + 1 : Int32) = nI (i + 1) from nI_add i 1]
  refine va_sld hx hb hXs hbl hbA hS (vp_in_nI (show i + 1 < L by omega) (by omega)) dL_law_660 ?_
  rw [nI_clamp (show i + 1 < 2 ^ 31 by omega)]
  refine lv_aload_n hx hb dL_law_661 rfl (lv_at hl 3 rfl) ?_
  obtain ⟨x, r, c2, e0⟩ : ∃ x r c2, k_X5_setting cv (xs (i + 1)) = (x, r, c2) := ⟨_, _, _, rfl⟩
  obtain ⟨r6, m2, e6⟩ : ∃ r6 m2, k_X6_setting mv (xs (i + 1)) = (r6, m2) := ⟨_, _, rfl⟩
  have hAG := T_setting hT (xs (i + 1))
  rw [e0, e6] at hAG
  obtain ⟨hT2, hcode, hans, hLx⟩ := hAG
  dsimp only at hT2 hcode hans hLx
  have hw := w_setting l hfl D cs ca cv c2 oa f (xs (i + 1)) hT.2.1 x r e0 hLx
  refine kI_call (wc := lo cs oa f :: ca_W cs ca cv) (wr := md_W cs ma mv) (w1 := lo cs oa (if x = none then va_up f 0 r.toInt64 else f) :: ca_W cs ca c2) (r := cod [IAE] x) hE hP hD hS (k_rL (rest := []) (As := [.ref (ca 0 0), .int (xs (i + 1)), .ref oa]) hE hX ho (hw H.size) (vx_cwSW 3 hts gL_law_L_setting rfl rfl rfl (by decide +kernel) ⟨(Nat.le_of_ble_eq_true rfl), (Nat.le_of_ble_eq_true rfl)⟩) hP hD hS rfl hl rfl (Nat.le_of_ble_eq_true rfl) ⟨by show cells + 1 ≤ 601024; omega, by show slots + 6 ≤ 7293034; omega⟩ dL_law_662) (fun H locs hP hD hS => ?_)
  refine lv_istore (lv' := [(5, .int (cod [IAE] x)), (0, .ref b), (1, .ref (ca 0 0)), (2, .ref (ma 0)), (3, .ref oa), (4, .int (nI i))]) hx hb dL_law_665 hl (by decide) rfl (fun ls hl => ?_)
  refine lv_aload_n hx hb dL_law_667 rfl (lv_at hl 3 rfl) ?_
  refine lv_aload_n hx hb dL_law_668 rfl (lv_at hl 1 rfl) ?_
  refine lv_iload hx hb dL_law_669 (lv_at hl 5 rfl) ?_
  refine lv_iconst (v := 1) hx hb dL_law_671 (by decide) ?_
  refine lv_iadd hx hb dL_law_672 ?_
  rw [show (nI i + 1 : Int32) = nI (i + 1) from nI_add i 1]
  refine va_sld hx hb hXs hbl hbA hS (vp_in_nI (show i + 1 < L by omega) (by omega)) dL_law_673 ?_
  rw [nI_clamp (show i + 1 < 2 ^ 31 by omega)]
  have hm := c_X6_setting l D cs ma mv (xs (i + 1)) (TR_MO hT)
  rw [e6] at hm
  dsimp only at hm
  have hP := pmP List.perm_append_comm hP
  have hD := pmD List.perm_append_comm hD
  refine kI_call (wc := md_W cs ma mv) (wr := lo cs oa (if x = none then va_up f 0 r.toInt64 else f) :: ca_W cs ca c2) (w1 := md_W cs ma m2) (r := r6) hE hP hD hS (k_rV (rest := []) (As := [.int (xs (i + 1))]) hE ho (hm H.size) (cwV 1 hts gL_law_X6_setting rfl rfl rfl (by decide +kernel) ⟨(Nat.le_of_ble_eq_true rfl), (Nat.le_of_ble_eq_true rfl)⟩) hP hD hS (ci := 6) (q0 := 0) rfl rfl rfl hl rfl (Nat.le_of_ble_eq_true rfl) ⟨by show cells + 1 + 0 ≤ 601024; omega, by show slots + 6 + 0 ≤ 7293034; omega⟩ dL_law_674) (fun H locs hP hD hS => ?_)
  refine lv_istore (lv' := [(6, .int r6), (5, .int (cod [IAE] x)), (0, .ref b), (1, .ref (ca 0 0)), (2, .ref (ma 0)), (3, .ref oa), (4, .int (nI i))]) hx hb dL_law_677 hl (by decide) rfl (fun ls hl => ?_)
  refine lv_aload_n hx hb dL_law_679 rfl (lv_at hl 4 rfl) ?_
  have ht := c_X6_thrown l D cs ma m2
  rw [show k_X6_thrown m2 = cod [IAE] x from hcode] at ht
  refine kI_call (wc := md_W cs ma m2) (wr := lo cs oa (if x = none then va_up f 0 r.toInt64 else f) :: ca_W cs ca c2) (w1 := md_W cs ma m2) (r := cod [IAE] x) hE hP hD hS (k_rV (rest := []) (As := []) hE ho (ht H.size) (cwV 0 hts gL_law_X6_thrown rfl rfl rfl (by decide +kernel) ⟨(Nat.le_of_ble_eq_true rfl), (Nat.le_of_ble_eq_true rfl)⟩) hP hD hS (ci := 6) (q0 := 0) rfl rfl rfl hl rfl (Nat.le_of_ble_eq_true rfl) ⟨by show cells + 1 + 0 + 0 ≤ 601024; omega, by show slots + 6 + 0 + 0 ≤ 7293034; omega⟩ dL_law_680) (fun H locs hP hD hS => ?_)
  have hP : va_P D vwCl (lwW cs ca ma oa c2 m2 (if x = none then va_up f 0 r.toInt64 else f)) H := pmP List.perm_append_comm hP
  have hD : va_D (lwA s) (lwW cs ca ma oa c2 m2 (if x = none then va_up f 0 r.toInt64 else f)) := pmD List.perm_append_comm hD
  refine lv_iload hx hb dL_law_683 (lv_at hl 1 rfl) ?_
  refine lv_icmp_eq (tgt := 690) hx hb dL_law_685 (by decide) (fun c9 => ?_) (fun c9 => absurd rfl c9)
  refine lv_iload hx hb dL_law_690 (lv_at hl 1 rfl) ?_
  refine lv_if_ne (tgt := 707) hx hb dL_law_692 (by decide) (fun c8 => ?_) (fun c8 => ?_)
  · skip
    refine lv_goto (tgt := 1643) hx hb dL_law_707 (by decide) ?_
    refine W.widen (k := cells + 1) (n := slots + 6) (by omega) (by omega) ?_
    exact kk c2 m2 _ H locs ls hT2 hS hP hD (lv_sub hl [2, 3, 4, 5, 6] rfl)
  · have hx0 := cod_0 (L := [IAE]) (by decide) hLx c8
    have hrr : r = r6 := hans hx0
    refine lv_aload_n hx hb dL_law_695 rfl (lv_at hl 5 rfl) ?_
    refine lv_iconst (v := 0) hx hb dL_law_696 (by decide) ?_
    refine k_lald (n := 1) (v := r6.toInt64) hx hb hK hP 0 4 rfl rfl (vp_in_iff.mpr (by decide)) (by rw [if_pos hx0, hrr]; exact va_eq f 0 r6.toInt64) dL_law_697 ?_
    refine lv_iload hx hb dL_law_698 (lv_at hl 0 rfl) ?_
    refine lv_i2l hx hb dL_law_700 rfl ?_
    refine W.lcmp hx hb dL_law_701 ?_
    refine lv_if_eq (tgt := 707) hx hb dL_law_702 (by decide) (fun c7 => ?_) (fun c7 => absurd ((lg_cmp_eq _ _).mpr rfl) c7)
    refine lv_goto (tgt := 1643) hx hb dL_law_707 (by decide) ?_
    refine W.widen (k := cells + 1) (n := slots + 6) (by omega) (by omega) ?_
    exact kk c2 m2 _ H locs ls hT2 hS hP hD (lv_sub hl [2, 3, 4, 5, 6] rfl)
set_option maxHeartbeats 4000000 in
set_option maxRecDepth 100000 in
theorem law_put {p : Program} {l : Launch} {e : Env} {s : State} {m : MethodId} {below : List Frame} {meth : Method} {c : Code} {Q : State → Prop} {D : va_G} {cs : Nat → ClassId} {ca : Nat → Nat → Nat} {ma : Nat → Nat} {oa b L : Nat} {xs : Nat → Int32} {y : MethodName} {rt : Option FieldType} (hfl : l.stackTraces = false) (hE : kE p s m #[Value.ref b] meth c D cs y wsL_law cL_law 7 rt (lwA s)) (ho : RL = y.cls) (hX : XA s) (hXs : va_X b L xs s s.heap) (hbl : b < s.heap.size) (hLb : L ≤ 2048) {i : Nat} (hi : i + 4 ≤ L) {cells slots : Nat} (hc : cells ≤ 600000) (hs : slots ≤ 7000000) {cv : CV} {mv : MV} {f : Nat → Int64} {H : Heap} {locs : List Loc} {ls : Array Slot} (hT : TRel cv mv) (hS : va_S (lwA s) s.heap H locs) (hP : va_P D vwCl (lwW cs ca ma oa cv mv f) H) (hD : va_D (lwA s) (lwW cs ca ma oa cv mv f)) (hl : lv_has ls 7 [(0, .ref b), (1, .ref (ca 0 0)), (2, .ref (ma 0)), (3, .ref oa), (4, .int (nI i))]) (kk : lawK p l e s m below meth c D cs ca ma oa b i (cells + 1) (slots + 6) Q) : W p l e room_1 s m #[Value.ref b] below meth c H locs cells slots Q (F0 m 710 ls []) := by
  obtain ⟨hx, hb, hr, hlocks, hml, hown, hts, hK, hA, hG, hnm⟩ := id hE
  have hown : s.vm.findClass RL = some m.cls := by rw [ho]; exact hown
  have hbA : ¬ lwA s b := Nat.not_le.mpr hbl
  refine lv_aload_n hx hb dL_law_710 rfl (lv_at hl 1 rfl) ?_
  refine lv_aload_n hx hb dL_law_711 rfl (lv_at hl 0 rfl) ?_
  refine lv_iload hx hb dL_law_712 (lv_at hl 4 rfl) ?_
  refine lv_iconst (v := 1) hx hb dL_law_714 (by decide) ?_
  refine lv_iadd hx hb dL_law_715 ?_
  rw [show (nI i + 1 : Int32) = nI (i + 1) from nI_add i 1]
  refine va_sld hx hb hXs hbl hbA hS (vp_in_nI (show i + 1 < L by omega) (by omega)) dL_law_716 ?_
  rw [nI_clamp (show i + 1 < 2 ^ 31 by omega)]
  refine lv_aload_n hx hb dL_law_717 rfl (lv_at hl 0 rfl) ?_
  refine lv_iload hx hb dL_law_718 (lv_at hl 4 rfl) ?_
  refine lv_iconst (v := 2) hx hb dL_law_720 (by decide) ?_
  refine lv_iadd hx hb dL_law_721 ?_
  rw [show (nI i + 2 : Int32) = nI (i + 2) from nI_add i 2]
  refine va_sld hx hb hXs hbl hbA hS (vp_in_nI (show i + 2 < L by omega) (by omega)) dL_law_722 ?_
  rw [nI_clamp (show i + 2 < 2 ^ 31 by omega)]
  refine lv_aload_n hx hb dL_law_723 rfl (lv_at hl 0 rfl) ?_
  refine lv_iload hx hb dL_law_724 (lv_at hl 4 rfl) ?_
  refine lv_iconst (v := 3) hx hb dL_law_726 (by decide) ?_
  refine lv_iadd hx hb dL_law_727 ?_
  rw [show (nI i + 3 : Int32) = nI (i + 3) from nI_add i 3]
  refine va_sld hx hb hXs hbl hbA hS (vp_in_nI (show i + 3 < L by omega) (by omega)) dL_law_728 ?_
  rw [nI_clamp (show i + 3 < 2 ^ 31 by omega)]
  refine lv_aload_n hx hb dL_law_729 rfl (lv_at hl 3 rfl) ?_
  obtain ⟨x, r, c2, e0⟩ : ∃ x r c2, k_X5_put cv (xs (i + 1)) (xs (i + 2)) (xs (i + 3)) = (x, r, c2) := ⟨_, _, _, rfl⟩
  obtain ⟨r6, m2, e6⟩ : ∃ r6 m2, k_X6_put mv (xs (i + 1)) (xs (i + 2)) (xs (i + 3)) = (r6, m2) := ⟨_, _, rfl⟩
  have hAG := T_put hT (xs (i + 1)) (xs (i + 2)) (xs (i + 3))
  rw [e0, e6] at hAG
  obtain ⟨hT2, hcode, hans, hLx⟩ := hAG
  dsimp only at hT2 hcode hans hLx
  have hw := w_put l hfl D cs ca cv c2 oa f (xs (i + 1)) (xs (i + 2)) (xs (i + 3)) hT.2.1 x r e0 hLx
  refine kI_call (wc := lo cs oa f :: ca_W cs ca cv) (wr := md_W cs ma mv) (w1 := lo cs oa (if x = none then va_up f 0 r.toInt64 else f) :: ca_W cs ca c2) (r := cod [IOB, IAE, ISE] x) hE hP hD hS (k_rL (rest := []) (As := [.ref (ca 0 0), .int (xs (i + 1)), .int (xs (i + 2)), .int (xs (i + 3)), .ref oa]) hE hX ho (hw H.size) (vx_cwSW 5 hts gL_law_L_put rfl rfl rfl (by decide +kernel) ⟨(Nat.le_of_ble_eq_true rfl), (Nat.le_of_ble_eq_true rfl)⟩) hP hD hS rfl hl rfl (Nat.le_of_ble_eq_true rfl) ⟨by show cells + 1 ≤ 601024; omega, by show slots + 6 ≤ 7293034; omega⟩ dL_law_730) (fun H locs hP hD hS => ?_)
  refine lv_istore (lv' := [(5, .int (cod [IOB, IAE, ISE] x)), (0, .ref b), (1, .ref (ca 0 0)), (2, .ref (ma 0)), (3, .ref oa), (4, .int (nI i))]) hx hb dL_law_733 hl (by decide) rfl (fun ls hl => ?_)
  refine lv_aload_n hx hb dL_law_735 rfl (lv_at hl 3 rfl) ?_
  refine lv_aload_n hx hb dL_law_736 rfl (lv_at hl 1 rfl) ?_
  refine lv_iload hx hb dL_law_737 (lv_at hl 5 rfl) ?_
  refine lv_iconst (v := 1) hx hb dL_law_739 (by decide) ?_
  refine lv_iadd hx hb dL_law_740 ?_
  rw [show (nI i + 1 : Int32) = nI (i + 1) from nI_add i 1]
  refine va_sld hx hb hXs hbl hbA hS (vp_in_nI (show i + 1 < L by omega) (by omega)) dL_law_741 ?_
  rw [nI_clamp (show i + 1 < 2 ^ 31 by omega)]
  refine lv_aload_n hx hb dL_law_742 rfl (lv_at hl 1 rfl) ?_
  refine lv_iload hx hb dL_law_743 (lv_at hl 5 rfl) ?_
  refine lv_iconst (v := 2) hx hb dL_law_745 (by decide) ?_
  refine lv_iadd hx hb dL_law_746 ?_
  rw [show (nI i + 2 : Int32) = nI (i + 2) from nI_add i 2]
  refine va_sld hx hb hXs hbl hbA hS (vp_in_nI (show i + 2 < L by omega) (by omega)) dL_law_747 ?_
  rw [nI_clamp (show i + 2 < 2 ^ 31 by omega)]
  refine lv_aload_n hx hb dL_law_748 rfl (lv_at hl 1 rfl) ?_
  refine lv_iload hx hb dL_law_749 (lv_at hl 5 rfl) ?_
  refine lv_iconst (v := 3) hx hb dL_law_751 (by decide) ?_
  refine lv_iadd hx hb dL_law_752 ?_
  rw [show (nI i + 3 : Int32) = nI (i + 3) from nI_add i 3]
  refine va_sld hx hb hXs hbl hbA hS (vp_in_nI (show i + 3 < L by omega) (by omega)) dL_law_753 ?_
  rw [nI_clamp (show i + 3 < 2 ^ 31 by omega)]
  have hm := c_X6_put l D cs ma mv (xs (i + 1)) (xs (i + 2)) (xs (i + 3)) (TR_MO hT)
  rw [e6] at hm
  dsimp only at hm
  have hP := pmP List.perm_append_comm hP
  have hD := pmD List.perm_append_comm hD
  refine kI_call (wc := md_W cs ma mv) (wr := lo cs oa (if x = none then va_up f 0 r.toInt64 else f) :: ca_W cs ca c2) (w1 := md_W cs ma m2) (r := r6) hE hP hD hS (k_rV (rest := []) (As := [.int (xs (i + 1)), .int (xs (i + 2)), .int (xs (i + 3))]) hE ho (hm H.size) (cwV 3 hts gL_law_X6_put rfl rfl rfl (by decide +kernel) ⟨(Nat.le_of_ble_eq_true rfl), (Nat.le_of_ble_eq_true rfl)⟩) hP hD hS (ci := 6) (q0 := 0) rfl rfl rfl hl rfl (Nat.le_of_ble_eq_true rfl) ⟨by show cells + 1 + 0 ≤ 601024; omega, by show slots + 6 + 0 ≤ 7293034; omega⟩ dL_law_754) (fun H locs hP hD hS => ?_)
  refine lv_istore (lv' := [(6, .int r6), (5, .int (cod [IOB, IAE, ISE] x)), (0, .ref b), (1, .ref (ca 0 0)), (2, .ref (ma 0)), (3, .ref oa), (4, .int (nI i))]) hx hb dL_law_757 hl (by decide) rfl (fun ls hl => ?_)
  refine lv_aload_n hx hb dL_law_759 rfl (lv_at hl 4 rfl) ?_
  have ht := c_X6_thrown l D cs ma m2
  rw [show k_X6_thrown m2 = cod [IOB, IAE, ISE] x from hcode] at ht
  refine kI_call (wc := md_W cs ma m2) (wr := lo cs oa (if x = none then va_up f 0 r.toInt64 else f) :: ca_W cs ca c2) (w1 := md_W cs ma m2) (r := cod [IOB, IAE, ISE] x) hE hP hD hS (k_rV (rest := []) (As := []) hE ho (ht H.size) (cwV 0 hts gL_law_X6_thrown rfl rfl rfl (by decide +kernel) ⟨(Nat.le_of_ble_eq_true rfl), (Nat.le_of_ble_eq_true rfl)⟩) hP hD hS (ci := 6) (q0 := 0) rfl rfl rfl hl rfl (Nat.le_of_ble_eq_true rfl) ⟨by show cells + 1 + 0 + 0 ≤ 601024; omega, by show slots + 6 + 0 + 0 ≤ 7293034; omega⟩ dL_law_760) (fun H locs hP hD hS => ?_)
  have hP : va_P D vwCl (lwW cs ca ma oa c2 m2 (if x = none then va_up f 0 r.toInt64 else f)) H := pmP List.perm_append_comm hP
  have hD : va_D (lwA s) (lwW cs ca ma oa c2 m2 (if x = none then va_up f 0 r.toInt64 else f)) := pmD List.perm_append_comm hD
  refine lv_iload hx hb dL_law_763 (lv_at hl 1 rfl) ?_
  refine lv_icmp_eq (tgt := 770) hx hb dL_law_765 (by decide) (fun c9 => ?_) (fun c9 => absurd rfl c9)
  refine lv_iload hx hb dL_law_770 (lv_at hl 1 rfl) ?_
  refine lv_if_ne (tgt := 787) hx hb dL_law_772 (by decide) (fun c8 => ?_) (fun c8 => ?_)
  · skip
    refine lv_goto (tgt := 1643) hx hb dL_law_787 (by decide) ?_
    refine W.widen (k := cells + 1) (n := slots + 6) (by omega) (by omega) ?_
    exact kk c2 m2 _ H locs ls hT2 hS hP hD (lv_sub hl [2, 3, 4, 5, 6] rfl)
  · have hx0 := cod_0 (L := [IOB, IAE, ISE]) (by decide) hLx c8
    have hrr : r = r6 := hans hx0
    refine lv_aload_n hx hb dL_law_775 rfl (lv_at hl 5 rfl) ?_
    refine lv_iconst (v := 0) hx hb dL_law_776 (by decide) ?_
    refine k_lald (n := 1) (v := r6.toInt64) hx hb hK hP 0 4 rfl rfl (vp_in_iff.mpr (by decide)) (by rw [if_pos hx0, hrr]; exact va_eq f 0 r6.toInt64) dL_law_777 ?_
    refine lv_iload hx hb dL_law_778 (lv_at hl 0 rfl) ?_
    refine lv_i2l hx hb dL_law_780 rfl ?_
    refine W.lcmp hx hb dL_law_781 ?_
    refine lv_if_eq (tgt := 787) hx hb dL_law_782 (by decide) (fun c7 => ?_) (fun c7 => absurd ((lg_cmp_eq _ _).mpr rfl) c7)
    refine lv_goto (tgt := 1643) hx hb dL_law_787 (by decide) ?_
    refine W.widen (k := cells + 1) (n := slots + 6) (by omega) (by omega) ?_
    exact kk c2 m2 _ H locs ls hT2 hS hP hD (lv_sub hl [2, 3, 4, 5, 6] rfl)
set_option maxHeartbeats 4000000 in
set_option maxRecDepth 100000 in
theorem law_pull {p : Program} {l : Launch} {e : Env} {s : State} {m : MethodId} {below : List Frame} {meth : Method} {c : Code} {Q : State → Prop} {D : va_G} {cs : Nat → ClassId} {ca : Nat → Nat → Nat} {ma : Nat → Nat} {oa b L : Nat} {xs : Nat → Int32} {y : MethodName} {rt : Option FieldType} (hfl : l.stackTraces = false) (hE : kE p s m #[Value.ref b] meth c D cs y wsL_law cL_law 7 rt (lwA s)) (ho : RL = y.cls) (hX : XA s) (hXs : va_X b L xs s s.heap) (hbl : b < s.heap.size) (hLb : L ≤ 2048) {i : Nat} (hi : i + 4 ≤ L) {cells slots : Nat} (hc : cells ≤ 600000) (hs : slots ≤ 7000000) {cv : CV} {mv : MV} {f : Nat → Int64} {H : Heap} {locs : List Loc} {ls : Array Slot} (hT : TRel cv mv) (hS : va_S (lwA s) s.heap H locs) (hP : va_P D vwCl (lwW cs ca ma oa cv mv f) H) (hD : va_D (lwA s) (lwW cs ca ma oa cv mv f)) (hl : lv_has ls 7 [(0, .ref b), (1, .ref (ca 0 0)), (2, .ref (ma 0)), (3, .ref oa), (4, .int (nI i))]) (kk : lawK p l e s m below meth c D cs ca ma oa b i (cells + 1) (slots + 6) Q) : W p l e room_1 s m #[Value.ref b] below meth c H locs cells slots Q (F0 m 790 ls []) := by
  obtain ⟨hx, hb, hr, hlocks, hml, hown, hts, hK, hA, hG, hnm⟩ := id hE
  have hown : s.vm.findClass RL = some m.cls := by rw [ho]; exact hown
  have hbA : ¬ lwA s b := Nat.not_le.mpr hbl
  refine lv_aload_n hx hb dL_law_790 rfl (lv_at hl 1 rfl) ?_
  refine lv_aload_n hx hb dL_law_791 rfl (lv_at hl 0 rfl) ?_
  refine lv_iload hx hb dL_law_792 (lv_at hl 4 rfl) ?_
  refine lv_iconst (v := 1) hx hb dL_law_794 (by decide) ?_
  refine lv_iadd hx hb dL_law_795 ?_
  rw [show (nI i + 1 : Int32) = nI (i + 1) from nI_add i 1]
  refine va_sld hx hb hXs hbl hbA hS (vp_in_nI (show i + 1 < L by omega) (by omega)) dL_law_796 ?_
  rw [nI_clamp (show i + 1 < 2 ^ 31 by omega)]
  refine lv_aload_n hx hb dL_law_797 rfl (lv_at hl 0 rfl) ?_
  refine lv_iload hx hb dL_law_798 (lv_at hl 4 rfl) ?_
  refine lv_iconst (v := 2) hx hb dL_law_800 (by decide) ?_
  refine lv_iadd hx hb dL_law_801 ?_
  rw [show (nI i + 2 : Int32) = nI (i + 2) from nI_add i 2]
  refine va_sld hx hb hXs hbl hbA hS (vp_in_nI (show i + 2 < L by omega) (by omega)) dL_law_802 ?_
  rw [nI_clamp (show i + 2 < 2 ^ 31 by omega)]
  refine lv_aload_n hx hb dL_law_803 rfl (lv_at hl 3 rfl) ?_
  obtain ⟨x, r, c2, e0⟩ : ∃ x r c2, k_X5_pull cv (xs (i + 1)) (xs (i + 2)) = (x, r, c2) := ⟨_, _, _, rfl⟩
  obtain ⟨r6, m2, e6⟩ : ∃ r6 m2, k_X6_pull mv (xs (i + 1)) (xs (i + 2)) = (r6, m2) := ⟨_, _, rfl⟩
  have hAG := T_pull hT (xs (i + 1)) (xs (i + 2))
  rw [e0, e6] at hAG
  obtain ⟨hT2, hcode, hans, hLx⟩ := hAG
  dsimp only at hT2 hcode hans hLx
  have hw := w_pull l hfl D cs ca cv c2 oa f (xs (i + 1)) (xs (i + 2)) hT.2.1 x r e0 hLx
  refine kI_call (wc := lo cs oa f :: ca_W cs ca cv) (wr := md_W cs ma mv) (w1 := lo cs oa (if x = none then va_up f 0 r.toInt64 else f) :: ca_W cs ca c2) (r := cod [IOB, ISE] x) hE hP hD hS (k_rL (rest := []) (As := [.ref (ca 0 0), .int (xs (i + 1)), .int (xs (i + 2)), .ref oa]) hE hX ho (hw H.size) (vx_cwSW 4 hts gL_law_L_pull rfl rfl rfl (by decide +kernel) ⟨(Nat.le_of_ble_eq_true rfl), (Nat.le_of_ble_eq_true rfl)⟩) hP hD hS rfl hl rfl (Nat.le_of_ble_eq_true rfl) ⟨by show cells + 1 ≤ 601024; omega, by show slots + 6 ≤ 7293034; omega⟩ dL_law_804) (fun H locs hP hD hS => ?_)
  refine lv_istore (lv' := [(5, .int (cod [IOB, ISE] x)), (0, .ref b), (1, .ref (ca 0 0)), (2, .ref (ma 0)), (3, .ref oa), (4, .int (nI i))]) hx hb dL_law_807 hl (by decide) rfl (fun ls hl => ?_)
  refine lv_aload_n hx hb dL_law_809 rfl (lv_at hl 3 rfl) ?_
  refine lv_aload_n hx hb dL_law_810 rfl (lv_at hl 1 rfl) ?_
  refine lv_iload hx hb dL_law_811 (lv_at hl 5 rfl) ?_
  refine lv_iconst (v := 1) hx hb dL_law_813 (by decide) ?_
  refine lv_iadd hx hb dL_law_814 ?_
  rw [show (nI i + 1 : Int32) = nI (i + 1) from nI_add i 1]
  refine va_sld hx hb hXs hbl hbA hS (vp_in_nI (show i + 1 < L by omega) (by omega)) dL_law_815 ?_
  rw [nI_clamp (show i + 1 < 2 ^ 31 by omega)]
  refine lv_aload_n hx hb dL_law_816 rfl (lv_at hl 1 rfl) ?_
  refine lv_iload hx hb dL_law_817 (lv_at hl 5 rfl) ?_
  refine lv_iconst (v := 2) hx hb dL_law_819 (by decide) ?_
  refine lv_iadd hx hb dL_law_820 ?_
  rw [show (nI i + 2 : Int32) = nI (i + 2) from nI_add i 2]
  refine va_sld hx hb hXs hbl hbA hS (vp_in_nI (show i + 2 < L by omega) (by omega)) dL_law_821 ?_
  rw [nI_clamp (show i + 2 < 2 ^ 31 by omega)]
  have hm := c_X6_pull l D cs ma mv (xs (i + 1)) (xs (i + 2)) (TR_MO hT)
  rw [e6] at hm
  dsimp only at hm
  have hP := pmP List.perm_append_comm hP
  have hD := pmD List.perm_append_comm hD
  refine kI_call (wc := md_W cs ma mv) (wr := lo cs oa (if x = none then va_up f 0 r.toInt64 else f) :: ca_W cs ca c2) (w1 := md_W cs ma m2) (r := r6) hE hP hD hS (k_rV (rest := []) (As := [.int (xs (i + 1)), .int (xs (i + 2))]) hE ho (hm H.size) (cwV 2 hts gL_law_X6_pull rfl rfl rfl (by decide +kernel) ⟨(Nat.le_of_ble_eq_true rfl), (Nat.le_of_ble_eq_true rfl)⟩) hP hD hS (ci := 6) (q0 := 0) rfl rfl rfl hl rfl (Nat.le_of_ble_eq_true rfl) ⟨by show cells + 1 + 0 ≤ 601024; omega, by show slots + 6 + 0 ≤ 7293034; omega⟩ dL_law_822) (fun H locs hP hD hS => ?_)
  refine lv_istore (lv' := [(6, .int r6), (5, .int (cod [IOB, ISE] x)), (0, .ref b), (1, .ref (ca 0 0)), (2, .ref (ma 0)), (3, .ref oa), (4, .int (nI i))]) hx hb dL_law_825 hl (by decide) rfl (fun ls hl => ?_)
  refine lv_aload_n hx hb dL_law_827 rfl (lv_at hl 4 rfl) ?_
  have ht := c_X6_thrown l D cs ma m2
  rw [show k_X6_thrown m2 = cod [IOB, ISE] x from hcode] at ht
  refine kI_call (wc := md_W cs ma m2) (wr := lo cs oa (if x = none then va_up f 0 r.toInt64 else f) :: ca_W cs ca c2) (w1 := md_W cs ma m2) (r := cod [IOB, ISE] x) hE hP hD hS (k_rV (rest := []) (As := []) hE ho (ht H.size) (cwV 0 hts gL_law_X6_thrown rfl rfl rfl (by decide +kernel) ⟨(Nat.le_of_ble_eq_true rfl), (Nat.le_of_ble_eq_true rfl)⟩) hP hD hS (ci := 6) (q0 := 0) rfl rfl rfl hl rfl (Nat.le_of_ble_eq_true rfl) ⟨by show cells + 1 + 0 + 0 ≤ 601024; omega, by show slots + 6 + 0 + 0 ≤ 7293034; omega⟩ dL_law_828) (fun H locs hP hD hS => ?_)
  have hP : va_P D vwCl (lwW cs ca ma oa c2 m2 (if x = none then va_up f 0 r.toInt64 else f)) H := pmP List.perm_append_comm hP
  have hD : va_D (lwA s) (lwW cs ca ma oa c2 m2 (if x = none then va_up f 0 r.toInt64 else f)) := pmD List.perm_append_comm hD
  refine lv_iload hx hb dL_law_831 (lv_at hl 1 rfl) ?_
  refine lv_icmp_eq (tgt := 838) hx hb dL_law_833 (by decide) (fun c9 => ?_) (fun c9 => absurd rfl c9)
  refine lv_iload hx hb dL_law_838 (lv_at hl 1 rfl) ?_
  refine lv_if_ne (tgt := 855) hx hb dL_law_840 (by decide) (fun c8 => ?_) (fun c8 => ?_)
  · skip
    refine lv_goto (tgt := 1643) hx hb dL_law_855 (by decide) ?_
    refine W.widen (k := cells + 1) (n := slots + 6) (by omega) (by omega) ?_
    exact kk c2 m2 _ H locs ls hT2 hS hP hD (lv_sub hl [2, 3, 4, 5, 6] rfl)
  · have hx0 := cod_0 (L := [IOB, ISE]) (by decide) hLx c8
    have hrr : r = r6 := hans hx0
    refine lv_aload_n hx hb dL_law_843 rfl (lv_at hl 5 rfl) ?_
    refine lv_iconst (v := 0) hx hb dL_law_844 (by decide) ?_
    refine k_lald (n := 1) (v := r6.toInt64) hx hb hK hP 0 4 rfl rfl (vp_in_iff.mpr (by decide)) (by rw [if_pos hx0, hrr]; exact va_eq f 0 r6.toInt64) dL_law_845 ?_
    refine lv_iload hx hb dL_law_846 (lv_at hl 0 rfl) ?_
    refine lv_i2l hx hb dL_law_848 rfl ?_
    refine W.lcmp hx hb dL_law_849 ?_
    refine lv_if_eq (tgt := 855) hx hb dL_law_850 (by decide) (fun c7 => ?_) (fun c7 => absurd ((lg_cmp_eq _ _).mpr rfl) c7)
    refine lv_goto (tgt := 1643) hx hb dL_law_855 (by decide) ?_
    refine W.widen (k := cells + 1) (n := slots + 6) (by omega) (by omega) ?_
    exact kk c2 m2 _ H locs ls hT2 hS hP hD (lv_sub hl [2, 3, 4, 5, 6] rfl)
set_option maxHeartbeats 4000000 in
set_option maxRecDepth 100000 in
theorem law_cancel {p : Program} {l : Launch} {e : Env} {s : State} {m : MethodId} {below : List Frame} {meth : Method} {c : Code} {Q : State → Prop} {D : va_G} {cs : Nat → ClassId} {ca : Nat → Nat → Nat} {ma : Nat → Nat} {oa b L : Nat} {xs : Nat → Int32} {y : MethodName} {rt : Option FieldType} (hfl : l.stackTraces = false) (hE : kE p s m #[Value.ref b] meth c D cs y wsL_law cL_law 7 rt (lwA s)) (ho : RL = y.cls) (hX : XA s) (hXs : va_X b L xs s s.heap) (hbl : b < s.heap.size) (hLb : L ≤ 2048) {i : Nat} (hi : i + 4 ≤ L) {cells slots : Nat} (hc : cells ≤ 600000) (hs : slots ≤ 7000000) {cv : CV} {mv : MV} {f : Nat → Int64} {H : Heap} {locs : List Loc} {ls : Array Slot} (hT : TRel cv mv) (hS : va_S (lwA s) s.heap H locs) (hP : va_P D vwCl (lwW cs ca ma oa cv mv f) H) (hD : va_D (lwA s) (lwW cs ca ma oa cv mv f)) (hl : lv_has ls 7 [(0, .ref b), (1, .ref (ca 0 0)), (2, .ref (ma 0)), (3, .ref oa), (4, .int (nI i))]) (kk : lawK p l e s m below meth c D cs ca ma oa b i (cells + 1) (slots + 6) Q) : W p l e room_1 s m #[Value.ref b] below meth c H locs cells slots Q (F0 m 858 ls []) := by
  obtain ⟨hx, hb, hr, hlocks, hml, hown, hts, hK, hA, hG, hnm⟩ := id hE
  have hown : s.vm.findClass RL = some m.cls := by rw [ho]; exact hown
  have hbA : ¬ lwA s b := Nat.not_le.mpr hbl
  refine lv_aload_n hx hb dL_law_858 rfl (lv_at hl 1 rfl) ?_
  refine lv_aload_n hx hb dL_law_859 rfl (lv_at hl 0 rfl) ?_
  refine lv_iload hx hb dL_law_860 (lv_at hl 4 rfl) ?_
  refine lv_iconst (v := 1) hx hb dL_law_862 (by decide) ?_
  refine lv_iadd hx hb dL_law_863 ?_
  rw [show (nI i + 1 : Int32) = nI (i + 1) from nI_add i 1]
  refine va_sld hx hb hXs hbl hbA hS (vp_in_nI (show i + 1 < L by omega) (by omega)) dL_law_864 ?_
  rw [nI_clamp (show i + 1 < 2 ^ 31 by omega)]
  refine lv_aload_n hx hb dL_law_865 rfl (lv_at hl 3 rfl) ?_
  obtain ⟨x, r, c2, e0⟩ : ∃ x r c2, k_X5_cancel cv (xs (i + 1)) = (x, r, c2) := ⟨_, _, _, rfl⟩
  obtain ⟨r6, m2, e6⟩ : ∃ r6 m2, k_X6_cancel mv (xs (i + 1)) = (r6, m2) := ⟨_, _, rfl⟩
  have hAG := T_cancel hT (xs (i + 1))
  rw [e0, e6] at hAG
  obtain ⟨hT2, hcode, hans, hLx⟩ := hAG
  dsimp only at hT2 hcode hans hLx
  have hw := w_cancel l hfl D cs ca cv c2 oa f (xs (i + 1)) hT.2.1 x r e0 hLx
  refine kI_call (wc := lo cs oa f :: ca_W cs ca cv) (wr := md_W cs ma mv) (w1 := lo cs oa (if x = none then va_up f 0 r.toInt64 else f) :: ca_W cs ca c2) (r := cod [IOB] x) hE hP hD hS (k_rL (rest := []) (As := [.ref (ca 0 0), .int (xs (i + 1)), .ref oa]) hE hX ho (hw H.size) (vx_cwSW 3 hts gL_law_L_cancel rfl rfl rfl (by decide +kernel) ⟨(Nat.le_of_ble_eq_true rfl), (Nat.le_of_ble_eq_true rfl)⟩) hP hD hS rfl hl rfl (Nat.le_of_ble_eq_true rfl) ⟨by show cells + 1 ≤ 601024; omega, by show slots + 6 ≤ 7293034; omega⟩ dL_law_866) (fun H locs hP hD hS => ?_)
  refine lv_istore (lv' := [(5, .int (cod [IOB] x)), (0, .ref b), (1, .ref (ca 0 0)), (2, .ref (ma 0)), (3, .ref oa), (4, .int (nI i))]) hx hb dL_law_869 hl (by decide) rfl (fun ls hl => ?_)
  refine lv_aload_n hx hb dL_law_871 rfl (lv_at hl 3 rfl) ?_
  refine lv_aload_n hx hb dL_law_872 rfl (lv_at hl 1 rfl) ?_
  refine lv_iload hx hb dL_law_873 (lv_at hl 5 rfl) ?_
  refine lv_iconst (v := 1) hx hb dL_law_875 (by decide) ?_
  refine lv_iadd hx hb dL_law_876 ?_
  rw [show (nI i + 1 : Int32) = nI (i + 1) from nI_add i 1]
  refine va_sld hx hb hXs hbl hbA hS (vp_in_nI (show i + 1 < L by omega) (by omega)) dL_law_877 ?_
  rw [nI_clamp (show i + 1 < 2 ^ 31 by omega)]
  have hm := c_X6_cancel l D cs ma mv (xs (i + 1)) (TR_MO hT)
  rw [e6] at hm
  dsimp only at hm
  have hP := pmP List.perm_append_comm hP
  have hD := pmD List.perm_append_comm hD
  refine kI_call (wc := md_W cs ma mv) (wr := lo cs oa (if x = none then va_up f 0 r.toInt64 else f) :: ca_W cs ca c2) (w1 := md_W cs ma m2) (r := r6) hE hP hD hS (k_rV (rest := []) (As := [.int (xs (i + 1))]) hE ho (hm H.size) (cwV 1 hts gL_law_X6_cancel rfl rfl rfl (by decide +kernel) ⟨(Nat.le_of_ble_eq_true rfl), (Nat.le_of_ble_eq_true rfl)⟩) hP hD hS (ci := 6) (q0 := 0) rfl rfl rfl hl rfl (Nat.le_of_ble_eq_true rfl) ⟨by show cells + 1 + 0 ≤ 601024; omega, by show slots + 6 + 0 ≤ 7293034; omega⟩ dL_law_878) (fun H locs hP hD hS => ?_)
  refine lv_istore (lv' := [(6, .int r6), (5, .int (cod [IOB] x)), (0, .ref b), (1, .ref (ca 0 0)), (2, .ref (ma 0)), (3, .ref oa), (4, .int (nI i))]) hx hb dL_law_881 hl (by decide) rfl (fun ls hl => ?_)
  refine lv_aload_n hx hb dL_law_883 rfl (lv_at hl 4 rfl) ?_
  have ht := c_X6_thrown l D cs ma m2
  rw [show k_X6_thrown m2 = cod [IOB] x from hcode] at ht
  refine kI_call (wc := md_W cs ma m2) (wr := lo cs oa (if x = none then va_up f 0 r.toInt64 else f) :: ca_W cs ca c2) (w1 := md_W cs ma m2) (r := cod [IOB] x) hE hP hD hS (k_rV (rest := []) (As := []) hE ho (ht H.size) (cwV 0 hts gL_law_X6_thrown rfl rfl rfl (by decide +kernel) ⟨(Nat.le_of_ble_eq_true rfl), (Nat.le_of_ble_eq_true rfl)⟩) hP hD hS (ci := 6) (q0 := 0) rfl rfl rfl hl rfl (Nat.le_of_ble_eq_true rfl) ⟨by show cells + 1 + 0 + 0 ≤ 601024; omega, by show slots + 6 + 0 + 0 ≤ 7293034; omega⟩ dL_law_884) (fun H locs hP hD hS => ?_)
  have hP : va_P D vwCl (lwW cs ca ma oa c2 m2 (if x = none then va_up f 0 r.toInt64 else f)) H := pmP List.perm_append_comm hP
  have hD : va_D (lwA s) (lwW cs ca ma oa c2 m2 (if x = none then va_up f 0 r.toInt64 else f)) := pmD List.perm_append_comm hD
  refine lv_iload hx hb dL_law_887 (lv_at hl 1 rfl) ?_
  refine lv_icmp_eq (tgt := 894) hx hb dL_law_889 (by decide) (fun c9 => ?_) (fun c9 => absurd rfl c9)
  refine lv_iload hx hb dL_law_894 (lv_at hl 1 rfl) ?_
  refine lv_if_ne (tgt := 911) hx hb dL_law_896 (by decide) (fun c8 => ?_) (fun c8 => ?_)
  · skip
    refine lv_goto (tgt := 1643) hx hb dL_law_911 (by decide) ?_
    refine W.widen (k := cells + 1) (n := slots + 6) (by omega) (by omega) ?_
    exact kk c2 m2 _ H locs ls hT2 hS hP hD (lv_sub hl [2, 3, 4, 5, 6] rfl)
  · have hx0 := cod_0 (L := [IOB]) (by decide) hLx c8
    have hrr : r = r6 := hans hx0
    refine lv_aload_n hx hb dL_law_899 rfl (lv_at hl 5 rfl) ?_
    refine lv_iconst (v := 0) hx hb dL_law_900 (by decide) ?_
    refine k_lald (n := 1) (v := r6.toInt64) hx hb hK hP 0 4 rfl rfl (vp_in_iff.mpr (by decide)) (by rw [if_pos hx0, hrr]; exact va_eq f 0 r6.toInt64) dL_law_901 ?_
    refine lv_iload hx hb dL_law_902 (lv_at hl 0 rfl) ?_
    refine lv_i2l hx hb dL_law_904 rfl ?_
    refine W.lcmp hx hb dL_law_905 ?_
    refine lv_if_eq (tgt := 911) hx hb dL_law_906 (by decide) (fun c7 => ?_) (fun c7 => absurd ((lg_cmp_eq _ _).mpr rfl) c7)
    refine lv_goto (tgt := 1643) hx hb dL_law_911 (by decide) ?_
    refine W.widen (k := cells + 1) (n := slots + 6) (by omega) (by omega) ?_
    exact kk c2 m2 _ H locs ls hT2 hS hP hD (lv_sub hl [2, 3, 4, 5, 6] rfl)
set_option maxHeartbeats 4000000 in
set_option maxRecDepth 100000 in
theorem law_ticks {p : Program} {l : Launch} {e : Env} {s : State} {m : MethodId} {below : List Frame} {meth : Method} {c : Code} {Q : State → Prop} {D : va_G} {cs : Nat → ClassId} {ca : Nat → Nat → Nat} {ma : Nat → Nat} {oa b L : Nat} {xs : Nat → Int32} {y : MethodName} {rt : Option FieldType} (hfl : l.stackTraces = false) (hE : kE p s m #[Value.ref b] meth c D cs y wsL_law cL_law 7 rt (lwA s)) (ho : RL = y.cls) (hX : XA s) (hXs : va_X b L xs s s.heap) (hbl : b < s.heap.size) (hLb : L ≤ 2048) {i : Nat} (hi : i + 4 ≤ L) {cells slots : Nat} (hc : cells ≤ 600000) (hs : slots ≤ 7000000) {cv : CV} {mv : MV} {f : Nat → Int64} {H : Heap} {locs : List Loc} {ls : Array Slot} (hT : TRel cv mv) (hS : va_S (lwA s) s.heap H locs) (hP : va_P D vwCl (lwW cs ca ma oa cv mv f) H) (hD : va_D (lwA s) (lwW cs ca ma oa cv mv f)) (hl : lv_has ls 7 [(0, .ref b), (1, .ref (ca 0 0)), (2, .ref (ma 0)), (3, .ref oa), (4, .int (nI i))]) (kk : lawK p l e s m below meth c D cs ca ma oa b i (cells + 1) (slots + 6) Q) : W p l e room_1 s m #[Value.ref b] below meth c H locs cells slots Q (F0 m 914 ls []) := by
  obtain ⟨hx, hb, hr, hlocks, hml, hown, hts, hK, hA, hG, hnm⟩ := id hE
  have hown : s.vm.findClass RL = some m.cls := by rw [ho]; exact hown
  have hbA : ¬ lwA s b := Nat.not_le.mpr hbl
  refine lv_aload_n hx hb dL_law_914 rfl (lv_at hl 1 rfl) ?_
  refine lv_aload_n hx hb dL_law_915 rfl (lv_at hl 0 rfl) ?_
  refine lv_iload hx hb dL_law_916 (lv_at hl 4 rfl) ?_
  refine lv_iconst (v := 1) hx hb dL_law_918 (by decide) ?_
  refine lv_iadd hx hb dL_law_919 ?_
  rw [show (nI i + 1 : Int32) = nI (i + 1) from nI_add i 1]
  refine va_sld hx hb hXs hbl hbA hS (vp_in_nI (show i + 1 < L by omega) (by omega)) dL_law_920 ?_
  rw [nI_clamp (show i + 1 < 2 ^ 31 by omega)]
  refine lv_aload_n hx hb dL_law_921 rfl (lv_at hl 3 rfl) ?_
  obtain ⟨x, r, c2, e0⟩ : ∃ x r c2, k_X5_ticks cv (xs (i + 1)) = (x, r, c2) := ⟨_, _, _, rfl⟩
  obtain ⟨r6, m2, e6⟩ : ∃ r6 m2, k_X6_ticks mv (xs (i + 1)) = (r6, m2) := ⟨_, _, rfl⟩
  have hAG := T_ticks hT (xs (i + 1))
  rw [e0, e6] at hAG
  obtain ⟨hT2, hcode, hans, hLx⟩ := hAG
  dsimp only at hT2 hcode hans hLx
  have hw := w_ticks l hfl D cs ca cv c2 oa f (xs (i + 1)) hT.2.1 x r e0 hLx
  refine kI_call (wc := lo cs oa f :: ca_W cs ca cv) (wr := md_W cs ma mv) (w1 := lo cs oa (if x = none then va_up f 0 r.toInt64 else f) :: ca_W cs ca c2) (r := cod [IAE] x) hE hP hD hS (k_rL (rest := []) (As := [.ref (ca 0 0), .int (xs (i + 1)), .ref oa]) hE hX ho (hw H.size) (vx_cwSW 3 hts gL_law_L_ticks rfl rfl rfl (by decide +kernel) ⟨(Nat.le_of_ble_eq_true rfl), (Nat.le_of_ble_eq_true rfl)⟩) hP hD hS rfl hl rfl (Nat.le_of_ble_eq_true rfl) ⟨by show cells + 1 ≤ 601024; omega, by show slots + 6 ≤ 7293034; omega⟩ dL_law_922) (fun H locs hP hD hS => ?_)
  refine lv_istore (lv' := [(5, .int (cod [IAE] x)), (0, .ref b), (1, .ref (ca 0 0)), (2, .ref (ma 0)), (3, .ref oa), (4, .int (nI i))]) hx hb dL_law_925 hl (by decide) rfl (fun ls hl => ?_)
  refine lv_aload_n hx hb dL_law_927 rfl (lv_at hl 3 rfl) ?_
  refine lv_aload_n hx hb dL_law_928 rfl (lv_at hl 1 rfl) ?_
  refine lv_iload hx hb dL_law_929 (lv_at hl 5 rfl) ?_
  refine lv_iconst (v := 1) hx hb dL_law_931 (by decide) ?_
  refine lv_iadd hx hb dL_law_932 ?_
  rw [show (nI i + 1 : Int32) = nI (i + 1) from nI_add i 1]
  refine va_sld hx hb hXs hbl hbA hS (vp_in_nI (show i + 1 < L by omega) (by omega)) dL_law_933 ?_
  rw [nI_clamp (show i + 1 < 2 ^ 31 by omega)]
  have hm := c_X6_ticks l D cs ma mv (xs (i + 1)) (TR_MO hT)
  rw [e6] at hm
  dsimp only at hm
  have hP := pmP List.perm_append_comm hP
  have hD := pmD List.perm_append_comm hD
  refine kI_call (wc := md_W cs ma mv) (wr := lo cs oa (if x = none then va_up f 0 r.toInt64 else f) :: ca_W cs ca c2) (w1 := md_W cs ma m2) (r := r6) hE hP hD hS (k_rV (rest := []) (As := [.int (xs (i + 1))]) hE ho (hm H.size) (cwV 1 hts gL_law_X6_ticks rfl rfl rfl (by decide +kernel) ⟨(Nat.le_of_ble_eq_true rfl), (Nat.le_of_ble_eq_true rfl)⟩) hP hD hS (ci := 6) (q0 := 0) rfl rfl rfl hl rfl (Nat.le_of_ble_eq_true rfl) ⟨by show cells + 1 + 0 ≤ 601024; omega, by show slots + 6 + 0 ≤ 7293034; omega⟩ dL_law_934) (fun H locs hP hD hS => ?_)
  refine lv_istore (lv' := [(6, .int r6), (5, .int (cod [IAE] x)), (0, .ref b), (1, .ref (ca 0 0)), (2, .ref (ma 0)), (3, .ref oa), (4, .int (nI i))]) hx hb dL_law_937 hl (by decide) rfl (fun ls hl => ?_)
  refine lv_aload_n hx hb dL_law_939 rfl (lv_at hl 4 rfl) ?_
  have ht := c_X6_thrown l D cs ma m2
  rw [show k_X6_thrown m2 = cod [IAE] x from hcode] at ht
  refine kI_call (wc := md_W cs ma m2) (wr := lo cs oa (if x = none then va_up f 0 r.toInt64 else f) :: ca_W cs ca c2) (w1 := md_W cs ma m2) (r := cod [IAE] x) hE hP hD hS (k_rV (rest := []) (As := []) hE ho (ht H.size) (cwV 0 hts gL_law_X6_thrown rfl rfl rfl (by decide +kernel) ⟨(Nat.le_of_ble_eq_true rfl), (Nat.le_of_ble_eq_true rfl)⟩) hP hD hS (ci := 6) (q0 := 0) rfl rfl rfl hl rfl (Nat.le_of_ble_eq_true rfl) ⟨by show cells + 1 + 0 + 0 ≤ 601024; omega, by show slots + 6 + 0 + 0 ≤ 7293034; omega⟩ dL_law_940) (fun H locs hP hD hS => ?_)
  have hP : va_P D vwCl (lwW cs ca ma oa c2 m2 (if x = none then va_up f 0 r.toInt64 else f)) H := pmP List.perm_append_comm hP
  have hD : va_D (lwA s) (lwW cs ca ma oa c2 m2 (if x = none then va_up f 0 r.toInt64 else f)) := pmD List.perm_append_comm hD
  refine lv_iload hx hb dL_law_943 (lv_at hl 1 rfl) ?_
  refine lv_icmp_eq (tgt := 950) hx hb dL_law_945 (by decide) (fun c9 => ?_) (fun c9 => absurd rfl c9)
  refine lv_iload hx hb dL_law_950 (lv_at hl 1 rfl) ?_
  refine lv_if_ne (tgt := 967) hx hb dL_law_952 (by decide) (fun c8 => ?_) (fun c8 => ?_)
  · skip
    refine lv_goto (tgt := 1643) hx hb dL_law_967 (by decide) ?_
    refine W.widen (k := cells + 1) (n := slots + 6) (by omega) (by omega) ?_
    exact kk c2 m2 _ H locs ls hT2 hS hP hD (lv_sub hl [2, 3, 4, 5, 6] rfl)
  · have hx0 := cod_0 (L := [IAE]) (by decide) hLx c8
    have hrr : r = r6 := hans hx0
    refine lv_aload_n hx hb dL_law_955 rfl (lv_at hl 5 rfl) ?_
    refine lv_iconst (v := 0) hx hb dL_law_956 (by decide) ?_
    refine k_lald (n := 1) (v := r6.toInt64) hx hb hK hP 0 4 rfl rfl (vp_in_iff.mpr (by decide)) (by rw [if_pos hx0, hrr]; exact va_eq f 0 r6.toInt64) dL_law_957 ?_
    refine lv_iload hx hb dL_law_958 (lv_at hl 0 rfl) ?_
    refine lv_i2l hx hb dL_law_960 rfl ?_
    refine W.lcmp hx hb dL_law_961 ?_
    refine lv_if_eq (tgt := 967) hx hb dL_law_962 (by decide) (fun c7 => ?_) (fun c7 => absurd ((lg_cmp_eq _ _).mpr rfl) c7)
    refine lv_goto (tgt := 1643) hx hb dL_law_967 (by decide) ?_
    refine W.widen (k := cells + 1) (n := slots + 6) (by omega) (by omega) ?_
    exact kk c2 m2 _ H locs ls hT2 hS hP hD (lv_sub hl [2, 3, 4, 5, 6] rfl)
set_option maxHeartbeats 4000000 in
set_option maxRecDepth 100000 in
theorem law_set {p : Program} {l : Launch} {e : Env} {s : State} {m : MethodId} {below : List Frame} {meth : Method} {c : Code} {Q : State → Prop} {D : va_G} {cs : Nat → ClassId} {ca : Nat → Nat → Nat} {ma : Nat → Nat} {oa b L : Nat} {xs : Nat → Int32} {y : MethodName} {rt : Option FieldType} (hfl : l.stackTraces = false) (hE : kE p s m #[Value.ref b] meth c D cs y wsL_law cL_law 7 rt (lwA s)) (ho : RL = y.cls) (hX : XA s) (hXs : va_X b L xs s s.heap) (hbl : b < s.heap.size) (hLb : L ≤ 2048) {i : Nat} (hi : i + 4 ≤ L) {cells slots : Nat} (hc : cells ≤ 600000) (hs : slots ≤ 7000000) {cv : CV} {mv : MV} {f : Nat → Int64} {H : Heap} {locs : List Loc} {ls : Array Slot} (hT : TRel cv mv) (hS : va_S (lwA s) s.heap H locs) (hP : va_P D vwCl (lwW cs ca ma oa cv mv f) H) (hD : va_D (lwA s) (lwW cs ca ma oa cv mv f)) (hl : lv_has ls 7 [(0, .ref b), (1, .ref (ca 0 0)), (2, .ref (ma 0)), (3, .ref oa), (4, .int (nI i))]) (kk : lawK p l e s m below meth c D cs ca ma oa b i (cells + 1) (slots + 6) Q) : W p l e room_1 s m #[Value.ref b] below meth c H locs cells slots Q (F0 m 970 ls []) := by
  obtain ⟨hx, hb, hr, hlocks, hml, hown, hts, hK, hA, hG, hnm⟩ := id hE
  have hown : s.vm.findClass RL = some m.cls := by rw [ho]; exact hown
  have hbA : ¬ lwA s b := Nat.not_le.mpr hbl
  refine lv_aload_n hx hb dL_law_970 rfl (lv_at hl 1 rfl) ?_
  refine lv_aload_n hx hb dL_law_971 rfl (lv_at hl 0 rfl) ?_
  refine lv_iload hx hb dL_law_972 (lv_at hl 4 rfl) ?_
  refine lv_iconst (v := 1) hx hb dL_law_974 (by decide) ?_
  refine lv_iadd hx hb dL_law_975 ?_
  rw [show (nI i + 1 : Int32) = nI (i + 1) from nI_add i 1]
  refine va_sld hx hb hXs hbl hbA hS (vp_in_nI (show i + 1 < L by omega) (by omega)) dL_law_976 ?_
  rw [nI_clamp (show i + 1 < 2 ^ 31 by omega)]
  refine lv_aload_n hx hb dL_law_977 rfl (lv_at hl 0 rfl) ?_
  refine lv_iload hx hb dL_law_978 (lv_at hl 4 rfl) ?_
  refine lv_iconst (v := 2) hx hb dL_law_980 (by decide) ?_
  refine lv_iadd hx hb dL_law_981 ?_
  rw [show (nI i + 2 : Int32) = nI (i + 2) from nI_add i 2]
  refine va_sld hx hb hXs hbl hbA hS (vp_in_nI (show i + 2 < L by omega) (by omega)) dL_law_982 ?_
  rw [nI_clamp (show i + 2 < 2 ^ 31 by omega)]
  refine lv_aload_n hx hb dL_law_983 rfl (lv_at hl 3 rfl) ?_
  obtain ⟨x, r, c2, e0⟩ : ∃ x r c2, k_X5_set cv (xs (i + 1)) (xs (i + 2)) = (x, r, c2) := ⟨_, _, _, rfl⟩
  obtain ⟨r6, m2, e6⟩ : ∃ r6 m2, k_X6_set mv (xs (i + 1)) (xs (i + 2)) = (r6, m2) := ⟨_, _, rfl⟩
  have hAG := T_set hT (xs (i + 1)) (xs (i + 2))
  rw [e0, e6] at hAG
  obtain ⟨hT2, hcode, hans, hLx⟩ := hAG
  dsimp only at hT2 hcode hans hLx
  have hw := w_set l hfl D cs ca cv c2 oa f (xs (i + 1)) (xs (i + 2)) hT.2.1 x r e0 hLx
  refine kI_call (wc := lo cs oa f :: ca_W cs ca cv) (wr := md_W cs ma mv) (w1 := lo cs oa (if x = none then va_up f 0 r.toInt64 else f) :: ca_W cs ca c2) (r := cod [IAE] x) hE hP hD hS (k_rL (rest := []) (As := [.ref (ca 0 0), .int (xs (i + 1)), .int (xs (i + 2)), .ref oa]) hE hX ho (hw H.size) (vx_cwSW 4 hts gL_law_L_set rfl rfl rfl (by decide +kernel) ⟨(Nat.le_of_ble_eq_true rfl), (Nat.le_of_ble_eq_true rfl)⟩) hP hD hS rfl hl rfl (Nat.le_of_ble_eq_true rfl) ⟨by show cells + 1 ≤ 601024; omega, by show slots + 6 ≤ 7293034; omega⟩ dL_law_984) (fun H locs hP hD hS => ?_)
  refine lv_istore (lv' := [(5, .int (cod [IAE] x)), (0, .ref b), (1, .ref (ca 0 0)), (2, .ref (ma 0)), (3, .ref oa), (4, .int (nI i))]) hx hb dL_law_987 hl (by decide) rfl (fun ls hl => ?_)
  refine lv_aload_n hx hb dL_law_989 rfl (lv_at hl 3 rfl) ?_
  refine lv_aload_n hx hb dL_law_990 rfl (lv_at hl 1 rfl) ?_
  refine lv_iload hx hb dL_law_991 (lv_at hl 5 rfl) ?_
  refine lv_iconst (v := 1) hx hb dL_law_993 (by decide) ?_
  refine lv_iadd hx hb dL_law_994 ?_
  rw [show (nI i + 1 : Int32) = nI (i + 1) from nI_add i 1]
  refine va_sld hx hb hXs hbl hbA hS (vp_in_nI (show i + 1 < L by omega) (by omega)) dL_law_995 ?_
  rw [nI_clamp (show i + 1 < 2 ^ 31 by omega)]
  refine lv_aload_n hx hb dL_law_996 rfl (lv_at hl 1 rfl) ?_
  refine lv_iload hx hb dL_law_997 (lv_at hl 5 rfl) ?_
  refine lv_iconst (v := 2) hx hb dL_law_999 (by decide) ?_
  refine lv_iadd hx hb dL_law_1000 ?_
  rw [show (nI i + 2 : Int32) = nI (i + 2) from nI_add i 2]
  refine va_sld hx hb hXs hbl hbA hS (vp_in_nI (show i + 2 < L by omega) (by omega)) dL_law_1001 ?_
  rw [nI_clamp (show i + 2 < 2 ^ 31 by omega)]
  have hm := c_X6_set l D cs ma mv (xs (i + 1)) (xs (i + 2)) (TR_MO hT)
  rw [e6] at hm
  dsimp only at hm
  have hP := pmP List.perm_append_comm hP
  have hD := pmD List.perm_append_comm hD
  refine kI_call (wc := md_W cs ma mv) (wr := lo cs oa (if x = none then va_up f 0 r.toInt64 else f) :: ca_W cs ca c2) (w1 := md_W cs ma m2) (r := r6) hE hP hD hS (k_rV (rest := []) (As := [.int (xs (i + 1)), .int (xs (i + 2))]) hE ho (hm H.size) (cwV 2 hts gL_law_X6_set rfl rfl rfl (by decide +kernel) ⟨(Nat.le_of_ble_eq_true rfl), (Nat.le_of_ble_eq_true rfl)⟩) hP hD hS (ci := 6) (q0 := 0) rfl rfl rfl hl rfl (Nat.le_of_ble_eq_true rfl) ⟨by show cells + 1 + 0 ≤ 601024; omega, by show slots + 6 + 0 ≤ 7293034; omega⟩ dL_law_1002) (fun H locs hP hD hS => ?_)
  refine lv_istore (lv' := [(6, .int r6), (5, .int (cod [IAE] x)), (0, .ref b), (1, .ref (ca 0 0)), (2, .ref (ma 0)), (3, .ref oa), (4, .int (nI i))]) hx hb dL_law_1005 hl (by decide) rfl (fun ls hl => ?_)
  refine lv_aload_n hx hb dL_law_1007 rfl (lv_at hl 4 rfl) ?_
  have ht := c_X6_thrown l D cs ma m2
  rw [show k_X6_thrown m2 = cod [IAE] x from hcode] at ht
  refine kI_call (wc := md_W cs ma m2) (wr := lo cs oa (if x = none then va_up f 0 r.toInt64 else f) :: ca_W cs ca c2) (w1 := md_W cs ma m2) (r := cod [IAE] x) hE hP hD hS (k_rV (rest := []) (As := []) hE ho (ht H.size) (cwV 0 hts gL_law_X6_thrown rfl rfl rfl (by decide +kernel) ⟨(Nat.le_of_ble_eq_true rfl), (Nat.le_of_ble_eq_true rfl)⟩) hP hD hS (ci := 6) (q0 := 0) rfl rfl rfl hl rfl (Nat.le_of_ble_eq_true rfl) ⟨by show cells + 1 + 0 + 0 ≤ 601024; omega, by show slots + 6 + 0 + 0 ≤ 7293034; omega⟩ dL_law_1008) (fun H locs hP hD hS => ?_)
  have hP : va_P D vwCl (lwW cs ca ma oa c2 m2 (if x = none then va_up f 0 r.toInt64 else f)) H := pmP List.perm_append_comm hP
  have hD : va_D (lwA s) (lwW cs ca ma oa c2 m2 (if x = none then va_up f 0 r.toInt64 else f)) := pmD List.perm_append_comm hD
  refine lv_iload hx hb dL_law_1011 (lv_at hl 1 rfl) ?_
  refine lv_icmp_eq (tgt := 1018) hx hb dL_law_1013 (by decide) (fun c9 => ?_) (fun c9 => absurd rfl c9)
  refine lv_iload hx hb dL_law_1018 (lv_at hl 1 rfl) ?_
  refine lv_if_ne (tgt := 1035) hx hb dL_law_1020 (by decide) (fun c8 => ?_) (fun c8 => ?_)
  · skip
    refine lv_goto (tgt := 1643) hx hb dL_law_1035 (by decide) ?_
    refine W.widen (k := cells + 1) (n := slots + 6) (by omega) (by omega) ?_
    exact kk c2 m2 _ H locs ls hT2 hS hP hD (lv_sub hl [2, 3, 4, 5, 6] rfl)
  · have hx0 := cod_0 (L := [IAE]) (by decide) hLx c8
    have hrr : r = r6 := hans hx0
    refine lv_aload_n hx hb dL_law_1023 rfl (lv_at hl 5 rfl) ?_
    refine lv_iconst (v := 0) hx hb dL_law_1024 (by decide) ?_
    refine k_lald (n := 1) (v := r6.toInt64) hx hb hK hP 0 4 rfl rfl (vp_in_iff.mpr (by decide)) (by rw [if_pos hx0, hrr]; exact va_eq f 0 r6.toInt64) dL_law_1025 ?_
    refine lv_iload hx hb dL_law_1026 (lv_at hl 0 rfl) ?_
    refine lv_i2l hx hb dL_law_1028 rfl ?_
    refine W.lcmp hx hb dL_law_1029 ?_
    refine lv_if_eq (tgt := 1035) hx hb dL_law_1030 (by decide) (fun c7 => ?_) (fun c7 => absurd ((lg_cmp_eq _ _).mpr rfl) c7)
    refine lv_goto (tgt := 1643) hx hb dL_law_1035 (by decide) ?_
    refine W.widen (k := cells + 1) (n := slots + 6) (by omega) (by omega) ?_
    exact kk c2 m2 _ H locs ls hT2 hS hP hD (lv_sub hl [2, 3, 4, 5, 6] rfl)
set_option maxHeartbeats 4000000 in
set_option maxRecDepth 100000 in
theorem law_undo {p : Program} {l : Launch} {e : Env} {s : State} {m : MethodId} {below : List Frame} {meth : Method} {c : Code} {Q : State → Prop} {D : va_G} {cs : Nat → ClassId} {ca : Nat → Nat → Nat} {ma : Nat → Nat} {oa b L : Nat} {xs : Nat → Int32} {y : MethodName} {rt : Option FieldType} (hfl : l.stackTraces = false) (hE : kE p s m #[Value.ref b] meth c D cs y wsL_law cL_law 7 rt (lwA s)) (ho : RL = y.cls) (hX : XA s) (hXs : va_X b L xs s s.heap) (hbl : b < s.heap.size) (hLb : L ≤ 2048) {i : Nat} (hi : i + 4 ≤ L) {cells slots : Nat} (hc : cells ≤ 600000) (hs : slots ≤ 7000000) {cv : CV} {mv : MV} {f : Nat → Int64} {H : Heap} {locs : List Loc} {ls : Array Slot} (hT : TRel cv mv) (hS : va_S (lwA s) s.heap H locs) (hP : va_P D vwCl (lwW cs ca ma oa cv mv f) H) (hD : va_D (lwA s) (lwW cs ca ma oa cv mv f)) (hl : lv_has ls 7 [(0, .ref b), (1, .ref (ca 0 0)), (2, .ref (ma 0)), (3, .ref oa), (4, .int (nI i))]) (kk : lawK p l e s m below meth c D cs ca ma oa b i (cells + 1) (slots + 6) Q) : W p l e room_1 s m #[Value.ref b] below meth c H locs cells slots Q (F0 m 1038 ls []) := by
  obtain ⟨hx, hb, hr, hlocks, hml, hown, hts, hK, hA, hG, hnm⟩ := id hE
  have hown : s.vm.findClass RL = some m.cls := by rw [ho]; exact hown
  have hbA : ¬ lwA s b := Nat.not_le.mpr hbl
  refine lv_aload_n hx hb dL_law_1038 rfl (lv_at hl 1 rfl) ?_
  refine lv_aload_n hx hb dL_law_1039 rfl (lv_at hl 3 rfl) ?_
  obtain ⟨x, r, c2, e0⟩ : ∃ x r c2, k_X5_undo cv  = (x, r, c2) := ⟨_, _, _, rfl⟩
  obtain ⟨r6, m2, e6⟩ : ∃ r6 m2, k_X6_undo mv  = (r6, m2) := ⟨_, _, rfl⟩
  have hAG := T_undo hT 
  rw [e0, e6] at hAG
  obtain ⟨hT2, hcode, hans, hLx⟩ := hAG
  dsimp only at hT2 hcode hans hLx
  have hw := w_undo l hfl D cs ca cv c2 oa f  hT.2.1 x r e0 hLx
  refine kI_call (wc := lo cs oa f :: ca_W cs ca cv) (wr := md_W cs ma mv) (w1 := lo cs oa (if x = none then va_up f 0 r.toInt64 else f) :: ca_W cs ca c2) (r := cod [ISE] x) hE hP hD hS (k_rL (rest := []) (As := [.ref (ca 0 0), .ref oa]) hE hX ho (hw H.size) (vx_cwSW 2 hts gL_law_L_undo rfl rfl rfl (by decide +kernel) ⟨(Nat.le_of_ble_eq_true rfl), (Nat.le_of_ble_eq_true rfl)⟩) hP hD hS rfl hl rfl (Nat.le_of_ble_eq_true rfl) ⟨by show cells + 1 ≤ 601024; omega, by show slots + 6 ≤ 7293034; omega⟩ dL_law_1040) (fun H locs hP hD hS => ?_)
  refine lv_istore (lv' := [(5, .int (cod [ISE] x)), (0, .ref b), (1, .ref (ca 0 0)), (2, .ref (ma 0)), (3, .ref oa), (4, .int (nI i))]) hx hb dL_law_1043 hl (by decide) rfl (fun ls hl => ?_)
  refine lv_aload_n hx hb dL_law_1045 rfl (lv_at hl 3 rfl) ?_
  have hm := c_X6_undo l D cs ma mv  (TR_MO hT)
  rw [e6] at hm
  dsimp only at hm
  have hP := pmP List.perm_append_comm hP
  have hD := pmD List.perm_append_comm hD
  refine kI_call (wc := md_W cs ma mv) (wr := lo cs oa (if x = none then va_up f 0 r.toInt64 else f) :: ca_W cs ca c2) (w1 := md_W cs ma m2) (r := r6) hE hP hD hS (k_rV (rest := []) (As := []) hE ho (hm H.size) (cwV 0 hts gL_law_X6_undo rfl rfl rfl (by decide +kernel) ⟨(Nat.le_of_ble_eq_true rfl), (Nat.le_of_ble_eq_true rfl)⟩) hP hD hS (ci := 6) (q0 := 0) rfl rfl rfl hl rfl (Nat.le_of_ble_eq_true rfl) ⟨by show cells + 1 + 0 ≤ 601024; omega, by show slots + 6 + 0 ≤ 7293034; omega⟩ dL_law_1046) (fun H locs hP hD hS => ?_)
  refine lv_istore (lv' := [(6, .int r6), (5, .int (cod [ISE] x)), (0, .ref b), (1, .ref (ca 0 0)), (2, .ref (ma 0)), (3, .ref oa), (4, .int (nI i))]) hx hb dL_law_1049 hl (by decide) rfl (fun ls hl => ?_)
  refine lv_aload_n hx hb dL_law_1051 rfl (lv_at hl 4 rfl) ?_
  have ht := c_X6_thrown l D cs ma m2
  rw [show k_X6_thrown m2 = cod [ISE] x from hcode] at ht
  refine kI_call (wc := md_W cs ma m2) (wr := lo cs oa (if x = none then va_up f 0 r.toInt64 else f) :: ca_W cs ca c2) (w1 := md_W cs ma m2) (r := cod [ISE] x) hE hP hD hS (k_rV (rest := []) (As := []) hE ho (ht H.size) (cwV 0 hts gL_law_X6_thrown rfl rfl rfl (by decide +kernel) ⟨(Nat.le_of_ble_eq_true rfl), (Nat.le_of_ble_eq_true rfl)⟩) hP hD hS (ci := 6) (q0 := 0) rfl rfl rfl hl rfl (Nat.le_of_ble_eq_true rfl) ⟨by show cells + 1 + 0 + 0 ≤ 601024; omega, by show slots + 6 + 0 + 0 ≤ 7293034; omega⟩ dL_law_1052) (fun H locs hP hD hS => ?_)
  have hP : va_P D vwCl (lwW cs ca ma oa c2 m2 (if x = none then va_up f 0 r.toInt64 else f)) H := pmP List.perm_append_comm hP
  have hD : va_D (lwA s) (lwW cs ca ma oa c2 m2 (if x = none then va_up f 0 r.toInt64 else f)) := pmD List.perm_append_comm hD
  refine lv_iload hx hb dL_law_1055 (lv_at hl 1 rfl) ?_
  refine lv_icmp_eq (tgt := 1062) hx hb dL_law_1057 (by decide) (fun c9 => ?_) (fun c9 => absurd rfl c9)
  refine lv_iload hx hb dL_law_1062 (lv_at hl 1 rfl) ?_
  refine lv_if_ne (tgt := 1079) hx hb dL_law_1064 (by decide) (fun c8 => ?_) (fun c8 => ?_)
  · skip
    refine lv_goto (tgt := 1643) hx hb dL_law_1079 (by decide) ?_
    refine W.widen (k := cells + 1) (n := slots + 6) (by omega) (by omega) ?_
    exact kk c2 m2 _ H locs ls hT2 hS hP hD (lv_sub hl [2, 3, 4, 5, 6] rfl)
  · have hx0 := cod_0 (L := [ISE]) (by decide) hLx c8
    have hrr : r = r6 := hans hx0
    refine lv_aload_n hx hb dL_law_1067 rfl (lv_at hl 5 rfl) ?_
    refine lv_iconst (v := 0) hx hb dL_law_1068 (by decide) ?_
    refine k_lald (n := 1) (v := r6.toInt64) hx hb hK hP 0 4 rfl rfl (vp_in_iff.mpr (by decide)) (by rw [if_pos hx0, hrr]; exact va_eq f 0 r6.toInt64) dL_law_1069 ?_
    refine lv_iload hx hb dL_law_1070 (lv_at hl 0 rfl) ?_
    refine lv_i2l hx hb dL_law_1072 rfl ?_
    refine W.lcmp hx hb dL_law_1073 ?_
    refine lv_if_eq (tgt := 1079) hx hb dL_law_1074 (by decide) (fun c7 => ?_) (fun c7 => absurd ((lg_cmp_eq _ _).mpr rfl) c7)
    refine lv_goto (tgt := 1643) hx hb dL_law_1079 (by decide) ?_
    refine W.widen (k := cells + 1) (n := slots + 6) (by omega) (by omega) ?_
    exact kk c2 m2 _ H locs ls hT2 hS hP hD (lv_sub hl [2, 3, 4, 5, 6] rfl)
set_option maxHeartbeats 4000000 in
set_option maxRecDepth 100000 in
theorem law_doneIn {p : Program} {l : Launch} {e : Env} {s : State} {m : MethodId} {below : List Frame} {meth : Method} {c : Code} {Q : State → Prop} {D : va_G} {cs : Nat → ClassId} {ca : Nat → Nat → Nat} {ma : Nat → Nat} {oa b L : Nat} {xs : Nat → Int32} {y : MethodName} {rt : Option FieldType} (hfl : l.stackTraces = false) (hE : kE p s m #[Value.ref b] meth c D cs y wsL_law cL_law 7 rt (lwA s)) (ho : RL = y.cls) (hX : XA s) (hXs : va_X b L xs s s.heap) (hbl : b < s.heap.size) (hLb : L ≤ 2048) {i : Nat} (hi : i + 4 ≤ L) {cells slots : Nat} (hc : cells ≤ 600000) (hs : slots ≤ 7000000) {cv : CV} {mv : MV} {f : Nat → Int64} {H : Heap} {locs : List Loc} {ls : Array Slot} (hT : TRel cv mv) (hS : va_S (lwA s) s.heap H locs) (hP : va_P D vwCl (lwW cs ca ma oa cv mv f) H) (hD : va_D (lwA s) (lwW cs ca ma oa cv mv f)) (hl : lv_has ls 7 [(0, .ref b), (1, .ref (ca 0 0)), (2, .ref (ma 0)), (3, .ref oa), (4, .int (nI i))]) (kk : lawK p l e s m below meth c D cs ca ma oa b i (cells + 1) (slots + 6) Q) : W p l e room_1 s m #[Value.ref b] below meth c H locs cells slots Q (F0 m 1082 ls []) := by
  obtain ⟨hx, hb, hr, hlocks, hml, hown, hts, hK, hA, hG, hnm⟩ := id hE
  have hown : s.vm.findClass RL = some m.cls := by rw [ho]; exact hown
  have hbA : ¬ lwA s b := Nat.not_le.mpr hbl
  refine lv_aload_n hx hb dL_law_1082 rfl (lv_at hl 1 rfl) ?_
  refine lv_aload_n hx hb dL_law_1083 rfl (lv_at hl 0 rfl) ?_
  refine lv_iload hx hb dL_law_1084 (lv_at hl 4 rfl) ?_
  refine lv_iconst (v := 1) hx hb dL_law_1086 (by decide) ?_
  refine lv_iadd hx hb dL_law_1087 ?_
  rw [show (nI i + 1 : Int32) = nI (i + 1) from nI_add i 1]
  refine va_sld hx hb hXs hbl hbA hS (vp_in_nI (show i + 1 < L by omega) (by omega)) dL_law_1088 ?_
  rw [nI_clamp (show i + 1 < 2 ^ 31 by omega)]
  refine lv_aload_n hx hb dL_law_1089 rfl (lv_at hl 3 rfl) ?_
  obtain ⟨x, r, c2, e0⟩ : ∃ x r c2, k_X5_doneIn cv (xs (i + 1)) = (x, r, c2) := ⟨_, _, _, rfl⟩
  obtain ⟨r6, m2, e6⟩ : ∃ r6 m2, k_X6_doneIn mv (xs (i + 1)) = (r6, m2) := ⟨_, _, rfl⟩
  have hAG := T_done hT (xs (i + 1))
  rw [e0, e6] at hAG
  obtain ⟨hT2, hcode, hans, hLx⟩ := hAG
  dsimp only at hT2 hcode hans hLx
  have hw := w_doneIn l hfl D cs ca cv c2 oa f (xs (i + 1)) hT.2.1 x r e0 hLx
  refine kI_call (wc := lo cs oa f :: ca_W cs ca cv) (wr := md_W cs ma mv) (w1 := lo cs oa (if x = none then va_up f 0 r.toInt64 else f) :: ca_W cs ca c2) (r := cod [IOB] x) hE hP hD hS (k_rL (rest := []) (As := [.ref (ca 0 0), .int (xs (i + 1)), .ref oa]) hE hX ho (hw H.size) (vx_cwSW 3 hts gL_law_L_doneIn rfl rfl rfl (by decide +kernel) ⟨(Nat.le_of_ble_eq_true rfl), (Nat.le_of_ble_eq_true rfl)⟩) hP hD hS rfl hl rfl (Nat.le_of_ble_eq_true rfl) ⟨by show cells + 1 ≤ 601024; omega, by show slots + 6 ≤ 7293034; omega⟩ dL_law_1090) (fun H locs hP hD hS => ?_)
  refine lv_istore (lv' := [(5, .int (cod [IOB] x)), (0, .ref b), (1, .ref (ca 0 0)), (2, .ref (ma 0)), (3, .ref oa), (4, .int (nI i))]) hx hb dL_law_1093 hl (by decide) rfl (fun ls hl => ?_)
  refine lv_aload_n hx hb dL_law_1095 rfl (lv_at hl 3 rfl) ?_
  refine lv_aload_n hx hb dL_law_1096 rfl (lv_at hl 1 rfl) ?_
  refine lv_iload hx hb dL_law_1097 (lv_at hl 5 rfl) ?_
  refine lv_iconst (v := 1) hx hb dL_law_1099 (by decide) ?_
  refine lv_iadd hx hb dL_law_1100 ?_
  rw [show (nI i + 1 : Int32) = nI (i + 1) from nI_add i 1]
  refine va_sld hx hb hXs hbl hbA hS (vp_in_nI (show i + 1 < L by omega) (by omega)) dL_law_1101 ?_
  rw [nI_clamp (show i + 1 < 2 ^ 31 by omega)]
  have hm := c_X6_doneIn l D cs ma mv (xs (i + 1)) (TR_MO hT)
  rw [e6] at hm
  dsimp only at hm
  have hP := pmP List.perm_append_comm hP
  have hD := pmD List.perm_append_comm hD
  refine kI_call (wc := md_W cs ma mv) (wr := lo cs oa (if x = none then va_up f 0 r.toInt64 else f) :: ca_W cs ca c2) (w1 := md_W cs ma m2) (r := r6) hE hP hD hS (k_rV (rest := []) (As := [.int (xs (i + 1))]) hE ho (hm H.size) (cwV 1 hts gL_law_X6_doneIn rfl rfl rfl (by decide +kernel) ⟨(Nat.le_of_ble_eq_true rfl), (Nat.le_of_ble_eq_true rfl)⟩) hP hD hS (ci := 6) (q0 := 0) rfl rfl rfl hl rfl (Nat.le_of_ble_eq_true rfl) ⟨by show cells + 1 + 0 ≤ 601024; omega, by show slots + 6 + 0 ≤ 7293034; omega⟩ dL_law_1102) (fun H locs hP hD hS => ?_)
  refine lv_istore (lv' := [(6, .int r6), (5, .int (cod [IOB] x)), (0, .ref b), (1, .ref (ca 0 0)), (2, .ref (ma 0)), (3, .ref oa), (4, .int (nI i))]) hx hb dL_law_1105 hl (by decide) rfl (fun ls hl => ?_)
  refine lv_aload_n hx hb dL_law_1107 rfl (lv_at hl 4 rfl) ?_
  have ht := c_X6_thrown l D cs ma m2
  rw [show k_X6_thrown m2 = cod [IOB] x from hcode] at ht
  refine kI_call (wc := md_W cs ma m2) (wr := lo cs oa (if x = none then va_up f 0 r.toInt64 else f) :: ca_W cs ca c2) (w1 := md_W cs ma m2) (r := cod [IOB] x) hE hP hD hS (k_rV (rest := []) (As := []) hE ho (ht H.size) (cwV 0 hts gL_law_X6_thrown rfl rfl rfl (by decide +kernel) ⟨(Nat.le_of_ble_eq_true rfl), (Nat.le_of_ble_eq_true rfl)⟩) hP hD hS (ci := 6) (q0 := 0) rfl rfl rfl hl rfl (Nat.le_of_ble_eq_true rfl) ⟨by show cells + 1 + 0 + 0 ≤ 601024; omega, by show slots + 6 + 0 + 0 ≤ 7293034; omega⟩ dL_law_1108) (fun H locs hP hD hS => ?_)
  have hP : va_P D vwCl (lwW cs ca ma oa c2 m2 (if x = none then va_up f 0 r.toInt64 else f)) H := pmP List.perm_append_comm hP
  have hD : va_D (lwA s) (lwW cs ca ma oa c2 m2 (if x = none then va_up f 0 r.toInt64 else f)) := pmD List.perm_append_comm hD
  refine lv_iload hx hb dL_law_1111 (lv_at hl 1 rfl) ?_
  refine lv_icmp_eq (tgt := 1118) hx hb dL_law_1113 (by decide) (fun c9 => ?_) (fun c9 => absurd rfl c9)
  refine lv_iload hx hb dL_law_1118 (lv_at hl 1 rfl) ?_
  refine lv_if_ne (tgt := 1135) hx hb dL_law_1120 (by decide) (fun c8 => ?_) (fun c8 => ?_)
  · skip
    refine lv_goto (tgt := 1643) hx hb dL_law_1135 (by decide) ?_
    refine W.widen (k := cells + 1) (n := slots + 6) (by omega) (by omega) ?_
    exact kk c2 m2 _ H locs ls hT2 hS hP hD (lv_sub hl [2, 3, 4, 5, 6] rfl)
  · have hx0 := cod_0 (L := [IOB]) (by decide) hLx c8
    have hrr : r = r6 := hans hx0
    refine lv_aload_n hx hb dL_law_1123 rfl (lv_at hl 5 rfl) ?_
    refine lv_iconst (v := 0) hx hb dL_law_1124 (by decide) ?_
    refine k_lald (n := 1) (v := r6.toInt64) hx hb hK hP 0 4 rfl rfl (vp_in_iff.mpr (by decide)) (by rw [if_pos hx0, hrr]; exact va_eq f 0 r6.toInt64) dL_law_1125 ?_
    refine lv_iload hx hb dL_law_1126 (lv_at hl 0 rfl) ?_
    refine lv_i2l hx hb dL_law_1128 rfl ?_
    refine W.lcmp hx hb dL_law_1129 ?_
    refine lv_if_eq (tgt := 1135) hx hb dL_law_1130 (by decide) (fun c7 => ?_) (fun c7 => absurd ((lg_cmp_eq _ _).mpr rfl) c7)
    refine lv_goto (tgt := 1643) hx hb dL_law_1135 (by decide) ?_
    refine W.widen (k := cells + 1) (n := slots + 6) (by omega) (by omega) ?_
    exact kk c2 m2 _ H locs ls hT2 hS hP hD (lv_sub hl [2, 3, 4, 5, 6] rfl)
set_option maxHeartbeats 4000000 in
set_option maxRecDepth 100000 in
theorem law_soundsIn {p : Program} {l : Launch} {e : Env} {s : State} {m : MethodId} {below : List Frame} {meth : Method} {c : Code} {Q : State → Prop} {D : va_G} {cs : Nat → ClassId} {ca : Nat → Nat → Nat} {ma : Nat → Nat} {oa b L : Nat} {xs : Nat → Int32} {y : MethodName} {rt : Option FieldType} (hfl : l.stackTraces = false) (hE : kE p s m #[Value.ref b] meth c D cs y wsL_law cL_law 7 rt (lwA s)) (ho : RL = y.cls) (hX : XA s) (hXs : va_X b L xs s s.heap) (hbl : b < s.heap.size) (hLb : L ≤ 2048) {i : Nat} (hi : i + 4 ≤ L) {cells slots : Nat} (hc : cells ≤ 600000) (hs : slots ≤ 7000000) {cv : CV} {mv : MV} {f : Nat → Int64} {H : Heap} {locs : List Loc} {ls : Array Slot} (hT : TRel cv mv) (hS : va_S (lwA s) s.heap H locs) (hP : va_P D vwCl (lwW cs ca ma oa cv mv f) H) (hD : va_D (lwA s) (lwW cs ca ma oa cv mv f)) (hl : lv_has ls 7 [(0, .ref b), (1, .ref (ca 0 0)), (2, .ref (ma 0)), (3, .ref oa), (4, .int (nI i))]) (kk : lawK p l e s m below meth c D cs ca ma oa b i (cells + 1) (slots + 6) Q) : W p l e room_1 s m #[Value.ref b] below meth c H locs cells slots Q (F0 m 1138 ls []) := by
  obtain ⟨hx, hb, hr, hlocks, hml, hown, hts, hK, hA, hG, hnm⟩ := id hE
  have hown : s.vm.findClass RL = some m.cls := by rw [ho]; exact hown
  have hbA : ¬ lwA s b := Nat.not_le.mpr hbl
  refine lv_aload_n hx hb dL_law_1138 rfl (lv_at hl 1 rfl) ?_
  refine lv_aload_n hx hb dL_law_1139 rfl (lv_at hl 0 rfl) ?_
  refine lv_iload hx hb dL_law_1140 (lv_at hl 4 rfl) ?_
  refine lv_iconst (v := 1) hx hb dL_law_1142 (by decide) ?_
  refine lv_iadd hx hb dL_law_1143 ?_
  rw [show (nI i + 1 : Int32) = nI (i + 1) from nI_add i 1]
  refine va_sld hx hb hXs hbl hbA hS (vp_in_nI (show i + 1 < L by omega) (by omega)) dL_law_1144 ?_
  rw [nI_clamp (show i + 1 < 2 ^ 31 by omega)]
  refine lv_aload_n hx hb dL_law_1145 rfl (lv_at hl 3 rfl) ?_
  obtain ⟨x, r, c2, e0⟩ : ∃ x r c2, k_X5_soundsIn cv (xs (i + 1)) = (x, r, c2) := ⟨_, _, _, rfl⟩
  obtain ⟨r6, m2, e6⟩ : ∃ r6 m2, k_X6_soundsIn mv (xs (i + 1)) = (r6, m2) := ⟨_, _, rfl⟩
  have hAG := T_sounds hT (xs (i + 1))
  rw [e0, e6] at hAG
  obtain ⟨hT2, hcode, hans, hLx⟩ := hAG
  dsimp only at hT2 hcode hans hLx
  have hw := w_soundsIn l hfl D cs ca cv c2 oa f (xs (i + 1)) hT.2.1 x r e0 hLx
  refine kI_call (wc := lo cs oa f :: ca_W cs ca cv) (wr := md_W cs ma mv) (w1 := lo cs oa (if x = none then va_up f 0 r.toInt64 else f) :: ca_W cs ca c2) (r := cod [IOB] x) hE hP hD hS (k_rL (rest := []) (As := [.ref (ca 0 0), .int (xs (i + 1)), .ref oa]) hE hX ho (hw H.size) (vx_cwSW 3 hts gL_law_L_soundsIn rfl rfl rfl (by decide +kernel) ⟨(Nat.le_of_ble_eq_true rfl), (Nat.le_of_ble_eq_true rfl)⟩) hP hD hS rfl hl rfl (Nat.le_of_ble_eq_true rfl) ⟨by show cells + 1 ≤ 601024; omega, by show slots + 6 ≤ 7293034; omega⟩ dL_law_1146) (fun H locs hP hD hS => ?_)
  refine lv_istore (lv' := [(5, .int (cod [IOB] x)), (0, .ref b), (1, .ref (ca 0 0)), (2, .ref (ma 0)), (3, .ref oa), (4, .int (nI i))]) hx hb dL_law_1149 hl (by decide) rfl (fun ls hl => ?_)
  refine lv_aload_n hx hb dL_law_1151 rfl (lv_at hl 3 rfl) ?_
  refine lv_aload_n hx hb dL_law_1152 rfl (lv_at hl 1 rfl) ?_
  refine lv_iload hx hb dL_law_1153 (lv_at hl 5 rfl) ?_
  refine lv_iconst (v := 1) hx hb dL_law_1155 (by decide) ?_
  refine lv_iadd hx hb dL_law_1156 ?_
  rw [show (nI i + 1 : Int32) = nI (i + 1) from nI_add i 1]
  refine va_sld hx hb hXs hbl hbA hS (vp_in_nI (show i + 1 < L by omega) (by omega)) dL_law_1157 ?_
  rw [nI_clamp (show i + 1 < 2 ^ 31 by omega)]
  have hm := c_X6_soundsIn l D cs ma mv (xs (i + 1)) (TR_MO hT)
  rw [e6] at hm
  dsimp only at hm
  have hP := pmP List.perm_append_comm hP
  have hD := pmD List.perm_append_comm hD
  refine kI_call (wc := md_W cs ma mv) (wr := lo cs oa (if x = none then va_up f 0 r.toInt64 else f) :: ca_W cs ca c2) (w1 := md_W cs ma m2) (r := r6) hE hP hD hS (k_rV (rest := []) (As := [.int (xs (i + 1))]) hE ho (hm H.size) (cwV 1 hts gL_law_X6_soundsIn rfl rfl rfl (by decide +kernel) ⟨(Nat.le_of_ble_eq_true rfl), (Nat.le_of_ble_eq_true rfl)⟩) hP hD hS (ci := 6) (q0 := 0) rfl rfl rfl hl rfl (Nat.le_of_ble_eq_true rfl) ⟨by show cells + 1 + 0 ≤ 601024; omega, by show slots + 6 + 0 ≤ 7293034; omega⟩ dL_law_1158) (fun H locs hP hD hS => ?_)
  refine lv_istore (lv' := [(6, .int r6), (5, .int (cod [IOB] x)), (0, .ref b), (1, .ref (ca 0 0)), (2, .ref (ma 0)), (3, .ref oa), (4, .int (nI i))]) hx hb dL_law_1161 hl (by decide) rfl (fun ls hl => ?_)
  refine lv_aload_n hx hb dL_law_1163 rfl (lv_at hl 4 rfl) ?_
  have ht := c_X6_thrown l D cs ma m2
  rw [show k_X6_thrown m2 = cod [IOB] x from hcode] at ht
  refine kI_call (wc := md_W cs ma m2) (wr := lo cs oa (if x = none then va_up f 0 r.toInt64 else f) :: ca_W cs ca c2) (w1 := md_W cs ma m2) (r := cod [IOB] x) hE hP hD hS (k_rV (rest := []) (As := []) hE ho (ht H.size) (cwV 0 hts gL_law_X6_thrown rfl rfl rfl (by decide +kernel) ⟨(Nat.le_of_ble_eq_true rfl), (Nat.le_of_ble_eq_true rfl)⟩) hP hD hS (ci := 6) (q0 := 0) rfl rfl rfl hl rfl (Nat.le_of_ble_eq_true rfl) ⟨by show cells + 1 + 0 + 0 ≤ 601024; omega, by show slots + 6 + 0 + 0 ≤ 7293034; omega⟩ dL_law_1164) (fun H locs hP hD hS => ?_)
  have hP : va_P D vwCl (lwW cs ca ma oa c2 m2 (if x = none then va_up f 0 r.toInt64 else f)) H := pmP List.perm_append_comm hP
  have hD : va_D (lwA s) (lwW cs ca ma oa c2 m2 (if x = none then va_up f 0 r.toInt64 else f)) := pmD List.perm_append_comm hD
  refine lv_iload hx hb dL_law_1167 (lv_at hl 1 rfl) ?_
  refine lv_icmp_eq (tgt := 1174) hx hb dL_law_1169 (by decide) (fun c9 => ?_) (fun c9 => absurd rfl c9)
  refine lv_iload hx hb dL_law_1174 (lv_at hl 1 rfl) ?_
  refine lv_if_ne (tgt := 1191) hx hb dL_law_1176 (by decide) (fun c8 => ?_) (fun c8 => ?_)
  · skip
    refine lv_goto (tgt := 1643) hx hb dL_law_1191 (by decide) ?_
    refine W.widen (k := cells + 1) (n := slots + 6) (by omega) (by omega) ?_
    exact kk c2 m2 _ H locs ls hT2 hS hP hD (lv_sub hl [2, 3, 4, 5, 6] rfl)
  · have hx0 := cod_0 (L := [IOB]) (by decide) hLx c8
    have hrr : r = r6 := hans hx0
    refine lv_aload_n hx hb dL_law_1179 rfl (lv_at hl 5 rfl) ?_
    refine lv_iconst (v := 0) hx hb dL_law_1180 (by decide) ?_
    refine k_lald (n := 1) (v := r6.toInt64) hx hb hK hP 0 4 rfl rfl (vp_in_iff.mpr (by decide)) (by rw [if_pos hx0, hrr]; exact va_eq f 0 r6.toInt64) dL_law_1181 ?_
    refine lv_iload hx hb dL_law_1182 (lv_at hl 0 rfl) ?_
    refine lv_i2l hx hb dL_law_1184 rfl ?_
    refine W.lcmp hx hb dL_law_1185 ?_
    refine lv_if_eq (tgt := 1191) hx hb dL_law_1186 (by decide) (fun c7 => ?_) (fun c7 => absurd ((lg_cmp_eq _ _).mpr rfl) c7)
    refine lv_goto (tgt := 1643) hx hb dL_law_1191 (by decide) ?_
    refine W.widen (k := cells + 1) (n := slots + 6) (by omega) (by omega) ?_
    exact kk c2 m2 _ H locs ls hT2 hS hP hD (lv_sub hl [2, 3, 4, 5, 6] rfl)
set_option maxHeartbeats 4000000 in
set_option maxRecDepth 100000 in
theorem law_leastSpeed {p : Program} {l : Launch} {e : Env} {s : State} {m : MethodId} {below : List Frame} {meth : Method} {c : Code} {Q : State → Prop} {D : va_G} {cs : Nat → ClassId} {ca : Nat → Nat → Nat} {ma : Nat → Nat} {oa b L : Nat} {xs : Nat → Int32} {y : MethodName} {rt : Option FieldType} (hfl : l.stackTraces = false) (hE : kE p s m #[Value.ref b] meth c D cs y wsL_law cL_law 7 rt (lwA s)) (ho : RL = y.cls) (hX : XA s) (hXs : va_X b L xs s s.heap) (hbl : b < s.heap.size) (hLb : L ≤ 2048) {i : Nat} (hi : i + 4 ≤ L) {cells slots : Nat} (hc : cells ≤ 600000) (hs : slots ≤ 7000000) {cv : CV} {mv : MV} {f : Nat → Int64} {H : Heap} {locs : List Loc} {ls : Array Slot} (hT : TRel cv mv) (hS : va_S (lwA s) s.heap H locs) (hP : va_P D vwCl (lwW cs ca ma oa cv mv f) H) (hD : va_D (lwA s) (lwW cs ca ma oa cv mv f)) (hl : lv_has ls 7 [(0, .ref b), (1, .ref (ca 0 0)), (2, .ref (ma 0)), (3, .ref oa), (4, .int (nI i))]) (kk : lawK p l e s m below meth c D cs ca ma oa b i (cells + 1) (slots + 6) Q) : W p l e room_1 s m #[Value.ref b] below meth c H locs cells slots Q (F0 m 1194 ls []) := by
  obtain ⟨hx, hb, hr, hlocks, hml, hown, hts, hK, hA, hG, hnm⟩ := id hE
  have hown : s.vm.findClass RL = some m.cls := by rw [ho]; exact hown
  have hbA : ¬ lwA s b := Nat.not_le.mpr hbl
  refine lv_aload_n hx hb dL_law_1194 rfl (lv_at hl 1 rfl) ?_
  refine lv_aload_n hx hb dL_law_1195 rfl (lv_at hl 0 rfl) ?_
  refine lv_iload hx hb dL_law_1196 (lv_at hl 4 rfl) ?_
  refine lv_iconst (v := 1) hx hb dL_law_1198 (by decide) ?_
  refine lv_iadd hx hb dL_law_1199 ?_
  rw [show (nI i + 1 : Int32) = nI (i + 1) from nI_add i 1]
  refine va_sld hx hb hXs hbl hbA hS (vp_in_nI (show i + 1 < L by omega) (by omega)) dL_law_1200 ?_
  rw [nI_clamp (show i + 1 < 2 ^ 31 by omega)]
  refine lv_aload_n hx hb dL_law_1201 rfl (lv_at hl 3 rfl) ?_
  obtain ⟨x, r, c2, e0⟩ : ∃ x r c2, k_X5_leastSpeed cv (xs (i + 1)) = (x, r, c2) := ⟨_, _, _, rfl⟩
  obtain ⟨r6, m2, e6⟩ : ∃ r6 m2, k_X6_leastSpeed mv (xs (i + 1)) = (r6, m2) := ⟨_, _, rfl⟩
  have hAG := T_least hT (xs (i + 1))
  rw [e0, e6] at hAG
  obtain ⟨hT2, hcode, hans, hLx⟩ := hAG
  dsimp only at hT2 hcode hans hLx
  have hw := w_leastSpeed l hfl D cs ca cv c2 oa f (xs (i + 1)) hT.2.1 x r e0 hLx
  refine kI_call (wc := lo cs oa f :: ca_W cs ca cv) (wr := md_W cs ma mv) (w1 := lo cs oa (if x = none then va_up f 0 r.toInt64 else f) :: ca_W cs ca c2) (r := cod [IAE] x) hE hP hD hS (k_rL (rest := []) (As := [.ref (ca 0 0), .int (xs (i + 1)), .ref oa]) hE hX ho (hw H.size) (vx_cwSW 3 hts gL_law_L_leastSpeed rfl rfl rfl (by decide +kernel) ⟨(Nat.le_of_ble_eq_true rfl), (Nat.le_of_ble_eq_true rfl)⟩) hP hD hS rfl hl rfl (Nat.le_of_ble_eq_true rfl) ⟨by show cells + 1 ≤ 601024; omega, by show slots + 6 ≤ 7293034; omega⟩ dL_law_1202) (fun H locs hP hD hS => ?_)
  refine lv_istore (lv' := [(5, .int (cod [IAE] x)), (0, .ref b), (1, .ref (ca 0 0)), (2, .ref (ma 0)), (3, .ref oa), (4, .int (nI i))]) hx hb dL_law_1205 hl (by decide) rfl (fun ls hl => ?_)
  refine lv_aload_n hx hb dL_law_1207 rfl (lv_at hl 3 rfl) ?_
  refine lv_aload_n hx hb dL_law_1208 rfl (lv_at hl 1 rfl) ?_
  refine lv_iload hx hb dL_law_1209 (lv_at hl 5 rfl) ?_
  refine lv_iconst (v := 1) hx hb dL_law_1211 (by decide) ?_
  refine lv_iadd hx hb dL_law_1212 ?_
  rw [show (nI i + 1 : Int32) = nI (i + 1) from nI_add i 1]
  refine va_sld hx hb hXs hbl hbA hS (vp_in_nI (show i + 1 < L by omega) (by omega)) dL_law_1213 ?_
  rw [nI_clamp (show i + 1 < 2 ^ 31 by omega)]
  have hm := c_X6_leastSpeed l D cs ma mv (xs (i + 1)) (TR_MO hT)
  rw [e6] at hm
  dsimp only at hm
  have hP := pmP List.perm_append_comm hP
  have hD := pmD List.perm_append_comm hD
  refine kI_call (wc := md_W cs ma mv) (wr := lo cs oa (if x = none then va_up f 0 r.toInt64 else f) :: ca_W cs ca c2) (w1 := md_W cs ma m2) (r := r6) hE hP hD hS (k_rV (rest := []) (As := [.int (xs (i + 1))]) hE ho (hm H.size) (cwV 1 hts gL_law_X6_leastSpeed rfl rfl rfl (by decide +kernel) ⟨(Nat.le_of_ble_eq_true rfl), (Nat.le_of_ble_eq_true rfl)⟩) hP hD hS (ci := 6) (q0 := 0) rfl rfl rfl hl rfl (Nat.le_of_ble_eq_true rfl) ⟨by show cells + 1 + 0 ≤ 601024; omega, by show slots + 6 + 0 ≤ 7293034; omega⟩ dL_law_1214) (fun H locs hP hD hS => ?_)
  refine lv_istore (lv' := [(6, .int r6), (5, .int (cod [IAE] x)), (0, .ref b), (1, .ref (ca 0 0)), (2, .ref (ma 0)), (3, .ref oa), (4, .int (nI i))]) hx hb dL_law_1217 hl (by decide) rfl (fun ls hl => ?_)
  refine lv_aload_n hx hb dL_law_1219 rfl (lv_at hl 4 rfl) ?_
  have ht := c_X6_thrown l D cs ma m2
  rw [show k_X6_thrown m2 = cod [IAE] x from hcode] at ht
  refine kI_call (wc := md_W cs ma m2) (wr := lo cs oa (if x = none then va_up f 0 r.toInt64 else f) :: ca_W cs ca c2) (w1 := md_W cs ma m2) (r := cod [IAE] x) hE hP hD hS (k_rV (rest := []) (As := []) hE ho (ht H.size) (cwV 0 hts gL_law_X6_thrown rfl rfl rfl (by decide +kernel) ⟨(Nat.le_of_ble_eq_true rfl), (Nat.le_of_ble_eq_true rfl)⟩) hP hD hS (ci := 6) (q0 := 0) rfl rfl rfl hl rfl (Nat.le_of_ble_eq_true rfl) ⟨by show cells + 1 + 0 + 0 ≤ 601024; omega, by show slots + 6 + 0 + 0 ≤ 7293034; omega⟩ dL_law_1220) (fun H locs hP hD hS => ?_)
  have hP : va_P D vwCl (lwW cs ca ma oa c2 m2 (if x = none then va_up f 0 r.toInt64 else f)) H := pmP List.perm_append_comm hP
  have hD : va_D (lwA s) (lwW cs ca ma oa c2 m2 (if x = none then va_up f 0 r.toInt64 else f)) := pmD List.perm_append_comm hD
  refine lv_iload hx hb dL_law_1223 (lv_at hl 1 rfl) ?_
  refine lv_icmp_eq (tgt := 1230) hx hb dL_law_1225 (by decide) (fun c9 => ?_) (fun c9 => absurd rfl c9)
  refine lv_iload hx hb dL_law_1230 (lv_at hl 1 rfl) ?_
  refine lv_if_ne (tgt := 1247) hx hb dL_law_1232 (by decide) (fun c8 => ?_) (fun c8 => ?_)
  · skip
    refine lv_goto (tgt := 1643) hx hb dL_law_1247 (by decide) ?_
    refine W.widen (k := cells + 1) (n := slots + 6) (by omega) (by omega) ?_
    exact kk c2 m2 _ H locs ls hT2 hS hP hD (lv_sub hl [2, 3, 4, 5, 6] rfl)
  · have hx0 := cod_0 (L := [IAE]) (by decide) hLx c8
    have hrr : r = r6 := hans hx0
    refine lv_aload_n hx hb dL_law_1235 rfl (lv_at hl 5 rfl) ?_
    refine lv_iconst (v := 0) hx hb dL_law_1236 (by decide) ?_
    refine k_lald (n := 1) (v := r6.toInt64) hx hb hK hP 0 4 rfl rfl (vp_in_iff.mpr (by decide)) (by rw [if_pos hx0, hrr]; exact va_eq f 0 r6.toInt64) dL_law_1237 ?_
    refine lv_iload hx hb dL_law_1238 (lv_at hl 0 rfl) ?_
    refine lv_i2l hx hb dL_law_1240 rfl ?_
    refine W.lcmp hx hb dL_law_1241 ?_
    refine lv_if_eq (tgt := 1247) hx hb dL_law_1242 (by decide) (fun c7 => ?_) (fun c7 => absurd ((lg_cmp_eq _ _).mpr rfl) c7)
    refine lv_goto (tgt := 1643) hx hb dL_law_1247 (by decide) ?_
    refine W.widen (k := cells + 1) (n := slots + 6) (by omega) (by omega) ?_
    exact kk c2 m2 _ H locs ls hT2 hS hP hD (lv_sub hl [2, 3, 4, 5, 6] rfl)
set_option maxHeartbeats 4000000 in
set_option maxRecDepth 100000 in
theorem law_fullest {p : Program} {l : Launch} {e : Env} {s : State} {m : MethodId} {below : List Frame} {meth : Method} {c : Code} {Q : State → Prop} {D : va_G} {cs : Nat → ClassId} {ca : Nat → Nat → Nat} {ma : Nat → Nat} {oa b L : Nat} {xs : Nat → Int32} {y : MethodName} {rt : Option FieldType} (hfl : l.stackTraces = false) (hE : kE p s m #[Value.ref b] meth c D cs y wsL_law cL_law 7 rt (lwA s)) (ho : RL = y.cls) (hX : XA s) (hXs : va_X b L xs s s.heap) (hbl : b < s.heap.size) (hLb : L ≤ 2048) {i : Nat} (hi : i + 4 ≤ L) {cells slots : Nat} (hc : cells ≤ 600000) (hs : slots ≤ 7000000) {cv : CV} {mv : MV} {f : Nat → Int64} {H : Heap} {locs : List Loc} {ls : Array Slot} (hT : TRel cv mv) (hS : va_S (lwA s) s.heap H locs) (hP : va_P D vwCl (lwW cs ca ma oa cv mv f) H) (hD : va_D (lwA s) (lwW cs ca ma oa cv mv f)) (hl : lv_has ls 7 [(0, .ref b), (1, .ref (ca 0 0)), (2, .ref (ma 0)), (3, .ref oa), (4, .int (nI i))]) (kk : lawK p l e s m below meth c D cs ca ma oa b i (cells + 1) (slots + 6) Q) : W p l e room_1 s m #[Value.ref b] below meth c H locs cells slots Q (F0 m 1250 ls []) := by
  obtain ⟨hx, hb, hr, hlocks, hml, hown, hts, hK, hA, hG, hnm⟩ := id hE
  have hown : s.vm.findClass RL = some m.cls := by rw [ho]; exact hown
  have hbA : ¬ lwA s b := Nat.not_le.mpr hbl
  refine lv_aload_n hx hb dL_law_1250 rfl (lv_at hl 1 rfl) ?_
  skip
  obtain ⟨r6, m2, e6⟩ : ∃ r6 m2, k_X6_fullest mv = (r6, m2) := ⟨_, _, rfl⟩
  obtain ⟨hT2, hans⟩ := T_full hT
  rw [e6] at hT2 hans
  dsimp only at hT2 hans
  have hw := c_X5_fullest l D cs ca cv hT.2.1
  have hP : va_P D vwCl (ca_W cs ca cv ++ (lo cs oa f :: md_W cs ma mv)) H := pmP List.perm_middle.symm hP
  have hD : va_D (lwA s) (ca_W cs ca cv ++ (lo cs oa f :: md_W cs ma mv)) := pmD List.perm_middle.symm hD
  refine kI_call (wc := ca_W cs ca cv) (wr := lo cs oa f :: md_W cs ma mv) (w1 := ca_W cs ca cv) (r := (k_X5_fullest cv)) hE hP hD hS (k_rV (rest := []) (As := []) hE ho (hw H.size) (cwV 0 hts gL_law_X5_fullest rfl rfl rfl (by decide +kernel) ⟨(Nat.le_of_ble_eq_true rfl), (Nat.le_of_ble_eq_true rfl)⟩) hP hD hS (ci := 5) (q0 := 0) rfl rfl rfl hl rfl (Nat.le_of_ble_eq_true rfl) ⟨by show cells + 0 ≤ 601024; omega, by show slots + 0 ≤ 7293034; omega⟩ dL_law_1251) (fun H locs hP hD hS => ?_)
  refine lv_aload_n hx hb dL_law_1254 rfl (lv_at hl 2 rfl) ?_
  have hm := c_X6_fullest l D cs ma mv (TR_MO hT)
  rw [e6] at hm
  dsimp only at hm
  have hP : va_P D vwCl (md_W cs ma mv ++ (lo cs oa f :: ca_W cs ca cv)) H := pmP (List.perm_middle.trans (List.perm_append_comm (l₁ := lo cs oa f :: ca_W cs ca cv) (l₂ := md_W cs ma mv))) hP
  have hD : va_D (lwA s) (md_W cs ma mv ++ (lo cs oa f :: ca_W cs ca cv)) := pmD (List.perm_middle.trans (List.perm_append_comm (l₁ := lo cs oa f :: ca_W cs ca cv) (l₂ := md_W cs ma mv))) hD
  refine kI_call (wc := md_W cs ma mv) (wr := lo cs oa f :: ca_W cs ca cv) (w1 := md_W cs ma m2) (r := r6) hE hP hD hS (k_rV (rest := [.int (k_X5_fullest cv)]) (As := []) hE ho (hm H.size) (cwV 0 hts gL_law_X6_fullest rfl rfl rfl (by decide +kernel) ⟨(Nat.le_of_ble_eq_true rfl), (Nat.le_of_ble_eq_true rfl)⟩) hP hD hS (ci := 6) (q0 := 0) rfl rfl rfl hl rfl (Nat.le_of_ble_eq_true rfl) ⟨by show cells + 0 + 0 ≤ 601024; omega, by show slots + 0 + 0 ≤ 7293034; omega⟩ dL_law_1255) (fun H locs hP hD hS => ?_)
  have hP : va_P D vwCl (lwW cs ca ma oa cv m2 f) H := pmP List.perm_append_comm hP
  have hD : va_D (lwA s) (lwW cs ca ma oa cv m2 f) := pmD List.perm_append_comm hD
  refine lv_icmp_eq (tgt := 1643) hx hb dL_law_1258 (by decide) (fun c9 => ?_) (fun c9 => absurd hans c9)
  refine W.widen (k := cells + 1) (n := slots + 6) (by omega) (by omega) ?_
  exact kk cv m2 f H locs ls hT2 hS hP hD (lv_sub hl [0, 1, 2, 3, 4] rfl)
set_option maxHeartbeats 4000000 in
set_option maxRecDepth 100000 in
theorem law_room {p : Program} {l : Launch} {e : Env} {s : State} {m : MethodId} {below : List Frame} {meth : Method} {c : Code} {Q : State → Prop} {D : va_G} {cs : Nat → ClassId} {ca : Nat → Nat → Nat} {ma : Nat → Nat} {oa b L : Nat} {xs : Nat → Int32} {y : MethodName} {rt : Option FieldType} (hfl : l.stackTraces = false) (hE : kE p s m #[Value.ref b] meth c D cs y wsL_law cL_law 7 rt (lwA s)) (ho : RL = y.cls) (hX : XA s) (hXs : va_X b L xs s s.heap) (hbl : b < s.heap.size) (hLb : L ≤ 2048) {i : Nat} (hi : i + 4 ≤ L) {cells slots : Nat} (hc : cells ≤ 600000) (hs : slots ≤ 7000000) {cv : CV} {mv : MV} {f : Nat → Int64} {H : Heap} {locs : List Loc} {ls : Array Slot} (hT : TRel cv mv) (hS : va_S (lwA s) s.heap H locs) (hP : va_P D vwCl (lwW cs ca ma oa cv mv f) H) (hD : va_D (lwA s) (lwW cs ca ma oa cv mv f)) (hl : lv_has ls 7 [(0, .ref b), (1, .ref (ca 0 0)), (2, .ref (ma 0)), (3, .ref oa), (4, .int (nI i))]) (kk : lawK p l e s m below meth c D cs ca ma oa b i (cells + 1) (slots + 6) Q) : W p l e room_1 s m #[Value.ref b] below meth c H locs cells slots Q (F0 m 1263 ls []) := by
  obtain ⟨hx, hb, hr, hlocks, hml, hown, hts, hK, hA, hG, hnm⟩ := id hE
  have hown : s.vm.findClass RL = some m.cls := by rw [ho]; exact hown
  have hbA : ¬ lwA s b := Nat.not_le.mpr hbl
  refine lv_aload_n hx hb dL_law_1263 rfl (lv_at hl 1 rfl) ?_
  refine lv_aload_n hx hb dL_law_1264 rfl (lv_at hl 0 rfl) ?_
  refine lv_iload hx hb dL_law_1265 (lv_at hl 4 rfl) ?_
  refine lv_iconst (v := 1) hx hb dL_law_1267 (by decide) ?_
  refine lv_iadd hx hb dL_law_1268 ?_
  rw [show (nI i + 1 : Int32) = nI (i + 1) from nI_add i 1]
  refine va_sld hx hb hXs hbl hbA hS (vp_in_nI (show i + 1 < L by omega) (by omega)) dL_law_1269 ?_
  rw [nI_clamp (show i + 1 < 2 ^ 31 by omega)]
  refine lv_aload_n hx hb dL_law_1270 rfl (lv_at hl 0 rfl) ?_
  refine lv_iload hx hb dL_law_1271 (lv_at hl 4 rfl) ?_
  refine lv_iconst (v := 2) hx hb dL_law_1273 (by decide) ?_
  refine lv_iadd hx hb dL_law_1274 ?_
  rw [show (nI i + 2 : Int32) = nI (i + 2) from nI_add i 2]
  refine va_sld hx hb hXs hbl hbA hS (vp_in_nI (show i + 2 < L by omega) (by omega)) dL_law_1275 ?_
  rw [nI_clamp (show i + 2 < 2 ^ 31 by omega)]
  refine lv_aload_n hx hb dL_law_1276 rfl (lv_at hl 3 rfl) ?_
  obtain ⟨x, r, c2, e0⟩ : ∃ x r c2, k_X5_room cv (xs (i + 1)) (xs (i + 2)) = (x, r, c2) := ⟨_, _, _, rfl⟩
  obtain ⟨r6, m2, e6⟩ : ∃ r6 m2, k_X6_room mv (xs (i + 1)) (xs (i + 2)) = (r6, m2) := ⟨_, _, rfl⟩
  have hAG := T_room hT (xs (i + 1)) (xs (i + 2))
  rw [e0, e6] at hAG
  obtain ⟨hT2, hcode, hans, hLx⟩ := hAG
  dsimp only at hT2 hcode hans hLx
  have hw := w_room l hfl D cs ca cv c2 oa f (xs (i + 1)) (xs (i + 2)) hT.2.1 x r e0 hLx
  refine kI_call (wc := lo cs oa f :: ca_W cs ca cv) (wr := md_W cs ma mv) (w1 := lo cs oa (if x = none then va_up f 0 r.toInt64 else f) :: ca_W cs ca c2) (r := cod [IOB, IAE] x) hE hP hD hS (k_rL (rest := []) (As := [.ref (ca 0 0), .int (xs (i + 1)), .int (xs (i + 2)), .ref oa]) hE hX ho (hw H.size) (vx_cwSW 4 hts gL_law_L_room rfl rfl rfl (by decide +kernel) ⟨(Nat.le_of_ble_eq_true rfl), (Nat.le_of_ble_eq_true rfl)⟩) hP hD hS rfl hl rfl (Nat.le_of_ble_eq_true rfl) ⟨by show cells + 1 ≤ 601024; omega, by show slots + 6 ≤ 7293034; omega⟩ dL_law_1277) (fun H locs hP hD hS => ?_)
  refine lv_istore (lv' := [(5, .int (cod [IOB, IAE] x)), (0, .ref b), (1, .ref (ca 0 0)), (2, .ref (ma 0)), (3, .ref oa), (4, .int (nI i))]) hx hb dL_law_1280 hl (by decide) rfl (fun ls hl => ?_)
  refine lv_aload_n hx hb dL_law_1282 rfl (lv_at hl 3 rfl) ?_
  refine lv_aload_n hx hb dL_law_1283 rfl (lv_at hl 1 rfl) ?_
  refine lv_iload hx hb dL_law_1284 (lv_at hl 5 rfl) ?_
  refine lv_iconst (v := 1) hx hb dL_law_1286 (by decide) ?_
  refine lv_iadd hx hb dL_law_1287 ?_
  rw [show (nI i + 1 : Int32) = nI (i + 1) from nI_add i 1]
  refine va_sld hx hb hXs hbl hbA hS (vp_in_nI (show i + 1 < L by omega) (by omega)) dL_law_1288 ?_
  rw [nI_clamp (show i + 1 < 2 ^ 31 by omega)]
  refine lv_aload_n hx hb dL_law_1289 rfl (lv_at hl 1 rfl) ?_
  refine lv_iload hx hb dL_law_1290 (lv_at hl 5 rfl) ?_
  refine lv_iconst (v := 2) hx hb dL_law_1292 (by decide) ?_
  refine lv_iadd hx hb dL_law_1293 ?_
  rw [show (nI i + 2 : Int32) = nI (i + 2) from nI_add i 2]
  refine va_sld hx hb hXs hbl hbA hS (vp_in_nI (show i + 2 < L by omega) (by omega)) dL_law_1294 ?_
  rw [nI_clamp (show i + 2 < 2 ^ 31 by omega)]
  have hm := c_X6_room l D cs ma mv (xs (i + 1)) (xs (i + 2)) (TR_MO hT)
  rw [e6] at hm
  dsimp only at hm
  have hP := pmP List.perm_append_comm hP
  have hD := pmD List.perm_append_comm hD
  refine kI_call (wc := md_W cs ma mv) (wr := lo cs oa (if x = none then va_up f 0 r.toInt64 else f) :: ca_W cs ca c2) (w1 := md_W cs ma m2) (r := r6) hE hP hD hS (k_rV (rest := []) (As := [.int (xs (i + 1)), .int (xs (i + 2))]) hE ho (hm H.size) (cwV 2 hts gL_law_X6_room rfl rfl rfl (by decide +kernel) ⟨(Nat.le_of_ble_eq_true rfl), (Nat.le_of_ble_eq_true rfl)⟩) hP hD hS (ci := 6) (q0 := 0) rfl rfl rfl hl rfl (Nat.le_of_ble_eq_true rfl) ⟨by show cells + 1 + 0 ≤ 601024; omega, by show slots + 6 + 0 ≤ 7293034; omega⟩ dL_law_1295) (fun H locs hP hD hS => ?_)
  refine lv_istore (lv' := [(6, .int r6), (5, .int (cod [IOB, IAE] x)), (0, .ref b), (1, .ref (ca 0 0)), (2, .ref (ma 0)), (3, .ref oa), (4, .int (nI i))]) hx hb dL_law_1298 hl (by decide) rfl (fun ls hl => ?_)
  refine lv_aload_n hx hb dL_law_1300 rfl (lv_at hl 4 rfl) ?_
  have ht := c_X6_thrown l D cs ma m2
  rw [show k_X6_thrown m2 = cod [IOB, IAE] x from hcode] at ht
  refine kI_call (wc := md_W cs ma m2) (wr := lo cs oa (if x = none then va_up f 0 r.toInt64 else f) :: ca_W cs ca c2) (w1 := md_W cs ma m2) (r := cod [IOB, IAE] x) hE hP hD hS (k_rV (rest := []) (As := []) hE ho (ht H.size) (cwV 0 hts gL_law_X6_thrown rfl rfl rfl (by decide +kernel) ⟨(Nat.le_of_ble_eq_true rfl), (Nat.le_of_ble_eq_true rfl)⟩) hP hD hS (ci := 6) (q0 := 0) rfl rfl rfl hl rfl (Nat.le_of_ble_eq_true rfl) ⟨by show cells + 1 + 0 + 0 ≤ 601024; omega, by show slots + 6 + 0 + 0 ≤ 7293034; omega⟩ dL_law_1301) (fun H locs hP hD hS => ?_)
  have hP : va_P D vwCl (lwW cs ca ma oa c2 m2 (if x = none then va_up f 0 r.toInt64 else f)) H := pmP List.perm_append_comm hP
  have hD : va_D (lwA s) (lwW cs ca ma oa c2 m2 (if x = none then va_up f 0 r.toInt64 else f)) := pmD List.perm_append_comm hD
  refine lv_iload hx hb dL_law_1304 (lv_at hl 1 rfl) ?_
  refine lv_icmp_eq (tgt := 1311) hx hb dL_law_1306 (by decide) (fun c9 => ?_) (fun c9 => absurd rfl c9)
  refine lv_iload hx hb dL_law_1311 (lv_at hl 1 rfl) ?_
  refine lv_if_ne (tgt := 1328) hx hb dL_law_1313 (by decide) (fun c8 => ?_) (fun c8 => ?_)
  · skip
    refine lv_goto (tgt := 1643) hx hb dL_law_1328 (by decide) ?_
    refine W.widen (k := cells + 1) (n := slots + 6) (by omega) (by omega) ?_
    exact kk c2 m2 _ H locs ls hT2 hS hP hD (lv_sub hl [2, 3, 4, 5, 6] rfl)
  · have hx0 := cod_0 (L := [IOB, IAE]) (by decide) hLx c8
    have hrr : r = r6 := hans hx0
    refine lv_aload_n hx hb dL_law_1316 rfl (lv_at hl 5 rfl) ?_
    refine lv_iconst (v := 0) hx hb dL_law_1317 (by decide) ?_
    refine k_lald (n := 1) (v := r6.toInt64) hx hb hK hP 0 4 rfl rfl (vp_in_iff.mpr (by decide)) (by rw [if_pos hx0, hrr]; exact va_eq f 0 r6.toInt64) dL_law_1318 ?_
    refine lv_iload hx hb dL_law_1319 (lv_at hl 0 rfl) ?_
    refine lv_i2l hx hb dL_law_1321 rfl ?_
    refine W.lcmp hx hb dL_law_1322 ?_
    refine lv_if_eq (tgt := 1328) hx hb dL_law_1323 (by decide) (fun c7 => ?_) (fun c7 => absurd ((lg_cmp_eq _ _).mpr rfl) c7)
    refine lv_goto (tgt := 1643) hx hb dL_law_1328 (by decide) ?_
    refine W.widen (k := cells + 1) (n := slots + 6) (by omega) (by omega) ?_
    exact kk c2 m2 _ H locs ls hT2 hS hP hD (lv_sub hl [2, 3, 4, 5, 6] rfl)
set_option maxHeartbeats 4000000 in
set_option maxRecDepth 100000 in
theorem law_runScript {p : Program} {l : Launch} {e : Env} {s : State} {m : MethodId} {below : List Frame} {meth : Method} {c : Code} {Q : State → Prop} {D : va_G} {cs : Nat → ClassId} {ca : Nat → Nat → Nat} {ma : Nat → Nat} {oa b L : Nat} {xs : Nat → Int32} {y : MethodName} {rt : Option FieldType} (hfl : l.stackTraces = false) (hE : kE p s m #[Value.ref b] meth c D cs y wsL_law cL_law 7 rt (lwA s)) (ho : RL = y.cls) (hX : XA s) (hXs : va_X b L xs s s.heap) (hbl : b < s.heap.size) (hLb : L ≤ 2048) {i : Nat} (hi : i + 4 ≤ L) {cells slots : Nat} (hc : cells ≤ 600000) (hs : slots ≤ 7000000) {cv : CV} {mv : MV} {f : Nat → Int64} {H : Heap} {locs : List Loc} {ls : Array Slot} (hT : TRel cv mv) (hS : va_S (lwA s) s.heap H locs) (hP : va_P D vwCl (lwW cs ca ma oa cv mv f) H) (hD : va_D (lwA s) (lwW cs ca ma oa cv mv f)) (hl : lv_has ls 7 [(0, .ref b), (1, .ref (ca 0 0)), (2, .ref (ma 0)), (3, .ref oa), (4, .int (nI i))]) (kk : lawK p l e s m below meth c D cs ca ma oa b i (cells + 1) (slots + 6) Q) : W p l e room_1 s m #[Value.ref b] below meth c H locs cells slots Q (F0 m 1331 ls []) := by
  obtain ⟨hx, hb, hr, hlocks, hml, hown, hts, hK, hA, hG, hnm⟩ := id hE
  have hown : s.vm.findClass RL = some m.cls := by rw [ho]; exact hown
  have hbA : ¬ lwA s b := Nat.not_le.mpr hbl
  refine lv_aload_n hx hb dL_law_1331 rfl (lv_at hl 1 rfl) ?_
  refine lv_aload_n hx hb dL_law_1332 rfl (lv_at hl 0 rfl) ?_
  refine lv_iload hx hb dL_law_1333 (lv_at hl 4 rfl) ?_
  refine lv_iconst (v := 1) hx hb dL_law_1335 (by decide) ?_
  refine lv_iadd hx hb dL_law_1336 ?_
  rw [show (nI i + 1 : Int32) = nI (i + 1) from nI_add i 1]
  refine va_sld hx hb hXs hbl hbA hS (vp_in_nI (show i + 1 < L by omega) (by omega)) dL_law_1337 ?_
  rw [nI_clamp (show i + 1 < 2 ^ 31 by omega)]
  refine lv_aload_n hx hb dL_law_1338 rfl (lv_at hl 0 rfl) ?_
  refine lv_iload hx hb dL_law_1339 (lv_at hl 4 rfl) ?_
  refine lv_iconst (v := 2) hx hb dL_law_1341 (by decide) ?_
  refine lv_iadd hx hb dL_law_1342 ?_
  rw [show (nI i + 2 : Int32) = nI (i + 2) from nI_add i 2]
  refine va_sld hx hb hXs hbl hbA hS (vp_in_nI (show i + 2 < L by omega) (by omega)) dL_law_1343 ?_
  rw [nI_clamp (show i + 2 < 2 ^ 31 by omega)]
  refine lv_i2l hx hb dL_law_1344 rfl ?_
  refine lv_bipush (v := 32) hx hb dL_law_1345 (by decide) ?_
  refine lv_lshl hx hb dL_law_1347 rfl ?_
  refine lv_aload_n hx hb dL_law_1348 rfl (lv_at hl 0 rfl) ?_
  refine lv_iload hx hb dL_law_1349 (lv_at hl 4 rfl) ?_
  refine lv_iconst (v := 3) hx hb dL_law_1351 (by decide) ?_
  refine lv_iadd hx hb dL_law_1352 ?_
  rw [show (nI i + 3 : Int32) = nI (i + 3) from nI_add i 3]
  refine va_sld hx hb hXs hbl hbA hS (vp_in_nI (show i + 3 < L by omega) (by omega)) dL_law_1353 ?_
  rw [nI_clamp (show i + 3 < 2 ^ 31 by omega)]
  refine lv_i2l hx hb dL_law_1354 rfl ?_
  refine lv_ldc2 (v := 4294967295) hx hb hown (hts (.constantLong RL 172 4294967295) (by decide +kernel)) dL_law_1355 ?_
  refine lv_land hx hb dL_law_1358 ?_
  refine lv_lor hx hb dL_law_1359 ?_
  refine lv_topl (fun z1 ez1 => ?_)
  refine lv_aload_n hx hb dL_law_1360 rfl (lv_at hl 3 rfl) ?_
  obtain ⟨x, r, c2, e0⟩ : ∃ x r c2, k_X5_runScript cv (xs (i + 1)) z1 = (x, r, c2) := ⟨_, _, _, rfl⟩
  obtain ⟨r6, m2, e6⟩ : ∃ r6 m2, k_X6_runScript mv (xs (i + 1)) z1 = (r6, m2) := ⟨_, _, rfl⟩
  have hAG := T_script hT (xs (i + 1)) z1
  rw [e0, e6] at hAG
  obtain ⟨hT2, hcode, hans, hLx⟩ := hAG
  dsimp only at hT2 hcode hans hLx
  have hw := w_runScript l hfl D cs ca cv c2 oa f (xs (i + 1)) z1 hT.2.1 x r e0 hLx
  refine kI_call (wc := lo cs oa f :: ca_W cs ca cv) (wr := md_W cs ma mv) (w1 := lo cs oa (if x = none then va_up f 0 r.toInt64 else f) :: ca_W cs ca c2) (r := cod [IAE] x) hE hP hD hS (k_rL (rest := []) (As := [.ref (ca 0 0), .int (xs (i + 1)), .long z1, .ref oa]) hE hX ho (hw H.size) (vx_cwSW 4 hts gL_law_L_runScript rfl rfl rfl (by decide +kernel) ⟨(Nat.le_of_ble_eq_true rfl), (Nat.le_of_ble_eq_true rfl)⟩) hP hD hS rfl hl rfl (Nat.le_of_ble_eq_true rfl) ⟨by show cells + 1 ≤ 601024; omega, by show slots + 6 ≤ 7293034; omega⟩ dL_law_1361) (fun H locs hP hD hS => ?_)
  refine lv_istore (lv' := [(5, .int (cod [IAE] x)), (0, .ref b), (1, .ref (ca 0 0)), (2, .ref (ma 0)), (3, .ref oa), (4, .int (nI i))]) hx hb dL_law_1364 hl (by decide) rfl (fun ls hl => ?_)
  refine lv_aload_n hx hb dL_law_1366 rfl (lv_at hl 3 rfl) ?_
  refine lv_aload_n hx hb dL_law_1367 rfl (lv_at hl 1 rfl) ?_
  refine lv_iload hx hb dL_law_1368 (lv_at hl 5 rfl) ?_
  refine lv_iconst (v := 1) hx hb dL_law_1370 (by decide) ?_
  refine lv_iadd hx hb dL_law_1371 ?_
  rw [show (nI i + 1 : Int32) = nI (i + 1) from nI_add i 1]
  refine va_sld hx hb hXs hbl hbA hS (vp_in_nI (show i + 1 < L by omega) (by omega)) dL_law_1372 ?_
  rw [nI_clamp (show i + 1 < 2 ^ 31 by omega)]
  refine lv_aload_n hx hb dL_law_1373 rfl (lv_at hl 1 rfl) ?_
  refine lv_iload hx hb dL_law_1374 (lv_at hl 5 rfl) ?_
  refine lv_iconst (v := 2) hx hb dL_law_1376 (by decide) ?_
  refine lv_iadd hx hb dL_law_1377 ?_
  rw [show (nI i + 2 : Int32) = nI (i + 2) from nI_add i 2]
  refine va_sld hx hb hXs hbl hbA hS (vp_in_nI (show i + 2 < L by omega) (by omega)) dL_law_1378 ?_
  rw [nI_clamp (show i + 2 < 2 ^ 31 by omega)]
  refine lv_i2l hx hb dL_law_1379 rfl ?_
  refine lv_bipush (v := 32) hx hb dL_law_1380 (by decide) ?_
  refine lv_lshl hx hb dL_law_1382 rfl ?_
  refine lv_aload_n hx hb dL_law_1383 rfl (lv_at hl 1 rfl) ?_
  refine lv_iload hx hb dL_law_1384 (lv_at hl 5 rfl) ?_
  refine lv_iconst (v := 3) hx hb dL_law_1386 (by decide) ?_
  refine lv_iadd hx hb dL_law_1387 ?_
  rw [show (nI i + 3 : Int32) = nI (i + 3) from nI_add i 3]
  refine va_sld hx hb hXs hbl hbA hS (vp_in_nI (show i + 3 < L by omega) (by omega)) dL_law_1388 ?_
  rw [nI_clamp (show i + 3 < 2 ^ 31 by omega)]
  refine lv_i2l hx hb dL_law_1389 rfl ?_
  refine lv_ldc2 (v := 4294967295) hx hb hown (hts (.constantLong RL 172 4294967295) (by decide +kernel)) dL_law_1390 ?_
  refine lv_land hx hb dL_law_1393 ?_
  refine lv_lor hx hb dL_law_1394 ?_
  refine lv_topl (fun z2 ez2 => ?_)
  have ez9 : z2 = z1 := ez2.trans ez1.symm
  subst ez9
  have hm := c_X6_runScript l D cs ma mv (xs (i + 1)) z2 (TR_MO hT)
  rw [show k_X6_runScript mv (xs (i + 1)) z2 = (r6, m2) from e6] at hm
  dsimp only at hm
  have hP := pmP List.perm_append_comm hP
  have hD := pmD List.perm_append_comm hD
  refine kI_call (wc := md_W cs ma mv) (wr := lo cs oa (if x = none then va_up f 0 r.toInt64 else f) :: ca_W cs ca c2) (w1 := md_W cs ma m2) (r := r6) hE hP hD hS (k_rV (rest := []) (As := [.int (xs (i + 1)), .long z2]) hE ho (hm H.size) (cwV 2 hts gL_law_X6_runScript rfl rfl rfl (by decide +kernel) ⟨(Nat.le_of_ble_eq_true rfl), (Nat.le_of_ble_eq_true rfl)⟩) hP hD hS (ci := 6) (q0 := 0) rfl rfl rfl hl rfl (Nat.le_of_ble_eq_true rfl) ⟨by show cells + 1 + 0 ≤ 601024; omega, by show slots + 6 + 0 ≤ 7293034; omega⟩ dL_law_1395) (fun H locs hP hD hS => ?_)
  refine lv_istore (lv' := [(6, .int r6), (5, .int (cod [IAE] x)), (0, .ref b), (1, .ref (ca 0 0)), (2, .ref (ma 0)), (3, .ref oa), (4, .int (nI i))]) hx hb dL_law_1398 hl (by decide) rfl (fun ls hl => ?_)
  refine lv_aload_n hx hb dL_law_1400 rfl (lv_at hl 4 rfl) ?_
  have ht := c_X6_thrown l D cs ma m2
  rw [show k_X6_thrown m2 = cod [IAE] x from hcode] at ht
  refine kI_call (wc := md_W cs ma m2) (wr := lo cs oa (if x = none then va_up f 0 r.toInt64 else f) :: ca_W cs ca c2) (w1 := md_W cs ma m2) (r := cod [IAE] x) hE hP hD hS (k_rV (rest := []) (As := []) hE ho (ht H.size) (cwV 0 hts gL_law_X6_thrown rfl rfl rfl (by decide +kernel) ⟨(Nat.le_of_ble_eq_true rfl), (Nat.le_of_ble_eq_true rfl)⟩) hP hD hS (ci := 6) (q0 := 0) rfl rfl rfl hl rfl (Nat.le_of_ble_eq_true rfl) ⟨by show cells + 1 + 0 + 0 ≤ 601024; omega, by show slots + 6 + 0 + 0 ≤ 7293034; omega⟩ dL_law_1401) (fun H locs hP hD hS => ?_)
  have hP : va_P D vwCl (lwW cs ca ma oa c2 m2 (if x = none then va_up f 0 r.toInt64 else f)) H := pmP List.perm_append_comm hP
  have hD : va_D (lwA s) (lwW cs ca ma oa c2 m2 (if x = none then va_up f 0 r.toInt64 else f)) := pmD List.perm_append_comm hD
  refine lv_iload hx hb dL_law_1404 (lv_at hl 1 rfl) ?_
  refine lv_icmp_eq (tgt := 1411) hx hb dL_law_1406 (by decide) (fun c9 => ?_) (fun c9 => absurd rfl c9)
  refine lv_iload hx hb dL_law_1411 (lv_at hl 1 rfl) ?_
  refine lv_if_ne (tgt := 1428) hx hb dL_law_1413 (by decide) (fun c8 => ?_) (fun c8 => ?_)
  · skip
    refine lv_goto (tgt := 1643) hx hb dL_law_1428 (by decide) ?_
    refine W.widen (k := cells + 1) (n := slots + 6) (by omega) (by omega) ?_
    exact kk c2 m2 _ H locs ls hT2 hS hP hD (lv_sub hl [2, 3, 4, 5, 6] rfl)
  · have hx0 := cod_0 (L := [IAE]) (by decide) hLx c8
    have hrr : r = r6 := hans hx0
    refine lv_aload_n hx hb dL_law_1416 rfl (lv_at hl 5 rfl) ?_
    refine lv_iconst (v := 0) hx hb dL_law_1417 (by decide) ?_
    refine k_lald (n := 1) (v := r6.toInt64) hx hb hK hP 0 4 rfl rfl (vp_in_iff.mpr (by decide)) (by rw [if_pos hx0, hrr]; exact va_eq f 0 r6.toInt64) dL_law_1418 ?_
    refine lv_iload hx hb dL_law_1419 (lv_at hl 0 rfl) ?_
    refine lv_i2l hx hb dL_law_1421 rfl ?_
    refine W.lcmp hx hb dL_law_1422 ?_
    refine lv_if_eq (tgt := 1428) hx hb dL_law_1423 (by decide) (fun c7 => ?_) (fun c7 => absurd ((lg_cmp_eq _ _).mpr rfl) c7)
    refine lv_goto (tgt := 1643) hx hb dL_law_1428 (by decide) ?_
    refine W.widen (k := cells + 1) (n := slots + 6) (by omega) (by omega) ?_
    exact kk c2 m2 _ H locs ls hT2 hS hP hD (lv_sub hl [2, 3, 4, 5, 6] rfl)
set_option maxHeartbeats 4000000 in
set_option maxRecDepth 100000 in
theorem law_simulate {p : Program} {l : Launch} {e : Env} {s : State} {m : MethodId} {below : List Frame} {meth : Method} {c : Code} {Q : State → Prop} {D : va_G} {cs : Nat → ClassId} {ca : Nat → Nat → Nat} {ma : Nat → Nat} {oa b L : Nat} {xs : Nat → Int32} {y : MethodName} {rt : Option FieldType} (hfl : l.stackTraces = false) (hE : kE p s m #[Value.ref b] meth c D cs y wsL_law cL_law 7 rt (lwA s)) (ho : RL = y.cls) (hX : XA s) (hXs : va_X b L xs s s.heap) (hbl : b < s.heap.size) (hLb : L ≤ 2048) {i : Nat} (hi : i + 4 ≤ L) {cells slots : Nat} (hc : cells ≤ 600000) (hs : slots ≤ 7000000) {cv : CV} {mv : MV} {f : Nat → Int64} {H : Heap} {locs : List Loc} {ls : Array Slot} (hT : TRel cv mv) (hS : va_S (lwA s) s.heap H locs) (hP : va_P D vwCl (lwW cs ca ma oa cv mv f) H) (hD : va_D (lwA s) (lwW cs ca ma oa cv mv f)) (hl : lv_has ls 7 [(0, .ref b), (1, .ref (ca 0 0)), (2, .ref (ma 0)), (3, .ref oa), (4, .int (nI i))]) (kk : lawK p l e s m below meth c D cs ca ma oa b i (cells + 1) (slots + 6) Q) : W p l e room_1 s m #[Value.ref b] below meth c H locs cells slots Q (F0 m 1431 ls []) := by
  obtain ⟨hx, hb, hr, hlocks, hml, hown, hts, hK, hA, hG, hnm⟩ := id hE
  have hown : s.vm.findClass RL = some m.cls := by rw [ho]; exact hown
  have hbA : ¬ lwA s b := Nat.not_le.mpr hbl
  refine lv_aload_n hx hb dL_law_1431 rfl (lv_at hl 1 rfl) ?_
  refine lv_aload_n hx hb dL_law_1432 rfl (lv_at hl 0 rfl) ?_
  refine lv_iload hx hb dL_law_1433 (lv_at hl 4 rfl) ?_
  refine lv_iconst (v := 1) hx hb dL_law_1435 (by decide) ?_
  refine lv_iadd hx hb dL_law_1436 ?_
  rw [show (nI i + 1 : Int32) = nI (i + 1) from nI_add i 1]
  refine va_sld hx hb hXs hbl hbA hS (vp_in_nI (show i + 1 < L by omega) (by omega)) dL_law_1437 ?_
  rw [nI_clamp (show i + 1 < 2 ^ 31 by omega)]
  refine lv_i2l hx hb dL_law_1438 rfl ?_
  refine lv_bipush (v := 32) hx hb dL_law_1439 (by decide) ?_
  refine lv_lshl hx hb dL_law_1441 rfl ?_
  refine lv_aload_n hx hb dL_law_1442 rfl (lv_at hl 0 rfl) ?_
  refine lv_iload hx hb dL_law_1443 (lv_at hl 4 rfl) ?_
  refine lv_iconst (v := 2) hx hb dL_law_1445 (by decide) ?_
  refine lv_iadd hx hb dL_law_1446 ?_
  rw [show (nI i + 2 : Int32) = nI (i + 2) from nI_add i 2]
  refine va_sld hx hb hXs hbl hbA hS (vp_in_nI (show i + 2 < L by omega) (by omega)) dL_law_1447 ?_
  rw [nI_clamp (show i + 2 < 2 ^ 31 by omega)]
  refine lv_i2l hx hb dL_law_1448 rfl ?_
  refine lv_ldc2 (v := 4294967295) hx hb hown (hts (.constantLong RL 172 4294967295) (by decide +kernel)) dL_law_1449 ?_
  refine lv_land hx hb dL_law_1452 ?_
  refine lv_lor hx hb dL_law_1453 ?_
  refine lv_topl (fun z1 ez1 => ?_)
  refine lv_aload_n hx hb dL_law_1454 rfl (lv_at hl 0 rfl) ?_
  refine lv_iload hx hb dL_law_1455 (lv_at hl 4 rfl) ?_
  refine lv_iconst (v := 3) hx hb dL_law_1457 (by decide) ?_
  refine lv_iadd hx hb dL_law_1458 ?_
  rw [show (nI i + 3 : Int32) = nI (i + 3) from nI_add i 3]
  refine va_sld hx hb hXs hbl hbA hS (vp_in_nI (show i + 3 < L by omega) (by omega)) dL_law_1459 ?_
  rw [nI_clamp (show i + 3 < 2 ^ 31 by omega)]
  refine lv_aload_n hx hb dL_law_1460 rfl (lv_at hl 3 rfl) ?_
  obtain ⟨x, r, c2, e0⟩ : ∃ x r c2, k_X5_simulate cv z1 (xs (i + 3)) = (x, r, c2) := ⟨_, _, _, rfl⟩
  obtain ⟨r6, m2, e6⟩ : ∃ r6 m2, k_X6_simulate mv z1 (xs (i + 3)) = (r6, m2) := ⟨_, _, rfl⟩
  have hAG := T_sim hT z1 (xs (i + 3))
  rw [e0, e6] at hAG
  obtain ⟨hT2, hcode, hans, hLx⟩ := hAG
  dsimp only at hT2 hcode hans hLx
  have hw := w_simulate l hfl D cs ca cv c2 oa f z1 (xs (i + 3)) hT.2.1 x r e0 hLx
  refine kI_call (wc := lo cs oa f :: ca_W cs ca cv) (wr := md_W cs ma mv) (w1 := lo cs oa (if x = none then va_up f 0 r.toInt64 else f) :: ca_W cs ca c2) (r := cod [IAE] x) hE hP hD hS (k_rL (rest := []) (As := [.ref (ca 0 0), .long z1, .int (xs (i + 3)), .ref oa]) hE hX ho (hw H.size) (vx_cwSW 4 hts gL_law_L_simulate rfl rfl rfl (by decide +kernel) ⟨(Nat.le_of_ble_eq_true rfl), (Nat.le_of_ble_eq_true rfl)⟩) hP hD hS rfl hl rfl (Nat.le_of_ble_eq_true rfl) ⟨by show cells + 1 ≤ 601024; omega, by show slots + 6 ≤ 7293034; omega⟩ dL_law_1461) (fun H locs hP hD hS => ?_)
  refine lv_istore (lv' := [(5, .int (cod [IAE] x)), (0, .ref b), (1, .ref (ca 0 0)), (2, .ref (ma 0)), (3, .ref oa), (4, .int (nI i))]) hx hb dL_law_1464 hl (by decide) rfl (fun ls hl => ?_)
  refine lv_aload_n hx hb dL_law_1466 rfl (lv_at hl 3 rfl) ?_
  refine lv_aload_n hx hb dL_law_1467 rfl (lv_at hl 1 rfl) ?_
  refine lv_iload hx hb dL_law_1468 (lv_at hl 5 rfl) ?_
  refine lv_iconst (v := 1) hx hb dL_law_1470 (by decide) ?_
  refine lv_iadd hx hb dL_law_1471 ?_
  rw [show (nI i + 1 : Int32) = nI (i + 1) from nI_add i 1]
  refine va_sld hx hb hXs hbl hbA hS (vp_in_nI (show i + 1 < L by omega) (by omega)) dL_law_1472 ?_
  rw [nI_clamp (show i + 1 < 2 ^ 31 by omega)]
  refine lv_i2l hx hb dL_law_1473 rfl ?_
  refine lv_bipush (v := 32) hx hb dL_law_1474 (by decide) ?_
  refine lv_lshl hx hb dL_law_1476 rfl ?_
  refine lv_aload_n hx hb dL_law_1477 rfl (lv_at hl 1 rfl) ?_
  refine lv_iload hx hb dL_law_1478 (lv_at hl 5 rfl) ?_
  refine lv_iconst (v := 2) hx hb dL_law_1480 (by decide) ?_
  refine lv_iadd hx hb dL_law_1481 ?_
  rw [show (nI i + 2 : Int32) = nI (i + 2) from nI_add i 2]
  refine va_sld hx hb hXs hbl hbA hS (vp_in_nI (show i + 2 < L by omega) (by omega)) dL_law_1482 ?_
  rw [nI_clamp (show i + 2 < 2 ^ 31 by omega)]
  refine lv_i2l hx hb dL_law_1483 rfl ?_
  refine lv_ldc2 (v := 4294967295) hx hb hown (hts (.constantLong RL 172 4294967295) (by decide +kernel)) dL_law_1484 ?_
  refine lv_land hx hb dL_law_1487 ?_
  refine lv_lor hx hb dL_law_1488 ?_
  refine lv_topl (fun z2 ez2 => ?_)
  have ez9 : z2 = z1 := ez2.trans ez1.symm
  subst ez9
  refine lv_aload_n hx hb dL_law_1489 rfl (lv_at hl 1 rfl) ?_
  refine lv_iload hx hb dL_law_1490 (lv_at hl 5 rfl) ?_
  refine lv_iconst (v := 3) hx hb dL_law_1492 (by decide) ?_
  refine lv_iadd hx hb dL_law_1493 ?_
  rw [show (nI i + 3 : Int32) = nI (i + 3) from nI_add i 3]
  refine va_sld hx hb hXs hbl hbA hS (vp_in_nI (show i + 3 < L by omega) (by omega)) dL_law_1494 ?_
  rw [nI_clamp (show i + 3 < 2 ^ 31 by omega)]
  have hm := c_X6_simulate l D cs ma mv z2 (xs (i + 3)) (TR_MO hT)
  rw [show k_X6_simulate mv z2 (xs (i + 3)) = (r6, m2) from e6] at hm
  dsimp only at hm
  have hP := pmP List.perm_append_comm hP
  have hD := pmD List.perm_append_comm hD
  refine kI_call (wc := md_W cs ma mv) (wr := lo cs oa (if x = none then va_up f 0 r.toInt64 else f) :: ca_W cs ca c2) (w1 := md_W cs ma m2) (r := r6) hE hP hD hS (k_rV (rest := []) (As := [.long z2, .int (xs (i + 3))]) hE ho (hm H.size) (cwV 2 hts gL_law_X6_simulate rfl rfl rfl (by decide +kernel) ⟨(Nat.le_of_ble_eq_true rfl), (Nat.le_of_ble_eq_true rfl)⟩) hP hD hS (ci := 6) (q0 := 0) rfl rfl rfl hl rfl (Nat.le_of_ble_eq_true rfl) ⟨by show cells + 1 + 0 ≤ 601024; omega, by show slots + 6 + 0 ≤ 7293034; omega⟩ dL_law_1495) (fun H locs hP hD hS => ?_)
  refine lv_istore (lv' := [(6, .int r6), (5, .int (cod [IAE] x)), (0, .ref b), (1, .ref (ca 0 0)), (2, .ref (ma 0)), (3, .ref oa), (4, .int (nI i))]) hx hb dL_law_1498 hl (by decide) rfl (fun ls hl => ?_)
  refine lv_aload_n hx hb dL_law_1500 rfl (lv_at hl 4 rfl) ?_
  have ht := c_X6_thrown l D cs ma m2
  rw [show k_X6_thrown m2 = cod [IAE] x from hcode] at ht
  refine kI_call (wc := md_W cs ma m2) (wr := lo cs oa (if x = none then va_up f 0 r.toInt64 else f) :: ca_W cs ca c2) (w1 := md_W cs ma m2) (r := cod [IAE] x) hE hP hD hS (k_rV (rest := []) (As := []) hE ho (ht H.size) (cwV 0 hts gL_law_X6_thrown rfl rfl rfl (by decide +kernel) ⟨(Nat.le_of_ble_eq_true rfl), (Nat.le_of_ble_eq_true rfl)⟩) hP hD hS (ci := 6) (q0 := 0) rfl rfl rfl hl rfl (Nat.le_of_ble_eq_true rfl) ⟨by show cells + 1 + 0 + 0 ≤ 601024; omega, by show slots + 6 + 0 + 0 ≤ 7293034; omega⟩ dL_law_1501) (fun H locs hP hD hS => ?_)
  have hP : va_P D vwCl (lwW cs ca ma oa c2 m2 (if x = none then va_up f 0 r.toInt64 else f)) H := pmP List.perm_append_comm hP
  have hD : va_D (lwA s) (lwW cs ca ma oa c2 m2 (if x = none then va_up f 0 r.toInt64 else f)) := pmD List.perm_append_comm hD
  refine lv_iload hx hb dL_law_1504 (lv_at hl 1 rfl) ?_
  refine lv_icmp_eq (tgt := 1511) hx hb dL_law_1506 (by decide) (fun c9 => ?_) (fun c9 => absurd rfl c9)
  refine lv_iload hx hb dL_law_1511 (lv_at hl 1 rfl) ?_
  refine lv_if_ne (tgt := 1528) hx hb dL_law_1513 (by decide) (fun c8 => ?_) (fun c8 => ?_)
  · skip
    refine lv_goto (tgt := 1643) hx hb dL_law_1528 (by decide) ?_
    refine W.widen (k := cells + 1) (n := slots + 6) (by omega) (by omega) ?_
    exact kk c2 m2 _ H locs ls hT2 hS hP hD (lv_sub hl [2, 3, 4, 5, 6] rfl)
  · have hx0 := cod_0 (L := [IAE]) (by decide) hLx c8
    have hrr : r = r6 := hans hx0
    refine lv_aload_n hx hb dL_law_1516 rfl (lv_at hl 5 rfl) ?_
    refine lv_iconst (v := 0) hx hb dL_law_1517 (by decide) ?_
    refine k_lald (n := 1) (v := r6.toInt64) hx hb hK hP 0 4 rfl rfl (vp_in_iff.mpr (by decide)) (by rw [if_pos hx0, hrr]; exact va_eq f 0 r6.toInt64) dL_law_1518 ?_
    refine lv_iload hx hb dL_law_1519 (lv_at hl 0 rfl) ?_
    refine lv_i2l hx hb dL_law_1521 rfl ?_
    refine W.lcmp hx hb dL_law_1522 ?_
    refine lv_if_eq (tgt := 1528) hx hb dL_law_1523 (by decide) (fun c7 => ?_) (fun c7 => absurd ((lg_cmp_eq _ _).mpr rfl) c7)
    refine lv_goto (tgt := 1643) hx hb dL_law_1528 (by decide) ?_
    refine W.widen (k := cells + 1) (n := slots + 6) (by omega) (by omega) ?_
    exact kk c2 m2 _ H locs ls hT2 hS hP hD (lv_sub hl [2, 3, 4, 5, 6] rfl)
set_option maxHeartbeats 4000000 in
set_option maxRecDepth 100000 in
theorem law_save {p : Program} {l : Launch} {e : Env} {s : State} {m : MethodId} {below : List Frame} {meth : Method} {c : Code} {Q : State → Prop} {D : va_G} {cs : Nat → ClassId} {ca : Nat → Nat → Nat} {ma : Nat → Nat} {oa b L : Nat} {xs : Nat → Int32} {y : MethodName} {rt : Option FieldType} (hfl : l.stackTraces = false) (hE : kE p s m #[Value.ref b] meth c D cs y wsL_law cL_law 7 rt (lwA s)) (ho : RL = y.cls) (hX : XA s) (hXs : va_X b L xs s s.heap) (hbl : b < s.heap.size) (hLb : L ≤ 2048) {i : Nat} (hi : i + 4 ≤ L) {cells slots : Nat} (hc : cells ≤ 600000) (hs : slots ≤ 7000000) {cv : CV} {mv : MV} {f : Nat → Int64} {H : Heap} {locs : List Loc} {ls : Array Slot} (hT : TRel cv mv) (hS : va_S (lwA s) s.heap H locs) (hP : va_P D vwCl (lwW cs ca ma oa cv mv f) H) (hD : va_D (lwA s) (lwW cs ca ma oa cv mv f)) (hl : lv_has ls 7 [(0, .ref b), (1, .ref (ca 0 0)), (2, .ref (ma 0)), (3, .ref oa), (4, .int (nI i))]) (kk : lawK p l e s m below meth c D cs ca ma oa b i (cells + 1) (slots + 6) Q) : W p l e room_1 s m #[Value.ref b] below meth c H locs cells slots Q (F0 m 1531 ls []) := by
  obtain ⟨hx, hb, hr, hlocks, hml, hown, hts, hK, hA, hG, hnm⟩ := id hE
  have hown : s.vm.findClass RL = some m.cls := by rw [ho]; exact hown
  have hbA : ¬ lwA s b := Nat.not_le.mpr hbl
  refine lv_aload_n hx hb dL_law_1531 rfl (lv_at hl 1 rfl) ?_
  refine lv_aload_n hx hb dL_law_1532 rfl (lv_at hl 0 rfl) ?_
  refine lv_iload hx hb dL_law_1533 (lv_at hl 4 rfl) ?_
  refine lv_iconst (v := 1) hx hb dL_law_1535 (by decide) ?_
  refine lv_iadd hx hb dL_law_1536 ?_
  rw [show (nI i + 1 : Int32) = nI (i + 1) from nI_add i 1]
  refine va_sld hx hb hXs hbl hbA hS (vp_in_nI (show i + 1 < L by omega) (by omega)) dL_law_1537 ?_
  rw [nI_clamp (show i + 1 < 2 ^ 31 by omega)]
  refine lv_aload_n hx hb dL_law_1538 rfl (lv_at hl 3 rfl) ?_
  obtain ⟨x, r, c2, e0⟩ : ∃ x r c2, k_X5_save cv (xs (i + 1)) = (x, r, c2) := ⟨_, _, _, rfl⟩
  obtain ⟨r6, m2, e6⟩ : ∃ r6 m2, k_X6_save mv (xs (i + 1)) = (r6, m2) := ⟨_, _, rfl⟩
  have hAG := T_save hT (xs (i + 1))
  rw [e0, e6] at hAG
  obtain ⟨hT2, hcode, hans, hLx⟩ := hAG
  dsimp only at hT2 hcode hans hLx
  have hw := w_save l hfl D cs ca cv c2 oa f (xs (i + 1)) hT.2.1 x r e0 hLx
  refine kI_call (wc := lo cs oa f :: ca_W cs ca cv) (wr := md_W cs ma mv) (w1 := lo cs oa (if x = none then va_up f 0 r.toInt64 else f) :: ca_W cs ca c2) (r := cod [IOB] x) hE hP hD hS (k_rL (rest := []) (As := [.ref (ca 0 0), .int (xs (i + 1)), .ref oa]) hE hX ho (hw H.size) (vx_cwSW 3 hts gL_law_L_save rfl rfl rfl (by decide +kernel) ⟨(Nat.le_of_ble_eq_true rfl), (Nat.le_of_ble_eq_true rfl)⟩) hP hD hS rfl hl rfl (Nat.le_of_ble_eq_true rfl) ⟨by show cells + 1 ≤ 601024; omega, by show slots + 6 ≤ 7293034; omega⟩ dL_law_1539) (fun H locs hP hD hS => ?_)
  refine lv_istore (lv' := [(5, .int (cod [IOB] x)), (0, .ref b), (1, .ref (ca 0 0)), (2, .ref (ma 0)), (3, .ref oa), (4, .int (nI i))]) hx hb dL_law_1542 hl (by decide) rfl (fun ls hl => ?_)
  refine lv_aload_n hx hb dL_law_1544 rfl (lv_at hl 3 rfl) ?_
  refine lv_aload_n hx hb dL_law_1545 rfl (lv_at hl 1 rfl) ?_
  refine lv_iload hx hb dL_law_1546 (lv_at hl 5 rfl) ?_
  refine lv_iconst (v := 1) hx hb dL_law_1548 (by decide) ?_
  refine lv_iadd hx hb dL_law_1549 ?_
  rw [show (nI i + 1 : Int32) = nI (i + 1) from nI_add i 1]
  refine va_sld hx hb hXs hbl hbA hS (vp_in_nI (show i + 1 < L by omega) (by omega)) dL_law_1550 ?_
  rw [nI_clamp (show i + 1 < 2 ^ 31 by omega)]
  have hm := c_X6_save l D cs ma mv (xs (i + 1)) (TR_MO hT)
  rw [e6] at hm
  dsimp only at hm
  have hP := pmP List.perm_append_comm hP
  have hD := pmD List.perm_append_comm hD
  refine kI_call (wc := md_W cs ma mv) (wr := lo cs oa (if x = none then va_up f 0 r.toInt64 else f) :: ca_W cs ca c2) (w1 := md_W cs ma m2) (r := r6) hE hP hD hS (k_rV (rest := []) (As := [.int (xs (i + 1))]) hE ho (hm H.size) (cwV 1 hts gL_law_X6_save rfl rfl rfl (by decide +kernel) ⟨(Nat.le_of_ble_eq_true rfl), (Nat.le_of_ble_eq_true rfl)⟩) hP hD hS (ci := 6) (q0 := 0) rfl rfl rfl hl rfl (Nat.le_of_ble_eq_true rfl) ⟨by show cells + 1 + 0 ≤ 601024; omega, by show slots + 6 + 0 ≤ 7293034; omega⟩ dL_law_1551) (fun H locs hP hD hS => ?_)
  refine lv_istore (lv' := [(6, .int r6), (5, .int (cod [IOB] x)), (0, .ref b), (1, .ref (ca 0 0)), (2, .ref (ma 0)), (3, .ref oa), (4, .int (nI i))]) hx hb dL_law_1554 hl (by decide) rfl (fun ls hl => ?_)
  refine lv_aload_n hx hb dL_law_1556 rfl (lv_at hl 4 rfl) ?_
  have ht := c_X6_thrown l D cs ma m2
  rw [show k_X6_thrown m2 = cod [IOB] x from hcode] at ht
  refine kI_call (wc := md_W cs ma m2) (wr := lo cs oa (if x = none then va_up f 0 r.toInt64 else f) :: ca_W cs ca c2) (w1 := md_W cs ma m2) (r := cod [IOB] x) hE hP hD hS (k_rV (rest := []) (As := []) hE ho (ht H.size) (cwV 0 hts gL_law_X6_thrown rfl rfl rfl (by decide +kernel) ⟨(Nat.le_of_ble_eq_true rfl), (Nat.le_of_ble_eq_true rfl)⟩) hP hD hS (ci := 6) (q0 := 0) rfl rfl rfl hl rfl (Nat.le_of_ble_eq_true rfl) ⟨by show cells + 1 + 0 + 0 ≤ 601024; omega, by show slots + 6 + 0 + 0 ≤ 7293034; omega⟩ dL_law_1557) (fun H locs hP hD hS => ?_)
  have hP : va_P D vwCl (lwW cs ca ma oa c2 m2 (if x = none then va_up f 0 r.toInt64 else f)) H := pmP List.perm_append_comm hP
  have hD : va_D (lwA s) (lwW cs ca ma oa c2 m2 (if x = none then va_up f 0 r.toInt64 else f)) := pmD List.perm_append_comm hD
  refine lv_iload hx hb dL_law_1560 (lv_at hl 1 rfl) ?_
  refine lv_icmp_eq (tgt := 1567) hx hb dL_law_1562 (by decide) (fun c9 => ?_) (fun c9 => absurd rfl c9)
  refine lv_iload hx hb dL_law_1567 (lv_at hl 1 rfl) ?_
  refine lv_if_ne (tgt := 1584) hx hb dL_law_1569 (by decide) (fun c8 => ?_) (fun c8 => ?_)
  · skip
    refine lv_goto (tgt := 1643) hx hb dL_law_1584 (by decide) ?_
    refine W.widen (k := cells + 1) (n := slots + 6) (by omega) (by omega) ?_
    exact kk c2 m2 _ H locs ls hT2 hS hP hD (lv_sub hl [2, 3, 4, 5, 6] rfl)
  · have hx0 := cod_0 (L := [IOB]) (by decide) hLx c8
    have hrr : r = r6 := hans hx0
    refine lv_aload_n hx hb dL_law_1572 rfl (lv_at hl 5 rfl) ?_
    refine lv_iconst (v := 0) hx hb dL_law_1573 (by decide) ?_
    refine k_lald (n := 1) (v := r6.toInt64) hx hb hK hP 0 4 rfl rfl (vp_in_iff.mpr (by decide)) (by rw [if_pos hx0, hrr]; exact va_eq f 0 r6.toInt64) dL_law_1574 ?_
    refine lv_iload hx hb dL_law_1575 (lv_at hl 0 rfl) ?_
    refine lv_i2l hx hb dL_law_1577 rfl ?_
    refine W.lcmp hx hb dL_law_1578 ?_
    refine lv_if_eq (tgt := 1584) hx hb dL_law_1579 (by decide) (fun c7 => ?_) (fun c7 => absurd ((lg_cmp_eq _ _).mpr rfl) c7)
    refine lv_goto (tgt := 1643) hx hb dL_law_1584 (by decide) ?_
    refine W.widen (k := cells + 1) (n := slots + 6) (by omega) (by omega) ?_
    exact kk c2 m2 _ H locs ls hT2 hS hP hD (lv_sub hl [2, 3, 4, 5, 6] rfl)
set_option maxHeartbeats 4000000 in
set_option maxRecDepth 100000 in
theorem law_restore {p : Program} {l : Launch} {e : Env} {s : State} {m : MethodId} {below : List Frame} {meth : Method} {c : Code} {Q : State → Prop} {D : va_G} {cs : Nat → ClassId} {ca : Nat → Nat → Nat} {ma : Nat → Nat} {oa b L : Nat} {xs : Nat → Int32} {y : MethodName} {rt : Option FieldType} (hfl : l.stackTraces = false) (hE : kE p s m #[Value.ref b] meth c D cs y wsL_law cL_law 7 rt (lwA s)) (ho : RL = y.cls) (hX : XA s) (hXs : va_X b L xs s s.heap) (hbl : b < s.heap.size) (hLb : L ≤ 2048) {i : Nat} (hi : i + 4 ≤ L) {cells slots : Nat} (hc : cells ≤ 600000) (hs : slots ≤ 7000000) {cv : CV} {mv : MV} {f : Nat → Int64} {H : Heap} {locs : List Loc} {ls : Array Slot} (hT : TRel cv mv) (hS : va_S (lwA s) s.heap H locs) (hP : va_P D vwCl (lwW cs ca ma oa cv mv f) H) (hD : va_D (lwA s) (lwW cs ca ma oa cv mv f)) (hl : lv_has ls 7 [(0, .ref b), (1, .ref (ca 0 0)), (2, .ref (ma 0)), (3, .ref oa), (4, .int (nI i))]) (kk : lawK p l e s m below meth c D cs ca ma oa b i (cells + 1) (slots + 6) Q) : W p l e room_1 s m #[Value.ref b] below meth c H locs cells slots Q (F0 m 1587 ls []) := by
  obtain ⟨hx, hb, hr, hlocks, hml, hown, hts, hK, hA, hG, hnm⟩ := id hE
  have hown : s.vm.findClass RL = some m.cls := by rw [ho]; exact hown
  have hbA : ¬ lwA s b := Nat.not_le.mpr hbl
  refine lv_aload_n hx hb dL_law_1587 rfl (lv_at hl 1 rfl) ?_
  refine lv_aload_n hx hb dL_law_1588 rfl (lv_at hl 0 rfl) ?_
  refine lv_iload hx hb dL_law_1589 (lv_at hl 4 rfl) ?_
  refine lv_iconst (v := 1) hx hb dL_law_1591 (by decide) ?_
  refine lv_iadd hx hb dL_law_1592 ?_
  rw [show (nI i + 1 : Int32) = nI (i + 1) from nI_add i 1]
  refine va_sld hx hb hXs hbl hbA hS (vp_in_nI (show i + 1 < L by omega) (by omega)) dL_law_1593 ?_
  rw [nI_clamp (show i + 1 < 2 ^ 31 by omega)]
  refine lv_aload_n hx hb dL_law_1594 rfl (lv_at hl 3 rfl) ?_
  obtain ⟨x, r, c2, e0⟩ : ∃ x r c2, k_X5_restore cv (xs (i + 1)) = (x, r, c2) := ⟨_, _, _, rfl⟩
  obtain ⟨r6, m2, e6⟩ : ∃ r6 m2, k_X6_restore mv (xs (i + 1)) = (r6, m2) := ⟨_, _, rfl⟩
  have hAG := T_restore hT (xs (i + 1))
  rw [e0, e6] at hAG
  obtain ⟨hT2, hcode, hans, hLx⟩ := hAG
  dsimp only at hT2 hcode hans hLx
  have hw := w_restore l hfl D cs ca cv c2 oa f (xs (i + 1)) hT.2.1 x r e0 hLx
  refine kI_call (wc := lo cs oa f :: ca_W cs ca cv) (wr := md_W cs ma mv) (w1 := lo cs oa (if x = none then va_up f 0 r.toInt64 else f) :: ca_W cs ca c2) (r := cod [IOB, ISE] x) hE hP hD hS (k_rL (rest := []) (As := [.ref (ca 0 0), .int (xs (i + 1)), .ref oa]) hE hX ho (hw H.size) (vx_cwSW 3 hts gL_law_L_restore rfl rfl rfl (by decide +kernel) ⟨(Nat.le_of_ble_eq_true rfl), (Nat.le_of_ble_eq_true rfl)⟩) hP hD hS rfl hl rfl (Nat.le_of_ble_eq_true rfl) ⟨by show cells + 1 ≤ 601024; omega, by show slots + 6 ≤ 7293034; omega⟩ dL_law_1595) (fun H locs hP hD hS => ?_)
  refine lv_istore (lv' := [(5, .int (cod [IOB, ISE] x)), (0, .ref b), (1, .ref (ca 0 0)), (2, .ref (ma 0)), (3, .ref oa), (4, .int (nI i))]) hx hb dL_law_1598 hl (by decide) rfl (fun ls hl => ?_)
  refine lv_aload_n hx hb dL_law_1600 rfl (lv_at hl 3 rfl) ?_
  refine lv_aload_n hx hb dL_law_1601 rfl (lv_at hl 1 rfl) ?_
  refine lv_iload hx hb dL_law_1602 (lv_at hl 5 rfl) ?_
  refine lv_iconst (v := 1) hx hb dL_law_1604 (by decide) ?_
  refine lv_iadd hx hb dL_law_1605 ?_
  rw [show (nI i + 1 : Int32) = nI (i + 1) from nI_add i 1]
  refine va_sld hx hb hXs hbl hbA hS (vp_in_nI (show i + 1 < L by omega) (by omega)) dL_law_1606 ?_
  rw [nI_clamp (show i + 1 < 2 ^ 31 by omega)]
  have hm := c_X6_restore l D cs ma mv (xs (i + 1)) (TR_MO hT)
  rw [e6] at hm
  dsimp only at hm
  have hP := pmP List.perm_append_comm hP
  have hD := pmD List.perm_append_comm hD
  refine kI_call (wc := md_W cs ma mv) (wr := lo cs oa (if x = none then va_up f 0 r.toInt64 else f) :: ca_W cs ca c2) (w1 := md_W cs ma m2) (r := r6) hE hP hD hS (k_rV (rest := []) (As := [.int (xs (i + 1))]) hE ho (hm H.size) (cwV 1 hts gL_law_X6_restore rfl rfl rfl (by decide +kernel) ⟨(Nat.le_of_ble_eq_true rfl), (Nat.le_of_ble_eq_true rfl)⟩) hP hD hS (ci := 6) (q0 := 0) rfl rfl rfl hl rfl (Nat.le_of_ble_eq_true rfl) ⟨by show cells + 1 + 0 ≤ 601024; omega, by show slots + 6 + 0 ≤ 7293034; omega⟩ dL_law_1607) (fun H locs hP hD hS => ?_)
  refine lv_istore (lv' := [(6, .int r6), (5, .int (cod [IOB, ISE] x)), (0, .ref b), (1, .ref (ca 0 0)), (2, .ref (ma 0)), (3, .ref oa), (4, .int (nI i))]) hx hb dL_law_1610 hl (by decide) rfl (fun ls hl => ?_)
  refine lv_aload_n hx hb dL_law_1612 rfl (lv_at hl 4 rfl) ?_
  have ht := c_X6_thrown l D cs ma m2
  rw [show k_X6_thrown m2 = cod [IOB, ISE] x from hcode] at ht
  refine kI_call (wc := md_W cs ma m2) (wr := lo cs oa (if x = none then va_up f 0 r.toInt64 else f) :: ca_W cs ca c2) (w1 := md_W cs ma m2) (r := cod [IOB, ISE] x) hE hP hD hS (k_rV (rest := []) (As := []) hE ho (ht H.size) (cwV 0 hts gL_law_X6_thrown rfl rfl rfl (by decide +kernel) ⟨(Nat.le_of_ble_eq_true rfl), (Nat.le_of_ble_eq_true rfl)⟩) hP hD hS (ci := 6) (q0 := 0) rfl rfl rfl hl rfl (Nat.le_of_ble_eq_true rfl) ⟨by show cells + 1 + 0 + 0 ≤ 601024; omega, by show slots + 6 + 0 + 0 ≤ 7293034; omega⟩ dL_law_1613) (fun H locs hP hD hS => ?_)
  have hP : va_P D vwCl (lwW cs ca ma oa c2 m2 (if x = none then va_up f 0 r.toInt64 else f)) H := pmP List.perm_append_comm hP
  have hD : va_D (lwA s) (lwW cs ca ma oa c2 m2 (if x = none then va_up f 0 r.toInt64 else f)) := pmD List.perm_append_comm hD
  refine lv_iload hx hb dL_law_1616 (lv_at hl 1 rfl) ?_
  refine lv_icmp_eq (tgt := 1623) hx hb dL_law_1618 (by decide) (fun c9 => ?_) (fun c9 => absurd rfl c9)
  refine lv_iload hx hb dL_law_1623 (lv_at hl 1 rfl) ?_
  refine lv_if_ne (tgt := 1640) hx hb dL_law_1625 (by decide) (fun c8 => ?_) (fun c8 => ?_)
  · skip
    refine lv_goto (tgt := 1643) hx hb dL_law_1640 (by decide) ?_
    refine W.widen (k := cells + 1) (n := slots + 6) (by omega) (by omega) ?_
    exact kk c2 m2 _ H locs ls hT2 hS hP hD (lv_sub hl [2, 3, 4, 5, 6] rfl)
  · have hx0 := cod_0 (L := [IOB, ISE]) (by decide) hLx c8
    have hrr : r = r6 := hans hx0
    refine lv_aload_n hx hb dL_law_1628 rfl (lv_at hl 5 rfl) ?_
    refine lv_iconst (v := 0) hx hb dL_law_1629 (by decide) ?_
    refine k_lald (n := 1) (v := r6.toInt64) hx hb hK hP 0 4 rfl rfl (vp_in_iff.mpr (by decide)) (by rw [if_pos hx0, hrr]; exact va_eq f 0 r6.toInt64) dL_law_1630 ?_
    refine lv_iload hx hb dL_law_1631 (lv_at hl 0 rfl) ?_
    refine lv_i2l hx hb dL_law_1633 rfl ?_
    refine W.lcmp hx hb dL_law_1634 ?_
    refine lv_if_eq (tgt := 1640) hx hb dL_law_1635 (by decide) (fun c7 => ?_) (fun c7 => absurd ((lg_cmp_eq _ _).mpr rfl) c7)
    refine lv_goto (tgt := 1643) hx hb dL_law_1640 (by decide) ?_
    refine W.widen (k := cells + 1) (n := slots + 6) (by omega) (by omega) ?_
    exact kk c2 m2 _ H locs ls hT2 hS hP hD (lv_sub hl [2, 3, 4, 5, 6] rfl)
