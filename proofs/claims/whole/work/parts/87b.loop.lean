/-! The law's loop. -/
theorem lt4 {L i : Nat} (hL : L ≤ 2048) (hi : i ≤ 5000) : ((nI L - 4 : Int32) < nI i) ↔ ¬ (i + 4 ≤ L) := by
  have e4 : (4 : Int32).toInt = 4 := rfl
  have eL : (nI L).toInt = L := nI_toInt (by omega)
  have ei : (nI i).toInt = i := nI_toInt (by omega)
  rw [i_lt, i_sub (by rw [eL, e4]; omega) (by rw [eL, e4]; omega), eL, ei, e4]
  omega
set_option maxHeartbeats 4000000 in
set_option maxRecDepth 100000 in
theorem law_end {p : Program} {l : Launch} {e : Env} {s : State} {m : MethodId} {below : List Frame} {meth : Method} {c : Code} {D : va_G} {cs : Nat → ClassId} {ca : Nat → Nat → Nat} {ma : Nat → Nat} {oa b L : Nat} {xs : Nat → Int32} {y : MethodName} (hfl : l.stackTraces = false) (hE : kE p s m #[Value.ref b] meth c D cs y wsL_law cL_law 7 ret (lwA s)) (ho : RL = y.cls) (hX : XA s) (hXs : va_X b L xs s s.heap) (hbl : b < s.heap.size) (hLb : L ≤ 2048) {i cells slots : Nat} (hi : i ≤ 5000) (hq : ¬ i + 4 ≤ L) (hc : cells ≤ 601024) (hs : slots ≤ 7293034) {cv : CV} {mv : MV} {f : Nat → Int64} {H : Heap} {locs : List Loc} {ls : Array Slot} (hT : TRel cv mv) (hS : va_S (lwA s) s.heap H locs) (hP : va_P D vwCl (lwW cs ca ma oa cv mv f) H) (hD : va_D (lwA s) (lwW cs ca ma oa cv mv f)) (hl : lv_has ls 7 [(0, .ref b), (1, .ref (ca 0 0)), (2, .ref (ma 0)), (3, .ref oa), (4, .int (nI i))]) : W p l e room_1 s m #[Value.ref b] below meth c H locs cells slots (lw_Z below #[Value.ref b] s) (F0 m 23 ls []) := by
  obtain ⟨hx, hb, hr, hlocks, hml, hown, hts, hK, hA, hG, hnm⟩ := id hE
  have hbA : ¬ lwA s b := Nat.not_le.mpr hbl
  refine lv_iload hx hb dL_law_23 (lv_at hl 4 rfl) ?_
  refine lv_aload_n hx hb dL_law_25 rfl (lv_at hl 0 rfl) ?_
  refine va_slen hx hb hXs hbl hbA hS dL_law_26 ?_
  refine lv_iconst (v := 4) hx hb dL_law_27 (by decide) ?_
  refine lv_isub hx hb dL_law_28 ?_
  refine lv_icmp_gt (tgt := 1649) hx hb dL_law_29 (by decide) (fun c9 => ?_) (fun c9 => absurd ((lt4 hLb hi).mpr hq) c9)
  refine lv_iconst (v := 1) hx hb dL_law_1649 (by decide) ?_
  refine va_forget (fun q hq => hS.2.2 q hq) ?_
  refine W.widen (k := 601024) (n := 7293034) hc hs ?_
  exact lw_ret hx hb hr hlocks dL_law_1650
set_option maxHeartbeats 4000000 in
set_option maxRecDepth 100000 in
theorem law_go {p : Program} {l : Launch} {e : Env} {s : State} {m : MethodId} {below : List Frame} {meth : Method} {c : Code} {D : va_G} {cs : Nat → ClassId} {ca : Nat → Nat → Nat} {ma : Nat → Nat} {oa b L : Nat} {xs : Nat → Int32} {y : MethodName} {Q : State → Prop} (hfl : l.stackTraces = false) (hE : kE p s m #[Value.ref b] meth c D cs y wsL_law cL_law 7 ret (lwA s)) (ho : RL = y.cls) (hX : XA s) (hXs : va_X b L xs s s.heap) (hbl : b < s.heap.size) (hLb : L ≤ 2048) {i cells slots : Nat} (hi : i + 4 ≤ L) (hc : cells ≤ 600000) (hs : slots ≤ 7000000) {cv : CV} {mv : MV} {f : Nat → Int64} {H : Heap} {locs : List Loc} {ls : Array Slot} (hT : TRel cv mv) (hS : va_S (lwA s) s.heap H locs) (hP : va_P D vwCl (lwW cs ca ma oa cv mv f) H) (hD : va_D (lwA s) (lwW cs ca ma oa cv mv f)) (hl : lv_has ls 7 [(0, .ref b), (1, .ref (ca 0 0)), (2, .ref (ma 0)), (3, .ref oa), (4, .int (nI i))]) (kk : lawK p l e s m below meth c D cs ca ma oa b i (cells + 1) (slots + 6) Q) : W p l e room_1 s m #[Value.ref b] below meth c H locs cells slots Q (F0 m 23 ls []) := by
  obtain ⟨hx, hb, hr, hlocks, hml, hown, hts, hK, hA, hG, hnm⟩ := id hE
  have hbA : ¬ lwA s b := Nat.not_le.mpr hbl
  refine lv_iload hx hb dL_law_23 (lv_at hl 4 rfl) ?_
  refine lv_aload_n hx hb dL_law_25 rfl (lv_at hl 0 rfl) ?_
  refine va_slen hx hb hXs hbl hbA hS dL_law_26 ?_
  refine lv_iconst (v := 4) hx hb dL_law_27 (by decide) ?_
  refine lv_isub hx hb dL_law_28 ?_
  refine lv_icmp_gt (tgt := 1649) hx hb dL_law_29 (by decide) (fun c9 => absurd hi ((lt4 hLb (by omega)).mp c9)) (fun c9 => ?_)
  refine lv_aload_n hx hb dL_law_32 rfl (lv_at hl 0 rfl) ?_
  refine lv_iload hx hb dL_law_33 (lv_at hl 4 rfl) ?_
  refine va_sld hx hb hXs hbl hbA hS (vp_in_nI (show i < L by omega) (by omega)) dL_law_35 ?_
  refine lv_bipush (v := 31) hx hb dL_law_36 (by decide) ?_
  refine lv_iand hx hb dL_law_38 ?_
  generalize (xs (nI i).toNatClampNeg &&& 31) = v
  by_cases c0 : v = 0
  · refine lv_tableIn (tgt := 156) (off := 117) hx hb dL_law_39 (by rw [c0]; decide) (by rw [c0]; decide) (by rw [c0]; rfl) (by decide) ?_
    exact law_append hfl hE ho hX hXs hbl hLb hi hc hs hT hS hP hD hl kk
  by_cases c1 : v = 1
  · refine lv_tableIn (tgt := 212) (off := 173) hx hb dL_law_39 (by rw [c1]; decide) (by rw [c1]; decide) (by rw [c1]; rfl) (by decide) ?_
    exact law_clearText hfl hE ho hX hXs hbl hLb hi hc hs hT hS hP hD hl kk
  by_cases c2 : v = 2
  · refine lv_tableIn (tgt := 225) (off := 186) hx hb dL_law_39 (by rw [c2]; decide) (by rw [c2]; decide) (by rw [c2]; rfl) (by decide) ?_
    exact law_errorPosition hfl hE ho hX hXs hbl hLb hi hc hs hT hS hP hD hl kk
  by_cases c3 : v = 3
  · refine lv_tableIn (tgt := 238) (off := 199) hx hb dL_law_39 (by rw [c3]; decide) (by rw [c3]; decide) (by rw [c3]; rfl) (by decide) ?_
    exact law_load hfl hE ho hX hXs hbl hLb hi hc hs hT hS hP hD hl kk
  by_cases c4 : v = 4
  · refine lv_tableIn (tgt := 282) (off := 243) hx hb dL_law_39 (by rw [c4]; decide) (by rw [c4]; decide) (by rw [c4]; rfl) (by decide) ?_
    exact law_about hfl hE ho hX hXs hbl hLb hi hc hs hT hS hP hD hl kk
  by_cases c5 : v = 5
  · refine lv_tableIn (tgt := 338) (off := 299) hx hb dL_law_39 (by rw [c5]; decide) (by rw [c5]; decide) (by rw [c5]; rfl) (by decide) ?_
    exact law_pegOf hfl hE ho hX hXs hbl hLb hi hc hs hT hS hP hD hl kk
  by_cases c6 : v = 6
  · refine lv_tableIn (tgt := 406) (off := 367) hx hb dL_law_39 (by rw [c6]; decide) (by rw [c6]; decide) (by rw [c6]; rfl) (by decide) ?_
    exact law_orderOf hfl hE ho hX hXs hbl hLb hi hc hs hT hS hP hD hl kk
  by_cases c7 : v = 7
  · refine lv_tableIn (tgt := 474) (off := 435) hx hb dL_law_39 (by rw [c7]; decide) (by rw [c7]; decide) (by rw [c7]; rfl) (by decide) ?_
    exact law_pipeOf hfl hE ho hX hXs hbl hLb hi hc hs hT hS hP hD hl kk
  by_cases c8 : v = 8
  · refine lv_tableIn (tgt := 542) (off := 503) hx hb dL_law_39 (by rw [c8]; decide) (by rw [c8]; decide) (by rw [c8]; rfl) (by decide) ?_
    exact law_chord hfl hE ho hX hXs hbl hLb hi hc hs hT hS hP hD hl kk
  by_cases c9 : v = 9
  · refine lv_tableIn (tgt := 598) (off := 559) hx hb dL_law_39 (by rw [c9]; decide) (by rw [c9]; decide) (by rw [c9]; rfl) (by decide) ?_
    exact law_covered hfl hE ho hX hXs hbl hLb hi hc hs hT hS hP hD hl kk
  by_cases c10 : v = 10
  · refine lv_tableIn (tgt := 654) (off := 615) hx hb dL_law_39 (by rw [c10]; decide) (by rw [c10]; decide) (by rw [c10]; rfl) (by decide) ?_
    exact law_setting hfl hE ho hX hXs hbl hLb hi hc hs hT hS hP hD hl kk
  by_cases c11 : v = 11
  · refine lv_tableIn (tgt := 710) (off := 671) hx hb dL_law_39 (by rw [c11]; decide) (by rw [c11]; decide) (by rw [c11]; rfl) (by decide) ?_
    exact law_put hfl hE ho hX hXs hbl hLb hi hc hs hT hS hP hD hl kk
  by_cases c12 : v = 12
  · refine lv_tableIn (tgt := 790) (off := 751) hx hb dL_law_39 (by rw [c12]; decide) (by rw [c12]; decide) (by rw [c12]; rfl) (by decide) ?_
    exact law_pull hfl hE ho hX hXs hbl hLb hi hc hs hT hS hP hD hl kk
  by_cases c13 : v = 13
  · refine lv_tableIn (tgt := 858) (off := 819) hx hb dL_law_39 (by rw [c13]; decide) (by rw [c13]; decide) (by rw [c13]; rfl) (by decide) ?_
    exact law_cancel hfl hE ho hX hXs hbl hLb hi hc hs hT hS hP hD hl kk
  by_cases c14 : v = 14
  · refine lv_tableIn (tgt := 914) (off := 875) hx hb dL_law_39 (by rw [c14]; decide) (by rw [c14]; decide) (by rw [c14]; rfl) (by decide) ?_
    exact law_ticks hfl hE ho hX hXs hbl hLb hi hc hs hT hS hP hD hl kk
  by_cases c15 : v = 15
  · refine lv_tableIn (tgt := 970) (off := 931) hx hb dL_law_39 (by rw [c15]; decide) (by rw [c15]; decide) (by rw [c15]; rfl) (by decide) ?_
    exact law_set hfl hE ho hX hXs hbl hLb hi hc hs hT hS hP hD hl kk
  by_cases c16 : v = 16
  · refine lv_tableIn (tgt := 1038) (off := 999) hx hb dL_law_39 (by rw [c16]; decide) (by rw [c16]; decide) (by rw [c16]; rfl) (by decide) ?_
    exact law_undo hfl hE ho hX hXs hbl hLb hi hc hs hT hS hP hD hl kk
  by_cases c17 : v = 17
  · refine lv_tableIn (tgt := 1082) (off := 1043) hx hb dL_law_39 (by rw [c17]; decide) (by rw [c17]; decide) (by rw [c17]; rfl) (by decide) ?_
    exact law_doneIn hfl hE ho hX hXs hbl hLb hi hc hs hT hS hP hD hl kk
  by_cases c18 : v = 18
  · refine lv_tableIn (tgt := 1138) (off := 1099) hx hb dL_law_39 (by rw [c18]; decide) (by rw [c18]; decide) (by rw [c18]; rfl) (by decide) ?_
    exact law_soundsIn hfl hE ho hX hXs hbl hLb hi hc hs hT hS hP hD hl kk
  by_cases c19 : v = 19
  · refine lv_tableIn (tgt := 1194) (off := 1155) hx hb dL_law_39 (by rw [c19]; decide) (by rw [c19]; decide) (by rw [c19]; rfl) (by decide) ?_
    exact law_leastSpeed hfl hE ho hX hXs hbl hLb hi hc hs hT hS hP hD hl kk
  by_cases c20 : v = 20
  · refine lv_tableIn (tgt := 1250) (off := 1211) hx hb dL_law_39 (by rw [c20]; decide) (by rw [c20]; decide) (by rw [c20]; rfl) (by decide) ?_
    exact law_fullest hfl hE ho hX hXs hbl hLb hi hc hs hT hS hP hD hl kk
  by_cases c21 : v = 21
  · refine lv_tableIn (tgt := 1263) (off := 1224) hx hb dL_law_39 (by rw [c21]; decide) (by rw [c21]; decide) (by rw [c21]; rfl) (by decide) ?_
    exact law_room hfl hE ho hX hXs hbl hLb hi hc hs hT hS hP hD hl kk
  by_cases c22 : v = 22
  · refine lv_tableIn (tgt := 1331) (off := 1292) hx hb dL_law_39 (by rw [c22]; decide) (by rw [c22]; decide) (by rw [c22]; rfl) (by decide) ?_
    exact law_runScript hfl hE ho hX hXs hbl hLb hi hc hs hT hS hP hD hl kk
  by_cases c23 : v = 23
  · refine lv_tableIn (tgt := 1431) (off := 1392) hx hb dL_law_39 (by rw [c23]; decide) (by rw [c23]; decide) (by rw [c23]; rfl) (by decide) ?_
    exact law_simulate hfl hE ho hX hXs hbl hLb hi hc hs hT hS hP hD hl kk
  by_cases c24 : v = 24
  · refine lv_tableIn (tgt := 1531) (off := 1492) hx hb dL_law_39 (by rw [c24]; decide) (by rw [c24]; decide) (by rw [c24]; rfl) (by decide) ?_
    exact law_save hfl hE ho hX hXs hbl hLb hi hc hs hT hS hP hD hl kk
  by_cases c25 : v = 25
  · refine lv_tableIn (tgt := 1587) (off := 1548) hx hb dL_law_39 (by rw [c25]; decide) (by rw [c25]; decide) (by rw [c25]; rfl) (by decide) ?_
    exact law_restore hfl hE ho hX hXs hbl hLb hi hc hs hT hS hP hD hl kk
  refine lv_tableOut (tgt := 1643) hx hb dL_law_39 (x_out v 0 26 (by decide) (by intro j hj; match j, hj with | 0, _ => exact c0 | 1, _ => exact c1 | 2, _ => exact c2 | 3, _ => exact c3 | 4, _ => exact c4 | 5, _ => exact c5 | 6, _ => exact c6 | 7, _ => exact c7 | 8, _ => exact c8 | 9, _ => exact c9 | 10, _ => exact c10 | 11, _ => exact c11 | 12, _ => exact c12 | 13, _ => exact c13 | 14, _ => exact c14 | 15, _ => exact c15 | 16, _ => exact c16 | 17, _ => exact c17 | 18, _ => exact c18 | 19, _ => exact c19 | 20, _ => exact c20 | 21, _ => exact c21 | 22, _ => exact c22 | 23, _ => exact c23 | 24, _ => exact c24 | 25, _ => exact c25 | n + 26, hj => exact absurd hj (by omega))) (by decide) ?_
  refine W.widen (k := cells + 1) (n := slots + 6) (by omega) (by omega) ?_
  exact kk cv mv f H locs ls hT hS hP hD hl
set_option maxHeartbeats 4000000 in
set_option maxRecDepth 100000 in
theorem law_loop {p : Program} {l : Launch} {e : Env} {s : State} {m : MethodId} {below : List Frame} {meth : Method} {c : Code} {D : va_G} {cs : Nat → ClassId} {ca : Nat → Nat → Nat} {ma : Nat → Nat} {oa b L : Nat} {xs : Nat → Int32} {y : MethodName} (hfl : l.stackTraces = false) (hE : kE p s m #[Value.ref b] meth c D cs y wsL_law cL_law 7 ret (lwA s)) (ho : RL = y.cls) (hX : XA s) (hXs : va_X b L xs s s.heap) (hbl : b < s.heap.size) (hLb : L ≤ 2048) : ∀ (n i cells slots : Nat), L < i + n → i ≤ 2052 → cells ≤ 1000 + i → slots ≤ 20000 + 6 * i → ∀ {cv : CV} {mv : MV} {f : Nat → Int64} {H : Heap} {locs : List Loc} {ls : Array Slot}, TRel cv mv → va_S (lwA s) s.heap H locs → va_P D vwCl (lwW cs ca ma oa cv mv f) H → va_D (lwA s) (lwW cs ca ma oa cv mv f) → lv_has ls 7 [(0, .ref b), (1, .ref (ca 0 0)), (2, .ref (ma 0)), (3, .ref oa), (4, .int (nI i))] → W p l e room_1 s m #[Value.ref b] below meth c H locs cells slots (lw_Z below #[Value.ref b] s) (F0 m 23 ls []) := by
  intro n
  induction n with
  | zero =>
    intro i cells slots hn hi hc hs cv mv f H locs ls hT hS hP hD hl
    exact law_end hfl hE ho hX hXs hbl hLb (by omega) (by omega) (by omega) (by omega) hT hS hP hD hl
  | succ n ih =>
    intro i cells slots hn hi hc hs cv mv f H locs ls hT hS hP hD hl
    by_cases hq : i + 4 ≤ L
    · refine law_go hfl hE ho hX hXs hbl hLb hq (by omega) (by omega) hT hS hP hD hl ?_
      intro cv2 mv2 f2 H2 locs2 ls2 hT2 hS2 hP2 hD2 hl2
      obtain ⟨hx, hb, -⟩ := id hE
      refine lv_iinc (v := (nI i + 4)) (lv' := [(4, .int (nI i + 4)), (0, .ref b), (1, .ref (ca 0 0)), (2, .ref (ma 0)), (3, .ref oa)]) hx hb dL_law_1643 hl2 (k := 4) rfl (by rfl) (by decide) rfl (fun ls hl => ?_)
      refine lv_goto (tgt := 23) hx hb dL_law_1646 (by decide) ?_
      rw [show (nI i + 4 : Int32) = nI (i + 4) from nI_add i 4] at hl
      exact ih (i + 4) (cells + 1) (slots + 6) (by omega) (by omega) (by omega) (by omega) hT2 hS2 hP2 hD2 (lv_sub hl [1, 2, 3, 4, 0] rfl)
    · exact law_end hfl hE ho hX hXs hbl hLb (by omega) hq (by omega) (by omega) hT hS hP hD hl
