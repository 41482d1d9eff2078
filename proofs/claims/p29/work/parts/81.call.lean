/-! 'call', by what is called. -/
section KH
variable {p : Program} {l : Launch} {e : Env} {R : Room} {s : State} {m : MethodId} {args : Array Value} {below : List Frame} {meth : Method} {c : Code} {H : Heap} {locs : List Loc} {cells slots : Nat} {Q : State → Prop}
variable {D : va_G} {cs : Nat → ClassId} {wc wr : va_W} {A : Nat → Prop} {y y2 : MethodName} {ws ws2 : List Cond} {rm2 : Room} {mc2 ms2 n index : Nat} {cc bytes2 : ByteArray} {maxL maxL2 : Nat} {ret ret2 : Option FieldType} {As rest st0 : List Value} {pc : Nat} {ls : Array Slot} {lv : List (Nat × Value)} {own : String} {Qc2 : Array Value → State → Outcome → State → Prop} {hh : List (Nat × Nat × Nat × Nat)}
/-- the run of a static method that has handlers -/
theorem k_rH (hE : kE p s m args meth c D cs y ws cc maxL ret A) (ho : own = y.cls) (hM : Met l y2 ws2 rm2 (kP D cs As wc H.size) Qc2 mc2 ms2 (va_A wc H.size)) (cw : vx_CSW R s args own index y2 bytes2 maxL2 ret2 hh ws2 rm2 mc2 ms2 n)
    (hP : va_P D vwCl (wc ++ wr) H) (hD : va_D A (wc ++ wr)) (hS : va_S A s.heap H locs)
    (hn : As.length = n) (hl : lv_has ls maxL lv) (hst : st0 = As.reverse ++ rest) (hrm : (rest.map fun v => v.category).sum ≤ 8) (hf : cells + mc2 ≤ R.cells ∧ slots + ms2 ≤ R.slots) (hdg : decode cc pc = .ok (.invokestatic index, 3)) :
    va_Run p l e R s m args below meth c H locs cells slots mc2 ms2 (F0 m pc ls st0) rest (Qc2 As.toArray) (va_A wc H.size) :=
  vx_runSW (k_fix hE ho) hM cw ⟨kP_blind, k_pre hE hP hD hS⟩ rfl hn hl.1 hst (lv_room hrm) hdg hf
end KH
set_option maxHeartbeats 4000000 in
set_option maxRecDepth 100000 in
theorem c_call_0 (l : Launch) (hfl : l.stackTraces = false) (D : va_G) (cs : Nat → ClassId) (ca : Nat → Nat → Nat) {cv : CV} {mv : MV} (h : TRel cv mv) (a b d : Int32) : kI l yL_call wsL_call { frames := 8, cells := 1, slots := 6, locals := 125 } 1 6 D cs [.ref (ca 0 0), .int 0, .int a, .int b, .int d] (ca_W cs ca cv) (aX (k_X5_append cv a)) (ca_W cs ca (k_X5_append cv a).2.2) := by
  obtain ⟨x, r, c2, e0⟩ : ∃ x r c2, (k_X5_append cv a) = (x, r, c2) := ⟨_, _, _, rfl⟩
  have hL := (T_append h a).2.2.2
  rw [e0] at hL ⊢
  dsimp only at hL ⊢
  have hc := w_tryAppend l hfl D cs ca cv c2 a h.2.1 x r e0 hL
  refine kI_of (cc := cL_call) (maxL := 5) (ret := (some .int)) (by decide) rfl (Nat.le_of_ble_eq_true rfl) ?_
  intro p e s m below meth c A ls H locs hE hS hP hD hl
  obtain ⟨hx, hb, hr, hlocks, hml, hown, hts, hK, hA, hG, hnm⟩ := id hE
  have hown : s.vm.findClass RL = some m.cls := hown
  have hl : lv_has ls 5 [(0, .ref (ca 0 0)), (1, .int 0), (2, .int a), (3, .int b), (4, .int d)] := hl
  refine lv_iload_n hx hb dL_call_0 rfl (lv_at hl 1 rfl) ?_
  refine lv_tableIn (tgt := 96) (off := 95) hx hb dL_call_1 (by decide) (by decide) (by rfl) (by decide) ?_
  refine lv_aload_n hx hb dL_call_96 rfl (lv_at hl 0 rfl) ?_
  refine lv_iload_n hx hb dL_call_97 rfl (lv_at hl 2 rfl) ?_
  have hP : va_P D vwCl (ca_W cs ca cv ++ []) H := k_nP hP
  have hD : va_D A (ca_W cs ca cv ++ []) := k_nD hD
  refine kI_call (wc := ca_W cs ca cv) (wr := []) (w1 := ca_W cs ca c2) (r := cx x r) hE hP hD hS (k_rH (rest := []) (As := [.ref (ca 0 0), .int a]) hE rfl (hc H.size) (vx_cwSW 2 hts gL_call_L_tryAppend rfl rfl rfl (by decide +kernel) ⟨(Nat.le_of_ble_eq_true rfl), (Nat.le_of_ble_eq_true rfl)⟩) hP hD hS rfl hl rfl (Nat.le_of_ble_eq_true rfl) ⟨(Nat.le_of_ble_eq_true rfl), (Nat.le_of_ble_eq_true rfl)⟩ dL_call_98) (fun H locs hP hD hS => ?_)
  have hP := k_uP hP
  have hD := k_uD hD
  exact kI_ret hE hS hP hD rfl rfl (Nat.le_of_ble_eq_true rfl) (Nat.le_of_ble_eq_true rfl) dL_call_101
set_option maxHeartbeats 4000000 in
set_option maxRecDepth 100000 in
theorem c_call_1 (l : Launch) (hfl : l.stackTraces = false) (D : va_G) (cs : Nat → ClassId) (ca : Nat → Nat → Nat) {cv : CV} {mv : MV} (h : TRel cv mv) (a b d : Int32) : kI l yL_call wsL_call { frames := 9, cells := 1, slots := 6, locals := 215 } 1 6 D cs [.ref (ca 0 0), .int 1, .int a, .int b, .int d] (ca_W cs ca cv) (aX (k_X5_load cv)) (ca_W cs ca (k_X5_load cv).2.2) := by
  obtain ⟨x, r, c2, e0⟩ : ∃ x r c2, (k_X5_load cv) = (x, r, c2) := ⟨_, _, _, rfl⟩
  have hL := (T_load h).2.2.2
  rw [e0] at hL ⊢
  dsimp only at hL ⊢
  have hc := w_tryLoad l hfl D cs ca cv c2 h.2.1 x r e0 hL
  refine kI_of (cc := cL_call) (maxL := 5) (ret := (some .int)) (by decide) rfl (Nat.le_of_ble_eq_true rfl) ?_
  intro p e s m below meth c A ls H locs hE hS hP hD hl
  obtain ⟨hx, hb, hr, hlocks, hml, hown, hts, hK, hA, hG, hnm⟩ := id hE
  have hown : s.vm.findClass RL = some m.cls := hown
  have hl : lv_has ls 5 [(0, .ref (ca 0 0)), (1, .int 1), (2, .int a), (3, .int b), (4, .int d)] := hl
  refine lv_iload_n hx hb dL_call_0 rfl (lv_at hl 1 rfl) ?_
  refine lv_tableIn (tgt := 102) (off := 101) hx hb dL_call_1 (by decide) (by decide) (by rfl) (by decide) ?_
  refine lv_aload_n hx hb dL_call_102 rfl (lv_at hl 0 rfl) ?_
  have hP : va_P D vwCl (ca_W cs ca cv ++ []) H := k_nP hP
  have hD : va_D A (ca_W cs ca cv ++ []) := k_nD hD
  refine kI_call (wc := ca_W cs ca cv) (wr := []) (w1 := ca_W cs ca c2) (r := cx x r) hE hP hD hS (k_rH (rest := []) (As := [.ref (ca 0 0)]) hE rfl (hc H.size) (vx_cwSW 1 hts gL_call_L_tryLoad rfl rfl rfl (by decide +kernel) ⟨(Nat.le_of_ble_eq_true rfl), (Nat.le_of_ble_eq_true rfl)⟩) hP hD hS rfl hl rfl (Nat.le_of_ble_eq_true rfl) ⟨(Nat.le_of_ble_eq_true rfl), (Nat.le_of_ble_eq_true rfl)⟩ dL_call_103) (fun H locs hP hD hS => ?_)
  have hP := k_uP hP
  have hD := k_uD hD
  exact kI_ret hE hS hP hD rfl rfl (Nat.le_of_ble_eq_true rfl) (Nat.le_of_ble_eq_true rfl) dL_call_106
set_option maxHeartbeats 4000000 in
set_option maxRecDepth 100000 in
theorem c_call_2 (l : Launch) (hfl : l.stackTraces = false) (D : va_G) (cs : Nat → ClassId) (ca : Nat → Nat → Nat) {cv : CV} {mv : MV} (h : TRel cv mv) (a b d : Int32) : kI l yL_call wsL_call { frames := 8, cells := 1, slots := 6, locals := 125 } 1 6 D cs [.ref (ca 0 0), .int 2, .int a, .int b, .int d] (ca_W cs ca cv) (aX (k_X5_about cv a)) (ca_W cs ca (k_X5_about cv a).2.2) := by
  obtain ⟨x, r, c2, e0⟩ : ∃ x r c2, (k_X5_about cv a) = (x, r, c2) := ⟨_, _, _, rfl⟩
  have hL := (T_about h a).2.2.2
  rw [e0] at hL ⊢
  dsimp only at hL ⊢
  have hc := w_tryAbout l hfl D cs ca cv c2 a h.2.1 x r e0 hL
  refine kI_of (cc := cL_call) (maxL := 5) (ret := (some .int)) (by decide) rfl (Nat.le_of_ble_eq_true rfl) ?_
  intro p e s m below meth c A ls H locs hE hS hP hD hl
  obtain ⟨hx, hb, hr, hlocks, hml, hown, hts, hK, hA, hG, hnm⟩ := id hE
  have hown : s.vm.findClass RL = some m.cls := hown
  have hl : lv_has ls 5 [(0, .ref (ca 0 0)), (1, .int 2), (2, .int a), (3, .int b), (4, .int d)] := hl
  refine lv_iload_n hx hb dL_call_0 rfl (lv_at hl 1 rfl) ?_
  refine lv_tableIn (tgt := 107) (off := 106) hx hb dL_call_1 (by decide) (by decide) (by rfl) (by decide) ?_
  refine lv_aload_n hx hb dL_call_107 rfl (lv_at hl 0 rfl) ?_
  refine lv_iload_n hx hb dL_call_108 rfl (lv_at hl 2 rfl) ?_
  have hP : va_P D vwCl (ca_W cs ca cv ++ []) H := k_nP hP
  have hD : va_D A (ca_W cs ca cv ++ []) := k_nD hD
  refine kI_call (wc := ca_W cs ca cv) (wr := []) (w1 := ca_W cs ca c2) (r := cx x r) hE hP hD hS (k_rH (rest := []) (As := [.ref (ca 0 0), .int a]) hE rfl (hc H.size) (vx_cwSW 2 hts gL_call_L_tryAbout rfl rfl rfl (by decide +kernel) ⟨(Nat.le_of_ble_eq_true rfl), (Nat.le_of_ble_eq_true rfl)⟩) hP hD hS rfl hl rfl (Nat.le_of_ble_eq_true rfl) ⟨(Nat.le_of_ble_eq_true rfl), (Nat.le_of_ble_eq_true rfl)⟩ dL_call_109) (fun H locs hP hD hS => ?_)
  have hP := k_uP hP
  have hD := k_uD hD
  exact kI_ret hE hS hP hD rfl rfl (Nat.le_of_ble_eq_true rfl) (Nat.le_of_ble_eq_true rfl) dL_call_112
set_option maxHeartbeats 4000000 in
set_option maxRecDepth 100000 in
theorem c_call_3 (l : Launch) (hfl : l.stackTraces = false) (D : va_G) (cs : Nat → ClassId) (ca : Nat → Nat → Nat) {cv : CV} {mv : MV} (h : TRel cv mv) (a b d : Int32) : kI l yL_call wsL_call { frames := 8, cells := 1, slots := 6, locals := 127 } 1 6 D cs [.ref (ca 0 0), .int 3, .int a, .int b, .int d] (ca_W cs ca cv) (aX (k_X5_pegOf cv a b)) (ca_W cs ca (k_X5_pegOf cv a b).2.2) := by
  obtain ⟨x, r, c2, e0⟩ : ∃ x r c2, (k_X5_pegOf cv a b) = (x, r, c2) := ⟨_, _, _, rfl⟩
  have hL := (T_peg h a b).2.2.2
  rw [e0] at hL ⊢
  dsimp only at hL ⊢
  have hc := w_tryPeg l hfl D cs ca cv c2 a b h.2.1 x r e0 hL
  refine kI_of (cc := cL_call) (maxL := 5) (ret := (some .int)) (by decide) rfl (Nat.le_of_ble_eq_true rfl) ?_
  intro p e s m below meth c A ls H locs hE hS hP hD hl
  obtain ⟨hx, hb, hr, hlocks, hml, hown, hts, hK, hA, hG, hnm⟩ := id hE
  have hown : s.vm.findClass RL = some m.cls := hown
  have hl : lv_has ls 5 [(0, .ref (ca 0 0)), (1, .int 3), (2, .int a), (3, .int b), (4, .int d)] := hl
  refine lv_iload_n hx hb dL_call_0 rfl (lv_at hl 1 rfl) ?_
  refine lv_tableIn (tgt := 113) (off := 112) hx hb dL_call_1 (by decide) (by decide) (by rfl) (by decide) ?_
  refine lv_aload_n hx hb dL_call_113 rfl (lv_at hl 0 rfl) ?_
  refine lv_iload_n hx hb dL_call_114 rfl (lv_at hl 2 rfl) ?_
  refine lv_iload_n hx hb dL_call_115 rfl (lv_at hl 3 rfl) ?_
  have hP : va_P D vwCl (ca_W cs ca cv ++ []) H := k_nP hP
  have hD : va_D A (ca_W cs ca cv ++ []) := k_nD hD
  refine kI_call (wc := ca_W cs ca cv) (wr := []) (w1 := ca_W cs ca c2) (r := cx x r) hE hP hD hS (k_rH (rest := []) (As := [.ref (ca 0 0), .int a, .int b]) hE rfl (hc H.size) (vx_cwSW 3 hts gL_call_L_tryPeg rfl rfl rfl (by decide +kernel) ⟨(Nat.le_of_ble_eq_true rfl), (Nat.le_of_ble_eq_true rfl)⟩) hP hD hS rfl hl rfl (Nat.le_of_ble_eq_true rfl) ⟨(Nat.le_of_ble_eq_true rfl), (Nat.le_of_ble_eq_true rfl)⟩ dL_call_116) (fun H locs hP hD hS => ?_)
  have hP := k_uP hP
  have hD := k_uD hD
  exact kI_ret hE hS hP hD rfl rfl (Nat.le_of_ble_eq_true rfl) (Nat.le_of_ble_eq_true rfl) dL_call_119
set_option maxHeartbeats 4000000 in
set_option maxRecDepth 100000 in
theorem c_call_4 (l : Launch) (hfl : l.stackTraces = false) (D : va_G) (cs : Nat → ClassId) (ca : Nat → Nat → Nat) {cv : CV} {mv : MV} (h : TRel cv mv) (a b d : Int32) : kI l yL_call wsL_call { frames := 8, cells := 1, slots := 6, locals := 127 } 1 6 D cs [.ref (ca 0 0), .int 4, .int a, .int b, .int d] (ca_W cs ca cv) (aX (k_X5_orderOf cv a b)) (ca_W cs ca (k_X5_orderOf cv a b).2.2) := by
  obtain ⟨x, r, c2, e0⟩ : ∃ x r c2, (k_X5_orderOf cv a b) = (x, r, c2) := ⟨_, _, _, rfl⟩
  have hL := (T_order h a b).2.2.2
  rw [e0] at hL ⊢
  dsimp only at hL ⊢
  have hc := w_tryOrder l hfl D cs ca cv c2 a b h.2.1 x r e0 hL
  refine kI_of (cc := cL_call) (maxL := 5) (ret := (some .int)) (by decide) rfl (Nat.le_of_ble_eq_true rfl) ?_
  intro p e s m below meth c A ls H locs hE hS hP hD hl
  obtain ⟨hx, hb, hr, hlocks, hml, hown, hts, hK, hA, hG, hnm⟩ := id hE
  have hown : s.vm.findClass RL = some m.cls := hown
  have hl : lv_has ls 5 [(0, .ref (ca 0 0)), (1, .int 4), (2, .int a), (3, .int b), (4, .int d)] := hl
  refine lv_iload_n hx hb dL_call_0 rfl (lv_at hl 1 rfl) ?_
  refine lv_tableIn (tgt := 120) (off := 119) hx hb dL_call_1 (by decide) (by decide) (by rfl) (by decide) ?_
  refine lv_aload_n hx hb dL_call_120 rfl (lv_at hl 0 rfl) ?_
  refine lv_iload_n hx hb dL_call_121 rfl (lv_at hl 2 rfl) ?_
  refine lv_iload_n hx hb dL_call_122 rfl (lv_at hl 3 rfl) ?_
  have hP : va_P D vwCl (ca_W cs ca cv ++ []) H := k_nP hP
  have hD : va_D A (ca_W cs ca cv ++ []) := k_nD hD
  refine kI_call (wc := ca_W cs ca cv) (wr := []) (w1 := ca_W cs ca c2) (r := cx x r) hE hP hD hS (k_rH (rest := []) (As := [.ref (ca 0 0), .int a, .int b]) hE rfl (hc H.size) (vx_cwSW 3 hts gL_call_L_tryOrder rfl rfl rfl (by decide +kernel) ⟨(Nat.le_of_ble_eq_true rfl), (Nat.le_of_ble_eq_true rfl)⟩) hP hD hS rfl hl rfl (Nat.le_of_ble_eq_true rfl) ⟨(Nat.le_of_ble_eq_true rfl), (Nat.le_of_ble_eq_true rfl)⟩ dL_call_123) (fun H locs hP hD hS => ?_)
  have hP := k_uP hP
  have hD := k_uD hD
  exact kI_ret hE hS hP hD rfl rfl (Nat.le_of_ble_eq_true rfl) (Nat.le_of_ble_eq_true rfl) dL_call_126
set_option maxHeartbeats 4000000 in
set_option maxRecDepth 100000 in
theorem c_call_5 (l : Launch) (hfl : l.stackTraces = false) (D : va_G) (cs : Nat → ClassId) (ca : Nat → Nat → Nat) {cv : CV} {mv : MV} (h : TRel cv mv) (a b d : Int32) : kI l yL_call wsL_call { frames := 8, cells := 1, slots := 6, locals := 134 } 1 6 D cs [.ref (ca 0 0), .int 5, .int a, .int b, .int d] (ca_W cs ca cv) (aX (k_X5_pipeOf cv a b)) (ca_W cs ca (k_X5_pipeOf cv a b).2.2) := by
  obtain ⟨x, r, c2, e0⟩ : ∃ x r c2, (k_X5_pipeOf cv a b) = (x, r, c2) := ⟨_, _, _, rfl⟩
  have hL := (T_pipe h a b).2.2.2
  rw [e0] at hL ⊢
  dsimp only at hL ⊢
  have hc := w_tryPipe l hfl D cs ca cv c2 a b h.2.1 x r e0 hL
  refine kI_of (cc := cL_call) (maxL := 5) (ret := (some .int)) (by decide) rfl (Nat.le_of_ble_eq_true rfl) ?_
  intro p e s m below meth c A ls H locs hE hS hP hD hl
  obtain ⟨hx, hb, hr, hlocks, hml, hown, hts, hK, hA, hG, hnm⟩ := id hE
  have hown : s.vm.findClass RL = some m.cls := hown
  have hl : lv_has ls 5 [(0, .ref (ca 0 0)), (1, .int 5), (2, .int a), (3, .int b), (4, .int d)] := hl
  refine lv_iload_n hx hb dL_call_0 rfl (lv_at hl 1 rfl) ?_
  refine lv_tableIn (tgt := 127) (off := 126) hx hb dL_call_1 (by decide) (by decide) (by rfl) (by decide) ?_
  refine lv_aload_n hx hb dL_call_127 rfl (lv_at hl 0 rfl) ?_
  refine lv_iload_n hx hb dL_call_128 rfl (lv_at hl 2 rfl) ?_
  refine lv_iload_n hx hb dL_call_129 rfl (lv_at hl 3 rfl) ?_
  have hP : va_P D vwCl (ca_W cs ca cv ++ []) H := k_nP hP
  have hD : va_D A (ca_W cs ca cv ++ []) := k_nD hD
  refine kI_call (wc := ca_W cs ca cv) (wr := []) (w1 := ca_W cs ca c2) (r := cx x r) hE hP hD hS (k_rH (rest := []) (As := [.ref (ca 0 0), .int a, .int b]) hE rfl (hc H.size) (vx_cwSW 3 hts gL_call_L_tryPipe rfl rfl rfl (by decide +kernel) ⟨(Nat.le_of_ble_eq_true rfl), (Nat.le_of_ble_eq_true rfl)⟩) hP hD hS rfl hl rfl (Nat.le_of_ble_eq_true rfl) ⟨(Nat.le_of_ble_eq_true rfl), (Nat.le_of_ble_eq_true rfl)⟩ dL_call_130) (fun H locs hP hD hS => ?_)
  have hP := k_uP hP
  have hD := k_uD hD
  exact kI_ret hE hS hP hD rfl rfl (Nat.le_of_ble_eq_true rfl) (Nat.le_of_ble_eq_true rfl) dL_call_133
set_option maxHeartbeats 4000000 in
set_option maxRecDepth 100000 in
theorem c_call_6 (l : Launch) (hfl : l.stackTraces = false) (D : va_G) (cs : Nat → ClassId) (ca : Nat → Nat → Nat) {cv : CV} {mv : MV} (h : TRel cv mv) (a b d : Int32) : kI l yL_call wsL_call { frames := 8, cells := 1, slots := 6, locals := 125 } 1 6 D cs [.ref (ca 0 0), .int 6, .int a, .int b, .int d] (ca_W cs ca cv) (aX (k_X5_chord cv a)) (ca_W cs ca (k_X5_chord cv a).2.2) := by
  obtain ⟨x, r, c2, e0⟩ : ∃ x r c2, (k_X5_chord cv a) = (x, r, c2) := ⟨_, _, _, rfl⟩
  have hL := (T_chord h a).2.2.2
  rw [e0] at hL ⊢
  dsimp only at hL ⊢
  have hc := w_tryChord l hfl D cs ca cv c2 a h.2.1 x r e0 hL
  refine kI_of (cc := cL_call) (maxL := 5) (ret := (some .int)) (by decide) rfl (Nat.le_of_ble_eq_true rfl) ?_
  intro p e s m below meth c A ls H locs hE hS hP hD hl
  obtain ⟨hx, hb, hr, hlocks, hml, hown, hts, hK, hA, hG, hnm⟩ := id hE
  have hown : s.vm.findClass RL = some m.cls := hown
  have hl : lv_has ls 5 [(0, .ref (ca 0 0)), (1, .int 6), (2, .int a), (3, .int b), (4, .int d)] := hl
  refine lv_iload_n hx hb dL_call_0 rfl (lv_at hl 1 rfl) ?_
  refine lv_tableIn (tgt := 134) (off := 133) hx hb dL_call_1 (by decide) (by decide) (by rfl) (by decide) ?_
  refine lv_aload_n hx hb dL_call_134 rfl (lv_at hl 0 rfl) ?_
  refine lv_iload_n hx hb dL_call_135 rfl (lv_at hl 2 rfl) ?_
  have hP : va_P D vwCl (ca_W cs ca cv ++ []) H := k_nP hP
  have hD : va_D A (ca_W cs ca cv ++ []) := k_nD hD
  refine kI_call (wc := ca_W cs ca cv) (wr := []) (w1 := ca_W cs ca c2) (r := cx x r) hE hP hD hS (k_rH (rest := []) (As := [.ref (ca 0 0), .int a]) hE rfl (hc H.size) (vx_cwSW 2 hts gL_call_L_tryChord rfl rfl rfl (by decide +kernel) ⟨(Nat.le_of_ble_eq_true rfl), (Nat.le_of_ble_eq_true rfl)⟩) hP hD hS rfl hl rfl (Nat.le_of_ble_eq_true rfl) ⟨(Nat.le_of_ble_eq_true rfl), (Nat.le_of_ble_eq_true rfl)⟩ dL_call_136) (fun H locs hP hD hS => ?_)
  have hP := k_uP hP
  have hD := k_uD hD
  exact kI_ret hE hS hP hD rfl rfl (Nat.le_of_ble_eq_true rfl) (Nat.le_of_ble_eq_true rfl) dL_call_139
set_option maxHeartbeats 4000000 in
set_option maxRecDepth 100000 in
theorem c_call_7 (l : Launch) (hfl : l.stackTraces = false) (D : va_G) (cs : Nat → ClassId) (ca : Nat → Nat → Nat) {cv : CV} {mv : MV} (h : TRel cv mv) (a b d : Int32) : kI l yL_call wsL_call { frames := 8, cells := 1, slots := 6, locals := 133 } 1 6 D cs [.ref (ca 0 0), .int 7, .int a, .int b, .int d] (ca_W cs ca cv) (aX (k_X5_covered cv a)) (ca_W cs ca (k_X5_covered cv a).2.2) := by
  obtain ⟨x, r, c2, e0⟩ : ∃ x r c2, (k_X5_covered cv a) = (x, r, c2) := ⟨_, _, _, rfl⟩
  have hL := (T_cov h a).2.2.2
  rw [e0] at hL ⊢
  dsimp only at hL ⊢
  have hc := w_tryCovered l hfl D cs ca cv c2 a h.2.1 x r e0 hL
  refine kI_of (cc := cL_call) (maxL := 5) (ret := (some .int)) (by decide) rfl (Nat.le_of_ble_eq_true rfl) ?_
  intro p e s m below meth c A ls H locs hE hS hP hD hl
  obtain ⟨hx, hb, hr, hlocks, hml, hown, hts, hK, hA, hG, hnm⟩ := id hE
  have hown : s.vm.findClass RL = some m.cls := hown
  have hl : lv_has ls 5 [(0, .ref (ca 0 0)), (1, .int 7), (2, .int a), (3, .int b), (4, .int d)] := hl
  refine lv_iload_n hx hb dL_call_0 rfl (lv_at hl 1 rfl) ?_
  refine lv_tableIn (tgt := 140) (off := 139) hx hb dL_call_1 (by decide) (by decide) (by rfl) (by decide) ?_
  refine lv_aload_n hx hb dL_call_140 rfl (lv_at hl 0 rfl) ?_
  refine lv_iload_n hx hb dL_call_141 rfl (lv_at hl 2 rfl) ?_
  have hP : va_P D vwCl (ca_W cs ca cv ++ []) H := k_nP hP
  have hD : va_D A (ca_W cs ca cv ++ []) := k_nD hD
  refine kI_call (wc := ca_W cs ca cv) (wr := []) (w1 := ca_W cs ca c2) (r := cx x r) hE hP hD hS (k_rH (rest := []) (As := [.ref (ca 0 0), .int a]) hE rfl (hc H.size) (vx_cwSW 2 hts gL_call_L_tryCovered rfl rfl rfl (by decide +kernel) ⟨(Nat.le_of_ble_eq_true rfl), (Nat.le_of_ble_eq_true rfl)⟩) hP hD hS rfl hl rfl (Nat.le_of_ble_eq_true rfl) ⟨(Nat.le_of_ble_eq_true rfl), (Nat.le_of_ble_eq_true rfl)⟩ dL_call_142) (fun H locs hP hD hS => ?_)
  have hP := k_uP hP
  have hD := k_uD hD
  exact kI_ret hE hS hP hD rfl rfl (Nat.le_of_ble_eq_true rfl) (Nat.le_of_ble_eq_true rfl) dL_call_145
set_option maxHeartbeats 4000000 in
set_option maxRecDepth 100000 in
theorem c_call_8 (l : Launch) (hfl : l.stackTraces = false) (D : va_G) (cs : Nat → ClassId) (ca : Nat → Nat → Nat) {cv : CV} {mv : MV} (h : TRel cv mv) (a b d : Int32) : kI l yL_call wsL_call { frames := 8, cells := 1, slots := 6, locals := 125 } 1 6 D cs [.ref (ca 0 0), .int 8, .int a, .int b, .int d] (ca_W cs ca cv) (aX (k_X5_setting cv a)) (ca_W cs ca (k_X5_setting cv a).2.2) := by
  obtain ⟨x, r, c2, e0⟩ : ∃ x r c2, (k_X5_setting cv a) = (x, r, c2) := ⟨_, _, _, rfl⟩
  have hL := (T_setting h a).2.2.2
  rw [e0] at hL ⊢
  dsimp only at hL ⊢
  have hc := w_trySetting l hfl D cs ca cv c2 a h.2.1 x r e0 hL
  refine kI_of (cc := cL_call) (maxL := 5) (ret := (some .int)) (by decide) rfl (Nat.le_of_ble_eq_true rfl) ?_
  intro p e s m below meth c A ls H locs hE hS hP hD hl
  obtain ⟨hx, hb, hr, hlocks, hml, hown, hts, hK, hA, hG, hnm⟩ := id hE
  have hown : s.vm.findClass RL = some m.cls := hown
  have hl : lv_has ls 5 [(0, .ref (ca 0 0)), (1, .int 8), (2, .int a), (3, .int b), (4, .int d)] := hl
  refine lv_iload_n hx hb dL_call_0 rfl (lv_at hl 1 rfl) ?_
  refine lv_tableIn (tgt := 146) (off := 145) hx hb dL_call_1 (by decide) (by decide) (by rfl) (by decide) ?_
  refine lv_aload_n hx hb dL_call_146 rfl (lv_at hl 0 rfl) ?_
  refine lv_iload_n hx hb dL_call_147 rfl (lv_at hl 2 rfl) ?_
  have hP : va_P D vwCl (ca_W cs ca cv ++ []) H := k_nP hP
  have hD : va_D A (ca_W cs ca cv ++ []) := k_nD hD
  refine kI_call (wc := ca_W cs ca cv) (wr := []) (w1 := ca_W cs ca c2) (r := cx x r) hE hP hD hS (k_rH (rest := []) (As := [.ref (ca 0 0), .int a]) hE rfl (hc H.size) (vx_cwSW 2 hts gL_call_L_trySetting rfl rfl rfl (by decide +kernel) ⟨(Nat.le_of_ble_eq_true rfl), (Nat.le_of_ble_eq_true rfl)⟩) hP hD hS rfl hl rfl (Nat.le_of_ble_eq_true rfl) ⟨(Nat.le_of_ble_eq_true rfl), (Nat.le_of_ble_eq_true rfl)⟩ dL_call_148) (fun H locs hP hD hS => ?_)
  have hP := k_uP hP
  have hD := k_uD hD
  exact kI_ret hE hS hP hD rfl rfl (Nat.le_of_ble_eq_true rfl) (Nat.le_of_ble_eq_true rfl) dL_call_151
set_option maxHeartbeats 4000000 in
set_option maxRecDepth 100000 in
theorem c_call_9 (l : Launch) (hfl : l.stackTraces = false) (D : va_G) (cs : Nat → ClassId) (ca : Nat → Nat → Nat) {cv : CV} {mv : MV} (h : TRel cv mv) (a b d : Int32) : kI l yL_call wsL_call { frames := 8, cells := 1, slots := 6, locals := 191 } 1 6 D cs [.ref (ca 0 0), .int 9, .int a, .int b, .int d] (ca_W cs ca cv) (aX (k_X5_put cv a b d)) (ca_W cs ca (k_X5_put cv a b d).2.2) := by
  obtain ⟨x, r, c2, e0⟩ : ∃ x r c2, (k_X5_put cv a b d) = (x, r, c2) := ⟨_, _, _, rfl⟩
  have hL := (T_put h a b d).2.2.2
  rw [e0] at hL ⊢
  dsimp only at hL ⊢
  have hc := w_tryPut l hfl D cs ca cv c2 a b d h.2.1 x r e0 hL
  refine kI_of (cc := cL_call) (maxL := 5) (ret := (some .int)) (by decide) rfl (Nat.le_of_ble_eq_true rfl) ?_
  intro p e s m below meth c A ls H locs hE hS hP hD hl
  obtain ⟨hx, hb, hr, hlocks, hml, hown, hts, hK, hA, hG, hnm⟩ := id hE
  have hown : s.vm.findClass RL = some m.cls := hown
  have hl : lv_has ls 5 [(0, .ref (ca 0 0)), (1, .int 9), (2, .int a), (3, .int b), (4, .int d)] := hl
  refine lv_iload_n hx hb dL_call_0 rfl (lv_at hl 1 rfl) ?_
  refine lv_tableIn (tgt := 152) (off := 151) hx hb dL_call_1 (by decide) (by decide) (by rfl) (by decide) ?_
  refine lv_aload_n hx hb dL_call_152 rfl (lv_at hl 0 rfl) ?_
  refine lv_iload_n hx hb dL_call_153 rfl (lv_at hl 2 rfl) ?_
  refine lv_iload_n hx hb dL_call_154 rfl (lv_at hl 3 rfl) ?_
  refine lv_iload hx hb dL_call_155 (lv_at hl 4 rfl) ?_
  have hP : va_P D vwCl (ca_W cs ca cv ++ []) H := k_nP hP
  have hD : va_D A (ca_W cs ca cv ++ []) := k_nD hD
  refine kI_call (wc := ca_W cs ca cv) (wr := []) (w1 := ca_W cs ca c2) (r := cx x r) hE hP hD hS (k_rH (rest := []) (As := [.ref (ca 0 0), .int a, .int b, .int d]) hE rfl (hc H.size) (vx_cwSW 4 hts gL_call_L_tryPut rfl rfl rfl (by decide +kernel) ⟨(Nat.le_of_ble_eq_true rfl), (Nat.le_of_ble_eq_true rfl)⟩) hP hD hS rfl hl rfl (Nat.le_of_ble_eq_true rfl) ⟨(Nat.le_of_ble_eq_true rfl), (Nat.le_of_ble_eq_true rfl)⟩ dL_call_157) (fun H locs hP hD hS => ?_)
  have hP := k_uP hP
  have hD := k_uD hD
  exact kI_ret hE hS hP hD rfl rfl (Nat.le_of_ble_eq_true rfl) (Nat.le_of_ble_eq_true rfl) dL_call_160
set_option maxHeartbeats 4000000 in
set_option maxRecDepth 100000 in
theorem c_call_10 (l : Launch) (hfl : l.stackTraces = false) (D : va_G) (cs : Nat → ClassId) (ca : Nat → Nat → Nat) {cv : CV} {mv : MV} (h : TRel cv mv) (a b d : Int32) : kI l yL_call wsL_call { frames := 8, cells := 1, slots := 6, locals := 189 } 1 6 D cs [.ref (ca 0 0), .int 10, .int a, .int b, .int d] (ca_W cs ca cv) (aX (k_X5_pull cv a b)) (ca_W cs ca (k_X5_pull cv a b).2.2) := by
  obtain ⟨x, r, c2, e0⟩ : ∃ x r c2, (k_X5_pull cv a b) = (x, r, c2) := ⟨_, _, _, rfl⟩
  have hL := (T_pull h a b).2.2.2
  rw [e0] at hL ⊢
  dsimp only at hL ⊢
  have hc := w_tryPull l hfl D cs ca cv c2 a b h.2.1 x r e0 hL
  refine kI_of (cc := cL_call) (maxL := 5) (ret := (some .int)) (by decide) rfl (Nat.le_of_ble_eq_true rfl) ?_
  intro p e s m below meth c A ls H locs hE hS hP hD hl
  obtain ⟨hx, hb, hr, hlocks, hml, hown, hts, hK, hA, hG, hnm⟩ := id hE
  have hown : s.vm.findClass RL = some m.cls := hown
  have hl : lv_has ls 5 [(0, .ref (ca 0 0)), (1, .int 10), (2, .int a), (3, .int b), (4, .int d)] := hl
  refine lv_iload_n hx hb dL_call_0 rfl (lv_at hl 1 rfl) ?_
  refine lv_tableIn (tgt := 161) (off := 160) hx hb dL_call_1 (by decide) (by decide) (by rfl) (by decide) ?_
  refine lv_aload_n hx hb dL_call_161 rfl (lv_at hl 0 rfl) ?_
  refine lv_iload_n hx hb dL_call_162 rfl (lv_at hl 2 rfl) ?_
  refine lv_iload_n hx hb dL_call_163 rfl (lv_at hl 3 rfl) ?_
  have hP : va_P D vwCl (ca_W cs ca cv ++ []) H := k_nP hP
  have hD : va_D A (ca_W cs ca cv ++ []) := k_nD hD
  refine kI_call (wc := ca_W cs ca cv) (wr := []) (w1 := ca_W cs ca c2) (r := cx x r) hE hP hD hS (k_rH (rest := []) (As := [.ref (ca 0 0), .int a, .int b]) hE rfl (hc H.size) (vx_cwSW 3 hts gL_call_L_tryPull rfl rfl rfl (by decide +kernel) ⟨(Nat.le_of_ble_eq_true rfl), (Nat.le_of_ble_eq_true rfl)⟩) hP hD hS rfl hl rfl (Nat.le_of_ble_eq_true rfl) ⟨(Nat.le_of_ble_eq_true rfl), (Nat.le_of_ble_eq_true rfl)⟩ dL_call_164) (fun H locs hP hD hS => ?_)
  have hP := k_uP hP
  have hD := k_uD hD
  exact kI_ret hE hS hP hD rfl rfl (Nat.le_of_ble_eq_true rfl) (Nat.le_of_ble_eq_true rfl) dL_call_167
set_option maxHeartbeats 4000000 in
set_option maxRecDepth 100000 in
theorem c_call_11 (l : Launch) (hfl : l.stackTraces = false) (D : va_G) (cs : Nat → ClassId) (ca : Nat → Nat → Nat) {cv : CV} {mv : MV} (h : TRel cv mv) (a b d : Int32) : kI l yL_call wsL_call { frames := 8, cells := 1, slots := 6, locals := 187 } 1 6 D cs [.ref (ca 0 0), .int 11, .int a, .int b, .int d] (ca_W cs ca cv) (aX (k_X5_cancel cv a)) (ca_W cs ca (k_X5_cancel cv a).2.2) := by
  obtain ⟨x, r, c2, e0⟩ : ∃ x r c2, (k_X5_cancel cv a) = (x, r, c2) := ⟨_, _, _, rfl⟩
  have hL := (T_cancel h a).2.2.2
  rw [e0] at hL ⊢
  dsimp only at hL ⊢
  have hc := w_tryCancel l hfl D cs ca cv c2 a h.2.1 x r e0 hL
  refine kI_of (cc := cL_call) (maxL := 5) (ret := (some .int)) (by decide) rfl (Nat.le_of_ble_eq_true rfl) ?_
  intro p e s m below meth c A ls H locs hE hS hP hD hl
  obtain ⟨hx, hb, hr, hlocks, hml, hown, hts, hK, hA, hG, hnm⟩ := id hE
  have hown : s.vm.findClass RL = some m.cls := hown
  have hl : lv_has ls 5 [(0, .ref (ca 0 0)), (1, .int 11), (2, .int a), (3, .int b), (4, .int d)] := hl
  refine lv_iload_n hx hb dL_call_0 rfl (lv_at hl 1 rfl) ?_
  refine lv_tableIn (tgt := 168) (off := 167) hx hb dL_call_1 (by decide) (by decide) (by rfl) (by decide) ?_
  refine lv_aload_n hx hb dL_call_168 rfl (lv_at hl 0 rfl) ?_
  refine lv_iload_n hx hb dL_call_169 rfl (lv_at hl 2 rfl) ?_
  have hP : va_P D vwCl (ca_W cs ca cv ++ []) H := k_nP hP
  have hD : va_D A (ca_W cs ca cv ++ []) := k_nD hD
  refine kI_call (wc := ca_W cs ca cv) (wr := []) (w1 := ca_W cs ca c2) (r := cx x r) hE hP hD hS (k_rH (rest := []) (As := [.ref (ca 0 0), .int a]) hE rfl (hc H.size) (vx_cwSW 2 hts gL_call_L_tryCancel rfl rfl rfl (by decide +kernel) ⟨(Nat.le_of_ble_eq_true rfl), (Nat.le_of_ble_eq_true rfl)⟩) hP hD hS rfl hl rfl (Nat.le_of_ble_eq_true rfl) ⟨(Nat.le_of_ble_eq_true rfl), (Nat.le_of_ble_eq_true rfl)⟩ dL_call_170) (fun H locs hP hD hS => ?_)
  have hP := k_uP hP
  have hD := k_uD hD
  exact kI_ret hE hS hP hD rfl rfl (Nat.le_of_ble_eq_true rfl) (Nat.le_of_ble_eq_true rfl) dL_call_173
set_option maxHeartbeats 4000000 in
set_option maxRecDepth 100000 in
theorem c_call_12 (l : Launch) (hfl : l.stackTraces = false) (D : va_G) (cs : Nat → ClassId) (ca : Nat → Nat → Nat) {cv : CV} {mv : MV} (h : TRel cv mv) (a b d : Int32) : kI l yL_call wsL_call { frames := 8, cells := 1, slots := 6, locals := 195 } 1 6 D cs [.ref (ca 0 0), .int 12, .int a, .int b, .int d] (ca_W cs ca cv) (aX (k_X5_ticks cv a)) (ca_W cs ca (k_X5_ticks cv a).2.2) := by
  obtain ⟨x, r, c2, e0⟩ : ∃ x r c2, (k_X5_ticks cv a) = (x, r, c2) := ⟨_, _, _, rfl⟩
  have hL := (T_ticks h a).2.2.2
  rw [e0] at hL ⊢
  dsimp only at hL ⊢
  have hc := w_tryTicks l hfl D cs ca cv c2 a h.2.1 x r e0 hL
  refine kI_of (cc := cL_call) (maxL := 5) (ret := (some .int)) (by decide) rfl (Nat.le_of_ble_eq_true rfl) ?_
  intro p e s m below meth c A ls H locs hE hS hP hD hl
  obtain ⟨hx, hb, hr, hlocks, hml, hown, hts, hK, hA, hG, hnm⟩ := id hE
  have hown : s.vm.findClass RL = some m.cls := hown
  have hl : lv_has ls 5 [(0, .ref (ca 0 0)), (1, .int 12), (2, .int a), (3, .int b), (4, .int d)] := hl
  refine lv_iload_n hx hb dL_call_0 rfl (lv_at hl 1 rfl) ?_
  refine lv_tableIn (tgt := 174) (off := 173) hx hb dL_call_1 (by decide) (by decide) (by rfl) (by decide) ?_
  refine lv_aload_n hx hb dL_call_174 rfl (lv_at hl 0 rfl) ?_
  refine lv_iload_n hx hb dL_call_175 rfl (lv_at hl 2 rfl) ?_
  have hP : va_P D vwCl (ca_W cs ca cv ++ []) H := k_nP hP
  have hD : va_D A (ca_W cs ca cv ++ []) := k_nD hD
  refine kI_call (wc := ca_W cs ca cv) (wr := []) (w1 := ca_W cs ca c2) (r := cx x r) hE hP hD hS (k_rH (rest := []) (As := [.ref (ca 0 0), .int a]) hE rfl (hc H.size) (vx_cwSW 2 hts gL_call_L_tryTicks rfl rfl rfl (by decide +kernel) ⟨(Nat.le_of_ble_eq_true rfl), (Nat.le_of_ble_eq_true rfl)⟩) hP hD hS rfl hl rfl (Nat.le_of_ble_eq_true rfl) ⟨(Nat.le_of_ble_eq_true rfl), (Nat.le_of_ble_eq_true rfl)⟩ dL_call_176) (fun H locs hP hD hS => ?_)
  have hP := k_uP hP
  have hD := k_uD hD
  exact kI_ret hE hS hP hD rfl rfl (Nat.le_of_ble_eq_true rfl) (Nat.le_of_ble_eq_true rfl) dL_call_179
set_option maxHeartbeats 4000000 in
set_option maxRecDepth 100000 in
theorem c_call_13 (l : Launch) (hfl : l.stackTraces = false) (D : va_G) (cs : Nat → ClassId) (ca : Nat → Nat → Nat) {cv : CV} {mv : MV} (h : TRel cv mv) (a b d : Int32) : kI l yL_call wsL_call { frames := 8, cells := 1, slots := 6, locals := 189 } 1 6 D cs [.ref (ca 0 0), .int 13, .int a, .int b, .int d] (ca_W cs ca cv) (aX (k_X5_set cv a b)) (ca_W cs ca (k_X5_set cv a b).2.2) := by
  obtain ⟨x, r, c2, e0⟩ : ∃ x r c2, (k_X5_set cv a b) = (x, r, c2) := ⟨_, _, _, rfl⟩
  have hL := (T_set h a b).2.2.2
  rw [e0] at hL ⊢
  dsimp only at hL ⊢
  have hc := w_tryLay l hfl D cs ca cv c2 a b h.2.1 x r e0 hL
  refine kI_of (cc := cL_call) (maxL := 5) (ret := (some .int)) (by decide) rfl (Nat.le_of_ble_eq_true rfl) ?_
  intro p e s m below meth c A ls H locs hE hS hP hD hl
  obtain ⟨hx, hb, hr, hlocks, hml, hown, hts, hK, hA, hG, hnm⟩ := id hE
  have hown : s.vm.findClass RL = some m.cls := hown
  have hl : lv_has ls 5 [(0, .ref (ca 0 0)), (1, .int 13), (2, .int a), (3, .int b), (4, .int d)] := hl
  refine lv_iload_n hx hb dL_call_0 rfl (lv_at hl 1 rfl) ?_
  refine lv_tableIn (tgt := 180) (off := 179) hx hb dL_call_1 (by decide) (by decide) (by rfl) (by decide) ?_
  refine lv_aload_n hx hb dL_call_180 rfl (lv_at hl 0 rfl) ?_
  refine lv_iload_n hx hb dL_call_181 rfl (lv_at hl 2 rfl) ?_
  refine lv_iload_n hx hb dL_call_182 rfl (lv_at hl 3 rfl) ?_
  have hP : va_P D vwCl (ca_W cs ca cv ++ []) H := k_nP hP
  have hD : va_D A (ca_W cs ca cv ++ []) := k_nD hD
  refine kI_call (wc := ca_W cs ca cv) (wr := []) (w1 := ca_W cs ca c2) (r := cx x r) hE hP hD hS (k_rH (rest := []) (As := [.ref (ca 0 0), .int a, .int b]) hE rfl (hc H.size) (vx_cwSW 3 hts gL_call_L_tryLay rfl rfl rfl (by decide +kernel) ⟨(Nat.le_of_ble_eq_true rfl), (Nat.le_of_ble_eq_true rfl)⟩) hP hD hS rfl hl rfl (Nat.le_of_ble_eq_true rfl) ⟨(Nat.le_of_ble_eq_true rfl), (Nat.le_of_ble_eq_true rfl)⟩ dL_call_183) (fun H locs hP hD hS => ?_)
  have hP := k_uP hP
  have hD := k_uD hD
  exact kI_ret hE hS hP hD rfl rfl (Nat.le_of_ble_eq_true rfl) (Nat.le_of_ble_eq_true rfl) dL_call_186
set_option maxHeartbeats 4000000 in
set_option maxRecDepth 100000 in
theorem c_call_14 (l : Launch) (hfl : l.stackTraces = false) (D : va_G) (cs : Nat → ClassId) (ca : Nat → Nat → Nat) {cv : CV} {mv : MV} (h : TRel cv mv) (a b d : Int32) : kI l yL_call wsL_call { frames := 8, cells := 1, slots := 6, locals := 185 } 1 6 D cs [.ref (ca 0 0), .int 14, .int a, .int b, .int d] (ca_W cs ca cv) (aX (k_X5_undo cv)) (ca_W cs ca (k_X5_undo cv).2.2) := by
  obtain ⟨x, r, c2, e0⟩ : ∃ x r c2, (k_X5_undo cv) = (x, r, c2) := ⟨_, _, _, rfl⟩
  have hL := (T_undo h).2.2.2
  rw [e0] at hL ⊢
  dsimp only at hL ⊢
  have hc := w_tryUndo l hfl D cs ca cv c2 h.2.1 x r e0 hL
  refine kI_of (cc := cL_call) (maxL := 5) (ret := (some .int)) (by decide) rfl (Nat.le_of_ble_eq_true rfl) ?_
  intro p e s m below meth c A ls H locs hE hS hP hD hl
  obtain ⟨hx, hb, hr, hlocks, hml, hown, hts, hK, hA, hG, hnm⟩ := id hE
  have hown : s.vm.findClass RL = some m.cls := hown
  have hl : lv_has ls 5 [(0, .ref (ca 0 0)), (1, .int 14), (2, .int a), (3, .int b), (4, .int d)] := hl
  refine lv_iload_n hx hb dL_call_0 rfl (lv_at hl 1 rfl) ?_
  refine lv_tableIn (tgt := 187) (off := 186) hx hb dL_call_1 (by decide) (by decide) (by rfl) (by decide) ?_
  refine lv_aload_n hx hb dL_call_187 rfl (lv_at hl 0 rfl) ?_
  have hP : va_P D vwCl (ca_W cs ca cv ++ []) H := k_nP hP
  have hD : va_D A (ca_W cs ca cv ++ []) := k_nD hD
  refine kI_call (wc := ca_W cs ca cv) (wr := []) (w1 := ca_W cs ca c2) (r := cx x r) hE hP hD hS (k_rH (rest := []) (As := [.ref (ca 0 0)]) hE rfl (hc H.size) (vx_cwSW 1 hts gL_call_L_tryUndo rfl rfl rfl (by decide +kernel) ⟨(Nat.le_of_ble_eq_true rfl), (Nat.le_of_ble_eq_true rfl)⟩) hP hD hS rfl hl rfl (Nat.le_of_ble_eq_true rfl) ⟨(Nat.le_of_ble_eq_true rfl), (Nat.le_of_ble_eq_true rfl)⟩ dL_call_188) (fun H locs hP hD hS => ?_)
  have hP := k_uP hP
  have hD := k_uD hD
  exact kI_ret hE hS hP hD rfl rfl (Nat.le_of_ble_eq_true rfl) (Nat.le_of_ble_eq_true rfl) dL_call_191
set_option maxHeartbeats 4000000 in
set_option maxRecDepth 100000 in
theorem c_call_15 (l : Launch) (hfl : l.stackTraces = false) (D : va_G) (cs : Nat → ClassId) (ca : Nat → Nat → Nat) {cv : CV} {mv : MV} (h : TRel cv mv) (a b d : Int32) : kI l yL_call wsL_call { frames := 8, cells := 1, slots := 6, locals := 196 } 1 6 D cs [.ref (ca 0 0), .int 15, .int a, .int b, .int d] (ca_W cs ca cv) (aX (k_X5_doneIn cv a)) (ca_W cs ca (k_X5_doneIn cv a).2.2) := by
  obtain ⟨x, r, c2, e0⟩ : ∃ x r c2, (k_X5_doneIn cv a) = (x, r, c2) := ⟨_, _, _, rfl⟩
  have hL := (T_done h a).2.2.2
  rw [e0] at hL ⊢
  dsimp only at hL ⊢
  have hc := w_tryDone l hfl D cs ca cv c2 a h.2.1 x r e0 hL
  refine kI_of (cc := cL_call) (maxL := 5) (ret := (some .int)) (by decide) rfl (Nat.le_of_ble_eq_true rfl) ?_
  intro p e s m below meth c A ls H locs hE hS hP hD hl
  obtain ⟨hx, hb, hr, hlocks, hml, hown, hts, hK, hA, hG, hnm⟩ := id hE
  have hown : s.vm.findClass RL = some m.cls := hown
  have hl : lv_has ls 5 [(0, .ref (ca 0 0)), (1, .int 15), (2, .int a), (3, .int b), (4, .int d)] := hl
  refine lv_iload_n hx hb dL_call_0 rfl (lv_at hl 1 rfl) ?_
  refine lv_tableIn (tgt := 192) (off := 191) hx hb dL_call_1 (by decide) (by decide) (by rfl) (by decide) ?_
  refine lv_aload_n hx hb dL_call_192 rfl (lv_at hl 0 rfl) ?_
  refine lv_iload_n hx hb dL_call_193 rfl (lv_at hl 2 rfl) ?_
  have hP : va_P D vwCl (ca_W cs ca cv ++ []) H := k_nP hP
  have hD : va_D A (ca_W cs ca cv ++ []) := k_nD hD
  refine kI_call (wc := ca_W cs ca cv) (wr := []) (w1 := ca_W cs ca c2) (r := cx x r) hE hP hD hS (k_rH (rest := []) (As := [.ref (ca 0 0), .int a]) hE rfl (hc H.size) (vx_cwSW 2 hts gL_call_L_tryDone rfl rfl rfl (by decide +kernel) ⟨(Nat.le_of_ble_eq_true rfl), (Nat.le_of_ble_eq_true rfl)⟩) hP hD hS rfl hl rfl (Nat.le_of_ble_eq_true rfl) ⟨(Nat.le_of_ble_eq_true rfl), (Nat.le_of_ble_eq_true rfl)⟩ dL_call_194) (fun H locs hP hD hS => ?_)
  have hP := k_uP hP
  have hD := k_uD hD
  exact kI_ret hE hS hP hD rfl rfl (Nat.le_of_ble_eq_true rfl) (Nat.le_of_ble_eq_true rfl) dL_call_197
set_option maxHeartbeats 4000000 in
set_option maxRecDepth 100000 in
theorem c_call_16 (l : Launch) (hfl : l.stackTraces = false) (D : va_G) (cs : Nat → ClassId) (ca : Nat → Nat → Nat) {cv : CV} {mv : MV} (h : TRel cv mv) (a b d : Int32) : kI l yL_call wsL_call { frames := 8, cells := 1, slots := 6, locals := 196 } 1 6 D cs [.ref (ca 0 0), .int 16, .int a, .int b, .int d] (ca_W cs ca cv) (aX (k_X5_soundsIn cv a)) (ca_W cs ca (k_X5_soundsIn cv a).2.2) := by
  obtain ⟨x, r, c2, e0⟩ : ∃ x r c2, (k_X5_soundsIn cv a) = (x, r, c2) := ⟨_, _, _, rfl⟩
  have hL := (T_sounds h a).2.2.2
  rw [e0] at hL ⊢
  dsimp only at hL ⊢
  have hc := w_trySounds l hfl D cs ca cv c2 a h.2.1 x r e0 hL
  refine kI_of (cc := cL_call) (maxL := 5) (ret := (some .int)) (by decide) rfl (Nat.le_of_ble_eq_true rfl) ?_
  intro p e s m below meth c A ls H locs hE hS hP hD hl
  obtain ⟨hx, hb, hr, hlocks, hml, hown, hts, hK, hA, hG, hnm⟩ := id hE
  have hown : s.vm.findClass RL = some m.cls := hown
  have hl : lv_has ls 5 [(0, .ref (ca 0 0)), (1, .int 16), (2, .int a), (3, .int b), (4, .int d)] := hl
  refine lv_iload_n hx hb dL_call_0 rfl (lv_at hl 1 rfl) ?_
  refine lv_tableIn (tgt := 198) (off := 197) hx hb dL_call_1 (by decide) (by decide) (by rfl) (by decide) ?_
  refine lv_aload_n hx hb dL_call_198 rfl (lv_at hl 0 rfl) ?_
  refine lv_iload_n hx hb dL_call_199 rfl (lv_at hl 2 rfl) ?_
  have hP : va_P D vwCl (ca_W cs ca cv ++ []) H := k_nP hP
  have hD : va_D A (ca_W cs ca cv ++ []) := k_nD hD
  refine kI_call (wc := ca_W cs ca cv) (wr := []) (w1 := ca_W cs ca c2) (r := cx x r) hE hP hD hS (k_rH (rest := []) (As := [.ref (ca 0 0), .int a]) hE rfl (hc H.size) (vx_cwSW 2 hts gL_call_L_trySounds rfl rfl rfl (by decide +kernel) ⟨(Nat.le_of_ble_eq_true rfl), (Nat.le_of_ble_eq_true rfl)⟩) hP hD hS rfl hl rfl (Nat.le_of_ble_eq_true rfl) ⟨(Nat.le_of_ble_eq_true rfl), (Nat.le_of_ble_eq_true rfl)⟩ dL_call_200) (fun H locs hP hD hS => ?_)
  have hP := k_uP hP
  have hD := k_uD hD
  exact kI_ret hE hS hP hD rfl rfl (Nat.le_of_ble_eq_true rfl) (Nat.le_of_ble_eq_true rfl) dL_call_203
set_option maxHeartbeats 4000000 in
set_option maxRecDepth 100000 in
theorem c_call_17 (l : Launch) (hfl : l.stackTraces = false) (D : va_G) (cs : Nat → ClassId) (ca : Nat → Nat → Nat) {cv : CV} {mv : MV} (h : TRel cv mv) (a b d : Int32) : kI l yL_call wsL_call { frames := 8, cells := 1, slots := 6, locals := 196 } 1 6 D cs [.ref (ca 0 0), .int 17, .int a, .int b, .int d] (ca_W cs ca cv) (aX (k_X5_leastSpeed cv a)) (ca_W cs ca (k_X5_leastSpeed cv a).2.2) := by
  obtain ⟨x, r, c2, e0⟩ : ∃ x r c2, (k_X5_leastSpeed cv a) = (x, r, c2) := ⟨_, _, _, rfl⟩
  have hL := (T_least h a).2.2.2
  rw [e0] at hL ⊢
  dsimp only at hL ⊢
  have hc := w_tryLeast l hfl D cs ca cv c2 a h.2.1 x r e0 hL
  refine kI_of (cc := cL_call) (maxL := 5) (ret := (some .int)) (by decide) rfl (Nat.le_of_ble_eq_true rfl) ?_
  intro p e s m below meth c A ls H locs hE hS hP hD hl
  obtain ⟨hx, hb, hr, hlocks, hml, hown, hts, hK, hA, hG, hnm⟩ := id hE
  have hown : s.vm.findClass RL = some m.cls := hown
  have hl : lv_has ls 5 [(0, .ref (ca 0 0)), (1, .int 17), (2, .int a), (3, .int b), (4, .int d)] := hl
  refine lv_iload_n hx hb dL_call_0 rfl (lv_at hl 1 rfl) ?_
  refine lv_tableIn (tgt := 204) (off := 203) hx hb dL_call_1 (by decide) (by decide) (by rfl) (by decide) ?_
  refine lv_aload_n hx hb dL_call_204 rfl (lv_at hl 0 rfl) ?_
  refine lv_iload_n hx hb dL_call_205 rfl (lv_at hl 2 rfl) ?_
  have hP : va_P D vwCl (ca_W cs ca cv ++ []) H := k_nP hP
  have hD : va_D A (ca_W cs ca cv ++ []) := k_nD hD
  refine kI_call (wc := ca_W cs ca cv) (wr := []) (w1 := ca_W cs ca c2) (r := cx x r) hE hP hD hS (k_rH (rest := []) (As := [.ref (ca 0 0), .int a]) hE rfl (hc H.size) (vx_cwSW 2 hts gL_call_L_tryLeast rfl rfl rfl (by decide +kernel) ⟨(Nat.le_of_ble_eq_true rfl), (Nat.le_of_ble_eq_true rfl)⟩) hP hD hS rfl hl rfl (Nat.le_of_ble_eq_true rfl) ⟨(Nat.le_of_ble_eq_true rfl), (Nat.le_of_ble_eq_true rfl)⟩ dL_call_206) (fun H locs hP hD hS => ?_)
  have hP := k_uP hP
  have hD := k_uD hD
  exact kI_ret hE hS hP hD rfl rfl (Nat.le_of_ble_eq_true rfl) (Nat.le_of_ble_eq_true rfl) dL_call_209
set_option maxHeartbeats 4000000 in
set_option maxRecDepth 100000 in
theorem c_call_18 (l : Launch) (hfl : l.stackTraces = false) (D : va_G) (cs : Nat → ClassId) (ca : Nat → Nat → Nat) {cv : CV} {mv : MV} (h : TRel cv mv) (a b d : Int32) : kI l yL_call wsL_call { frames := 8, cells := 1, slots := 6, locals := 128 } 1 6 D cs [.ref (ca 0 0), .int 18, .int a, .int b, .int d] (ca_W cs ca cv) (aX (k_X5_room cv a b)) (ca_W cs ca (k_X5_room cv a b).2.2) := by
  obtain ⟨x, r, c2, e0⟩ : ∃ x r c2, (k_X5_room cv a b) = (x, r, c2) := ⟨_, _, _, rfl⟩
  have hL := (T_room h a b).2.2.2
  rw [e0] at hL ⊢
  dsimp only at hL ⊢
  have hc := w_tryRoom l hfl D cs ca cv c2 a b h.2.1 x r e0 hL
  refine kI_of (cc := cL_call) (maxL := 5) (ret := (some .int)) (by decide) rfl (Nat.le_of_ble_eq_true rfl) ?_
  intro p e s m below meth c A ls H locs hE hS hP hD hl
  obtain ⟨hx, hb, hr, hlocks, hml, hown, hts, hK, hA, hG, hnm⟩ := id hE
  have hown : s.vm.findClass RL = some m.cls := hown
  have hl : lv_has ls 5 [(0, .ref (ca 0 0)), (1, .int 18), (2, .int a), (3, .int b), (4, .int d)] := hl
  refine lv_iload_n hx hb dL_call_0 rfl (lv_at hl 1 rfl) ?_
  refine lv_tableIn (tgt := 210) (off := 209) hx hb dL_call_1 (by decide) (by decide) (by rfl) (by decide) ?_
  refine lv_aload_n hx hb dL_call_210 rfl (lv_at hl 0 rfl) ?_
  refine lv_iload_n hx hb dL_call_211 rfl (lv_at hl 2 rfl) ?_
  refine lv_iload_n hx hb dL_call_212 rfl (lv_at hl 3 rfl) ?_
  have hP : va_P D vwCl (ca_W cs ca cv ++ []) H := k_nP hP
  have hD : va_D A (ca_W cs ca cv ++ []) := k_nD hD
  refine kI_call (wc := ca_W cs ca cv) (wr := []) (w1 := ca_W cs ca c2) (r := cx x r) hE hP hD hS (k_rH (rest := []) (As := [.ref (ca 0 0), .int a, .int b]) hE rfl (hc H.size) (vx_cwSW 3 hts gL_call_L_tryRoom rfl rfl rfl (by decide +kernel) ⟨(Nat.le_of_ble_eq_true rfl), (Nat.le_of_ble_eq_true rfl)⟩) hP hD hS rfl hl rfl (Nat.le_of_ble_eq_true rfl) ⟨(Nat.le_of_ble_eq_true rfl), (Nat.le_of_ble_eq_true rfl)⟩ dL_call_213) (fun H locs hP hD hS => ?_)
  have hP := k_uP hP
  have hD := k_uD hD
  exact kI_ret hE hS hP hD rfl rfl (Nat.le_of_ble_eq_true rfl) (Nat.le_of_ble_eq_true rfl) dL_call_216
set_option maxHeartbeats 4000000 in
set_option maxRecDepth 100000 in
theorem c_call_19 (l : Launch) (hfl : l.stackTraces = false) (D : va_G) (cs : Nat → ClassId) (ca : Nat → Nat → Nat) {cv : CV} {mv : MV} (h : TRel cv mv) (a b d : Int32) : kI l yL_call wsL_call { frames := 8, cells := 1, slots := 6, locals := 188 } 1 6 D cs [.ref (ca 0 0), .int 19, .int a, .int b, .int d] (ca_W cs ca cv) (aX (k_X5_save cv a)) (ca_W cs ca (k_X5_save cv a).2.2) := by
  obtain ⟨x, r, c2, e0⟩ : ∃ x r c2, (k_X5_save cv a) = (x, r, c2) := ⟨_, _, _, rfl⟩
  have hL := (T_save h a).2.2.2
  rw [e0] at hL ⊢
  dsimp only at hL ⊢
  have hc := w_tryKeep l hfl D cs ca cv c2 a h.2.1 x r e0 hL
  refine kI_of (cc := cL_call) (maxL := 5) (ret := (some .int)) (by decide) rfl (Nat.le_of_ble_eq_true rfl) ?_
  intro p e s m below meth c A ls H locs hE hS hP hD hl
  obtain ⟨hx, hb, hr, hlocks, hml, hown, hts, hK, hA, hG, hnm⟩ := id hE
  have hown : s.vm.findClass RL = some m.cls := hown
  have hl : lv_has ls 5 [(0, .ref (ca 0 0)), (1, .int 19), (2, .int a), (3, .int b), (4, .int d)] := hl
  refine lv_iload_n hx hb dL_call_0 rfl (lv_at hl 1 rfl) ?_
  refine lv_tableIn (tgt := 217) (off := 216) hx hb dL_call_1 (by decide) (by decide) (by rfl) (by decide) ?_
  refine lv_aload_n hx hb dL_call_217 rfl (lv_at hl 0 rfl) ?_
  refine lv_iload_n hx hb dL_call_218 rfl (lv_at hl 2 rfl) ?_
  have hP : va_P D vwCl (ca_W cs ca cv ++ []) H := k_nP hP
  have hD : va_D A (ca_W cs ca cv ++ []) := k_nD hD
  refine kI_call (wc := ca_W cs ca cv) (wr := []) (w1 := ca_W cs ca c2) (r := cx x r) hE hP hD hS (k_rH (rest := []) (As := [.ref (ca 0 0), .int a]) hE rfl (hc H.size) (vx_cwSW 2 hts gL_call_L_tryKeep rfl rfl rfl (by decide +kernel) ⟨(Nat.le_of_ble_eq_true rfl), (Nat.le_of_ble_eq_true rfl)⟩) hP hD hS rfl hl rfl (Nat.le_of_ble_eq_true rfl) ⟨(Nat.le_of_ble_eq_true rfl), (Nat.le_of_ble_eq_true rfl)⟩ dL_call_219) (fun H locs hP hD hS => ?_)
  have hP := k_uP hP
  have hD := k_uD hD
  exact kI_ret hE hS hP hD rfl rfl (Nat.le_of_ble_eq_true rfl) (Nat.le_of_ble_eq_true rfl) dL_call_222
set_option maxHeartbeats 4000000 in
set_option maxRecDepth 100000 in
theorem c_call_20 (l : Launch) (hfl : l.stackTraces = false) (D : va_G) (cs : Nat → ClassId) (ca : Nat → Nat → Nat) {cv : CV} {mv : MV} (h : TRel cv mv) (a b d : Int32) : kI l yL_call wsL_call { frames := 8, cells := 1, slots := 6, locals := 188 } 1 6 D cs [.ref (ca 0 0), .int 20, .int a, .int b, .int d] (ca_W cs ca cv) (aX (k_X5_restore cv a)) (ca_W cs ca (k_X5_restore cv a).2.2) := by
  obtain ⟨x, r, c2, e0⟩ : ∃ x r c2, (k_X5_restore cv a) = (x, r, c2) := ⟨_, _, _, rfl⟩
  have hL := (T_restore h a).2.2.2
  rw [e0] at hL ⊢
  dsimp only at hL ⊢
  have hc := w_tryBack l hfl D cs ca cv c2 a h.2.1 x r e0 hL
  refine kI_of (cc := cL_call) (maxL := 5) (ret := (some .int)) (by decide) rfl (Nat.le_of_ble_eq_true rfl) ?_
  intro p e s m below meth c A ls H locs hE hS hP hD hl
  obtain ⟨hx, hb, hr, hlocks, hml, hown, hts, hK, hA, hG, hnm⟩ := id hE
  have hown : s.vm.findClass RL = some m.cls := hown
  have hl : lv_has ls 5 [(0, .ref (ca 0 0)), (1, .int 20), (2, .int a), (3, .int b), (4, .int d)] := hl
  refine lv_iload_n hx hb dL_call_0 rfl (lv_at hl 1 rfl) ?_
  refine lv_tableOut (tgt := 223) hx hb dL_call_1 (by decide) (by decide) ?_
  refine lv_aload_n hx hb dL_call_223 rfl (lv_at hl 0 rfl) ?_
  refine lv_iload_n hx hb dL_call_224 rfl (lv_at hl 2 rfl) ?_
  have hP : va_P D vwCl (ca_W cs ca cv ++ []) H := k_nP hP
  have hD : va_D A (ca_W cs ca cv ++ []) := k_nD hD
  refine kI_call (wc := ca_W cs ca cv) (wr := []) (w1 := ca_W cs ca c2) (r := cx x r) hE hP hD hS (k_rH (rest := []) (As := [.ref (ca 0 0), .int a]) hE rfl (hc H.size) (vx_cwSW 2 hts gL_call_L_tryBack rfl rfl rfl (by decide +kernel) ⟨(Nat.le_of_ble_eq_true rfl), (Nat.le_of_ble_eq_true rfl)⟩) hP hD hS rfl hl rfl (Nat.le_of_ble_eq_true rfl) ⟨(Nat.le_of_ble_eq_true rfl), (Nat.le_of_ble_eq_true rfl)⟩ dL_call_225) (fun H locs hP hD hS => ?_)
  have hP := k_uP hP
  have hD := k_uD hD
  exact kI_ret hE hS hP hD rfl rfl (Nat.le_of_ble_eq_true rfl) (Nat.le_of_ble_eq_true rfl) dL_call_228
