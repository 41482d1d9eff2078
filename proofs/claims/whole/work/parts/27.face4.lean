theorem md_k3 {cs : Nat → ClassId} {ma : Nat → Nat} {o : MV} {x : Nat → Int32} : [1, 2, 3, 0, 4, 5, 6].filterMap (fun i => ((st_W cs (ma 3) x) ++ (x_pick (md_W cs ma o) [0, 1, 2, 4, 5, 6]))[i]?) = md_W cs ma (m_r o 2 x) := rfl
theorem md_d3 {cs : Nat → ClassId} {ma : Nat → Nat} {o : MV} {x : Nat → Int32} : [1, 2, 3, 0, 4, 5, 6].map (fun i => ((st_W cs (ma 3) x) ++ (x_pick (md_W cs ma o) [0, 1, 2, 4, 5, 6]))[i]?) = (md_W cs ma (m_r o 2 x)).map some := rfl
set_option maxHeartbeats 4000000 in
set_option maxRecDepth 100000 in
theorem c_X6_runScript (l : Launch) (D : va_G) (cs : Nat → ClassId) (ma : Nat → Nat) (mv : MV) (vn : Int32) (vs : Int64) (hM : MO mv) : kI l yX6_runScript wsX6_runScript { frames := 8, cells := 0, slots := 0, locals := 186 } 0 0 D cs [.ref (ma 0), .int vn, .long vs] (md_W cs ma mv) (k_X6_runScript mv vn vs).1 (md_W cs ma ((k_X6_runScript mv vn vs).2)) := by
  generalize hres : k_X6_runScript mv vn vs = res
  refine kI_of (cc := cX6_runScript) (maxL := 8) (ret := (some .int)) (by decide) rfl (Nat.le_of_ble_eq_true rfl) ?_
  intro p e s m below meth c A ls H locs hE hS hP hD hl
  obtain ⟨hx, hb, hr, hlocks, hml, hown, hts, hK, hA, hG, hnm⟩ := id hE
  have hown : s.vm.findClass RX6 = some m.cls := hown
  have hl : lv_has ls 8 [(0, .ref (ma 0)), (1, .int vn), (2, .long vs)] := hl
  have hinX6 : ∀ w ∈ wsX60, w ∈ wsX6_runScript := by decide +kernel
  have lk_0 := hts (.constantLong RX6 197 100000) (by decide +kernel)
  have lk_1 := hts (.constantLong RX6 45 3) (by decide +kernel)
  have lk_2 := hts (.fieldLink RX6 13 "OrganPegsModel" "now" "[I") (by decide +kernel)
  have lk_3 := hts (.fieldLink RX6 16 "OrganPegsModel" "trial" "[I") (by decide +kernel)
  have L86 : ∀ (n : Nat) (i : Int32) (pw : Int64) (mw : MV) (j : Nat) (hi : i = nI j) (hj : j + n = 4) (hj2 : j ≤ 3) (hv : vn.toInt ≤ 3) (hp : pw = x_pw (vn.toInt.toNat - j)) (hI2 : SI (mw.2 2)) (H : Heap) (locs : List Loc) (ls : Array Slot), va_S A s.heap H locs → va_P D vwCl (md_W cs ma mw) H → va_D A (md_W cs ma mw) → lv_has ls 8 [(0, .ref (ma 0)), (1, .int vn), (2, .long vs), (4, .long pw), (6, .int i)] → k_X6_runScript_L86 mv vn vs n i pw mw = res → W p l e { frames := 8, cells := 0, slots := 0, locals := 186 } s m ([.ref (ma 0), .int vn, .long vs]).toArray below meth c H locs 0 0 (MQ below (va_Qi (fun (r' : Int32) (_ : Unit) => r' = res.1) (kB D (fun _ => md_W cs ma res.2) A) A) ([.ref (ma 0), .int vn, .long vs]).toArray s 0 0 A) (F0 m 86 ls []) := by
    intro n
    induction n with
    | zero =>
      intro i pw mw j hi hj hj2 hv hp hI2 H locs ls hS hP hD hl hres
      exact absurd hj2 (by omega)
    | succ n ih =>
      intro i pw mw j hi hj hj2 hv hp hI2 H locs ls hS hP hD hl hres
      unfold k_X6_runScript_L86 at hres
      refine lv_iload hx hb dX6_runScript_86 (lv_at hl 4 rfl) ?_
      refine lv_iload_n hx hb dX6_runScript_88 rfl (lv_at hl 1 rfl) ?_
      refine lv_icmp_ge (tgt := 139) hx hb dX6_runScript_89 (by decide) (fun c_89 => ?_) (fun c_89 => ?_)
      · skip
        have c_89 : (vn ≤ i) := c_89
        rw [if_pos c_89] at hres
        refine lv_iconst (v := (-1)) hx hb dX6_runScript_139 (by decide) ?_
        subst hres
        exact kI_ret hE hS hP hD rfl rfl (Nat.le_of_ble_eq_true rfl) (Nat.le_of_ble_eq_true rfl) dX6_runScript_140
      · skip
        have c_89 : ¬ (vn ≤ i) := c_89
        rw [if_neg c_89] at hres
        refine lv_lload hx hb dX6_runScript_92 (lv_at hl 3 rfl) ?_
        refine lv_ldc2 (v := 100000) hx hb hown lk_0 dX6_runScript_94 ?_
        refine lv_ldiv hx hb dX6_runScript_97 (by decide) ?_
        refine lv_lstore (lv' := [(4, .long (pw / 100000)), (0, .ref (ma 0)), (1, .int vn), (2, .long vs), (6, .int i)]) hx hb dX6_runScript_98 hl (by decide) rfl (fun ls hl => ?_)
        refine lv_lload_n hx hb dX6_runScript_100 rfl (lv_at hl 3 rfl) ?_
        refine lv_lload hx hb dX6_runScript_101 (lv_at hl 0 rfl) ?_
        refine lv_ldiv hx hb dX6_runScript_103 (pw_z hi hj2 hv hp c_89) ?_
        refine lv_ldc2 (v := 100000) hx hb hown lk_0 dX6_runScript_104 ?_
        refine lv_lrem hx hb dX6_runScript_107 (by decide) ?_
        refine lv_l2i hx hb dX6_runScript_108 rfl ?_
        refine lv_istore (lv' := [(7, .int (Int64.toInt32 ((vs / (pw / 100000)) - (vs / (pw / 100000)) / 100000 * 100000))), (4, .long (pw / 100000)), (0, .ref (ma 0)), (1, .int vn), (2, .long vs), (6, .int i)]) hx hb dX6_runScript_109 hl (by decide) rfl (fun ls hl => ?_)
        refine lv_aload_n hx hb dX6_runScript_111 rfl (lv_at hl 2 rfl) ?_
        refine lv_iload hx hb dX6_runScript_112 (lv_at hl 0 rfl) ?_
        refine lv_sipush (v := 10000) hx hb dX6_runScript_114 (by decide) ?_
        refine lv_idiv hx hb dX6_runScript_117 (by decide) ?_
        refine lv_iload hx hb dX6_runScript_118 (lv_at hl 0 rfl) ?_
        refine lv_sipush (v := 10000) hx hb dX6_runScript_120 (by decide) ?_
        refine lv_irem hx hb dX6_runScript_123 (by decide) ?_
        have hP : va_P D vwCl ((md_W cs ma mw) ++ []) H := k_nP hP
        have hD : va_D A ((md_W cs ma mw) ++ []) := k_nD hD
        have hc_124 := c_X6_command l D cs ma mw ((Int64.toInt32 ((vs / (pw / 100000)) - (vs / (pw / 100000)) / 100000 * 100000)) / 10000) ((Int64.toInt32 ((vs / (pw / 100000)) - (vs / (pw / 100000)) / 100000 * 100000)) - (Int64.toInt32 ((vs / (pw / 100000)) - (vs / (pw / 100000)) / 100000 * 100000)) / 10000 * 10000) hI2
        obtain ⟨r_124, o_124, e_124⟩ : ∃ r9 o9, (k_X6_command mw ((Int64.toInt32 ((vs / (pw / 100000)) - (vs / (pw / 100000)) / 100000 * 100000)) / 10000) ((Int64.toInt32 ((vs / (pw / 100000)) - (vs / (pw / 100000)) / 100000 * 100000)) - (Int64.toInt32 ((vs / (pw / 100000)) - (vs / (pw / 100000)) / 100000 * 100000)) / 10000 * 10000)) = (r9, o9) := ⟨_, _, rfl⟩
        rw [e_124] at hc_124 hres
        dsimp only at hc_124 hres
        refine kI_call (wc := (md_W cs ma mw)) (wr := []) (w1 := md_W cs ma o_124) (r := r_124) hE hP hD hS (k_rV (rest := []) (As := [.int ((Int64.toInt32 ((vs / (pw / 100000)) - (vs / (pw / 100000)) / 100000 * 100000)) / 10000), .int ((Int64.toInt32 ((vs / (pw / 100000)) - (vs / (pw / 100000)) / 100000 * 100000)) - (Int64.toInt32 ((vs / (pw / 100000)) - (vs / (pw / 100000)) / 100000 * 100000)) / 10000 * 10000)]) hE rfl (hc_124 H.size) (cwV 2 hts gX6_runScript_X6_command rfl rfl rfl (by decide +kernel) ⟨Nat.le_of_ble_eq_true rfl, Nat.le_of_ble_eq_true rfl⟩) hP hD hS (ci := 6) (q0 := 0) rfl rfl rfl hl rfl (Nat.le_of_ble_eq_true rfl) ⟨Nat.le_of_ble_eq_true rfl, Nat.le_of_ble_eq_true rfl⟩ dX6_runScript_124) (fun H locs hP hD hS => ?_)
        have hP := k_uP hP
        have hD := k_uD hD
        have hP : va_P D vwCl (md_W cs ma o_124) H := hP
        have hD : va_D A (md_W cs ma o_124) := hD
        refine lv_if_ne (tgt := 133) hx hb dX6_runScript_127 (by decide) (fun c_127 => ?_) (fun c_127 => ?_)
        · skip
          have c_127 : ¬ (r_124 = 0) := c_127
          rw [if_neg c_127] at hres
          refine lv_iinc (v := (i + 1)) (lv' := [(6, .int (i + 1)), (7, .int (Int64.toInt32 ((vs / (pw / 100000)) - (vs / (pw / 100000)) / 100000 * 100000))), (4, .long (pw / 100000)), (0, .ref (ma 0)), (1, .int vn), (2, .long vs)]) hx hb dX6_runScript_133 hl (k := 5) rfl (by rfl) (by decide) rfl (fun ls hl => ?_)
          refine lv_goto (tgt := 86) hx hb dX6_runScript_136 (by decide) ?_
          exact ih (i + 1) (pw / 100000) o_124 (j + 1) (by rw [hi, nI_1]) (by omega) (by have := pw_j hi hj2 c_89; omega) (hv) (pw_s hi hj2 hv hp c_89) ((cmd_SI e_124 hI2).1) _ _ _ hS hP hD (lv_sub hl [3, 4, 5, 2, 0] rfl) hres
        · skip
          have c_127 : (r_124 = 0) := c_127
          rw [if_pos c_127] at hres
          refine lv_iload hx hb dX6_runScript_130 (lv_at hl 5 rfl) ?_
          subst hres
          exact kI_ret hE hS hP hD rfl rfl (Nat.le_of_ble_eq_true rfl) (Nat.le_of_ble_eq_true rfl) dX6_runScript_132
  have L6 : ∀ (n : Nat) (i : Int32) (pw : Int64) (j : Nat) (hi : i = nI j) (hj : j + n = 4) (hj2 : j ≤ 3) (hp : pw = x_pw j) (hjv : (j : Int) ≤ vn.toInt ∨ j = 0) (H : Heap) (locs : List Loc) (ls : Array Slot), va_S A s.heap H locs → va_P D vwCl (md_W cs ma mv) H → va_D A (md_W cs ma mv) → lv_has ls 8 [(0, .ref (ma 0)), (1, .int vn), (2, .long vs), (4, .long pw), (6, .int i)] → k_X6_runScript_L6 mv vn vs n i pw = res → W p l e { frames := 8, cells := 0, slots := 0, locals := 186 } s m ([.ref (ma 0), .int vn, .long vs]).toArray below meth c H locs 0 0 (MQ below (va_Qi (fun (r' : Int32) (_ : Unit) => r' = res.1) (kB D (fun _ => md_W cs ma res.2) A) A) ([.ref (ma 0), .int vn, .long vs]).toArray s 0 0 A) (F0 m 6 ls []) := by
    intro n
    induction n with
    | zero =>
      intro i pw j hi hj hj2 hp hjv H locs ls hS hP hD hl hres
      exact absurd hj2 (by omega)
    | succ n ih =>
      intro i pw j hi hj hj2 hp hjv H locs ls hS hP hD hl hres
      unfold k_X6_runScript_L6 at hres
      refine lv_iload hx hb dX6_runScript_6 (lv_at hl 4 rfl) ?_
      refine lv_iload_n hx hb dX6_runScript_8 rfl (lv_at hl 1 rfl) ?_
      refine lv_icmp_ge (tgt := 32) hx hb dX6_runScript_9 (by decide) (fun c_9 => ?_) (fun c_9 => ?_)
      · skip
        have c_9 : (vn ≤ i) := c_9
        rw [if_pos c_9] at hres
        refine lv_aload_n hx hb dX6_runScript_32 rfl (lv_at hl 0 rfl) ?_
        refine lv_iload_n hx hb dX6_runScript_33 rfl (lv_at hl 1 rfl) ?_
        refine lv_i2l hx hb dX6_runScript_34 rfl ?_
        refine lv_lconst (v := 1) hx hb dX6_runScript_35 (by decide) ?_
        refine lv_ldc2 (v := 3) hx hb hown lk_1 dX6_runScript_36 ?_
        have hP : va_P D vwCl ([] ++ (md_W cs ma mv)) H := hP
        have hD : va_D A ([] ++ (md_W cs ma mv)) := hD
        have hc_39 := c_X6_in l D cs (vn.toInt64) 1 3
        refine kI_call (wc := []) (wr := (md_W cs ma mv)) (w1 := []) (r := (k_X6_in (vn.toInt64) 1 3)) hE hP hD hS (k_rS (rest := [.ref (ma 0)]) (As := [.long (vn.toInt64), .long 1, .long 3]) hE rfl (hc_39 H.size) (va_cwS 3 hts gX6_runScript_X6_in rfl rfl rfl (by decide +kernel) ⟨Nat.le_of_ble_eq_true rfl, Nat.le_of_ble_eq_true rfl⟩) hP hD hS rfl hl rfl (Nat.le_of_ble_eq_true rfl) ⟨Nat.le_of_ble_eq_true rfl, Nat.le_of_ble_eq_true rfl⟩ dX6_runScript_39) (fun H locs hP hD hS => ?_)
        have hP : va_P D vwCl (md_W cs ma mv) H := hP
        have hD : va_D A (md_W cs ma mv) := hD
        refine lv_if_eq (tgt := 61) hx hb dX6_runScript_42 (by decide) (fun c_42 => ?_) (fun c_42 => ?_)
        · skip
          have c_42 : ((k_X6_in (vn.toInt64) 1 3) = 0) := c_42
          rw [if_pos c_42] at hres
          refine lv_iconst (v := 1) hx hb dX6_runScript_61 (by decide) ?_
          have hP : va_P D vwCl ((md_W cs ma mv) ++ []) H := k_nP hP
          have hD : va_D A ((md_W cs ma mv) ++ []) := k_nD hD
          have hc_62 := c_X6_refused l D cs ma mv 1
          obtain ⟨r_62, o_62, e_62⟩ : ∃ r9 o9, (k_X6_refused mv 1) = (r9, o9) := ⟨_, _, rfl⟩
          rw [e_62] at hc_62 hres
          dsimp only at hc_62 hres
          refine kI_call (wc := (md_W cs ma mv)) (wr := []) (w1 := md_W cs ma o_62) (r := r_62) hE hP hD hS (k_rV (rest := []) (As := [.int 1]) hE rfl (hc_62 H.size) (cwV 1 hts gX6_runScript_X6_refused rfl rfl rfl (by decide +kernel) ⟨Nat.le_of_ble_eq_true rfl, Nat.le_of_ble_eq_true rfl⟩) hP hD hS (ci := 6) (q0 := 0) rfl rfl rfl hl rfl (Nat.le_of_ble_eq_true rfl) ⟨Nat.le_of_ble_eq_true rfl, Nat.le_of_ble_eq_true rfl⟩ dX6_runScript_62) (fun H locs hP hD hS => ?_)
          have hP := k_uP hP
          have hD := k_uD hD
          have hP : va_P D vwCl (md_W cs ma o_62) H := hP
          have hD : va_D A (md_W cs ma o_62) := hD
          refine lv_if_eq (tgt := 70) hx hb dX6_runScript_65 (by decide) (fun c_65 => ?_) (fun c_65 => ?_)
          · skip
            have c_65 : (r_62 = 0) := c_65
            rw [if_pos c_65] at hres
            refine lv_aload_n hx hb dX6_runScript_70 rfl (lv_at hl 0 rfl) ?_
            refine va_get (D := D) (ci := 6) (v := .ref (ma 2)) (C := RX6) (T := TX6) (N := 11) hx hb hts hinX6 hown hK hP 0 rfl rfl 3 (by decide) lk_2 (fun _ h9 => h9) rfl dX6_runScript_71 ?_
            refine lv_iconst (v := 0) hx hb dX6_runScript_74 (by decide) ?_
            refine lv_aload_n hx hb dX6_runScript_75 rfl (lv_at hl 0 rfl) ?_
            refine va_get (D := D) (ci := 6) (v := .ref (ma 3)) (C := RX6) (T := TX6) (N := 11) hx hb hts hinX6 hown hK hP 0 rfl rfl 4 (by decide) lk_3 (fun _ h9 => h9) rfl dX6_runScript_76 ?_
            refine lv_iconst (v := 0) hx hb dX6_runScript_79 (by decide) ?_
            have hP := hP.sub (ws' := (cp_W cs (ma 2) (ma 3) 217 217 (o_62.2 1) (o_62.2 2)) ++ (x_pick (md_W cs ma o_62) [0, 1, 4, 5, 6])) [2, 3, 0, 1, 4, 5, 6] rfl
            have hD := hD.sub (ws' := (cp_W cs (ma 2) (ma 3) 217 217 (o_62.2 1) (o_62.2 2)) ++ (x_pick (md_W cs ma o_62) [0, 1, 4, 5, 6])) [2, 3, 0, 1, 4, 5, 6] (by decide) rfl
            have hc_80 := c_X6_copyState l D cs (ma 2) (ma 3) 217 217 (o_62.2 1) (o_62.2 2) 0 0 (cp_0 (by decide) (by decide)) (cp_0 (by decide) (by decide))
            refine kV_call (wc := (cp_W cs (ma 2) (ma 3) 217 217 (o_62.2 1) (o_62.2 2))) (wr := (x_pick (md_W cs ma o_62) [0, 1, 4, 5, 6])) (w1 := fun _ => cp_W cs (ma 2) (ma 3) 217 217 (o_62.2 1) (k_X6_copyState (o_62.2 1) (o_62.2 2) 0 0)) hE hP hD hS (k_rS (rest := []) (As := [.ref (ma 2), .int 0, .ref (ma 3), .int 0]) hE rfl (hc_80 H.size) (va_cwS 4 hts gX6_runScript_X6_copyState rfl rfl rfl (by decide +kernel) ⟨Nat.le_of_ble_eq_true rfl, Nat.le_of_ble_eq_true rfl⟩) hP hD hS rfl hl rfl (Nat.le_of_ble_eq_true rfl) ⟨Nat.le_of_ble_eq_true rfl, Nat.le_of_ble_eq_true rfl⟩ dX6_runScript_80) (fun _ H locs _ hP hD hS => ?_)
            have hP := hP.sub (ws' := md_W cs ma (m_r o_62 2 (k_X6_copyState (o_62.2 1) (o_62.2 2) 0 0))) [2, 3, 0, 1, 4, 5, 6] rfl
            have hD := hD.sub (ws' := md_W cs ma (m_r o_62 2 (k_X6_copyState (o_62.2 1) (o_62.2 2) 0 0))) [2, 3, 0, 1, 4, 5, 6] (by decide) rfl
            have hP : va_P D vwCl (md_W cs ma (m_r o_62 2 (k_X6_copyState (o_62.2 1) (o_62.2 2) 0 0))) H := hP
            have hD : va_D A (md_W cs ma (m_r o_62 2 (k_X6_copyState (o_62.2 1) (o_62.2 2) 0 0))) := hD
            refine lv_iconst (v := 0) hx hb dX6_runScript_83 (by decide) ?_
            refine lv_istore (lv' := [(6, .int 0), (0, .ref (ma 0)), (1, .int vn), (2, .long vs), (4, .long pw)]) hx hb dX6_runScript_84 hl (by decide) rfl (fun ls hl => ?_)
            exact L86 4 0 pw (m_r o_62 2 (k_X6_copyState (o_62.2 1) (o_62.2 2) 0 0)) 0 (nI_0.symm) (rfl) (Nat.zero_le _) ((by first | exact (in_n (A := 1) (B := 3) rfl rfl c_42).2 | exact absurd (rfd_n e_62 c_65) (by decide))) ((by first | exact pw_ex hi hj2 hp hjv (in_n (A := 1) (B := 3) rfl rfl c_42) (Or.inl c_9) | exact pw_ex hi hj2 hp hjv (in_n (A := 1) (B := 3) rfl rfl c_42) (Or.inr c_15) | exact absurd (rfd_n e_62 c_65) (by decide))) (SI_cps (MO_rf e_62 hM).1) _ _ _ hS hP hD (lv_sub hl [1, 2, 3, 4, 0] rfl) hres
          · skip
            have c_65 : ¬ (r_62 = 0) := c_65
            rw [if_neg c_65] at hres
            refine lv_iconst (v := 0) hx hb dX6_runScript_68 (by decide) ?_
            subst hres
            exact kI_ret hE hS hP hD rfl rfl (Nat.le_of_ble_eq_true rfl) (Nat.le_of_ble_eq_true rfl) dX6_runScript_69
        · skip
          have c_42 : ¬ ((k_X6_in (vn.toInt64) 1 3) = 0) := c_42
          rw [if_neg c_42] at hres
          refine lv_lload_n hx hb dX6_runScript_45 rfl (lv_at hl 2 rfl) ?_
          refine lv_lconst (v := 0) hx hb dX6_runScript_46 (by decide) ?_
          refine lv_lload hx hb dX6_runScript_47 (lv_at hl 3 rfl) ?_
          refine lv_lconst (v := 1) hx hb dX6_runScript_49 (by decide) ?_
          refine lv_lsub hx hb dX6_runScript_50 ?_
          have hP : va_P D vwCl ([] ++ (md_W cs ma mv)) H := hP
          have hD : va_D A ([] ++ (md_W cs ma mv)) := hD
          have hc_51 := c_X6_in l D cs vs 0 (pw - 1)
          refine kI_call (wc := []) (wr := (md_W cs ma mv)) (w1 := []) (r := (k_X6_in vs 0 (pw - 1))) hE hP hD hS (k_rS (rest := [.ref (ma 0)]) (As := [.long vs, .long 0, .long (pw - 1)]) hE rfl (hc_51 H.size) (va_cwS 3 hts gX6_runScript_X6_in rfl rfl rfl (by decide +kernel) ⟨Nat.le_of_ble_eq_true rfl, Nat.le_of_ble_eq_true rfl⟩) hP hD hS rfl hl rfl (Nat.le_of_ble_eq_true rfl) ⟨Nat.le_of_ble_eq_true rfl, Nat.le_of_ble_eq_true rfl⟩ dX6_runScript_51) (fun H locs hP hD hS => ?_)
          have hP : va_P D vwCl (md_W cs ma mv) H := hP
          have hD : va_D A (md_W cs ma mv) := hD
          refine lv_if_eq (tgt := 61) hx hb dX6_runScript_54 (by decide) (fun c_54 => ?_) (fun c_54 => ?_)
          · skip
            have c_54 : ((k_X6_in vs 0 (pw - 1)) = 0) := c_54
            rw [if_pos c_54] at hres
            refine lv_iconst (v := 1) hx hb dX6_runScript_61 (by decide) ?_
            have hP : va_P D vwCl ((md_W cs ma mv) ++ []) H := k_nP hP
            have hD : va_D A ((md_W cs ma mv) ++ []) := k_nD hD
            have hc_62 := c_X6_refused l D cs ma mv 1
            obtain ⟨r_62, o_62, e_62⟩ : ∃ r9 o9, (k_X6_refused mv 1) = (r9, o9) := ⟨_, _, rfl⟩
            rw [e_62] at hc_62 hres
            dsimp only at hc_62 hres
            refine kI_call (wc := (md_W cs ma mv)) (wr := []) (w1 := md_W cs ma o_62) (r := r_62) hE hP hD hS (k_rV (rest := []) (As := [.int 1]) hE rfl (hc_62 H.size) (cwV 1 hts gX6_runScript_X6_refused rfl rfl rfl (by decide +kernel) ⟨Nat.le_of_ble_eq_true rfl, Nat.le_of_ble_eq_true rfl⟩) hP hD hS (ci := 6) (q0 := 0) rfl rfl rfl hl rfl (Nat.le_of_ble_eq_true rfl) ⟨Nat.le_of_ble_eq_true rfl, Nat.le_of_ble_eq_true rfl⟩ dX6_runScript_62) (fun H locs hP hD hS => ?_)
            have hP := k_uP hP
            have hD := k_uD hD
            have hP : va_P D vwCl (md_W cs ma o_62) H := hP
            have hD : va_D A (md_W cs ma o_62) := hD
            refine lv_if_eq (tgt := 70) hx hb dX6_runScript_65 (by decide) (fun c_65 => ?_) (fun c_65 => ?_)
            · skip
              have c_65 : (r_62 = 0) := c_65
              rw [if_pos c_65] at hres
              refine lv_aload_n hx hb dX6_runScript_70 rfl (lv_at hl 0 rfl) ?_
              refine va_get (D := D) (ci := 6) (v := .ref (ma 2)) (C := RX6) (T := TX6) (N := 11) hx hb hts hinX6 hown hK hP 0 rfl rfl 3 (by decide) lk_2 (fun _ h9 => h9) rfl dX6_runScript_71 ?_
              refine lv_iconst (v := 0) hx hb dX6_runScript_74 (by decide) ?_
              refine lv_aload_n hx hb dX6_runScript_75 rfl (lv_at hl 0 rfl) ?_
              refine va_get (D := D) (ci := 6) (v := .ref (ma 3)) (C := RX6) (T := TX6) (N := 11) hx hb hts hinX6 hown hK hP 0 rfl rfl 4 (by decide) lk_3 (fun _ h9 => h9) rfl dX6_runScript_76 ?_
              refine lv_iconst (v := 0) hx hb dX6_runScript_79 (by decide) ?_
              have hP := hP.sub (ws' := (cp_W cs (ma 2) (ma 3) 217 217 (o_62.2 1) (o_62.2 2)) ++ (x_pick (md_W cs ma o_62) [0, 1, 4, 5, 6])) [2, 3, 0, 1, 4, 5, 6] rfl
              have hD := hD.sub (ws' := (cp_W cs (ma 2) (ma 3) 217 217 (o_62.2 1) (o_62.2 2)) ++ (x_pick (md_W cs ma o_62) [0, 1, 4, 5, 6])) [2, 3, 0, 1, 4, 5, 6] (by decide) rfl
              have hc_80 := c_X6_copyState l D cs (ma 2) (ma 3) 217 217 (o_62.2 1) (o_62.2 2) 0 0 (cp_0 (by decide) (by decide)) (cp_0 (by decide) (by decide))
              refine kV_call (wc := (cp_W cs (ma 2) (ma 3) 217 217 (o_62.2 1) (o_62.2 2))) (wr := (x_pick (md_W cs ma o_62) [0, 1, 4, 5, 6])) (w1 := fun _ => cp_W cs (ma 2) (ma 3) 217 217 (o_62.2 1) (k_X6_copyState (o_62.2 1) (o_62.2 2) 0 0)) hE hP hD hS (k_rS (rest := []) (As := [.ref (ma 2), .int 0, .ref (ma 3), .int 0]) hE rfl (hc_80 H.size) (va_cwS 4 hts gX6_runScript_X6_copyState rfl rfl rfl (by decide +kernel) ⟨Nat.le_of_ble_eq_true rfl, Nat.le_of_ble_eq_true rfl⟩) hP hD hS rfl hl rfl (Nat.le_of_ble_eq_true rfl) ⟨Nat.le_of_ble_eq_true rfl, Nat.le_of_ble_eq_true rfl⟩ dX6_runScript_80) (fun _ H locs _ hP hD hS => ?_)
              have hP := hP.sub (ws' := md_W cs ma (m_r o_62 2 (k_X6_copyState (o_62.2 1) (o_62.2 2) 0 0))) [2, 3, 0, 1, 4, 5, 6] rfl
              have hD := hD.sub (ws' := md_W cs ma (m_r o_62 2 (k_X6_copyState (o_62.2 1) (o_62.2 2) 0 0))) [2, 3, 0, 1, 4, 5, 6] (by decide) rfl
              have hP : va_P D vwCl (md_W cs ma (m_r o_62 2 (k_X6_copyState (o_62.2 1) (o_62.2 2) 0 0))) H := hP
              have hD : va_D A (md_W cs ma (m_r o_62 2 (k_X6_copyState (o_62.2 1) (o_62.2 2) 0 0))) := hD
              refine lv_iconst (v := 0) hx hb dX6_runScript_83 (by decide) ?_
              refine lv_istore (lv' := [(6, .int 0), (0, .ref (ma 0)), (1, .int vn), (2, .long vs), (4, .long pw)]) hx hb dX6_runScript_84 hl (by decide) rfl (fun ls hl => ?_)
              exact L86 4 0 pw (m_r o_62 2 (k_X6_copyState (o_62.2 1) (o_62.2 2) 0 0)) 0 (nI_0.symm) (rfl) (Nat.zero_le _) ((by first | exact (in_n (A := 1) (B := 3) rfl rfl c_42).2 | exact absurd (rfd_n e_62 c_65) (by decide))) ((by first | exact pw_ex hi hj2 hp hjv (in_n (A := 1) (B := 3) rfl rfl c_42) (Or.inl c_9) | exact pw_ex hi hj2 hp hjv (in_n (A := 1) (B := 3) rfl rfl c_42) (Or.inr c_15) | exact absurd (rfd_n e_62 c_65) (by decide))) (SI_cps (MO_rf e_62 hM).1) _ _ _ hS hP hD (lv_sub hl [1, 2, 3, 4, 0] rfl) hres
            · skip
              have c_65 : ¬ (r_62 = 0) := c_65
              rw [if_neg c_65] at hres
              refine lv_iconst (v := 0) hx hb dX6_runScript_68 (by decide) ?_
              subst hres
              exact kI_ret hE hS hP hD rfl rfl (Nat.le_of_ble_eq_true rfl) (Nat.le_of_ble_eq_true rfl) dX6_runScript_69
          · skip
            have c_54 : ¬ ((k_X6_in vs 0 (pw - 1)) = 0) := c_54
            rw [if_neg c_54] at hres
            refine lv_iconst (v := 0) hx hb dX6_runScript_57 (by decide) ?_
            refine lv_goto (tgt := 62) hx hb dX6_runScript_58 (by decide) ?_
            have hP : va_P D vwCl ((md_W cs ma mv) ++ []) H := k_nP hP
            have hD : va_D A ((md_W cs ma mv) ++ []) := k_nD hD
            have hc_62 := c_X6_refused l D cs ma mv 0
            obtain ⟨r_62, o_62, e_62⟩ : ∃ r9 o9, (k_X6_refused mv 0) = (r9, o9) := ⟨_, _, rfl⟩
            rw [e_62] at hc_62 hres
            dsimp only at hc_62 hres
            refine kI_call (wc := (md_W cs ma mv)) (wr := []) (w1 := md_W cs ma o_62) (r := r_62) hE hP hD hS (k_rV (rest := []) (As := [.int 0]) hE rfl (hc_62 H.size) (cwV 1 hts gX6_runScript_X6_refused rfl rfl rfl (by decide +kernel) ⟨Nat.le_of_ble_eq_true rfl, Nat.le_of_ble_eq_true rfl⟩) hP hD hS (ci := 6) (q0 := 0) rfl rfl rfl hl rfl (Nat.le_of_ble_eq_true rfl) ⟨Nat.le_of_ble_eq_true rfl, Nat.le_of_ble_eq_true rfl⟩ dX6_runScript_62) (fun H locs hP hD hS => ?_)
            have hP := k_uP hP
            have hD := k_uD hD
            have hP : va_P D vwCl (md_W cs ma o_62) H := hP
            have hD : va_D A (md_W cs ma o_62) := hD
            refine lv_if_eq (tgt := 70) hx hb dX6_runScript_65 (by decide) (fun c_65 => ?_) (fun c_65 => ?_)
            · skip
              have c_65 : (r_62 = 0) := c_65
              rw [if_pos c_65] at hres
              refine lv_aload_n hx hb dX6_runScript_70 rfl (lv_at hl 0 rfl) ?_
              refine va_get (D := D) (ci := 6) (v := .ref (ma 2)) (C := RX6) (T := TX6) (N := 11) hx hb hts hinX6 hown hK hP 0 rfl rfl 3 (by decide) lk_2 (fun _ h9 => h9) rfl dX6_runScript_71 ?_
              refine lv_iconst (v := 0) hx hb dX6_runScript_74 (by decide) ?_
              refine lv_aload_n hx hb dX6_runScript_75 rfl (lv_at hl 0 rfl) ?_
              refine va_get (D := D) (ci := 6) (v := .ref (ma 3)) (C := RX6) (T := TX6) (N := 11) hx hb hts hinX6 hown hK hP 0 rfl rfl 4 (by decide) lk_3 (fun _ h9 => h9) rfl dX6_runScript_76 ?_
              refine lv_iconst (v := 0) hx hb dX6_runScript_79 (by decide) ?_
              have hP := hP.sub (ws' := (cp_W cs (ma 2) (ma 3) 217 217 (o_62.2 1) (o_62.2 2)) ++ (x_pick (md_W cs ma o_62) [0, 1, 4, 5, 6])) [2, 3, 0, 1, 4, 5, 6] rfl
              have hD := hD.sub (ws' := (cp_W cs (ma 2) (ma 3) 217 217 (o_62.2 1) (o_62.2 2)) ++ (x_pick (md_W cs ma o_62) [0, 1, 4, 5, 6])) [2, 3, 0, 1, 4, 5, 6] (by decide) rfl
              have hc_80 := c_X6_copyState l D cs (ma 2) (ma 3) 217 217 (o_62.2 1) (o_62.2 2) 0 0 (cp_0 (by decide) (by decide)) (cp_0 (by decide) (by decide))
              refine kV_call (wc := (cp_W cs (ma 2) (ma 3) 217 217 (o_62.2 1) (o_62.2 2))) (wr := (x_pick (md_W cs ma o_62) [0, 1, 4, 5, 6])) (w1 := fun _ => cp_W cs (ma 2) (ma 3) 217 217 (o_62.2 1) (k_X6_copyState (o_62.2 1) (o_62.2 2) 0 0)) hE hP hD hS (k_rS (rest := []) (As := [.ref (ma 2), .int 0, .ref (ma 3), .int 0]) hE rfl (hc_80 H.size) (va_cwS 4 hts gX6_runScript_X6_copyState rfl rfl rfl (by decide +kernel) ⟨Nat.le_of_ble_eq_true rfl, Nat.le_of_ble_eq_true rfl⟩) hP hD hS rfl hl rfl (Nat.le_of_ble_eq_true rfl) ⟨Nat.le_of_ble_eq_true rfl, Nat.le_of_ble_eq_true rfl⟩ dX6_runScript_80) (fun _ H locs _ hP hD hS => ?_)
              have hP := hP.sub (ws' := md_W cs ma (m_r o_62 2 (k_X6_copyState (o_62.2 1) (o_62.2 2) 0 0))) [2, 3, 0, 1, 4, 5, 6] rfl
              have hD := hD.sub (ws' := md_W cs ma (m_r o_62 2 (k_X6_copyState (o_62.2 1) (o_62.2 2) 0 0))) [2, 3, 0, 1, 4, 5, 6] (by decide) rfl
              have hP : va_P D vwCl (md_W cs ma (m_r o_62 2 (k_X6_copyState (o_62.2 1) (o_62.2 2) 0 0))) H := hP
              have hD : va_D A (md_W cs ma (m_r o_62 2 (k_X6_copyState (o_62.2 1) (o_62.2 2) 0 0))) := hD
              refine lv_iconst (v := 0) hx hb dX6_runScript_83 (by decide) ?_
              refine lv_istore (lv' := [(6, .int 0), (0, .ref (ma 0)), (1, .int vn), (2, .long vs), (4, .long pw)]) hx hb dX6_runScript_84 hl (by decide) rfl (fun ls hl => ?_)
              exact L86 4 0 pw (m_r o_62 2 (k_X6_copyState (o_62.2 1) (o_62.2 2) 0 0)) 0 (nI_0.symm) (rfl) (Nat.zero_le _) ((by first | exact (in_n (A := 1) (B := 3) rfl rfl c_42).2 | exact absurd (rfd_n e_62 c_65) (by decide))) ((by first | exact pw_ex hi hj2 hp hjv (in_n (A := 1) (B := 3) rfl rfl c_42) (Or.inl c_9) | exact pw_ex hi hj2 hp hjv (in_n (A := 1) (B := 3) rfl rfl c_42) (Or.inr c_15) | exact absurd (rfd_n e_62 c_65) (by decide))) (SI_cps (MO_rf e_62 hM).1) _ _ _ hS hP hD (lv_sub hl [1, 2, 3, 4, 0] rfl) hres
            · skip
              have c_65 : ¬ (r_62 = 0) := c_65
              rw [if_neg c_65] at hres
              refine lv_iconst (v := 0) hx hb dX6_runScript_68 (by decide) ?_
              subst hres
              exact kI_ret hE hS hP hD rfl rfl (Nat.le_of_ble_eq_true rfl) (Nat.le_of_ble_eq_true rfl) dX6_runScript_69
      · skip
        have c_9 : ¬ (vn ≤ i) := c_9
        rw [if_neg c_9] at hres
        refine lv_iload hx hb dX6_runScript_12 (lv_at hl 4 rfl) ?_
        refine lv_iconst (v := 3) hx hb dX6_runScript_14 (by decide) ?_
        refine lv_icmp_ge (tgt := 32) hx hb dX6_runScript_15 (by decide) (fun c_15 => ?_) (fun c_15 => ?_)
        · skip
          have c_15 : (3 ≤ i) := c_15
          rw [if_pos c_15] at hres
          refine lv_aload_n hx hb dX6_runScript_32 rfl (lv_at hl 0 rfl) ?_
          refine lv_iload_n hx hb dX6_runScript_33 rfl (lv_at hl 1 rfl) ?_
          refine lv_i2l hx hb dX6_runScript_34 rfl ?_
          refine lv_lconst (v := 1) hx hb dX6_runScript_35 (by decide) ?_
          refine lv_ldc2 (v := 3) hx hb hown lk_1 dX6_runScript_36 ?_
          have hP : va_P D vwCl ([] ++ (md_W cs ma mv)) H := hP
          have hD : va_D A ([] ++ (md_W cs ma mv)) := hD
          have hc_39 := c_X6_in l D cs (vn.toInt64) 1 3
          refine kI_call (wc := []) (wr := (md_W cs ma mv)) (w1 := []) (r := (k_X6_in (vn.toInt64) 1 3)) hE hP hD hS (k_rS (rest := [.ref (ma 0)]) (As := [.long (vn.toInt64), .long 1, .long 3]) hE rfl (hc_39 H.size) (va_cwS 3 hts gX6_runScript_X6_in rfl rfl rfl (by decide +kernel) ⟨Nat.le_of_ble_eq_true rfl, Nat.le_of_ble_eq_true rfl⟩) hP hD hS rfl hl rfl (Nat.le_of_ble_eq_true rfl) ⟨Nat.le_of_ble_eq_true rfl, Nat.le_of_ble_eq_true rfl⟩ dX6_runScript_39) (fun H locs hP hD hS => ?_)
          have hP : va_P D vwCl (md_W cs ma mv) H := hP
          have hD : va_D A (md_W cs ma mv) := hD
          refine lv_if_eq (tgt := 61) hx hb dX6_runScript_42 (by decide) (fun c_42 => ?_) (fun c_42 => ?_)
          · skip
            have c_42 : ((k_X6_in (vn.toInt64) 1 3) = 0) := c_42
            rw [if_pos c_42] at hres
            refine lv_iconst (v := 1) hx hb dX6_runScript_61 (by decide) ?_
            have hP : va_P D vwCl ((md_W cs ma mv) ++ []) H := k_nP hP
            have hD : va_D A ((md_W cs ma mv) ++ []) := k_nD hD
            have hc_62 := c_X6_refused l D cs ma mv 1
            obtain ⟨r_62, o_62, e_62⟩ : ∃ r9 o9, (k_X6_refused mv 1) = (r9, o9) := ⟨_, _, rfl⟩
            rw [e_62] at hc_62 hres
            dsimp only at hc_62 hres
            refine kI_call (wc := (md_W cs ma mv)) (wr := []) (w1 := md_W cs ma o_62) (r := r_62) hE hP hD hS (k_rV (rest := []) (As := [.int 1]) hE rfl (hc_62 H.size) (cwV 1 hts gX6_runScript_X6_refused rfl rfl rfl (by decide +kernel) ⟨Nat.le_of_ble_eq_true rfl, Nat.le_of_ble_eq_true rfl⟩) hP hD hS (ci := 6) (q0 := 0) rfl rfl rfl hl rfl (Nat.le_of_ble_eq_true rfl) ⟨Nat.le_of_ble_eq_true rfl, Nat.le_of_ble_eq_true rfl⟩ dX6_runScript_62) (fun H locs hP hD hS => ?_)
            have hP := k_uP hP
            have hD := k_uD hD
            have hP : va_P D vwCl (md_W cs ma o_62) H := hP
            have hD : va_D A (md_W cs ma o_62) := hD
            refine lv_if_eq (tgt := 70) hx hb dX6_runScript_65 (by decide) (fun c_65 => ?_) (fun c_65 => ?_)
            · skip
              have c_65 : (r_62 = 0) := c_65
              rw [if_pos c_65] at hres
              refine lv_aload_n hx hb dX6_runScript_70 rfl (lv_at hl 0 rfl) ?_
              refine va_get (D := D) (ci := 6) (v := .ref (ma 2)) (C := RX6) (T := TX6) (N := 11) hx hb hts hinX6 hown hK hP 0 rfl rfl 3 (by decide) lk_2 (fun _ h9 => h9) rfl dX6_runScript_71 ?_
              refine lv_iconst (v := 0) hx hb dX6_runScript_74 (by decide) ?_
              refine lv_aload_n hx hb dX6_runScript_75 rfl (lv_at hl 0 rfl) ?_
              refine va_get (D := D) (ci := 6) (v := .ref (ma 3)) (C := RX6) (T := TX6) (N := 11) hx hb hts hinX6 hown hK hP 0 rfl rfl 4 (by decide) lk_3 (fun _ h9 => h9) rfl dX6_runScript_76 ?_
              refine lv_iconst (v := 0) hx hb dX6_runScript_79 (by decide) ?_
              have hP := hP.sub (ws' := (cp_W cs (ma 2) (ma 3) 217 217 (o_62.2 1) (o_62.2 2)) ++ (x_pick (md_W cs ma o_62) [0, 1, 4, 5, 6])) [2, 3, 0, 1, 4, 5, 6] rfl
              have hD := hD.sub (ws' := (cp_W cs (ma 2) (ma 3) 217 217 (o_62.2 1) (o_62.2 2)) ++ (x_pick (md_W cs ma o_62) [0, 1, 4, 5, 6])) [2, 3, 0, 1, 4, 5, 6] (by decide) rfl
              have hc_80 := c_X6_copyState l D cs (ma 2) (ma 3) 217 217 (o_62.2 1) (o_62.2 2) 0 0 (cp_0 (by decide) (by decide)) (cp_0 (by decide) (by decide))
              refine kV_call (wc := (cp_W cs (ma 2) (ma 3) 217 217 (o_62.2 1) (o_62.2 2))) (wr := (x_pick (md_W cs ma o_62) [0, 1, 4, 5, 6])) (w1 := fun _ => cp_W cs (ma 2) (ma 3) 217 217 (o_62.2 1) (k_X6_copyState (o_62.2 1) (o_62.2 2) 0 0)) hE hP hD hS (k_rS (rest := []) (As := [.ref (ma 2), .int 0, .ref (ma 3), .int 0]) hE rfl (hc_80 H.size) (va_cwS 4 hts gX6_runScript_X6_copyState rfl rfl rfl (by decide +kernel) ⟨Nat.le_of_ble_eq_true rfl, Nat.le_of_ble_eq_true rfl⟩) hP hD hS rfl hl rfl (Nat.le_of_ble_eq_true rfl) ⟨Nat.le_of_ble_eq_true rfl, Nat.le_of_ble_eq_true rfl⟩ dX6_runScript_80) (fun _ H locs _ hP hD hS => ?_)
              have hP := hP.sub (ws' := md_W cs ma (m_r o_62 2 (k_X6_copyState (o_62.2 1) (o_62.2 2) 0 0))) [2, 3, 0, 1, 4, 5, 6] rfl
              have hD := hD.sub (ws' := md_W cs ma (m_r o_62 2 (k_X6_copyState (o_62.2 1) (o_62.2 2) 0 0))) [2, 3, 0, 1, 4, 5, 6] (by decide) rfl
              have hP : va_P D vwCl (md_W cs ma (m_r o_62 2 (k_X6_copyState (o_62.2 1) (o_62.2 2) 0 0))) H := hP
              have hD : va_D A (md_W cs ma (m_r o_62 2 (k_X6_copyState (o_62.2 1) (o_62.2 2) 0 0))) := hD
              refine lv_iconst (v := 0) hx hb dX6_runScript_83 (by decide) ?_
              refine lv_istore (lv' := [(6, .int 0), (0, .ref (ma 0)), (1, .int vn), (2, .long vs), (4, .long pw)]) hx hb dX6_runScript_84 hl (by decide) rfl (fun ls hl => ?_)
              exact L86 4 0 pw (m_r o_62 2 (k_X6_copyState (o_62.2 1) (o_62.2 2) 0 0)) 0 (nI_0.symm) (rfl) (Nat.zero_le _) ((by first | exact (in_n (A := 1) (B := 3) rfl rfl c_42).2 | exact absurd (rfd_n e_62 c_65) (by decide))) ((by first | exact pw_ex hi hj2 hp hjv (in_n (A := 1) (B := 3) rfl rfl c_42) (Or.inl c_9) | exact pw_ex hi hj2 hp hjv (in_n (A := 1) (B := 3) rfl rfl c_42) (Or.inr c_15) | exact absurd (rfd_n e_62 c_65) (by decide))) (SI_cps (MO_rf e_62 hM).1) _ _ _ hS hP hD (lv_sub hl [1, 2, 3, 4, 0] rfl) hres
            · skip
              have c_65 : ¬ (r_62 = 0) := c_65
              rw [if_neg c_65] at hres
              refine lv_iconst (v := 0) hx hb dX6_runScript_68 (by decide) ?_
              subst hres
              exact kI_ret hE hS hP hD rfl rfl (Nat.le_of_ble_eq_true rfl) (Nat.le_of_ble_eq_true rfl) dX6_runScript_69
          · skip
            have c_42 : ¬ ((k_X6_in (vn.toInt64) 1 3) = 0) := c_42
            rw [if_neg c_42] at hres
            refine lv_lload_n hx hb dX6_runScript_45 rfl (lv_at hl 2 rfl) ?_
            refine lv_lconst (v := 0) hx hb dX6_runScript_46 (by decide) ?_
            refine lv_lload hx hb dX6_runScript_47 (lv_at hl 3 rfl) ?_
            refine lv_lconst (v := 1) hx hb dX6_runScript_49 (by decide) ?_
            refine lv_lsub hx hb dX6_runScript_50 ?_
            have hP : va_P D vwCl ([] ++ (md_W cs ma mv)) H := hP
            have hD : va_D A ([] ++ (md_W cs ma mv)) := hD
            have hc_51 := c_X6_in l D cs vs 0 (pw - 1)
            refine kI_call (wc := []) (wr := (md_W cs ma mv)) (w1 := []) (r := (k_X6_in vs 0 (pw - 1))) hE hP hD hS (k_rS (rest := [.ref (ma 0)]) (As := [.long vs, .long 0, .long (pw - 1)]) hE rfl (hc_51 H.size) (va_cwS 3 hts gX6_runScript_X6_in rfl rfl rfl (by decide +kernel) ⟨Nat.le_of_ble_eq_true rfl, Nat.le_of_ble_eq_true rfl⟩) hP hD hS rfl hl rfl (Nat.le_of_ble_eq_true rfl) ⟨Nat.le_of_ble_eq_true rfl, Nat.le_of_ble_eq_true rfl⟩ dX6_runScript_51) (fun H locs hP hD hS => ?_)
            have hP : va_P D vwCl (md_W cs ma mv) H := hP
            have hD : va_D A (md_W cs ma mv) := hD
            refine lv_if_eq (tgt := 61) hx hb dX6_runScript_54 (by decide) (fun c_54 => ?_) (fun c_54 => ?_)
            · skip
              have c_54 : ((k_X6_in vs 0 (pw - 1)) = 0) := c_54
              rw [if_pos c_54] at hres
              refine lv_iconst (v := 1) hx hb dX6_runScript_61 (by decide) ?_
              have hP : va_P D vwCl ((md_W cs ma mv) ++ []) H := k_nP hP
              have hD : va_D A ((md_W cs ma mv) ++ []) := k_nD hD
              have hc_62 := c_X6_refused l D cs ma mv 1
              obtain ⟨r_62, o_62, e_62⟩ : ∃ r9 o9, (k_X6_refused mv 1) = (r9, o9) := ⟨_, _, rfl⟩
              rw [e_62] at hc_62 hres
              dsimp only at hc_62 hres
              refine kI_call (wc := (md_W cs ma mv)) (wr := []) (w1 := md_W cs ma o_62) (r := r_62) hE hP hD hS (k_rV (rest := []) (As := [.int 1]) hE rfl (hc_62 H.size) (cwV 1 hts gX6_runScript_X6_refused rfl rfl rfl (by decide +kernel) ⟨Nat.le_of_ble_eq_true rfl, Nat.le_of_ble_eq_true rfl⟩) hP hD hS (ci := 6) (q0 := 0) rfl rfl rfl hl rfl (Nat.le_of_ble_eq_true rfl) ⟨Nat.le_of_ble_eq_true rfl, Nat.le_of_ble_eq_true rfl⟩ dX6_runScript_62) (fun H locs hP hD hS => ?_)
              have hP := k_uP hP
              have hD := k_uD hD
              have hP : va_P D vwCl (md_W cs ma o_62) H := hP
              have hD : va_D A (md_W cs ma o_62) := hD
              refine lv_if_eq (tgt := 70) hx hb dX6_runScript_65 (by decide) (fun c_65 => ?_) (fun c_65 => ?_)
              · skip
                have c_65 : (r_62 = 0) := c_65
                rw [if_pos c_65] at hres
                refine lv_aload_n hx hb dX6_runScript_70 rfl (lv_at hl 0 rfl) ?_
                refine va_get (D := D) (ci := 6) (v := .ref (ma 2)) (C := RX6) (T := TX6) (N := 11) hx hb hts hinX6 hown hK hP 0 rfl rfl 3 (by decide) lk_2 (fun _ h9 => h9) rfl dX6_runScript_71 ?_
                refine lv_iconst (v := 0) hx hb dX6_runScript_74 (by decide) ?_
                refine lv_aload_n hx hb dX6_runScript_75 rfl (lv_at hl 0 rfl) ?_
                refine va_get (D := D) (ci := 6) (v := .ref (ma 3)) (C := RX6) (T := TX6) (N := 11) hx hb hts hinX6 hown hK hP 0 rfl rfl 4 (by decide) lk_3 (fun _ h9 => h9) rfl dX6_runScript_76 ?_
                refine lv_iconst (v := 0) hx hb dX6_runScript_79 (by decide) ?_
                have hP := hP.sub (ws' := (cp_W cs (ma 2) (ma 3) 217 217 (o_62.2 1) (o_62.2 2)) ++ (x_pick (md_W cs ma o_62) [0, 1, 4, 5, 6])) [2, 3, 0, 1, 4, 5, 6] rfl
                have hD := hD.sub (ws' := (cp_W cs (ma 2) (ma 3) 217 217 (o_62.2 1) (o_62.2 2)) ++ (x_pick (md_W cs ma o_62) [0, 1, 4, 5, 6])) [2, 3, 0, 1, 4, 5, 6] (by decide) rfl
                have hc_80 := c_X6_copyState l D cs (ma 2) (ma 3) 217 217 (o_62.2 1) (o_62.2 2) 0 0 (cp_0 (by decide) (by decide)) (cp_0 (by decide) (by decide))
                refine kV_call (wc := (cp_W cs (ma 2) (ma 3) 217 217 (o_62.2 1) (o_62.2 2))) (wr := (x_pick (md_W cs ma o_62) [0, 1, 4, 5, 6])) (w1 := fun _ => cp_W cs (ma 2) (ma 3) 217 217 (o_62.2 1) (k_X6_copyState (o_62.2 1) (o_62.2 2) 0 0)) hE hP hD hS (k_rS (rest := []) (As := [.ref (ma 2), .int 0, .ref (ma 3), .int 0]) hE rfl (hc_80 H.size) (va_cwS 4 hts gX6_runScript_X6_copyState rfl rfl rfl (by decide +kernel) ⟨Nat.le_of_ble_eq_true rfl, Nat.le_of_ble_eq_true rfl⟩) hP hD hS rfl hl rfl (Nat.le_of_ble_eq_true rfl) ⟨Nat.le_of_ble_eq_true rfl, Nat.le_of_ble_eq_true rfl⟩ dX6_runScript_80) (fun _ H locs _ hP hD hS => ?_)
                have hP := hP.sub (ws' := md_W cs ma (m_r o_62 2 (k_X6_copyState (o_62.2 1) (o_62.2 2) 0 0))) [2, 3, 0, 1, 4, 5, 6] rfl
                have hD := hD.sub (ws' := md_W cs ma (m_r o_62 2 (k_X6_copyState (o_62.2 1) (o_62.2 2) 0 0))) [2, 3, 0, 1, 4, 5, 6] (by decide) rfl
                have hP : va_P D vwCl (md_W cs ma (m_r o_62 2 (k_X6_copyState (o_62.2 1) (o_62.2 2) 0 0))) H := hP
                have hD : va_D A (md_W cs ma (m_r o_62 2 (k_X6_copyState (o_62.2 1) (o_62.2 2) 0 0))) := hD
                refine lv_iconst (v := 0) hx hb dX6_runScript_83 (by decide) ?_
                refine lv_istore (lv' := [(6, .int 0), (0, .ref (ma 0)), (1, .int vn), (2, .long vs), (4, .long pw)]) hx hb dX6_runScript_84 hl (by decide) rfl (fun ls hl => ?_)
                exact L86 4 0 pw (m_r o_62 2 (k_X6_copyState (o_62.2 1) (o_62.2 2) 0 0)) 0 (nI_0.symm) (rfl) (Nat.zero_le _) ((by first | exact (in_n (A := 1) (B := 3) rfl rfl c_42).2 | exact absurd (rfd_n e_62 c_65) (by decide))) ((by first | exact pw_ex hi hj2 hp hjv (in_n (A := 1) (B := 3) rfl rfl c_42) (Or.inl c_9) | exact pw_ex hi hj2 hp hjv (in_n (A := 1) (B := 3) rfl rfl c_42) (Or.inr c_15) | exact absurd (rfd_n e_62 c_65) (by decide))) (SI_cps (MO_rf e_62 hM).1) _ _ _ hS hP hD (lv_sub hl [1, 2, 3, 4, 0] rfl) hres
              · skip
                have c_65 : ¬ (r_62 = 0) := c_65
                rw [if_neg c_65] at hres
                refine lv_iconst (v := 0) hx hb dX6_runScript_68 (by decide) ?_
                subst hres
                exact kI_ret hE hS hP hD rfl rfl (Nat.le_of_ble_eq_true rfl) (Nat.le_of_ble_eq_true rfl) dX6_runScript_69
            · skip
              have c_54 : ¬ ((k_X6_in vs 0 (pw - 1)) = 0) := c_54
              rw [if_neg c_54] at hres
              refine lv_iconst (v := 0) hx hb dX6_runScript_57 (by decide) ?_
              refine lv_goto (tgt := 62) hx hb dX6_runScript_58 (by decide) ?_
              have hP : va_P D vwCl ((md_W cs ma mv) ++ []) H := k_nP hP
              have hD : va_D A ((md_W cs ma mv) ++ []) := k_nD hD
              have hc_62 := c_X6_refused l D cs ma mv 0
              obtain ⟨r_62, o_62, e_62⟩ : ∃ r9 o9, (k_X6_refused mv 0) = (r9, o9) := ⟨_, _, rfl⟩
              rw [e_62] at hc_62 hres
              dsimp only at hc_62 hres
              refine kI_call (wc := (md_W cs ma mv)) (wr := []) (w1 := md_W cs ma o_62) (r := r_62) hE hP hD hS (k_rV (rest := []) (As := [.int 0]) hE rfl (hc_62 H.size) (cwV 1 hts gX6_runScript_X6_refused rfl rfl rfl (by decide +kernel) ⟨Nat.le_of_ble_eq_true rfl, Nat.le_of_ble_eq_true rfl⟩) hP hD hS (ci := 6) (q0 := 0) rfl rfl rfl hl rfl (Nat.le_of_ble_eq_true rfl) ⟨Nat.le_of_ble_eq_true rfl, Nat.le_of_ble_eq_true rfl⟩ dX6_runScript_62) (fun H locs hP hD hS => ?_)
              have hP := k_uP hP
              have hD := k_uD hD
              have hP : va_P D vwCl (md_W cs ma o_62) H := hP
              have hD : va_D A (md_W cs ma o_62) := hD
              refine lv_if_eq (tgt := 70) hx hb dX6_runScript_65 (by decide) (fun c_65 => ?_) (fun c_65 => ?_)
              · skip
                have c_65 : (r_62 = 0) := c_65
                rw [if_pos c_65] at hres
                refine lv_aload_n hx hb dX6_runScript_70 rfl (lv_at hl 0 rfl) ?_
                refine va_get (D := D) (ci := 6) (v := .ref (ma 2)) (C := RX6) (T := TX6) (N := 11) hx hb hts hinX6 hown hK hP 0 rfl rfl 3 (by decide) lk_2 (fun _ h9 => h9) rfl dX6_runScript_71 ?_
                refine lv_iconst (v := 0) hx hb dX6_runScript_74 (by decide) ?_
                refine lv_aload_n hx hb dX6_runScript_75 rfl (lv_at hl 0 rfl) ?_
                refine va_get (D := D) (ci := 6) (v := .ref (ma 3)) (C := RX6) (T := TX6) (N := 11) hx hb hts hinX6 hown hK hP 0 rfl rfl 4 (by decide) lk_3 (fun _ h9 => h9) rfl dX6_runScript_76 ?_
                refine lv_iconst (v := 0) hx hb dX6_runScript_79 (by decide) ?_
                have hP := hP.sub (ws' := (cp_W cs (ma 2) (ma 3) 217 217 (o_62.2 1) (o_62.2 2)) ++ (x_pick (md_W cs ma o_62) [0, 1, 4, 5, 6])) [2, 3, 0, 1, 4, 5, 6] rfl
                have hD := hD.sub (ws' := (cp_W cs (ma 2) (ma 3) 217 217 (o_62.2 1) (o_62.2 2)) ++ (x_pick (md_W cs ma o_62) [0, 1, 4, 5, 6])) [2, 3, 0, 1, 4, 5, 6] (by decide) rfl
                have hc_80 := c_X6_copyState l D cs (ma 2) (ma 3) 217 217 (o_62.2 1) (o_62.2 2) 0 0 (cp_0 (by decide) (by decide)) (cp_0 (by decide) (by decide))
                refine kV_call (wc := (cp_W cs (ma 2) (ma 3) 217 217 (o_62.2 1) (o_62.2 2))) (wr := (x_pick (md_W cs ma o_62) [0, 1, 4, 5, 6])) (w1 := fun _ => cp_W cs (ma 2) (ma 3) 217 217 (o_62.2 1) (k_X6_copyState (o_62.2 1) (o_62.2 2) 0 0)) hE hP hD hS (k_rS (rest := []) (As := [.ref (ma 2), .int 0, .ref (ma 3), .int 0]) hE rfl (hc_80 H.size) (va_cwS 4 hts gX6_runScript_X6_copyState rfl rfl rfl (by decide +kernel) ⟨Nat.le_of_ble_eq_true rfl, Nat.le_of_ble_eq_true rfl⟩) hP hD hS rfl hl rfl (Nat.le_of_ble_eq_true rfl) ⟨Nat.le_of_ble_eq_true rfl, Nat.le_of_ble_eq_true rfl⟩ dX6_runScript_80) (fun _ H locs _ hP hD hS => ?_)
                have hP := hP.sub (ws' := md_W cs ma (m_r o_62 2 (k_X6_copyState (o_62.2 1) (o_62.2 2) 0 0))) [2, 3, 0, 1, 4, 5, 6] rfl
                have hD := hD.sub (ws' := md_W cs ma (m_r o_62 2 (k_X6_copyState (o_62.2 1) (o_62.2 2) 0 0))) [2, 3, 0, 1, 4, 5, 6] (by decide) rfl
                have hP : va_P D vwCl (md_W cs ma (m_r o_62 2 (k_X6_copyState (o_62.2 1) (o_62.2 2) 0 0))) H := hP
                have hD : va_D A (md_W cs ma (m_r o_62 2 (k_X6_copyState (o_62.2 1) (o_62.2 2) 0 0))) := hD
                refine lv_iconst (v := 0) hx hb dX6_runScript_83 (by decide) ?_
                refine lv_istore (lv' := [(6, .int 0), (0, .ref (ma 0)), (1, .int vn), (2, .long vs), (4, .long pw)]) hx hb dX6_runScript_84 hl (by decide) rfl (fun ls hl => ?_)
                exact L86 4 0 pw (m_r o_62 2 (k_X6_copyState (o_62.2 1) (o_62.2 2) 0 0)) 0 (nI_0.symm) (rfl) (Nat.zero_le _) ((by first | exact (in_n (A := 1) (B := 3) rfl rfl c_42).2 | exact absurd (rfd_n e_62 c_65) (by decide))) ((by first | exact pw_ex hi hj2 hp hjv (in_n (A := 1) (B := 3) rfl rfl c_42) (Or.inl c_9) | exact pw_ex hi hj2 hp hjv (in_n (A := 1) (B := 3) rfl rfl c_42) (Or.inr c_15) | exact absurd (rfd_n e_62 c_65) (by decide))) (SI_cps (MO_rf e_62 hM).1) _ _ _ hS hP hD (lv_sub hl [1, 2, 3, 4, 0] rfl) hres
              · skip
                have c_65 : ¬ (r_62 = 0) := c_65
                rw [if_neg c_65] at hres
                refine lv_iconst (v := 0) hx hb dX6_runScript_68 (by decide) ?_
                subst hres
                exact kI_ret hE hS hP hD rfl rfl (Nat.le_of_ble_eq_true rfl) (Nat.le_of_ble_eq_true rfl) dX6_runScript_69
        · skip
          have c_15 : ¬ (3 ≤ i) := c_15
          rw [if_neg c_15] at hres
          refine lv_lload hx hb dX6_runScript_18 (lv_at hl 3 rfl) ?_
          refine lv_ldc2 (v := 100000) hx hb hown lk_0 dX6_runScript_20 ?_
          refine lv_lmul hx hb dX6_runScript_23 ?_
          refine lv_lstore (lv' := [(4, .long (pw * 100000)), (0, .ref (ma 0)), (1, .int vn), (2, .long vs), (6, .int i)]) hx hb dX6_runScript_24 hl (by decide) rfl (fun ls hl => ?_)
          refine lv_iinc (v := (i + 1)) (lv' := [(6, .int (i + 1)), (4, .long (pw * 100000)), (0, .ref (ma 0)), (1, .int vn), (2, .long vs)]) hx hb dX6_runScript_26 hl (k := 4) rfl (by rfl) (by decide) rfl (fun ls hl => ?_)
          refine lv_goto (tgt := 6) hx hb dX6_runScript_29 (by decide) ?_
          exact ih (i + 1) (pw * 100000) (j + 1) (by rw [hi, nI_1]) (by omega) (nI_lts hi (by omega) (by decide) c_15) (by rw [hp]; rfl) (Or.inl (by have := pw_j hi hj2 c_9; omega)) _ _ _ hS hP hD (lv_sub hl [2, 3, 4, 1, 0] rfl) hres
  unfold k_X6_runScript at hres
  refine lv_lconst (v := 1) hx hb dX6_runScript_0 (by decide) ?_
  refine lv_lstore (lv' := [(4, .long 1), (0, .ref (ma 0)), (1, .int vn), (2, .long vs)]) hx hb dX6_runScript_1 hl (by decide) rfl (fun ls hl => ?_)
  refine lv_iconst (v := 0) hx hb dX6_runScript_3 (by decide) ?_
  refine lv_istore (lv' := [(6, .int 0), (4, .long 1), (0, .ref (ma 0)), (1, .int vn), (2, .long vs)]) hx hb dX6_runScript_4 hl (by decide) rfl (fun ls hl => ?_)
  exact L6 4 0 1 0 (nI_0.symm) (rfl) (Nat.zero_le _) (rfl) (Or.inr rfl) _ _ _ hS hP hD (lv_sub hl [2, 3, 4, 1, 0] rfl) hres
set_option maxHeartbeats 4000000 in
set_option maxRecDepth 100000 in
theorem c_X6_simulate (l : Launch) (D : va_G) (cs : Nat → ClassId) (ma : Nat → Nat) (mv : MV) (vs : Int64) (vn : Int32) (hM : MO mv) : kI l yX6_simulate wsX6_simulate { frames := 8, cells := 0, slots := 0, locals := 181 } 0 0 D cs [.ref (ma 0), .long vs, .int vn] (md_W cs ma mv) (k_X6_simulate mv vs vn).1 (md_W cs ma ((k_X6_simulate mv vs vn).2)) := by
  generalize hres : k_X6_simulate mv vs vn = res
  refine kI_of (cc := cX6_simulate) (maxL := 8) (ret := (some .int)) (by decide) rfl (Nat.le_of_ble_eq_true rfl) ?_
  intro p e s m below meth c A ls H locs hE hS hP hD hl
  obtain ⟨hx, hb, hr, hlocks, hml, hown, hts, hK, hA, hG, hnm⟩ := id hE
  have hown : s.vm.findClass RX6 = some m.cls := hown
  have hl : lv_has ls 8 [(0, .ref (ma 0)), (1, .long vs), (3, .int vn)] := hl
  have hinX6 : ∀ w ∈ wsX60, w ∈ wsX6_simulate := by decide +kernel
  have lk_0 := hts (.fieldLink RX6 16 "OrganPegsModel" "trial" "[I") (by decide +kernel)
  have lk_1 := hts (.fieldLink RX6 13 "OrganPegsModel" "now" "[I") (by decide +kernel)
  have lk_2 := hts (.constantLong RX6 202 6364136223846793005) (by decide +kernel)
  have lk_3 := hts (.constantLong RX6 204 1442695040888963407) (by decide +kernel)
  have lk_4 := hts (.constantLong RX6 49 60) (by decide +kernel)
  have L45 : ∀ (n : Nat) (x : Int64) (i : Int32) (mw : MV) (j : Nat) (hi : i = nI j) (hj : j + n = 61) (hj2 : j ≤ 60) (hv : vn.toInt ≤ 60) (hI2 : SI (mw.2 2)) (H : Heap) (locs : List Loc) (ls : Array Slot), va_S A s.heap H locs → va_P D vwCl (md_W cs ma mw) H → va_D A (md_W cs ma mw) → lv_has ls 8 [(0, .ref (ma 0)), (1, .long vs), (3, .int vn), (4, .long x), (6, .int i)] → k_X6_simulate_L45 mv vs vn n x i mw = res → W p l e { frames := 8, cells := 0, slots := 0, locals := 181 } s m ([.ref (ma 0), .long vs, .int vn]).toArray below meth c H locs 0 0 (MQ below (va_Qi (fun (r' : Int32) (_ : Unit) => r' = res.1) (kB D (fun _ => md_W cs ma res.2) A) A) ([.ref (ma 0), .long vs, .int vn]).toArray s 0 0 A) (F0 m 45 ls []) := by
    intro n
    induction n with
    | zero =>
      intro x i mw j hi hj hj2 hv hI2 H locs ls hS hP hD hl hres
      exact absurd hj2 (by omega)
    | succ n ih =>
      intro x i mw j hi hj hj2 hv hI2 H locs ls hS hP hD hl hres
      unfold k_X6_simulate_L45 at hres
      refine lv_iload hx hb dX6_simulate_45 (lv_at hl 4 rfl) ?_
      refine lv_iload_n hx hb dX6_simulate_47 rfl (lv_at hl 2 rfl) ?_
      refine lv_icmp_ge (tgt := 94) hx hb dX6_simulate_48 (by decide) (fun c_48 => ?_) (fun c_48 => ?_)
      · skip
        have c_48 : (vn ≤ i) := c_48
        rw [if_pos c_48] at hres
        refine lv_sipush (v := 10000) hx hb dX6_simulate_94 (by decide) ?_
        refine lv_aload_n hx hb dX6_simulate_97 rfl (lv_at hl 0 rfl) ?_
        refine va_get (D := D) (ci := 6) (v := .ref (ma 3)) (C := RX6) (T := TX6) (N := 11) hx hb hts hinX6 hown hK hP 0 rfl rfl 4 (by decide) lk_0 (fun _ h9 => h9) rfl dX6_simulate_98 ?_
        refine lv_bipush (v := 9) hx hb dX6_simulate_101 (by decide) ?_
        refine k_iald hx hb hK hP 3 0 (v := ((mw.2 2) 9)) rfl rfl (k_inl rfl) rfl dX6_simulate_103 ?_
        refine lv_aload_n hx hb dX6_simulate_104 rfl (lv_at hl 0 rfl) ?_
        refine va_get (D := D) (ci := 6) (v := .ref (ma 2)) (C := RX6) (T := TX6) (N := 11) hx hb hts hinX6 hown hK hP 0 rfl rfl 3 (by decide) lk_1 (fun _ h9 => h9) rfl dX6_simulate_105 ?_
        refine lv_bipush (v := 9) hx hb dX6_simulate_108 (by decide) ?_
        refine k_iald hx hb hK hP 2 0 (v := ((mw.2 1) 9)) rfl rfl (k_inl rfl) rfl dX6_simulate_110 ?_
        refine lv_isub hx hb dX6_simulate_111 ?_
        refine lv_sipush (v := 10000) hx hb dX6_simulate_112 (by decide) ?_
        refine lv_irem hx hb dX6_simulate_115 (by decide) ?_
        refine lv_imul hx hb dX6_simulate_116 ?_
        refine lv_bipush (v := 100) hx hb dX6_simulate_117 (by decide) ?_
        refine lv_aload_n hx hb dX6_simulate_119 rfl (lv_at hl 0 rfl) ?_
        refine va_get (D := D) (ci := 6) (v := .ref (ma 3)) (C := RX6) (T := TX6) (N := 11) hx hb hts hinX6 hown hK hP 0 rfl rfl 4 (by decide) lk_0 (fun _ h9 => h9) rfl dX6_simulate_120 ?_
        refine lv_bipush (v := 10) hx hb dX6_simulate_123 (by decide) ?_
        refine k_iald hx hb hK hP 3 0 (v := ((mw.2 2) 10)) rfl rfl (k_inl rfl) rfl dX6_simulate_125 ?_
        refine lv_aload_n hx hb dX6_simulate_126 rfl (lv_at hl 0 rfl) ?_
        refine va_get (D := D) (ci := 6) (v := .ref (ma 2)) (C := RX6) (T := TX6) (N := 11) hx hb hts hinX6 hown hK hP 0 rfl rfl 3 (by decide) lk_1 (fun _ h9 => h9) rfl dX6_simulate_127 ?_
        refine lv_bipush (v := 10) hx hb dX6_simulate_130 (by decide) ?_
        refine k_iald hx hb hK hP 2 0 (v := ((mw.2 1) 10)) rfl rfl (k_inl rfl) rfl dX6_simulate_132 ?_
        refine lv_isub hx hb dX6_simulate_133 ?_
        refine lv_bipush (v := 100) hx hb dX6_simulate_134 (by decide) ?_
        refine lv_irem hx hb dX6_simulate_136 (by decide) ?_
        refine lv_imul hx hb dX6_simulate_137 ?_
        refine lv_iadd hx hb dX6_simulate_138 ?_
        refine lv_aload_n hx hb dX6_simulate_139 rfl (lv_at hl 0 rfl) ?_
        refine va_get (D := D) (ci := 6) (v := .ref (ma 3)) (C := RX6) (T := TX6) (N := 11) hx hb hts hinX6 hown hK hP 0 rfl rfl 4 (by decide) lk_0 (fun _ h9 => h9) rfl dX6_simulate_140 ?_
        refine lv_iconst (v := 0) hx hb dX6_simulate_143 (by decide) ?_
        refine k_iald hx hb hK hP 3 0 (v := ((mw.2 2) 0)) rfl rfl (k_inl rfl) rfl dX6_simulate_144 ?_
        refine lv_iadd hx hb dX6_simulate_145 ?_
        subst hres
        exact kI_ret hE hS hP hD rfl rfl (Nat.le_of_ble_eq_true rfl) (Nat.le_of_ble_eq_true rfl) dX6_simulate_146
      · skip
        have c_48 : ¬ (vn ≤ i) := c_48
        rw [if_neg c_48] at hres
        refine lv_lload hx hb dX6_simulate_51 (lv_at hl 3 rfl) ?_
        refine lv_ldc2 (v := 6364136223846793005) hx hb hown lk_2 dX6_simulate_53 ?_
        refine lv_lmul hx hb dX6_simulate_56 ?_
        refine lv_ldc2 (v := 1442695040888963407) hx hb hown lk_3 dX6_simulate_57 ?_
        refine lv_ladd hx hb dX6_simulate_60 ?_
        refine lv_lstore (lv' := [(4, .long ((x * 6364136223846793005) + 1442695040888963407)), (0, .ref (ma 0)), (1, .long vs), (3, .int vn), (6, .int i)]) hx hb dX6_simulate_61 hl (by decide) rfl (fun ls hl => ?_)
        refine lv_lload hx hb dX6_simulate_63 (lv_at hl 0 rfl) ?_
        refine lv_bipush (v := 33) hx hb dX6_simulate_65 (by decide) ?_
        refine lv_lushr hx hb dX6_simulate_67 rfl ?_
        refine lv_l2i hx hb dX6_simulate_68 rfl ?_
        refine lv_istore (lv' := [(7, .int (Int64.toInt32 (x_lushr ((x * 6364136223846793005) + 1442695040888963407) 33))), (4, .long ((x * 6364136223846793005) + 1442695040888963407)), (0, .ref (ma 0)), (1, .long vs), (3, .int vn), (6, .int i)]) hx hb dX6_simulate_69 hl (by decide) rfl (fun ls hl => ?_)
        refine lv_aload_n hx hb dX6_simulate_71 rfl (lv_at hl 2 rfl) ?_
        refine va_get (D := D) (ci := 6) (v := .ref (ma 3)) (C := RX6) (T := TX6) (N := 11) hx hb hts hinX6 hown hK hP 0 rfl rfl 4 (by decide) lk_0 (fun _ h9 => h9) rfl dX6_simulate_72 ?_
        refine lv_iload hx hb dX6_simulate_75 (lv_at hl 0 rfl) ?_
        refine lv_bipush (v := 8) hx hb dX6_simulate_77 (by decide) ?_
        refine lv_irem hx hb dX6_simulate_79 (by decide) ?_
        refine lv_iload hx hb dX6_simulate_80 (lv_at hl 0 rfl) ?_
        refine lv_bipush (v := 8) hx hb dX6_simulate_82 (by decide) ?_
        refine lv_idiv hx hb dX6_simulate_84 (by decide) ?_
        have hP := hP.sub (ws' := (st_W cs (ma 3) (mw.2 2)) ++ (x_pick (md_W cs ma mw) [0, 1, 2, 4, 5, 6])) [3, 0, 1, 2, 4, 5, 6] rfl
        have hD := hD.sub (ws' := (st_W cs (ma 3) (mw.2 2)) ++ (x_pick (md_W cs ma mw) [0, 1, 2, 4, 5, 6])) [3, 0, 1, 2, 4, 5, 6] (by decide) rfl
        have hc_85 := c_X6_turnOf l D cs (ma 3) (mw.2 2) ((Int64.toInt32 (x_lushr ((x * 6364136223846793005) + 1442695040888963407) 33)) - (Int64.toInt32 (x_lushr ((x * 6364136223846793005) + 1442695040888963407) 33)) / 8 * 8) ((Int64.toInt32 (x_lushr ((x * 6364136223846793005) + 1442695040888963407) 33)) / 8) hI2 (idiv_0 (N := 8) rfl (by decide) (sh_nn _))
        generalize e_85 : (k_X6_turnOf (mw.2 2) ((Int64.toInt32 (x_lushr ((x * 6364136223846793005) + 1442695040888963407) 33)) - (Int64.toInt32 (x_lushr ((x * 6364136223846793005) + 1442695040888963407) 33)) / 8 * 8) ((Int64.toInt32 (x_lushr ((x * 6364136223846793005) + 1442695040888963407) 33)) / 8)) = o_85 at hc_85 hres
        have hres := (kbind_eq _ _).symm.trans hres
        refine kV_call (wc := (st_W cs (ma 3) (mw.2 2))) (wr := (x_pick (md_W cs ma mw) [0, 1, 2, 4, 5, 6])) (w1 := fun _ => st_W cs (ma 3) o_85) hE hP hD hS (k_rS (rest := []) (As := [.ref (ma 3), .int ((Int64.toInt32 (x_lushr ((x * 6364136223846793005) + 1442695040888963407) 33)) - (Int64.toInt32 (x_lushr ((x * 6364136223846793005) + 1442695040888963407) 33)) / 8 * 8), .int ((Int64.toInt32 (x_lushr ((x * 6364136223846793005) + 1442695040888963407) 33)) / 8)]) hE rfl (hc_85 H.size) (va_cwS 3 hts gX6_simulate_X6_turnOf rfl rfl rfl (by decide +kernel) ⟨Nat.le_of_ble_eq_true rfl, Nat.le_of_ble_eq_true rfl⟩) hP hD hS rfl hl rfl (Nat.le_of_ble_eq_true rfl) ⟨Nat.le_of_ble_eq_true rfl, Nat.le_of_ble_eq_true rfl⟩ dX6_simulate_85) (fun _ H locs _ hP hD hS => ?_)
        have hP := hP.sub (ws' := md_W cs ma (m_r mw 2 o_85)) [1, 2, 3, 0, 4, 5, 6] md_k3
        have hD := hD.sub (ws' := md_W cs ma (m_r mw 2 o_85)) [1, 2, 3, 0, 4, 5, 6] (by decide) md_d3
        have hP : va_P D vwCl (md_W cs ma (m_r mw 2 o_85)) H := hP
        have hD : va_D A (md_W cs ma (m_r mw 2 o_85)) := hD
        refine lv_iinc (v := (i + 1)) (lv' := [(6, .int (i + 1)), (7, .int (Int64.toInt32 (x_lushr ((x * 6364136223846793005) + 1442695040888963407) 33))), (4, .long ((x * 6364136223846793005) + 1442695040888963407)), (0, .ref (ma 0)), (1, .long vs), (3, .int vn)]) hx hb dX6_simulate_88 hl (k := 5) rfl (by rfl) (by decide) rfl (fun ls hl => ?_)
        refine lv_goto (tgt := 45) hx hb dX6_simulate_91 (by decide) ?_
        exact ih ((x * 6364136223846793005) + 1442695040888963407) (i + 1) (m_r mw 2 o_85) (j + 1) (by rw [hi, nI_1]) (by omega) (nI_ltb (N := 60) hi (by omega) hv c_48) (hv) (SI_mr (mw := mw) (SI_turnE e_85 hI2 (idiv_0 (N := 8) rfl (by decide) (sh_nn _)))) _ _ _ hS hP hD (lv_sub hl [3, 4, 5, 2, 0] rfl) hres
  unfold k_X6_simulate at hres
  refine lv_aload_n hx hb dX6_simulate_0 rfl (lv_at hl 0 rfl) ?_
  refine lv_iload_n hx hb dX6_simulate_1 rfl (lv_at hl 2 rfl) ?_
  refine lv_i2l hx hb dX6_simulate_2 rfl ?_
  refine lv_lconst (v := 1) hx hb dX6_simulate_3 (by decide) ?_
  refine lv_ldc2 (v := 60) hx hb hown lk_4 dX6_simulate_4 ?_
  have hP : va_P D vwCl ([] ++ (md_W cs ma mv)) H := hP
  have hD : va_D A ([] ++ (md_W cs ma mv)) := hD
  have hc_7 := c_X6_in l D cs (vn.toInt64) 1 60
  refine kI_call (wc := []) (wr := (md_W cs ma mv)) (w1 := []) (r := (k_X6_in (vn.toInt64) 1 60)) hE hP hD hS (k_rS (rest := [.ref (ma 0)]) (As := [.long (vn.toInt64), .long 1, .long 60]) hE rfl (hc_7 H.size) (va_cwS 3 hts gX6_simulate_X6_in rfl rfl rfl (by decide +kernel) ⟨Nat.le_of_ble_eq_true rfl, Nat.le_of_ble_eq_true rfl⟩) hP hD hS rfl hl rfl (Nat.le_of_ble_eq_true rfl) ⟨Nat.le_of_ble_eq_true rfl, Nat.le_of_ble_eq_true rfl⟩ dX6_simulate_7) (fun H locs hP hD hS => ?_)
  have hP : va_P D vwCl (md_W cs ma mv) H := hP
  have hD : va_D A (md_W cs ma mv) := hD
  refine lv_if_eq (tgt := 17) hx hb dX6_simulate_10 (by decide) (fun c_10 => ?_) (fun c_10 => ?_)
  · skip
    have c_10 : ((k_X6_in (vn.toInt64) 1 60) = 0) := c_10
    rw [if_pos c_10] at hres
    refine lv_iconst (v := 1) hx hb dX6_simulate_17 (by decide) ?_
    have hP : va_P D vwCl ((md_W cs ma mv) ++ []) H := k_nP hP
    have hD : va_D A ((md_W cs ma mv) ++ []) := k_nD hD
    have hc_18 := c_X6_refused l D cs ma mv 1
    obtain ⟨r_18, o_18, e_18⟩ : ∃ r9 o9, (k_X6_refused mv 1) = (r9, o9) := ⟨_, _, rfl⟩
    rw [e_18] at hc_18 hres
    dsimp only at hc_18 hres
    refine kI_call (wc := (md_W cs ma mv)) (wr := []) (w1 := md_W cs ma o_18) (r := r_18) hE hP hD hS (k_rV (rest := []) (As := [.int 1]) hE rfl (hc_18 H.size) (cwV 1 hts gX6_simulate_X6_refused rfl rfl rfl (by decide +kernel) ⟨Nat.le_of_ble_eq_true rfl, Nat.le_of_ble_eq_true rfl⟩) hP hD hS (ci := 6) (q0 := 0) rfl rfl rfl hl rfl (Nat.le_of_ble_eq_true rfl) ⟨Nat.le_of_ble_eq_true rfl, Nat.le_of_ble_eq_true rfl⟩ dX6_simulate_18) (fun H locs hP hD hS => ?_)
    have hP := k_uP hP
    have hD := k_uD hD
    have hP : va_P D vwCl (md_W cs ma o_18) H := hP
    have hD : va_D A (md_W cs ma o_18) := hD
    refine lv_if_eq (tgt := 26) hx hb dX6_simulate_21 (by decide) (fun c_21 => ?_) (fun c_21 => ?_)
    · skip
      have c_21 : (r_18 = 0) := c_21
      rw [if_pos c_21] at hres
      refine lv_aload_n hx hb dX6_simulate_26 rfl (lv_at hl 0 rfl) ?_
      refine va_get (D := D) (ci := 6) (v := .ref (ma 2)) (C := RX6) (T := TX6) (N := 11) hx hb hts hinX6 hown hK hP 0 rfl rfl 3 (by decide) lk_1 (fun _ h9 => h9) rfl dX6_simulate_27 ?_
      refine lv_iconst (v := 0) hx hb dX6_simulate_30 (by decide) ?_
      refine lv_aload_n hx hb dX6_simulate_31 rfl (lv_at hl 0 rfl) ?_
      refine va_get (D := D) (ci := 6) (v := .ref (ma 3)) (C := RX6) (T := TX6) (N := 11) hx hb hts hinX6 hown hK hP 0 rfl rfl 4 (by decide) lk_0 (fun _ h9 => h9) rfl dX6_simulate_32 ?_
      refine lv_iconst (v := 0) hx hb dX6_simulate_35 (by decide) ?_
      have hP := hP.sub (ws' := (cp_W cs (ma 2) (ma 3) 217 217 (o_18.2 1) (o_18.2 2)) ++ (x_pick (md_W cs ma o_18) [0, 1, 4, 5, 6])) [2, 3, 0, 1, 4, 5, 6] rfl
      have hD := hD.sub (ws' := (cp_W cs (ma 2) (ma 3) 217 217 (o_18.2 1) (o_18.2 2)) ++ (x_pick (md_W cs ma o_18) [0, 1, 4, 5, 6])) [2, 3, 0, 1, 4, 5, 6] (by decide) rfl
      have hc_36 := c_X6_copyState l D cs (ma 2) (ma 3) 217 217 (o_18.2 1) (o_18.2 2) 0 0 (cp_0 (by decide) (by decide)) (cp_0 (by decide) (by decide))
      refine kV_call (wc := (cp_W cs (ma 2) (ma 3) 217 217 (o_18.2 1) (o_18.2 2))) (wr := (x_pick (md_W cs ma o_18) [0, 1, 4, 5, 6])) (w1 := fun _ => cp_W cs (ma 2) (ma 3) 217 217 (o_18.2 1) (k_X6_copyState (o_18.2 1) (o_18.2 2) 0 0)) hE hP hD hS (k_rS (rest := []) (As := [.ref (ma 2), .int 0, .ref (ma 3), .int 0]) hE rfl (hc_36 H.size) (va_cwS 4 hts gX6_simulate_X6_copyState rfl rfl rfl (by decide +kernel) ⟨Nat.le_of_ble_eq_true rfl, Nat.le_of_ble_eq_true rfl⟩) hP hD hS rfl hl rfl (Nat.le_of_ble_eq_true rfl) ⟨Nat.le_of_ble_eq_true rfl, Nat.le_of_ble_eq_true rfl⟩ dX6_simulate_36) (fun _ H locs _ hP hD hS => ?_)
      have hP := hP.sub (ws' := md_W cs ma (m_r o_18 2 (k_X6_copyState (o_18.2 1) (o_18.2 2) 0 0))) [2, 3, 0, 1, 4, 5, 6] rfl
      have hD := hD.sub (ws' := md_W cs ma (m_r o_18 2 (k_X6_copyState (o_18.2 1) (o_18.2 2) 0 0))) [2, 3, 0, 1, 4, 5, 6] (by decide) rfl
      have hP : va_P D vwCl (md_W cs ma (m_r o_18 2 (k_X6_copyState (o_18.2 1) (o_18.2 2) 0 0))) H := hP
      have hD : va_D A (md_W cs ma (m_r o_18 2 (k_X6_copyState (o_18.2 1) (o_18.2 2) 0 0))) := hD
      refine lv_lload_n hx hb dX6_simulate_39 rfl (lv_at hl 1 rfl) ?_
      refine lv_lstore (lv' := [(4, .long vs), (0, .ref (ma 0)), (1, .long vs), (3, .int vn)]) hx hb dX6_simulate_40 hl (by decide) rfl (fun ls hl => ?_)
      refine lv_iconst (v := 0) hx hb dX6_simulate_42 (by decide) ?_
      refine lv_istore (lv' := [(6, .int 0), (4, .long vs), (0, .ref (ma 0)), (1, .long vs), (3, .int vn)]) hx hb dX6_simulate_43 hl (by decide) rfl (fun ls hl => ?_)
      exact L45 61 vs 0 (m_r o_18 2 (k_X6_copyState (o_18.2 1) (o_18.2 2) 0 0)) 0 (nI_0.symm) (rfl) (Nat.zero_le _) ((by first | exact (in_n (A := 1) (B := 60) rfl rfl c_10).2 | exact absurd (rfd_n e_18 c_21) (by decide))) (SI_cps (MO_rf e_18 hM).1) _ _ _ hS hP hD (lv_sub hl [2, 3, 4, 1, 0] rfl) hres
    · skip
      have c_21 : ¬ (r_18 = 0) := c_21
      rw [if_neg c_21] at hres
      refine lv_iconst (v := 0) hx hb dX6_simulate_24 (by decide) ?_
      subst hres
      exact kI_ret hE hS hP hD rfl rfl (Nat.le_of_ble_eq_true rfl) (Nat.le_of_ble_eq_true rfl) dX6_simulate_25
  · skip
    have c_10 : ¬ ((k_X6_in (vn.toInt64) 1 60) = 0) := c_10
    rw [if_neg c_10] at hres
    refine lv_iconst (v := 0) hx hb dX6_simulate_13 (by decide) ?_
    refine lv_goto (tgt := 18) hx hb dX6_simulate_14 (by decide) ?_
    have hP : va_P D vwCl ((md_W cs ma mv) ++ []) H := k_nP hP
    have hD : va_D A ((md_W cs ma mv) ++ []) := k_nD hD
    have hc_18 := c_X6_refused l D cs ma mv 0
    obtain ⟨r_18, o_18, e_18⟩ : ∃ r9 o9, (k_X6_refused mv 0) = (r9, o9) := ⟨_, _, rfl⟩
    rw [e_18] at hc_18 hres
    dsimp only at hc_18 hres
    refine kI_call (wc := (md_W cs ma mv)) (wr := []) (w1 := md_W cs ma o_18) (r := r_18) hE hP hD hS (k_rV (rest := []) (As := [.int 0]) hE rfl (hc_18 H.size) (cwV 1 hts gX6_simulate_X6_refused rfl rfl rfl (by decide +kernel) ⟨Nat.le_of_ble_eq_true rfl, Nat.le_of_ble_eq_true rfl⟩) hP hD hS (ci := 6) (q0 := 0) rfl rfl rfl hl rfl (Nat.le_of_ble_eq_true rfl) ⟨Nat.le_of_ble_eq_true rfl, Nat.le_of_ble_eq_true rfl⟩ dX6_simulate_18) (fun H locs hP hD hS => ?_)
    have hP := k_uP hP
    have hD := k_uD hD
    have hP : va_P D vwCl (md_W cs ma o_18) H := hP
    have hD : va_D A (md_W cs ma o_18) := hD
    refine lv_if_eq (tgt := 26) hx hb dX6_simulate_21 (by decide) (fun c_21 => ?_) (fun c_21 => ?_)
    · skip
      have c_21 : (r_18 = 0) := c_21
      rw [if_pos c_21] at hres
      refine lv_aload_n hx hb dX6_simulate_26 rfl (lv_at hl 0 rfl) ?_
      refine va_get (D := D) (ci := 6) (v := .ref (ma 2)) (C := RX6) (T := TX6) (N := 11) hx hb hts hinX6 hown hK hP 0 rfl rfl 3 (by decide) lk_1 (fun _ h9 => h9) rfl dX6_simulate_27 ?_
      refine lv_iconst (v := 0) hx hb dX6_simulate_30 (by decide) ?_
      refine lv_aload_n hx hb dX6_simulate_31 rfl (lv_at hl 0 rfl) ?_
      refine va_get (D := D) (ci := 6) (v := .ref (ma 3)) (C := RX6) (T := TX6) (N := 11) hx hb hts hinX6 hown hK hP 0 rfl rfl 4 (by decide) lk_0 (fun _ h9 => h9) rfl dX6_simulate_32 ?_
      refine lv_iconst (v := 0) hx hb dX6_simulate_35 (by decide) ?_
      have hP := hP.sub (ws' := (cp_W cs (ma 2) (ma 3) 217 217 (o_18.2 1) (o_18.2 2)) ++ (x_pick (md_W cs ma o_18) [0, 1, 4, 5, 6])) [2, 3, 0, 1, 4, 5, 6] rfl
      have hD := hD.sub (ws' := (cp_W cs (ma 2) (ma 3) 217 217 (o_18.2 1) (o_18.2 2)) ++ (x_pick (md_W cs ma o_18) [0, 1, 4, 5, 6])) [2, 3, 0, 1, 4, 5, 6] (by decide) rfl
      have hc_36 := c_X6_copyState l D cs (ma 2) (ma 3) 217 217 (o_18.2 1) (o_18.2 2) 0 0 (cp_0 (by decide) (by decide)) (cp_0 (by decide) (by decide))
      refine kV_call (wc := (cp_W cs (ma 2) (ma 3) 217 217 (o_18.2 1) (o_18.2 2))) (wr := (x_pick (md_W cs ma o_18) [0, 1, 4, 5, 6])) (w1 := fun _ => cp_W cs (ma 2) (ma 3) 217 217 (o_18.2 1) (k_X6_copyState (o_18.2 1) (o_18.2 2) 0 0)) hE hP hD hS (k_rS (rest := []) (As := [.ref (ma 2), .int 0, .ref (ma 3), .int 0]) hE rfl (hc_36 H.size) (va_cwS 4 hts gX6_simulate_X6_copyState rfl rfl rfl (by decide +kernel) ⟨Nat.le_of_ble_eq_true rfl, Nat.le_of_ble_eq_true rfl⟩) hP hD hS rfl hl rfl (Nat.le_of_ble_eq_true rfl) ⟨Nat.le_of_ble_eq_true rfl, Nat.le_of_ble_eq_true rfl⟩ dX6_simulate_36) (fun _ H locs _ hP hD hS => ?_)
      have hP := hP.sub (ws' := md_W cs ma (m_r o_18 2 (k_X6_copyState (o_18.2 1) (o_18.2 2) 0 0))) [2, 3, 0, 1, 4, 5, 6] rfl
      have hD := hD.sub (ws' := md_W cs ma (m_r o_18 2 (k_X6_copyState (o_18.2 1) (o_18.2 2) 0 0))) [2, 3, 0, 1, 4, 5, 6] (by decide) rfl
      have hP : va_P D vwCl (md_W cs ma (m_r o_18 2 (k_X6_copyState (o_18.2 1) (o_18.2 2) 0 0))) H := hP
      have hD : va_D A (md_W cs ma (m_r o_18 2 (k_X6_copyState (o_18.2 1) (o_18.2 2) 0 0))) := hD
      refine lv_lload_n hx hb dX6_simulate_39 rfl (lv_at hl 1 rfl) ?_
      refine lv_lstore (lv' := [(4, .long vs), (0, .ref (ma 0)), (1, .long vs), (3, .int vn)]) hx hb dX6_simulate_40 hl (by decide) rfl (fun ls hl => ?_)
      refine lv_iconst (v := 0) hx hb dX6_simulate_42 (by decide) ?_
      refine lv_istore (lv' := [(6, .int 0), (4, .long vs), (0, .ref (ma 0)), (1, .long vs), (3, .int vn)]) hx hb dX6_simulate_43 hl (by decide) rfl (fun ls hl => ?_)
      exact L45 61 vs 0 (m_r o_18 2 (k_X6_copyState (o_18.2 1) (o_18.2 2) 0 0)) 0 (nI_0.symm) (rfl) (Nat.zero_le _) ((by first | exact (in_n (A := 1) (B := 60) rfl rfl c_10).2 | exact absurd (rfd_n e_18 c_21) (by decide))) (SI_cps (MO_rf e_18 hM).1) _ _ _ hS hP hD (lv_sub hl [2, 3, 4, 1, 0] rfl) hres
    · skip
      have c_21 : ¬ (r_18 = 0) := c_21
      rw [if_neg c_21] at hres
      refine lv_iconst (v := 0) hx hb dX6_simulate_24 (by decide) ?_
      subst hres
      exact kI_ret hE hS hP hD rfl rfl (Nat.le_of_ble_eq_true rfl) (Nat.le_of_ble_eq_true rfl) dX6_simulate_25
