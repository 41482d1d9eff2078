set_option maxHeartbeats 4000000 in
set_option maxRecDepth 100000 in
theorem c_X6_play (l : Launch) (D : va_G) (cs : Nat → ClassId) (sa : Nat) (sx : Nat → Int32) (hI : SI sx) : kV l yX6_play wsX6_play { frames := 3, cells := 0, slots := 0, locals := 67 } 0 0 D cs [.ref sa] (st_W cs sa sx) (fun (_ : Unit) => True) (fun _ => st_W cs sa (k_X6_play sx)) := by
  generalize hres : k_X6_play sx = res
  refine kV_of (cc := cX6_play) (maxL := 4) (ret := none) (by decide) rfl (Nat.le_of_ble_eq_true rfl) ?_
  intro p e s m below meth c A ls H locs hE hS hP hD hl
  obtain ⟨hx, hb, hr, hlocks, hml, hown, hts, hK, hA, hG, hnm⟩ := id hE
  have hown : s.vm.findClass RX6 = some m.cls := hown
  have hl : lv_has ls 4 [(0, .ref sa)] := hl
  have L138 : ∀ (n : Nat) (k : Int32) (acc : Int32) (xw : Nat → Int32) (j : Nat) (hi : k = nI j) (hj : j + 1 ≤ n) (hj2 : j ≤ 9) (hw : SI xw) (H : Heap) (locs : List Loc) (ls : Array Slot), va_S A s.heap H locs → va_P D vwCl (st_W cs sa xw) H → va_D A (st_W cs sa xw) → lv_has ls 4 [(0, .ref sa), (1, .int acc), (2, .int k)] → k_X6_play_L138 sx n k acc xw = res → W p l e { frames := 3, cells := 0, slots := 0, locals := 67 } s m ([.ref sa]).toArray below meth c H locs 0 0 (MQ below (va_Qv (fun (_ : Unit) => True) (kB D (fun _ => st_W cs sa res) A) A) ([.ref sa]).toArray s 0 0 A) (F0 m 138 ls []) := by
    intro n
    induction n with
    | zero =>
      intro k acc xw j hi hj hj2 hw H locs ls hS hP hD hl hres
      exact absurd hj (by omega)
    | succ n ih =>
      intro k acc xw j hi hj hj2 hw H locs ls hS hP hD hl hres
      unfold k_X6_play_L138 at hres
      refine lv_iload_n hx hb dX6_play_138 rfl (lv_at hl 2 rfl) ?_
      refine lv_if_le (tgt := 162) hx hb dX6_play_139 (by decide) (fun c_139 => ?_) (fun c_139 => ?_)
      · skip
        have c_139 : (k ≤ 0) := c_139
        rw [if_pos c_139] at hres
        refine lv_aload_n hx hb dX6_play_162 rfl (lv_at hl 0 rfl) ?_
        refine lv_bipush (v := 15) hx hb dX6_play_163 (by decide) ?_
        refine lv_iload_n hx hb dX6_play_165 rfl (lv_at hl 1 rfl) ?_
        refine k_iast hx hb hK hP hD hS 0 0 (k := 15) rfl rfl (k_inl rfl) rfl dX6_play_166 (fun H locs hP hD hS => ?_)
        have hP : va_P D vwCl (st_W cs sa (va_up xw 15 acc)) H := hP
        have hD : va_D A (st_W cs sa (va_up xw 15 acc)) := hD
        refine lv_aload_n hx hb dX6_play_167 rfl (lv_at hl 0 rfl) ?_
        refine lv_bipush (v := 7) hx hb dX6_play_168 (by decide) ?_
        refine lv_iload_n hx hb dX6_play_170 rfl (lv_at hl 1 rfl) ?_
        refine k_iast hx hb hK hP hD hS 0 0 (k := 7) rfl rfl (k_inl rfl) rfl dX6_play_171 (fun H locs hP hD hS => ?_)
        have hP : va_P D vwCl (st_W cs sa (va_up (va_up xw 15 acc) 7 acc)) H := hP
        have hD : va_D A (st_W cs sa (va_up (va_up xw 15 acc) 7 acc)) := hD
        refine lv_aload_n hx hb dX6_play_172 rfl (lv_at hl 0 rfl) ?_
        refine lv_bipush (v := 8) hx hb dX6_play_173 (by decide) ?_
        refine lv_iload_n hx hb dX6_play_175 rfl (lv_at hl 1 rfl) ?_
        refine lv_aload_n hx hb dX6_play_176 rfl (lv_at hl 0 rfl) ?_
        refine lv_bipush (v := 15) hx hb dX6_play_177 (by decide) ?_
        refine lv_aload_n hx hb dX6_play_179 rfl (lv_at hl 0 rfl) ?_
        refine lv_bipush (v := 13) hx hb dX6_play_180 (by decide) ?_
        refine k_iald hx hb hK hP 0 0 (v := (xw 13)) rfl rfl (k_inl rfl) rfl dX6_play_182 ?_
        refine lv_iadd hx hb dX6_play_183 ?_
        refine k_iald hx hb hK hP 0 0 (v := ((va_up (va_up xw 15 acc) 7 acc) ((15 + (xw 13)).toNatClampNeg))) rfl rfl (add_in (A := 15) rfl (by have := hw.2.2; show 0 ≤ 15 + (xw 13).toInt; omega) (by have := hw.2.2; show 15 + (xw 13).toInt < 217; omega) (by decide)) rfl dX6_play_184 ?_
        refine lv_ior hx hb dX6_play_185 ?_
        refine k_iast hx hb hK hP hD hS 0 0 (k := 8) rfl rfl (k_inl rfl) rfl dX6_play_186 (fun H locs hP hD hS => ?_)
        have hP : va_P D vwCl (st_W cs sa (va_up (va_up (va_up xw 15 acc) 7 acc) 8 (acc ||| ((va_up (va_up xw 15 acc) 7 acc) ((15 + (xw 13)).toNatClampNeg))))) H := hP
        have hD : va_D A (st_W cs sa (va_up (va_up (va_up xw 15 acc) 7 acc) 8 (acc ||| ((va_up (va_up xw 15 acc) 7 acc) ((15 + (xw 13)).toNatClampNeg))))) := hD
        subst hres
        exact kV_ret () hE hS hP hD trivial (Nat.le_of_ble_eq_true rfl) (Nat.le_of_ble_eq_true rfl) dX6_play_187
      · skip
        have c_139 : ¬ (k ≤ 0) := c_139
        rw [if_neg c_139] at hres
        have hkb : 0 < k.toInt ∧ k.toInt ≤ 9 := by have hc := c_139; rw [i_le] at hc; have e0 : (0 : Int32).toInt = 0 := rfl; rw [hi, nI_toInt (by omega)] at hc ⊢; omega
        have hj0 : 0 < j := by have h9 := hkb.1; rw [hi, nI_toInt (by omega)] at h9; omega
        refine lv_aload_n hx hb dX6_play_142 rfl (lv_at hl 0 rfl) ?_
        refine lv_bipush (v := 15) hx hb dX6_play_143 (by decide) ?_
        refine lv_iload_n hx hb dX6_play_145 rfl (lv_at hl 2 rfl) ?_
        refine lv_iadd hx hb dX6_play_146 ?_
        refine lv_aload_n hx hb dX6_play_147 rfl (lv_at hl 0 rfl) ?_
        refine lv_bipush (v := 15) hx hb dX6_play_148 (by decide) ?_
        refine lv_iload_n hx hb dX6_play_150 rfl (lv_at hl 2 rfl) ?_
        refine lv_iadd hx hb dX6_play_151 ?_
        refine lv_iconst (v := 1) hx hb dX6_play_152 (by decide) ?_
        refine lv_isub hx hb dX6_play_153 ?_
        refine k_iald hx hb hK hP 0 0 (v := (xw (((15 + k) - 1).toNatClampNeg))) rfl rfl (by rw [vp_in_iff, i_sub (by rw [i_add' (A := 15) rfl (by omega) (by omega)]; have e9 : (1 : Int32).toInt = 1 := rfl; omega) (by rw [i_add' (A := 15) rfl (by omega) (by omega)]; have e9 : (1 : Int32).toInt = 1 := rfl; omega), i_add' (A := 15) rfl (by omega) (by omega)]; have e9 : (1 : Int32).toInt = 1 := rfl; omega) rfl dX6_play_154 ?_
        refine k_iast hx hb hK hP hD hS 0 0 (k := (15 + k).toNatClampNeg) rfl rfl (add_in (A := 15) rfl (by omega) (by omega) (by decide)) rfl dX6_play_155 (fun H locs hP hD hS => ?_)
        have hP : va_P D vwCl (st_W cs sa (va_up xw ((15 + k).toNatClampNeg) (xw (((15 + k) - 1).toNatClampNeg)))) H := hP
        have hD : va_D A (st_W cs sa (va_up xw ((15 + k).toNatClampNeg) (xw (((15 + k) - 1).toNatClampNeg)))) := hD
        refine lv_iinc (v := (k + (-1))) (lv' := [(2, .int (k + (-1))), (0, .ref sa), (1, .int acc)]) hx hb dX6_play_156 hl (k := 2) rfl (by rfl) (by decide) rfl (fun ls hl => ?_)
        refine lv_goto (tgt := 138) hx hb dX6_play_159 (by decide) ?_
        exact ih (k + (-1)) acc (va_up xw ((15 + k).toNatClampNeg) (xw (((15 + k) - 1).toNatClampNeg))) (j - 1) (by rw [hi]; exact nI_decr hj0) (by omega) (by omega) (SI_upc hw (by rw [i_add' (A := 15) rfl (by omega) (by omega)]; omega)) _ _ _ hS hP hD (lv_sub hl [1, 2, 0] rfl) hres
  have L4 : ∀ (n : Nat) (i : Int32) (acc : Int32) (xw : Nat → Int32) (j : Nat) (hi : i = nI j) (hj : j + n = 7) (hj2 : j ≤ 6) (hw : SI xw) (H : Heap) (locs : List Loc) (ls : Array Slot), va_S A s.heap H locs → va_P D vwCl (st_W cs sa xw) H → va_D A (st_W cs sa xw) → lv_has ls 4 [(0, .ref sa), (1, .int acc), (2, .int i)] → k_X6_play_L4 sx n i acc xw = res → W p l e { frames := 3, cells := 0, slots := 0, locals := 67 } s m ([.ref sa]).toArray below meth c H locs 0 0 (MQ below (va_Qv (fun (_ : Unit) => True) (kB D (fun _ => st_W cs sa res) A) A) ([.ref sa]).toArray s 0 0 A) (F0 m 4 ls []) := by
    intro n
    induction n with
    | zero =>
      intro i acc xw j hi hj hj2 hw H locs ls hS hP hD hl hres
      exact absurd hj2 (by omega)
    | succ n ih =>
      intro i acc xw j hi hj hj2 hw H locs ls hS hP hD hl hres
      unfold k_X6_play_L4 at hres
      refine lv_iload_n hx hb dX6_play_4 rfl (lv_at hl 2 rfl) ?_
      refine lv_bipush (v := 6) hx hb dX6_play_5 (by decide) ?_
      refine lv_icmp_ge (tgt := 135) hx hb dX6_play_7 (by decide) (fun c_7 => ?_) (fun c_7 => ?_)
      · skip
        have c_7 : (6 ≤ i) := c_7
        rw [if_pos c_7] at hres
        refine lv_bipush (v := 9) hx hb dX6_play_135 (by decide) ?_
        refine lv_istore_n (lv' := [(2, .int 9), (0, .ref sa), (1, .int acc)]) hx hb dX6_play_137 rfl hl (by decide) rfl (fun ls hl => ?_)
        exact L138 10 9 acc xw 9 (rfl) (Nat.le_refl _) (Nat.le_refl _) (hw) _ _ _ hS hP hD (lv_sub hl [1, 2, 0] rfl) hres
      · skip
        have c_7 : ¬ (6 ≤ i) := c_7
        rw [if_neg c_7] at hres
        refine lv_aload_n hx hb dX6_play_10 rfl (lv_at hl 0 rfl) ?_
        refine lv_iload_n hx hb dX6_play_11 rfl (lv_at hl 2 rfl) ?_
        have hP : va_P D vwCl ((st_W cs sa xw) ++ []) H := k_nP hP
        have hD : va_D A ((st_W cs sa xw) ++ []) := k_nD hD
        have hc_12 := c_X6_isOpen l D cs sa xw i hw
        refine kI_call (wc := (st_W cs sa xw)) (wr := []) (w1 := st_W cs sa xw) (r := (k_X6_isOpen xw i)) hE hP hD hS (k_rS (rest := []) (As := [.ref sa, .int i]) hE rfl (hc_12 H.size) (va_cwS 2 hts gX6_play_X6_isOpen rfl rfl rfl (by decide +kernel) ⟨Nat.le_of_ble_eq_true rfl, Nat.le_of_ble_eq_true rfl⟩) hP hD hS rfl hl rfl (Nat.le_of_ble_eq_true rfl) ⟨Nat.le_of_ble_eq_true rfl, Nat.le_of_ble_eq_true rfl⟩ dX6_play_12) (fun H locs hP hD hS => ?_)
        have hP := k_uP hP
        have hD := k_uD hD
        have hP : va_P D vwCl (st_W cs sa xw) H := hP
        have hD : va_D A (st_W cs sa xw) := hD
        refine lv_if_eq (tgt := 129) hx hb dX6_play_15 (by decide) (fun c_15 => ?_) (fun c_15 => ?_)
        · skip
          have c_15 : ((k_X6_isOpen xw i) = 0) := c_15
          rw [if_pos c_15] at hres
          refine lv_iinc (v := (i + 1)) (lv' := [(2, .int (i + 1)), (0, .ref sa), (1, .int acc)]) hx hb dX6_play_129 hl (k := 2) rfl (by rfl) (by decide) rfl (fun ls hl => ?_)
          refine lv_goto (tgt := 4) hx hb dX6_play_132 (by decide) ?_
          exact ih (i + 1) acc xw (j + 1) (by rw [hi, nI_1]) (by omega) (nI_lts hi (by omega) (by decide) c_7) (by first | exact hw | (rw [← e_128, ← e_110, ← e_92]; exact SI_upc (SI_upc (SI_up (SI_up (SI_up hw (by decide) (by decide) (by decide)) (by decide) (by decide) (by decide)) (by decide) (by decide) (by decide)) (by rw [i_add' (A := 25) rfl (by rw [hi, nI_toInt (by omega)]; omega) (by rw [hi, nI_toInt (by omega)]; omega)]; rw [hi, nI_toInt (by omega)]; omega)) (by rw [i_add' (A := 31) rfl (by rw [hi, nI_toInt (by omega)]; omega) (by rw [hi, nI_toInt (by omega)]; omega)]; rw [hi, nI_toInt (by omega)]; omega))) _ _ _ hS hP hD (lv_sub hl [1, 2, 0] rfl) hres
        · skip
          have c_15 : ¬ ((k_X6_isOpen xw i) = 0) := c_15
          rw [if_neg c_15] at hres
          refine lv_aload_n hx hb dX6_play_18 rfl (lv_at hl 0 rfl) ?_
          refine lv_bipush (v := 6) hx hb dX6_play_19 (by decide) ?_
          refine k_iald hx hb hK hP 0 0 (v := (xw 6)) rfl rfl (k_inl rfl) rfl dX6_play_21 ?_
          refine lv_if_le (tgt := 29) hx hb dX6_play_22 (by decide) (fun c_22 => ?_) (fun c_22 => ?_)
          · skip
            have c_22 : ((xw 6) ≤ 0) := c_22
            rw [if_pos c_22] at hres
            refine lv_iconst (v := 0) hx hb dX6_play_29 (by decide) ?_
            refine lv_istore_n (lv' := [(3, .int 0), (0, .ref sa), (1, .int acc), (2, .int i)]) hx hb dX6_play_30 rfl hl (by decide) rfl (fun ls hl => ?_)
            refine lv_iload_n hx hb dX6_play_31 rfl (lv_at hl 2 rfl) ?_
            refine lv_iload_n hx hb dX6_play_32 rfl (lv_at hl 0 rfl) ?_
            refine lv_if_eq (tgt := 42) hx hb dX6_play_33 (by decide) (fun c_33 => ?_) (fun c_33 => ?_)
            · skip
              have c_33 : ((0 : Int32) = 0) := c_33
              refine lv_iconst (v := 0) hx hb dX6_play_42 (by decide) ?_
              refine lv_ior hx hb dX6_play_43 ?_
              refine lv_istore_n (lv' := [(1, .int (acc ||| 0)), (3, .int 0), (0, .ref sa), (2, .int i)]) hx hb dX6_play_44 rfl hl (by decide) rfl (fun ls hl => ?_)
              refine lv_aload_n hx hb dX6_play_45 rfl (lv_at hl 2 rfl) ?_
              refine lv_bipush (v := 6) hx hb dX6_play_46 (by decide) ?_
              refine lv_dup2_11 hx hb dX6_play_48 rfl rfl ?_
              refine k_iald hx hb hK hP 0 0 (v := (xw 6)) rfl rfl (k_inl rfl) rfl dX6_play_49 ?_
              refine lv_iload_n hx hb dX6_play_50 rfl (lv_at hl 1 rfl) ?_
              refine lv_if_eq (tgt := 58) hx hb dX6_play_51 (by decide) (fun c_51 => ?_) (fun c_51 => ?_)
              · skip
                have c_51 : ((0 : Int32) = 0) := c_51
                refine lv_iconst (v := 0) hx hb dX6_play_58 (by decide) ?_
                refine lv_isub hx hb dX6_play_59 ?_
                refine k_iast hx hb hK hP hD hS 0 0 (k := 6) rfl rfl (k_inl rfl) rfl dX6_play_60 (fun H locs hP hD hS => ?_)
                have hP : va_P D vwCl (st_W cs sa (va_up xw 6 ((xw 6) - 0))) H := hP
                have hD : va_D A (st_W cs sa (va_up xw 6 ((xw 6) - 0))) := hD
                refine lv_aload_n hx hb dX6_play_61 rfl (lv_at hl 2 rfl) ?_
                refine lv_bipush (v := 9) hx hb dX6_play_62 (by decide) ?_
                refine lv_dup2_11 hx hb dX6_play_64 rfl rfl ?_
                refine k_iald hx hb hK hP 0 0 (v := (xw 9)) rfl rfl (k_inl rfl) rfl dX6_play_65 ?_
                refine lv_iload_n hx hb dX6_play_66 rfl (lv_at hl 1 rfl) ?_
                refine lv_if_eq (tgt := 74) hx hb dX6_play_67 (by decide) (fun c_67 => ?_) (fun c_67 => ?_)
                · skip
                  have c_67 : ((0 : Int32) = 0) := c_67
                  refine lv_iconst (v := 0) hx hb dX6_play_74 (by decide) ?_
                  refine lv_iadd hx hb dX6_play_75 ?_
                  refine k_iast hx hb hK hP hD hS 0 0 (k := 9) rfl rfl (k_inl rfl) rfl dX6_play_76 (fun H locs hP hD hS => ?_)
                  have hP : va_P D vwCl (st_W cs sa (va_up (va_up xw 6 ((xw 6) - 0)) 9 ((xw 9) + 0))) H := hP
                  have hD : va_D A (st_W cs sa (va_up (va_up xw 6 ((xw 6) - 0)) 9 ((xw 9) + 0))) := hD
                  refine lv_aload_n hx hb dX6_play_77 rfl (lv_at hl 2 rfl) ?_
                  refine lv_bipush (v := 10) hx hb dX6_play_78 (by decide) ?_
                  refine lv_dup2_11 hx hb dX6_play_80 rfl rfl ?_
                  refine k_iald hx hb hK hP 0 0 (v := (xw 10)) rfl rfl (k_inl rfl) rfl dX6_play_81 ?_
                  refine lv_iload_n hx hb dX6_play_82 rfl (lv_at hl 1 rfl) ?_
                  refine lv_if_eq (tgt := 90) hx hb dX6_play_83 (by decide) (fun c_83 => ?_) (fun c_83 => ?_)
                  · skip
                    have c_83 : ((0 : Int32) = 0) := c_83
                    refine lv_iconst (v := 1) hx hb dX6_play_90 (by decide) ?_
                    refine lv_iadd hx hb dX6_play_91 ?_
                    refine k_iast hx hb hK hP hD hS 0 0 (k := 10) rfl rfl (k_inl rfl) rfl dX6_play_92 (fun H locs hP hD hS => ?_)
                    have hP : va_P D vwCl (st_W cs sa (va_up (va_up (va_up xw 6 ((xw 6) - 0)) 9 ((xw 9) + 0)) 10 ((xw 10) + 1))) H := hP
                    have hD : va_D A (st_W cs sa (va_up (va_up (va_up xw 6 ((xw 6) - 0)) 9 ((xw 9) + 0)) 10 ((xw 10) + 1))) := hD
                    generalize e_92 : (va_up (va_up (va_up xw 6 ((xw 6) - 0)) 9 ((xw 9) + 0)) 10 ((xw 10) + 1)) = x_92 at hP hD hres
                    have hres := (kbind_eq _ _).symm.trans hres
                    refine lv_aload_n hx hb dX6_play_93 rfl (lv_at hl 2 rfl) ?_
                    refine lv_bipush (v := 25) hx hb dX6_play_94 (by decide) ?_
                    refine lv_iload_n hx hb dX6_play_96 rfl (lv_at hl 3 rfl) ?_
                    refine lv_iadd hx hb dX6_play_97 ?_
                    refine lv_dup2_11 hx hb dX6_play_98 rfl rfl ?_
                    refine k_iald hx hb hK hP 0 0 (v := (x_92 ((25 + i).toNatClampNeg))) rfl rfl (by have hj7 := nI_lts (N := 6) hi (by omega) (by decide) c_7; exact add_in (A := 25) rfl (by rw [hi, nI_toInt (by omega)]; omega) (by rw [hi, nI_toInt (by omega)]; omega) (by decide)) rfl dX6_play_99 ?_
                    refine lv_iload_n hx hb dX6_play_100 rfl (lv_at hl 1 rfl) ?_
                    refine lv_if_eq (tgt := 108) hx hb dX6_play_101 (by decide) (fun c_101 => ?_) (fun c_101 => ?_)
                    · skip
                      have c_101 : ((0 : Int32) = 0) := c_101
                      refine lv_iconst (v := 0) hx hb dX6_play_108 (by decide) ?_
                      refine lv_iadd hx hb dX6_play_109 ?_
                      refine k_iast hx hb hK hP hD hS 0 0 (k := (25 + i).toNatClampNeg) rfl rfl (by have hj7 := nI_lts (N := 6) hi (by omega) (by decide) c_7; exact add_in (A := 25) rfl (by rw [hi, nI_toInt (by omega)]; omega) (by rw [hi, nI_toInt (by omega)]; omega) (by decide)) rfl dX6_play_110 (fun H locs hP hD hS => ?_)
                      have hP : va_P D vwCl (st_W cs sa (va_up x_92 ((25 + i).toNatClampNeg) ((x_92 ((25 + i).toNatClampNeg)) + 0))) H := hP
                      have hD : va_D A (st_W cs sa (va_up x_92 ((25 + i).toNatClampNeg) ((x_92 ((25 + i).toNatClampNeg)) + 0))) := hD
                      generalize e_110 : (va_up x_92 ((25 + i).toNatClampNeg) ((x_92 ((25 + i).toNatClampNeg)) + 0)) = x_110 at hP hD hres
                      have hres := (kbind_eq _ _).symm.trans hres
                      refine lv_aload_n hx hb dX6_play_111 rfl (lv_at hl 2 rfl) ?_
                      refine lv_bipush (v := 31) hx hb dX6_play_112 (by decide) ?_
                      refine lv_iload_n hx hb dX6_play_114 rfl (lv_at hl 3 rfl) ?_
                      refine lv_iadd hx hb dX6_play_115 ?_
                      refine lv_dup2_11 hx hb dX6_play_116 rfl rfl ?_
                      refine k_iald hx hb hK hP 0 0 (v := (x_110 ((31 + i).toNatClampNeg))) rfl rfl (by have hj7 := nI_lts (N := 6) hi (by omega) (by decide) c_7; exact add_in (A := 31) rfl (by rw [hi, nI_toInt (by omega)]; omega) (by rw [hi, nI_toInt (by omega)]; omega) (by decide)) rfl dX6_play_117 ?_
                      refine lv_iload_n hx hb dX6_play_118 rfl (lv_at hl 1 rfl) ?_
                      refine lv_if_eq (tgt := 126) hx hb dX6_play_119 (by decide) (fun c_119 => ?_) (fun c_119 => ?_)
                      · skip
                        have c_119 : ((0 : Int32) = 0) := c_119
                        refine lv_iconst (v := 1) hx hb dX6_play_126 (by decide) ?_
                        refine lv_iadd hx hb dX6_play_127 ?_
                        refine k_iast hx hb hK hP hD hS 0 0 (k := (31 + i).toNatClampNeg) rfl rfl (by have hj7 := nI_lts (N := 6) hi (by omega) (by decide) c_7; exact add_in (A := 31) rfl (by rw [hi, nI_toInt (by omega)]; omega) (by rw [hi, nI_toInt (by omega)]; omega) (by decide)) rfl dX6_play_128 (fun H locs hP hD hS => ?_)
                        have hP : va_P D vwCl (st_W cs sa (va_up x_110 ((31 + i).toNatClampNeg) ((x_110 ((31 + i).toNatClampNeg)) + 1))) H := hP
                        have hD : va_D A (st_W cs sa (va_up x_110 ((31 + i).toNatClampNeg) ((x_110 ((31 + i).toNatClampNeg)) + 1))) := hD
                        generalize e_128 : (va_up x_110 ((31 + i).toNatClampNeg) ((x_110 ((31 + i).toNatClampNeg)) + 1)) = x_128 at hP hD hres
                        have hres := (kbind_eq _ _).symm.trans hres
                        refine lv_iinc (v := (i + 1)) (lv' := [(2, .int (i + 1)), (1, .int (acc ||| 0)), (3, .int 0), (0, .ref sa)]) hx hb dX6_play_129 hl (k := 3) rfl (by rfl) (by decide) rfl (fun ls hl => ?_)
                        refine lv_goto (tgt := 4) hx hb dX6_play_132 (by decide) ?_
                        exact ih (i + 1) (acc ||| 0) x_128 (j + 1) (by rw [hi, nI_1]) (by omega) (nI_lts hi (by omega) (by decide) c_7) (by first | exact hw | (rw [← e_128, ← e_110, ← e_92]; exact SI_upc (SI_upc (SI_up (SI_up (SI_up hw (by decide) (by decide) (by decide)) (by decide) (by decide) (by decide)) (by decide) (by decide) (by decide)) (by rw [i_add' (A := 25) rfl (by rw [hi, nI_toInt (by omega)]; omega) (by rw [hi, nI_toInt (by omega)]; omega)]; rw [hi, nI_toInt (by omega)]; omega)) (by rw [i_add' (A := 31) rfl (by rw [hi, nI_toInt (by omega)]; omega) (by rw [hi, nI_toInt (by omega)]; omega)]; rw [hi, nI_toInt (by omega)]; omega))) _ _ _ hS hP hD (lv_sub hl [3, 1, 0] rfl) hres
                      · skip
                        exact absurd c_119 (by decide)
                    · skip
                      exact absurd c_101 (by decide)
                  · skip
                    exact absurd c_83 (by decide)
                · skip
                  exact absurd c_67 (by decide)
              · skip
                exact absurd c_51 (by decide)
            · skip
              exact absurd c_33 (by decide)
          · skip
            have c_22 : ¬ ((xw 6) ≤ 0) := c_22
            rw [if_neg c_22] at hres
            refine lv_iconst (v := 1) hx hb dX6_play_25 (by decide) ?_
            refine lv_goto (tgt := 30) hx hb dX6_play_26 (by decide) ?_
            refine lv_istore_n (lv' := [(3, .int 1), (0, .ref sa), (1, .int acc), (2, .int i)]) hx hb dX6_play_30 rfl hl (by decide) rfl (fun ls hl => ?_)
            refine lv_iload_n hx hb dX6_play_31 rfl (lv_at hl 2 rfl) ?_
            refine lv_iload_n hx hb dX6_play_32 rfl (lv_at hl 0 rfl) ?_
            refine lv_if_eq (tgt := 42) hx hb dX6_play_33 (by decide) (fun c_33 => ?_) (fun c_33 => ?_)
            · skip
              exact absurd c_33 (by decide)
            · skip
              have c_33 : ¬ ((1 : Int32) = 0) := c_33
              refine lv_iconst (v := 1) hx hb dX6_play_36 (by decide) ?_
              refine lv_iload_n hx hb dX6_play_37 rfl (lv_at hl 3 rfl) ?_
              refine lv_ishl hx hb dX6_play_38 ?_
              refine lv_goto (tgt := 43) hx hb dX6_play_39 (by decide) ?_
              refine lv_ior hx hb dX6_play_43 ?_
              refine lv_istore_n (lv' := [(1, .int (acc ||| ((1 : Int32) <<< (i &&& 31)))), (3, .int 1), (0, .ref sa), (2, .int i)]) hx hb dX6_play_44 rfl hl (by decide) rfl (fun ls hl => ?_)
              refine lv_aload_n hx hb dX6_play_45 rfl (lv_at hl 2 rfl) ?_
              refine lv_bipush (v := 6) hx hb dX6_play_46 (by decide) ?_
              refine lv_dup2_11 hx hb dX6_play_48 rfl rfl ?_
              refine k_iald hx hb hK hP 0 0 (v := (xw 6)) rfl rfl (k_inl rfl) rfl dX6_play_49 ?_
              refine lv_iload_n hx hb dX6_play_50 rfl (lv_at hl 1 rfl) ?_
              refine lv_if_eq (tgt := 58) hx hb dX6_play_51 (by decide) (fun c_51 => ?_) (fun c_51 => ?_)
              · skip
                exact absurd c_51 (by decide)
              · skip
                have c_51 : ¬ ((1 : Int32) = 0) := c_51
                refine lv_iconst (v := 1) hx hb dX6_play_54 (by decide) ?_
                refine lv_goto (tgt := 59) hx hb dX6_play_55 (by decide) ?_
                refine lv_isub hx hb dX6_play_59 ?_
                refine k_iast hx hb hK hP hD hS 0 0 (k := 6) rfl rfl (k_inl rfl) rfl dX6_play_60 (fun H locs hP hD hS => ?_)
                have hP : va_P D vwCl (st_W cs sa (va_up xw 6 ((xw 6) - 1))) H := hP
                have hD : va_D A (st_W cs sa (va_up xw 6 ((xw 6) - 1))) := hD
                refine lv_aload_n hx hb dX6_play_61 rfl (lv_at hl 2 rfl) ?_
                refine lv_bipush (v := 9) hx hb dX6_play_62 (by decide) ?_
                refine lv_dup2_11 hx hb dX6_play_64 rfl rfl ?_
                refine k_iald hx hb hK hP 0 0 (v := (xw 9)) rfl rfl (k_inl rfl) rfl dX6_play_65 ?_
                refine lv_iload_n hx hb dX6_play_66 rfl (lv_at hl 1 rfl) ?_
                refine lv_if_eq (tgt := 74) hx hb dX6_play_67 (by decide) (fun c_67 => ?_) (fun c_67 => ?_)
                · skip
                  exact absurd c_67 (by decide)
                · skip
                  have c_67 : ¬ ((1 : Int32) = 0) := c_67
                  refine lv_iconst (v := 1) hx hb dX6_play_70 (by decide) ?_
                  refine lv_goto (tgt := 75) hx hb dX6_play_71 (by decide) ?_
                  refine lv_iadd hx hb dX6_play_75 ?_
                  refine k_iast hx hb hK hP hD hS 0 0 (k := 9) rfl rfl (k_inl rfl) rfl dX6_play_76 (fun H locs hP hD hS => ?_)
                  have hP : va_P D vwCl (st_W cs sa (va_up (va_up xw 6 ((xw 6) - 1)) 9 ((xw 9) + 1))) H := hP
                  have hD : va_D A (st_W cs sa (va_up (va_up xw 6 ((xw 6) - 1)) 9 ((xw 9) + 1))) := hD
                  refine lv_aload_n hx hb dX6_play_77 rfl (lv_at hl 2 rfl) ?_
                  refine lv_bipush (v := 10) hx hb dX6_play_78 (by decide) ?_
                  refine lv_dup2_11 hx hb dX6_play_80 rfl rfl ?_
                  refine k_iald hx hb hK hP 0 0 (v := (xw 10)) rfl rfl (k_inl rfl) rfl dX6_play_81 ?_
                  refine lv_iload_n hx hb dX6_play_82 rfl (lv_at hl 1 rfl) ?_
                  refine lv_if_eq (tgt := 90) hx hb dX6_play_83 (by decide) (fun c_83 => ?_) (fun c_83 => ?_)
                  · skip
                    exact absurd c_83 (by decide)
                  · skip
                    have c_83 : ¬ ((1 : Int32) = 0) := c_83
                    refine lv_iconst (v := 0) hx hb dX6_play_86 (by decide) ?_
                    refine lv_goto (tgt := 91) hx hb dX6_play_87 (by decide) ?_
                    refine lv_iadd hx hb dX6_play_91 ?_
                    refine k_iast hx hb hK hP hD hS 0 0 (k := 10) rfl rfl (k_inl rfl) rfl dX6_play_92 (fun H locs hP hD hS => ?_)
                    have hP : va_P D vwCl (st_W cs sa (va_up (va_up (va_up xw 6 ((xw 6) - 1)) 9 ((xw 9) + 1)) 10 ((xw 10) + 0))) H := hP
                    have hD : va_D A (st_W cs sa (va_up (va_up (va_up xw 6 ((xw 6) - 1)) 9 ((xw 9) + 1)) 10 ((xw 10) + 0))) := hD
                    generalize e_92 : (va_up (va_up (va_up xw 6 ((xw 6) - 1)) 9 ((xw 9) + 1)) 10 ((xw 10) + 0)) = x_92 at hP hD hres
                    have hres := (kbind_eq _ _).symm.trans hres
                    refine lv_aload_n hx hb dX6_play_93 rfl (lv_at hl 2 rfl) ?_
                    refine lv_bipush (v := 25) hx hb dX6_play_94 (by decide) ?_
                    refine lv_iload_n hx hb dX6_play_96 rfl (lv_at hl 3 rfl) ?_
                    refine lv_iadd hx hb dX6_play_97 ?_
                    refine lv_dup2_11 hx hb dX6_play_98 rfl rfl ?_
                    refine k_iald hx hb hK hP 0 0 (v := (x_92 ((25 + i).toNatClampNeg))) rfl rfl (by have hj7 := nI_lts (N := 6) hi (by omega) (by decide) c_7; exact add_in (A := 25) rfl (by rw [hi, nI_toInt (by omega)]; omega) (by rw [hi, nI_toInt (by omega)]; omega) (by decide)) rfl dX6_play_99 ?_
                    refine lv_iload_n hx hb dX6_play_100 rfl (lv_at hl 1 rfl) ?_
                    refine lv_if_eq (tgt := 108) hx hb dX6_play_101 (by decide) (fun c_101 => ?_) (fun c_101 => ?_)
                    · skip
                      exact absurd c_101 (by decide)
                    · skip
                      have c_101 : ¬ ((1 : Int32) = 0) := c_101
                      refine lv_iconst (v := 1) hx hb dX6_play_104 (by decide) ?_
                      refine lv_goto (tgt := 109) hx hb dX6_play_105 (by decide) ?_
                      refine lv_iadd hx hb dX6_play_109 ?_
                      refine k_iast hx hb hK hP hD hS 0 0 (k := (25 + i).toNatClampNeg) rfl rfl (by have hj7 := nI_lts (N := 6) hi (by omega) (by decide) c_7; exact add_in (A := 25) rfl (by rw [hi, nI_toInt (by omega)]; omega) (by rw [hi, nI_toInt (by omega)]; omega) (by decide)) rfl dX6_play_110 (fun H locs hP hD hS => ?_)
                      have hP : va_P D vwCl (st_W cs sa (va_up x_92 ((25 + i).toNatClampNeg) ((x_92 ((25 + i).toNatClampNeg)) + 1))) H := hP
                      have hD : va_D A (st_W cs sa (va_up x_92 ((25 + i).toNatClampNeg) ((x_92 ((25 + i).toNatClampNeg)) + 1))) := hD
                      generalize e_110 : (va_up x_92 ((25 + i).toNatClampNeg) ((x_92 ((25 + i).toNatClampNeg)) + 1)) = x_110 at hP hD hres
                      have hres := (kbind_eq _ _).symm.trans hres
                      refine lv_aload_n hx hb dX6_play_111 rfl (lv_at hl 2 rfl) ?_
                      refine lv_bipush (v := 31) hx hb dX6_play_112 (by decide) ?_
                      refine lv_iload_n hx hb dX6_play_114 rfl (lv_at hl 3 rfl) ?_
                      refine lv_iadd hx hb dX6_play_115 ?_
                      refine lv_dup2_11 hx hb dX6_play_116 rfl rfl ?_
                      refine k_iald hx hb hK hP 0 0 (v := (x_110 ((31 + i).toNatClampNeg))) rfl rfl (by have hj7 := nI_lts (N := 6) hi (by omega) (by decide) c_7; exact add_in (A := 31) rfl (by rw [hi, nI_toInt (by omega)]; omega) (by rw [hi, nI_toInt (by omega)]; omega) (by decide)) rfl dX6_play_117 ?_
                      refine lv_iload_n hx hb dX6_play_118 rfl (lv_at hl 1 rfl) ?_
                      refine lv_if_eq (tgt := 126) hx hb dX6_play_119 (by decide) (fun c_119 => ?_) (fun c_119 => ?_)
                      · skip
                        exact absurd c_119 (by decide)
                      · skip
                        have c_119 : ¬ ((1 : Int32) = 0) := c_119
                        refine lv_iconst (v := 0) hx hb dX6_play_122 (by decide) ?_
                        refine lv_goto (tgt := 127) hx hb dX6_play_123 (by decide) ?_
                        refine lv_iadd hx hb dX6_play_127 ?_
                        refine k_iast hx hb hK hP hD hS 0 0 (k := (31 + i).toNatClampNeg) rfl rfl (by have hj7 := nI_lts (N := 6) hi (by omega) (by decide) c_7; exact add_in (A := 31) rfl (by rw [hi, nI_toInt (by omega)]; omega) (by rw [hi, nI_toInt (by omega)]; omega) (by decide)) rfl dX6_play_128 (fun H locs hP hD hS => ?_)
                        have hP : va_P D vwCl (st_W cs sa (va_up x_110 ((31 + i).toNatClampNeg) ((x_110 ((31 + i).toNatClampNeg)) + 0))) H := hP
                        have hD : va_D A (st_W cs sa (va_up x_110 ((31 + i).toNatClampNeg) ((x_110 ((31 + i).toNatClampNeg)) + 0))) := hD
                        generalize e_128 : (va_up x_110 ((31 + i).toNatClampNeg) ((x_110 ((31 + i).toNatClampNeg)) + 0)) = x_128 at hP hD hres
                        have hres := (kbind_eq _ _).symm.trans hres
                        refine lv_iinc (v := (i + 1)) (lv' := [(2, .int (i + 1)), (1, .int (acc ||| ((1 : Int32) <<< (i &&& 31)))), (3, .int 1), (0, .ref sa)]) hx hb dX6_play_129 hl (k := 3) rfl (by rfl) (by decide) rfl (fun ls hl => ?_)
                        refine lv_goto (tgt := 4) hx hb dX6_play_132 (by decide) ?_
                        exact ih (i + 1) (acc ||| ((1 : Int32) <<< (i &&& 31))) x_128 (j + 1) (by rw [hi, nI_1]) (by omega) (nI_lts hi (by omega) (by decide) c_7) (by first | exact hw | (rw [← e_128, ← e_110, ← e_92]; exact SI_upc (SI_upc (SI_up (SI_up (SI_up hw (by decide) (by decide) (by decide)) (by decide) (by decide) (by decide)) (by decide) (by decide) (by decide)) (by rw [i_add' (A := 25) rfl (by rw [hi, nI_toInt (by omega)]; omega) (by rw [hi, nI_toInt (by omega)]; omega)]; rw [hi, nI_toInt (by omega)]; omega)) (by rw [i_add' (A := 31) rfl (by rw [hi, nI_toInt (by omega)]; omega) (by rw [hi, nI_toInt (by omega)]; omega)]; rw [hi, nI_toInt (by omega)]; omega))) _ _ _ hS hP hD (lv_sub hl [3, 1, 0] rfl) hres
  unfold k_X6_play at hres
  refine lv_iconst (v := 0) hx hb dX6_play_0 (by decide) ?_
  refine lv_istore_n (lv' := [(1, .int 0), (0, .ref sa)]) hx hb dX6_play_1 rfl hl (by decide) rfl (fun ls hl => ?_)
  refine lv_iconst (v := 0) hx hb dX6_play_2 (by decide) ?_
  refine lv_istore_n (lv' := [(2, .int 0), (1, .int 0), (0, .ref sa)]) hx hb dX6_play_3 rfl hl (by decide) rfl (fun ls hl => ?_)
  exact L4 7 0 0 sx 0 (nI_0.symm) (rfl) (Nat.zero_le _) (hI) _ _ _ hS hP hD (lv_sub hl [2, 1, 0] rfl) hres
set_option maxHeartbeats 4000000 in
set_option maxRecDepth 100000 in
theorem c_X6_tick (l : Launch) (D : va_G) (cs : Nat → ClassId) (sa : Nat) (sx : Nat → Int32) (hI : SI sx) : kV l yX6_tick wsX6_tick { frames := 5, cells := 0, slots := 0, locals := 115 } 0 0 D cs [.ref sa] (st_W cs sa sx) (fun (_ : Unit) => True) (fun _ => st_W cs sa (k_X6_tick sx)) := by
  generalize hres : k_X6_tick sx = res
  refine kV_of (cc := cX6_tick) (maxL := 2) (ret := none) (by decide) rfl (Nat.le_of_ble_eq_true rfl) ?_
  intro p e s m below meth c A ls H locs hE hS hP hD hl
  obtain ⟨hx, hb, hr, hlocks, hml, hown, hts, hK, hA, hG, hnm⟩ := id hE
  have hown : s.vm.findClass RX6 = some m.cls := hown
  have hl : lv_has ls 2 [(0, .ref sa)] := hl
  unfold k_X6_tick at hres
  refine lv_aload_n hx hb dX6_tick_0 rfl (lv_at hl 0 rfl) ?_
  refine lv_iconst (v := 2) hx hb dX6_tick_1 (by decide) ?_
  refine lv_dup2_11 hx hb dX6_tick_2 rfl rfl ?_
  refine k_iald hx hb hK hP 0 0 (v := (sx 2)) rfl rfl (k_inl rfl) rfl dX6_tick_3 ?_
  refine lv_iconst (v := 1) hx hb dX6_tick_4 (by decide) ?_
  refine lv_iadd hx hb dX6_tick_5 ?_
  refine k_iast hx hb hK hP hD hS 0 0 (k := 2) rfl rfl (k_inl rfl) rfl dX6_tick_6 (fun H locs hP hD hS => ?_)
  have hP : va_P D vwCl (st_W cs sa (va_up sx 2 ((sx 2) + 1))) H := hP
  have hD : va_D A (st_W cs sa (va_up sx 2 ((sx 2) + 1))) := hD
  refine lv_aload_n hx hb dX6_tick_7 rfl (lv_at hl 0 rfl) ?_
  refine lv_iconst (v := 3) hx hb dX6_tick_8 (by decide) ?_
  refine lv_dup2_11 hx hb dX6_tick_9 rfl rfl ?_
  refine k_iald hx hb hK hP 0 0 (v := (sx 3)) rfl rfl (k_inl rfl) rfl dX6_tick_10 ?_
  refine lv_aload_n hx hb dX6_tick_11 rfl (lv_at hl 0 rfl) ?_
  refine lv_bipush (v := 12) hx hb dX6_tick_12 (by decide) ?_
  refine k_iald hx hb hK hP 0 0 (v := (sx 12)) rfl rfl (k_inl rfl) rfl dX6_tick_14 ?_
  refine lv_iadd hx hb dX6_tick_15 ?_
  refine k_iast hx hb hK hP hD hS 0 0 (k := 3) rfl rfl (k_inl rfl) rfl dX6_tick_16 (fun H locs hP hD hS => ?_)
  have hP : va_P D vwCl (st_W cs sa (va_up (va_up sx 2 ((sx 2) + 1)) 3 ((sx 3) + (sx 12)))) H := hP
  have hD : va_D A (st_W cs sa (va_up (va_up sx 2 ((sx 2) + 1)) 3 ((sx 3) + (sx 12)))) := hD
  refine lv_aload_n hx hb dX6_tick_17 rfl (lv_at hl 0 rfl) ?_
  refine lv_iconst (v := 4) hx hb dX6_tick_18 (by decide) ?_
  refine lv_dup2_11 hx hb dX6_tick_19 rfl rfl ?_
  refine k_iald hx hb hK hP 0 0 (v := (sx 4)) rfl rfl (k_inl rfl) rfl dX6_tick_20 ?_
  refine lv_aload_n hx hb dX6_tick_21 rfl (lv_at hl 0 rfl) ?_
  refine lv_iconst (v := 3) hx hb dX6_tick_22 (by decide) ?_
  refine k_iald hx hb hK hP 0 0 (v := ((sx 3) + (sx 12))) rfl rfl (k_inl rfl) rfl dX6_tick_23 ?_
  refine lv_bipush (v := 24) hx hb dX6_tick_24 (by decide) ?_
  refine lv_icmp_lt (tgt := 33) hx hb dX6_tick_26 (by decide) (fun c_26 => ?_) (fun c_26 => ?_)
  · skip
    have c_26 : (((sx 3) + (sx 12)) < 24) := c_26
    rw [if_pos c_26] at hres
    refine lv_iconst (v := 0) hx hb dX6_tick_33 (by decide) ?_
    refine lv_iadd hx hb dX6_tick_34 ?_
    refine k_iast hx hb hK hP hD hS 0 0 (k := 4) rfl rfl (k_inl rfl) rfl dX6_tick_35 (fun H locs hP hD hS => ?_)
    have hP : va_P D vwCl (st_W cs sa (va_up (va_up (va_up sx 2 ((sx 2) + 1)) 3 ((sx 3) + (sx 12))) 4 ((sx 4) + 0))) H := hP
    have hD : va_D A (st_W cs sa (va_up (va_up (va_up sx 2 ((sx 2) + 1)) 3 ((sx 3) + (sx 12))) 4 ((sx 4) + 0))) := hD
    refine lv_aload_n hx hb dX6_tick_36 rfl (lv_at hl 0 rfl) ?_
    refine lv_iconst (v := 3) hx hb dX6_tick_37 (by decide) ?_
    refine lv_dup2_11 hx hb dX6_tick_38 rfl rfl ?_
    refine k_iald hx hb hK hP 0 0 (v := ((sx 3) + (sx 12))) rfl rfl (k_inl rfl) rfl dX6_tick_39 ?_
    refine lv_bipush (v := 24) hx hb dX6_tick_40 (by decide) ?_
    refine lv_irem hx hb dX6_tick_42 (by decide) ?_
    refine k_iast hx hb hK hP hD hS 0 0 (k := 3) rfl rfl (k_inl rfl) rfl dX6_tick_43 (fun H locs hP hD hS => ?_)
    have hP : va_P D vwCl (st_W cs sa (va_up (va_up (va_up (va_up sx 2 ((sx 2) + 1)) 3 ((sx 3) + (sx 12))) 4 ((sx 4) + 0)) 3 (((sx 3) + (sx 12)) - ((sx 3) + (sx 12)) / 24 * 24))) H := hP
    have hD : va_D A (st_W cs sa (va_up (va_up (va_up (va_up sx 2 ((sx 2) + 1)) 3 ((sx 3) + (sx 12))) 4 ((sx 4) + 0)) 3 (((sx 3) + (sx 12)) - ((sx 3) + (sx 12)) / 24 * 24))) := hD
    refine lv_aload_n hx hb dX6_tick_44 rfl (lv_at hl 0 rfl) ?_
    refine lv_bipush (v := 6) hx hb dX6_tick_45 (by decide) ?_
    refine k_iald hx hb hK hP 0 0 (v := (sx 6)) rfl rfl (k_inl rfl) rfl dX6_tick_47 ?_
    refine lv_iconst (v := 2) hx hb dX6_tick_48 (by decide) ?_
    refine lv_aload_n hx hb dX6_tick_49 rfl (lv_at hl 0 rfl) ?_
    refine lv_bipush (v := 12) hx hb dX6_tick_50 (by decide) ?_
    refine k_iald hx hb hK hP 0 0 (v := (sx 12)) rfl rfl (k_inl rfl) rfl dX6_tick_52 ?_
    refine lv_imul hx hb dX6_tick_53 ?_
    refine lv_iadd hx hb dX6_tick_54 ?_
    refine lv_istore_n (lv' := [(1, .int ((sx 6) + (2 * (sx 12)))), (0, .ref sa)]) hx hb dX6_tick_55 rfl hl (by decide) rfl (fun ls hl => ?_)
    refine lv_aload_n hx hb dX6_tick_56 rfl (lv_at hl 1 rfl) ?_
    refine lv_bipush (v := 6) hx hb dX6_tick_57 (by decide) ?_
    refine lv_iload_n hx hb dX6_tick_59 rfl (lv_at hl 0 rfl) ?_
    refine lv_aload_n hx hb dX6_tick_60 rfl (lv_at hl 1 rfl) ?_
    refine lv_bipush (v := 14) hx hb dX6_tick_61 (by decide) ?_
    refine k_iald hx hb hK hP 0 0 (v := (sx 14)) rfl rfl (k_inl rfl) rfl dX6_tick_63 ?_
    refine lv_icmp_ge (tgt := 71) hx hb dX6_tick_64 (by decide) (fun c_64 => ?_) (fun c_64 => ?_)
    · skip
      have c_64 : ((sx 14) ≤ ((sx 6) + (2 * (sx 12)))) := c_64
      rw [if_pos c_64] at hres
      refine lv_aload_n hx hb dX6_tick_71 rfl (lv_at hl 1 rfl) ?_
      refine lv_bipush (v := 14) hx hb dX6_tick_72 (by decide) ?_
      refine k_iald hx hb hK hP 0 0 (v := (sx 14)) rfl rfl (k_inl rfl) rfl dX6_tick_74 ?_
      refine k_iast hx hb hK hP hD hS 0 0 (k := 6) rfl rfl (k_inl rfl) rfl dX6_tick_75 (fun H locs hP hD hS => ?_)
      have hP : va_P D vwCl (st_W cs sa (va_up (va_up (va_up (va_up (va_up sx 2 ((sx 2) + 1)) 3 ((sx 3) + (sx 12))) 4 ((sx 4) + 0)) 3 (((sx 3) + (sx 12)) - ((sx 3) + (sx 12)) / 24 * 24)) 6 (sx 14))) H := hP
      have hD : va_D A (st_W cs sa (va_up (va_up (va_up (va_up (va_up sx 2 ((sx 2) + 1)) 3 ((sx 3) + (sx 12))) 4 ((sx 4) + 0)) 3 (((sx 3) + (sx 12)) - ((sx 3) + (sx 12)) / 24 * 24)) 6 (sx 14))) := hD
      refine lv_aload_n hx hb dX6_tick_76 rfl (lv_at hl 1 rfl) ?_
      have hP : va_P D vwCl ((st_W cs sa (va_up (va_up (va_up (va_up (va_up sx 2 ((sx 2) + 1)) 3 ((sx 3) + (sx 12))) 4 ((sx 4) + 0)) 3 (((sx 3) + (sx 12)) - ((sx 3) + (sx 12)) / 24 * 24)) 6 (sx 14))) ++ []) H := k_nP hP
      have hD : va_D A ((st_W cs sa (va_up (va_up (va_up (va_up (va_up sx 2 ((sx 2) + 1)) 3 ((sx 3) + (sx 12))) 4 ((sx 4) + 0)) 3 (((sx 3) + (sx 12)) - ((sx 3) + (sx 12)) / 24 * 24)) 6 (sx 14))) ++ []) := k_nD hD
      have hc_77 := c_X6_lookAtOrders l D cs sa (va_up (va_up (va_up (va_up (va_up sx 2 ((sx 2) + 1)) 3 ((sx 3) + (sx 12))) 4 ((sx 4) + 0)) 3 (((sx 3) + (sx 12)) - ((sx 3) + (sx 12)) / 24 * 24)) 6 (sx 14))  (show SI _ from hI)
      refine kV_call (wc := (st_W cs sa (va_up (va_up (va_up (va_up (va_up sx 2 ((sx 2) + 1)) 3 ((sx 3) + (sx 12))) 4 ((sx 4) + 0)) 3 (((sx 3) + (sx 12)) - ((sx 3) + (sx 12)) / 24 * 24)) 6 (sx 14)))) (wr := []) (w1 := fun _ => st_W cs sa (k_X6_lookAtOrders (va_up (va_up (va_up (va_up (va_up sx 2 ((sx 2) + 1)) 3 ((sx 3) + (sx 12))) 4 ((sx 4) + 0)) 3 (((sx 3) + (sx 12)) - ((sx 3) + (sx 12)) / 24 * 24)) 6 (sx 14)))) hE hP hD hS (k_rS (rest := []) (As := [.ref sa]) hE rfl (hc_77 H.size) (va_cwS 1 hts gX6_tick_X6_lookAtOrders rfl rfl rfl (by decide +kernel) ⟨Nat.le_of_ble_eq_true rfl, Nat.le_of_ble_eq_true rfl⟩) hP hD hS rfl hl rfl (Nat.le_of_ble_eq_true rfl) ⟨Nat.le_of_ble_eq_true rfl, Nat.le_of_ble_eq_true rfl⟩ dX6_tick_77) (fun _ H locs _ hP hD hS => ?_)
      have hP := k_uP hP
      have hD := k_uD hD
      have hP : va_P D vwCl (st_W cs sa (k_X6_lookAtOrders (va_up (va_up (va_up (va_up (va_up sx 2 ((sx 2) + 1)) 3 ((sx 3) + (sx 12))) 4 ((sx 4) + 0)) 3 (((sx 3) + (sx 12)) - ((sx 3) + (sx 12)) / 24 * 24)) 6 (sx 14)))) H := hP
      have hD : va_D A (st_W cs sa (k_X6_lookAtOrders (va_up (va_up (va_up (va_up (va_up sx 2 ((sx 2) + 1)) 3 ((sx 3) + (sx 12))) 4 ((sx 4) + 0)) 3 (((sx 3) + (sx 12)) - ((sx 3) + (sx 12)) / 24 * 24)) 6 (sx 14)))) := hD
      refine lv_aload_n hx hb dX6_tick_80 rfl (lv_at hl 1 rfl) ?_
      have hP : va_P D vwCl ((st_W cs sa (k_X6_lookAtOrders (va_up (va_up (va_up (va_up (va_up sx 2 ((sx 2) + 1)) 3 ((sx 3) + (sx 12))) 4 ((sx 4) + 0)) 3 (((sx 3) + (sx 12)) - ((sx 3) + (sx 12)) / 24 * 24)) 6 (sx 14)))) ++ []) H := k_nP hP
      have hD : va_D A ((st_W cs sa (k_X6_lookAtOrders (va_up (va_up (va_up (va_up (va_up sx 2 ((sx 2) + 1)) 3 ((sx 3) + (sx 12))) 4 ((sx 4) + 0)) 3 (((sx 3) + (sx 12)) - ((sx 3) + (sx 12)) / 24 * 24)) 6 (sx 14)))) ++ []) := k_nD hD
      have hc_81 := c_X6_play l D cs sa (k_X6_lookAtOrders (va_up (va_up (va_up (va_up (va_up sx 2 ((sx 2) + 1)) 3 ((sx 3) + (sx 12))) 4 ((sx 4) + 0)) 3 (((sx 3) + (sx 12)) - ((sx 3) + (sx 12)) / 24 * 24)) 6 (sx 14)))  (SI_look (show SI _ from hI))
      refine kV_call (wc := (st_W cs sa (k_X6_lookAtOrders (va_up (va_up (va_up (va_up (va_up sx 2 ((sx 2) + 1)) 3 ((sx 3) + (sx 12))) 4 ((sx 4) + 0)) 3 (((sx 3) + (sx 12)) - ((sx 3) + (sx 12)) / 24 * 24)) 6 (sx 14))))) (wr := []) (w1 := fun _ => st_W cs sa (k_X6_play (k_X6_lookAtOrders (va_up (va_up (va_up (va_up (va_up sx 2 ((sx 2) + 1)) 3 ((sx 3) + (sx 12))) 4 ((sx 4) + 0)) 3 (((sx 3) + (sx 12)) - ((sx 3) + (sx 12)) / 24 * 24)) 6 (sx 14))))) hE hP hD hS (k_rS (rest := []) (As := [.ref sa]) hE rfl (hc_81 H.size) (va_cwS 1 hts gX6_tick_X6_play rfl rfl rfl (by decide +kernel) ⟨Nat.le_of_ble_eq_true rfl, Nat.le_of_ble_eq_true rfl⟩) hP hD hS rfl hl rfl (Nat.le_of_ble_eq_true rfl) ⟨Nat.le_of_ble_eq_true rfl, Nat.le_of_ble_eq_true rfl⟩ dX6_tick_81) (fun _ H locs _ hP hD hS => ?_)
      have hP := k_uP hP
      have hD := k_uD hD
      have hP : va_P D vwCl (st_W cs sa (k_X6_play (k_X6_lookAtOrders (va_up (va_up (va_up (va_up (va_up sx 2 ((sx 2) + 1)) 3 ((sx 3) + (sx 12))) 4 ((sx 4) + 0)) 3 (((sx 3) + (sx 12)) - ((sx 3) + (sx 12)) / 24 * 24)) 6 (sx 14))))) H := hP
      have hD : va_D A (st_W cs sa (k_X6_play (k_X6_lookAtOrders (va_up (va_up (va_up (va_up (va_up sx 2 ((sx 2) + 1)) 3 ((sx 3) + (sx 12))) 4 ((sx 4) + 0)) 3 (((sx 3) + (sx 12)) - ((sx 3) + (sx 12)) / 24 * 24)) 6 (sx 14))))) := hD
      subst hres
      exact kV_ret () hE hS hP hD trivial (Nat.le_of_ble_eq_true rfl) (Nat.le_of_ble_eq_true rfl) dX6_tick_84
    · skip
      have c_64 : ¬ ((sx 14) ≤ ((sx 6) + (2 * (sx 12)))) := c_64
      rw [if_neg c_64] at hres
      refine lv_iload_n hx hb dX6_tick_67 rfl (lv_at hl 0 rfl) ?_
      refine lv_goto (tgt := 75) hx hb dX6_tick_68 (by decide) ?_
      refine k_iast hx hb hK hP hD hS 0 0 (k := 6) rfl rfl (k_inl rfl) rfl dX6_tick_75 (fun H locs hP hD hS => ?_)
      have hP : va_P D vwCl (st_W cs sa (va_up (va_up (va_up (va_up (va_up sx 2 ((sx 2) + 1)) 3 ((sx 3) + (sx 12))) 4 ((sx 4) + 0)) 3 (((sx 3) + (sx 12)) - ((sx 3) + (sx 12)) / 24 * 24)) 6 ((sx 6) + (2 * (sx 12))))) H := hP
      have hD : va_D A (st_W cs sa (va_up (va_up (va_up (va_up (va_up sx 2 ((sx 2) + 1)) 3 ((sx 3) + (sx 12))) 4 ((sx 4) + 0)) 3 (((sx 3) + (sx 12)) - ((sx 3) + (sx 12)) / 24 * 24)) 6 ((sx 6) + (2 * (sx 12))))) := hD
      refine lv_aload_n hx hb dX6_tick_76 rfl (lv_at hl 1 rfl) ?_
      have hP : va_P D vwCl ((st_W cs sa (va_up (va_up (va_up (va_up (va_up sx 2 ((sx 2) + 1)) 3 ((sx 3) + (sx 12))) 4 ((sx 4) + 0)) 3 (((sx 3) + (sx 12)) - ((sx 3) + (sx 12)) / 24 * 24)) 6 ((sx 6) + (2 * (sx 12))))) ++ []) H := k_nP hP
      have hD : va_D A ((st_W cs sa (va_up (va_up (va_up (va_up (va_up sx 2 ((sx 2) + 1)) 3 ((sx 3) + (sx 12))) 4 ((sx 4) + 0)) 3 (((sx 3) + (sx 12)) - ((sx 3) + (sx 12)) / 24 * 24)) 6 ((sx 6) + (2 * (sx 12))))) ++ []) := k_nD hD
      have hc_77 := c_X6_lookAtOrders l D cs sa (va_up (va_up (va_up (va_up (va_up sx 2 ((sx 2) + 1)) 3 ((sx 3) + (sx 12))) 4 ((sx 4) + 0)) 3 (((sx 3) + (sx 12)) - ((sx 3) + (sx 12)) / 24 * 24)) 6 ((sx 6) + (2 * (sx 12))))  (show SI _ from hI)
      refine kV_call (wc := (st_W cs sa (va_up (va_up (va_up (va_up (va_up sx 2 ((sx 2) + 1)) 3 ((sx 3) + (sx 12))) 4 ((sx 4) + 0)) 3 (((sx 3) + (sx 12)) - ((sx 3) + (sx 12)) / 24 * 24)) 6 ((sx 6) + (2 * (sx 12)))))) (wr := []) (w1 := fun _ => st_W cs sa (k_X6_lookAtOrders (va_up (va_up (va_up (va_up (va_up sx 2 ((sx 2) + 1)) 3 ((sx 3) + (sx 12))) 4 ((sx 4) + 0)) 3 (((sx 3) + (sx 12)) - ((sx 3) + (sx 12)) / 24 * 24)) 6 ((sx 6) + (2 * (sx 12)))))) hE hP hD hS (k_rS (rest := []) (As := [.ref sa]) hE rfl (hc_77 H.size) (va_cwS 1 hts gX6_tick_X6_lookAtOrders rfl rfl rfl (by decide +kernel) ⟨Nat.le_of_ble_eq_true rfl, Nat.le_of_ble_eq_true rfl⟩) hP hD hS rfl hl rfl (Nat.le_of_ble_eq_true rfl) ⟨Nat.le_of_ble_eq_true rfl, Nat.le_of_ble_eq_true rfl⟩ dX6_tick_77) (fun _ H locs _ hP hD hS => ?_)
      have hP := k_uP hP
      have hD := k_uD hD
      have hP : va_P D vwCl (st_W cs sa (k_X6_lookAtOrders (va_up (va_up (va_up (va_up (va_up sx 2 ((sx 2) + 1)) 3 ((sx 3) + (sx 12))) 4 ((sx 4) + 0)) 3 (((sx 3) + (sx 12)) - ((sx 3) + (sx 12)) / 24 * 24)) 6 ((sx 6) + (2 * (sx 12)))))) H := hP
      have hD : va_D A (st_W cs sa (k_X6_lookAtOrders (va_up (va_up (va_up (va_up (va_up sx 2 ((sx 2) + 1)) 3 ((sx 3) + (sx 12))) 4 ((sx 4) + 0)) 3 (((sx 3) + (sx 12)) - ((sx 3) + (sx 12)) / 24 * 24)) 6 ((sx 6) + (2 * (sx 12)))))) := hD
      refine lv_aload_n hx hb dX6_tick_80 rfl (lv_at hl 1 rfl) ?_
      have hP : va_P D vwCl ((st_W cs sa (k_X6_lookAtOrders (va_up (va_up (va_up (va_up (va_up sx 2 ((sx 2) + 1)) 3 ((sx 3) + (sx 12))) 4 ((sx 4) + 0)) 3 (((sx 3) + (sx 12)) - ((sx 3) + (sx 12)) / 24 * 24)) 6 ((sx 6) + (2 * (sx 12)))))) ++ []) H := k_nP hP
      have hD : va_D A ((st_W cs sa (k_X6_lookAtOrders (va_up (va_up (va_up (va_up (va_up sx 2 ((sx 2) + 1)) 3 ((sx 3) + (sx 12))) 4 ((sx 4) + 0)) 3 (((sx 3) + (sx 12)) - ((sx 3) + (sx 12)) / 24 * 24)) 6 ((sx 6) + (2 * (sx 12)))))) ++ []) := k_nD hD
      have hc_81 := c_X6_play l D cs sa (k_X6_lookAtOrders (va_up (va_up (va_up (va_up (va_up sx 2 ((sx 2) + 1)) 3 ((sx 3) + (sx 12))) 4 ((sx 4) + 0)) 3 (((sx 3) + (sx 12)) - ((sx 3) + (sx 12)) / 24 * 24)) 6 ((sx 6) + (2 * (sx 12)))))  (SI_look (show SI _ from hI))
      refine kV_call (wc := (st_W cs sa (k_X6_lookAtOrders (va_up (va_up (va_up (va_up (va_up sx 2 ((sx 2) + 1)) 3 ((sx 3) + (sx 12))) 4 ((sx 4) + 0)) 3 (((sx 3) + (sx 12)) - ((sx 3) + (sx 12)) / 24 * 24)) 6 ((sx 6) + (2 * (sx 12))))))) (wr := []) (w1 := fun _ => st_W cs sa (k_X6_play (k_X6_lookAtOrders (va_up (va_up (va_up (va_up (va_up sx 2 ((sx 2) + 1)) 3 ((sx 3) + (sx 12))) 4 ((sx 4) + 0)) 3 (((sx 3) + (sx 12)) - ((sx 3) + (sx 12)) / 24 * 24)) 6 ((sx 6) + (2 * (sx 12))))))) hE hP hD hS (k_rS (rest := []) (As := [.ref sa]) hE rfl (hc_81 H.size) (va_cwS 1 hts gX6_tick_X6_play rfl rfl rfl (by decide +kernel) ⟨Nat.le_of_ble_eq_true rfl, Nat.le_of_ble_eq_true rfl⟩) hP hD hS rfl hl rfl (Nat.le_of_ble_eq_true rfl) ⟨Nat.le_of_ble_eq_true rfl, Nat.le_of_ble_eq_true rfl⟩ dX6_tick_81) (fun _ H locs _ hP hD hS => ?_)
      have hP := k_uP hP
      have hD := k_uD hD
      have hP : va_P D vwCl (st_W cs sa (k_X6_play (k_X6_lookAtOrders (va_up (va_up (va_up (va_up (va_up sx 2 ((sx 2) + 1)) 3 ((sx 3) + (sx 12))) 4 ((sx 4) + 0)) 3 (((sx 3) + (sx 12)) - ((sx 3) + (sx 12)) / 24 * 24)) 6 ((sx 6) + (2 * (sx 12))))))) H := hP
      have hD : va_D A (st_W cs sa (k_X6_play (k_X6_lookAtOrders (va_up (va_up (va_up (va_up (va_up sx 2 ((sx 2) + 1)) 3 ((sx 3) + (sx 12))) 4 ((sx 4) + 0)) 3 (((sx 3) + (sx 12)) - ((sx 3) + (sx 12)) / 24 * 24)) 6 ((sx 6) + (2 * (sx 12))))))) := hD
      subst hres
      exact kV_ret () hE hS hP hD trivial (Nat.le_of_ble_eq_true rfl) (Nat.le_of_ble_eq_true rfl) dX6_tick_84
  · skip
    have c_26 : ¬ (((sx 3) + (sx 12)) < 24) := c_26
    rw [if_neg c_26] at hres
    refine lv_iconst (v := 1) hx hb dX6_tick_29 (by decide) ?_
    refine lv_goto (tgt := 34) hx hb dX6_tick_30 (by decide) ?_
    refine lv_iadd hx hb dX6_tick_34 ?_
    refine k_iast hx hb hK hP hD hS 0 0 (k := 4) rfl rfl (k_inl rfl) rfl dX6_tick_35 (fun H locs hP hD hS => ?_)
    have hP : va_P D vwCl (st_W cs sa (va_up (va_up (va_up sx 2 ((sx 2) + 1)) 3 ((sx 3) + (sx 12))) 4 ((sx 4) + 1))) H := hP
    have hD : va_D A (st_W cs sa (va_up (va_up (va_up sx 2 ((sx 2) + 1)) 3 ((sx 3) + (sx 12))) 4 ((sx 4) + 1))) := hD
    refine lv_aload_n hx hb dX6_tick_36 rfl (lv_at hl 0 rfl) ?_
    refine lv_iconst (v := 3) hx hb dX6_tick_37 (by decide) ?_
    refine lv_dup2_11 hx hb dX6_tick_38 rfl rfl ?_
    refine k_iald hx hb hK hP 0 0 (v := ((sx 3) + (sx 12))) rfl rfl (k_inl rfl) rfl dX6_tick_39 ?_
    refine lv_bipush (v := 24) hx hb dX6_tick_40 (by decide) ?_
    refine lv_irem hx hb dX6_tick_42 (by decide) ?_
    refine k_iast hx hb hK hP hD hS 0 0 (k := 3) rfl rfl (k_inl rfl) rfl dX6_tick_43 (fun H locs hP hD hS => ?_)
    have hP : va_P D vwCl (st_W cs sa (va_up (va_up (va_up (va_up sx 2 ((sx 2) + 1)) 3 ((sx 3) + (sx 12))) 4 ((sx 4) + 1)) 3 (((sx 3) + (sx 12)) - ((sx 3) + (sx 12)) / 24 * 24))) H := hP
    have hD : va_D A (st_W cs sa (va_up (va_up (va_up (va_up sx 2 ((sx 2) + 1)) 3 ((sx 3) + (sx 12))) 4 ((sx 4) + 1)) 3 (((sx 3) + (sx 12)) - ((sx 3) + (sx 12)) / 24 * 24))) := hD
    refine lv_aload_n hx hb dX6_tick_44 rfl (lv_at hl 0 rfl) ?_
    refine lv_bipush (v := 6) hx hb dX6_tick_45 (by decide) ?_
    refine k_iald hx hb hK hP 0 0 (v := (sx 6)) rfl rfl (k_inl rfl) rfl dX6_tick_47 ?_
    refine lv_iconst (v := 2) hx hb dX6_tick_48 (by decide) ?_
    refine lv_aload_n hx hb dX6_tick_49 rfl (lv_at hl 0 rfl) ?_
    refine lv_bipush (v := 12) hx hb dX6_tick_50 (by decide) ?_
    refine k_iald hx hb hK hP 0 0 (v := (sx 12)) rfl rfl (k_inl rfl) rfl dX6_tick_52 ?_
    refine lv_imul hx hb dX6_tick_53 ?_
    refine lv_iadd hx hb dX6_tick_54 ?_
    refine lv_istore_n (lv' := [(1, .int ((sx 6) + (2 * (sx 12)))), (0, .ref sa)]) hx hb dX6_tick_55 rfl hl (by decide) rfl (fun ls hl => ?_)
    refine lv_aload_n hx hb dX6_tick_56 rfl (lv_at hl 1 rfl) ?_
    refine lv_bipush (v := 6) hx hb dX6_tick_57 (by decide) ?_
    refine lv_iload_n hx hb dX6_tick_59 rfl (lv_at hl 0 rfl) ?_
    refine lv_aload_n hx hb dX6_tick_60 rfl (lv_at hl 1 rfl) ?_
    refine lv_bipush (v := 14) hx hb dX6_tick_61 (by decide) ?_
    refine k_iald hx hb hK hP 0 0 (v := (sx 14)) rfl rfl (k_inl rfl) rfl dX6_tick_63 ?_
    refine lv_icmp_ge (tgt := 71) hx hb dX6_tick_64 (by decide) (fun c_64 => ?_) (fun c_64 => ?_)
    · skip
      have c_64 : ((sx 14) ≤ ((sx 6) + (2 * (sx 12)))) := c_64
      rw [if_pos c_64] at hres
      refine lv_aload_n hx hb dX6_tick_71 rfl (lv_at hl 1 rfl) ?_
      refine lv_bipush (v := 14) hx hb dX6_tick_72 (by decide) ?_
      refine k_iald hx hb hK hP 0 0 (v := (sx 14)) rfl rfl (k_inl rfl) rfl dX6_tick_74 ?_
      refine k_iast hx hb hK hP hD hS 0 0 (k := 6) rfl rfl (k_inl rfl) rfl dX6_tick_75 (fun H locs hP hD hS => ?_)
      have hP : va_P D vwCl (st_W cs sa (va_up (va_up (va_up (va_up (va_up sx 2 ((sx 2) + 1)) 3 ((sx 3) + (sx 12))) 4 ((sx 4) + 1)) 3 (((sx 3) + (sx 12)) - ((sx 3) + (sx 12)) / 24 * 24)) 6 (sx 14))) H := hP
      have hD : va_D A (st_W cs sa (va_up (va_up (va_up (va_up (va_up sx 2 ((sx 2) + 1)) 3 ((sx 3) + (sx 12))) 4 ((sx 4) + 1)) 3 (((sx 3) + (sx 12)) - ((sx 3) + (sx 12)) / 24 * 24)) 6 (sx 14))) := hD
      refine lv_aload_n hx hb dX6_tick_76 rfl (lv_at hl 1 rfl) ?_
      have hP : va_P D vwCl ((st_W cs sa (va_up (va_up (va_up (va_up (va_up sx 2 ((sx 2) + 1)) 3 ((sx 3) + (sx 12))) 4 ((sx 4) + 1)) 3 (((sx 3) + (sx 12)) - ((sx 3) + (sx 12)) / 24 * 24)) 6 (sx 14))) ++ []) H := k_nP hP
      have hD : va_D A ((st_W cs sa (va_up (va_up (va_up (va_up (va_up sx 2 ((sx 2) + 1)) 3 ((sx 3) + (sx 12))) 4 ((sx 4) + 1)) 3 (((sx 3) + (sx 12)) - ((sx 3) + (sx 12)) / 24 * 24)) 6 (sx 14))) ++ []) := k_nD hD
      have hc_77 := c_X6_lookAtOrders l D cs sa (va_up (va_up (va_up (va_up (va_up sx 2 ((sx 2) + 1)) 3 ((sx 3) + (sx 12))) 4 ((sx 4) + 1)) 3 (((sx 3) + (sx 12)) - ((sx 3) + (sx 12)) / 24 * 24)) 6 (sx 14))  (show SI _ from hI)
      refine kV_call (wc := (st_W cs sa (va_up (va_up (va_up (va_up (va_up sx 2 ((sx 2) + 1)) 3 ((sx 3) + (sx 12))) 4 ((sx 4) + 1)) 3 (((sx 3) + (sx 12)) - ((sx 3) + (sx 12)) / 24 * 24)) 6 (sx 14)))) (wr := []) (w1 := fun _ => st_W cs sa (k_X6_lookAtOrders (va_up (va_up (va_up (va_up (va_up sx 2 ((sx 2) + 1)) 3 ((sx 3) + (sx 12))) 4 ((sx 4) + 1)) 3 (((sx 3) + (sx 12)) - ((sx 3) + (sx 12)) / 24 * 24)) 6 (sx 14)))) hE hP hD hS (k_rS (rest := []) (As := [.ref sa]) hE rfl (hc_77 H.size) (va_cwS 1 hts gX6_tick_X6_lookAtOrders rfl rfl rfl (by decide +kernel) ⟨Nat.le_of_ble_eq_true rfl, Nat.le_of_ble_eq_true rfl⟩) hP hD hS rfl hl rfl (Nat.le_of_ble_eq_true rfl) ⟨Nat.le_of_ble_eq_true rfl, Nat.le_of_ble_eq_true rfl⟩ dX6_tick_77) (fun _ H locs _ hP hD hS => ?_)
      have hP := k_uP hP
      have hD := k_uD hD
      have hP : va_P D vwCl (st_W cs sa (k_X6_lookAtOrders (va_up (va_up (va_up (va_up (va_up sx 2 ((sx 2) + 1)) 3 ((sx 3) + (sx 12))) 4 ((sx 4) + 1)) 3 (((sx 3) + (sx 12)) - ((sx 3) + (sx 12)) / 24 * 24)) 6 (sx 14)))) H := hP
      have hD : va_D A (st_W cs sa (k_X6_lookAtOrders (va_up (va_up (va_up (va_up (va_up sx 2 ((sx 2) + 1)) 3 ((sx 3) + (sx 12))) 4 ((sx 4) + 1)) 3 (((sx 3) + (sx 12)) - ((sx 3) + (sx 12)) / 24 * 24)) 6 (sx 14)))) := hD
      refine lv_aload_n hx hb dX6_tick_80 rfl (lv_at hl 1 rfl) ?_
      have hP : va_P D vwCl ((st_W cs sa (k_X6_lookAtOrders (va_up (va_up (va_up (va_up (va_up sx 2 ((sx 2) + 1)) 3 ((sx 3) + (sx 12))) 4 ((sx 4) + 1)) 3 (((sx 3) + (sx 12)) - ((sx 3) + (sx 12)) / 24 * 24)) 6 (sx 14)))) ++ []) H := k_nP hP
      have hD : va_D A ((st_W cs sa (k_X6_lookAtOrders (va_up (va_up (va_up (va_up (va_up sx 2 ((sx 2) + 1)) 3 ((sx 3) + (sx 12))) 4 ((sx 4) + 1)) 3 (((sx 3) + (sx 12)) - ((sx 3) + (sx 12)) / 24 * 24)) 6 (sx 14)))) ++ []) := k_nD hD
      have hc_81 := c_X6_play l D cs sa (k_X6_lookAtOrders (va_up (va_up (va_up (va_up (va_up sx 2 ((sx 2) + 1)) 3 ((sx 3) + (sx 12))) 4 ((sx 4) + 1)) 3 (((sx 3) + (sx 12)) - ((sx 3) + (sx 12)) / 24 * 24)) 6 (sx 14)))  (SI_look (show SI _ from hI))
      refine kV_call (wc := (st_W cs sa (k_X6_lookAtOrders (va_up (va_up (va_up (va_up (va_up sx 2 ((sx 2) + 1)) 3 ((sx 3) + (sx 12))) 4 ((sx 4) + 1)) 3 (((sx 3) + (sx 12)) - ((sx 3) + (sx 12)) / 24 * 24)) 6 (sx 14))))) (wr := []) (w1 := fun _ => st_W cs sa (k_X6_play (k_X6_lookAtOrders (va_up (va_up (va_up (va_up (va_up sx 2 ((sx 2) + 1)) 3 ((sx 3) + (sx 12))) 4 ((sx 4) + 1)) 3 (((sx 3) + (sx 12)) - ((sx 3) + (sx 12)) / 24 * 24)) 6 (sx 14))))) hE hP hD hS (k_rS (rest := []) (As := [.ref sa]) hE rfl (hc_81 H.size) (va_cwS 1 hts gX6_tick_X6_play rfl rfl rfl (by decide +kernel) ⟨Nat.le_of_ble_eq_true rfl, Nat.le_of_ble_eq_true rfl⟩) hP hD hS rfl hl rfl (Nat.le_of_ble_eq_true rfl) ⟨Nat.le_of_ble_eq_true rfl, Nat.le_of_ble_eq_true rfl⟩ dX6_tick_81) (fun _ H locs _ hP hD hS => ?_)
      have hP := k_uP hP
      have hD := k_uD hD
      have hP : va_P D vwCl (st_W cs sa (k_X6_play (k_X6_lookAtOrders (va_up (va_up (va_up (va_up (va_up sx 2 ((sx 2) + 1)) 3 ((sx 3) + (sx 12))) 4 ((sx 4) + 1)) 3 (((sx 3) + (sx 12)) - ((sx 3) + (sx 12)) / 24 * 24)) 6 (sx 14))))) H := hP
      have hD : va_D A (st_W cs sa (k_X6_play (k_X6_lookAtOrders (va_up (va_up (va_up (va_up (va_up sx 2 ((sx 2) + 1)) 3 ((sx 3) + (sx 12))) 4 ((sx 4) + 1)) 3 (((sx 3) + (sx 12)) - ((sx 3) + (sx 12)) / 24 * 24)) 6 (sx 14))))) := hD
      subst hres
      exact kV_ret () hE hS hP hD trivial (Nat.le_of_ble_eq_true rfl) (Nat.le_of_ble_eq_true rfl) dX6_tick_84
    · skip
      have c_64 : ¬ ((sx 14) ≤ ((sx 6) + (2 * (sx 12)))) := c_64
      rw [if_neg c_64] at hres
      refine lv_iload_n hx hb dX6_tick_67 rfl (lv_at hl 0 rfl) ?_
      refine lv_goto (tgt := 75) hx hb dX6_tick_68 (by decide) ?_
      refine k_iast hx hb hK hP hD hS 0 0 (k := 6) rfl rfl (k_inl rfl) rfl dX6_tick_75 (fun H locs hP hD hS => ?_)
      have hP : va_P D vwCl (st_W cs sa (va_up (va_up (va_up (va_up (va_up sx 2 ((sx 2) + 1)) 3 ((sx 3) + (sx 12))) 4 ((sx 4) + 1)) 3 (((sx 3) + (sx 12)) - ((sx 3) + (sx 12)) / 24 * 24)) 6 ((sx 6) + (2 * (sx 12))))) H := hP
      have hD : va_D A (st_W cs sa (va_up (va_up (va_up (va_up (va_up sx 2 ((sx 2) + 1)) 3 ((sx 3) + (sx 12))) 4 ((sx 4) + 1)) 3 (((sx 3) + (sx 12)) - ((sx 3) + (sx 12)) / 24 * 24)) 6 ((sx 6) + (2 * (sx 12))))) := hD
      refine lv_aload_n hx hb dX6_tick_76 rfl (lv_at hl 1 rfl) ?_
      have hP : va_P D vwCl ((st_W cs sa (va_up (va_up (va_up (va_up (va_up sx 2 ((sx 2) + 1)) 3 ((sx 3) + (sx 12))) 4 ((sx 4) + 1)) 3 (((sx 3) + (sx 12)) - ((sx 3) + (sx 12)) / 24 * 24)) 6 ((sx 6) + (2 * (sx 12))))) ++ []) H := k_nP hP
      have hD : va_D A ((st_W cs sa (va_up (va_up (va_up (va_up (va_up sx 2 ((sx 2) + 1)) 3 ((sx 3) + (sx 12))) 4 ((sx 4) + 1)) 3 (((sx 3) + (sx 12)) - ((sx 3) + (sx 12)) / 24 * 24)) 6 ((sx 6) + (2 * (sx 12))))) ++ []) := k_nD hD
      have hc_77 := c_X6_lookAtOrders l D cs sa (va_up (va_up (va_up (va_up (va_up sx 2 ((sx 2) + 1)) 3 ((sx 3) + (sx 12))) 4 ((sx 4) + 1)) 3 (((sx 3) + (sx 12)) - ((sx 3) + (sx 12)) / 24 * 24)) 6 ((sx 6) + (2 * (sx 12))))  (show SI _ from hI)
      refine kV_call (wc := (st_W cs sa (va_up (va_up (va_up (va_up (va_up sx 2 ((sx 2) + 1)) 3 ((sx 3) + (sx 12))) 4 ((sx 4) + 1)) 3 (((sx 3) + (sx 12)) - ((sx 3) + (sx 12)) / 24 * 24)) 6 ((sx 6) + (2 * (sx 12)))))) (wr := []) (w1 := fun _ => st_W cs sa (k_X6_lookAtOrders (va_up (va_up (va_up (va_up (va_up sx 2 ((sx 2) + 1)) 3 ((sx 3) + (sx 12))) 4 ((sx 4) + 1)) 3 (((sx 3) + (sx 12)) - ((sx 3) + (sx 12)) / 24 * 24)) 6 ((sx 6) + (2 * (sx 12)))))) hE hP hD hS (k_rS (rest := []) (As := [.ref sa]) hE rfl (hc_77 H.size) (va_cwS 1 hts gX6_tick_X6_lookAtOrders rfl rfl rfl (by decide +kernel) ⟨Nat.le_of_ble_eq_true rfl, Nat.le_of_ble_eq_true rfl⟩) hP hD hS rfl hl rfl (Nat.le_of_ble_eq_true rfl) ⟨Nat.le_of_ble_eq_true rfl, Nat.le_of_ble_eq_true rfl⟩ dX6_tick_77) (fun _ H locs _ hP hD hS => ?_)
      have hP := k_uP hP
      have hD := k_uD hD
      have hP : va_P D vwCl (st_W cs sa (k_X6_lookAtOrders (va_up (va_up (va_up (va_up (va_up sx 2 ((sx 2) + 1)) 3 ((sx 3) + (sx 12))) 4 ((sx 4) + 1)) 3 (((sx 3) + (sx 12)) - ((sx 3) + (sx 12)) / 24 * 24)) 6 ((sx 6) + (2 * (sx 12)))))) H := hP
      have hD : va_D A (st_W cs sa (k_X6_lookAtOrders (va_up (va_up (va_up (va_up (va_up sx 2 ((sx 2) + 1)) 3 ((sx 3) + (sx 12))) 4 ((sx 4) + 1)) 3 (((sx 3) + (sx 12)) - ((sx 3) + (sx 12)) / 24 * 24)) 6 ((sx 6) + (2 * (sx 12)))))) := hD
      refine lv_aload_n hx hb dX6_tick_80 rfl (lv_at hl 1 rfl) ?_
      have hP : va_P D vwCl ((st_W cs sa (k_X6_lookAtOrders (va_up (va_up (va_up (va_up (va_up sx 2 ((sx 2) + 1)) 3 ((sx 3) + (sx 12))) 4 ((sx 4) + 1)) 3 (((sx 3) + (sx 12)) - ((sx 3) + (sx 12)) / 24 * 24)) 6 ((sx 6) + (2 * (sx 12)))))) ++ []) H := k_nP hP
      have hD : va_D A ((st_W cs sa (k_X6_lookAtOrders (va_up (va_up (va_up (va_up (va_up sx 2 ((sx 2) + 1)) 3 ((sx 3) + (sx 12))) 4 ((sx 4) + 1)) 3 (((sx 3) + (sx 12)) - ((sx 3) + (sx 12)) / 24 * 24)) 6 ((sx 6) + (2 * (sx 12)))))) ++ []) := k_nD hD
      have hc_81 := c_X6_play l D cs sa (k_X6_lookAtOrders (va_up (va_up (va_up (va_up (va_up sx 2 ((sx 2) + 1)) 3 ((sx 3) + (sx 12))) 4 ((sx 4) + 1)) 3 (((sx 3) + (sx 12)) - ((sx 3) + (sx 12)) / 24 * 24)) 6 ((sx 6) + (2 * (sx 12)))))  (SI_look (show SI _ from hI))
      refine kV_call (wc := (st_W cs sa (k_X6_lookAtOrders (va_up (va_up (va_up (va_up (va_up sx 2 ((sx 2) + 1)) 3 ((sx 3) + (sx 12))) 4 ((sx 4) + 1)) 3 (((sx 3) + (sx 12)) - ((sx 3) + (sx 12)) / 24 * 24)) 6 ((sx 6) + (2 * (sx 12))))))) (wr := []) (w1 := fun _ => st_W cs sa (k_X6_play (k_X6_lookAtOrders (va_up (va_up (va_up (va_up (va_up sx 2 ((sx 2) + 1)) 3 ((sx 3) + (sx 12))) 4 ((sx 4) + 1)) 3 (((sx 3) + (sx 12)) - ((sx 3) + (sx 12)) / 24 * 24)) 6 ((sx 6) + (2 * (sx 12))))))) hE hP hD hS (k_rS (rest := []) (As := [.ref sa]) hE rfl (hc_81 H.size) (va_cwS 1 hts gX6_tick_X6_play rfl rfl rfl (by decide +kernel) ⟨Nat.le_of_ble_eq_true rfl, Nat.le_of_ble_eq_true rfl⟩) hP hD hS rfl hl rfl (Nat.le_of_ble_eq_true rfl) ⟨Nat.le_of_ble_eq_true rfl, Nat.le_of_ble_eq_true rfl⟩ dX6_tick_81) (fun _ H locs _ hP hD hS => ?_)
      have hP := k_uP hP
      have hD := k_uD hD
      have hP : va_P D vwCl (st_W cs sa (k_X6_play (k_X6_lookAtOrders (va_up (va_up (va_up (va_up (va_up sx 2 ((sx 2) + 1)) 3 ((sx 3) + (sx 12))) 4 ((sx 4) + 1)) 3 (((sx 3) + (sx 12)) - ((sx 3) + (sx 12)) / 24 * 24)) 6 ((sx 6) + (2 * (sx 12))))))) H := hP
      have hD : va_D A (st_W cs sa (k_X6_play (k_X6_lookAtOrders (va_up (va_up (va_up (va_up (va_up sx 2 ((sx 2) + 1)) 3 ((sx 3) + (sx 12))) 4 ((sx 4) + 1)) 3 (((sx 3) + (sx 12)) - ((sx 3) + (sx 12)) / 24 * 24)) 6 ((sx 6) + (2 * (sx 12))))))) := hD
      subst hres
      exact kV_ret () hE hS hP hD trivial (Nat.le_of_ble_eq_true rfl) (Nat.le_of_ble_eq_true rfl) dX6_tick_84
set_option maxHeartbeats 4000000 in
set_option maxRecDepth 100000 in
theorem c_X6_ticksOn (l : Launch) (D : va_G) (cs : Nat → ClassId) (sa : Nat) (sx : Nat → Int32) (vn : Int32) (hI : SI sx) (hv : vn.toInt ≤ 99) : kI l yX6_ticksOn wsX6_ticksOn { frames := 6, cells := 0, slots := 0, locals := 136 } 0 0 D cs [.ref sa, .int vn] (st_W cs sa sx) (k_X6_ticksOn sx vn).1 (st_W cs sa ((k_X6_ticksOn sx vn).2)) := by
  generalize hres : k_X6_ticksOn sx vn = res
  refine kI_of (cc := cX6_ticksOn) (maxL := 4) (ret := (some .int)) (by decide) rfl (Nat.le_of_ble_eq_true rfl) ?_
  intro p e s m below meth c A ls H locs hE hS hP hD hl
  obtain ⟨hx, hb, hr, hlocks, hml, hown, hts, hK, hA, hG, hnm⟩ := id hE
  have hown : s.vm.findClass RX6 = some m.cls := hown
  have hl : lv_has ls 4 [(0, .ref sa), (1, .int vn)] := hl
  have L7 : ∀ (n : Nat) (i : Int32) (xw : Nat → Int32) (j : Nat) (hi : i = nI j) (hj : j + n = 101) (hj2 : j ≤ vn.toInt.toNat) (hw : SI xw) (H : Heap) (locs : List Loc) (ls : Array Slot), va_S A s.heap H locs → va_P D vwCl (st_W cs sa xw) H → va_D A (st_W cs sa xw) → lv_has ls 4 [(0, .ref sa), (1, .int vn), (2, .int (sx 9)), (3, .int i)] → k_X6_ticksOn_L7 sx vn n i xw = res → W p l e { frames := 6, cells := 0, slots := 0, locals := 136 } s m ([.ref sa, .int vn]).toArray below meth c H locs 0 0 (MQ below (va_Qi (fun (r' : Int32) (_ : Unit) => r' = res.1) (kB D (fun _ => st_W cs sa res.2) A) A) ([.ref sa, .int vn]).toArray s 0 0 A) (F0 m 7 ls []) := by
    intro n
    induction n with
    | zero =>
      intro i xw j hi hj hj2 hw H locs ls hS hP hD hl hres
      exact absurd hj2 (by omega)
    | succ n ih =>
      intro i xw j hi hj hj2 hw H locs ls hS hP hD hl hres
      unfold k_X6_ticksOn_L7 at hres
      refine lv_iload_n hx hb dX6_ticksOn_7 rfl (lv_at hl 3 rfl) ?_
      refine lv_iload_n hx hb dX6_ticksOn_8 rfl (lv_at hl 1 rfl) ?_
      refine lv_icmp_ge (tgt := 22) hx hb dX6_ticksOn_9 (by decide) (fun c_9 => ?_) (fun c_9 => ?_)
      · skip
        have c_9 : (vn ≤ i) := c_9
        rw [if_pos c_9] at hres
        refine lv_aload_n hx hb dX6_ticksOn_22 rfl (lv_at hl 0 rfl) ?_
        refine lv_bipush (v := 9) hx hb dX6_ticksOn_23 (by decide) ?_
        refine k_iald hx hb hK hP 0 0 (v := (xw 9)) rfl rfl (k_inl rfl) rfl dX6_ticksOn_25 ?_
        refine lv_iload_n hx hb dX6_ticksOn_26 rfl (lv_at hl 2 rfl) ?_
        refine lv_isub hx hb dX6_ticksOn_27 ?_
        subst hres
        exact kI_ret hE hS hP hD rfl rfl (Nat.le_of_ble_eq_true rfl) (Nat.le_of_ble_eq_true rfl) dX6_ticksOn_28
      · skip
        have c_9 : ¬ (vn ≤ i) := c_9
        rw [if_neg c_9] at hres
        refine lv_aload_n hx hb dX6_ticksOn_12 rfl (lv_at hl 0 rfl) ?_
        have hP : va_P D vwCl ((st_W cs sa xw) ++ []) H := k_nP hP
        have hD : va_D A ((st_W cs sa xw) ++ []) := k_nD hD
        have hc_13 := c_X6_tick l D cs sa xw  hw
        refine kV_call (wc := (st_W cs sa xw)) (wr := []) (w1 := fun _ => st_W cs sa (k_X6_tick xw)) hE hP hD hS (k_rS (rest := []) (As := [.ref sa]) hE rfl (hc_13 H.size) (va_cwS 1 hts gX6_ticksOn_X6_tick rfl rfl rfl (by decide +kernel) ⟨Nat.le_of_ble_eq_true rfl, Nat.le_of_ble_eq_true rfl⟩) hP hD hS rfl hl rfl (Nat.le_of_ble_eq_true rfl) ⟨Nat.le_of_ble_eq_true rfl, Nat.le_of_ble_eq_true rfl⟩ dX6_ticksOn_13) (fun _ H locs _ hP hD hS => ?_)
        have hP := k_uP hP
        have hD := k_uD hD
        have hP : va_P D vwCl (st_W cs sa (k_X6_tick xw)) H := hP
        have hD : va_D A (st_W cs sa (k_X6_tick xw)) := hD
        refine lv_iinc (v := (i + 1)) (lv' := [(3, .int (i + 1)), (0, .ref sa), (1, .int vn), (2, .int (sx 9))]) hx hb dX6_ticksOn_16 hl (k := 3) rfl (by rfl) (by decide) rfl (fun ls hl => ?_)
        refine lv_goto (tgt := 7) hx hb dX6_ticksOn_19 (by decide) ?_
        exact ih (i + 1) (k_X6_tick xw) (j + 1) (by rw [hi, nI_1]) (by omega) (by rw [i_le, hi, nI_toInt (by omega)] at c_9; omega) (SI_tick hw) _ _ _ hS hP hD (lv_sub hl [1, 2, 3, 0] rfl) hres
  unfold k_X6_ticksOn at hres
  refine lv_aload_n hx hb dX6_ticksOn_0 rfl (lv_at hl 0 rfl) ?_
  refine lv_bipush (v := 9) hx hb dX6_ticksOn_1 (by decide) ?_
  refine k_iald hx hb hK hP 0 0 (v := (sx 9)) rfl rfl (k_inl rfl) rfl dX6_ticksOn_3 ?_
  refine lv_istore_n (lv' := [(2, .int (sx 9)), (0, .ref sa), (1, .int vn)]) hx hb dX6_ticksOn_4 rfl hl (by decide) rfl (fun ls hl => ?_)
  refine lv_iconst (v := 0) hx hb dX6_ticksOn_5 (by decide) ?_
  refine lv_istore_n (lv' := [(3, .int 0), (2, .int (sx 9)), (0, .ref sa), (1, .int vn)]) hx hb dX6_ticksOn_6 rfl hl (by decide) rfl (fun ls hl => ?_)
  exact L7 101 0 sx 0 (nI_0.symm) (rfl) (Nat.zero_le _) (hI) _ _ _ hS hP hD (lv_sub hl [2, 3, 1, 0] rfl) hres
