/-! p29: what a round's act comes to. -/
set_option maxHeartbeats 4000000 in
theorem c_act (l : Launch) (hfl : l.stackTraces = false) (D : va_G) (cs : Nat → ClassId) {k : KC} {n T : Nat} {cv0 : CV} (hq0 : QR cv0 k) (hn : n < 2 ^ 31) (hT : T + 12 ≤ BIG) (hc : CI T k) : ∃ r k2, CI (T + 12) k2 ∧ ∀ ca, k1 l yL_act wsN_act RM_act 4 24 D cs ca [.ref (ca 0 0), .int (nI n)] r k k2 := by
  have hBB : BIG = 1000000 := rfl
  obtain ⟨N, M, hRC, hRw⟩ := QR_R hq0
  have hR : RF (cv0.2.1 0) k.1 := ⟨N, M, hRC, hRw⟩
  obtain ⟨⟨n0, hN, -⟩, ⟨m0, hM, -⟩, -, hvp, -⟩ := id hRC.1
  have hc12 := CI_mono (show T ≤ T + 12 by omega) hc
  have hput : ∀ q f z, q < 6 → f < 24 → 1 ≤ z → z < 7 → ∃ r k2, CI (T + 12) k2 ∧ ∀ cv, QR cv k → QR (k_X5_put cv (nI q) (nI f) (nI z)).2.2 k2 ∧ aX (k_X5_put cv (nI q) (nI f) (nI z)) = r := fun q f z h1 h2 h3 h4 => by
    by_cases h12 : M = 12
    · exact ⟨_, k, hc12, fun cv hq => Q_put_s hq (isP_y h1) (isB_y h2) ((by decide +kernel : ∀ n, n < 7 → 1 ≤ n → ¬ k_X6_in ((nI n).toInt64) 1 6 = 0) z h4 h3) (m0.trans (congrArg nI h12))⟩
    · exact ⟨_, _, CI_psh hc12 (EI_ad hRC (by omega) hc12.1), fun cv hq => Q_put hq m0 (by omega) h1 h2 h3 h4⟩
  have hpull : ∀ q f, q < 6 → f < 24 → ∃ r k2, CI (T + 12) k2 ∧ ∀ cv, QR cv k → QR (k_X5_pull cv (nI q) (nI f)).2.2 k2 ∧ aX (k_X5_pull cv (nI q) (nI f)) = r := fun q f h1 h2 => by
    by_cases h12 : M = 12
    · exact ⟨_, k, hc12, fun cv hq => Q_pull_s hq (isP_y h1) (isB_y h2) (m0.trans (congrArg nI h12))⟩
    · exact ⟨_, _, CI_psh hc12 (EI_ad hRC (by omega) hc12.1), fun cv hq => Q_pull hq m0 (by omega) h1 h2⟩
  have hset : ∀ w z, sOK w z → w < 3 → ∃ r k2, CI (T + 12) k2 ∧ ∀ cv, QR cv k → QR (k_X5_set cv (nI w) (nI z)).2.2 k2 ∧ aX (k_X5_set cv (nI w) (nI z)) = r := fun w z h1 h2 => ⟨_, _, CI_psh hc12 (EI_set hRC h2 hc12.1), fun cv hq => (Q_set hq h1).2⟩
  rcases (show n % 16 = 0 ∨ n % 16 = 1 ∨ n % 16 = 2 ∨ n % 16 = 3 ∨ n % 16 = 4 ∨ n % 16 = 5 ∨ n % 16 = 6 ∨ n % 16 = 7 ∨ n % 16 = 8 ∨ n % 16 = 9 ∨ n % 16 = 10 ∨ n % 16 = 11 ∨ 12 ≤ n % 16 by omega) with hv | hv | hv | hv | hv | hv | hv | hv | hv | hv | hv | hv | hv
  · obtain ⟨r, k2, h1, hF⟩ := hput (n / 16 % 6) (n / 16 / 6 % 24) (1 + n / 16 / 144 % 6) (by omega) (by omega) (by omega) (by omega)
    exact ⟨r, k2, h1, fun ca v hv9 => kQ_of (U := CV) (Φ := f_1 k) (wc := w_1 cs ca) (cc := cL_act) (maxL := 4) (ret := some .int) (by decide) rfl (Nat.le_of_ble_eq_true rfl) (fun p e s m below meth c A hE => act_h0 hfl hn hN n0 hv hE (act_80 hfl hn hN hF hE (fun lv pc cells slots h1 h2 hd => KX_ret (w1 := w_1 cs ca) hE rfl rfl (fun u hu => ⟨u, hu, List.Perm.refl _⟩) h1 h2 hd))) v hv9⟩
  · obtain ⟨r, k2, h1, hF⟩ := hput (n / 16 % 6) (n / 16 / 6 % 24) (1 + n / 16 / 144 % 6) (by omega) (by omega) (by omega) (by omega)
    exact ⟨r, k2, h1, fun ca v hv9 => kQ_of (U := CV) (Φ := f_1 k) (wc := w_1 cs ca) (cc := cL_act) (maxL := 4) (ret := some .int) (by decide) rfl (Nat.le_of_ble_eq_true rfl) (fun p e s m below meth c A hE => act_h1 hfl hn hN n0 hv hE (act_80 hfl hn hN hF hE (fun lv pc cells slots h1 h2 hd => KX_ret (w1 := w_1 cs ca) hE rfl rfl (fun u hu => ⟨u, hu, List.Perm.refl _⟩) h1 h2 hd))) v hv9⟩
  · obtain ⟨r, k2, h1, hF⟩ := hput (n / 16 % 6) (n / 16 / 6 % 24) (1 + n / 16 / 144 % 6) (by omega) (by omega) (by omega) (by omega)
    exact ⟨r, k2, h1, fun ca v hv9 => kQ_of (U := CV) (Φ := f_1 k) (wc := w_1 cs ca) (cc := cL_act) (maxL := 4) (ret := some .int) (by decide) rfl (Nat.le_of_ble_eq_true rfl) (fun p e s m below meth c A hE => act_h2 hfl hn hN n0 hv hE (act_80 hfl hn hN hF hE (fun lv pc cells slots h1 h2 hd => KX_ret (w1 := w_1 cs ca) hE rfl rfl (fun u hu => ⟨u, hu, List.Perm.refl _⟩) h1 h2 hd))) v hv9⟩
  · obtain ⟨r, k2, h1, hF⟩ := hput (n / 16 % 6) (n / 16 / 6 % 24) (1 + n / 16 / 144 % 6) (by omega) (by omega) (by omega) (by omega)
    exact ⟨r, k2, h1, fun ca v hv9 => kQ_of (U := CV) (Φ := f_1 k) (wc := w_1 cs ca) (cc := cL_act) (maxL := 4) (ret := some .int) (by decide) rfl (Nat.le_of_ble_eq_true rfl) (fun p e s m below meth c A hE => act_h3 hfl hn hN n0 hv hE (act_80 hfl hn hN hF hE (fun lv pc cells slots h1 h2 hd => KX_ret (w1 := w_1 cs ca) hE rfl rfl (fun u hu => ⟨u, hu, List.Perm.refl _⟩) h1 h2 hd))) v hv9⟩
  · obtain ⟨r, k2, h1, hF⟩ := hput (n / 16 % 6) (n / 16 / 6 % 24) (1 + n / 16 / 144 % 6) (by omega) (by omega) (by omega) (by omega)
    exact ⟨r, k2, h1, fun ca v hv9 => kQ_of (U := CV) (Φ := f_1 k) (wc := w_1 cs ca) (cc := cL_act) (maxL := 4) (ret := some .int) (by decide) rfl (Nat.le_of_ble_eq_true rfl) (fun p e s m below meth c A hE => act_h4 hfl hn hN n0 hv hE (act_80 hfl hn hN hF hE (fun lv pc cells slots h1 h2 hd => KX_ret (w1 := w_1 cs ca) hE rfl rfl (fun u hu => ⟨u, hu, List.Perm.refl _⟩) h1 h2 hd))) v hv9⟩
  · by_cases hN0 : N = 0
    · obtain ⟨r, k2, h1, hF⟩ := hpull (n / 16 % 6) (n / 16 / 6 % 24) (by omega) (by omega)
      exact ⟨r, k2, h1, fun ca v hv9 => kQ_of (U := CV) (Φ := f_1 k) (wc := w_1 cs ca) (cc := cL_act) (maxL := 4) (ret := some .int) (by decide) rfl (Nat.le_of_ble_eq_true rfl) (fun p e s m below meth c A hE => act_h5 hfl hn hN n0 hv hE (act_108b hfl hn hN hF hN0 hE (fun lv pc cells slots h1 h2 hd => KX_ret (w1 := w_1 cs ca) hE rfl rfl (fun u hu => ⟨u, hu, List.Perm.refl _⟩) h1 h2 hd))) v hv9⟩
    by_cases h144 : n / 16 / 144 % 3 = 0
    · obtain ⟨r, k2, h1, hF⟩ := hpull (n / 16 % 6) (n / 16 / 6 % 24) (by omega) (by omega)
      exact ⟨r, k2, h1, fun ca v hv9 => kQ_of (U := CV) (Φ := f_1 k) (wc := w_1 cs ca) (cc := cL_act) (maxL := 4) (ret := some .int) (by decide) rfl (Nat.le_of_ble_eq_true rfl) (fun p e s m below meth c A hE => act_h5 hfl hn hN n0 hv hE (act_108c hfl hn hN hF (by omega) h144 hE (fun lv pc cells slots h1 h2 hd => KX_ret (w1 := w_1 cs ca) hE rfl rfl (fun u hu => ⟨u, hu, List.Perm.refl _⟩) h1 h2 hd))) v hv9⟩
    · have hkN : n / 16 % N < N := Nat.mod_lt _ (by omega)
      obtain ⟨p1, p2, p3, p4, p5, p6, -⟩ := hvp _ hkN
      obtain ⟨r, k2, h1, hF⟩ := hpull _ _ p1 p2
      exact ⟨r, k2, h1, fun ca v hv9 => kQ_of (U := CV) (Φ := f_1 k) (wc := w_1 cs ca) (cc := cL_act) (maxL := 4) (ret := some .int) (by decide) rfl (Nat.le_of_ble_eq_true rfl) (fun p e s m below meth c A hE => act_h5 hfl hn hN n0 hv hE (act_108a hfl hn hN (fun cv hq => (F_peg (w := 0) n0 hN hkN (by omega) cv hq).imp id (fun z => z.trans p5)) (fun cv hq => (F_peg (w := 1) n0 hN hkN (by omega) cv hq).imp id (fun z => z.trans p6)) hF (by omega) h144 hE (fun lv pc cells slots h1 h2 hd => KX_ret (w1 := w_1 cs ca) hE rfl rfl (fun u hu => ⟨u, hu, List.Perm.refl _⟩) h1 h2 hd))) v hv9⟩
  · by_cases hN0 : N = 0
    · obtain ⟨r, k2, h1, hF⟩ := hpull (n / 16 % 6) (n / 16 / 6 % 24) (by omega) (by omega)
      exact ⟨r, k2, h1, fun ca v hv9 => kQ_of (U := CV) (Φ := f_1 k) (wc := w_1 cs ca) (cc := cL_act) (maxL := 4) (ret := some .int) (by decide) rfl (Nat.le_of_ble_eq_true rfl) (fun p e s m below meth c A hE => act_h6 hfl hn hN n0 hv hE (act_108b hfl hn hN hF hN0 hE (fun lv pc cells slots h1 h2 hd => KX_ret (w1 := w_1 cs ca) hE rfl rfl (fun u hu => ⟨u, hu, List.Perm.refl _⟩) h1 h2 hd))) v hv9⟩
    by_cases h144 : n / 16 / 144 % 3 = 0
    · obtain ⟨r, k2, h1, hF⟩ := hpull (n / 16 % 6) (n / 16 / 6 % 24) (by omega) (by omega)
      exact ⟨r, k2, h1, fun ca v hv9 => kQ_of (U := CV) (Φ := f_1 k) (wc := w_1 cs ca) (cc := cL_act) (maxL := 4) (ret := some .int) (by decide) rfl (Nat.le_of_ble_eq_true rfl) (fun p e s m below meth c A hE => act_h6 hfl hn hN n0 hv hE (act_108c hfl hn hN hF (by omega) h144 hE (fun lv pc cells slots h1 h2 hd => KX_ret (w1 := w_1 cs ca) hE rfl rfl (fun u hu => ⟨u, hu, List.Perm.refl _⟩) h1 h2 hd))) v hv9⟩
    · have hkN : n / 16 % N < N := Nat.mod_lt _ (by omega)
      obtain ⟨p1, p2, p3, p4, p5, p6, -⟩ := hvp _ hkN
      obtain ⟨r, k2, h1, hF⟩ := hpull _ _ p1 p2
      exact ⟨r, k2, h1, fun ca v hv9 => kQ_of (U := CV) (Φ := f_1 k) (wc := w_1 cs ca) (cc := cL_act) (maxL := 4) (ret := some .int) (by decide) rfl (Nat.le_of_ble_eq_true rfl) (fun p e s m below meth c A hE => act_h6 hfl hn hN n0 hv hE (act_108a hfl hn hN (fun cv hq => (F_peg (w := 0) n0 hN hkN (by omega) cv hq).imp id (fun z => z.trans p5)) (fun cv hq => (F_peg (w := 1) n0 hN hkN (by omega) cv hq).imp id (fun z => z.trans p6)) hF (by omega) h144 hE (fun lv pc cells slots h1 h2 hd => KX_ret (w1 := w_1 cs ca) hE rfl rfl (fun u hu => ⟨u, hu, List.Perm.refl _⟩) h1 h2 hd))) v hv9⟩
  · by_cases hk : n / 16 % 12 < M
    · exact ⟨_, _, CI_psh hc12 (EI_drop hRC hk hc12.1).1, fun ca v hv9 => kQ_of (U := CV) (Φ := f_1 k) (wc := w_1 cs ca) (cc := cL_act) (maxL := 4) (ret := some .int) (by decide) rfl (Nat.le_of_ble_eq_true rfl) (fun p e s m below meth c A hE => act_h7 hfl hn hN n0 hv hE (act_171 hfl hn hN (fun cv hq => Q_cancel hq m0 hM hk) hE (fun lv pc cells slots h1 h2 hd => KX_ret (w1 := w_1 cs ca) hE rfl rfl (fun u hu => ⟨u, hu, List.Perm.refl _⟩) h1 h2 hd))) v hv9⟩
    · exact ⟨_, k, hc12, fun ca v hv9 => kQ_of (U := CV) (Φ := f_1 k) (wc := w_1 cs ca) (cc := cL_act) (maxL := 4) (ret := some .int) (by decide) rfl (Nat.le_of_ble_eq_true rfl) (fun p e s m below meth c A hE => act_h7 hfl hn hN n0 hv hE (act_171 hfl hn hN (fun cv hq => Q_cancel_x hq (isO_x m0 hM (by rw [nI_toInt (by omega)]; omega))) hE (fun lv pc cells slots h1 h2 hd => KX_ret (w1 := w_1 cs ca) hE rfl rfl (fun u hu => ⟨u, hu, List.Perm.refl _⟩) h1 h2 hd))) v hv9⟩
  · obtain ⟨r, k2, h1, hF⟩ := hset 0 (n / 16 % 4) (Or.inl ⟨rfl, by omega⟩) (by omega)
    exact ⟨r, k2, h1, fun ca v hv9 => kQ_of (U := CV) (Φ := f_1 k) (wc := w_1 cs ca) (cc := cL_act) (maxL := 4) (ret := some .int) (by decide) rfl (Nat.le_of_ble_eq_true rfl) (fun p e s m below meth c A hE => act_h8 hfl hn hN n0 hv hE (act_184 hfl hn hN hF hE (fun lv pc cells slots h1 h2 hd => KX_ret (w1 := w_1 cs ca) hE rfl rfl (fun u hu => ⟨u, hu, List.Perm.refl _⟩) h1 h2 hd))) v hv9⟩
  · rcases Nat.mod_two_eq_zero_or_one (n / 16) with hp | hp
    · obtain ⟨r, k2, h1, hF⟩ := hset 1 (n / 16 / 2 % 10) (Or.inr (Or.inl ⟨rfl, by omega⟩)) (by omega)
      exact ⟨r, k2, h1, fun ca v hv9 => kQ_of (U := CV) (Φ := f_1 k) (wc := w_1 cs ca) (cc := cL_act) (maxL := 4) (ret := some .int) (by decide) rfl (Nat.le_of_ble_eq_true rfl) (fun p e s m below meth c A hE => act_h9 hfl hn hN n0 hv hE (act_196e hfl hn hN hF hp hE (fun lv pc cells slots h1 h2 hd => KX_ret (w1 := w_1 cs ca) hE rfl rfl (fun u hu => ⟨u, hu, List.Perm.refl _⟩) h1 h2 hd))) v hv9⟩
    · obtain ⟨r, k2, h1, hF⟩ := hset 2 (n / 16 / 2 % 61) (Or.inr (Or.inr ⟨rfl, by omega⟩)) (by omega)
      exact ⟨r, k2, h1, fun ca v hv9 => kQ_of (U := CV) (Φ := f_1 k) (wc := w_1 cs ca) (cc := cL_act) (maxL := 4) (ret := some .int) (by decide) rfl (Nat.le_of_ble_eq_true rfl) (fun p e s m below meth c A hE => act_h9 hfl hn hN n0 hv hE (act_196o hfl hn hN hF hp hE (fun lv pc cells slots h1 h2 hd => KX_ret (w1 := w_1 cs ca) hE rfl rfl (fun u hu => ⟨u, hu, List.Perm.refl _⟩) h1 h2 hd))) v hv9⟩
  · have hT2 : ∀ cv, QR cv k → QR (k_X5_about cv 2).2.2 k ∧ aX (k_X5_about cv 2) = nI (gA k.1 2) := fun cv hq => (F_about (i := 2) (by omega) cv hq).imp id (fun z => z.trans hc.1.1.1)
    have hT3 := hc.1.1.2
    by_cases htt : gA k.1 2 < 2
    · exact ⟨-1, k, hc12, fun ca v hv9 => kQ_of (U := CV) (Φ := f_1 k) (wc := w_1 cs ca) (cc := cL_act) (maxL := 4) (ret := some .int) (by decide) rfl (Nat.le_of_ble_eq_true rfl) (fun p e s m below meth c A hE => act_h10 hfl hn hN n0 hv hE (act_234a hfl hn hN hT2 htt rfl rfl hE (fun lv pc cells slots h1 h2 hd => KX_ret (w1 := w_1 cs ca) hE rfl rfl (fun u hu => ⟨u, hu, List.Perm.refl _⟩) h1 h2 hd))) v hv9⟩
    · by_cases h0 : k.2.1.1 = 0
      · exact ⟨_, k, hc12, fun ca v hv9 => kQ_of (U := CV) (Φ := f_1 k) (wc := w_1 cs ca) (cc := cL_act) (maxL := 4) (ret := some .int) (by decide) rfl (Nat.le_of_ble_eq_true rfl) (fun p e s m below meth c A hE => act_h10 hfl hn hN n0 hv hE (act_234b hfl hn hN hT2 (by omega) (by omega) (fun cv hq => Q_undo_x hq h0) hE (fun lv pc cells slots h1 h2 hd => KX_ret (w1 := w_1 cs ca) hE rfl rfl (fun u hu => ⟨u, hu, List.Perm.refl _⟩) h1 h2 hd))) v hv9⟩
      · exact ⟨_, _, CI_unc h0 hc12, fun ca v hv9 => kQ_of (U := CV) (Φ := f_1 k) (wc := w_1 cs ca) (cc := cL_act) (maxL := 4) (ret := some .int) (by decide) rfl (Nat.le_of_ble_eq_true rfl) (fun p e s m below meth c A hE => act_h10 hfl hn hN n0 hv hE (act_234b hfl hn hN hT2 (by omega) (by omega) (fun cv hq => Q_undo hq h0) hE (fun lv pc cells slots h1 h2 hd => KX_ret (w1 := w_1 cs ca) hE rfl rfl (fun u hu => ⟨u, hu, List.Perm.refl _⟩) h1 h2 hd))) v hv9⟩
  · rcases Nat.mod_two_eq_zero_or_one (n / 16) with hp | hp
    · exact ⟨_, _, CI_svc hc12, fun ca v hv9 => kQ_of (U := CV) (Φ := f_1 k) (wc := w_1 cs ca) (cc := cL_act) (maxL := 4) (ret := some .int) (by decide) rfl (Nat.le_of_ble_eq_true rfl) (fun p e s m below meth c A hE => act_h11 hfl hn hN n0 hv hE (act_260e hfl hn hN (fun cv hq => Q_save hq (k := n / 16 / 2 % 2) (by omega)) hp hE (fun lv pc cells slots h1 h2 hd => KX_ret (w1 := w_1 cs ca) hE rfl rfl (fun u hu => ⟨u, hu, List.Perm.refl _⟩) h1 h2 hd))) v hv9⟩
    · rcases Q_slot hq0 (k := n / 16 / 2 % 2) (by omega) with hs | hs
      · exact ⟨_, k, hc12, fun ca v hv9 => kQ_of (U := CV) (Φ := f_1 k) (wc := w_1 cs ca) (cc := cL_act) (maxL := 4) (ret := some .int) (by decide) rfl (Nat.le_of_ble_eq_true rfl) (fun p e s m below meth c A hE => act_h11 hfl hn hN n0 hv hE (act_260o hfl hn hN (fun cv hq => Q_restore_s hq (by omega) hs) hp hE (fun lv pc cells slots h1 h2 hd => KX_ret (w1 := w_1 cs ca) hE rfl rfl (fun u hu => ⟨u, hu, List.Perm.refl _⟩) h1 h2 hd))) v hv9⟩
      · exact ⟨_, _, CI_rsc (by omega) hs hc12, fun ca v hv9 => kQ_of (U := CV) (Φ := f_1 k) (wc := w_1 cs ca) (cc := cL_act) (maxL := 4) (ret := some .int) (by decide) rfl (Nat.le_of_ble_eq_true rfl) (fun p e s m below meth c A hE => act_h11 hfl hn hN n0 hv hE (act_260o hfl hn hN (fun cv hq => Q_restore hq (by omega) hs) hp hE (fun lv pc cells slots h1 h2 hd => KX_ret (w1 := w_1 cs ca) hE rfl rfl (fun u hu => ⟨u, hu, List.Perm.refl _⟩) h1 h2 hd))) v hv9⟩
  · obtain ⟨d, hd, hF⟩ := R_ticks hq0 (v := 1 + n / 16 % 12) (by omega) (by omega)
    obtain ⟨e1, -⟩ := EI_it hR hc.1 (1 + n / 16 % 12) (by omega)
    exact ⟨_, _, CI_psh hc12 (EI_mono (by omega) e1), fun ca v hv9 => kQ_of (U := CV) (Φ := f_1 k) (wc := w_1 cs ca) (cc := cL_act) (maxL := 4) (ret := some .int) (by decide) rfl (Nat.le_of_ble_eq_true rfl) (fun p e s m below meth c A hE => act_h12 hfl hn hN n0 hv hE (act_296 hfl hn hN hF hE (fun lv pc cells slots h1 h2 hd => KX_ret (w1 := w_1 cs ca) hE rfl rfl (fun u hu => ⟨u, hu, List.Perm.refl _⟩) h1 h2 hd))) v hv9⟩
