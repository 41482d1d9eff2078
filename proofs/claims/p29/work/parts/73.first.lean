/-! The first states stand in relation. -/
theorem s00_at (i : Nat) : s00 i = if i = 14 then 20 else if i = 12 then 1 else 0 := by
  unfold s00
  rw [clear_at]
  by_cases h1 : i = 14
  · rw [if_pos h1, if_pos h1]
  rw [if_neg h1, if_neg h1]
  by_cases h2 : i = 12
  · rw [if_pos h2, if_pos h2]
  rw [if_neg h2, if_neg h2]
  by_cases h3 : i < 217
  · rw [if_pos h3]
  · rw [if_neg h3]
theorem s00_z {i : Nat} (h1 : i ≠ 14) (h2 : i ≠ 12) : s00 i = 0 := by rw [s00_at, if_neg h1, if_neg h2]
theorem bt_z : ∀ j, j < 32 → bt 0 j = false := by decide +kernel
theorem sa_z : ∀ j, j < 10 → k_X1_soundedAgo ov0 (nI j) = 0 := by decide +kernel
theorem first_RF : RF ov0 s00 := by
  refine ⟨0, 0, ⟨⟨⟨s00_z (by omega) (by omega), by omega, rfl⟩, ⟨s00_z (by omega) (by omega), by omega, rfl⟩, fun i hi => absurd hi (by omega), fun k hk => absurd hk (by omega), fun k hk => absurd hk (by omega), fun p hp j hj => ?_, fun k hk => absurd hk (by omega), fun k hk => absurd hk (by omega)⟩, ⟨fun j hj => ?_, fun j hj => ?_, fun j hj => ?_, ⟨1, by omega, ?_⟩, ⟨0, by omega, ?_⟩, ⟨20, by omega, ?_⟩⟩, ⟨(s00_z (by omega) (by omega)).symm, ?_, fun j hj => ?_⟩, ?_⟩, fun j hj => absurd hj (by omega)⟩
  · show bt 0 j = _
    rw [bt_z j hj]
    unfold cvs
    rw [show List.range 0 = [] from rfl, List.any_nil, Bool.and_false]
  · exact (s00_z (by omega) (by omega)).symm
  · exact (s00_z (by omega) (by omega)).symm
  · rcases (show j = 0 ∨ j = 1 ∨ j = 2 by omega) with rfl | rfl | rfl
    · rw [s00_at]; decide
    · rw [s00_at]; decide
    · rw [s00_at]; decide
  · rw [s00_at]; decide
  · rw [s00_at]; decide
  · rw [s00_at]; decide
  · rw [s00_z (by omega) (by omega), s00_z (by omega) (by omega)]
  · rw [sa_z j hj, s00_z (by omega) (by omega)]
  · exact ⟨(s00_z (by omega) (by omega)).symm, (s00_z (by omega) (by omega)).symm, (s00_z (by omega) (by omega)).symm, (s00_z (by omega) (by omega)).symm, (s00_z (by omega) (by omega)).symm, (s00_z (by omega) (by omega)).symm, (s00_z (by omega) (by omega)).symm, (s00_z (by omega) (by omega)).symm, 0, by omega, s00_z (by omega) (by omega)⟩
def mv0 : MV := (fun _ => 0, fun k => if k = 1 then k_X6_clear (fun _ => 0) else fun _ => 0)
theorem mv_g {C : Nat → Int32} : (((fun _ => 0), fun k => if k = 1 then C else fun _ => 0) : MV).2 1 = C := rfl
theorem mv_1 : mv0.2 1 = s00 := by
  unfold mv0 s00
  generalize k_X6_clear (fun _ => 0) = C
  exact mv_g
theorem first_T : TRel c00 mv0 := by
  have e1 : mv0.2 1 = s00 := mv_1
  have h5 : ∀ i, mv0.2 5 i = 0 := fun i => rfl
  refine ⟨⟨0, by omega, rfl, rfl, fun i hi => absurd hi (by omega)⟩, ⟨fun k hk => RF_OI first_RF, fun k => ⟨?_, ?_⟩, ?_, ?_⟩, ?_, first_RF, ⟨0, 0, by omega, by omega, rfl, rfl, rfl, fun j hj => absurd hj (by omega)⟩, fun i hi => Or.inl ⟨rfl, h5 i⟩⟩
  · show 0 ≤ (0 : Int32).toInt
    decide
  · show (0 : Int32).toInt ≤ 255
    decide
  · show 0 ≤ (0 : Int32).toInt
    decide
  · show (0 : Int32).toInt ≤ 13
    decide
  · rw [e1]
    exact first_RF
