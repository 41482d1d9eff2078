/-! The law's rounds: the layer. -/
abbrev lwA (s : State) : Nat → Prop := fun q => s.heap.size ≤ q
def lwW (cs : Nat → ClassId) (ca : Nat → Nat → Nat) (ma : Nat → Nat) (oa : Nat) (cv : CV) (mv : MV) (f : Nat → Int64) : va_W := (lo cs oa f :: ca_W cs ca cv) ++ md_W cs ma mv
theorem cdx_ne {E : String} : ∀ (L : List String) (n : Nat), 1 ≤ n → n + L.length ≤ 100 → E ∈ L → cdx L E n ≠ 0 := by
  intro L
  induction L with
  | nil => intro n h1 h2 h; exact absurd h List.not_mem_nil
  | cons a L ih =>
    intro n h1 h2 h
    rw [List.length_cons] at h2
    unfold cdx
    by_cases c : a = E
    · rw [if_pos c]
      exact fun q => absurd ((nI_eq (b := 0) (by omega) (by omega)).mp q) (by omega)
    · rw [if_neg c]
      exact ih (n + 1) (by omega) (by omega) ((List.mem_cons.mp h).resolve_left (fun q => c q.symm))
theorem cod_0 {L : List String} {x : Option String} (h2 : L.length ≤ 50) (hL : ∀ E, x = some E → E ∈ L) (h : cod L x = 0) : x = none := by
  cases x with
  | none => rfl
  | some E => exact absurd h (cdx_ne L 1 (by omega) (by omega) (hL E rfl))
section KR
variable {p : Program} {l : Launch} {e : Env} {R : Room} {s : State} {m : MethodId} {args : Array Value} {below : List Frame} {meth : Method} {c : Code} {H : Heap} {locs : List Loc} {cells slots : Nat} {Q : State → Prop}
variable {D : va_G} {cs : Nat → ClassId} {wc wr : va_W} {A : Nat → Prop} {y y2 : MethodName} {ws ws2 : List Cond} {rm2 : Room} {mc2 ms2 n index : Nat} {cc bytes2 : ByteArray} {maxL maxL2 : Nat} {ret ret2 : Option FieldType} {As rest st0 : List Value} {pc : Nat} {ls : Array Slot} {lv : List (Nat × Value)} {own : String} {Qc2 : Array Value → State → Outcome → State → Prop} {hh : List (Nat × Nat × Nat × Nat)}
theorem k_preL (hE : kE p s m args meth c D cs y ws cc maxL ret A) (hX : XA s) {as2 : List Value} (hP : va_P D vwCl (wc ++ wr) H) (hD : va_D A (wc ++ wr)) (hS : va_S A s.heap H locs) : ∀ U : State, U.heap = H → s.WarmedH U.vm → kPL D cs as2 wc H.size as2.toArray U := by
  intro U hU hW
  obtain ⟨h0, h1⟩ := k_pre (as2 := as2) hE hP hD hS U hU hW
  exact ⟨h0, h1, XA.moved hW.alike hX⟩
theorem k_rL (hE : kE p s m args meth c D cs y ws cc maxL ret A) (hX : XA s) (ho : own = y.cls) (hM : Met l y2 ws2 rm2 (kPL D cs As wc H.size) Qc2 mc2 ms2 (va_A wc H.size)) (cw : vx_CSW R s args own index y2 bytes2 maxL2 ret2 hh ws2 rm2 mc2 ms2 n)
    (hP : va_P D vwCl (wc ++ wr) H) (hD : va_D A (wc ++ wr)) (hS : va_S A s.heap H locs)
    (hn : As.length = n) (hl : lv_has ls maxL lv) (hst : st0 = As.reverse ++ rest) (hrm : (rest.map fun v => v.category).sum ≤ 8) (hf : cells + mc2 ≤ R.cells ∧ slots + ms2 ≤ R.slots) (hdg : decode cc pc = .ok (.invokestatic index, 3)) :
    va_Run p l e R s m args below meth c H locs cells slots mc2 ms2 (F0 m pc ls st0) rest (Qc2 As.toArray) (va_A wc H.size) :=
  vx_runSW (k_fix hE ho) hM cw ⟨kPL_blind, k_preL hE hX hP hD hS⟩ rfl hn hl.1 hst (lv_room hrm) hdg hf
end KR
/-- what a round comes to -/
def lawK (p : Program) (l : Launch) (e : Env) (s : State) (m : MethodId) (below : List Frame) (meth : Method) (c : Code) (D : va_G) (cs : Nat → ClassId) (ca : Nat → Nat → Nat) (ma : Nat → Nat) (oa b i cells slots : Nat) (Q : State → Prop) : Prop :=
  ∀ (cv : CV) (mv : MV) (f : Nat → Int64) (H : Heap) (locs : List Loc) (ls : Array Slot), TRel cv mv → va_S (lwA s) s.heap H locs → va_P D vwCl (lwW cs ca ma oa cv mv f) H → va_D (lwA s) (lwW cs ca ma oa cv mv f) → lv_has ls 7 [(0, .ref b), (1, .ref (ca 0 0)), (2, .ref (ma 0)), (3, .ref oa), (4, .int (nI i))] → W p l e room_1 s m #[Value.ref b] below meth c H locs cells slots Q (F0 m 1643 ls [])
