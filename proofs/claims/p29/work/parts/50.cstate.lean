/-! The class's whole state, and its cells. -/
abbrev CV : Type := RV × (Nat → OV) × (Nat → Int32) × (Nat → Int32)
def c_r (cv : CV) (r : RV) : CV := (r, cv.2)
def c_o (cv : CV) (k : Nat) (o : OV) : CV := (cv.1, va_up cv.2.1 k o, cv.2.2)
def c_s (cv : CV) (k : Nat) (v : Int32) : CV := (cv.1, cv.2.1, va_up cv.2.2.1 k v, cv.2.2.2)
def c_z (cv : CV) (row : Nat → Int32) : CV := (cv.1, cv.2.1, cv.2.2.1, row)
def ca_t (cs : Nat → ClassId) (ca : Nat → Nat → Nat) (cv : CV) : va_W := [(ca 2 0, .inr (0, [.ref (ca 2 1), .int (cv.2.2.1 0), .int (cv.2.2.1 1)])), (ca 2 1, .inl (cs 3, 14, .inr (.inr (.inr (.inr (fun j => some (ca (10 + (3 + j)) 0))))))), (ca 3 0, .inr (3, [.ref (ca 3 1), .ref (ca 3 2)])), (ca 3 1, .inl (cs 3, 2, .inr (.inr (.inr (.inr (fun j => some (ca (10 + (17 + j)) 0))))))), (ca 3 2, .inl (cs 2, 2, .inl cv.2.2.2))]
def ca_0 (ca : Nat → Nat → Nat) : Nat × va_E := (ca 0 0, .inr (5, [.ref (ca 1 0), .ref (ca 10 0), .ref (ca 11 0), .ref (ca 12 0), .ref (ca 2 0), .ref (ca 3 0)]))
def ca_os (cs : Nat → ClassId) (ca : Nat → Nat → Nat) (cv : CV) (L : List Nat) : va_W := L.flatMap (fun k => og_W cs (ca (10 + k)) (cv.2.1 k))
def ca_W (cs : Nat → ClassId) (ca : Nat → Nat → Nat) (cv : CV) : va_W := ca_0 ca :: (rl_W cs (ca 1) cv.1 ++ (ca_t cs ca cv ++ ca_os cs ca cv (List.range 19)))
/-- all but the roll; all but an organ; all but two -/
def ca_rr (cs : Nat → ClassId) (ca : Nat → Nat → Nat) (cv : CV) : va_W := ca_0 ca :: (ca_t cs ca cv ++ ca_os cs ca cv (List.range 19))
def ca_ro (cs : Nat → ClassId) (ca : Nat → Nat → Nat) (cv : CV) (k : Nat) : va_W := ca_0 ca :: (rl_W cs (ca 1) cv.1 ++ (ca_t cs ca cv ++ ca_os cs ca cv ((List.range 19).erase k)))
def ca_r2 (cs : Nat → ClassId) (ca : Nat → Nat → Nat) (cv : CV) (k j : Nat) : va_W := ca_0 ca :: (rl_W cs (ca 1) cv.1 ++ (ca_t cs ca cv ++ ca_os cs ca cv (((List.range 19).erase k).erase j)))
theorem va_Pm {D : va_G} {cl : List vw_C} {w : va_W} {H : Heap} : va_P D cl w H ↔ ∀ q ∈ w, va_at D cl q H := by
  constructor
  · intro h q hq
    obtain ⟨k, hk⟩ := List.getElem?_of_mem hq
    exact h k q hk
  · intro h k q hk
    exact h q (List.mem_of_getElem? hk)
theorem va_Dm {A : Nat → Prop} {w : va_W} : va_D A w ↔ (w.map (·.1)).Nodup ∧ ∀ q ∈ w, A q.1 := by
  constructor
  · intro h
    refine ⟨?_, fun q hq => ?_⟩
    · rw [List.nodup_iff_pairwise_ne, List.pairwise_iff_getElem]
      intro i j hi hj hij e
      rw [List.getElem_map, List.getElem_map] at e
      have hi' : i < w.length := by simpa using hi
      have hj' : j < w.length := by simpa using hj
      have := h.1 i j w[i] w[j] (List.getElem?_eq_getElem hi') (List.getElem?_eq_getElem hj') e
      omega
    · obtain ⟨k, hk⟩ := List.getElem?_of_mem hq
      exact h.2 k q hk
  · intro h
    refine ⟨?_, fun k q hk => h.2 q (List.mem_of_getElem? hk)⟩
    intro i j p q hp hq e
    have h1 := h.1
    rw [List.nodup_iff_pairwise_ne, List.pairwise_iff_getElem] at h1
    obtain ⟨hi, hpi⟩ := List.getElem?_eq_some_iff.mp hp
    obtain ⟨hj, hqj⟩ := List.getElem?_eq_some_iff.mp hq
    rcases Nat.lt_trichotomy i j with c | c | c
    · exact absurd (by rw [List.getElem_map, List.getElem_map, hpi, hqj]; exact e) (h1 i j (by simpa using hi) (by simpa using hj) c)
    · exact c
    · exact absurd (by rw [List.getElem_map, List.getElem_map, hpi, hqj]; exact e.symm) (h1 j i (by simpa using hj) (by simpa using hi) c)
theorem pmP {D : va_G} {cl : List vw_C} {w w2 : va_W} {H : Heap} (h : w.Perm w2) (hP : va_P D cl w H) : va_P D cl w2 H := va_Pm.mpr (fun q hq => va_Pm.mp hP q (h.mem_iff.mpr hq))
theorem pmD {A : Nat → Prop} {w w2 : va_W} (h : w.Perm w2) (hD : va_D A w) : va_D A w2 := va_Dm.mpr ⟨((h.map (·.1)).nodup_iff).mp (va_Dm.mp hD).1, fun q hq => (va_Dm.mp hD).2 q (h.mem_iff.mpr hq)⟩
theorem ca_mid {a : Nat × va_E} {r t x y : va_W} (h : x.Perm y) : (a :: (r ++ (t ++ x))).Perm (a :: (r ++ (t ++ y))) := ((h.append_left t).append_left r).cons a
theorem ca_out {a : Nat × va_E} {r t x y : va_W} : (a :: (r ++ (t ++ (x ++ y)))).Perm (x ++ (a :: (r ++ (t ++ y)))) := by
  have h1 : (a :: (r ++ (t ++ (x ++ y)))) = ((a :: r) ++ t) ++ (x ++ y) := by simp
  have h2 : x ++ (a :: (r ++ (t ++ y))) = x ++ (((a :: r) ++ t) ++ y) := by simp
  rw [h1, h2]
  exact List.perm_append_comm_assoc _ _ _
theorem ca_oneP {cs : Nat → ClassId} {ca : Nat → Nat → Nat} {cv : CV} {k : Nat} {L : List Nat} (hk : k ∈ L) : (ca_os cs ca cv L).Perm (og_W cs (ca (10 + k)) (cv.2.1 k) ++ ca_os cs ca cv (L.erase k)) := by
  have h := (List.perm_cons_erase hk).flatMap_right (fun j => og_W cs (ca (10 + j)) (cv.2.1 j))
  exact h
theorem ca_os_up {cs : Nat → ClassId} {ca : Nat → Nat → Nat} {cv : CV} {k : Nat} {o : OV} {L : List Nat} (hk : k ∉ L) : ca_os cs ca (c_o cv k o) L = ca_os cs ca cv L := by
  unfold ca_os
  rw [List.flatMap_def, List.flatMap_def]
  congr 1
  refine List.map_congr_left (fun j hj => ?_)
  have : j ≠ k := fun e => hk (e ▸ hj)
  show og_W cs (ca (10 + j)) (va_up cv.2.1 k o j) = _
  rw [show va_up cv.2.1 k o j = cv.2.1 j from if_neg this]
theorem r19 : (List.range 19).Nodup := List.nodup_range
theorem ca_pm1 {cs : Nat → ClassId} {ca : Nat → Nat → Nat} {cv : CV} {k : Nat} (hk : k < 19) : (ca_W cs ca cv).Perm (og_W cs (ca (10 + k)) (cv.2.1 k) ++ ca_ro cs ca cv k) :=
  (ca_mid (ca_oneP (List.mem_range.mpr hk))).trans ca_out
theorem ca_ro_up {cs : Nat → ClassId} {ca : Nat → Nat → Nat} {cv : CV} {k : Nat} {o : OV} : ca_ro cs ca (c_o cv k o) k = ca_ro cs ca cv k := by
  unfold ca_ro
  rw [ca_os_up (fun h => (List.Nodup.not_mem_erase r19) h)]
  rfl
theorem ca_bk1 {cs : Nat → ClassId} {ca : Nat → Nat → Nat} {cv : CV} {k : Nat} {o : OV} (hk : k < 19) : (og_W cs (ca (10 + k)) o ++ ca_ro cs ca cv k).Perm (ca_W cs ca (c_o cv k o)) := by
  have h := ca_pm1 (cs := cs) (ca := ca) (cv := c_o cv k o) hk
  rw [ca_ro_up, show (c_o cv k o).2.1 k = o from if_pos rfl] at h
  exact h.symm
theorem ca_pm2 {cs : Nat → ClassId} {ca : Nat → Nat → Nat} {cv : CV} {k j : Nat} (hk : k < 19) (hj : j < 19) (hkj : j ≠ k) : (ca_W cs ca cv).Perm ((og_W cs (ca (10 + k)) (cv.2.1 k) ++ og_W cs (ca (10 + j)) (cv.2.1 j)) ++ ca_r2 cs ca cv k j) := by
  have h1 := ca_pm1 (cs := cs) (ca := ca) (cv := cv) hk
  have h2 : (ca_ro cs ca cv k).Perm (og_W cs (ca (10 + j)) (cv.2.1 j) ++ ca_r2 cs ca cv k j) := (ca_mid (ca_oneP ((List.mem_erase_of_ne hkj).mpr (List.mem_range.mpr hj)))).trans ca_out
  rw [List.append_assoc]
  exact h1.trans (h2.append_left _)
theorem ca_r2_up {cs : Nat → ClassId} {ca : Nat → Nat → Nat} {cv : CV} {k j : Nat} {o : OV} : ca_r2 cs ca (c_o cv k o) k j = ca_r2 cs ca cv k j := by
  unfold ca_r2
  rw [ca_os_up (fun h => (List.Nodup.not_mem_erase r19) (List.mem_of_mem_erase h))]
  rfl
theorem ca_bk2 {cs : Nat → ClassId} {ca : Nat → Nat → Nat} {cv : CV} {k j : Nat} {o : OV} (hk : k < 19) (hj : j < 19) (hkj : j ≠ k) : ((og_W cs (ca (10 + k)) o ++ og_W cs (ca (10 + j)) (cv.2.1 j)) ++ ca_r2 cs ca cv k j).Perm (ca_W cs ca (c_o cv k o)) := by
  have h := ca_pm2 (cs := cs) (ca := ca) (cv := c_o cv k o) hk hj hkj
  rw [ca_r2_up, show (c_o cv k o).2.1 k = o from if_pos rfl, show (c_o cv k o).2.1 j = cv.2.1 j from if_neg hkj] at h
  exact h.symm
theorem ca_pmr {cs : Nat → ClassId} {ca : Nat → Nat → Nat} {cv : CV} : (ca_W cs ca cv).Perm (rl_W cs (ca 1) cv.1 ++ ca_rr cs ca cv) := List.perm_middle.symm
theorem ca_bkr {cs : Nat → ClassId} {ca : Nat → Nat → Nat} {cv : CV} {r : RV} : (rl_W cs (ca 1) r ++ ca_rr cs ca cv).Perm (ca_W cs ca (c_r cv r)) := List.perm_middle
theorem og_pmP {cs : Nat → ClassId} {ad : Nat → Nat} {o : OV} : (og_W cs ad o).Perm (tb_W cs (ad 1) (ad 3) 4 30 120 (g_pt o) ++ og_rP cs ad o) := (List.perm_middle (l₁ := tb_W cs (ad 1) (ad 3) 4 30 120 (g_pt o))).symm
theorem og_pmO {cs : Nat → ClassId} {ad : Nat → Nat} {o : OV} : (og_W cs ad o).Perm (tb_W cs (ad 2) (ad 4) 5 12 60 (g_ot o) ++ og_rO cs ad o) := List.perm_append_comm_assoc [og_0 ad o, (ad 1, .inr (4, [.ref (ad 3), .int 4, .int 30, .int (o.1 10)])), (ad 3, .inl (cs 0, 120, .inl (o.2.2 0)))] (tb_W cs (ad 2) (ad 4) 5 12 60 (g_ot o)) _

/-! What every call of the class may take for granted. -/
def CO (cv : CV) : Prop := (∀ k, k < 19 → OI (cv.2.1 k)) ∧ RT cv.1 ∧ 0 ≤ (cv.2.2.1 0).toInt ∧ (cv.2.2.1 0).toInt ≤ 13
theorem CO_o {cv : CV} {k : Nat} {o : OV} (h : CO cv) (ho : OI o) : CO (c_o cv k o) := by
  refine ⟨fun j hj => ?_, h.2.1, h.2.2⟩
  show OI (va_up cv.2.1 k o j)
  unfold va_up
  split
  · exact ho
  · exact h.1 j hj
theorem CO_r {cv : CV} {r : RV} (h : CO cv) (hr : RT r) : CO (c_r cv r) := ⟨h.1, hr, h.2.2⟩
theorem CO_z {cv : CV} {z : Nat → Int32} (h : CO cv) : CO (c_z cv z) := h
theorem CO_s1 {cv : CV} {v : Int32} (h : CO cv) : CO (c_s cv 1 v) := h
theorem CO_s0 {cv : CV} {v : Int32} (h : CO cv) (h1 : 0 ≤ v.toInt) (h2 : v.toInt ≤ 13) : CO (c_s cv 0 v) := ⟨h.1, h.2.1, h1, h2⟩
theorem OI_copy {o q : OV} (h : OI q) : OI (k_X1_copyFrom o q) := h
theorem OI_s {o : OV} {v : Int32} (h : OI o) : OI (o_s o 9 v) := h
theorem OI_playL {o : OV} {vn : Int32} : ∀ (n : Nat) (i : Int32) (ow : OV) (r : Int32) (o2 : OV), k_X1_play_L16 o vn n i ow = (r, o2) → OI ow → OI o2 := by
  intro n
  induction n with
  | zero => intro i ow r o2 e h; cases e; exact h
  | succ n ih =>
    intro i ow r o2 e h
    rw [k_X1_play_L16] at e
    by_cases h1 : vn ≤ i
    · rw [if_pos h1] at e
      cases e
      exact h
    · rw [if_neg h1] at e
      unfold kbind at e
      exact ih _ _ _ _ e (OI_blow (OI_look (show OI _ from OI_crank (show OI _ from h))))
theorem OI_playE {o o2 : OV} {vn r : Int32} (e : k_X1_play o vn = (r, o2)) (h : OI o) : OI o2 := by
  unfold k_X1_play at e
  by_cases h1 : k_X5_isTicks vn = 0
  · rw [if_pos h1] at e
    cases e
    exact h
  · rw [if_neg h1] at e
    exact OI_playL _ _ _ _ _ e h
theorem OI_putE {o o2 : OV} {vp vb vn r : Int32} (e : k_X1_orderPut o vp vb vn = (r, o2)) (h : OI o) : OI o2 := by
  unfold k_X1_orderPut at e
  by_cases h1 : k_X5_isLength vn = 0
  · rw [if_pos h1] at e
    cases e
    exact h
  · rw [if_neg h1] at e
    exact OI_addE e h
theorem OI_pullE {o o2 : OV} {vp vb r : Int32} (e : k_X1_orderPull o vp vb = (r, o2)) (h : OI o) : OI o2 := OI_addE e h
theorem b_13 {x : Int32} (h : 0 ≤ x.toInt ∧ x.toInt ≤ 13) : vp_in x 14 := by
  rw [vp_in_iff]
  omega
theorem k_13 {x : Int32} (h : 0 ≤ x.toInt ∧ x.toInt ≤ 13) : 3 + x.toNatClampNeg < 19 := by
  have : x.toNatClampNeg = x.toInt.toNat := rfl
  omega
theorem k_2 {x : Int32} (h : 0 ≤ x.toInt ∧ x.toInt ≤ 1) : 17 + x.toNatClampNeg < 19 := by
  have : x.toNatClampNeg = x.toInt.toNat := rfl
  omega
section KQ
variable {p : Program} {l : Launch} {e : Env} {R : Room} {s : State} {m : MethodId} {args : Array Value} {below : List Frame} {meth : Method} {c : Code} {H : Heap} {locs : List Loc} {cells slots : Nat} {Q : State → Prop}
variable {D : va_G} {cl : List vw_C} {tys : List (ClassId × FieldType)} {A : Nat → Prop} {cc : ByteArray} {pc a n maxL mc ms : Nat} {ls : Array Slot} {rest : List Value} {cA : ClassId} {wz w1 : va_W}
theorem k_aldq (hx : p.tables.exec = Jvm.exec) (hb : c.code = cc) (hK : va_K D cl tys s) (hP : va_P D cl wz H) (q0 t0 : Nat) {C : String} {f : Nat → Option Nat} {i : Int32} {v : Nat} (ha : wz[q0]? = some (a, .inl (cA, n, .inr (.inr (.inr (.inr f)))))) (ht : tys[t0]? = some (cA, .object C)) (hin : vp_in i n) (hv : f i.toNatClampNeg = some v) (hdg : decode cc pc = .ok (.aaload, 1))
    (kk : W p l e R s m args below meth c H locs cells slots Q (F0 m (pc + 1) ls (.ref v :: rest))) : W p l e R s m args below meth c H locs cells slots Q (F0 m pc ls (.int i :: .ref a :: rest)) := by
  refine va_aldq hx hb hK hP q0 t0 ha ht hin hdg ?_
  rw [hv]
  exact kk
/-- a method that returns an int, or throws -/
def kT (D : va_G) (x : Option String) (w1 : va_W) (A : Nat → Prop) : String → State → State → Prop := vx_X (fun (_ : Unit) => True) (fun E _ t => x = some E ∧ va_P D vwCl w1 t.heap ∧ va_D A w1) A
def kX (l : Launch) (y : MethodName) (ws : List Cond) (rm : Room) (mc ms : Nat) (D : va_G) (cs : Nat → ClassId) (as : List Value) (wc : va_W) (x : Option String) (r : Int32) (w1 : va_W) : Prop :=
  ∀ sz, vx_Met l y ws rm (kP D cs as wc sz) (va_Qi (fun (r' : Int32) (_ : Unit) => x = none ∧ r' = r) (kB D (fun _ => w1) (va_A wc sz)) (va_A wc sz)) (kT D x w1 (va_A wc sz)) mc ms (va_A wc sz)
theorem kX_of {cs : Nat → ClassId} {as : List Value} {wc : va_W} {y : MethodName} {ws ws' : List Cond} {rm : Room} {ret : Option FieldType} {x : Option String} {r : Int32} (hy : plainName y.cls = true) (hw : ws = Cond.code y cc maxL ret :: ws') (hmx : (lg_sl as).length ≤ maxL)
    (body : ∀ (p : Program) (e : Env) (s : State) (m : MethodId) (below : List Frame) (meth : Method) (c : Code) (A : Nat → Prop) (ls : Array Slot) (H : Heap) (locs : List Loc), kE p s m as.toArray meth c D cs y ws cc maxL ret A → (∀ x ∈ c.exceptionTable.toList, False) → va_S A s.heap H locs → va_P D vwCl wc H → va_D A wc → lv_has ls maxL (lv_args 0 as) →
      W p l e rm s m as.toArray below meth c H locs 0 0 (vx_MQ below (va_Qi (fun (r' : Int32) (_ : Unit) => x = none ∧ r' = r) (kB D (fun _ => w1) A) A) (kT D x w1 A) as.toArray s mc ms A) (F0 m 0 ls [])) : kX l y ws rm mc ms D cs as wc x r w1 := by
  intro sz
  refine vx_ofW (cc := cc) (maxL := maxL) (ret := ret) hy hw ?_
  intro p e s m args below meth c s₁ B hml hxt hv
  obtain ⟨rfl, hsz, hP, hK, hD0, hG⟩ := hv
  subst hsz
  rw [lg_entry_eq]
  exact body p e s m below meth c _ _ _ _ ⟨B.exec, B.bytes, B.returns, B.notSynchronized, hml, findClass_of_methodNamed B.named, atoms_spec (ws := ws) B.pre, hK, fun q h => Or.inr h, hG, (name_of_methodNamed B.named B.method).1⟩ hxt va_S.rf hP (hD0.self) (lv_entry as hmx)
theorem kX_ret {cs : Nat → ClassId} {y : MethodName} {ws : List Cond} {x : Option String} {v r : Int32} {ty : FieldType} (hE : kE p s m args meth c D cs y ws cc maxL (some ty) A) (hS : va_S A s.heap H locs) (hP : va_P D vwCl w1 H) (hD : va_D A w1) (hn : narrow ty (.int v) = .int v) (hx0 : x = none) (hv : v = r) (hc : cells ≤ mc) (hs : slots ≤ ms) (hdg : decode cc pc = .ok (.ireturn, 1)) :
    W p l e R s m args below meth c H locs cells slots (vx_MQ below (va_Qi (fun (r' : Int32) (_ : Unit) => x = none ∧ r' = r) (kB D (fun _ => w1) A) A) (kT D x w1 A) args s mc ms A) (F0 m pc ls [.int v]) := by
  obtain ⟨hx, hb, hr, hlocks, -⟩ := hE
  refine vx_ret ?_
  refine W.widen hc hs ?_
  exact W.zret hx hb hr hn (fun t ht hW => ⟨⟨v, (), rfl, ⟨hx0, hv⟩, by rw [ht]; exact hP, hD⟩, hS.F ht⟩) hS.2.2 hdg
abbrev xNm : List String := ["java/lang/RuntimeException", "java/lang/Exception"]
def cdw : Cond → Bool
  | .castable _ _ => true
  | .declares _ => true
  | _ => false
theorem Gv_cd {U : State} (hG : Gv U) {a9 : Array Value} {w : Cond} (h1 : w ∈ tables_1) (h2 : cdw w = true) : w.before a9 U = true := by
  cases w with
  | castable C T => exact va_Nw.use rfl (hG.2.2.1 C T h1)
  | declares x => exact va_Nw.use rfl (hG.2.2.2.1 x h1)
  | _ => exact absurd h2 (by intro h; cases h)
theorem kX_out {cs : Nat → ClassId} {y : MethodName} {ws : List Cond} {ret : Option FieldType} {x : Option String} {cls : String} (hE : kE p s m args meth c D cs y ws cc maxL ret A) (hS : va_S A s.heap H locs) (hP : va_P D vwCl w1 H) (hD : va_D A w1) (hv : x = some cls) : ∀ t : State, s.vm.Alike t.vm → H.size ≤ t.heap.size → (∀ q : Nat, q < H.size → t.heap[q]? = H[q]?) → kT D x w1 A cls s t := by
  intro t hvm hz hq
  refine ⟨(), trivial, ⟨hv, fun k q h => (hP k q h).kept (hq q.1 (hP k q h).lt), hD⟩, Nat.le_trans hS.1 hz, fun q h1 h2 => ?_⟩
  rw [hq q (Nat.lt_of_lt_of_le h1 hS.1)]
  exact hS.2.1 q h1 h2
theorem kX_at {cs : Nat → ClassId} {y : MethodName} {ws : List Cond} {ret : Option FieldType} {ic : Nat} {cls : String} (hE : kE p s m args meth c D cs y ws cc maxL ret A) (hat : ∀ w ∈ (vx_atS RX5 ic cls xNm).filter goodWord, w ∈ ws) (hbd : ∀ w ∈ (vx_atS RX5 ic cls xNm).filter (fun w => !goodWord w), w ∈ tables_1 ∧ cdw w = true) : ∀ w ∈ vx_atS RX5 ic cls xNm, w.before args s = true := by
  obtain ⟨-, -, -, -, -, -, hts, -, -, hG, -⟩ := hE
  exact vx_hat (B := (vx_atS RX5 ic cls xNm).filter (fun w => !goodWord w)) (fun w hw => hts w (hat w hw)) (fun w hw => hw) (fun w hw => Gv_cd hG.1 (hbd w hw).1 (hbd w hw).2)
theorem kX_throw {cs : Nat → ClassId} {y : MethodName} {ws : List Cond} {ret : Option FieldType} {lv : List (Nat × Value)} {x : Option String} {r : Int32} {cls text : String} {ik is ic : Nat} (hE : kE p s m args meth c D cs y ws cc maxL ret A) (hfl : l.stackTraces = false) (hxt : ∀ x ∈ c.exceptionTable.toList, False) (hS : va_S A s.heap H locs) (hP : va_P D vwCl w1 H) (hD : va_D A w1) (hl : lv_has ls maxL lv) (ho : RX5 = y.cls)
    (hcls : Bundle.fit cls = true) (lk1 : (Cond.classLink RX5 ik cls).before args s = true) (lk2 : (Cond.initialized cls).before args s = true) (hst : Cond.stringRef RX5 is text ∈ tables_1)
    (hg : ∀ w ∈ Cond.classLink RX5 ik cls :: Cond.initialized cls :: vx_atS RX5 ic cls xNm, vx_ot w = true) (hat : ∀ w ∈ (vx_atS RX5 ic cls xNm).filter goodWord, w ∈ ws) (hbd : ∀ w ∈ (vx_atS RX5 ic cls xNm).filter (fun w => !goodWord w), w ∈ tables_1 ∧ cdw w = true)
    (d0 : decode cc pc = .ok (.new ik, 3)) (d3 : decode cc (pc + 3) = .ok (.dup, 1)) (d4 : decode cc (pc + 4) = .ok (.ldc is, 2)) (d6 : decode cc (pc + 6) = .ok (.invokespecial ic, 3)) (d9 : decode cc (pc + 9) = .ok (.athrow, 1))
    (hf : 5 < R.frames) (hlo : 82 ≤ R.locals) (hc : cells + 1 ≤ R.cells) (hs : slots + 6 ≤ R.slots) (hcm : cells + 1 ≤ mc) (hsm : slots + 6 ≤ ms) (hv : x = some cls) :
    W p l e R s m args below meth c H locs cells slots (vx_MQ below (va_Qi (fun (r' : Int32) (_ : Unit) => x = none ∧ r' = r) (kB D (fun _ => w1) A) A) (kT D x w1 A) args s mc ms A) (F0 m pc ls []) := by
  have h1 := kX_at hE hat hbd
  have h2 := kX_out hE hS hP hD hv
  obtain ⟨hx, hb, hr, hlocks, hml, hown, hts, hK, hA, hG, hnm⟩ := hE
  obtain ⟨sa, hsa⟩ := hG.1.2.2.2.2 _ _ _ hst
  exact vx_throwS hx hb hfl (own := RX5) (cls := cls) (names := xNm) (sa := sa) (A := A) (by rw [ho]; exact hown) hcls (by decide) lk1 lk2 hsa h1 hg hG.2.2.1 hG.2.2.2.1 hS (hl.1.trans hml.symm) d0 d3 d4 d6 d9 (fun z hz => (hxt z hz).elim) hf hlo hc hs hlocks h2 hS.2.2 hcm hsm
theorem kX_throwW {cs : Nat → ClassId} {y : MethodName} {ws : List Cond} {ret : Option FieldType} {lv : List (Nat × Value)} {x : Option String} {r : Int32} {cls text : String} {ik is ic : Nat} (hE : kE p s m args meth c D cs y ws cc maxL ret A) (hfl : l.stackTraces = false) (hxt : ∀ x ∈ c.exceptionTable.toList, False) (hS : va_S A s.heap H locs) (hP : va_P D vwCl w1 H) (hD : va_D A w1) (hl : lv_has ls maxL lv) (ho : RX5 = y.cls)
    (hcls : Bundle.fit cls = true) (lk1 : (Cond.classLink RX5 ik cls).before args s = true) (lk2 : (Cond.initialized cls).before args s = true) (hst : Cond.stringRef RX5 is text ∈ tables_1)
    (hg : ∀ w ∈ Cond.classLink RX5 ik cls :: Cond.initialized cls :: vx_atS RX5 ic cls xNm, vx_ot w = true) (hat : ∀ w ∈ (vx_atS RX5 ic cls xNm).filter goodWord, w ∈ ws) (hbd : ∀ w ∈ (vx_atS RX5 ic cls xNm).filter (fun w => !goodWord w), w ∈ tables_1 ∧ cdw w = true)
    (d0 : decode cc pc = .ok (.new ik, 3)) (d3 : decode cc (pc + 3) = .ok (.dup, 1)) (d4 : decode cc (pc + 4) = .ok (.ldc_w is, 3)) (d7 : decode cc (pc + 7) = .ok (.invokespecial ic, 3)) (d10 : decode cc (pc + 10) = .ok (.athrow, 1))
    (hf : 5 < R.frames) (hlo : 82 ≤ R.locals) (hc : cells + 1 ≤ R.cells) (hs : slots + 6 ≤ R.slots) (hcm : cells + 1 ≤ mc) (hsm : slots + 6 ≤ ms) (hv : x = some cls) :
    W p l e R s m args below meth c H locs cells slots (vx_MQ below (va_Qi (fun (r' : Int32) (_ : Unit) => x = none ∧ r' = r) (kB D (fun _ => w1) A) A) (kT D x w1 A) args s mc ms A) (F0 m pc ls []) := by
  have h1 := kX_at hE hat hbd
  have h2 := kX_out hE hS hP hD hv
  obtain ⟨hx, hb, hr, hlocks, hml, hown, hts, hK, hA, hG, hnm⟩ := hE
  obtain ⟨sa, hsa⟩ := hG.1.2.2.2.2 _ _ _ hst
  exact vx_throwSW hx hb hfl (own := RX5) (cls := cls) (names := xNm) (sa := sa) (A := A) (by rw [ho]; exact hown) hcls (by decide) lk1 lk2 hsa h1 hg hG.2.2.1 hG.2.2.2.1 hS (hl.1.trans hml.symm) d0 d3 d4 d7 d10 (fun z hz => (hxt z hz).elim) hf hlo hc hs hlocks h2 hS.2.2 hcm hsm
end KQ
theorem xg_47 : ∀ w ∈ Cond.classLink RX5 43 "java/lang/IllegalArgumentException" :: Cond.initialized "java/lang/IllegalArgumentException" :: vx_atS RX5 47 "java/lang/IllegalArgumentException" xNm, vx_ot w = true := by decide +kernel
theorem xb_47 : ∀ w ∈ (vx_atS RX5 47 "java/lang/IllegalArgumentException" xNm).filter (fun w => !goodWord w), w ∈ tables_1 ∧ cdw w = true := by decide +kernel
theorem xg_58 : ∀ w ∈ Cond.classLink RX5 54 "java/lang/IllegalStateException" :: Cond.initialized "java/lang/IllegalStateException" :: vx_atS RX5 58 "java/lang/IllegalStateException" xNm, vx_ot w = true := by decide +kernel
theorem xb_58 : ∀ w ∈ (vx_atS RX5 58 "java/lang/IllegalStateException" xNm).filter (fun w => !goodWord w), w ∈ tables_1 ∧ cdw w = true := by decide +kernel
theorem xg_141 : ∀ w ∈ Cond.classLink RX5 137 "java/lang/IndexOutOfBoundsException" :: Cond.initialized "java/lang/IndexOutOfBoundsException" :: vx_atS RX5 141 "java/lang/IndexOutOfBoundsException" xNm, vx_ot w = true := by decide +kernel
theorem xb_141 : ∀ w ∈ (vx_atS RX5 141 "java/lang/IndexOutOfBoundsException" xNm).filter (fun w => !goodWord w), w ∈ tables_1 ∧ cdw w = true := by decide +kernel
theorem sr_45 : Cond.stringRef RX5 45 "no such character" ∈ tables_1 := List.mem_of_getElem? (i := 264) (by decide +kernel)
theorem sr_56 : Cond.stringRef RX5 56 "the text is full" ∈ tables_1 := List.mem_of_getElem? (i := 304) (by decide +kernel)
theorem sr_70 : Cond.stringRef RX5 70 "the text is not a roll" ∈ tables_1 := List.mem_of_getElem? (i := 352) (by decide +kernel)
theorem sr_122 : Cond.stringRef RX5 122 "what is not 0 to 11" ∈ tables_1 := List.mem_of_getElem? (i := 513) (by decide +kernel)
theorem sr_139 : Cond.stringRef RX5 139 "no such peg" ∈ tables_1 := List.mem_of_getElem? (i := 536) (by decide +kernel)
theorem sr_142 : Cond.stringRef RX5 142 "what is not 0 to 3" ∈ tables_1 := List.mem_of_getElem? (i := 543) (by decide +kernel)
theorem sr_150 : Cond.stringRef RX5 150 "no such order" ∈ tables_1 := List.mem_of_getElem? (i := 553) (by decide +kernel)
theorem sr_152 : Cond.stringRef RX5 152 "what is not 0 to 4" ∈ tables_1 := List.mem_of_getElem? (i := 554) (by decide +kernel)
theorem sr_157 : Cond.stringRef RX5 157 "no such pipe" ∈ tables_1 := List.mem_of_getElem? (i := 563) (by decide +kernel)
theorem sr_165 : Cond.stringRef RX5 165 "no such bar" ∈ tables_1 := List.mem_of_getElem? (i := 586) (by decide +kernel)
theorem sr_170 : Cond.stringRef RX5 170 "way is neither 0 nor 1" ∈ tables_1 := List.mem_of_getElem? (i := 598) (by decide +kernel)
theorem sr_181 : Cond.stringRef RX5 181 "no such setting" ∈ tables_1 := List.mem_of_getElem? (i := 615) (by decide +kernel)
theorem sr_186 : Cond.stringRef RX5 186 "no such pipe or bar" ∈ tables_1 := List.mem_of_getElem? (i := 628) (by decide +kernel)
theorem sr_191 : Cond.stringRef RX5 191 "length is not 1 to 6" ∈ tables_1 := List.mem_of_getElem? (i := 630) (by decide +kernel)
theorem sr_194 : Cond.stringRef RX5 194 "12 orders wait" ∈ tables_1 := List.mem_of_getElem? (i := 632) (by decide +kernel)
theorem sr_202 : Cond.stringRef RX5 202 "n is not 1 to 99" ∈ tables_1 := List.mem_of_getElem? (i := 665) (by decide +kernel)
theorem sr_208 : Cond.stringRef RX5 208 "no such setting or value" ∈ tables_1 := List.mem_of_getElem? (i := 674) (by decide +kernel)
theorem sr_213 : Cond.stringRef RX5 213 "no state is remembered" ∈ tables_1 := List.mem_of_getElem? (i := 686) (by decide +kernel)
theorem sr_243 : Cond.stringRef RX5 243 "n is not 1 to 3" ∈ tables_1 := List.mem_of_getElem? (i := 763) (by decide +kernel)
theorem sr_249 : Cond.stringRef RX5 249 "script is negative or too long" ∈ tables_1 := List.mem_of_getElem? (i := 768) (by decide +kernel)
theorem sr_265 : Cond.stringRef RX5 265 "m is not 1 to 60" ∈ tables_1 := List.mem_of_getElem? (i := 782) (by decide +kernel)
theorem sr_279 : Cond.stringRef RX5 279 "no such save slot" ∈ tables_1 := List.mem_of_getElem? (i := 733) (by decide +kernel)
theorem sr_288 : Cond.stringRef RX5 288 "nothing has been saved in this slot" ∈ tables_1 := List.mem_of_getElem? (i := 751) (by decide +kernel)
