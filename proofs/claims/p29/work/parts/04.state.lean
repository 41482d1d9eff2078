/-! What a state is: values of the class's objects and of the reference's, and their cells. -/
def tb_W (cs : Nat → ClassId) (a c : Nat) (cols most : Int32) (n : Nat) (t : TV) : va_W := [(a, .inr (4, [.ref c, .int cols, .int most, .int t.1])), (c, .inl (cs 0, n, .inl t.2))]
def og_W (cs : Nat → ClassId) (ad : Nat → Nat) (o : OV) : va_W := [og_0 ad o, (ad 1, .inr (4, [.ref (ad 3), .int 4, .int 30, .int (o.1 10)])), (ad 3, .inl (cs 0, 120, .inl (o.2.2 0))), (ad 2, .inr (4, [.ref (ad 4), .int 5, .int 12, .int (o.1 11)])), (ad 4, .inl (cs 0, 60, .inl (o.2.2 1))), (ad 5, .inl (cs 0, 6, .inl (o.2.2 2))), (ad 6, .inl (cs 0, 6, .inl (o.2.2 3))), (ad 7, .inl (cs 0, 6, .inl (o.2.2 4))), (ad 8, .inl (cs 0, 3, .inl (o.2.2 5)))]
def og_rP (cs : Nat → ClassId) (ad : Nat → Nat) (o : OV) : va_W := [og_0 ad o, (ad 2, .inr (4, [.ref (ad 4), .int 5, .int 12, .int (o.1 11)])), (ad 4, .inl (cs 0, 60, .inl (o.2.2 1))), (ad 5, .inl (cs 0, 6, .inl (o.2.2 2))), (ad 6, .inl (cs 0, 6, .inl (o.2.2 3))), (ad 7, .inl (cs 0, 6, .inl (o.2.2 4))), (ad 8, .inl (cs 0, 3, .inl (o.2.2 5)))]
def og_rO (cs : Nat → ClassId) (ad : Nat → Nat) (o : OV) : va_W := [og_0 ad o, (ad 1, .inr (4, [.ref (ad 3), .int 4, .int 30, .int (o.1 10)])), (ad 3, .inl (cs 0, 120, .inl (o.2.2 0))), (ad 5, .inl (cs 0, 6, .inl (o.2.2 2))), (ad 6, .inl (cs 0, 6, .inl (o.2.2 3))), (ad 7, .inl (cs 0, 6, .inl (o.2.2 4))), (ad 8, .inl (cs 0, 3, .inl (o.2.2 5)))]
def rl_W (cs : Nat → ClassId) (ra : Nat → Nat) (r : RV) : va_W := [(ra 0, .inr (2, [.ref (ra 1), .int (r.1 0), .int (r.1 1), .int (r.1 2), .int (r.1 3), .int (r.1 4), .int (r.1 5), .int (r.1 6)])), (ra 1, .inl (cs 1, 120, .inl r.2))]
def st_W (cs : Nat → ClassId) (a : Nat) (x : Nat → Int32) : va_W := [(a, .inl (cs 0, 217, .inl x))]
def md_W (cs : Nat → ClassId) (ma : Nat → Nat) (r : MV) : va_W := [(ma 0, .inr (6, [.int (r.1 0), .ref (ma 1), .int (r.1 1), .ref (ma 2), .ref (ma 3), .ref (ma 4), .int (r.1 2), .ref (ma 5), .ref (ma 6), .int (r.1 3), .int (r.1 4)])), (ma 1, .inl (cs 0, 120, .inl (r.2 0))), (ma 2, .inl (cs 0, 217, .inl (r.2 1))), (ma 3, .inl (cs 0, 217, .inl (r.2 2))), (ma 4, .inl (cs 0, 3038, .inl (r.2 3))), (ma 5, .inl (cs 0, 434, .inl (r.2 4))), (ma 6, .inl (cs 2, 2, .inl (r.2 5)))]
section SC
variable {D : va_G} {cs : Nat → ClassId} {ad : Nat → Nat} {o : OV} {t : TV} {A : Nat → Prop} {H : Heap} {w : va_W}
theorem k_nP (h : va_P D vwCl w H) : va_P D vwCl (w ++ []) H := by rw [List.append_nil]; exact h
theorem k_nD (h : va_D A w) : va_D A (w ++ []) := by rw [List.append_nil]; exact h
theorem k_uP (h : va_P D vwCl (w ++ []) H) : va_P D vwCl w H := by rw [List.append_nil] at h; exact h
theorem k_uD (h : va_D A (w ++ [])) : va_D A w := by rw [List.append_nil] at h; exact h
theorem og_cPP (h : va_P D vwCl (og_W cs ad o) H) : va_P D vwCl (tb_W cs (ad 1) (ad 3) 4 30 120 (g_pt o) ++ og_rP cs ad o) H := h.sub [1, 2, 0, 3, 4, 5, 6, 7, 8] rfl
theorem og_cPD (h : va_D A (og_W cs ad o)) : va_D A (tb_W cs (ad 1) (ad 3) 4 30 120 (g_pt o) ++ og_rP cs ad o) := h.sub [1, 2, 0, 3, 4, 5, 6, 7, 8] (by decide) rfl
theorem og_bPP (h : va_P D vwCl (tb_W cs (ad 1) (ad 3) 4 30 120 t ++ og_rP cs ad o) H) : va_P D vwCl (og_W cs ad (o_pt o t)) H := h.sub [2, 0, 1, 3, 4, 5, 6, 7, 8] rfl
theorem og_bPD (h : va_D A (tb_W cs (ad 1) (ad 3) 4 30 120 t ++ og_rP cs ad o)) : va_D A (og_W cs ad (o_pt o t)) := h.sub [2, 0, 1, 3, 4, 5, 6, 7, 8] (by decide) rfl
theorem og_cOP (h : va_P D vwCl (og_W cs ad o) H) : va_P D vwCl (tb_W cs (ad 2) (ad 4) 5 12 60 (g_ot o) ++ og_rO cs ad o) H := h.sub [3, 4, 0, 1, 2, 5, 6, 7, 8] rfl
theorem og_cOD (h : va_D A (og_W cs ad o)) : va_D A (tb_W cs (ad 2) (ad 4) 5 12 60 (g_ot o) ++ og_rO cs ad o) := h.sub [3, 4, 0, 1, 2, 5, 6, 7, 8] (by decide) rfl
theorem og_bOP (h : va_P D vwCl (tb_W cs (ad 2) (ad 4) 5 12 60 t ++ og_rO cs ad o) H) : va_P D vwCl (og_W cs ad (o_ot o t)) H := h.sub [2, 3, 4, 0, 1, 5, 6, 7, 8] rfl
theorem og_bOD (h : va_D A (tb_W cs (ad 2) (ad 4) 5 12 60 t ++ og_rO cs ad o)) : va_D A (og_W cs ad (o_ot o t)) := h.sub [2, 3, 4, 0, 1, 5, 6, 7, 8] (by decide) rfl
end SC
section KA
variable {p : Program} {l : Launch} {e : Env} {R : Room} {s : State} {m : MethodId} {args : Array Value} {below : List Frame} {meth : Method} {c : Code} {H : Heap} {locs : List Loc} {cells slots : Nat} {Q : State → Prop}
variable {D : va_G} {cl : List vw_C} {ws : va_W} {tys : List (ClassId × FieldType)} {A : Nat → Prop} {H0 : Heap} {cc : ByteArray} {pc a n : Nat} {ls : Array Slot} {rest : List Value} {cA : ClassId}
theorem k_iald (hx : p.tables.exec = Jvm.exec) (hb : c.code = cc) (hK : va_K D cl tys s) (hP : va_P D cl ws H) (q0 t0 : Nat) {f : Nat → Int32} {i v : Int32} (ha : ws[q0]? = some (a, .inl (cA, n, .inl f))) (ht : tys[t0]? = some (cA, .int)) (hin : vp_in i n) (hv : f i.toNatClampNeg = v) (hdg : decode cc pc = .ok (.iaload, 1))
    (kk : W p l e R s m args below meth c H locs cells slots Q (F0 m (pc + 1) ls (.int v :: rest))) : W p l e R s m args below meth c H locs cells slots Q (F0 m pc ls (.int i :: .ref a :: rest)) := by
  subst hv
  exact va_iald hx hb hK hP q0 t0 ha ht hin hdg kk
theorem k_cald (hx : p.tables.exec = Jvm.exec) (hb : c.code = cc) (hK : va_K D cl tys s) (hP : va_P D cl ws H) (q0 t0 : Nat) {f : Nat → Int32} {i v : Int32} (ha : ws[q0]? = some (a, .inl (cA, n, .inl f))) (ht : tys[t0]? = some (cA, .char)) (hin : vp_in i n) (hv : f i.toNatClampNeg = v) (hdg : decode cc pc = .ok (.caload, 1))
    (kk : W p l e R s m args below meth c H locs cells slots Q (F0 m (pc + 1) ls (.int v :: rest))) : W p l e R s m args below meth c H locs cells slots Q (F0 m pc ls (.int i :: .ref a :: rest)) := by
  subst hv
  exact va_cald hx hb hK hP q0 t0 ha ht hin hdg kk
theorem k_zald (hx : p.tables.exec = Jvm.exec) (hb : c.code = cc) (hK : va_K D cl tys s) (hP : va_P D cl ws H) (q0 t0 : Nat) {f : Nat → Int32} {i v : Int32} (ha : ws[q0]? = some (a, .inl (cA, n, .inl f))) (ht : tys[t0]? = some (cA, .boolean)) (hin : vp_in i n) (hv : f i.toNatClampNeg = v) (hdg : decode cc pc = .ok (.baload, 1))
    (kk : W p l e R s m args below meth c H locs cells slots Q (F0 m (pc + 1) ls (.int v :: rest))) : W p l e R s m args below meth c H locs cells slots Q (F0 m pc ls (.int i :: .ref a :: rest)) := by
  subst hv
  exact va_zald hx hb hK hP q0 t0 ha ht hin hdg kk
theorem k_lald (hx : p.tables.exec = Jvm.exec) (hb : c.code = cc) (hK : va_K D cl tys s) (hP : va_P D cl ws H) (q0 t0 : Nat) {f : Nat → Int64} {i : Int32} {v : Int64} (ha : ws[q0]? = some (a, .inl (cA, n, .inr (.inl f)))) (ht : tys[t0]? = some (cA, .long)) (hin : vp_in i n) (hv : f i.toNatClampNeg = v) (hdg : decode cc pc = .ok (.laload, 1))
    (kk : W p l e R s m args below meth c H locs cells slots Q (F0 m (pc + 1) ls (.long v :: rest))) : W p l e R s m args below meth c H locs cells slots Q (F0 m pc ls (.int i :: .ref a :: rest)) := by
  subst hv
  exact va_lald hx hb hK hP q0 t0 ha ht hin hdg kk
theorem k_iast (hx : p.tables.exec = Jvm.exec) (hb : c.code = cc) (hK : va_K D cl tys s) (hP : va_P D cl ws H) (hD : va_D A ws) (hS : va_S A H0 H locs) (q0 t0 : Nat) {f : Nat → Int32} {i x : Int32} {k : Nat} (ha : ws[q0]? = some (a, .inl (cA, n, .inl f))) (ht : tys[t0]? = some (cA, .int)) (hin : vp_in i n) (hk : i.toNatClampNeg = k) (hdg : decode cc pc = .ok (.iastore, 1))
    (kk : ∀ (H1 : Heap) (locs1 : List Loc), va_P D cl (ws.set q0 (a, .inl (cA, n, .inl (va_up f k x)))) H1 → va_D A (ws.set q0 (a, .inl (cA, n, .inl (va_up f k x)))) → va_S A H0 H1 locs1 → W p l e R s m args below meth c H1 locs1 cells slots Q (F0 m (pc + 1) ls rest)) : W p l e R s m args below meth c H locs cells slots Q (F0 m pc ls (.int x :: .int i :: .ref a :: rest)) := by
  subst hk
  exact va_iast hx hb hK hP hD hS q0 t0 ha ht hin hdg kk
theorem k_cast (hx : p.tables.exec = Jvm.exec) (hb : c.code = cc) (hK : va_K D cl tys s) (hP : va_P D cl ws H) (hD : va_D A ws) (hS : va_S A H0 H locs) (q0 t0 : Nat) {f : Nat → Int32} {i x : Int32} {k : Nat} (ha : ws[q0]? = some (a, .inl (cA, n, .inl f))) (ht : tys[t0]? = some (cA, .char)) (hin : vp_in i n) (hk : i.toNatClampNeg = k) (hn : vp_nar .char x = x) (hdg : decode cc pc = .ok (.castore, 1))
    (kk : ∀ (H1 : Heap) (locs1 : List Loc), va_P D cl (ws.set q0 (a, .inl (cA, n, .inl (va_up f k x)))) H1 → va_D A (ws.set q0 (a, .inl (cA, n, .inl (va_up f k x)))) → va_S A H0 H1 locs1 → W p l e R s m args below meth c H1 locs1 cells slots Q (F0 m (pc + 1) ls rest)) : W p l e R s m args below meth c H locs cells slots Q (F0 m pc ls (.int x :: .int i :: .ref a :: rest)) := by
  subst hk
  refine va_cast hx hb hK hP hD hS q0 t0 ha ht hin hdg ?_
  rw [hn]
  exact kk
theorem k_zast (hx : p.tables.exec = Jvm.exec) (hb : c.code = cc) (hK : va_K D cl tys s) (hP : va_P D cl ws H) (hD : va_D A ws) (hS : va_S A H0 H locs) (q0 t0 : Nat) {f : Nat → Int32} {i x : Int32} {k : Nat} (ha : ws[q0]? = some (a, .inl (cA, n, .inl f))) (ht : tys[t0]? = some (cA, .boolean)) (hin : vp_in i n) (hk : i.toNatClampNeg = k) (hn : vp_nar .boolean x = x) (hdg : decode cc pc = .ok (.bastore, 1))
    (kk : ∀ (H1 : Heap) (locs1 : List Loc), va_P D cl (ws.set q0 (a, .inl (cA, n, .inl (va_up f k x)))) H1 → va_D A (ws.set q0 (a, .inl (cA, n, .inl (va_up f k x)))) → va_S A H0 H1 locs1 → W p l e R s m args below meth c H1 locs1 cells slots Q (F0 m (pc + 1) ls rest)) : W p l e R s m args below meth c H locs cells slots Q (F0 m pc ls (.int x :: .int i :: .ref a :: rest)) := by
  subst hk
  refine va_zast hx hb hK hP hD hS q0 t0 ha ht hin hdg ?_
  rw [hn]
  exact kk
end KA
