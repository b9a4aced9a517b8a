section QM
variable {p : Program} {l : Launch} {e : Env} {R : Room} {s : State} {m : MethodId} {args : Array Value} {below : List Frame} {meth : Method} {c : Code} {D : va_G} {A : Nat → Prop} {nL : Nat} {Q : State → Prop} {cc : ByteArray} {own mn : String} {ret : Option FieldType}
theorem q_rel.setO {ws : va_W} {tys : List (ClassId × FieldType)} {σ : q_S} (h : q_rel ws tys σ) (hD : va_D A ws) {k a : Nat} {e0 : va_E} (hk : ws[k]? = some (a, e0)) (o : Nat × List Value) : q_rel (ws.set k (a, .inr o)) tys (q_up σ a (.inr o)) :=
  h.set hD hk ⟨k, List.getElem?_set_self (List.getElem?_eq_some_iff.mp hk).1⟩
theorem q_rel.setA {ws : va_W} {tys : List (ClassId × FieldType)} {σ : q_S} (h : q_rel ws tys σ) (hD : va_D A ws) {k a t : Nat} {e0 : va_E} (hk : ws[k]? = some (a, e0)) {cA : ClassId} {ty : FieldType} (ht : tys[t]? = some (cA, ty)) (x : vp_A) : q_rel (ws.set k (a, .inl (cA, x))) tys (q_up σ a (.inl (ty, x))) :=
  h.set hD hk ⟨k, t, cA, List.getElem?_set_self (List.getElem?_eq_some_iff.mp hk).1, ht⟩
-- fields: class number ci, place k
def q_fld (σ : q_S) (a ci k : Nat) : Option Value := match σ a with
  | some (.inr (cj, fs)) => if cj = ci then fs[k]? else none
  | _ => none
def q_fset (σ : q_S) (a k : Nat) (v : Value) : q_S := match σ a with
  | some (.inr (cj, fs)) => q_up σ a (.inr (cj, fs.set k v))
  | _ => σ
theorem q_fld_some {σ : q_S} {a ci k : Nat} {v : Value} (h : q_fld σ a ci k = some v) : ∃ fs : List Value, σ a = some (.inr (ci, fs)) ∧ fs[k]? = some v := by
  unfold q_fld at h
  split at h
  · next cj fs he =>
      split at h
      · next e => subst e; exact ⟨fs, he, h⟩
      · cases h
  · cases h
theorem q_fset_eq {σ : q_S} {a ci k : Nat} {fs : List Value} {v : Value} (h : σ a = some (.inr (ci, fs))) : q_fset σ a k v = q_up σ a (.inr (ci, fs.set k v)) := by
  simp only [q_fset, h]
def c_get (ci j : Nat) (k : q_K) : q_K := fun L st σ cr sr => match st with | .ref a :: r => (match q_fld σ a ci j with | some v => k L (v :: r) σ cr sr | none => False) | _ => False
theorem q_get (C : q_C p s m args meth c cc nL own mn ret A) {pc : Nat} {k : q_K} {ci j idx N : Nat} {C0 : String} {T : u_T} (hc : q_cl[ci]? = some (C0, T, N)) (hin : ∀ w ∈ u_ws C0 T N, w ∈ lw_tbl) (hgw : ∀ w ∈ u_ws C0 T N, goodWord w = true) (hj : j < N) (hlk2 : Cond.fieldLink own idx (T j).1 (T j).2.1 (T j).2.2.1 ∈ lw_tbl) (d : decode cc pc = .ok (.getfield idx, 3)) (h : q_V p l e R s m args below meth c D A nL Q (pc + 3) k) : q_V p l e R s m args below meth c D A nL Q pc (c_get ci j k) := by
  obtain ⟨hx, hb, hml, hown, hts, hN, hA, hr, hlk, hmn⟩ := C
  intro L st σ cr sr H locs cells slots ls hl hw hS h1 h2 hk
  unfold c_get at hk
  split at hk
  · next a r =>
      split at hk
      · next v he =>
          obtain ⟨fs, e1, e2⟩ := q_fld_some he
          have hw0 := hw
          obtain ⟨ws, tys, hK, hP, hD, hrel⟩ := hw
          obtain ⟨q0, hq⟩ := hrel a _ e1
          exact va_get (C := C0) (T := T) (N := N) (ci := ci) hx hb hts (fun w hw => lw_mem (hin w hw) (hgw w hw)) hown hK hP q0 hq hc j hj (ref := (T j).1) (hts _ (lw_mem hlk2 rfl)) (fun _ h9 => h9) e2 d (h _ _ _ _ _ _ _ _ _ _ hl hw0 hS h1 h2 hk)
      · exact hk.elim
  · exact hk.elim
theorem q_getN (C : q_C p s m args meth c cc nL own mn ret A) {pc : Nat} {k : q_K} {ci j idx N : Nat} {C0 : String} {T : u_T} (hc : q_cl[ci]? = some (C0, T, N)) (hin : ∀ w ∈ u_ws C0 T N, w ∈ lw_tbl) (hgw : ∀ w ∈ u_ws C0 T N, goodWord w = true) (hj : j < N) (hlk2 : (own, idx, (T j).1, (T j).2.1, (T j).2.2.1) ∈ q_nF) (d : decode cc pc = .ok (.getfield idx, 3)) (h : q_V p l e R s m args below meth c D A nL Q (pc + 3) k) : q_V p l e R s m args below meth c D A nL Q pc (c_get ci j k) := by
  obtain ⟨hx, hb, hml, hown, hts, hN, hA, hr, hlk, hmn⟩ := C
  intro L st σ cr sr H locs cells slots ls hl hw hS h1 h2 hk
  unfold c_get at hk
  split at hk
  · next a r =>
      split at hk
      · next v he =>
          obtain ⟨fs, e1, e2⟩ := q_fld_some he
          have hw0 := hw
          obtain ⟨ws, tys, hK, hP, hD, hrel⟩ := hw
          obtain ⟨q0, hq⟩ := hrel a _ e1
          exact va_getN (C := C0) (T := T) (N := N) (ci := ci) hx hb hts (fun w hw => lw_mem (hin w hw) (hgw w hw)) hown hK hP q0 hq hc j hj (ref := (T j).1) (va_Nw.use rfl (hN.1 _ hlk2)) (fun _ h9 => h9) e2 d (h _ _ _ _ _ _ _ _ _ _ hl hw0 hS h1 h2 hk)
      · exact hk.elim
  · exact hk.elim
def c_put (ci j : Nat) (ty : FieldType) (k : q_K) : q_K := fun L st σ cr sr => match st with | v :: .ref a :: r => (match q_fld σ a ci j with | some _ => (narrow ty v = v ∧ fits ty v = true) ∧ k L r (q_fset σ a j v) cr sr | none => False) | _ => False
theorem q_put (C : q_C p s m args meth c cc nL own mn ret A) {pc : Nat} {k : q_K} {ci j idx N : Nat} {C0 : String} {T : u_T} {ty : FieldType} (hc : q_cl[ci]? = some (C0, T, N)) (hin : ∀ w ∈ u_ws C0 T N, w ∈ lw_tbl) (hgw : ∀ w ∈ u_ws C0 T N, goodWord w = true) (hj : j < N) (ty0 : Nat → FieldType) (hty : ∀ k, k < N → parseFieldDescriptor (T k).2.2.1 = some (ty0 k)) (hnm : ∀ a, a < N → ∀ b, b < N → a ≠ b → (T a).2.1 ≠ (T b).2.1) (hd : parseFieldDescriptor (T j).2.2.1 = some ty) (hfin : (T j).2.2.2 = false) (hlk2 : Cond.fieldLink own idx (T j).1 (T j).2.1 (T j).2.2.1 ∈ lw_tbl) (d : decode cc pc = .ok (.putfield idx, 3)) (h : q_V p l e R s m args below meth c D A nL Q (pc + 3) k) : q_V p l e R s m args below meth c D A nL Q pc (c_put ci j ty k) := by
  obtain ⟨hx, hb, hml, hown, hts, hN, hA, hr, hlk, hmn⟩ := C
  intro L st σ cr sr H locs cells slots ls hl hw hS h1 h2 hk
  unfold c_put at hk
  split at hk
  · next v a r =>
      split at hk
      · next v0 he =>
          obtain ⟨fs, e1, e2⟩ := q_fld_some he
          obtain ⟨ws, tys, hK, hP, hD, hrel⟩ := hw
          obtain ⟨q0, hq⟩ := hrel a _ e1
          rw [q_fset_eq e1] at hk
          refine va_put (C := C0) (T := T) (N := N) (ci := ci) hx hb hts (fun w hw => lw_mem (hin w hw) (hgw w hw)) ty0 hty hnm hown hK hP hD hS q0 hq hc j hj (ref := (T j).1) (hts _ (lw_mem hlk2 rfl)) (fun _ h9 => h9) hfin hd hk.1.1 hk.1.2 (List.getElem?_eq_some_iff.mp e2).1 d (fun H1 locs1 hP1 hD1 hS1 => ?_)
          exact h _ _ _ _ _ _ _ _ _ _ hl ⟨_, tys, hK, hP1, hD1, hrel.setO hD hq _⟩ hS1 h1 h2 hk.2
      · exact hk.elim
  · exact hk.elim
theorem q_putF (C : q_C p s m args meth c cc nL own mn ret A) {pc : Nat} {k : q_K} {ci j idx N : Nat} {C0 : String} {T : u_T} {ty : FieldType} (hc : q_cl[ci]? = some (C0, T, N)) (hin : ∀ w ∈ u_ws C0 T N, w ∈ lw_tbl) (hgw : ∀ w ∈ u_ws C0 T N, goodWord w = true) (hj : j < N) (ty0 : Nat → FieldType) (hty : ∀ k, k < N → parseFieldDescriptor (T k).2.2.1 = some (ty0 k)) (hnm : ∀ a, a < N → ∀ b, b < N → a ≠ b → (T a).2.1 ≠ (T b).2.1) (hd : parseFieldDescriptor (T j).2.2.1 = some ty) (hfin : (T j).2.2.2 = true) (hi : mn = "<init>") (hdecl : (T j).1 = own) (hlk2 : Cond.fieldLink own idx (T j).1 (T j).2.1 (T j).2.2.1 ∈ lw_tbl) (d : decode cc pc = .ok (.putfield idx, 3)) (h : q_V p l e R s m args below meth c D A nL Q (pc + 3) k) : q_V p l e R s m args below meth c D A nL Q pc (c_put ci j ty k) := by
  obtain ⟨hx, hb, hml, hown, hts, hN, hA, hr, hlk, hmn⟩ := C
  intro L st σ cr sr H locs cells slots ls hl hw hS h1 h2 hk
  unfold c_put at hk
  split at hk
  · next v a r =>
      split at hk
      · next v0 he =>
          obtain ⟨fs, e1, e2⟩ := q_fld_some he
          obtain ⟨ws, tys, hK, hP, hD, hrel⟩ := hw
          obtain ⟨q0, hq⟩ := hrel a _ e1
          rw [q_fset_eq e1] at hk
          refine va_putF (C := C0) (T := T) (N := N) (ci := ci) hx hb hts (fun w hw => lw_mem (hin w hw) (hgw w hw)) ty0 hty hnm hown hK hP hD hS q0 hq hc j hj (ref := (T j).1) (hts _ (lw_mem hlk2 rfl)) (fun _ h9 => h9) hfin (hmn.trans hi) hdecl hd hk.1.1 hk.1.2 (List.getElem?_eq_some_iff.mp e2).1 d (fun H1 locs1 hP1 hD1 hS1 => ?_)
          exact h _ _ _ _ _ _ _ _ _ _ hl ⟨_, tys, hK, hP1, hD1, hrel.setO hD hq _⟩ hS1 h1 h2 hk.2
      · exact hk.elim
  · exact hk.elim
theorem q_putN (C : q_C p s m args meth c cc nL own mn ret A) {pc : Nat} {k : q_K} {ci j idx N : Nat} {C0 : String} {T : u_T} {ty : FieldType} (hc : q_cl[ci]? = some (C0, T, N)) (hin : ∀ w ∈ u_ws C0 T N, w ∈ lw_tbl) (hgw : ∀ w ∈ u_ws C0 T N, goodWord w = true) (hj : j < N) (ty0 : Nat → FieldType) (hty : ∀ k, k < N → parseFieldDescriptor (T k).2.2.1 = some (ty0 k)) (hnm : ∀ a, a < N → ∀ b, b < N → a ≠ b → (T a).2.1 ≠ (T b).2.1) (hd : parseFieldDescriptor (T j).2.2.1 = some ty) (hfin : (T j).2.2.2 = false) (hlk2 : (own, idx, (T j).1, (T j).2.1, (T j).2.2.1) ∈ q_nF) (d : decode cc pc = .ok (.putfield idx, 3)) (h : q_V p l e R s m args below meth c D A nL Q (pc + 3) k) : q_V p l e R s m args below meth c D A nL Q pc (c_put ci j ty k) := by
  obtain ⟨hx, hb, hml, hown, hts, hN, hA, hr, hlk, hmn⟩ := C
  intro L st σ cr sr H locs cells slots ls hl hw hS h1 h2 hk
  unfold c_put at hk
  split at hk
  · next v a r =>
      split at hk
      · next v0 he =>
          obtain ⟨fs, e1, e2⟩ := q_fld_some he
          obtain ⟨ws, tys, hK, hP, hD, hrel⟩ := hw
          obtain ⟨q0, hq⟩ := hrel a _ e1
          rw [q_fset_eq e1] at hk
          refine va_putN (C := C0) (T := T) (N := N) (ci := ci) hx hb hts (fun w hw => lw_mem (hin w hw) (hgw w hw)) ty0 hty hnm hown hK hP hD hS q0 hq hc j hj (ref := (T j).1) (va_Nw.use rfl (hN.1 _ hlk2)) (fun _ h9 => h9) hfin hd hk.1.1 hk.1.2 (List.getElem?_eq_some_iff.mp e2).1 d (fun H1 locs1 hP1 hD1 hS1 => ?_)
          exact h _ _ _ _ _ _ _ _ _ _ hl ⟨_, tys, hK, hP1, hD1, hrel.setO hD hq _⟩ hS1 h1 h2 hk.2
      · exact hk.elim
  · exact hk.elim
def q_ai (σ : q_S) (a : Nat) (ty : FieldType) : Option (Nat × (Nat → Int32)) := match σ a with
  | some (.inl (t, n, .inl f)) => if t = ty then some (n, f) else none
  | _ => none
def q_aq (σ : q_S) (a : Nat) : Option (FieldType × Nat × (Nat → Option Nat)) := match σ a with
  | some (.inl (t, n, .inr (.inr (.inr (.inr f))))) => some (t, n, f)
  | _ => none
theorem q_ai_some {σ : q_S} {a : Nat} {ty : FieldType} {x : Nat × (Nat → Int32)} (h : q_ai σ a ty = some x) : σ a = some (.inl (ty, x.1, .inl x.2)) := by
  unfold q_ai at h
  split at h
  · next t n f he =>
      split at h
      · next e => subst e; cases h; exact he
      · cases h
  · cases h
theorem q_aq_some {σ : q_S} {a : Nat} {x : FieldType × Nat × (Nat → Option Nat)} (h : q_aq σ a = some x) : σ a = some (.inl (x.1, x.2.1, .inr (.inr (.inr (.inr x.2.2))))) := by
  unfold q_aq at h
  split at h
  · next t n f he => cases h; exact he
  · cases h
def c_iald (k : q_K) : q_K := fun L st σ cr sr => match st with | .int i :: .ref a :: r => (match q_ai σ a .int with | some x => vp_in i x.1 ∧ k L (.int (x.2 i.toNatClampNeg) :: r) σ cr sr | none => False) | _ => False
theorem q_iald (C : q_C p s m args meth c cc nL own mn ret A) {pc : Nat} {k : q_K} (d : decode cc pc = .ok (.iaload, 1)) (h : q_V p l e R s m args below meth c D A nL Q (pc + 1) k) : q_V p l e R s m args below meth c D A nL Q pc (c_iald k) := by
  obtain ⟨hx, hb, hml, hown, hts, hN, hA, hr, hlk, hmn⟩ := C
  intro L st σ cr sr H locs cells slots ls hl hw hS h1 h2 hk
  unfold c_iald at hk
  split at hk
  · next i a r =>
      split at hk
      · next x he =>
          have e1 := q_ai_some he
          have hw0 := hw
          obtain ⟨ws, tys, hK, hP, hD, hrel⟩ := hw
          obtain ⟨q0, t0, cA, hq, ht⟩ := hrel a _ e1
          exact va_iald hx hb hK hP q0 t0 hq ht hk.1 d (h _ _ _ _ _ _ _ _ _ _ hl hw0 hS h1 h2 hk.2)
      · exact hk.elim
  · exact hk.elim
def c_zald (k : q_K) : q_K := fun L st σ cr sr => match st with | .int i :: .ref a :: r => (match q_ai σ a .boolean with | some x => vp_in i x.1 ∧ k L (.int (x.2 i.toNatClampNeg) :: r) σ cr sr | none => False) | _ => False
theorem q_zald (C : q_C p s m args meth c cc nL own mn ret A) {pc : Nat} {k : q_K} (d : decode cc pc = .ok (.baload, 1)) (h : q_V p l e R s m args below meth c D A nL Q (pc + 1) k) : q_V p l e R s m args below meth c D A nL Q pc (c_zald k) := by
  obtain ⟨hx, hb, hml, hown, hts, hN, hA, hr, hlk, hmn⟩ := C
  intro L st σ cr sr H locs cells slots ls hl hw hS h1 h2 hk
  unfold c_zald at hk
  split at hk
  · next i a r =>
      split at hk
      · next x he =>
          have e1 := q_ai_some he
          have hw0 := hw
          obtain ⟨ws, tys, hK, hP, hD, hrel⟩ := hw
          obtain ⟨q0, t0, cA, hq, ht⟩ := hrel a _ e1
          exact va_zald hx hb hK hP q0 t0 hq ht hk.1 d (h _ _ _ _ _ _ _ _ _ _ hl hw0 hS h1 h2 hk.2)
      · exact hk.elim
  · exact hk.elim
def c_iast (k : q_K) : q_K := fun L st σ cr sr => match st with | .int x :: .int i :: .ref a :: r => (match q_ai σ a .int with | some y => vp_in i y.1 ∧ k L r (q_up σ a (.inl (.int, y.1, .inl (upd y.2 i.toNatClampNeg x)))) cr sr | none => False) | _ => False
theorem q_iast (C : q_C p s m args meth c cc nL own mn ret A) {pc : Nat} {k : q_K} (d : decode cc pc = .ok (.iastore, 1)) (h : q_V p l e R s m args below meth c D A nL Q (pc + 1) k) : q_V p l e R s m args below meth c D A nL Q pc (c_iast k) := by
  obtain ⟨hx, hb, hml, hown, hts, hN, hA, hr, hlk, hmn⟩ := C
  intro L st σ cr sr H locs cells slots ls hl hw hS h1 h2 hk
  unfold c_iast at hk
  split at hk
  · next x i a r =>
      split at hk
      · next y he =>
          have e1 := q_ai_some he
          obtain ⟨ws, tys, hK, hP, hD, hrel⟩ := hw
          obtain ⟨q0, t0, cA, hq, ht⟩ := hrel a _ e1
          refine va_iast hx hb hK hP hD hS q0 t0 hq ht hk.1 d (fun H1 locs1 hP1 hD1 hS1 => ?_)
          exact h _ _ _ _ _ _ _ _ _ _ hl ⟨_, tys, hK, hP1, hD1, hrel.setA hD hq ht _⟩ hS1 h1 h2 hk.2
      · exact hk.elim
  · exact hk.elim
def c_zast (k : q_K) : q_K := fun L st σ cr sr => match st with | .int x :: .int i :: .ref a :: r => (match q_ai σ a .boolean with | some y => vp_in i y.1 ∧ k L r (q_up σ a (.inl (.boolean, y.1, .inl (upd y.2 i.toNatClampNeg (vp_nar .boolean x))))) cr sr | none => False) | _ => False
theorem q_zast (C : q_C p s m args meth c cc nL own mn ret A) {pc : Nat} {k : q_K} (d : decode cc pc = .ok (.bastore, 1)) (h : q_V p l e R s m args below meth c D A nL Q (pc + 1) k) : q_V p l e R s m args below meth c D A nL Q pc (c_zast k) := by
  obtain ⟨hx, hb, hml, hown, hts, hN, hA, hr, hlk, hmn⟩ := C
  intro L st σ cr sr H locs cells slots ls hl hw hS h1 h2 hk
  unfold c_zast at hk
  split at hk
  · next x i a r =>
      split at hk
      · next y he =>
          have e1 := q_ai_some he
          obtain ⟨ws, tys, hK, hP, hD, hrel⟩ := hw
          obtain ⟨q0, t0, cA, hq, ht⟩ := hrel a _ e1
          refine va_zast hx hb hK hP hD hS q0 t0 hq ht hk.1 d (fun H1 locs1 hP1 hD1 hS1 => ?_)
          exact h _ _ _ _ _ _ _ _ _ _ hl ⟨_, tys, hK, hP1, hD1, hrel.setA hD hq ht _⟩ hS1 h1 h2 hk.2
      · exact hk.elim
  · exact hk.elim
theorem va_aldt {H : Heap} {locs : List Loc} {cells slots pc : Nat} {ls : Array Slot} {rest : List Value} {a : Nat} {cl : List vw_C} {tys : List (ClassId × FieldType)} {ws : va_W} (hexec : p.tables.exec = Jvm.exec) (hb : c.code = cc) (hK : va_K D cl tys s) (hP : va_P D cl ws H) (q0 t0 : Nat) {cA : ClassId} {ty : FieldType} {n : Nat} {f : Nat → Option Nat} (ha : ws[q0]? = some (a, .inl (cA, n, .inr (.inr (.inr (.inr f)))))) (ht : tys[t0]? = some (cA, ty)) (hk : refKind ty = true) {i : Int32} (hin : vp_in i n) (hdg : decode cc pc = .ok (.aaload, 1))
    (kk : W p l e R s m args below meth c H locs cells slots Q (F0 m (pc + 1) ls (va_rf (f i.toNatClampNeg) :: rest))) : W p l e R s m args below meth c H locs cells slots Q (F0 m pc ls (.int i :: .ref a :: rest)) := by
  have hlt : i.toNatClampNeg < n := Nat.not_le.mp fun q => hin (Or.inr q)
  exact W.aald (v := va_rf (f i.toNatClampNeg)) (ty := ty) hexec hb (hP q0 _ ha) ((hK.2 t0 _ ht).1 n (fun j => va_rf (f j))) hk (fun q => by cases q) (by show ¬ (i < 0 ∨ (arrV _ _ _).slots.size ≤ _); rw [arrV_size]; exact hin) (by show (arrV _ _ _).slots[_]? = _; rw [arrV_read _ _ hlt]) rfl rfl hdg kk
def c_aald (k : q_K) : q_K := fun L st σ cr sr => match st with | .int i :: .ref a :: r => (match q_aq σ a with | some x => (refKind x.1 = true ∧ vp_in i x.2.1) ∧ k L (va_rf (x.2.2 i.toNatClampNeg) :: r) σ cr sr | none => False) | _ => False
theorem q_aald (C : q_C p s m args meth c cc nL own mn ret A) {pc : Nat} {k : q_K} (d : decode cc pc = .ok (.aaload, 1)) (h : q_V p l e R s m args below meth c D A nL Q (pc + 1) k) : q_V p l e R s m args below meth c D A nL Q pc (c_aald k) := by
  obtain ⟨hx, hb, hml, hown, hts, hN, hA, hr, hlk, hmn⟩ := C
  intro L st σ cr sr H locs cells slots ls hl hw hS h1 h2 hk
  unfold c_aald at hk
  split at hk
  · next i a r =>
      split at hk
      · next x he =>
          have e1 := q_aq_some he
          have hw0 := hw
          obtain ⟨ws, tys, hK, hP, hD, hrel⟩ := hw
          obtain ⟨q0, t0, cA, hq, ht⟩ := hrel a _ e1
          exact va_aldt hx hb hK hP q0 t0 hq ht hk.1.1 hk.1.2 d (h _ _ _ _ _ _ _ _ _ _ hl hw0 hS h1 h2 hk.2)
      · exact hk.elim
  · exact hk.elim
def q_oc (σ : q_S) (v : Nat) : Option Nat := match σ v with
  | some (.inr (ci, _)) => some ci
  | _ => none
theorem q_oc_some {σ : q_S} {v ci : Nat} (h : q_oc σ v = some ci) : ∃ fs : List Value, σ v = some (.inr (ci, fs)) := by
  unfold q_oc at h
  split at h
  · next cj fs he => cases h; exact ⟨fs, he⟩
  · cases h
def q_nm (ci : Nat) : String := match q_cl[ci]? with
  | some r => r.1
  | none => ""

def c_aast (ci : Nat) (k : q_K) : q_K := fun L st σ cr sr => match st with | .ref v :: .int i :: .ref a :: r => (match q_aq σ a with | some x => (q_oc σ v = some ci ∧ x.1 = .object (q_nm ci) ∧ vp_in i x.2.1) ∧ k L r (q_up σ a (.inl (x.1, x.2.1, .inr (.inr (.inr (.inr (va_up x.2.2 i.toNatClampNeg (some v)))))))) cr sr | none => False) | _ => False
theorem q_aast (C : q_C p s m args meth c cc nL own mn ret A) {pc : Nat} {k : q_K} {ci : Nat} {rc : vw_C} (hc : q_cl[ci]? = some rc) (d : decode cc pc = .ok (.aastore, 1)) (h : q_V p l e R s m args below meth c D A nL Q (pc + 1) k) : q_V p l e R s m args below meth c D A nL Q pc (c_aast ci k) := by
  obtain ⟨hx, hb, hml, hown, hts, hN, hA, hr, hlk, hmn⟩ := C
  intro L st σ cr sr H locs cells slots ls hl hw hS h1 h2 hk
  unfold c_aast at hk
  split at hk
  · next v i a r =>
      split at hk
      · next x he =>
          have e1 := q_aq_some he
          obtain ⟨ws, tys, hK, hP, hD, hrel⟩ := hw
          obtain ⟨q0, t0, cA, hq, ht⟩ := hrel a _ e1
          obtain ⟨fs, e2⟩ := q_oc_some hk.1.1
          obtain ⟨qk, hqk⟩ := hrel v _ e2
          have hnm : q_nm ci = rc.1 := by unfold q_nm; rw [hc]
          refine va_astq hx hb hK hP hD hS q0 t0 qk ci hq (by rw [← hnm, ← hk.1.2.1]; exact ht) hqk hc hk.1.2.2 d (fun H1 locs1 hP1 hD1 hS1 => ?_)
          exact h _ _ _ _ _ _ _ _ _ _ hl ⟨_, tys, hK, hP1, hD1, hrel.setA hD hq ht _⟩ hS1 h1 h2 hk.2
      · exact hk.elim
  · exact hk.elim
def q_len (σ : q_S) (a : Nat) : Option Nat := match σ a with
  | some (.inl (_, n, _)) => some n
  | _ => none
theorem q_len_some {σ : q_S} {a n : Nat} (h : q_len σ a = some n) : ∃ (ty : FieldType) (x : vp_A), σ a = some (.inl (ty, x)) ∧ x.1 = n := by
  unfold q_len at h
  split at h
  · next t n f he => cases h; exact ⟨t, (n, f), he, rfl⟩
  · cases h
def c_alen (k : q_K) : q_K := fun L st σ cr sr => match st with | .ref a :: r => (match q_len σ a with | some n => k L (.int (Int32.ofNat n) :: r) σ cr sr | none => False) | _ => False
theorem q_alen (C : q_C p s m args meth c cc nL own mn ret A) {pc : Nat} {k : q_K} (d : decode cc pc = .ok (.arraylength, 1)) (h : q_V p l e R s m args below meth c D A nL Q (pc + 1) k) : q_V p l e R s m args below meth c D A nL Q pc (c_alen k) := by
  obtain ⟨hx, hb, hml, hown, hts, hN, hA, hr, hlk, hmn⟩ := C
  intro L st σ cr sr H locs cells slots ls hl hw hS h1 h2 hk
  unfold c_alen at hk
  split at hk
  · next a r =>
      split at hk
      · next n he =>
          obtain ⟨ty, x, e1, e2⟩ := q_len_some he
          subst e2
          have hw0 := hw
          obtain ⟨ws, tys, hK, hP, hD, hrel⟩ := hw
          obtain ⟨q0, t0, cA, hq, ht⟩ := hrel a _ e1
          exact va_alen hx hb hK hP q0 t0 hq ht rfl d (h _ _ _ _ _ _ _ _ _ _ hl hw0 hS h1 h2 hk)
      · exact hk.elim
  · exact hk.elim
def c_new (ci N : Nat) (fs : List Value) (k : q_K) : q_K := fun L st σ cr sr => (1 ≤ cr ∧ N ≤ sr) ∧ ∀ q : Nat, σ q = none → k L (.ref q :: st) (q_up σ q (.inr (ci, fs))) (cr - 1) (sr - N)
theorem q_new (C : q_C p s m args meth c cc nL own mn ret A) {pc : Nat} {k : q_K} {ci idx N : Nat} {C0 : String} {T : u_T} {fs : List Value} (hc : q_cl[ci]? = some (C0, T, N)) (hin : ∀ w ∈ u_ws C0 T N, w ∈ lw_tbl) (hgw : ∀ w ∈ u_ws C0 T N, goodWord w = true) (ty0 : Nat → FieldType) (hty : ∀ k, k < N → parseFieldDescriptor (T k).2.2.1 = some (ty0 k)) (hw1 : Cond.classLink own idx C0 ∈ lw_tbl) (hw2 : Cond.instantiable C0 N ∈ lw_tbl) (hw3 : Cond.initialized C0 ∈ lw_tbl) (hfs : ∀ j, j < N → defaultValue (ty0 j) = vp_V fs j) (d : decode cc pc = .ok (.new idx, 3)) (h : q_V p l e R s m args below meth c D A nL Q (pc + 3) k) : q_V p l e R s m args below meth c D A nL Q pc (c_new ci N fs k) := by
  obtain ⟨hx, hb, hml, hown, hts, hN, hA, hr, hlk, hmn⟩ := C
  intro L st σ cr sr H locs cells slots ls hl hw hS h1 h2 hk
  obtain ⟨⟨hc1, hs1⟩, hk⟩ := hk
  obtain ⟨ws, tys, hK, hP, hD, hrel⟩ := hw
  refine va_new (C := C0) (T := T) (N := N) (ci := ci) hx hb hts (fun w hw => lw_mem (hin w hw) (hgw w hw)) ty0 hty hown (hts _ (lw_mem hw1 rfl)) (hts _ (lw_mem hw2 rfl)) (hts _ (lw_mem hw3 rfl)) hK hP hD hS hA hc hfs (by omega) (by omega) d (fun q H1 hP1 hD1 hS1 => ?_)
  have hp := hrel.push (ts := []) (e := .inr (ci, fs)) hD1 ⟨ws.length, by simp⟩
  rw [List.append_nil] at hp
  exact h _ _ _ _ _ _ _ _ _ _ hl ⟨_, tys, hK, hP1, hD1, hp.2⟩ hS1 (by omega) (by omega) (hk q hp.1)
def c_newa (ty : FieldType) (k : q_K) : q_K := fun L st σ cr sr => match st with | .int n :: r => ((¬ n < 0) ∧ n.toNatClampNeg ≤ 65536 ∧ 1 ≤ cr ∧ n.toNatClampNeg ≤ sr) ∧ ∀ q : Nat, σ q = none → k L (.ref q :: r) (q_up σ q (.inl (ty, n.toNatClampNeg, .inl (fun _ => 0)))) (cr - 1) (sr - n.toNatClampNeg) | _ => False
theorem q_newaI (C : q_C p s m args meth c cc nL own mn ret A) {pc : Nat} {k : q_K} (hw1 : Cond.arrayClass .int ∈ lw_tbl) (d : decode cc pc = .ok (.newarray .int, 2)) (h : q_V p l e R s m args below meth c D A nL Q (pc + 2) k) : q_V p l e R s m args below meth c D A nL Q pc (c_newa .int k) := by
  obtain ⟨hx, hb, hml, hown, hts, hN, hA, hr, hlk, hmn⟩ := C
  intro L st σ cr sr H locs cells slots ls hl hw hS h1 h2 hk
  unfold c_newa at hk
  split at hk
  · next n r =>
      obtain ⟨⟨hn, hn2, hc1, hs1⟩, hk⟩ := hk
      obtain ⟨ws, tys, hK, hP, hD, hrel⟩ := hw
      refine va_newa (atype := .int) (ty := .int) (a0 := (n.toNatClampNeg, .inl (fun _ => 0))) hx hb (hts _ (lw_mem hw1 rfl)) rfl hK hP hD hS hA (fun cA => rfl) hn rfl (by simp [componentBytes] <;> omega) (by omega) (by omega) d (fun q cA H1 hK1 hP1 hD1 hS1 => ?_)
      have hp := hrel.push (ts := [(cA, .int)]) (e := .inl (.int, n.toNatClampNeg, .inl (fun _ => 0))) hD1 ⟨ws.length, tys.length, cA, by simp, by simp⟩
      exact h _ _ _ _ _ _ _ _ _ _ hl ⟨_, _, hK1, hP1, hD1, hp.2⟩ hS1 (by omega) (by omega) (hk q hp.1)
  · exact hk.elim
theorem q_newaZ (C : q_C p s m args meth c cc nL own mn ret A) {pc : Nat} {k : q_K} (hw1 : Cond.arrayClass .boolean ∈ lw_tbl) (d : decode cc pc = .ok (.newarray .boolean, 2)) (h : q_V p l e R s m args below meth c D A nL Q (pc + 2) k) : q_V p l e R s m args below meth c D A nL Q pc (c_newa .boolean k) := by
  obtain ⟨hx, hb, hml, hown, hts, hN, hA, hr, hlk, hmn⟩ := C
  intro L st σ cr sr H locs cells slots ls hl hw hS h1 h2 hk
  unfold c_newa at hk
  split at hk
  · next n r =>
      obtain ⟨⟨hn, hn2, hc1, hs1⟩, hk⟩ := hk
      obtain ⟨ws, tys, hK, hP, hD, hrel⟩ := hw
      refine va_newa (atype := .boolean) (ty := .boolean) (a0 := (n.toNatClampNeg, .inl (fun _ => 0))) hx hb (hts _ (lw_mem hw1 rfl)) rfl hK hP hD hS hA (fun cA => rfl) hn rfl (by simp [componentBytes] <;> omega) (by omega) (by omega) d (fun q cA H1 hK1 hP1 hD1 hS1 => ?_)
      have hp := hrel.push (ts := [(cA, .boolean)]) (e := .inl (.boolean, n.toNatClampNeg, .inl (fun _ => 0))) hD1 ⟨ws.length, tys.length, cA, by simp, by simp⟩
      exact h _ _ _ _ _ _ _ _ _ _ hl ⟨_, _, hK1, hP1, hD1, hp.2⟩ hS1 (by omega) (by omega) (hk q hp.1)
  · exact hk.elim
def c_newq (ty : FieldType) (k : q_K) : q_K := fun L st σ cr sr => match st with | .int n :: r => ((¬ n < 0) ∧ n.toNatClampNeg ≤ 65536 ∧ 1 ≤ cr ∧ n.toNatClampNeg ≤ sr) ∧ ∀ q : Nat, σ q = none → k L (.ref q :: r) (q_up σ q (.inl (ty, n.toNatClampNeg, .inr (.inr (.inr (.inr (fun _ => none))))))) (cr - 1) (sr - n.toNatClampNeg) | _ => False
theorem q_newq (C : q_C p s m args meth c cc nL own mn ret A) {pc idx : Nat} {k : q_K} {C0 : String} (hw1 : Cond.classLink own idx C0 ∈ lw_tbl) (hw2 : (.object C0 : FieldType) ∈ q_nA) (d : decode cc pc = .ok (.anewarray idx, 3)) (h : q_V p l e R s m args below meth c D A nL Q (pc + 3) k) : q_V p l e R s m args below meth c D A nL Q pc (c_newq (.object C0) k) := by
  obtain ⟨hx, hb, hml, hown, hts, hN, hA, hr, hlk, hmn⟩ := C
  intro L st σ cr sr H locs cells slots ls hl hw hS h1 h2 hk
  unfold c_newq at hk
  split at hk
  · next n r =>
      obtain ⟨⟨hn, hn2, hc1, hs1⟩, hk⟩ := hk
      obtain ⟨ws, tys, hK, hP, hD, hrel⟩ := hw
      refine va_newq (C := C0) hx hb hown (hts _ (lw_mem hw1 rfl)) (hN.2.2 _ hw2) hK hP hD hS hA hn rfl (by omega) (by omega) (by omega) d (fun q cA H1 hK1 hP1 hD1 hS1 => ?_)
      have hp := hrel.push (ts := [(cA, .object C0)]) (e := .inl (.object C0, n.toNatClampNeg, .inr (.inr (.inr (.inr (fun _ => none)))))) hD1 ⟨ws.length, tys.length, cA, by simp, by simp⟩
      exact h _ _ _ _ _ _ _ _ _ _ hl ⟨_, _, hK1, hP1, hD1, hp.2⟩ hS1 (by omega) (by omega) (hk q hp.1)
  · exact hk.elim
def c_oinit (k : q_K) : q_K := fun L st σ cr sr => match st with | .ref _ :: r => (r.map fun v => v.category).sum ≤ 8 ∧ k L r σ cr sr | _ => False
theorem q_oinit (C : q_C p s m args meth c cc nL own mn ret A) {pc idx : Nat} {k : q_K} (hw1 : Cond.methodLink own idx objectInit ∈ lw_tbl) (hw2 : Cond.instanceMethod objectInit ∈ lw_tbl) (hw3 : Cond.code objectInit ⟨#[0xb1]⟩ 1 none ∈ lw_tbl) (hR : 1 ≤ R.frames ∧ 20 ≤ R.locals) (d : decode cc pc = .ok (.invokespecial idx, 3)) (h : q_V p l e R s m args below meth c D A nL Q (pc + 3) k) : q_V p l e R s m args below meth c D A nL Q pc (c_oinit k) := by
  obtain ⟨hx, hb, hml, hown, hts, hN, hA, hr, hlk, hmn⟩ := C
  intro L st σ cr sr H locs cells slots ls hl hw hS h1 h2 hk
  unfold c_oinit at hk
  split at hk
  · next a r =>
      have hsum := hk.1
      exact W.objInit hx hb hown (hts _ (lw_mem hw1 rfl)) (hts _ (lw_mem hw2 rfl)) (hts _ (lw_mem hw3 rfl)) rfl (by rw [hml]; exact hl.2.2.1) rfl d hR.1 (by show 2 * 0 + _ + 12 ≤ _; omega) (h _ _ _ _ _ _ _ _ _ _ hl hw hS h1 h2 hk.2)
  · exact hk.elim
def c_max (k : q_K) : q_K := fun L st σ cr sr => match st with | .int y :: .int x :: r => (r.map fun v => v.category).sum ≤ 8 ∧ k L (.int (if x < y then y else x) :: r) σ cr sr | _ => False
theorem q_max (C : q_C p s m args meth c cc nL own mn ret A) {pc idx : Nat} {k : q_K} (hw1 : Cond.methodLink own idx Lib.Math.max.name ∈ lw_tbl) (hw2 : Cond.static Lib.Math.max.name ∈ lw_tbl) (hw3 : Cond.initialized "java/lang/Math" ∈ lw_tbl) (hw4 : Cond.code Lib.Math.max.name Lib.Math.max.code 2 (some .int) ∈ lw_tbl) (hR : 1 ≤ R.frames ∧ 21 ≤ R.locals) (d : decode cc pc = .ok (.invokestatic idx, 3)) (h : q_V p l e R s m args below meth c D A nL Q (pc + 3) k) : q_V p l e R s m args below meth c D A nL Q pc (c_max k) := by
  obtain ⟨hx, hb, hml, hown, hts, hN, hA, hr, hlk, hmn⟩ := C
  intro L st σ cr sr H locs cells slots ls hl hw hS h1 h2 hk
  unfold c_max at hk
  split at hk
  · next y x r =>
      have hsum := hk.1
      exact va_mmax hx hb (hml.trans hl.2.2.1.symm) hown (hts _ (lw_mem hw1 rfl)) (hts _ (lw_mem hw2 rfl)) (hts _ (lw_mem hw3 rfl)) (hts _ (lw_mem hw4 rfl)) hR.1 (by omega) (by omega) (by omega) d (h _ _ _ _ _ _ _ _ _ _ hl hw hS h1 h2 hk.2)
  · exact hk.elim
def c_copy (k : q_K) : q_K := fun L st σ cr sr => match st with | .int n :: .int dp :: .ref b :: .int sp :: .ref a :: r => (match q_ai σ a .int with | some x => (match q_ai σ b .int with | some y => ((¬ sp < 0) ∧ (¬ dp < 0) ∧ (¬ n < 0) ∧ sp.toNatClampNeg + n.toNatClampNeg ≤ x.1 ∧ dp.toNatClampNeg + n.toNatClampNeg ≤ y.1 ∧ (r.map fun v => v.category).sum ≤ 8) ∧ k L r (q_up σ b (.inl (.int, y.1, .inl (va_cpy x.2 y.2 sp.toNatClampNeg dp.toNatClampNeg n.toNatClampNeg)))) cr sr | none => False) | none => False) | _ => False
theorem q_copy (C : q_C p s m args meth c cc nL own mn ret A) {pc idx : Nat} {k : q_K} (hw1 : Cond.methodLink own idx arraycopyName ∈ lw_tbl) (hw2 : Cond.native arraycopyName ∈ lw_tbl) (hw3 : Cond.static arraycopyName ∈ lw_tbl) (hw4 : Cond.initialized "java/lang/System" ∈ lw_tbl) (hR : 1 ≤ R.frames ∧ 8 + (nativeFrameWords "java/lang/System" "arraycopy" 5 + 11) ≤ R.locals) (d : decode cc pc = .ok (.invokestatic idx, 3)) (h : q_V p l e R s m args below meth c D A nL Q (pc + 3) k) : q_V p l e R s m args below meth c D A nL Q pc (c_copy k) := by
  obtain ⟨hx, hb, hml, hown, hts, hN, hA, hr, hlk, hmn⟩ := C
  intro L st σ cr sr H locs cells slots ls hl hw hS h1 h2 hk
  unfold c_copy at hk
  split at hk
  · next n dp b sp a r =>
      split at hk
      · next x hx1 =>
          split at hk
          · next y hy1 =>
              have e1 := q_ai_some hx1
              have e2 := q_ai_some hy1
              obtain ⟨⟨g1, g2, g3, g4, g5, g6⟩, hk⟩ := hk
              obtain ⟨ws, tys, hK, hP, hD, hrel⟩ := hw
              obtain ⟨q0, t0, c0, hq0, ht0⟩ := hrel a _ e1
              obtain ⟨q1, t1, c1, hq1, ht1⟩ := hrel b _ e2
              refine va_copyi hx hb (hml.trans hl.2.2.1.symm) hown (hts _ (lw_mem hw1 rfl)) (hts _ (lw_mem hw2 rfl)) (hts _ (lw_mem hw3 rfl)) (hts _ (lw_mem hw4 rfl)) hK hP hD hS q0 q1 t0 t1 hq0 hq1 ht0 ht1 rfl g1 g2 g3 g4 g5 (fun i hi => rfl) hR.1 (by omega) d (fun H1 locs1 hP1 hD1 hS1 => ?_)
              exact h _ _ _ _ _ _ _ _ _ _ hl ⟨_, tys, hK, hP1, hD1, hrel.setA hD hq1 ht1 _⟩ hS1 h1 h2 hk
          · exact hk.elim
      · exact hk.elim
  · exact hk.elim
end QM
