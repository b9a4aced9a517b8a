-- the store: cells by address, arrays by their element's type
abbrev q_E : Type := (FieldType × vp_A) ⊕ (Nat × List Value)
abbrev q_S : Type := Nat → Option q_E
def q_up (σ : q_S) (a : Nat) (e : q_E) : q_S := fun b => if b = a then some e else σ b
theorem q_up_s {σ : q_S} {a : Nat} {e : q_E} : q_up σ a e a = some e := by simp [q_up]
theorem q_up_n {σ : q_S} {a b : Nat} {e : q_E} (h : b ≠ a) : q_up σ a e b = σ b := by simp [q_up, h]
abbrev q_K : Type := List (Option Value) → List Value → q_S → Nat → Nat → Prop
abbrev q_Sp : Type := List Value → q_S → (Option Value → q_S → Prop) → Prop
abbrev q_cl : List vw_C := [(RX0, TX0, 5), (RX1, TX1, 2), (RX2, TX2, 2), (RX3, TX3, 1), (RX4, TX4, 6), (RX5, TX5, 2), (RX6, TX6, 3), (RX7, TX7, 3), (RX8, TX8, 2), (RX9, TX9, 5), (RX10, TX10, 10), (RX11, TX11, 35)]
def q_in (ws : va_W) (tys : List (ClassId × FieldType)) (a : Nat) (e : q_E) : Prop := match e with
  | .inr o => ∃ k : Nat, ws[k]? = some (a, .inr o)
  | .inl y => ∃ (k t : Nat) (cA : ClassId), ws[k]? = some (a, .inl (cA, y.2)) ∧ tys[t]? = some (cA, y.1)
def q_rel (ws : va_W) (tys : List (ClassId × FieldType)) (σ : q_S) : Prop := ∀ (a : Nat) (e : q_E), σ a = some e → q_in ws tys a e
def q_W (D : va_G) (A : Nat → Prop) (σ : q_S) (U : State) (H : Heap) : Prop := ∃ (ws : va_W) (tys : List (ClassId × FieldType)), va_K D q_cl tys U ∧ va_P D q_cl ws H ∧ va_D A ws ∧ q_rel ws tys σ
theorem q_in.at {ws : va_W} {tys : List (ClassId × FieldType)} {a : Nat} {e : q_E} (h : q_in ws tys a e) : ∃ (k : Nat) (e' : va_E), ws[k]? = some (a, e') := by
  cases e with
  | inl y => obtain ⟨k, t, cA, h1, -⟩ := h; exact ⟨k, _, h1⟩
  | inr o => obtain ⟨k, h1⟩ := h; exact ⟨k, _, h1⟩
theorem q_in.mono {ws ws2 : va_W} {tys tys2 : List (ClassId × FieldType)} {a : Nat} {e : q_E} (h : q_in ws tys a e) (h1 : ∀ (k : Nat) (x : va_E), ws[k]? = some (a, x) → ∃ j : Nat, ws2[j]? = some (a, x)) (h2 : ∀ (t : Nat) (x : ClassId × FieldType), tys[t]? = some x → ∃ j : Nat, tys2[j]? = some x) : q_in ws2 tys2 a e := by
  cases e with
  | inl y =>
    obtain ⟨k, t, cA, e1, e2⟩ := h
    obtain ⟨j, f1⟩ := h1 _ _ e1
    obtain ⟨i, f2⟩ := h2 _ _ e2
    exact ⟨j, i, cA, f1, f2⟩
  | inr o =>
    obtain ⟨k, e1⟩ := h
    exact h1 _ _ e1
theorem q_rel.set {ws : va_W} {tys : List (ClassId × FieldType)} {σ : q_S} {A : Nat → Prop} (h : q_rel ws tys σ) (hD : va_D A ws) {k a : Nat} {e0 e' : va_E} {e : q_E} (hk : ws[k]? = some (a, e0)) (he : q_in (ws.set k (a, e')) tys a e) : q_rel (ws.set k (a, e')) tys (q_up σ a e) := by
  intro b x hb
  by_cases hba : b = a
  · subst hba
    rw [q_up_s] at hb
    cases hb
    exact he
  · rw [q_up_n hba] at hb
    refine (h b x hb).mono (fun j y hj => ⟨j, ?_⟩) (fun t y ht => ⟨t, ht⟩)
    have hne : k ≠ j := fun hkj => by
      subst hkj
      rw [hk] at hj
      cases hj
      exact hba rfl
    rw [List.getElem?_set_ne hne]
    exact hj
theorem q_rel.push {ws : va_W} {tys ts : List (ClassId × FieldType)} {σ : q_S} {A : Nat → Prop} (h : q_rel ws tys σ) {q : Nat} {e' : va_E} {e : q_E} (hD : va_D A (ws ++ [(q, e')])) (he : q_in (ws ++ [(q, e')]) (tys ++ ts) q e) : σ q = none ∧ q_rel (ws ++ [(q, e')]) (tys ++ ts) (q_up σ q e) := by
  have hap : ∀ (j : Nat) (y : Nat × va_E), ws[j]? = some y → (ws ++ [(q, e')])[j]? = some y := fun j y hj => by
    rw [List.getElem?_append_left ((List.getElem?_eq_some_iff.mp hj).1)]
    exact hj
  refine ⟨?_, fun b x hb => ?_⟩
  · cases hq : σ q with
    | none => rfl
    | some x =>
      obtain ⟨j, y, hj⟩ := (h q x hq).at
      have h1 : (ws ++ [(q, e')])[ws.length]? = some (q, e') := by simp
      have := hD.1 _ _ _ _ (hap _ _ hj) h1 rfl
      have h2 := (List.getElem?_eq_some_iff.mp hj).1
      omega
  · by_cases hba : b = q
    · subst hba
      rw [q_up_s] at hb
      cases hb
      exact he
    · rw [q_up_n hba] at hb
      refine (h b x hb).mono (fun j y hj => ⟨j, hap _ _ hj⟩) (fun t y ht => ⟨t, ?_⟩)
      rw [List.getElem?_append_left ((List.getElem?_eq_some_iff.mp ht).1)]
      exact ht
theorem q_W.moved {D : va_G} {A : Nat → Prop} {σ : q_S} {u U : State} {H : Heap} (hvm : u.vm.Alike U.vm) (h : q_W D A σ u H) : q_W D A σ U H := by
  obtain ⟨ws, tys, hK, hP, hD, hr⟩ := h
  exact ⟨ws, tys, va_K.moved hvm hK, hP, hD, hr⟩
-- what the states must keep beside the words
def q_nF : List (String × Nat × String × String × String) := [("CopyRegister", 108, "CopyRegister$Person", "deathDay", "I"), ("CopyRegister", 165, "CopyRegister$Work", "entryDay", "I"), ("CopyRegister", 189, "CopyRegister$Work", "lines", "LCopyRegister$Lines;"), ("CopyRegister", 213, "CopyRegister$Acts", "size", "I"), ("CopyRegister", 216, "CopyRegister$CommonLines", "size", "I"), ("CopyRegister", 72, "CopyRegister$Person", "heirNumber", "I"), ("CopyRegister", 91, "CopyRegister$Work", "shares", "LCopyRegister$Shares;"), ("CopyRegister$Act", 27, "CopyRegister$Work", "entryDay", "I"), ("CopyRegister$Act", 32, "CopyRegister$Work", "author", "LCopyRegister$Person;"), ("CopyRegister$Act", 43, "CopyRegister$Person", "deathDay", "I"), ("CopyRegister$Acts", 25, "CopyRegister$Act", "day", "I"), ("CopyRegister$Acts", 31, "CopyRegister$Act", "consent", "I"), ("CopyRegister$Acts", 38, "CopyRegister$Work", "entryDay", "I"), ("CopyRegister$Comparison", 20, "CopyRegister$Lines", "size", "I"), ("CopyRegister$Shares", 33, "CopyRegister$Page", "day", "I"), ("CopyRegister$Shares", 37, "CopyRegister$Page", "before", "LCopyRegister$Page;")]
def q_nM : List (String × Nat × MethodName) := [("CopyRegister$CommonLines", 19, yX10_oneIf), ("CopyRegister$Shares", 54, yX10_isWithin)]
def q_nA : List FieldType := [.object "CopyRegister$Act", .object "CopyRegister$Licence", .object "CopyRegister$Person", .object "CopyRegister$Work", .array .int]
def q_N (U : State) : Prop := (∀ w ∈ q_nF, va_Nw (.fieldLinkNest w.1 w.2.1 w.2.2.1 w.2.2.2.1 w.2.2.2.2 "CopyRegister") U) ∧ (∀ w ∈ q_nM, va_Nw (.methodLinkNest w.1 w.2.1 w.2.2 "CopyRegister") U) ∧ ∀ t ∈ q_nA, (Cond.arrayOver t).before #[] U = true
theorem q_N.warm {s U : State} (hW : s.WarmedH U.vm) (h : q_N s) : q_N U :=
  ⟨fun w hw => va_Nw.warmF hW (h.1 w hw), fun w hw => va_Nw.warmM hW (h.2.1 w hw), fun t ht => by
    have h9 : (Cond.arrayOver t).before #[] (s.setVm U.vm) = true := by rw [Cond.arrayOver_setVmC hW.alike]; exact h.2.2 t ht
    exact h9⟩
theorem q_N.same {u U : State} (hv : u.vm = U.vm) (h : q_N u) : q_N U :=
  ⟨fun w hw => va_Nw.same rfl hv (h.1 w hw), fun w hw => va_Nw.same rfl hv (h.2.1 w hw), fun t ht => by
    have h9 := h.2.2 t ht
    simp only [Cond.before, Cond.holds, Cond.value] at h9 ⊢
    rw [← hv]
    exact h9⟩
-- words
def lw_good : List Cond := lw_tbl.filter goodWord
theorem lw_mem {w : Cond} (h : w ∈ lw_tbl) (g : goodWord w = true) : w ∈ lw_good := List.mem_filter.mpr ⟨h, g⟩
def q_ws (y : MethodName) (b : ByteArray) (n : Nat) (ret : Option FieldType) : List Cond := .code y b n ret :: lw_good
theorem q_goodIn {y y2 : MethodName} {b b2 : ByteArray} {n n2 : Nat} {r r2 : Option FieldType} (h : Cond.code y2 b2 n2 r2 ∈ lw_tbl) : GoodIn lw_good (q_ws y2 b2 n2 r2) := by
  intro w hw
  rcases List.mem_cons.mp hw with rfl | hw
  · exact ⟨lw_mem h rfl, good_of_word rfl⟩
  · exact ⟨hw, good_of_word (List.mem_filter.mp hw).2⟩
-- contracts
def q_Pc (D : va_G) (A : Nat → Prop) (σ : q_S) (av : List Value) (sz : Nat) : Array Value → State → Prop := va_Pc av (fun U => U.heap.size = sz ∧ q_W D A σ U U.heap ∧ q_N U)
def q_Qc (D : va_G) (A : Nat → Prop) (post : Option Value → q_S → Prop) : Array Value → State → Outcome → State → Prop := fun _ st oc t => (∃ (r : Option Value) (σ' : q_S), oc = .returned r ∧ post r σ' ∧ q_W D A σ' t t.heap) ∧ va_F A st t
def q_Ct (l : Launch) (y : MethodName) (b : ByteArray) (n : Nat) (ret : Option FieldType) (rm : Room) (sp : q_Sp) : Prop := ∀ (D : va_G) (A : Nat → Prop) (sz : Nat) (σ : q_S) (av : List Value) (post : Option Value → q_S → Prop), (∀ q, sz ≤ q → A q) → sp av σ post → Met l y (q_ws y b n ret) rm (q_Pc D A σ av sz) (q_Qc D A post) rm.cells rm.slots A
-- locals
def q_al (L : List (Option Value)) : List (Nat × Value) := (List.range L.length).filterMap (fun i => (L[i]?).bind (fun o => o.map (fun v => (i, v))))
theorem q_al_mem {L : List (Option Value)} {i : Nat} {v : Value} : (i, v) ∈ q_al L ↔ L[i]? = some (some v) := by
  unfold q_al
  rw [List.mem_filterMap]
  constructor
  · rintro ⟨j, -, hj⟩
    cases h1 : L[j]? with
    | none => rw [h1] at hj; cases hj
    | some o =>
      rw [h1] at hj
      cases o with
      | none => cases hj
      | some w =>
        have : (j, w) = (i, v) := Option.some.inj hj
        cases this
        exact h1
  · intro h
    refine ⟨i, List.mem_range.mpr (List.getElem?_eq_some_iff.mp h).1, ?_⟩
    rw [h]
    rfl
def q_lv (ls : Array Slot) (nL : Nat) (L : List (Option Value)) : Prop := L.length = nL ∧ (∀ (i : Nat) (v : Value), L[i]? = some (some v) → v.category = 1) ∧ lv_has ls nL (q_al L)
theorem q_lv.at {ls : Array Slot} {nL : Nat} {L : List (Option Value)} (h : q_lv ls nL L) {i : Nat} {v : Value} (hi : L[i]? = some (some v)) : ls[i]? = some (.val v) := h.2.2.2.2 (i, v) (q_al_mem.mpr hi)
theorem q_lv.set {ls ls2 : Array Slot} {nL : Nat} {L : List (Option Value)} (h : q_lv ls nL L) {i : Nat} {v : Value} (hc : v.category = 1) (hi : i < L.length) (h2 : lv_has ls2 nL ((i, v) :: (q_al L).filter (fun q => !(q.1 == i) && !(q.1 + 1 == i && q.2.category == 2)))) : q_lv ls2 nL (L.set i (some v)) := by
  refine ⟨by rw [List.length_set]; exact h.1, fun j w hj => ?_, h2.1, h2.2.1, fun q hq => ?_⟩
  · by_cases e : i = j
    · subst e
      rw [List.getElem?_set_self hi] at hj
      cases hj
      exact hc
    · rw [List.getElem?_set_ne e] at hj
      exact h.2.1 j w hj
  · obtain ⟨j, w⟩ := q
    have hj := q_al_mem.mp hq
    by_cases e : i = j
    · subst e
      rw [List.getElem?_set_self hi] at hj
      cases hj
      exact h2.2.2 _ List.mem_cons_self
    · rw [List.getElem?_set_ne e] at hj
      refine h2.2.2 _ (List.mem_cons_of_mem _ (List.mem_filter.mpr ⟨q_al_mem.mpr hj, ?_⟩))
      have := h.2.1 j w hj
      simp [this, Ne.symm e]
-- the judgement
section QV
variable {p : Program} {l : Launch} {e : Env} {R : Room} {s : State} {m : MethodId} {args : Array Value} {below : List Frame} {meth : Method} {c : Code} {D : va_G} {A : Nat → Prop} {nL : Nat} {Q : State → Prop} {cc : ByteArray} {own mn : String} {ret : Option FieldType}
def q_V (p : Program) (l : Launch) (e : Env) (R : Room) (s : State) (m : MethodId) (args : Array Value) (below : List Frame) (meth : Method) (c : Code) (D : va_G) (A : Nat → Prop) (nL : Nat) (Q : State → Prop) (pc : Nat) (k : q_K) : Prop :=
  ∀ (L : List (Option Value)) (st : List Value) (σ : q_S) (cr sr : Nat) (H : Heap) (locs : List Loc) (cells slots : Nat) (ls : Array Slot), q_lv ls nL L → q_W D A σ s H → va_S A s.heap H locs → cells + cr ≤ R.cells → slots + sr ≤ R.slots → k L st σ cr sr → W p l e R s m args below meth c H locs cells slots Q (F0 m pc ls st)
def q_C (p : Program) (s : State) (m : MethodId) (args : Array Value) (meth : Method) (c : Code) (cc : ByteArray) (nL : Nat) (own mn : String) (ret : Option FieldType) (A : Nat → Prop) : Prop :=
  p.tables.exec = Jvm.exec ∧ c.code = cc ∧ c.maxLocals = nL ∧ s.vm.findClass own = some m.cls ∧ (∀ w ∈ lw_good, w.before args s = true) ∧ q_N s ∧ (∀ q, s.heap.size ≤ q → A q) ∧ meth.sig.returnType = ret ∧ meth.locks = false ∧ meth.name = mn
def c_push (v : Int32) (k : q_K) : q_K := fun L st σ cr sr => k L (.int v :: st) σ cr sr
theorem q_iconst (C : q_C p s m args meth c cc nL own mn ret A) {pc : Nat} {k : q_K} {n : Int} {v : Int32} (d : decode cc pc = .ok (.iconst n, 1)) (hv : Int32.ofInt n = v) (h : q_V p l e R s m args below meth c D A nL Q (pc + 1) k) : q_V p l e R s m args below meth c D A nL Q pc (c_push v k) := by
  obtain ⟨hx, hb, hml, hown, hts, hN, hA, hr, hlk, hmn⟩ := C
  intro L st σ cr sr H locs cells slots ls hl hw hS h1 h2 hk
  exact lv_iconst hx hb d hv (h _ _ _ _ _ _ _ _ _ _ hl hw hS h1 h2 hk)
theorem q_bipush (C : q_C p s m args meth c cc nL own mn ret A) {pc : Nat} {k : q_K} {n : Int} {v : Int32} (d : decode cc pc = .ok (.bipush n, 2)) (hv : (Int8.ofInt n).toInt32 = v) (h : q_V p l e R s m args below meth c D A nL Q (pc + 2) k) : q_V p l e R s m args below meth c D A nL Q pc (c_push v k) := by
  obtain ⟨hx, hb, hml, hown, hts, hN, hA, hr, hlk, hmn⟩ := C
  intro L st σ cr sr H locs cells slots ls hl hw hS h1 h2 hk
  exact lv_bipush hx hb d hv (h _ _ _ _ _ _ _ _ _ _ hl hw hS h1 h2 hk)
theorem q_sipush (C : q_C p s m args meth c cc nL own mn ret A) {pc : Nat} {k : q_K} {n : Int} {v : Int32} (d : decode cc pc = .ok (.sipush n, 3)) (hv : (Int16.ofInt n).toInt32 = v) (h : q_V p l e R s m args below meth c D A nL Q (pc + 3) k) : q_V p l e R s m args below meth c D A nL Q pc (c_push v k) := by
  obtain ⟨hx, hb, hml, hown, hts, hN, hA, hr, hlk, hmn⟩ := C
  intro L st σ cr sr H locs cells slots ls hl hw hS h1 h2 hk
  exact lv_sipush hx hb d hv (h _ _ _ _ _ _ _ _ _ _ hl hw hS h1 h2 hk)
theorem q_ldc (C : q_C p s m args meth c cc nL own mn ret A) {pc : Nat} {k : q_K} {n : Nat} {v : Int32} (d : decode cc pc = .ok (.ldc n, 2)) (hv : Cond.constant own n v ∈ lw_tbl) (h : q_V p l e R s m args below meth c D A nL Q (pc + 2) k) : q_V p l e R s m args below meth c D A nL Q pc (c_push v k) := by
  obtain ⟨hx, hb, hml, hown, hts, hN, hA, hr, hlk, hmn⟩ := C
  intro L st σ cr sr H locs cells slots ls hl hw hS h1 h2 hk
  exact lv_ldc hx hb hown (hts _ (lw_mem hv rfl)) d (h _ _ _ _ _ _ _ _ _ _ hl hw hS h1 h2 hk)
def c_null (k : q_K) : q_K := fun L st σ cr sr => k L (.null :: st) σ cr sr
theorem q_null (C : q_C p s m args meth c cc nL own mn ret A) {pc : Nat} {k : q_K} (d : decode cc pc = .ok (.aconst_null, 1)) (h : q_V p l e R s m args below meth c D A nL Q (pc + 1) k) : q_V p l e R s m args below meth c D A nL Q pc (c_null k) := by
  obtain ⟨hx, hb, hml, hown, hts, hN, hA, hr, hlk, hmn⟩ := C
  intro L st σ cr sr H locs cells slots ls hl hw hS h1 h2 hk
  exact lv_null hx hb d (h _ _ _ _ _ _ _ _ _ _ hl hw hS h1 h2 hk)
def c_iload (i : Nat) (k : q_K) : q_K := fun L st σ cr sr => match L[i]? with | some (some (.int x)) => k L (.int x :: st) σ cr sr | _ => False
def c_aload (i : Nat) (k : q_K) : q_K := fun L st σ cr sr => match L[i]? with | some (some (.ref x)) => k L (.ref x :: st) σ cr sr | some (some .null) => k L (.null :: st) σ cr sr | _ => False
theorem q_iload (C : q_C p s m args meth c cc nL own mn ret A) {pc : Nat} {k : q_K} {i : Nat} (d : decode cc pc = .ok (.iload i, 2)) (h : q_V p l e R s m args below meth c D A nL Q (pc + 2) k) : q_V p l e R s m args below meth c D A nL Q pc (c_iload i k) := by
  obtain ⟨hx, hb, hml, hown, hts, hN, hA, hr, hlk, hmn⟩ := C
  intro L st σ cr sr H locs cells slots ls hl hw hS h1 h2 hk
  unfold c_iload at hk
  split at hk
  · next x he => exact lv_iload hx hb d (hl.at he) (h _ _ _ _ _ _ _ _ _ _ hl hw hS h1 h2 hk)
  · exact hk.elim
theorem q_iload_n (C : q_C p s m args meth c cc nL own mn ret A) {pc : Nat} {k : q_K} {i : Fin 4} (d : decode cc pc = .ok (.iload_n i, 1)) (h : q_V p l e R s m args below meth c D A nL Q (pc + 1) k) : q_V p l e R s m args below meth c D A nL Q pc (c_iload i.val k) := by
  obtain ⟨hx, hb, hml, hown, hts, hN, hA, hr, hlk, hmn⟩ := C
  intro L st σ cr sr H locs cells slots ls hl hw hS h1 h2 hk
  unfold c_iload at hk
  split at hk
  · next x he => exact lv_iload_n hx hb d rfl (hl.at he) (h _ _ _ _ _ _ _ _ _ _ hl hw hS h1 h2 hk)
  · exact hk.elim
theorem q_aload (C : q_C p s m args meth c cc nL own mn ret A) {pc : Nat} {k : q_K} {i : Nat} (d : decode cc pc = .ok (.aload i, 2)) (h : q_V p l e R s m args below meth c D A nL Q (pc + 2) k) : q_V p l e R s m args below meth c D A nL Q pc (c_aload i k) := by
  obtain ⟨hx, hb, hml, hown, hts, hN, hA, hr, hlk, hmn⟩ := C
  intro L st σ cr sr H locs cells slots ls hl hw hS h1 h2 hk
  unfold c_aload at hk
  split at hk
  · next x he => exact lv_aload hx hb d (hl.at he) (h _ _ _ _ _ _ _ _ _ _ hl hw hS h1 h2 hk)
  · next he => exact lv_aloadN hx hb d (hl.at he) (h _ _ _ _ _ _ _ _ _ _ hl hw hS h1 h2 hk)
  · exact hk.elim
theorem q_aload_n (C : q_C p s m args meth c cc nL own mn ret A) {pc : Nat} {k : q_K} {i : Fin 4} (d : decode cc pc = .ok (.aload_n i, 1)) (h : q_V p l e R s m args below meth c D A nL Q (pc + 1) k) : q_V p l e R s m args below meth c D A nL Q pc (c_aload i.val k) := by
  obtain ⟨hx, hb, hml, hown, hts, hN, hA, hr, hlk, hmn⟩ := C
  intro L st σ cr sr H locs cells slots ls hl hw hS h1 h2 hk
  unfold c_aload at hk
  split at hk
  · next x he => exact lv_aload_n hx hb d rfl (hl.at he) (h _ _ _ _ _ _ _ _ _ _ hl hw hS h1 h2 hk)
  · next he => exact lv_aload_nN hx hb d rfl (hl.at he) (h _ _ _ _ _ _ _ _ _ _ hl hw hS h1 h2 hk)
  · exact hk.elim
def c_istore (i : Nat) (k : q_K) : q_K := fun L st σ cr sr => match st with | .int x :: r => i < L.length ∧ k (L.set i (some (.int x))) r σ cr sr | _ => False
def c_astore (i : Nat) (k : q_K) : q_K := fun L st σ cr sr => match st with | .ref x :: r => i < L.length ∧ k (L.set i (some (.ref x))) r σ cr sr | .null :: r => i < L.length ∧ k (L.set i (some .null)) r σ cr sr | _ => False
theorem q_istore (C : q_C p s m args meth c cc nL own mn ret A) {pc : Nat} {k : q_K} {i : Nat} (d : decode cc pc = .ok (.istore i, 2)) (h : q_V p l e R s m args below meth c D A nL Q (pc + 2) k) : q_V p l e R s m args below meth c D A nL Q pc (c_istore i k) := by
  obtain ⟨hx, hb, hml, hown, hts, hN, hA, hr, hlk, hmn⟩ := C
  intro L st σ cr sr H locs cells slots ls hl hw hS h1 h2 hk
  unfold c_istore at hk
  split at hk
  · next x r => exact lv_istore hx hb d hl.2.2 (by rw [← hl.1]; exact hk.1) rfl (fun ls' hl' => h _ _ _ _ _ _ _ _ _ _ (hl.set rfl hk.1 hl') hw hS h1 h2 hk.2)
  · exact hk.elim
theorem q_istore_n (C : q_C p s m args meth c cc nL own mn ret A) {pc : Nat} {k : q_K} {i : Fin 4} (d : decode cc pc = .ok (.istore_n i, 1)) (h : q_V p l e R s m args below meth c D A nL Q (pc + 1) k) : q_V p l e R s m args below meth c D A nL Q pc (c_istore i.val k) := by
  obtain ⟨hx, hb, hml, hown, hts, hN, hA, hr, hlk, hmn⟩ := C
  intro L st σ cr sr H locs cells slots ls hl hw hS h1 h2 hk
  unfold c_istore at hk
  split at hk
  · next x r => exact lv_istore_n hx hb d rfl hl.2.2 (by rw [← hl.1]; exact hk.1) rfl (fun ls' hl' => h _ _ _ _ _ _ _ _ _ _ (hl.set rfl hk.1 hl') hw hS h1 h2 hk.2)
  · exact hk.elim
theorem q_astore (C : q_C p s m args meth c cc nL own mn ret A) {pc : Nat} {k : q_K} {i : Nat} (d : decode cc pc = .ok (.astore i, 2)) (h : q_V p l e R s m args below meth c D A nL Q (pc + 2) k) : q_V p l e R s m args below meth c D A nL Q pc (c_astore i k) := by
  obtain ⟨hx, hb, hml, hown, hts, hN, hA, hr, hlk, hmn⟩ := C
  intro L st σ cr sr H locs cells slots ls hl hw hS h1 h2 hk
  unfold c_astore at hk
  split at hk
  · next x r => exact lv_astore hx hb d hl.2.2 (by rw [← hl.1]; exact hk.1) rfl (fun ls' hl' => h _ _ _ _ _ _ _ _ _ _ (hl.set rfl hk.1 hl') hw hS h1 h2 hk.2)
  · next r => exact lv_astoreN hx hb d hl.2.2 (by rw [← hl.1]; exact hk.1) rfl (fun ls' hl' => h _ _ _ _ _ _ _ _ _ _ (hl.set rfl hk.1 hl') hw hS h1 h2 hk.2)
  · exact hk.elim
theorem q_astore_n (C : q_C p s m args meth c cc nL own mn ret A) {pc : Nat} {k : q_K} {i : Fin 4} (d : decode cc pc = .ok (.astore_n i, 1)) (h : q_V p l e R s m args below meth c D A nL Q (pc + 1) k) : q_V p l e R s m args below meth c D A nL Q pc (c_astore i.val k) := by
  obtain ⟨hx, hb, hml, hown, hts, hN, hA, hr, hlk, hmn⟩ := C
  intro L st σ cr sr H locs cells slots ls hl hw hS h1 h2 hk
  unfold c_astore at hk
  split at hk
  · next x r => exact lv_astore_n hx hb d rfl hl.2.2 (by rw [← hl.1]; exact hk.1) rfl (fun ls' hl' => h _ _ _ _ _ _ _ _ _ _ (hl.set rfl hk.1 hl') hw hS h1 h2 hk.2)
  · next r => exact lv_astore_nN hx hb d rfl hl.2.2 (by rw [← hl.1]; exact hk.1) rfl (fun ls' hl' => h _ _ _ _ _ _ _ _ _ _ (hl.set rfl hk.1 hl') hw hS h1 h2 hk.2)
  · exact hk.elim
def c_iinc (i : Nat) (n : Int32) (k : q_K) : q_K := fun L st σ cr sr => match L[i]? with | some (some (.int x)) => k (L.set i (some (.int (x + n)))) st σ cr sr | _ => False
theorem q_iinc (C : q_C p s m args meth c cc nL own mn ret A) {pc : Nat} {k : q_K} {i : Nat} {n : Int} {v : Int32} (d : decode cc pc = .ok (.iinc i n, 3)) (hv : Int32.ofInt n = v) (h : q_V p l e R s m args below meth c D A nL Q (pc + 3) k) : q_V p l e R s m args below meth c D A nL Q pc (c_iinc i v k) := by
  obtain ⟨hx, hb, hml, hown, hts, hN, hA, hr, hlk, hmn⟩ := C
  intro L st σ cr sr H locs cells slots ls hl hw hS h1 h2 hk
  subst hv
  unfold c_iinc at hk
  split at hk
  · next x he =>
      obtain ⟨j, hj⟩ := List.getElem?_of_mem (q_al_mem.mpr he)
      have hi := (List.getElem?_eq_some_iff.mp he).1
      exact lv_iinc hx hb d hl.2.2 hj rfl (by rw [← hl.1]; exact hi) rfl (fun ls' hl' => h _ _ _ _ _ _ _ _ _ _ (hl.set rfl hi hl') hw hS h1 h2 hk)
  · exact hk.elim
def c_iadd (k : q_K) : q_K := fun L st σ cr sr => match st with | .int y :: .int x :: r => k L (.int (x + y) :: r) σ cr sr | _ => False
theorem q_iadd (C : q_C p s m args meth c cc nL own mn ret A) {pc : Nat} {k : q_K} (d : decode cc pc = .ok (.iadd, 1)) (h : q_V p l e R s m args below meth c D A nL Q (pc + 1) k) : q_V p l e R s m args below meth c D A nL Q pc (c_iadd k) := by
  obtain ⟨hx, hb, hml, hown, hts, hN, hA, hr, hlk, hmn⟩ := C
  intro L st σ cr sr H locs cells slots ls hl hw hS h1 h2 hk
  unfold c_iadd at hk
  split at hk
  · exact lv_iadd hx hb d (h _ _ _ _ _ _ _ _ _ _ hl hw hS h1 h2 hk)
  · exact hk.elim
def c_isub (k : q_K) : q_K := fun L st σ cr sr => match st with | .int y :: .int x :: r => k L (.int (x - y) :: r) σ cr sr | _ => False
theorem q_isub (C : q_C p s m args meth c cc nL own mn ret A) {pc : Nat} {k : q_K} (d : decode cc pc = .ok (.isub, 1)) (h : q_V p l e R s m args below meth c D A nL Q (pc + 1) k) : q_V p l e R s m args below meth c D A nL Q pc (c_isub k) := by
  obtain ⟨hx, hb, hml, hown, hts, hN, hA, hr, hlk, hmn⟩ := C
  intro L st σ cr sr H locs cells slots ls hl hw hS h1 h2 hk
  unfold c_isub at hk
  split at hk
  · exact lv_isub hx hb d (h _ _ _ _ _ _ _ _ _ _ hl hw hS h1 h2 hk)
  · exact hk.elim
def c_imul (k : q_K) : q_K := fun L st σ cr sr => match st with | .int y :: .int x :: r => k L (.int (x * y) :: r) σ cr sr | _ => False
theorem q_imul (C : q_C p s m args meth c cc nL own mn ret A) {pc : Nat} {k : q_K} (d : decode cc pc = .ok (.imul, 1)) (h : q_V p l e R s m args below meth c D A nL Q (pc + 1) k) : q_V p l e R s m args below meth c D A nL Q pc (c_imul k) := by
  obtain ⟨hx, hb, hml, hown, hts, hN, hA, hr, hlk, hmn⟩ := C
  intro L st σ cr sr H locs cells slots ls hl hw hS h1 h2 hk
  unfold c_imul at hk
  split at hk
  · exact lv_imul hx hb d (h _ _ _ _ _ _ _ _ _ _ hl hw hS h1 h2 hk)
  · exact hk.elim
def c_iand (k : q_K) : q_K := fun L st σ cr sr => match st with | .int y :: .int x :: r => k L (.int (x &&& y) :: r) σ cr sr | _ => False
theorem q_iand (C : q_C p s m args meth c cc nL own mn ret A) {pc : Nat} {k : q_K} (d : decode cc pc = .ok (.iand, 1)) (h : q_V p l e R s m args below meth c D A nL Q (pc + 1) k) : q_V p l e R s m args below meth c D A nL Q pc (c_iand k) := by
  obtain ⟨hx, hb, hml, hown, hts, hN, hA, hr, hlk, hmn⟩ := C
  intro L st σ cr sr H locs cells slots ls hl hw hS h1 h2 hk
  unfold c_iand at hk
  split at hk
  · exact lv_iand hx hb d (h _ _ _ _ _ _ _ _ _ _ hl hw hS h1 h2 hk)
  · exact hk.elim
def c_ineg (k : q_K) : q_K := fun L st σ cr sr => match st with | .int x :: r => k L (.int (-x) :: r) σ cr sr | _ => False
theorem q_ineg (C : q_C p s m args meth c cc nL own mn ret A) {pc : Nat} {k : q_K} (d : decode cc pc = .ok (.ineg, 1)) (h : q_V p l e R s m args below meth c D A nL Q (pc + 1) k) : q_V p l e R s m args below meth c D A nL Q pc (c_ineg k) := by
  obtain ⟨hx, hb, hml, hown, hts, hN, hA, hr, hlk, hmn⟩ := C
  intro L st σ cr sr H locs cells slots ls hl hw hS h1 h2 hk
  unfold c_ineg at hk
  split at hk
  · exact lv_ineg hx hb d (h _ _ _ _ _ _ _ _ _ _ hl hw hS h1 h2 hk)
  · exact hk.elim
def c_dup (k : q_K) : q_K := fun L st σ cr sr => match st with | a :: r => a.category = 1 ∧ k L (a :: a :: r) σ cr sr | _ => False
theorem q_dup (C : q_C p s m args meth c cc nL own mn ret A) {pc : Nat} {k : q_K} (d : decode cc pc = .ok (.dup, 1)) (h : q_V p l e R s m args below meth c D A nL Q (pc + 1) k) : q_V p l e R s m args below meth c D A nL Q pc (c_dup k) := by
  obtain ⟨hx, hb, hml, hown, hts, hN, hA, hr, hlk, hmn⟩ := C
  intro L st σ cr sr H locs cells slots ls hl hw hS h1 h2 hk
  unfold c_dup at hk
  split at hk
  · exact lv_dup hx hb d hk.1 (h _ _ _ _ _ _ _ _ _ _ hl hw hS h1 h2 hk.2)
  · exact hk.elim
def c_dup2 (k : q_K) : q_K := fun L st σ cr sr => match st with | a :: b :: r => (a.category = 1 ∧ b.category = 1) ∧ k L (a :: b :: a :: b :: r) σ cr sr | _ => False
theorem q_dup2 (C : q_C p s m args meth c cc nL own mn ret A) {pc : Nat} {k : q_K} (d : decode cc pc = .ok (.dup2, 1)) (h : q_V p l e R s m args below meth c D A nL Q (pc + 1) k) : q_V p l e R s m args below meth c D A nL Q pc (c_dup2 k) := by
  obtain ⟨hx, hb, hml, hown, hts, hN, hA, hr, hlk, hmn⟩ := C
  intro L st σ cr sr H locs cells slots ls hl hw hS h1 h2 hk
  unfold c_dup2 at hk
  split at hk
  · exact lv_dup2_11 hx hb d hk.1.1 hk.1.2 (h _ _ _ _ _ _ _ _ _ _ hl hw hS h1 h2 hk.2)
  · exact hk.elim
def c_pop (k : q_K) : q_K := fun L st σ cr sr => match st with | a :: r => a.category = 1 ∧ k L r σ cr sr | _ => False
theorem q_pop (C : q_C p s m args meth c cc nL own mn ret A) {pc : Nat} {k : q_K} (d : decode cc pc = .ok (.pop, 1)) (h : q_V p l e R s m args below meth c D A nL Q (pc + 1) k) : q_V p l e R s m args below meth c D A nL Q pc (c_pop k) := by
  obtain ⟨hx, hb, hml, hown, hts, hN, hA, hr, hlk, hmn⟩ := C
  intro L st σ cr sr H locs cells slots ls hl hw hS h1 h2 hk
  unfold c_pop at hk
  split at hk
  · exact lv_pop hx hb d hk.1 (h _ _ _ _ _ _ _ _ _ _ hl hw hS h1 h2 hk.2)
  · exact hk.elim
def c_ifeq (kt k : q_K) : q_K := fun L st σ cr sr => match st with | .int x :: r => (x = 0 → kt L r σ cr sr) ∧ (¬ x = 0 → k L r σ cr sr) | _ => False
theorem q_ifeq (C : q_C p s m args meth c cc nL own mn ret A) {pc tgt : Nat} {kt k : q_K} {off : Int} (d : decode cc pc = .ok (.ifCond .eq off, 3)) (ht : (pc : Int) + off = (tgt : Int)) (hT : q_V p l e R s m args below meth c D A nL Q tgt kt) (h : q_V p l e R s m args below meth c D A nL Q (pc + 3) k) : q_V p l e R s m args below meth c D A nL Q pc (c_ifeq kt k) := by
  obtain ⟨hx, hb, hml, hown, hts, hN, hA, hr, hlk, hmn⟩ := C
  intro L st σ cr sr H locs cells slots ls hl hw hS h1 h2 hk
  unfold c_ifeq at hk
  split at hk
  · exact lv_if_eq hx hb d ht (fun z => hT _ _ _ _ _ _ _ _ _ _ hl hw hS h1 h2 (hk.1 z)) (fun z => h _ _ _ _ _ _ _ _ _ _ hl hw hS h1 h2 (hk.2 z))
  · exact hk.elim
def c_ifne (kt k : q_K) : q_K := fun L st σ cr sr => match st with | .int x :: r => (¬ x = 0 → kt L r σ cr sr) ∧ (x = 0 → k L r σ cr sr) | _ => False
theorem q_ifne (C : q_C p s m args meth c cc nL own mn ret A) {pc tgt : Nat} {kt k : q_K} {off : Int} (d : decode cc pc = .ok (.ifCond .ne off, 3)) (ht : (pc : Int) + off = (tgt : Int)) (hT : q_V p l e R s m args below meth c D A nL Q tgt kt) (h : q_V p l e R s m args below meth c D A nL Q (pc + 3) k) : q_V p l e R s m args below meth c D A nL Q pc (c_ifne kt k) := by
  obtain ⟨hx, hb, hml, hown, hts, hN, hA, hr, hlk, hmn⟩ := C
  intro L st σ cr sr H locs cells slots ls hl hw hS h1 h2 hk
  unfold c_ifne at hk
  split at hk
  · exact lv_if_ne hx hb d ht (fun z => hT _ _ _ _ _ _ _ _ _ _ hl hw hS h1 h2 (hk.1 z)) (fun z => h _ _ _ _ _ _ _ _ _ _ hl hw hS h1 h2 (hk.2 z))
  · exact hk.elim
def c_iflt (kt k : q_K) : q_K := fun L st σ cr sr => match st with | .int x :: r => (x < 0 → kt L r σ cr sr) ∧ (¬ x < 0 → k L r σ cr sr) | _ => False
theorem q_iflt (C : q_C p s m args meth c cc nL own mn ret A) {pc tgt : Nat} {kt k : q_K} {off : Int} (d : decode cc pc = .ok (.ifCond .lt off, 3)) (ht : (pc : Int) + off = (tgt : Int)) (hT : q_V p l e R s m args below meth c D A nL Q tgt kt) (h : q_V p l e R s m args below meth c D A nL Q (pc + 3) k) : q_V p l e R s m args below meth c D A nL Q pc (c_iflt kt k) := by
  obtain ⟨hx, hb, hml, hown, hts, hN, hA, hr, hlk, hmn⟩ := C
  intro L st σ cr sr H locs cells slots ls hl hw hS h1 h2 hk
  unfold c_iflt at hk
  split at hk
  · exact lv_if_lt hx hb d ht (fun z => hT _ _ _ _ _ _ _ _ _ _ hl hw hS h1 h2 (hk.1 z)) (fun z => h _ _ _ _ _ _ _ _ _ _ hl hw hS h1 h2 (hk.2 z))
  · exact hk.elim
def c_ifge (kt k : q_K) : q_K := fun L st σ cr sr => match st with | .int x :: r => (0 ≤ x → kt L r σ cr sr) ∧ (¬ 0 ≤ x → k L r σ cr sr) | _ => False
theorem q_ifge (C : q_C p s m args meth c cc nL own mn ret A) {pc tgt : Nat} {kt k : q_K} {off : Int} (d : decode cc pc = .ok (.ifCond .ge off, 3)) (ht : (pc : Int) + off = (tgt : Int)) (hT : q_V p l e R s m args below meth c D A nL Q tgt kt) (h : q_V p l e R s m args below meth c D A nL Q (pc + 3) k) : q_V p l e R s m args below meth c D A nL Q pc (c_ifge kt k) := by
  obtain ⟨hx, hb, hml, hown, hts, hN, hA, hr, hlk, hmn⟩ := C
  intro L st σ cr sr H locs cells slots ls hl hw hS h1 h2 hk
  unfold c_ifge at hk
  split at hk
  · exact lv_if_ge hx hb d ht (fun z => hT _ _ _ _ _ _ _ _ _ _ hl hw hS h1 h2 (hk.1 z)) (fun z => h _ _ _ _ _ _ _ _ _ _ hl hw hS h1 h2 (hk.2 z))
  · exact hk.elim
def c_ifgt (kt k : q_K) : q_K := fun L st σ cr sr => match st with | .int x :: r => (0 < x → kt L r σ cr sr) ∧ (¬ 0 < x → k L r σ cr sr) | _ => False
theorem q_ifgt (C : q_C p s m args meth c cc nL own mn ret A) {pc tgt : Nat} {kt k : q_K} {off : Int} (d : decode cc pc = .ok (.ifCond .gt off, 3)) (ht : (pc : Int) + off = (tgt : Int)) (hT : q_V p l e R s m args below meth c D A nL Q tgt kt) (h : q_V p l e R s m args below meth c D A nL Q (pc + 3) k) : q_V p l e R s m args below meth c D A nL Q pc (c_ifgt kt k) := by
  obtain ⟨hx, hb, hml, hown, hts, hN, hA, hr, hlk, hmn⟩ := C
  intro L st σ cr sr H locs cells slots ls hl hw hS h1 h2 hk
  unfold c_ifgt at hk
  split at hk
  · exact lv_if_gt hx hb d ht (fun z => hT _ _ _ _ _ _ _ _ _ _ hl hw hS h1 h2 (hk.1 z)) (fun z => h _ _ _ _ _ _ _ _ _ _ hl hw hS h1 h2 (hk.2 z))
  · exact hk.elim
def c_ifle (kt k : q_K) : q_K := fun L st σ cr sr => match st with | .int x :: r => (x ≤ 0 → kt L r σ cr sr) ∧ (¬ x ≤ 0 → k L r σ cr sr) | _ => False
theorem q_ifle (C : q_C p s m args meth c cc nL own mn ret A) {pc tgt : Nat} {kt k : q_K} {off : Int} (d : decode cc pc = .ok (.ifCond .le off, 3)) (ht : (pc : Int) + off = (tgt : Int)) (hT : q_V p l e R s m args below meth c D A nL Q tgt kt) (h : q_V p l e R s m args below meth c D A nL Q (pc + 3) k) : q_V p l e R s m args below meth c D A nL Q pc (c_ifle kt k) := by
  obtain ⟨hx, hb, hml, hown, hts, hN, hA, hr, hlk, hmn⟩ := C
  intro L st σ cr sr H locs cells slots ls hl hw hS h1 h2 hk
  unfold c_ifle at hk
  split at hk
  · exact lv_if_le hx hb d ht (fun z => hT _ _ _ _ _ _ _ _ _ _ hl hw hS h1 h2 (hk.1 z)) (fun z => h _ _ _ _ _ _ _ _ _ _ hl hw hS h1 h2 (hk.2 z))
  · exact hk.elim
def c_iceq (kt k : q_K) : q_K := fun L st σ cr sr => match st with | .int y :: .int x :: r => (x = y → kt L r σ cr sr) ∧ (¬ x = y → k L r σ cr sr) | _ => False
theorem q_iceq (C : q_C p s m args meth c cc nL own mn ret A) {pc tgt : Nat} {kt k : q_K} {off : Int} (d : decode cc pc = .ok (.if_icmp .eq off, 3)) (ht : (pc : Int) + off = (tgt : Int)) (hT : q_V p l e R s m args below meth c D A nL Q tgt kt) (h : q_V p l e R s m args below meth c D A nL Q (pc + 3) k) : q_V p l e R s m args below meth c D A nL Q pc (c_iceq kt k) := by
  obtain ⟨hx, hb, hml, hown, hts, hN, hA, hr, hlk, hmn⟩ := C
  intro L st σ cr sr H locs cells slots ls hl hw hS h1 h2 hk
  unfold c_iceq at hk
  split at hk
  · exact lv_icmp_eq hx hb d ht (fun z => hT _ _ _ _ _ _ _ _ _ _ hl hw hS h1 h2 (hk.1 z)) (fun z => h _ _ _ _ _ _ _ _ _ _ hl hw hS h1 h2 (hk.2 z))
  · exact hk.elim
def c_icne (kt k : q_K) : q_K := fun L st σ cr sr => match st with | .int y :: .int x :: r => (¬ x = y → kt L r σ cr sr) ∧ (x = y → k L r σ cr sr) | _ => False
theorem q_icne (C : q_C p s m args meth c cc nL own mn ret A) {pc tgt : Nat} {kt k : q_K} {off : Int} (d : decode cc pc = .ok (.if_icmp .ne off, 3)) (ht : (pc : Int) + off = (tgt : Int)) (hT : q_V p l e R s m args below meth c D A nL Q tgt kt) (h : q_V p l e R s m args below meth c D A nL Q (pc + 3) k) : q_V p l e R s m args below meth c D A nL Q pc (c_icne kt k) := by
  obtain ⟨hx, hb, hml, hown, hts, hN, hA, hr, hlk, hmn⟩ := C
  intro L st σ cr sr H locs cells slots ls hl hw hS h1 h2 hk
  unfold c_icne at hk
  split at hk
  · exact lv_icmp_ne hx hb d ht (fun z => hT _ _ _ _ _ _ _ _ _ _ hl hw hS h1 h2 (hk.1 z)) (fun z => h _ _ _ _ _ _ _ _ _ _ hl hw hS h1 h2 (hk.2 z))
  · exact hk.elim
def c_iclt (kt k : q_K) : q_K := fun L st σ cr sr => match st with | .int y :: .int x :: r => (x < y → kt L r σ cr sr) ∧ (¬ x < y → k L r σ cr sr) | _ => False
theorem q_iclt (C : q_C p s m args meth c cc nL own mn ret A) {pc tgt : Nat} {kt k : q_K} {off : Int} (d : decode cc pc = .ok (.if_icmp .lt off, 3)) (ht : (pc : Int) + off = (tgt : Int)) (hT : q_V p l e R s m args below meth c D A nL Q tgt kt) (h : q_V p l e R s m args below meth c D A nL Q (pc + 3) k) : q_V p l e R s m args below meth c D A nL Q pc (c_iclt kt k) := by
  obtain ⟨hx, hb, hml, hown, hts, hN, hA, hr, hlk, hmn⟩ := C
  intro L st σ cr sr H locs cells slots ls hl hw hS h1 h2 hk
  unfold c_iclt at hk
  split at hk
  · exact lv_icmp_lt hx hb d ht (fun z => hT _ _ _ _ _ _ _ _ _ _ hl hw hS h1 h2 (hk.1 z)) (fun z => h _ _ _ _ _ _ _ _ _ _ hl hw hS h1 h2 (hk.2 z))
  · exact hk.elim
def c_icge (kt k : q_K) : q_K := fun L st σ cr sr => match st with | .int y :: .int x :: r => (y ≤ x → kt L r σ cr sr) ∧ (¬ y ≤ x → k L r σ cr sr) | _ => False
theorem q_icge (C : q_C p s m args meth c cc nL own mn ret A) {pc tgt : Nat} {kt k : q_K} {off : Int} (d : decode cc pc = .ok (.if_icmp .ge off, 3)) (ht : (pc : Int) + off = (tgt : Int)) (hT : q_V p l e R s m args below meth c D A nL Q tgt kt) (h : q_V p l e R s m args below meth c D A nL Q (pc + 3) k) : q_V p l e R s m args below meth c D A nL Q pc (c_icge kt k) := by
  obtain ⟨hx, hb, hml, hown, hts, hN, hA, hr, hlk, hmn⟩ := C
  intro L st σ cr sr H locs cells slots ls hl hw hS h1 h2 hk
  unfold c_icge at hk
  split at hk
  · exact lv_icmp_ge hx hb d ht (fun z => hT _ _ _ _ _ _ _ _ _ _ hl hw hS h1 h2 (hk.1 z)) (fun z => h _ _ _ _ _ _ _ _ _ _ hl hw hS h1 h2 (hk.2 z))
  · exact hk.elim
def c_icgt (kt k : q_K) : q_K := fun L st σ cr sr => match st with | .int y :: .int x :: r => (y < x → kt L r σ cr sr) ∧ (¬ y < x → k L r σ cr sr) | _ => False
theorem q_icgt (C : q_C p s m args meth c cc nL own mn ret A) {pc tgt : Nat} {kt k : q_K} {off : Int} (d : decode cc pc = .ok (.if_icmp .gt off, 3)) (ht : (pc : Int) + off = (tgt : Int)) (hT : q_V p l e R s m args below meth c D A nL Q tgt kt) (h : q_V p l e R s m args below meth c D A nL Q (pc + 3) k) : q_V p l e R s m args below meth c D A nL Q pc (c_icgt kt k) := by
  obtain ⟨hx, hb, hml, hown, hts, hN, hA, hr, hlk, hmn⟩ := C
  intro L st σ cr sr H locs cells slots ls hl hw hS h1 h2 hk
  unfold c_icgt at hk
  split at hk
  · exact lv_icmp_gt hx hb d ht (fun z => hT _ _ _ _ _ _ _ _ _ _ hl hw hS h1 h2 (hk.1 z)) (fun z => h _ _ _ _ _ _ _ _ _ _ hl hw hS h1 h2 (hk.2 z))
  · exact hk.elim
def c_icle (kt k : q_K) : q_K := fun L st σ cr sr => match st with | .int y :: .int x :: r => (x ≤ y → kt L r σ cr sr) ∧ (¬ x ≤ y → k L r σ cr sr) | _ => False
theorem q_icle (C : q_C p s m args meth c cc nL own mn ret A) {pc tgt : Nat} {kt k : q_K} {off : Int} (d : decode cc pc = .ok (.if_icmp .le off, 3)) (ht : (pc : Int) + off = (tgt : Int)) (hT : q_V p l e R s m args below meth c D A nL Q tgt kt) (h : q_V p l e R s m args below meth c D A nL Q (pc + 3) k) : q_V p l e R s m args below meth c D A nL Q pc (c_icle kt k) := by
  obtain ⟨hx, hb, hml, hown, hts, hN, hA, hr, hlk, hmn⟩ := C
  intro L st σ cr sr H locs cells slots ls hl hw hS h1 h2 hk
  unfold c_icle at hk
  split at hk
  · exact lv_icmp_le hx hb d ht (fun z => hT _ _ _ _ _ _ _ _ _ _ hl hw hS h1 h2 (hk.1 z)) (fun z => h _ _ _ _ _ _ _ _ _ _ hl hw hS h1 h2 (hk.2 z))
  · exact hk.elim
def c_ifnull (kt k : q_K) : q_K := fun L st σ cr sr => match st with | .null :: r => kt L r σ cr sr | .ref _ :: r => k L r σ cr sr | _ => False
theorem q_ifnull (C : q_C p s m args meth c cc nL own mn ret A) {pc tgt : Nat} {kt k : q_K} {off : Int} (d : decode cc pc = .ok (.ifnull off, 3)) (ht : (pc : Int) + off = (tgt : Int)) (hT : q_V p l e R s m args below meth c D A nL Q tgt kt) (h : q_V p l e R s m args below meth c D A nL Q (pc + 3) k) : q_V p l e R s m args below meth c D A nL Q pc (c_ifnull kt k) := by
  obtain ⟨hx, hb, hml, hown, hts, hN, hA, hr, hlk, hmn⟩ := C
  intro L st σ cr sr H locs cells slots ls hl hw hS h1 h2 hk
  unfold c_ifnull at hk
  split at hk
  · exact lv_ifnullN hx hb d ht (hT _ _ _ _ _ _ _ _ _ _ hl hw hS h1 h2 hk)
  · exact lv_ifnull hx hb d (h _ _ _ _ _ _ _ _ _ _ hl hw hS h1 h2 hk)
  · exact hk.elim
def c_ifnonnull (kt k : q_K) : q_K := fun L st σ cr sr => match st with | .ref _ :: r => kt L r σ cr sr | .null :: r => k L r σ cr sr | _ => False
theorem q_ifnonnull (C : q_C p s m args meth c cc nL own mn ret A) {pc tgt : Nat} {kt k : q_K} {off : Int} (d : decode cc pc = .ok (.ifnonnull off, 3)) (ht : (pc : Int) + off = (tgt : Int)) (hT : q_V p l e R s m args below meth c D A nL Q tgt kt) (h : q_V p l e R s m args below meth c D A nL Q (pc + 3) k) : q_V p l e R s m args below meth c D A nL Q pc (c_ifnonnull kt k) := by
  obtain ⟨hx, hb, hml, hown, hts, hN, hA, hr, hlk, hmn⟩ := C
  intro L st σ cr sr H locs cells slots ls hl hw hS h1 h2 hk
  unfold c_ifnonnull at hk
  split at hk
  · exact lv_ifnonnull hx hb d ht (hT _ _ _ _ _ _ _ _ _ _ hl hw hS h1 h2 hk)
  · exact lv_ifnonnullN hx hb d (h _ _ _ _ _ _ _ _ _ _ hl hw hS h1 h2 hk)
  · exact hk.elim
theorem q_goto (C : q_C p s m args meth c cc nL own mn ret A) {pc tgt : Nat} {k : q_K} {off : Int} (d : decode cc pc = .ok (.goto off, 3)) (ht : (pc : Int) + off = (tgt : Int)) (h : q_V p l e R s m args below meth c D A nL Q tgt k) : q_V p l e R s m args below meth c D A nL Q pc k := by
  obtain ⟨hx, hb, hml, hown, hts, hN, hA, hr, hlk, hmn⟩ := C
  intro L st σ cr sr H locs cells slots ls hl hw hS h1 h2 hk
  exact lv_goto hx hb d ht (h _ _ _ _ _ _ _ _ _ _ hl hw hS h1 h2 hk)
def c_tsw (lo : Int) (ks : List q_K) (k : q_K) : q_K := fun L st σ cr sr => match st with | .int x :: r => (∀ (i : Nat) (ki : q_K), ks[i]? = some ki → x.toInt = lo + i → ki L r σ cr sr) ∧ ((x.toInt < lo ∨ lo + ks.length ≤ x.toInt) → k L r σ cr sr) | _ => False
theorem q_tsw (C : q_C p s m args meth c cc nL own mn ret A) {pc tgt len : Nat} {ks : List q_K} {k : q_K} {lo hi dflt : Int} {offs : Array Int} (d : decode cc pc = .ok (.tableswitch dflt lo hi offs, len)) (hlen : lo + ks.length = hi + 1) (ht : (pc : Int) + dflt = (tgt : Int)) (h : q_V p l e R s m args below meth c D A nL Q tgt k) (hs : ∀ (i : Nat) (ki : q_K), ks[i]? = some ki → ∃ (off : Int) (ti : Nat), offs[i]? = some off ∧ (pc : Int) + off = (ti : Int) ∧ q_V p l e R s m args below meth c D A nL Q ti ki) : q_V p l e R s m args below meth c D A nL Q pc (c_tsw lo ks k) := by
  obtain ⟨hx, hb, hml, hown, hts, hN, hA, hr, hlk, hmn⟩ := C
  intro L st σ cr sr H locs cells slots ls hl hw hS h1 h2 hk
  unfold c_tsw at hk
  split at hk
  · next x r =>
      by_cases hlo : x.toInt < lo
      · exact lv_tableOut hx hb d (Or.inl hlo) ht (h _ _ _ _ _ _ _ _ _ _ hl hw hS h1 h2 (hk.2 (Or.inl hlo)))
      · by_cases hhi : hi < x.toInt
        · exact lv_tableOut hx hb d (Or.inr hhi) ht (h _ _ _ _ _ _ _ _ _ _ hl hw hS h1 h2 (hk.2 (Or.inr (by omega))))
        · have hi1 : (x.toInt - lo).toNat < ks.length := by omega
          obtain ⟨off, ti, ho, hti, hv⟩ := hs (x.toInt - lo).toNat _ (List.getElem?_eq_getElem hi1)
          exact lv_tableIn hx hb d hlo hhi ho hti (hv _ _ _ _ _ _ _ _ _ _ hl hw hS h1 h2 (hk.1 _ _ (List.getElem?_eq_getElem hi1) (by omega)))
  · exact hk.elim
end QV
