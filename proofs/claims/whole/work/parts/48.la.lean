def R_law : String := "CopyRegisterLaw"
def lw_P (b : Addr) (xs : List Int32) (args : Array Value) (s : State) : Prop := args = #[.ref b] ∧ s.IntsAt b xs ∧ xs.length ≤ 3072 ∧ (Jvm.Cond.and given_1 narrow_1).before args s = true
def lw_Q (_ : Array Value) (s : State) (o : Outcome) (t : State) : Prop := o = .returned (some (.int 1)) ∧ Framed s o t [] 600000 7302250
def lw_Z (below : List Frame) (a : Array Value) (s : State) : State → Prop := fun t => ∃ o, t.status = .running ∧ Ended t below o ∧ lw_Q a s o t
/-- the law's own end, with 1 on the stack, nothing written that was there before, its room as the claim has it -/
theorem lw_ret {p : Program} {l : Launch} {e : Env} {s : State} {m : MethodId} {below : List Frame} {meth : Method} {c : Code} {b : Nat} (hx : p.tables.exec = Jvm.exec) (hb : c.code = code) (hr : meth.sig.returnType = ret) (hlocks : meth.locks = false) {pc : Nat} {H : Heap} {ls : Array Slot} (hdg : decode code pc = .ok (.ireturn, 1)) : W p l e room_1 s m #[Value.ref b] below meth c H [] 600000 7302250 (lw_Z below #[Value.ref b] s) (F0 m pc ls [.int 1]) := by
  intro T hT X
  obtain ⟨fs, hret, hrun, hended, hW, hframe⟩ := X.leave (v := some (.int 1)) (hlocks := hlocks) (fun h => by rw [hr] at h; cases h)
  have hmeth' : T.vm.method? m = some meth := X.method'
  refine ⟨T.setFrames fs, ?_, .returned (some (.int 1)), hrun, hended, rfl, ⟨_, rfl⟩, hW, hframe⟩
  jvm_step X.here [X.here.top, hx, hb, hdg, hmeth', hr, ret, narrow_b1]
  (try refine ⟨rfl, ?_⟩); (try refine ⟨rfl, ?_⟩)
  first | (intro acts; rw [hret _ acts rfl rfl rfl]) | rw [hret _ _ rfl rfl rfl]
  exact Steps.refl _
/-- what holds at the law's entry: the machine, the code, the tables' words (any of lw_tbl by 'hts w (by decide +kernel)'), the script of L ints xs at the cell b, what the Statement gives of the start (any of its parts by flat_of_before) -/
def lw_At (p : Program) (s : State) (m : MethodId) (meth : Method) (c : Code) (b L : Nat) (xs : Nat → Int32) : Prop :=
  p.tables.exec = Jvm.exec ∧ c.code = code ∧ meth.sig.returnType = ret ∧ c.maxLocals = 4 ∧ s.vm.findClass R_law = some m.cls ∧ (∀ w ∈ lw_tbl, w.before #[Value.ref b] s = true) ∧ va_X b L xs s s.heap ∧ b < s.heap.size ∧ meth.locks = false ∧ (Jvm.Cond.and given_1 narrow_1).before #[Value.ref b] s = true
-- the script's rows, the law's end
def c_sld (b n : Nat) (xs : Nat → Int32) (k : q_K) : q_K := fun L st σ cr sr => match st with | .int i :: .ref a :: r => (a = b ∧ vp_in i n) ∧ k L (.int (xs i.toNatClampNeg) :: r) σ cr sr | _ => False
def c_slen (b n : Nat) (k : q_K) : q_K := fun L st σ cr sr => match st with | .ref a :: r => a = b ∧ k L (.int (Int32.ofNat n) :: r) σ cr sr | _ => False
def c_lret : q_K := fun _ st _ _ _ => match st with | [.int v] => v = 1 | _ => False
section QLW
variable {p : Program} {l : Launch} {e : Env} {R : Room} {s : State} {m : MethodId} {args : Array Value} {below : List Frame} {meth : Method} {c : Code} {D : va_G} {A : Nat → Prop} {nL : Nat} {Q : State → Prop} {cc : ByteArray} {own mn : String} {ret0 : Option FieldType}
theorem q_sld (C : q_C p s m args meth c cc nL own mn ret0 A) {b n : Nat} {xs : Nat → Int32} (hX : va_X b n xs s s.heap) (hbl : b < s.heap.size) (hbA : ¬ A b) {pc : Nat} {k : q_K} (d : decode cc pc = .ok (.iaload, 1)) (h : q_V p l e R s m args below meth c D A nL Q (pc + 1) k) : q_V p l e R s m args below meth c D A nL Q pc (c_sld b n xs k) := by
  obtain ⟨hx, hb, hml, hown, hts, hN, hA, hr, hlk, hmn⟩ := C
  intro L st σ cr sr H locs cells slots ls hl hw hS h1 h2 hk
  unfold c_sld at hk
  split at hk
  · next i a r =>
    obtain ⟨⟨rfl, hi⟩, hk⟩ := hk
    exact va_sld hx hb hX hbl hbA hS hi d (h _ _ _ _ _ _ _ _ _ _ hl hw hS h1 h2 hk)
  · exact hk.elim
theorem q_slen (C : q_C p s m args meth c cc nL own mn ret0 A) {b n : Nat} {xs : Nat → Int32} (hX : va_X b n xs s s.heap) (hbl : b < s.heap.size) (hbA : ¬ A b) {pc : Nat} {k : q_K} (d : decode cc pc = .ok (.arraylength, 1)) (h : q_V p l e R s m args below meth c D A nL Q (pc + 1) k) : q_V p l e R s m args below meth c D A nL Q pc (c_slen b n k) := by
  obtain ⟨hx, hb, hml, hown, hts, hN, hA, hr, hlk, hmn⟩ := C
  intro L st σ cr sr H locs cells slots ls hl hw hS h1 h2 hk
  unfold c_slen at hk
  split at hk
  · next a r =>
    obtain ⟨rfl, hk⟩ := hk
    exact va_slen hx hb hX hbl hbA hS d (h _ _ _ _ _ _ _ _ _ _ hl hw hS h1 h2 hk)
  · exact hk.elim
theorem q_lret {b : Nat} (C : q_C p s m #[Value.ref b] meth c code nL own mn ret A) (hAs : ∀ q, A q → s.heap.size ≤ q) {pc : Nat} (d : decode code pc = .ok (.ireturn, 1)) : q_V p l e room_1 s m #[Value.ref b] below meth c D A nL (lw_Z below #[Value.ref b] s) pc c_lret := by
  obtain ⟨hx, hb, hml, hown, hts, hN, hA, hr, hlk, hmn⟩ := C
  intro L st σ cr sr H locs cells slots ls hl hw hS h1 h2 hk
  unfold c_lret at hk
  split at hk
  · next v =>
    subst hk
    have e1 : room_1.cells = 600000 := rfl
    have e2 : room_1.slots = 7302250 := rfl
    exact va_forget (fun q hq => hAs _ (hS.2.2 q hq)) (W.widen (k := 600000) (n := 7302250) (by omega) (by omega) (lw_ret hx hb hr hlk d))
  · exact hk.elim
end QLW
-- the two objects side by side
def LwS (σ : q_S) (r mr : Nat) (z : Nat → Int32) (g : Nat → Nat → Int32) (z2 : Nat → Int32) (g2 : Nat → Nat → Int32) : Prop := ∃ (ad : Nat → Nat) (σx σm : q_S), RegOK σx r z g ∧ mOK σm mr ad z2 g2 ∧ (∀ a e, σx a = some e → σ a = some e) ∧ ∀ a e, σm a = some e → σ a = some e ∧ σx a = none
theorem LwS.o10 {σ : q_S} {r mr : Nat} {z z2 : Nat → Int32} {g g2 : Nat → Nat → Int32} (h : LwS σ r mr z g z2 g2) : q_oc σ r = some 10 := by
  obtain ⟨ad, σx, σm, hR, hm, h1, h2⟩ := h
  obtain ⟨Rg, P, AC, AR, WK, LC, CL, CM, CP, pa, aa, wa, sa, ga, la, lra, lc, lrn, hD⟩ := hR
  simp only [q_oc, h1 _ _ hD.p1.2]
theorem LwS.o11 {σ : q_S} {r mr : Nat} {z z2 : Nat → Int32} {g g2 : Nat → Nat → Int32} (h : LwS σ r mr z g z2 g2) : q_oc σ mr = some 11 := by
  obtain ⟨ad, σx, σm, hR, ⟨gp, rr, hm⟩, h1, h2⟩ := h
  simp only [q_oc, (h2 _ _ hm.1).1]
theorem LwS.x {σ : q_S} {r mr : Nat} {z z2 z' : Nat → Int32} {g g2 g' : Nat → Nat → Int32} {sx : q_Sp} {as : List Value} {v : Int32} {post : Option Value → q_S → Prop} (h : LwS σ r mr z g z2 g2) (H : ∀ (P : Option Value → q_S → Prop) (σx : q_S), RegOK σx r z g → (∀ σ', RegOK σ' r z' g' → P (some (.int v)) σ') → sx (.ref r :: as) σx P) (hp : ∀ σ', LwS σ' r mr z' g' z2 g2 → post (some (.int v)) σ') : q_fr sx (.ref r :: as) σ post := by
  obtain ⟨ad, σx, σm, hR, hm, h1, h2⟩ := h
  refine ⟨σx, h1, H _ σx hR (fun σ2 hR2 σ' k1 k2 => hp σ' ⟨ad, σ2, σm, hR2, hm, k1, fun a e he => ?_⟩)⟩
  exact k2 a e (h2 a e he).2 (h2 a e he).1
theorem LwS.m {σ : q_S} {r mr : Nat} {z z2 z' : Nat → Int32} {g g2 g' : Nat → Nat → Int32} {sm : q_Sp} {as : List Value} {v : Int32} {post : Option Value → q_S → Prop} (h : LwS σ r mr z g z2 g2) (H : ∀ (P : Option Value → q_S → Prop) (σm : q_S) (ad : Nat → Nat), mOK σm mr ad z2 g2 → (∀ σ', mOK σ' mr ad z' g' → P (some (.int v)) σ') → sm (.ref mr :: as) σm P) (hp : ∀ σ', LwS σ' r mr z g z' g' → post (some (.int v)) σ') : q_fr sm (.ref mr :: as) σ post := by
  obtain ⟨ad, σx, σm, hR, hm, h1, h2⟩ := h
  have dj : ∀ a e, σx a = some e → σm a = none := fun a e he => by
    cases hc : σm a with
    | none => rfl
    | some e2 => rw [(h2 a e2 hc).2] at he; cases he
  refine ⟨σm, fun a e he => (h2 a e he).1, H _ σm ad hm (fun σ2 hm2 σ' k1 k2 => hp σ' ⟨ad, σx, σ2, hR, hm2, fun a e he => (k2 a e (dj a e he) (h1 a e he)).1, fun a e he => ⟨k1 a e he, ?_⟩⟩)⟩
  cases hc : σx a with
  | none => rfl
  | some e2 => rw [(k2 a e2 (dj a e2 hc) (h1 a e2 hc)).2] at he; cases he
theorem sIn {n i : Nat} (hn : n ≤ 3072) (hi : 6 * i + 5 < n) : vp_in (nI (6 * i)) n ∧ vp_in (nI (6 * i) + 1) n ∧ vp_in (nI (6 * i) + 2) n ∧ vp_in (nI (6 * i) + 3) n ∧ vp_in (nI (6 * i) + 4) n ∧ vp_in (nI (6 * i) + 5) n := by
  have e2 : (2 : Int32) = nI 2 := rfl
  have e3 : (3 : Int32) = nI 3 := rfl
  have e4 : (4 : Int32) = nI 4 := rfl
  have e5 : (5 : Int32) = nI 5 := rfl
  rw [nI_1, e2, e3, e4, e5, nI_add, nI_add, nI_add, nI_add]
  exact ⟨nI_in (by omega) (by omega), nI_in (by omega) (by omega), nI_in (by omega) (by omega), nI_in (by omega) (by omega), nI_in (by omega) (by omega), nI_in (by omega) (by omega)⟩
theorem sLe {n i : Nat} (hn : n ≤ 3072) (hi : 6 * i ≤ n) : Int32.ofNat n - 6 < nI (6 * i) ↔ n < 6 * i + 6 := by
  have e1 : (Int32.ofNat n - 6).toInt = (n : Int) - 6 := by
    have e : (Int32.ofNat n).toInt = (n : Int) := nI_toInt (by omega)
    rw [Int32.toInt_sub, e, show (6 : Int32).toInt = 6 by decide]
    rw [Int.bmod_eq_of_le] <;> omega
  rw [Int32.lt_iff_toInt_lt, e1, nI_toInt (by omega)]
  omega
