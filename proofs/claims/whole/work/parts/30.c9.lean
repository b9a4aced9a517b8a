-- Work
def s_X9_setAgreeing : q_Sp := fun av σ post => match av with
  | [.ref w, .int p, .int on] => (match σ w with
    | some (.inr (9, [_, _, _, .ref ga, _])) => (match σ ga with
      | some (.inl (.boolean, 12, .inl f)) => (0 ≤ p ∧ p < 12) ∧ (on = 0 ∨ on = 1) ∧ (f p.toNatClampNeg = 0 ∨ f p.toNatClampNeg = 1) ∧ post (some (.int (f p.toNatClampNeg))) (q_up σ ga (.inl (.boolean, 12, .inl (upd f p.toNatClampNeg on))))
      | _ => False)
    | _ => False)
  | _ => False
theorem w9_295 : (.fieldLink RX9 28 (TX9 3).1 (TX9 3).2.1 (TX9 3).2.2.1 : Cond) ∈ lw_tbl := by decide +kernel
def rm_X9_setAgreeing : Room := { frames := 0, cells := 0, slots := 0, locals := 0 }
def k_X9_setAgreeing_13 (post : Option Value → q_S → Prop) (K : Nat → q_K) : q_K := (c_push 0 (c_zret post))
def k_X9_setAgreeing_0 (post : Option Value → q_S → Prop) (K : Nat → q_K) : q_K := (c_iload 1 (c_iflt (k_X9_setAgreeing_13 post K) (c_iload 1 (c_aload 0 (c_get 9 3 (c_alen (c_iclt (c_aload 0 (c_get 9 3 (c_iload 1 (c_zald (c_istore 3 (c_aload 0 (c_get 9 3 (c_iload 1 (c_iload 2 (c_zast (c_iload 3 (c_zret post)))))))))))) (k_X9_setAgreeing_13 post K))))))))
set_option maxRecDepth 100000 in
theorem v_X9_setAgreeing_13 {p : Program} {l : Launch} {e : Env} {s : State} {m : MethodId} {args : Array Value} {below : List Frame} {meth : Method} {c : Code} {D : va_G} {A : Nat → Prop} {post : Option Value → q_S → Prop} {K : Nat → q_K} (C : q_C p s m args meth c cX9_setAgreeing 4 RX9 "setAgreeing" (some .boolean) A) (hK : ∀ h ∈ ([] : List Nat), q_V p l e rm_X9_setAgreeing s m args below meth c D A 4 (MQ below (q_Qc D A post) args s rm_X9_setAgreeing.cells rm_X9_setAgreeing.slots A) h (K h)) : q_V p l e rm_X9_setAgreeing s m args below meth c D A 4 (MQ below (q_Qc D A post) args s rm_X9_setAgreeing.cells rm_X9_setAgreeing.slots A) 13 (k_X9_setAgreeing_13 post K) := by
  unfold k_X9_setAgreeing_13
  refine q_iconst C (by decide +kernel : decode cX9_setAgreeing 13 = .ok (.iconst 0, 1)) (by decide) ?_
  exact q_zret C rfl (by decide +kernel : decode cX9_setAgreeing 14 = .ok (.ireturn, 1))
set_option maxRecDepth 100000 in
theorem v_X9_setAgreeing_0 {p : Program} {l : Launch} {e : Env} {s : State} {m : MethodId} {args : Array Value} {below : List Frame} {meth : Method} {c : Code} {D : va_G} {A : Nat → Prop} {post : Option Value → q_S → Prop} {K : Nat → q_K} (C : q_C p s m args meth c cX9_setAgreeing 4 RX9 "setAgreeing" (some .boolean) A) (hK : ∀ h ∈ ([] : List Nat), q_V p l e rm_X9_setAgreeing s m args below meth c D A 4 (MQ below (q_Qc D A post) args s rm_X9_setAgreeing.cells rm_X9_setAgreeing.slots A) h (K h)) : q_V p l e rm_X9_setAgreeing s m args below meth c D A 4 (MQ below (q_Qc D A post) args s rm_X9_setAgreeing.cells rm_X9_setAgreeing.slots A) 0 (k_X9_setAgreeing_0 post K) := by
  unfold k_X9_setAgreeing_0
  refine q_iload_n C (by decide +kernel : decode cX9_setAgreeing 0 = .ok (.iload_n 1, 1)) ?_
  refine q_iflt C (tgt := 13) (by decide +kernel : decode cX9_setAgreeing 1 = .ok (.ifCond .lt 12, 3)) (by decide) ?_ ?_
  · exact v_X9_setAgreeing_13 C hK
  · refine q_iload_n C (by decide +kernel : decode cX9_setAgreeing 4 = .ok (.iload_n 1, 1)) ?_
    refine q_aload_n C (by decide +kernel : decode cX9_setAgreeing 5 = .ok (.aload_n 0, 1)) ?_
    refine q_get C (ci := 9) (j := 3) (C0 := RX9) (T := TX9) (N := 5) rfl iX9 giX9 (by decide) w9_295 (by decide +kernel : decode cX9_setAgreeing 6 = .ok (.getfield 28, 3)) ?_
    refine q_alen C (by decide +kernel : decode cX9_setAgreeing 9 = .ok (.arraylength, 1)) ?_
    refine q_iclt C (tgt := 15) (by decide +kernel : decode cX9_setAgreeing 10 = .ok (.if_icmp .lt 5, 3)) (by decide) ?_ ?_
    · refine q_aload_n C (by decide +kernel : decode cX9_setAgreeing 15 = .ok (.aload_n 0, 1)) ?_
      refine q_get C (ci := 9) (j := 3) (C0 := RX9) (T := TX9) (N := 5) rfl iX9 giX9 (by decide) w9_295 (by decide +kernel : decode cX9_setAgreeing 16 = .ok (.getfield 28, 3)) ?_
      refine q_iload_n C (by decide +kernel : decode cX9_setAgreeing 19 = .ok (.iload_n 1, 1)) ?_
      refine q_zald C (by decide +kernel : decode cX9_setAgreeing 20 = .ok (.baload, 1)) ?_
      refine q_istore_n C (by decide +kernel : decode cX9_setAgreeing 21 = .ok (.istore_n 3, 1)) ?_
      refine q_aload_n C (by decide +kernel : decode cX9_setAgreeing 22 = .ok (.aload_n 0, 1)) ?_
      refine q_get C (ci := 9) (j := 3) (C0 := RX9) (T := TX9) (N := 5) rfl iX9 giX9 (by decide) w9_295 (by decide +kernel : decode cX9_setAgreeing 23 = .ok (.getfield 28, 3)) ?_
      refine q_iload_n C (by decide +kernel : decode cX9_setAgreeing 26 = .ok (.iload_n 1, 1)) ?_
      refine q_iload_n C (by decide +kernel : decode cX9_setAgreeing 27 = .ok (.iload_n 2, 1)) ?_
      refine q_zast C (by decide +kernel : decode cX9_setAgreeing 28 = .ok (.bastore, 1)) ?_
      refine q_iload_n C (by decide +kernel : decode cX9_setAgreeing 29 = .ok (.iload_n 3, 1)) ?_
      exact q_zret C rfl (by decide +kernel : decode cX9_setAgreeing 30 = .ok (.ireturn, 1))
    · exact v_X9_setAgreeing_13 C hK
theorem u_X9_setAgreeing (l : Launch) {sp : q_Sp} (H : ∀ (av : List Value) (σ : q_S) (post : Option Value → q_S → Prop), sp av σ post → k_X9_setAgreeing_0 post (fun _ _ _ _ _ _ => False) (q_L0 av 4) [] σ 0 0 ∧ av.length ≤ 4 ∧ ∀ v ∈ av, v.category = 1) : q_Ct l yX9_setAgreeing cX9_setAgreeing 4 (some .boolean) rm_X9_setAgreeing sp := by
  refine q_met (by decide) ?_
  intro D A p e s m args below meth c σ av post C hsp
  obtain ⟨h1, h2, h3⟩ := H av σ post hsp
  exact ⟨_, v_X9_setAgreeing_0 (K := fun _ _ _ _ _ _ => False) C (fun h hh => by cases hh), h1, h2, h3⟩
theorem t_X9_setAgreeing (l : Launch) : q_Ct l yX9_setAgreeing cX9_setAgreeing 4 (some .boolean) rm_X9_setAgreeing s_X9_setAgreeing := u_X9_setAgreeing l (by
  intro av σ post h
  unfold s_X9_setAgreeing at h
  split at h
  · split at h
    · next e =>
      split at h
      · next e2 =>
        refine ⟨?_, by simp, by simp [Value.category]⟩
        obtain ⟨hp, hon, hf, h7⟩ := h
        simp only [c_push, c_null, c_iload, c_aload, c_istore, c_astore, c_iinc, c_iadd, c_isub, c_imul, c_iand, c_ineg, c_dup, c_dup2, c_pop, c_ifnull, c_ifnonnull, c_get, c_put, c_iald, c_zald, c_iast, c_zast, c_aald, c_aast, c_alen, c_new, c_newa, c_newq, c_mna, c_oinit, c_max, c_copy, c_iret, c_zret, c_aret, c_vret, q_do, q_rc, c_ifeq, c_ifne, c_iflt, c_ifge, c_ifgt, c_ifle, c_iceq, c_icne, c_iclt, c_icge, c_icgt, c_icle, c_call0, c_call1, c_call2, c_call3, c_call4, c_call5, c_call6, c_call7, q_L0, List.map_cons, List.map_nil, List.replicate, List.cons_append, List.nil_append, List.append_nil, List.length_cons, List.length_nil, List.length_set, Nat.reduceSub, Nat.reduceAdd, Nat.reduceLT, Nat.reduceLeDiff, Nat.zero_add, Nat.add_zero, Nat.sub_zero, Nat.sub_self, List.getElem?_cons_zero, List.getElem?_cons_succ, List.set_cons_zero, List.set_cons_succ, Option.toList_some, Option.toList_none, List.sum_cons, List.sum_nil, true_and, and_true, true_or, or_true, Nat.le_refl, Nat.zero_le, Value.category, Fin.isValue, Fin.val_zero, Fin.val_one, Fin.val_two, Fin.reduceFinMk, q_10, q_01, not_false_eq_true, not_true_eq_false, forall_const, true_implies, false_implies, implies_true, q_ni, q_fi, q_nb0, q_nb1, q_fb0, q_fb1, q_nor, q_nar, q_for, q_far, q_non, q_nan, q_fon, q_fan, imp_false, false_and, and_false, and_self, false_or, or_false, va_rf, refKind, k_X9_setAgreeing_0, k_X9_setAgreeing_13, q_fld, q_fset, q_oc, q_ai, q_aq, q_len, q_up_s, q_up_up, if_true, e, e2, len12, vpi12, nar01 hon]
        grind
      · exact h.elim
    · exact h.elim
  · exact h.elim)
def agC (f x : Nat → Int32) : Nat → Int32
  | 0 => 0
  | i + 1 => agC f x i + (if f i = 0 then 0 else shF x (nI i))
def s_X9_agreeingShares : q_Sp := fun av σ post => match av with
  | [.ref w] => ∃ x1 x2 sa ga x5 f R M x t, σ w = some (.inr (9, [x1, x2, .ref sa, .ref ga, x5])) ∧ σ ga = some (.inl (.boolean, 12, .inl f)) ∧ ShC σ R sa M (x :: t) ∧ post (some (.int (agC f x.2.2.2 12))) σ
  | _ => False
theorem w9_296 : (.fieldLink RX9 24 (TX9 2).1 (TX9 2).2.1 (TX9 2).2.2.1 : Cond) ∈ lw_tbl := by decide +kernel
theorem w9_297 : (.methodLink RX9 39 yX8_ownedNow : Cond) ∈ lw_tbl := by decide +kernel
def rm_X9_agreeingShares : Room := { frames := 3, cells := 0, slots := 0, locals := 63 }
def k_X9_agreeingShares_0 (post : Option Value → q_S → Prop) (K : Nat → q_K) : q_K := (c_push 0 (c_istore 1 (c_push 0 (c_istore 2 (K 4)))))
def k_X9_agreeingShares_33 (post : Option Value → q_S → Prop) (K : Nat → q_K) : q_K := (c_iinc 2 1 (K 4))
def k_X9_agreeingShares_4 (post : Option Value → q_S → Prop) (K : Nat → q_K) : q_K := (c_iload 2 (c_aload 0 (c_get 9 3 (c_alen (c_icge (c_iload 1 (c_iret post)) (c_aload 0 (c_get 9 3 (c_iload 2 (c_zald (c_ifeq (k_X9_agreeingShares_33 post K) (c_iload 1 (c_aload 0 (c_get 9 2 (c_iload 2 (c_call2 (some 8) s_X8_ownedNow 0 0 (c_iadd (c_istore 1 (k_X9_agreeingShares_33 post K))))))))))))))))))
set_option maxRecDepth 100000 in
theorem v_X9_agreeingShares_0 {p : Program} {l : Launch} {e : Env} {s : State} {m : MethodId} {args : Array Value} {below : List Frame} {meth : Method} {c : Code} {D : va_G} {A : Nat → Prop} {post : Option Value → q_S → Prop} {K : Nat → q_K} (C : q_C p s m args meth c cX9_agreeingShares 3 RX9 "agreeingShares" (some .int) A) (hK : ∀ h ∈ ([4] : List Nat), q_V p l e rm_X9_agreeingShares s m args below meth c D A 3 (MQ below (q_Qc D A post) args s rm_X9_agreeingShares.cells rm_X9_agreeingShares.slots A) h (K h)) : q_V p l e rm_X9_agreeingShares s m args below meth c D A 3 (MQ below (q_Qc D A post) args s rm_X9_agreeingShares.cells rm_X9_agreeingShares.slots A) 0 (k_X9_agreeingShares_0 post K) := by
  unfold k_X9_agreeingShares_0
  refine q_iconst C (by decide +kernel : decode cX9_agreeingShares 0 = .ok (.iconst 0, 1)) (by decide) ?_
  refine q_istore_n C (by decide +kernel : decode cX9_agreeingShares 1 = .ok (.istore_n 1, 1)) ?_
  refine q_iconst C (by decide +kernel : decode cX9_agreeingShares 2 = .ok (.iconst 0, 1)) (by decide) ?_
  refine q_istore_n C (by decide +kernel : decode cX9_agreeingShares 3 = .ok (.istore_n 2, 1)) ?_
  exact hK 4 (by decide)
set_option maxRecDepth 100000 in
theorem v_X9_agreeingShares_33 {p : Program} {l : Launch} {e : Env} {s : State} {m : MethodId} {args : Array Value} {below : List Frame} {meth : Method} {c : Code} {D : va_G} {A : Nat → Prop} {post : Option Value → q_S → Prop} {K : Nat → q_K} (C : q_C p s m args meth c cX9_agreeingShares 3 RX9 "agreeingShares" (some .int) A) (hK : ∀ h ∈ ([4] : List Nat), q_V p l e rm_X9_agreeingShares s m args below meth c D A 3 (MQ below (q_Qc D A post) args s rm_X9_agreeingShares.cells rm_X9_agreeingShares.slots A) h (K h)) : q_V p l e rm_X9_agreeingShares s m args below meth c D A 3 (MQ below (q_Qc D A post) args s rm_X9_agreeingShares.cells rm_X9_agreeingShares.slots A) 33 (k_X9_agreeingShares_33 post K) := by
  unfold k_X9_agreeingShares_33
  refine q_iinc C (by decide +kernel : decode cX9_agreeingShares 33 = .ok (.iinc 2 1, 3)) (by decide) ?_
  refine q_goto C (tgt := 4) (by decide +kernel : decode cX9_agreeingShares 36 = .ok (.goto (-32), 3)) (by decide) ?_
  exact hK 4 (by decide)
set_option maxRecDepth 100000 in
theorem v_X9_agreeingShares_4 {p : Program} {l : Launch} {e : Env} {s : State} {m : MethodId} {args : Array Value} {below : List Frame} {meth : Method} {c : Code} {D : va_G} {A : Nat → Prop} {post : Option Value → q_S → Prop} {K : Nat → q_K} (C : q_C p s m args meth c cX9_agreeingShares 3 RX9 "agreeingShares" (some .int) A) (hK : ∀ h ∈ ([4] : List Nat), q_V p l e rm_X9_agreeingShares s m args below meth c D A 3 (MQ below (q_Qc D A post) args s rm_X9_agreeingShares.cells rm_X9_agreeingShares.slots A) h (K h)) : q_V p l e rm_X9_agreeingShares s m args below meth c D A 3 (MQ below (q_Qc D A post) args s rm_X9_agreeingShares.cells rm_X9_agreeingShares.slots A) 4 (k_X9_agreeingShares_4 post K) := by
  unfold k_X9_agreeingShares_4
  refine q_iload_n C (by decide +kernel : decode cX9_agreeingShares 4 = .ok (.iload_n 2, 1)) ?_
  refine q_aload_n C (by decide +kernel : decode cX9_agreeingShares 5 = .ok (.aload_n 0, 1)) ?_
  refine q_get C (ci := 9) (j := 3) (C0 := RX9) (T := TX9) (N := 5) rfl iX9 giX9 (by decide) w9_295 (by decide +kernel : decode cX9_agreeingShares 6 = .ok (.getfield 28, 3)) ?_
  refine q_alen C (by decide +kernel : decode cX9_agreeingShares 9 = .ok (.arraylength, 1)) ?_
  refine q_icge C (tgt := 39) (by decide +kernel : decode cX9_agreeingShares 10 = .ok (.if_icmp .ge 29, 3)) (by decide) ?_ ?_
  · refine q_iload_n C (by decide +kernel : decode cX9_agreeingShares 39 = .ok (.iload_n 1, 1)) ?_
    exact q_iret C rfl (by decide +kernel : decode cX9_agreeingShares 40 = .ok (.ireturn, 1))
  · refine q_aload_n C (by decide +kernel : decode cX9_agreeingShares 13 = .ok (.aload_n 0, 1)) ?_
    refine q_get C (ci := 9) (j := 3) (C0 := RX9) (T := TX9) (N := 5) rfl iX9 giX9 (by decide) w9_295 (by decide +kernel : decode cX9_agreeingShares 14 = .ok (.getfield 28, 3)) ?_
    refine q_iload_n C (by decide +kernel : decode cX9_agreeingShares 17 = .ok (.iload_n 2, 1)) ?_
    refine q_zald C (by decide +kernel : decode cX9_agreeingShares 18 = .ok (.baload, 1)) ?_
    refine q_ifeq C (tgt := 33) (by decide +kernel : decode cX9_agreeingShares 19 = .ok (.ifCond .eq 14, 3)) (by decide) ?_ ?_
    · exact v_X9_agreeingShares_33 C hK
    · refine q_iload_n C (by decide +kernel : decode cX9_agreeingShares 22 = .ok (.iload_n 1, 1)) ?_
      refine q_aload_n C (by decide +kernel : decode cX9_agreeingShares 23 = .ok (.aload_n 0, 1)) ?_
      refine q_get C (ci := 9) (j := 2) (C0 := RX9) (T := TX9) (N := 5) rfl iX9 giX9 (by decide) w9_296 (by decide +kernel : decode cX9_agreeingShares 24 = .ok (.getfield 24, 3)) ?_
      refine q_iload_n C (by decide +kernel : decode cX9_agreeingShares 27 = .ok (.iload_n 2, 1)) ?_
      refine q_call2 C (q_coV C (np := 1) (ci := 8) (rc := (RX8, TX8, 2)) (t_X8_ownedNow l) w9_191 rfl rfl w9_297 w9_193 w9_194 w9_183 (by decide +kernel) (by decide +kernel : decode cX9_agreeingShares 28 = .ok (.invokevirtual 39, 3)) (by decide)) ?_
      refine q_iadd C (by decide +kernel : decode cX9_agreeingShares 31 = .ok (.iadd, 1)) ?_
      refine q_istore_n C (by decide +kernel : decode cX9_agreeingShares 32 = .ok (.istore_n 1, 1)) ?_
      exact v_X9_agreeingShares_33 C hK
theorem u_X9_agreeingShares (l : Launch) {sp : q_Sp} (H : ∀ (av : List Value) (σ : q_S) (post : Option Value → q_S → Prop), sp av σ post → ∃ Inv : Nat → Nat → q_K, (∀ K : Nat → q_K, (∀ (h n : Nat) (L : List (Option Value)) (st : List Value) (σ : q_S) (cr sr : Nat), Inv h n L st σ cr sr → K h L st σ cr sr) → k_X9_agreeingShares_0 post K (q_L0 av 3) [] σ 0 0) ∧ (∀ (K : Nat → q_K) (n : Nat), (∀ (h m : Nat) (L : List (Option Value)) (st : List Value) (σ : q_S) (cr sr : Nat), m < n → Inv h m L st σ cr sr → K h L st σ cr sr) → ∀ (L : List (Option Value)) (st : List Value) (σ : q_S) (cr sr : Nat), Inv 4 n L st σ cr sr → k_X9_agreeingShares_4 post K L st σ cr sr) ∧ av.length ≤ 3 ∧ ∀ v ∈ av, v.category = 1) : q_Ct l yX9_agreeingShares cX9_agreeingShares 3 (some .int) rm_X9_agreeingShares sp := by
  refine q_met (by decide) ?_
  intro D A p e s m args below meth c σ av post C hsp
  obtain ⟨Inv, h1, hh4, h2, h3⟩ := H av σ post hsp
  have hV := q_loops (p := p) (l := l) (e := e) (R := rm_X9_agreeingShares) (s := s) (m := m) (args := args) (below := below) (meth := meth) (c := c) (D := D) (A := A) (nL := 3) (Q := MQ below (q_Qc D A post) args s rm_X9_agreeingShares.cells rm_X9_agreeingShares.slots A) [4] (fun h =>  k_X9_agreeingShares_4 post) (fun K hK h hh => ?_) Inv (fun n h hh => ?_)
  · exact ⟨_, v_X9_agreeingShares_0 C hV, h1 _ (fun h n L st σ cr sr hi => ⟨n, hi⟩), h2, h3⟩
  · have e9 : h = 4 := by simpa using hh
    subst e9
    exact v_X9_agreeingShares_4 C hK
  · have e9 : h = 4 := by simpa using hh
    subst e9
    exact hh4 (fun h L st σ cr sr => ∃ m : Nat, m < n ∧ Inv h m L st σ cr sr) n (fun h m L st σ cr sr hm hi => ⟨m, hm, hi⟩)
theorem t_X9_agreeingShares (l : Launch) : q_Ct l yX9_agreeingShares cX9_agreeingShares 3 (some .int) rm_X9_agreeingShares s_X9_agreeingShares := u_X9_agreeingShares l (by
  intro av σ post h
  unfold s_X9_agreeingShares at h
  split at h
  · next w =>
    obtain ⟨x1, x2, sa, ga, x5, f, R, M, x, t, e1, e2, hS, h7⟩ := h
    have os : q_oc σ sa = some 8 := by obtain ⟨v, pl, h1, -⟩ := hS; simp only [q_oc, h1.2]
    refine ⟨fun _ m L st σ' cr sr => ∃ i, i ≤ 12 ∧ m = 12 - i ∧ σ' = σ ∧ st = [] ∧ L = [some (.ref w), some (.int (agC f x.2.2.2 i)), some (.int (nI i))], ?_, ?_, by simp, by simp [Value.category]⟩
    · intro K hK
      simp only [c_push, c_null, c_iload, c_aload, c_istore, c_astore, c_iinc, c_iadd, c_isub, c_imul, c_iand, c_ineg, c_dup, c_dup2, c_pop, c_ifnull, c_ifnonnull, c_get, c_put, c_iald, c_zald, c_iast, c_zast, c_aald, c_aast, c_alen, c_new, c_newa, c_newq, c_mna, c_oinit, c_max, c_copy, c_iret, c_zret, c_aret, c_vret, q_do, q_rc, c_ifeq, c_ifne, c_iflt, c_ifge, c_ifgt, c_ifle, c_iceq, c_icne, c_iclt, c_icge, c_icgt, c_icle, c_call0, c_call1, c_call2, c_call3, c_call4, c_call5, c_call6, c_call7, q_L0, List.map_cons, List.map_nil, List.replicate, List.cons_append, List.nil_append, List.append_nil, List.length_cons, List.length_nil, List.length_set, Nat.reduceSub, Nat.reduceAdd, Nat.reduceLT, Nat.reduceLeDiff, Nat.zero_add, Nat.add_zero, Nat.sub_zero, Nat.sub_self, List.getElem?_cons_zero, List.getElem?_cons_succ, List.set_cons_zero, List.set_cons_succ, Option.toList_some, Option.toList_none, List.sum_cons, List.sum_nil, true_and, and_true, true_or, or_true, Nat.le_refl, Nat.zero_le, Value.category, Fin.isValue, Fin.val_zero, Fin.val_one, Fin.val_two, Fin.reduceFinMk, q_10, q_01, not_false_eq_true, not_true_eq_false, forall_const, true_implies, false_implies, implies_true, q_ni, q_fi, q_nb0, q_nb1, q_fb0, q_fb1, q_nor, q_nar, q_for, q_far, q_non, q_nan, q_fon, q_fan, imp_false, false_and, and_false, and_self, false_or, or_false, va_rf, refKind, k_X9_agreeingShares_0]
      exact hK _ 12 _ _ _ _ _ ⟨0, Nat.zero_le _, rfl, rfl, rfl, rfl⟩
    · rintro K m hK L st σ' cr sr ⟨i, hi, rfl, rfl, rfl, rfl⟩
      have fw3 : q_fld σ' w 9 3 = some (.ref ga) := by simp only [q_fld, e1, if_true]; rfl
      have fw2 : q_fld σ' w 9 2 = some (.ref sa) := by simp only [q_fld, e1, if_true]; rfl
      have a1 : q_ai σ' ga .boolean = some (12, f) := by simp only [q_ai, e2, if_true]
      have a2 : q_len σ' ga = some 12 := by simp only [q_len, e2]
      simp only [c_push, c_null, c_iload, c_aload, c_istore, c_astore, c_iinc, c_iadd, c_isub, c_imul, c_iand, c_ineg, c_dup, c_dup2, c_pop, c_ifnull, c_ifnonnull, c_get, c_put, c_iald, c_zald, c_iast, c_zast, c_aald, c_aast, c_alen, c_new, c_newa, c_newq, c_mna, c_oinit, c_max, c_copy, c_iret, c_zret, c_aret, c_vret, q_do, q_rc, c_ifeq, c_ifne, c_iflt, c_ifge, c_ifgt, c_ifle, c_iceq, c_icne, c_iclt, c_icge, c_icgt, c_icle, c_call0, c_call1, c_call2, c_call3, c_call4, c_call5, c_call6, c_call7, q_L0, List.map_cons, List.map_nil, List.replicate, List.cons_append, List.nil_append, List.append_nil, List.length_cons, List.length_nil, List.length_set, Nat.reduceSub, Nat.reduceAdd, Nat.reduceLT, Nat.reduceLeDiff, Nat.zero_add, Nat.add_zero, Nat.sub_zero, Nat.sub_self, List.getElem?_cons_zero, List.getElem?_cons_succ, List.set_cons_zero, List.set_cons_succ, Option.toList_some, Option.toList_none, List.sum_cons, List.sum_nil, true_and, and_true, true_or, or_true, Nat.le_refl, Nat.zero_le, Value.category, Fin.isValue, Fin.val_zero, Fin.val_one, Fin.val_two, Fin.reduceFinMk, q_10, q_01, not_false_eq_true, not_true_eq_false, forall_const, true_implies, false_implies, implies_true, q_ni, q_fi, q_nb0, q_nb1, q_fb0, q_fb1, q_nor, q_nar, q_for, q_far, q_non, q_nan, q_fon, q_fan, imp_false, false_and, and_false, and_self, false_or, or_false, va_rf, refKind, k_X9_agreeingShares_0, k_X9_agreeingShares_33, k_X9_agreeingShares_4, fw3, fw2, a1, a2, os, len12, vpi12]
      rw [(cl2 12 (nI i) 12 i rfl rfl (by omega) (by omega)).1, clN (by omega)]
      refine ⟨fun c => ?_, fun c => ⟨⟨nI_low (by omega), nI_ltN (N := 12) (by omega)⟩, fun c2 => ?_, fun c2 => ?_⟩⟩
      · have e : i = 12 := by omega
        subst e; exact h7
      · refine hK _ (12 - (i + 1)) _ _ _ _ _ (by omega) ⟨i + 1, by omega, rfl, rfl, rfl, ?_⟩
        rw [nI_1, agC, if_pos c2, Int32.add_zero]
      · refine ⟨R, M, x, t, hS, ?_⟩
        simp only [c_push, c_null, c_iload, c_aload, c_istore, c_astore, c_iinc, c_iadd, c_isub, c_imul, c_iand, c_ineg, c_dup, c_dup2, c_pop, c_ifnull, c_ifnonnull, c_get, c_put, c_iald, c_zald, c_iast, c_zast, c_aald, c_aast, c_alen, c_new, c_newa, c_newq, c_mna, c_oinit, c_max, c_copy, c_iret, c_zret, c_aret, c_vret, q_do, q_rc, c_ifeq, c_ifne, c_iflt, c_ifge, c_ifgt, c_ifle, c_iceq, c_icne, c_iclt, c_icge, c_icgt, c_icle, c_call0, c_call1, c_call2, c_call3, c_call4, c_call5, c_call6, c_call7, q_L0, List.map_cons, List.map_nil, List.replicate, List.cons_append, List.nil_append, List.append_nil, List.length_cons, List.length_nil, List.length_set, Nat.reduceSub, Nat.reduceAdd, Nat.reduceLT, Nat.reduceLeDiff, Nat.zero_add, Nat.add_zero, Nat.sub_zero, Nat.sub_self, List.getElem?_cons_zero, List.getElem?_cons_succ, List.set_cons_zero, List.set_cons_succ, Option.toList_some, Option.toList_none, List.sum_cons, List.sum_nil, true_and, and_true, true_or, or_true, Nat.le_refl, Nat.zero_le, Value.category, Fin.isValue, Fin.val_zero, Fin.val_one, Fin.val_two, Fin.reduceFinMk, q_10, q_01, not_false_eq_true, not_true_eq_false, forall_const, true_implies, false_implies, implies_true, q_ni, q_fi, q_nb0, q_nb1, q_fb0, q_fb1, q_nor, q_nar, q_for, q_far, q_non, q_nan, q_fon, q_fan, imp_false, false_and, and_false, and_self, false_or, or_false, va_rf, refKind]
        refine hK _ (12 - (i + 1)) _ _ _ _ _ (by omega) ⟨i + 1, by omega, rfl, rfl, rfl, ?_⟩
        rw [nI_1, agC, if_neg c2]
  · exact h.elim)
theorem ShC.upo {σ : q_S} {R : Nat → Prop} {s : Nat} {M : Nat → Nat → Int32} {t : List pgT} (h : ShC σ R s M t) {a : Nat} {e : q_E} (ha : ¬ R a) : ShC (q_up σ a e) R s M t := h.fr (fun b x hb hx => ⟨hb, by rw [q_up_n (fun e9 => ha (by rw [← e9]; exact hb))]; exact hx⟩)
def s_X9_init : q_Sp := fun av σ post => match av with
  | [.ref w, .ref p, .int au, .int ent] => σ w = some (.inr (9, [.null, .int 0, .null, .null, .null])) ∧ ∀ σ' sa ga la ra R x', x'.1 = ent → (∀ i, i < 13 → x'.2.2.2 i = chF (fun _ => 0) au 16 i) → σ' w = some (.inr (9, [.ref p, .int ent, .ref sa, .ref ga, .ref la])) → ShC σ' R sa (fun _ _ => 0) [x'] → σ' ga = some (.inl (.boolean, 12, .inl (fun _ => 0))) → σ' la = some (.inr (5, [.ref ra, .int 0])) → σ' ra = some (.inl (.int, 20, .inl (fun _ => 0))) → (σ ga = none ∧ σ la = none ∧ σ ra = none) → (∀ a, R a → σ a = none ∧ a ≠ ga ∧ a ≠ la ∧ a ≠ ra) → (∀ a e, a ≠ w → σ a = some e → σ' a = some e) → post none σ'
  | _ => False
theorem w9_298 : (.methodLink RX9 3 objectInit : Cond) ∈ lw_tbl := by decide +kernel
theorem w9_299 : (.fieldLink RX9 9 (TX9 0).1 (TX9 0).2.1 (TX9 0).2.2.1 : Cond) ∈ lw_tbl := by decide +kernel
theorem w9_300 : (.fieldLink RX9 15 (TX9 1).1 (TX9 1).2.1 (TX9 1).2.2.1 : Cond) ∈ lw_tbl := by decide +kernel
theorem w9_301 : (.classLink RX9 19 RX8 : Cond) ∈ lw_tbl := by decide +kernel
theorem w9_302 : (.instantiable RX8 2 : Cond) ∈ lw_tbl := by decide +kernel
theorem w9_303 : (.code yX8_init cX8_init 3 none : Cond) ∈ lw_tbl := by decide +kernel
theorem w9_304 : (.methodLink RX9 21 yX8_init : Cond) ∈ lw_tbl := by decide +kernel
theorem w9_305 : (.instanceMethod yX8_init : Cond) ∈ lw_tbl := by decide +kernel
theorem w9_306 : (.classLink RX9 32 RX5 : Cond) ∈ lw_tbl := by decide +kernel
theorem w9_307 : (.instantiable RX5 2 : Cond) ∈ lw_tbl := by decide +kernel
theorem w9_308 : (.code yX5_init cX5_init 1 none : Cond) ∈ lw_tbl := by decide +kernel
theorem w9_309 : (.methodLink RX9 34 yX5_init : Cond) ∈ lw_tbl := by decide +kernel
theorem w9_310 : (.instanceMethod yX5_init : Cond) ∈ lw_tbl := by decide +kernel
theorem w9_311 : (.fieldLink RX9 35 (TX9 4).1 (TX9 4).2.1 (TX9 4).2.2.1 : Cond) ∈ lw_tbl := by decide +kernel
def rm_X9_init : Room := { frames := 3, cells := 19, slots := 208, locals := 104 }
def k_X9_init_0 (post : Option Value → q_S → Prop) (K : Nat → q_K) : q_K := (c_aload 0 (c_oinit (c_aload 0 (c_aload 1 (c_put 9 0 (.object "CopyRegister$Person") (c_aload 0 (c_iload 3 (c_put 9 1 (.int) (c_aload 0 (c_new 8 2 [.null, .null] (c_dup (c_iload 2 (c_iload 3 (c_call3 (some 8) s_X8_init 15 172 (c_put 9 2 (.object "CopyRegister$Shares") (c_aload 0 (c_push 12 (c_newa .boolean (c_put 9 3 (.array .boolean) (c_aload 0 (c_new 5 2 [.null, .int 0] (c_dup (c_call1 (some 5) s_X5_init 1 20 (c_put 9 4 (.object "CopyRegister$Lines") (c_vret post)))))))))))))))))))))))))
set_option maxRecDepth 100000 in
theorem v_X9_init_0 {p : Program} {l : Launch} {e : Env} {s : State} {m : MethodId} {args : Array Value} {below : List Frame} {meth : Method} {c : Code} {D : va_G} {A : Nat → Prop} {post : Option Value → q_S → Prop} {K : Nat → q_K} (C : q_C p s m args meth c cX9_init 4 RX9 "<init>" none A) (hK : ∀ h ∈ ([] : List Nat), q_V p l e rm_X9_init s m args below meth c D A 4 (MQ below (q_Qc D A post) args s rm_X9_init.cells rm_X9_init.slots A) h (K h)) : q_V p l e rm_X9_init s m args below meth c D A 4 (MQ below (q_Qc D A post) args s rm_X9_init.cells rm_X9_init.slots A) 0 (k_X9_init_0 post K) := by
  unfold k_X9_init_0
  refine q_aload_n C (by decide +kernel : decode cX9_init 0 = .ok (.aload_n 0, 1)) ?_
  refine q_oinit C w9_298 w9_112 w9_113 (by decide) (by decide +kernel : decode cX9_init 1 = .ok (.invokespecial 3, 3)) ?_
  refine q_aload_n C (by decide +kernel : decode cX9_init 4 = .ok (.aload_n 0, 1)) ?_
  refine q_aload_n C (by decide +kernel : decode cX9_init 5 = .ok (.aload_n 1, 1)) ?_
  refine q_putF C (ci := 9) (j := 0) (C0 := RX9) (T := TX9) (N := 5) (ty := .object "CopyRegister$Person") rfl iX9 giX9 (by decide) tyX9 tyX9_ok nmX9 (by decide +kernel) rfl rfl rfl w9_299 (by decide +kernel : decode cX9_init 6 = .ok (.putfield 9, 3)) ?_
  refine q_aload_n C (by decide +kernel : decode cX9_init 9 = .ok (.aload_n 0, 1)) ?_
  refine q_iload_n C (by decide +kernel : decode cX9_init 10 = .ok (.iload_n 3, 1)) ?_
  refine q_putF C (ci := 9) (j := 1) (C0 := RX9) (T := TX9) (N := 5) (ty := .int) rfl iX9 giX9 (by decide) tyX9 tyX9_ok nmX9 (by decide +kernel) rfl rfl rfl w9_300 (by decide +kernel : decode cX9_init 11 = .ok (.putfield 15, 3)) ?_
  refine q_aload_n C (by decide +kernel : decode cX9_init 14 = .ok (.aload_n 0, 1)) ?_
  refine q_new C (ci := 8) (C0 := RX8) (T := TX8) (N := 2) (fs := [.null, .null]) rfl iX8 giX8 tyX8 tyX8_ok w9_301 w9_302 w9_183 dvX8 (by decide +kernel : decode cX9_init 15 = .ok (.new 19, 3)) ?_
  refine q_dup C (by decide +kernel : decode cX9_init 18 = .ok (.dup, 1)) ?_
  refine q_iload_n C (by decide +kernel : decode cX9_init 19 = .ok (.iload_n 2, 1)) ?_
  refine q_iload_n C (by decide +kernel : decode cX9_init 20 = .ok (.iload_n 3, 1)) ?_
  refine q_call3 C (q_coI C (np := 2) (ci := 8) (t_X8_init l) w9_303 rfl w9_304 w9_305 w9_183 (by decide +kernel) (by decide +kernel : decode cX9_init 21 = .ok (.invokespecial 21, 3)) (by decide)) ?_
  refine q_putF C (ci := 9) (j := 2) (C0 := RX9) (T := TX9) (N := 5) (ty := .object "CopyRegister$Shares") rfl iX9 giX9 (by decide) tyX9 tyX9_ok nmX9 (by decide +kernel) rfl rfl rfl w9_296 (by decide +kernel : decode cX9_init 24 = .ok (.putfield 24, 3)) ?_
  refine q_aload_n C (by decide +kernel : decode cX9_init 27 = .ok (.aload_n 0, 1)) ?_
  refine q_bipush C (by decide +kernel : decode cX9_init 28 = .ok (.bipush 12, 2)) (by decide) ?_
  refine q_newaZ C w9_115 (by decide +kernel : decode cX9_init 30 = .ok (.newarray .boolean, 2)) ?_
  refine q_putF C (ci := 9) (j := 3) (C0 := RX9) (T := TX9) (N := 5) (ty := .array .boolean) rfl iX9 giX9 (by decide) tyX9 tyX9_ok nmX9 (by decide +kernel) rfl rfl rfl w9_295 (by decide +kernel : decode cX9_init 32 = .ok (.putfield 28, 3)) ?_
  refine q_aload_n C (by decide +kernel : decode cX9_init 35 = .ok (.aload_n 0, 1)) ?_
  refine q_new C (ci := 5) (C0 := RX5) (T := TX5) (N := 2) (fs := [.null, .int 0]) rfl iX5 giX5 tyX5 tyX5_ok w9_306 w9_307 w9_151 dvX5 (by decide +kernel : decode cX9_init 36 = .ok (.new 32, 3)) ?_
  refine q_dup C (by decide +kernel : decode cX9_init 39 = .ok (.dup, 1)) ?_
  refine q_call1 C (q_coI C (np := 0) (ci := 5) (t_X5_init l) w9_308 rfl w9_309 w9_310 w9_151 (by decide +kernel) (by decide +kernel : decode cX9_init 40 = .ok (.invokespecial 34, 3)) (by decide)) ?_
  refine q_putF C (ci := 9) (j := 4) (C0 := RX9) (T := TX9) (N := 5) (ty := .object "CopyRegister$Lines") rfl iX9 giX9 (by decide) tyX9 tyX9_ok nmX9 (by decide +kernel) rfl rfl rfl w9_311 (by decide +kernel : decode cX9_init 43 = .ok (.putfield 35, 3)) ?_
  exact q_vret C rfl (by decide +kernel : decode cX9_init 46 = .ok (.return_, 1))
theorem u_X9_init (l : Launch) {sp : q_Sp} (H : ∀ (av : List Value) (σ : q_S) (post : Option Value → q_S → Prop), sp av σ post → k_X9_init_0 post (fun _ _ _ _ _ _ => False) (q_L0 av 4) [] σ 19 208 ∧ av.length ≤ 4 ∧ ∀ v ∈ av, v.category = 1) : q_Ct l yX9_init cX9_init 4 none rm_X9_init sp := by
  refine q_met (by decide) ?_
  intro D A p e s m args below meth c σ av post C hsp
  obtain ⟨h1, h2, h3⟩ := H av σ post hsp
  exact ⟨_, v_X9_init_0 (K := fun _ _ _ _ _ _ => False) C (fun h hh => by cases hh), h1, h2, h3⟩
theorem t_X9_init (l : Launch) : q_Ct l yX9_init cX9_init 4 none rm_X9_init s_X9_init := u_X9_init l (by
  intro av σ post h
  unfold s_X9_init at h
  split at h
  · next w p au ent =>
    refine ⟨?_, by simp, by simp [Value.category]⟩
    obtain ⟨h0, h7⟩ := h
    have e9 : (12 : Int32).toNatClampNeg = 12 := rfl
    simp only [c_push, c_null, c_iload, c_aload, c_istore, c_astore, c_iinc, c_iadd, c_isub, c_imul, c_iand, c_ineg, c_dup, c_dup2, c_pop, c_ifnull, c_ifnonnull, c_get, c_put, c_iald, c_zald, c_iast, c_zast, c_aald, c_aast, c_alen, c_new, c_newa, c_newq, c_mna, c_oinit, c_max, c_copy, c_iret, c_zret, c_aret, c_vret, q_do, q_rc, c_ifeq, c_ifne, c_iflt, c_ifge, c_ifgt, c_ifle, c_iceq, c_icne, c_iclt, c_icge, c_icgt, c_icle, c_call0, c_call1, c_call2, c_call3, c_call4, c_call5, c_call6, c_call7, q_L0, List.map_cons, List.map_nil, List.replicate, List.cons_append, List.nil_append, List.append_nil, List.length_cons, List.length_nil, List.length_set, Nat.reduceSub, Nat.reduceAdd, Nat.reduceLT, Nat.reduceLeDiff, Nat.zero_add, Nat.add_zero, Nat.sub_zero, Nat.sub_self, List.getElem?_cons_zero, List.getElem?_cons_succ, List.set_cons_zero, List.set_cons_succ, Option.toList_some, Option.toList_none, List.sum_cons, List.sum_nil, true_and, and_true, true_or, or_true, Nat.le_refl, Nat.zero_le, Value.category, Fin.isValue, Fin.val_zero, Fin.val_one, Fin.val_two, Fin.reduceFinMk, q_10, q_01, not_false_eq_true, not_true_eq_false, forall_const, true_implies, false_implies, implies_true, q_ni, q_fi, q_nb0, q_nb1, q_fb0, q_fb1, q_nor, q_nar, q_for, q_far, q_non, q_nan, q_fon, q_fan, imp_false, false_and, and_false, and_self, false_or, or_false, va_rf, refKind, k_X9_init_0, q_fld, q_fset, q_oc, q_ai, q_aq, q_len, q_up_s, q_up_up, if_true, h0]
    intro q1 hq1
    have n1 : w ≠ q1 := fun e => by rw [← e, q_up_s] at hq1; cases hq1
    have hq1' : σ q1 = none := by rw [q_up_n n1.symm] at hq1; exact hq1
    simp only [c_push, c_null, c_iload, c_aload, c_istore, c_astore, c_iinc, c_iadd, c_isub, c_imul, c_iand, c_ineg, c_dup, c_dup2, c_pop, c_ifnull, c_ifnonnull, c_get, c_put, c_iald, c_zald, c_iast, c_zast, c_aald, c_aast, c_alen, c_new, c_newa, c_newq, c_mna, c_oinit, c_max, c_copy, c_iret, c_zret, c_aret, c_vret, q_do, q_rc, c_ifeq, c_ifne, c_iflt, c_ifge, c_ifgt, c_ifle, c_iceq, c_icne, c_iclt, c_icge, c_icgt, c_icle, c_call0, c_call1, c_call2, c_call3, c_call4, c_call5, c_call6, c_call7, q_L0, List.map_cons, List.map_nil, List.replicate, List.cons_append, List.nil_append, List.append_nil, List.length_cons, List.length_nil, List.length_set, Nat.reduceSub, Nat.reduceAdd, Nat.reduceLT, Nat.reduceLeDiff, Nat.zero_add, Nat.add_zero, Nat.sub_zero, Nat.sub_self, List.getElem?_cons_zero, List.getElem?_cons_succ, List.set_cons_zero, List.set_cons_succ, Option.toList_some, Option.toList_none, List.sum_cons, List.sum_nil, true_and, and_true, true_or, or_true, Nat.le_refl, Nat.zero_le, Value.category, Fin.isValue, Fin.val_zero, Fin.val_one, Fin.val_two, Fin.reduceFinMk, q_10, q_01, not_false_eq_true, not_true_eq_false, forall_const, true_implies, false_implies, implies_true, q_ni, q_fi, q_nb0, q_nb1, q_fb0, q_fb1, q_nor, q_nar, q_for, q_far, q_non, q_nan, q_fon, q_fan, imp_false, false_and, and_false, and_self, false_or, or_false, va_rf, refKind, s_X8_init, q_fld, q_fset, q_oc, q_ai, q_aq, q_len, q_up_s, q_up_up, if_true]
    intro σ1 R x' y1 y2 y3 y4
    have w1 := y4 w _ n1 (by rw [q_up_n n1, q_up_s])
    simp only [c_push, c_null, c_iload, c_aload, c_istore, c_astore, c_iinc, c_iadd, c_isub, c_imul, c_iand, c_ineg, c_dup, c_dup2, c_pop, c_ifnull, c_ifnonnull, c_get, c_put, c_iald, c_zald, c_iast, c_zast, c_aald, c_aast, c_alen, c_new, c_newa, c_newq, c_mna, c_oinit, c_max, c_copy, c_iret, c_zret, c_aret, c_vret, q_do, q_rc, c_ifeq, c_ifne, c_iflt, c_ifge, c_ifgt, c_ifle, c_iceq, c_icne, c_iclt, c_icge, c_icgt, c_icle, c_call0, c_call1, c_call2, c_call3, c_call4, c_call5, c_call6, c_call7, q_L0, List.map_cons, List.map_nil, List.replicate, List.cons_append, List.nil_append, List.append_nil, List.length_cons, List.length_nil, List.length_set, Nat.reduceSub, Nat.reduceAdd, Nat.reduceLT, Nat.reduceLeDiff, Nat.zero_add, Nat.add_zero, Nat.sub_zero, Nat.sub_self, List.getElem?_cons_zero, List.getElem?_cons_succ, List.set_cons_zero, List.set_cons_succ, Option.toList_some, Option.toList_none, List.sum_cons, List.sum_nil, true_and, and_true, true_or, or_true, Nat.le_refl, Nat.zero_le, Value.category, Fin.isValue, Fin.val_zero, Fin.val_one, Fin.val_two, Fin.reduceFinMk, q_10, q_01, not_false_eq_true, not_true_eq_false, forall_const, true_implies, false_implies, implies_true, q_ni, q_fi, q_nb0, q_nb1, q_fb0, q_fb1, q_nor, q_nar, q_for, q_far, q_non, q_nan, q_fon, q_fan, imp_false, false_and, and_false, and_self, false_or, or_false, va_rf, refKind, q_fld, q_fset, q_oc, q_ai, q_aq, q_len, q_up_s, q_up_up, if_true, w1.2, e9]
    refine ⟨by decide, fun q2 hq2 => ?_⟩
    have n2 : w ≠ q2 := fun e => by rw [← e, q_up_s] at hq2; cases hq2
    have hq2' : σ1 q2 = none := by rw [q_up_n n2.symm] at hq2; exact hq2
    simp only [c_push, c_null, c_iload, c_aload, c_istore, c_astore, c_iinc, c_iadd, c_isub, c_imul, c_iand, c_ineg, c_dup, c_dup2, c_pop, c_ifnull, c_ifnonnull, c_get, c_put, c_iald, c_zald, c_iast, c_zast, c_aald, c_aast, c_alen, c_new, c_newa, c_newq, c_mna, c_oinit, c_max, c_copy, c_iret, c_zret, c_aret, c_vret, q_do, q_rc, c_ifeq, c_ifne, c_iflt, c_ifge, c_ifgt, c_ifle, c_iceq, c_icne, c_iclt, c_icge, c_icgt, c_icle, c_call0, c_call1, c_call2, c_call3, c_call4, c_call5, c_call6, c_call7, q_L0, List.map_cons, List.map_nil, List.replicate, List.cons_append, List.nil_append, List.append_nil, List.length_cons, List.length_nil, List.length_set, Nat.reduceSub, Nat.reduceAdd, Nat.reduceLT, Nat.reduceLeDiff, Nat.zero_add, Nat.add_zero, Nat.sub_zero, Nat.sub_self, List.getElem?_cons_zero, List.getElem?_cons_succ, List.set_cons_zero, List.set_cons_succ, Option.toList_some, Option.toList_none, List.sum_cons, List.sum_nil, true_and, and_true, true_or, or_true, Nat.le_refl, Nat.zero_le, Value.category, Fin.isValue, Fin.val_zero, Fin.val_one, Fin.val_two, Fin.reduceFinMk, q_10, q_01, not_false_eq_true, not_true_eq_false, forall_const, true_implies, false_implies, implies_true, q_ni, q_fi, q_nb0, q_nb1, q_fb0, q_fb1, q_nor, q_nar, q_for, q_far, q_non, q_nan, q_fon, q_fan, imp_false, false_and, and_false, and_self, false_or, or_false, va_rf, refKind, q_fld, q_fset, q_oc, q_ai, q_aq, q_len, q_up_s, q_up_up, if_true, q_up_n n2]
    intro q3 hq3
    have n3 : w ≠ q3 := fun e => by rw [← e, q_up_s] at hq3; cases hq3
    have z1 : q_up (q_up (q_up σ1 w (Sum.inr (9, [Value.ref p, Value.int ent, Value.ref q1, Value.null, Value.null]))) q2 (Sum.inl (FieldType.boolean, 12, Sum.inl fun x => 0))) w (Sum.inr (9, [Value.ref p, Value.int ent, Value.ref q1, Value.ref q2, Value.null])) w = some (Sum.inr (9, [Value.ref p, Value.int ent, Value.ref q1, Value.ref q2, Value.null])) := q_up_s
    have z2 : q_up (q_up (q_up σ1 w (Sum.inr (9, [Value.ref p, Value.int ent, Value.ref q1, Value.null, Value.null]))) q2 (Sum.inl (FieldType.boolean, 12, Sum.inl fun x => 0))) w (Sum.inr (9, [Value.ref p, Value.int ent, Value.ref q1, Value.ref q2, Value.null])) q2 = some (Sum.inl (FieldType.boolean, 12, Sum.inl fun x => 0)) := by rw [q_up_n n2.symm, q_up_s]
    have z3 : ∀ b, b ≠ w → b ≠ q2 → q_up (q_up (q_up σ1 w (Sum.inr (9, [Value.ref p, Value.int ent, Value.ref q1, Value.null, Value.null]))) q2 (Sum.inl (FieldType.boolean, 12, Sum.inl fun x => 0))) w (Sum.inr (9, [Value.ref p, Value.int ent, Value.ref q1, Value.ref q2, Value.null])) b = σ1 b := fun b hb1 hb2 => by rw [q_up_n hb1, q_up_n hb2, q_up_n hb1]
    generalize q_up (q_up (q_up σ1 w (Sum.inr (9, [Value.ref p, Value.int ent, Value.ref q1, Value.null, Value.null]))) q2 (Sum.inl (FieldType.boolean, 12, Sum.inl fun x => 0))) w (Sum.inr (9, [Value.ref p, Value.int ent, Value.ref q1, Value.ref q2, Value.null])) = Z at *
    simp only [c_push, c_null, c_iload, c_aload, c_istore, c_astore, c_iinc, c_iadd, c_isub, c_imul, c_iand, c_ineg, c_dup, c_dup2, c_pop, c_ifnull, c_ifnonnull, c_get, c_put, c_iald, c_zald, c_iast, c_zast, c_aald, c_aast, c_alen, c_new, c_newa, c_newq, c_mna, c_oinit, c_max, c_copy, c_iret, c_zret, c_aret, c_vret, q_do, q_rc, c_ifeq, c_ifne, c_iflt, c_ifge, c_ifgt, c_ifle, c_iceq, c_icne, c_iclt, c_icge, c_icgt, c_icle, c_call0, c_call1, c_call2, c_call3, c_call4, c_call5, c_call6, c_call7, q_L0, List.map_cons, List.map_nil, List.replicate, List.cons_append, List.nil_append, List.append_nil, List.length_cons, List.length_nil, List.length_set, Nat.reduceSub, Nat.reduceAdd, Nat.reduceLT, Nat.reduceLeDiff, Nat.zero_add, Nat.add_zero, Nat.sub_zero, Nat.sub_self, List.getElem?_cons_zero, List.getElem?_cons_succ, List.set_cons_zero, List.set_cons_succ, Option.toList_some, Option.toList_none, List.sum_cons, List.sum_nil, true_and, and_true, true_or, or_true, Nat.le_refl, Nat.zero_le, Value.category, Fin.isValue, Fin.val_zero, Fin.val_one, Fin.val_two, Fin.reduceFinMk, q_10, q_01, not_false_eq_true, not_true_eq_false, forall_const, true_implies, false_implies, implies_true, q_ni, q_fi, q_nb0, q_nb1, q_fb0, q_fb1, q_nor, q_nar, q_for, q_far, q_non, q_nan, q_fon, q_fan, imp_false, false_and, and_false, and_self, false_or, or_false, va_rf, refKind, s_X5_init, q_fld, q_fset, q_oc, q_ai, q_aq, q_len, q_up_s, q_up_up, if_true]
    intro q4 hq4
    have n34 : q4 ≠ q3 := fun e => by rw [e, q_up_s] at hq4; cases hq4
    have hq4' : Z q4 = none := by rw [q_up_n n34] at hq4; exact hq4
    have n4 : w ≠ q4 := fun e => by rw [← e, z1] at hq4'; cases hq4'
    have n32 : q3 ≠ q2 := fun e => by rw [e, z2] at hq3; cases hq3
    have n42 : q4 ≠ q2 := fun e => by rw [e, z2] at hq4'; cases hq4'
    have s3 : σ1 q3 = none := by rw [z3 q3 n3.symm n32] at hq3; exact hq3
    have s4 : σ1 q4 = none := by rw [z3 q4 n4.symm n42] at hq4'; exact hq4'
    have old : ∀ a e, a ≠ w → σ a = some e → a ≠ q1 ∧ ¬ R a ∧ σ1 a = some e := fun a e ha he => by
      have k1 : a ≠ q1 := fun e9 => by rw [e9, hq1'] at he; cases he
      have k2 := y4 a e k1 (by rw [q_up_n k1, q_up_n ha]; exact he)
      exact ⟨k1, k2.1, k2.2⟩
    have new : ∀ q, w ≠ q → σ1 q = none → σ q = none := fun q hw hq => by
      cases hs : σ q with
      | none => rfl
      | some e => rw [(old q e hw.symm hs).2.2] at hq; cases hq
    have fin : ∀ b, b ≠ w → b ≠ q2 → b ≠ q3 → b ≠ q4 → q_up (q_up (q_up (q_up Z q3 (Sum.inr (5, [Value.null, Value.int 0]))) q4 (Sum.inl (FieldType.int, 20, Sum.inl fun x => 0))) q3 (Sum.inr (5, [Value.ref q4, Value.int 0]))) w (Sum.inr (9, [Value.ref p, Value.int ent, Value.ref q1, Value.ref q2, Value.ref q3])) b = σ1 b := fun b b1 b2 b3 b4 => by rw [q_up_n b1, q_up_n b3, q_up_n b4, q_up_n b3, z3 b b1 b2]
    simp only [c_push, c_null, c_iload, c_aload, c_istore, c_astore, c_iinc, c_iadd, c_isub, c_imul, c_iand, c_ineg, c_dup, c_dup2, c_pop, c_ifnull, c_ifnonnull, c_get, c_put, c_iald, c_zald, c_iast, c_zast, c_aald, c_aast, c_alen, c_new, c_newa, c_newq, c_mna, c_oinit, c_max, c_copy, c_iret, c_zret, c_aret, c_vret, q_do, q_rc, c_ifeq, c_ifne, c_iflt, c_ifge, c_ifgt, c_ifle, c_iceq, c_icne, c_iclt, c_icge, c_icgt, c_icle, c_call0, c_call1, c_call2, c_call3, c_call4, c_call5, c_call6, c_call7, q_L0, List.map_cons, List.map_nil, List.replicate, List.cons_append, List.nil_append, List.append_nil, List.length_cons, List.length_nil, List.length_set, Nat.reduceSub, Nat.reduceAdd, Nat.reduceLT, Nat.reduceLeDiff, Nat.zero_add, Nat.add_zero, Nat.sub_zero, Nat.sub_self, List.getElem?_cons_zero, List.getElem?_cons_succ, List.set_cons_zero, List.set_cons_succ, Option.toList_some, Option.toList_none, List.sum_cons, List.sum_nil, true_and, and_true, true_or, or_true, Nat.le_refl, Nat.zero_le, Value.category, Fin.isValue, Fin.val_zero, Fin.val_one, Fin.val_two, Fin.reduceFinMk, q_10, q_01, not_false_eq_true, not_true_eq_false, forall_const, true_implies, false_implies, implies_true, q_ni, q_fi, q_nb0, q_nb1, q_fb0, q_fb1, q_nor, q_nar, q_for, q_far, q_non, q_nan, q_fon, q_fan, imp_false, false_and, and_false, and_self, false_or, or_false, va_rf, refKind, q_fld, q_fset, q_oc, q_ai, q_aq, q_len, q_up_s, q_up_up, if_true, q_up_n n3, q_up_n n4, z1]
    refine h7 _ q1 q2 q3 q4 (fun a => R a ∧ σ1 a ≠ none) x' y1 y2 q_up_s (y3.fr (fun a e ha he => ⟨⟨ha, by rw [he]; exact fun h => by cases h⟩, ?_⟩)) ?_ ?_ ?_ ⟨new q2 n2 hq2', new q3 n3 s3, new q4 n4 s4⟩ (fun a ha => ⟨?_, ?_, ?_, ?_⟩) (fun a e ha he => ?_)
    · rw [fin a (fun e9 => w1.1 (by rw [← e9]; exact ha)) (fun e9 => by rw [e9, hq2'] at he; cases he) (fun e9 => by rw [e9, s3] at he; cases he) (fun e9 => by rw [e9, s4] at he; cases he)]; exact he
    · rw [q_up_n n2.symm, q_up_n n32.symm, q_up_n n42.symm, q_up_n n32.symm]; exact z2
    · rw [q_up_n n3.symm, q_up_s]
    · rw [q_up_n n4.symm, q_up_n n34, q_up_s]
    · cases hs : σ a with
      | none => rfl
      | some e =>
        exfalso
        by_cases hw : a = w
        · subst hw; exact w1.1 ha.1
        · exact (old a e hw hs).2.1 ha.1
    · exact fun e9 => ha.2 (by rw [e9]; exact hq2')
    · exact fun e9 => ha.2 (by rw [e9]; exact s3)
    · exact fun e9 => ha.2 (by rw [e9]; exact s4)
    · have k := old a e ha he
      rw [fin a ha (fun e9 => by rw [e9, hq2'] at k; cases k.2.2) (fun e9 => by rw [e9, s3] at k; cases k.2.2) (fun e9 => by rw [e9, s4] at k; cases k.2.2)]
      exact k.2.2
  · exact h.elim)
