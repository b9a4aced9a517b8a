theorem rkA : refKind (.array .int) = true := rfl
theorem rkO (C : String) : refKind (.object C) = true := rfl
abbrev in11 (p q : Int32) : Prop := (0 ≤ p ∧ p ≤ 11) ∧ 0 ≤ q ∧ q ≤ 11
def s_X8_pledgedTo : q_Sp := fun av σ post => match av with
  | [.ref s, .int p, .int q] => ∃ R M pgs, ShC σ R s M pgs ∧ (in11 p q → post (some (.int (M p.toNatClampNeg q.toNatClampNeg))) σ) ∧ (¬ in11 p q → post (some (.int 0)) σ)
  | _ => False
theorem w9_182 : (.code yX8_canPledge cX8_canPledge 2 (some .boolean) : Cond) ∈ lw_tbl := by decide +kernel
theorem w9_183 : (.initialized RX8 : Cond) ∈ lw_tbl := by decide +kernel
theorem w9_184 : (.static yX8_canPledge : Cond) ∈ lw_tbl := by decide +kernel
theorem w9_185 : (.methodLink RX8 50 yX8_canPledge : Cond) ∈ lw_tbl := by decide +kernel
theorem w9_186 : (.fieldLink RX8 26 (TX8 1).1 (TX8 1).2.1 (TX8 1).2.2.1 : Cond) ∈ lw_tbl := by decide +kernel
def rm_X8_pledgedTo : Room := { frames := 2, cells := 0, slots := 0, locals := 43 }
def k_X8_pledgedTo_20 (post : Option Value → q_S → Prop) (K : Nat → q_K) : q_K := (c_iret post)
def k_X8_pledgedTo_0 (post : Option Value → q_S → Prop) (K : Nat → q_K) : q_K := (c_iload 1 (c_iload 2 (c_call2 none s_X8_canPledge 0 0 (c_ifeq (c_push 0 (k_X8_pledgedTo_20 post K)) (c_aload 0 (c_get 8 1 (c_iload 1 (c_aald (c_iload 2 (c_iald (k_X8_pledgedTo_20 post K)))))))))))
set_option maxRecDepth 100000 in
theorem v_X8_pledgedTo_20 {p : Program} {l : Launch} {e : Env} {s : State} {m : MethodId} {args : Array Value} {below : List Frame} {meth : Method} {c : Code} {D : va_G} {A : Nat → Prop} {post : Option Value → q_S → Prop} {K : Nat → q_K} (C : q_C p s m args meth c cX8_pledgedTo 3 RX8 "pledgedTo" (some .int) A) (hK : ∀ h ∈ ([] : List Nat), q_V p l e rm_X8_pledgedTo s m args below meth c D A 3 (MQ below (q_Qc D A post) args s rm_X8_pledgedTo.cells rm_X8_pledgedTo.slots A) h (K h)) : q_V p l e rm_X8_pledgedTo s m args below meth c D A 3 (MQ below (q_Qc D A post) args s rm_X8_pledgedTo.cells rm_X8_pledgedTo.slots A) 20 (k_X8_pledgedTo_20 post K) := by
  unfold k_X8_pledgedTo_20
  exact q_iret C rfl (by decide +kernel : decode cX8_pledgedTo 20 = .ok (.ireturn, 1))
set_option maxRecDepth 100000 in
theorem v_X8_pledgedTo_0 {p : Program} {l : Launch} {e : Env} {s : State} {m : MethodId} {args : Array Value} {below : List Frame} {meth : Method} {c : Code} {D : va_G} {A : Nat → Prop} {post : Option Value → q_S → Prop} {K : Nat → q_K} (C : q_C p s m args meth c cX8_pledgedTo 3 RX8 "pledgedTo" (some .int) A) (hK : ∀ h ∈ ([] : List Nat), q_V p l e rm_X8_pledgedTo s m args below meth c D A 3 (MQ below (q_Qc D A post) args s rm_X8_pledgedTo.cells rm_X8_pledgedTo.slots A) h (K h)) : q_V p l e rm_X8_pledgedTo s m args below meth c D A 3 (MQ below (q_Qc D A post) args s rm_X8_pledgedTo.cells rm_X8_pledgedTo.slots A) 0 (k_X8_pledgedTo_0 post K) := by
  unfold k_X8_pledgedTo_0
  refine q_iload_n C (by decide +kernel : decode cX8_pledgedTo 0 = .ok (.iload_n 1, 1)) ?_
  refine q_iload_n C (by decide +kernel : decode cX8_pledgedTo 1 = .ok (.iload_n 2, 1)) ?_
  refine q_call2 C (q_coS C (np := 2) (t_X8_canPledge l) w9_182 w9_185 w9_184 w9_183 (by decide +kernel) (by decide +kernel : decode cX8_pledgedTo 2 = .ok (.invokestatic 50, 3)) (by decide)) ?_
  refine q_ifeq C (tgt := 19) (by decide +kernel : decode cX8_pledgedTo 5 = .ok (.ifCond .eq 14, 3)) (by decide) ?_ ?_
  · refine q_iconst C (by decide +kernel : decode cX8_pledgedTo 19 = .ok (.iconst 0, 1)) (by decide) ?_
    exact v_X8_pledgedTo_20 C hK
  · refine q_aload_n C (by decide +kernel : decode cX8_pledgedTo 8 = .ok (.aload_n 0, 1)) ?_
    refine q_get C (ci := 8) (j := 1) (C0 := RX8) (T := TX8) (N := 2) rfl iX8 giX8 (by decide) w9_186 (by decide +kernel : decode cX8_pledgedTo 9 = .ok (.getfield 26, 3)) ?_
    refine q_iload_n C (by decide +kernel : decode cX8_pledgedTo 12 = .ok (.iload_n 1, 1)) ?_
    refine q_aald C (by decide +kernel : decode cX8_pledgedTo 13 = .ok (.aaload, 1)) ?_
    refine q_iload_n C (by decide +kernel : decode cX8_pledgedTo 14 = .ok (.iload_n 2, 1)) ?_
    refine q_iald C (by decide +kernel : decode cX8_pledgedTo 15 = .ok (.iaload, 1)) ?_
    refine q_goto C (tgt := 20) (by decide +kernel : decode cX8_pledgedTo 16 = .ok (.goto 4, 3)) (by decide) ?_
    exact v_X8_pledgedTo_20 C hK
theorem u_X8_pledgedTo (l : Launch) {sp : q_Sp} (H : ∀ (av : List Value) (σ : q_S) (post : Option Value → q_S → Prop), sp av σ post → k_X8_pledgedTo_0 post (fun _ _ _ _ _ _ => False) (q_L0 av 3) [] σ 0 0 ∧ av.length ≤ 3 ∧ ∀ v ∈ av, v.category = 1) : q_Ct l yX8_pledgedTo cX8_pledgedTo 3 (some .int) rm_X8_pledgedTo sp := by
  refine q_met (by decide) ?_
  intro D A p e s m args below meth c σ av post C hsp
  obtain ⟨h1, h2, h3⟩ := H av σ post hsp
  exact ⟨_, v_X8_pledgedTo_0 (K := fun _ _ _ _ _ _ => False) C (fun h hh => by cases hh), h1, h2, h3⟩
theorem t_X8_pledgedTo (l : Launch) : q_Ct l yX8_pledgedTo cX8_pledgedTo 3 (some .int) rm_X8_pledgedTo s_X8_pledgedTo := u_X8_pledgedTo l (by
  intro av σ post h
  unfold s_X8_pledgedTo at h
  split at h
  · next s p q =>
    refine ⟨?_, by simp, by simp [Value.category]⟩
    obtain ⟨R, M, pgs, ⟨v, pl, h1, h2, ⟨pr, g1, g2, g3⟩, h6⟩, h7, h8⟩ := h
    simp only [c_push, c_null, c_iload, c_aload, c_istore, c_astore, c_iinc, c_iadd, c_isub, c_imul, c_iand, c_ineg, c_dup, c_dup2, c_pop, c_ifnull, c_ifnonnull, c_get, c_put, c_iald, c_zald, c_iast, c_zast, c_aald, c_aast, c_alen, c_new, c_newa, c_newq, c_mna, c_oinit, c_max, c_copy, c_iret, c_zret, c_aret, c_vret, q_do, q_rc, c_ifeq, c_ifne, c_iflt, c_ifge, c_ifgt, c_ifle, c_iceq, c_icne, c_iclt, c_icge, c_icgt, c_icle, c_call0, c_call1, c_call2, c_call3, c_call4, c_call5, c_call6, c_call7, q_L0, List.map_cons, List.map_nil, List.replicate, List.cons_append, List.nil_append, List.append_nil, List.length_cons, List.length_nil, List.length_set, Nat.reduceSub, Nat.reduceAdd, Nat.reduceLT, Nat.reduceLeDiff, Nat.zero_add, Nat.add_zero, Nat.sub_zero, Nat.sub_self, List.getElem?_cons_zero, List.getElem?_cons_succ, List.set_cons_zero, List.set_cons_succ, Option.toList_some, Option.toList_none, List.sum_cons, List.sum_nil, true_and, and_true, true_or, or_true, Nat.le_refl, Nat.zero_le, Value.category, Fin.isValue, Fin.val_zero, Fin.val_one, Fin.val_two, Fin.reduceFinMk, q_10, q_01, not_false_eq_true, not_true_eq_false, forall_const, true_implies, false_implies, implies_true, q_ni, q_fi, q_nb0, q_nb1, q_fb0, q_fb1, q_nor, q_nar, q_for, q_far, q_non, q_nan, q_fon, q_fan, imp_false, false_and, and_false, and_self, false_or, or_false, va_rf, refKind, k_X8_pledgedTo_0, k_X8_pledgedTo_20, q_fld, q_fset, q_oc, q_ai, q_aq, q_len, q_up_s, q_up_up, if_true, h1.2, s_X8_canPledge]
    refine ⟨fun c => ?_, fun c => h8 c⟩
    have hp : p.toNatClampNeg < 12 := clamp_lt 12 c.1.1 (by grind)
    have hq : q.toNatClampNeg < 12 := clamp_lt 12 c.2.1 (by grind)
    obtain ⟨f, g4, g5⟩ := g2 _ hp
    have h9 := h7 c
    rw [← g5 _ hq] at h9
    have g12 := g1.2
    simp only [c_push, c_null, c_iload, c_aload, c_istore, c_astore, c_iinc, c_iadd, c_isub, c_imul, c_iand, c_ineg, c_dup, c_dup2, c_pop, c_ifnull, c_ifnonnull, c_get, c_put, c_iald, c_zald, c_iast, c_zast, c_aald, c_aast, c_alen, c_new, c_newa, c_newq, c_mna, c_oinit, c_max, c_copy, c_iret, c_zret, c_aret, c_vret, q_do, q_rc, c_ifeq, c_ifne, c_iflt, c_ifge, c_ifgt, c_ifle, c_iceq, c_icne, c_iclt, c_icge, c_icgt, c_icle, c_call0, c_call1, c_call2, c_call3, c_call4, c_call5, c_call6, c_call7, q_L0, List.map_cons, List.map_nil, List.replicate, List.cons_append, List.nil_append, List.append_nil, List.length_cons, List.length_nil, List.length_set, Nat.reduceSub, Nat.reduceAdd, Nat.reduceLT, Nat.reduceLeDiff, Nat.zero_add, Nat.add_zero, Nat.sub_zero, Nat.sub_self, List.getElem?_cons_zero, List.getElem?_cons_succ, List.set_cons_zero, List.set_cons_succ, Option.toList_some, Option.toList_none, List.sum_cons, List.sum_nil, true_and, and_true, true_or, or_true, Nat.le_refl, Nat.zero_le, Value.category, Fin.isValue, Fin.val_zero, Fin.val_one, Fin.val_two, Fin.reduceFinMk, q_10, q_01, not_false_eq_true, not_true_eq_false, forall_const, true_implies, false_implies, implies_true, q_ni, q_fi, q_nb0, q_nb1, q_fb0, q_fb1, q_nor, q_nar, q_for, q_far, q_non, q_nan, q_fon, q_fan, imp_false, false_and, and_false, and_self, false_or, or_false, va_rf, refKind, q_fld, q_fset, q_oc, q_ai, q_aq, q_len, q_up_s, q_up_up, if_true, h1.2, g12, rkA, vpi12, if_pos hp, g4.2]
    exact ⟨by grind, by grind, h9⟩
  · exact h.elim)
def plM (M : Nat → Nat → Int32) (p : Nat) : Nat → Int32
  | 0 => 0
  | q + 1 => plM M p q + M p q
def s_X8_pledgedBy : q_Sp := fun av σ post => match av with
  | [.ref s, .int p] => ∃ R M pgs, ShC σ R s M pgs ∧ (0 ≤ p ∧ p ≤ 11) ∧ post (some (.int (plM M p.toNatClampNeg 12))) σ
  | _ => False
theorem w9_187 : (.code yX8_pledgedTo cX8_pledgedTo 3 (some .int) : Cond) ∈ lw_tbl := by decide +kernel
theorem w9_188 : (.methodLink RX8 46 yX8_pledgedTo : Cond) ∈ lw_tbl := by decide +kernel
theorem w9_189 : (.instanceMethod yX8_pledgedTo : Cond) ∈ lw_tbl := by decide +kernel
theorem w9_190 : (.selects RX8 yX8_pledgedTo yX8_pledgedTo : Cond) ∈ lw_tbl := by decide +kernel
def rm_X8_pledgedBy : Room := { frames := 3, cells := 0, slots := 0, locals := 65 }
def k_X8_pledgedBy_0 (post : Option Value → q_S → Prop) (K : Nat → q_K) : q_K := (c_push 0 (c_istore 2 (c_push 0 (c_istore 3 (K 4)))))
def k_X8_pledgedBy_4 (post : Option Value → q_S → Prop) (K : Nat → q_K) : q_K := (c_iload 3 (c_push 12 (c_icge (c_iload 2 (c_iret post)) (c_iload 2 (c_aload 0 (c_iload 1 (c_iload 3 (c_call3 (some 8) s_X8_pledgedTo 0 0 (c_iadd (c_istore 2 (c_iinc 3 1 (K 4))))))))))))
set_option maxRecDepth 100000 in
theorem v_X8_pledgedBy_0 {p : Program} {l : Launch} {e : Env} {s : State} {m : MethodId} {args : Array Value} {below : List Frame} {meth : Method} {c : Code} {D : va_G} {A : Nat → Prop} {post : Option Value → q_S → Prop} {K : Nat → q_K} (C : q_C p s m args meth c cX8_pledgedBy 4 RX8 "pledgedBy" (some .int) A) (hK : ∀ h ∈ ([4] : List Nat), q_V p l e rm_X8_pledgedBy s m args below meth c D A 4 (MQ below (q_Qc D A post) args s rm_X8_pledgedBy.cells rm_X8_pledgedBy.slots A) h (K h)) : q_V p l e rm_X8_pledgedBy s m args below meth c D A 4 (MQ below (q_Qc D A post) args s rm_X8_pledgedBy.cells rm_X8_pledgedBy.slots A) 0 (k_X8_pledgedBy_0 post K) := by
  unfold k_X8_pledgedBy_0
  refine q_iconst C (by decide +kernel : decode cX8_pledgedBy 0 = .ok (.iconst 0, 1)) (by decide) ?_
  refine q_istore_n C (by decide +kernel : decode cX8_pledgedBy 1 = .ok (.istore_n 2, 1)) ?_
  refine q_iconst C (by decide +kernel : decode cX8_pledgedBy 2 = .ok (.iconst 0, 1)) (by decide) ?_
  refine q_istore_n C (by decide +kernel : decode cX8_pledgedBy 3 = .ok (.istore_n 3, 1)) ?_
  exact hK 4 (by decide)
set_option maxRecDepth 100000 in
theorem v_X8_pledgedBy_4 {p : Program} {l : Launch} {e : Env} {s : State} {m : MethodId} {args : Array Value} {below : List Frame} {meth : Method} {c : Code} {D : va_G} {A : Nat → Prop} {post : Option Value → q_S → Prop} {K : Nat → q_K} (C : q_C p s m args meth c cX8_pledgedBy 4 RX8 "pledgedBy" (some .int) A) (hK : ∀ h ∈ ([4] : List Nat), q_V p l e rm_X8_pledgedBy s m args below meth c D A 4 (MQ below (q_Qc D A post) args s rm_X8_pledgedBy.cells rm_X8_pledgedBy.slots A) h (K h)) : q_V p l e rm_X8_pledgedBy s m args below meth c D A 4 (MQ below (q_Qc D A post) args s rm_X8_pledgedBy.cells rm_X8_pledgedBy.slots A) 4 (k_X8_pledgedBy_4 post K) := by
  unfold k_X8_pledgedBy_4
  refine q_iload_n C (by decide +kernel : decode cX8_pledgedBy 4 = .ok (.iload_n 3, 1)) ?_
  refine q_bipush C (by decide +kernel : decode cX8_pledgedBy 5 = .ok (.bipush 12, 2)) (by decide) ?_
  refine q_icge C (tgt := 25) (by decide +kernel : decode cX8_pledgedBy 7 = .ok (.if_icmp .ge 18, 3)) (by decide) ?_ ?_
  · refine q_iload_n C (by decide +kernel : decode cX8_pledgedBy 25 = .ok (.iload_n 2, 1)) ?_
    exact q_iret C rfl (by decide +kernel : decode cX8_pledgedBy 26 = .ok (.ireturn, 1))
  · refine q_iload_n C (by decide +kernel : decode cX8_pledgedBy 10 = .ok (.iload_n 2, 1)) ?_
    refine q_aload_n C (by decide +kernel : decode cX8_pledgedBy 11 = .ok (.aload_n 0, 1)) ?_
    refine q_iload_n C (by decide +kernel : decode cX8_pledgedBy 12 = .ok (.iload_n 1, 1)) ?_
    refine q_iload_n C (by decide +kernel : decode cX8_pledgedBy 13 = .ok (.iload_n 3, 1)) ?_
    refine q_call3 C (q_coV C (np := 2) (ci := 8) (rc := (RX8, TX8, 2)) (t_X8_pledgedTo l) w9_187 rfl rfl w9_188 w9_189 w9_190 w9_183 (by decide +kernel) (by decide +kernel : decode cX8_pledgedBy 14 = .ok (.invokevirtual 46, 3)) (by decide)) ?_
    refine q_iadd C (by decide +kernel : decode cX8_pledgedBy 17 = .ok (.iadd, 1)) ?_
    refine q_istore_n C (by decide +kernel : decode cX8_pledgedBy 18 = .ok (.istore_n 2, 1)) ?_
    refine q_iinc C (by decide +kernel : decode cX8_pledgedBy 19 = .ok (.iinc 3 1, 3)) (by decide) ?_
    refine q_goto C (tgt := 4) (by decide +kernel : decode cX8_pledgedBy 22 = .ok (.goto (-18), 3)) (by decide) ?_
    exact hK 4 (by decide)
theorem u_X8_pledgedBy (l : Launch) {sp : q_Sp} (H : ∀ (av : List Value) (σ : q_S) (post : Option Value → q_S → Prop), sp av σ post → ∃ Inv : Nat → Nat → q_K, (∀ K : Nat → q_K, (∀ (h n : Nat) (L : List (Option Value)) (st : List Value) (σ : q_S) (cr sr : Nat), Inv h n L st σ cr sr → K h L st σ cr sr) → k_X8_pledgedBy_0 post K (q_L0 av 4) [] σ 0 0) ∧ (∀ (K : Nat → q_K) (n : Nat), (∀ (h m : Nat) (L : List (Option Value)) (st : List Value) (σ : q_S) (cr sr : Nat), m < n → Inv h m L st σ cr sr → K h L st σ cr sr) → ∀ (L : List (Option Value)) (st : List Value) (σ : q_S) (cr sr : Nat), Inv 4 n L st σ cr sr → k_X8_pledgedBy_4 post K L st σ cr sr) ∧ av.length ≤ 4 ∧ ∀ v ∈ av, v.category = 1) : q_Ct l yX8_pledgedBy cX8_pledgedBy 4 (some .int) rm_X8_pledgedBy sp := by
  refine q_met (by decide) ?_
  intro D A p e s m args below meth c σ av post C hsp
  obtain ⟨Inv, h1, hh4, h2, h3⟩ := H av σ post hsp
  have hV := q_loops (p := p) (l := l) (e := e) (R := rm_X8_pledgedBy) (s := s) (m := m) (args := args) (below := below) (meth := meth) (c := c) (D := D) (A := A) (nL := 4) (Q := MQ below (q_Qc D A post) args s rm_X8_pledgedBy.cells rm_X8_pledgedBy.slots A) [4] (fun h =>  k_X8_pledgedBy_4 post) (fun K hK h hh => ?_) Inv (fun n h hh => ?_)
  · exact ⟨_, v_X8_pledgedBy_0 C hV, h1 _ (fun h n L st σ cr sr hi => ⟨n, hi⟩), h2, h3⟩
  · have e9 : h = 4 := by simpa using hh
    subst e9
    exact v_X8_pledgedBy_4 C hK
  · have e9 : h = 4 := by simpa using hh
    subst e9
    exact hh4 (fun h L st σ cr sr => ∃ m : Nat, m < n ∧ Inv h m L st σ cr sr) n (fun h m L st σ cr sr hm hi => ⟨m, hm, hi⟩)
theorem t_X8_pledgedBy (l : Launch) : q_Ct l yX8_pledgedBy cX8_pledgedBy 4 (some .int) rm_X8_pledgedBy s_X8_pledgedBy := u_X8_pledgedBy l (by
  intro av σ post h
  unfold s_X8_pledgedBy at h
  split at h
  · next s p =>
    obtain ⟨R, M, pgs, hS, hp, h7⟩ := h
    have hoc : q_oc σ s = some 8 := by obtain ⟨v, pl, h1, -⟩ := hS; simp only [q_oc, h1.2]
    refine ⟨fun _ m L st σ' cr sr => ∃ i, i ≤ 12 ∧ m = 12 - i ∧ σ' = σ ∧ st = [] ∧ L = [some (.ref s), some (.int p), some (.int (plM M p.toNatClampNeg i)), some (.int (nI i))], ?_, ?_, by simp, by simp [Value.category]⟩
    · intro K hK
      simp only [c_push, c_null, c_iload, c_aload, c_istore, c_astore, c_iinc, c_iadd, c_isub, c_imul, c_iand, c_ineg, c_dup, c_dup2, c_pop, c_ifnull, c_ifnonnull, c_get, c_put, c_iald, c_zald, c_iast, c_zast, c_aald, c_aast, c_alen, c_new, c_newa, c_newq, c_mna, c_oinit, c_max, c_copy, c_iret, c_zret, c_aret, c_vret, q_do, q_rc, c_ifeq, c_ifne, c_iflt, c_ifge, c_ifgt, c_ifle, c_iceq, c_icne, c_iclt, c_icge, c_icgt, c_icle, c_call0, c_call1, c_call2, c_call3, c_call4, c_call5, c_call6, c_call7, q_L0, List.map_cons, List.map_nil, List.replicate, List.cons_append, List.nil_append, List.append_nil, List.length_cons, List.length_nil, List.length_set, Nat.reduceSub, Nat.reduceAdd, Nat.reduceLT, Nat.reduceLeDiff, Nat.zero_add, Nat.add_zero, Nat.sub_zero, Nat.sub_self, List.getElem?_cons_zero, List.getElem?_cons_succ, List.set_cons_zero, List.set_cons_succ, Option.toList_some, Option.toList_none, List.sum_cons, List.sum_nil, true_and, and_true, true_or, or_true, Nat.le_refl, Nat.zero_le, Value.category, Fin.isValue, Fin.val_zero, Fin.val_one, Fin.val_two, Fin.reduceFinMk, q_10, q_01, not_false_eq_true, not_true_eq_false, forall_const, true_implies, false_implies, implies_true, q_ni, q_fi, q_nb0, q_nb1, q_fb0, q_fb1, q_nor, q_nar, q_for, q_far, q_non, q_nan, q_fon, q_fan, imp_false, false_and, and_false, and_self, false_or, or_false, va_rf, refKind, k_X8_pledgedBy_0, k_X8_pledgedBy_4]
      exact hK _ 12 _ _ _ _ _ ⟨0, Nat.zero_le _, rfl, rfl, rfl, rfl⟩
    · rintro K m hK L st σ' cr sr ⟨i, hi, rfl, rfl, rfl, rfl⟩
      simp only [c_push, c_null, c_iload, c_aload, c_istore, c_astore, c_iinc, c_iadd, c_isub, c_imul, c_iand, c_ineg, c_dup, c_dup2, c_pop, c_ifnull, c_ifnonnull, c_get, c_put, c_iald, c_zald, c_iast, c_zast, c_aald, c_aast, c_alen, c_new, c_newa, c_newq, c_mna, c_oinit, c_max, c_copy, c_iret, c_zret, c_aret, c_vret, q_do, q_rc, c_ifeq, c_ifne, c_iflt, c_ifge, c_ifgt, c_ifle, c_iceq, c_icne, c_iclt, c_icge, c_icgt, c_icle, c_call0, c_call1, c_call2, c_call3, c_call4, c_call5, c_call6, c_call7, q_L0, List.map_cons, List.map_nil, List.replicate, List.cons_append, List.nil_append, List.append_nil, List.length_cons, List.length_nil, List.length_set, Nat.reduceSub, Nat.reduceAdd, Nat.reduceLT, Nat.reduceLeDiff, Nat.zero_add, Nat.add_zero, Nat.sub_zero, Nat.sub_self, List.getElem?_cons_zero, List.getElem?_cons_succ, List.set_cons_zero, List.set_cons_succ, Option.toList_some, Option.toList_none, List.sum_cons, List.sum_nil, true_and, and_true, true_or, or_true, Nat.le_refl, Nat.zero_le, Value.category, Fin.isValue, Fin.val_zero, Fin.val_one, Fin.val_two, Fin.reduceFinMk, q_10, q_01, not_false_eq_true, not_true_eq_false, forall_const, true_implies, false_implies, implies_true, q_ni, q_fi, q_nb0, q_nb1, q_fb0, q_fb1, q_nor, q_nar, q_for, q_far, q_non, q_nan, q_fon, q_fan, imp_false, false_and, and_false, and_self, false_or, or_false, va_rf, refKind, k_X8_pledgedBy_0, k_X8_pledgedBy_4, hoc]
      rw [(cl2 12 (nI i) 12 i rfl rfl (by omega) (by omega)).1]
      refine ⟨fun c => ?_, fun c => ⟨R, M, pgs, hS, fun c2 => ?_, fun c2 => ?_⟩⟩
      · have : i = 12 := by omega
        subst this; exact h7
      · rw [clN (by omega)]
        simp only [c_push, c_null, c_iload, c_aload, c_istore, c_astore, c_iinc, c_iadd, c_isub, c_imul, c_iand, c_ineg, c_dup, c_dup2, c_pop, c_ifnull, c_ifnonnull, c_get, c_put, c_iald, c_zald, c_iast, c_zast, c_aald, c_aast, c_alen, c_new, c_newa, c_newq, c_mna, c_oinit, c_max, c_copy, c_iret, c_zret, c_aret, c_vret, q_do, q_rc, c_ifeq, c_ifne, c_iflt, c_ifge, c_ifgt, c_ifle, c_iceq, c_icne, c_iclt, c_icge, c_icgt, c_icle, c_call0, c_call1, c_call2, c_call3, c_call4, c_call5, c_call6, c_call7, q_L0, List.map_cons, List.map_nil, List.replicate, List.cons_append, List.nil_append, List.append_nil, List.length_cons, List.length_nil, List.length_set, Nat.reduceSub, Nat.reduceAdd, Nat.reduceLT, Nat.reduceLeDiff, Nat.zero_add, Nat.add_zero, Nat.sub_zero, Nat.sub_self, List.getElem?_cons_zero, List.getElem?_cons_succ, List.set_cons_zero, List.set_cons_succ, Option.toList_some, Option.toList_none, List.sum_cons, List.sum_nil, true_and, and_true, true_or, or_true, Nat.le_refl, Nat.zero_le, Value.category, Fin.isValue, Fin.val_zero, Fin.val_one, Fin.val_two, Fin.reduceFinMk, q_10, q_01, not_false_eq_true, not_true_eq_false, forall_const, true_implies, false_implies, implies_true, q_ni, q_fi, q_nb0, q_nb1, q_fb0, q_fb1, q_nor, q_nar, q_for, q_far, q_non, q_nan, q_fon, q_fan, imp_false, false_and, and_false, and_self, false_or, or_false, va_rf, refKind]
        exact hK _ (12 - (i + 1)) _ _ _ _ _ (by omega) ⟨i + 1, by omega, rfl, rfl, rfl, by rw [nI_1, plM]⟩
      · exact absurd ⟨hp, nI_low (by omega), nI_leN (N := 11) (by omega)⟩ c2
  · exact h.elim)
def s_X8_freeOf : q_Sp := fun av σ post => match av with
  | [.ref s, .int p] => ∃ R M x t, ShC σ R s M (x :: t) ∧ (0 ≤ p ∧ p ≤ 11) ∧ post (some (.int (shF x.2.2.2 p - plM M p.toNatClampNeg 12))) σ
  | _ => False
theorem w9_191 : (.code yX8_ownedNow cX8_ownedNow 2 (some .int) : Cond) ∈ lw_tbl := by decide +kernel
theorem w9_192 : (.methodLink RX8 40 yX8_ownedNow : Cond) ∈ lw_tbl := by decide +kernel
theorem w9_193 : (.instanceMethod yX8_ownedNow : Cond) ∈ lw_tbl := by decide +kernel
theorem w9_194 : (.selects RX8 yX8_ownedNow yX8_ownedNow : Cond) ∈ lw_tbl := by decide +kernel
theorem w9_195 : (.code yX8_pledgedBy cX8_pledgedBy 4 (some .int) : Cond) ∈ lw_tbl := by decide +kernel
theorem w9_196 : (.methodLink RX8 43 yX8_pledgedBy : Cond) ∈ lw_tbl := by decide +kernel
theorem w9_197 : (.instanceMethod yX8_pledgedBy : Cond) ∈ lw_tbl := by decide +kernel
theorem w9_198 : (.selects RX8 yX8_pledgedBy yX8_pledgedBy : Cond) ∈ lw_tbl := by decide +kernel
def rm_X8_freeOf : Room := { frames := 4, cells := 0, slots := 0, locals := 88 }
def k_X8_freeOf_0 (post : Option Value → q_S → Prop) (K : Nat → q_K) : q_K := (c_aload 0 (c_iload 1 (c_call2 (some 8) s_X8_ownedNow 0 0 (c_aload 0 (c_iload 1 (c_call2 (some 8) s_X8_pledgedBy 0 0 (c_isub (c_iret post))))))))
set_option maxRecDepth 100000 in
theorem v_X8_freeOf_0 {p : Program} {l : Launch} {e : Env} {s : State} {m : MethodId} {args : Array Value} {below : List Frame} {meth : Method} {c : Code} {D : va_G} {A : Nat → Prop} {post : Option Value → q_S → Prop} {K : Nat → q_K} (C : q_C p s m args meth c cX8_freeOf 2 RX8 "freeOf" (some .int) A) (hK : ∀ h ∈ ([] : List Nat), q_V p l e rm_X8_freeOf s m args below meth c D A 2 (MQ below (q_Qc D A post) args s rm_X8_freeOf.cells rm_X8_freeOf.slots A) h (K h)) : q_V p l e rm_X8_freeOf s m args below meth c D A 2 (MQ below (q_Qc D A post) args s rm_X8_freeOf.cells rm_X8_freeOf.slots A) 0 (k_X8_freeOf_0 post K) := by
  unfold k_X8_freeOf_0
  refine q_aload_n C (by decide +kernel : decode cX8_freeOf 0 = .ok (.aload_n 0, 1)) ?_
  refine q_iload_n C (by decide +kernel : decode cX8_freeOf 1 = .ok (.iload_n 1, 1)) ?_
  refine q_call2 C (q_coV C (np := 1) (ci := 8) (rc := (RX8, TX8, 2)) (t_X8_ownedNow l) w9_191 rfl rfl w9_192 w9_193 w9_194 w9_183 (by decide +kernel) (by decide +kernel : decode cX8_freeOf 2 = .ok (.invokevirtual 40, 3)) (by decide)) ?_
  refine q_aload_n C (by decide +kernel : decode cX8_freeOf 5 = .ok (.aload_n 0, 1)) ?_
  refine q_iload_n C (by decide +kernel : decode cX8_freeOf 6 = .ok (.iload_n 1, 1)) ?_
  refine q_call2 C (q_coV C (np := 1) (ci := 8) (rc := (RX8, TX8, 2)) (t_X8_pledgedBy l) w9_195 rfl rfl w9_196 w9_197 w9_198 w9_183 (by decide +kernel) (by decide +kernel : decode cX8_freeOf 7 = .ok (.invokevirtual 43, 3)) (by decide)) ?_
  refine q_isub C (by decide +kernel : decode cX8_freeOf 10 = .ok (.isub, 1)) ?_
  exact q_iret C rfl (by decide +kernel : decode cX8_freeOf 11 = .ok (.ireturn, 1))
theorem u_X8_freeOf (l : Launch) {sp : q_Sp} (H : ∀ (av : List Value) (σ : q_S) (post : Option Value → q_S → Prop), sp av σ post → k_X8_freeOf_0 post (fun _ _ _ _ _ _ => False) (q_L0 av 2) [] σ 0 0 ∧ av.length ≤ 2 ∧ ∀ v ∈ av, v.category = 1) : q_Ct l yX8_freeOf cX8_freeOf 2 (some .int) rm_X8_freeOf sp := by
  refine q_met (by decide) ?_
  intro D A p e s m args below meth c σ av post C hsp
  obtain ⟨h1, h2, h3⟩ := H av σ post hsp
  exact ⟨_, v_X8_freeOf_0 (K := fun _ _ _ _ _ _ => False) C (fun h hh => by cases hh), h1, h2, h3⟩
theorem t_X8_freeOf (l : Launch) : q_Ct l yX8_freeOf cX8_freeOf 2 (some .int) rm_X8_freeOf s_X8_freeOf := u_X8_freeOf l (by
  intro av σ post h
  unfold s_X8_freeOf at h
  split at h
  · next s p =>
    refine ⟨?_, by simp, by simp [Value.category]⟩
    obtain ⟨R, M, x, t, hS, hp, h7⟩ := h
    have hoc : q_oc σ s = some 8 := by obtain ⟨v, pl, h1, -⟩ := hS; simp only [q_oc, h1.2]
    simp only [c_push, c_null, c_iload, c_aload, c_istore, c_astore, c_iinc, c_iadd, c_isub, c_imul, c_iand, c_ineg, c_dup, c_dup2, c_pop, c_ifnull, c_ifnonnull, c_get, c_put, c_iald, c_zald, c_iast, c_zast, c_aald, c_aast, c_alen, c_new, c_newa, c_newq, c_mna, c_oinit, c_max, c_copy, c_iret, c_zret, c_aret, c_vret, q_do, q_rc, c_ifeq, c_ifne, c_iflt, c_ifge, c_ifgt, c_ifle, c_iceq, c_icne, c_iclt, c_icge, c_icgt, c_icle, c_call0, c_call1, c_call2, c_call3, c_call4, c_call5, c_call6, c_call7, q_L0, List.map_cons, List.map_nil, List.replicate, List.cons_append, List.nil_append, List.append_nil, List.length_cons, List.length_nil, List.length_set, Nat.reduceSub, Nat.reduceAdd, Nat.reduceLT, Nat.reduceLeDiff, Nat.zero_add, Nat.add_zero, Nat.sub_zero, Nat.sub_self, List.getElem?_cons_zero, List.getElem?_cons_succ, List.set_cons_zero, List.set_cons_succ, Option.toList_some, Option.toList_none, List.sum_cons, List.sum_nil, true_and, and_true, true_or, or_true, Nat.le_refl, Nat.zero_le, Value.category, Fin.isValue, Fin.val_zero, Fin.val_one, Fin.val_two, Fin.reduceFinMk, q_10, q_01, not_false_eq_true, not_true_eq_false, forall_const, true_implies, false_implies, implies_true, q_ni, q_fi, q_nb0, q_nb1, q_fb0, q_fb1, q_nor, q_nar, q_for, q_far, q_non, q_nan, q_fon, q_fan, imp_false, false_and, and_false, and_self, false_or, or_false, va_rf, refKind, k_X8_freeOf_0, hoc]
    refine ⟨R, M, x, t, hS, ?_⟩
    simp only [c_push, c_null, c_iload, c_aload, c_istore, c_astore, c_iinc, c_iadd, c_isub, c_imul, c_iand, c_ineg, c_dup, c_dup2, c_pop, c_ifnull, c_ifnonnull, c_get, c_put, c_iald, c_zald, c_iast, c_zast, c_aald, c_aast, c_alen, c_new, c_newa, c_newq, c_mna, c_oinit, c_max, c_copy, c_iret, c_zret, c_aret, c_vret, q_do, q_rc, c_ifeq, c_ifne, c_iflt, c_ifge, c_ifgt, c_ifle, c_iceq, c_icne, c_iclt, c_icge, c_icgt, c_icle, c_call0, c_call1, c_call2, c_call3, c_call4, c_call5, c_call6, c_call7, q_L0, List.map_cons, List.map_nil, List.replicate, List.cons_append, List.nil_append, List.append_nil, List.length_cons, List.length_nil, List.length_set, Nat.reduceSub, Nat.reduceAdd, Nat.reduceLT, Nat.reduceLeDiff, Nat.zero_add, Nat.add_zero, Nat.sub_zero, Nat.sub_self, List.getElem?_cons_zero, List.getElem?_cons_succ, List.set_cons_zero, List.set_cons_succ, Option.toList_some, Option.toList_none, List.sum_cons, List.sum_nil, true_and, and_true, true_or, or_true, Nat.le_refl, Nat.zero_le, Value.category, Fin.isValue, Fin.val_zero, Fin.val_one, Fin.val_two, Fin.reduceFinMk, q_10, q_01, not_false_eq_true, not_true_eq_false, forall_const, true_implies, false_implies, implies_true, q_ni, q_fi, q_nb0, q_nb1, q_fb0, q_fb1, q_nor, q_nar, q_for, q_far, q_non, q_nan, q_fon, q_fan, imp_false, false_and, and_false, and_self, false_or, or_false, va_rf, refKind, hoc]
    refine ⟨R, M, x :: t, hS, hp, ?_⟩
    simp only [c_push, c_null, c_iload, c_aload, c_istore, c_astore, c_iinc, c_iadd, c_isub, c_imul, c_iand, c_ineg, c_dup, c_dup2, c_pop, c_ifnull, c_ifnonnull, c_get, c_put, c_iald, c_zald, c_iast, c_zast, c_aald, c_aast, c_alen, c_new, c_newa, c_newq, c_mna, c_oinit, c_max, c_copy, c_iret, c_zret, c_aret, c_vret, q_do, q_rc, c_ifeq, c_ifne, c_iflt, c_ifge, c_ifgt, c_ifle, c_iceq, c_icne, c_iclt, c_icge, c_icgt, c_icle, c_call0, c_call1, c_call2, c_call3, c_call4, c_call5, c_call6, c_call7, q_L0, List.map_cons, List.map_nil, List.replicate, List.cons_append, List.nil_append, List.append_nil, List.length_cons, List.length_nil, List.length_set, Nat.reduceSub, Nat.reduceAdd, Nat.reduceLT, Nat.reduceLeDiff, Nat.zero_add, Nat.add_zero, Nat.sub_zero, Nat.sub_self, List.getElem?_cons_zero, List.getElem?_cons_succ, List.set_cons_zero, List.set_cons_succ, Option.toList_some, Option.toList_none, List.sum_cons, List.sum_nil, true_and, and_true, true_or, or_true, Nat.le_refl, Nat.zero_le, Value.category, Fin.isValue, Fin.val_zero, Fin.val_one, Fin.val_two, Fin.reduceFinMk, q_10, q_01, not_false_eq_true, not_true_eq_false, forall_const, true_implies, false_implies, implies_true, q_ni, q_fi, q_nb0, q_nb1, q_fb0, q_fb1, q_nor, q_nar, q_for, q_far, q_non, q_nan, q_fon, q_fan, imp_false, false_and, and_false, and_self, false_or, or_false, va_rf, refKind]
    exact h7
  · exact h.elim)
def s_X8_addPledge : q_Sp := fun av σ post => match av with
  | [.ref s, .int p, .int q, .int n] => ∃ R M pgs, ShC σ R s M pgs ∧ in11 p q ∧ ∀ σ', ShC σ' R s (M2 M p.toNatClampNeg q.toNatClampNeg (M p.toNatClampNeg q.toNatClampNeg + n)) pgs → q_fm σ R σ' R → post none σ'
  | _ => False
theorem PgC.cells {σ : q_S} {R : Nat → Prop} : ∀ {t : List pgT} {v : Value}, PgC σ R v t → ∀ x ∈ t, (R x.2.1 ∧ ∃ nv, σ x.2.1 = some (.inr (6, [.int x.1, nv, .ref x.2.2.1]))) ∧ hv σ R x.2.2.1 (.inl (.int, 13, .inl x.2.2.2))
  | [], _, _, x, hx => by cases hx
  | y :: t, v, h, x, hx => by
    obtain ⟨nv, h1, h2, h3, h4⟩ := h
    rcases List.mem_cons.mp hx with rfl | hx
    · exact ⟨⟨h2.1, nv, h2.2⟩, h3⟩
    · exact h4.cells x hx
theorem PgC.upn {σ : q_S} {R : Nat → Prop} {a : Nat} {e : q_E} : ∀ {t : List pgT} {v : Value}, PgC σ R v t → (∀ x ∈ t, x.2.1 ≠ a ∧ x.2.2.1 ≠ a) → PgC (q_up σ a e) R v t
  | [], _, h, _ => h
  | y :: t, v, h, hn => by
    obtain ⟨nv, h1, h2, h3, h4⟩ := h
    have hy := hn y List.mem_cons_self
    exact ⟨nv, h1, ⟨h2.1, by rw [q_up_n hy.1]; exact h2.2⟩, ⟨h3.1, by rw [q_up_n hy.2]; exact h3.2⟩, h4.upn (fun x hx => hn x (List.mem_cons_of_mem _ hx))⟩
theorem PgC.up {σ : q_S} {R : Nat → Prop} {v : Value} {t : List pgT} {a : Nat} {e e0 : q_E} (h : PgC σ R v t) (ha : σ a = some e0) (h6 : ∀ fs, e0 ≠ .inr (6, fs)) (h13 : ∀ f, e0 ≠ .inl (.int, 13, .inl f)) : PgC (q_up σ a e) R v t :=
  h.upn (fun x hx => by
    obtain ⟨⟨-, nv, g1⟩, g2⟩ := h.cells x hx
    refine ⟨fun e9 => ?_, fun e9 => ?_⟩
    · rw [e9, ha] at g1
      exact h6 _ (Option.some.inj g1)
    · have g3 := g2.2
      rw [e9, ha] at g3
      exact h13 _ (Option.some.inj g3))
def rm_X8_addPledge : Room := { frames := 2, cells := 0, slots := 0, locals := 43 }
def k_X8_addPledge_20 (post : Option Value → q_S → Prop) (K : Nat → q_K) : q_K := (c_vret post)
def k_X8_addPledge_0 (post : Option Value → q_S → Prop) (K : Nat → q_K) : q_K := (c_iload 1 (c_iload 2 (c_call2 none s_X8_canPledge 0 0 (c_ifeq (k_X8_addPledge_20 post K) (c_aload 0 (c_get 8 1 (c_iload 1 (c_aald (c_iload 2 (c_dup2 (c_iald (c_iload 3 (c_iadd (c_iast (k_X8_addPledge_20 post K)))))))))))))))
set_option maxRecDepth 100000 in
theorem v_X8_addPledge_20 {p : Program} {l : Launch} {e : Env} {s : State} {m : MethodId} {args : Array Value} {below : List Frame} {meth : Method} {c : Code} {D : va_G} {A : Nat → Prop} {post : Option Value → q_S → Prop} {K : Nat → q_K} (C : q_C p s m args meth c cX8_addPledge 4 RX8 "addPledge" none A) (hK : ∀ h ∈ ([] : List Nat), q_V p l e rm_X8_addPledge s m args below meth c D A 4 (MQ below (q_Qc D A post) args s rm_X8_addPledge.cells rm_X8_addPledge.slots A) h (K h)) : q_V p l e rm_X8_addPledge s m args below meth c D A 4 (MQ below (q_Qc D A post) args s rm_X8_addPledge.cells rm_X8_addPledge.slots A) 20 (k_X8_addPledge_20 post K) := by
  unfold k_X8_addPledge_20
  exact q_vret C rfl (by decide +kernel : decode cX8_addPledge 20 = .ok (.return_, 1))
set_option maxRecDepth 100000 in
theorem v_X8_addPledge_0 {p : Program} {l : Launch} {e : Env} {s : State} {m : MethodId} {args : Array Value} {below : List Frame} {meth : Method} {c : Code} {D : va_G} {A : Nat → Prop} {post : Option Value → q_S → Prop} {K : Nat → q_K} (C : q_C p s m args meth c cX8_addPledge 4 RX8 "addPledge" none A) (hK : ∀ h ∈ ([] : List Nat), q_V p l e rm_X8_addPledge s m args below meth c D A 4 (MQ below (q_Qc D A post) args s rm_X8_addPledge.cells rm_X8_addPledge.slots A) h (K h)) : q_V p l e rm_X8_addPledge s m args below meth c D A 4 (MQ below (q_Qc D A post) args s rm_X8_addPledge.cells rm_X8_addPledge.slots A) 0 (k_X8_addPledge_0 post K) := by
  unfold k_X8_addPledge_0
  refine q_iload_n C (by decide +kernel : decode cX8_addPledge 0 = .ok (.iload_n 1, 1)) ?_
  refine q_iload_n C (by decide +kernel : decode cX8_addPledge 1 = .ok (.iload_n 2, 1)) ?_
  refine q_call2 C (q_coS C (np := 2) (t_X8_canPledge l) w9_182 w9_185 w9_184 w9_183 (by decide +kernel) (by decide +kernel : decode cX8_addPledge 2 = .ok (.invokestatic 50, 3)) (by decide)) ?_
  refine q_ifeq C (tgt := 20) (by decide +kernel : decode cX8_addPledge 5 = .ok (.ifCond .eq 15, 3)) (by decide) ?_ ?_
  · exact v_X8_addPledge_20 C hK
  · refine q_aload_n C (by decide +kernel : decode cX8_addPledge 8 = .ok (.aload_n 0, 1)) ?_
    refine q_get C (ci := 8) (j := 1) (C0 := RX8) (T := TX8) (N := 2) rfl iX8 giX8 (by decide) w9_186 (by decide +kernel : decode cX8_addPledge 9 = .ok (.getfield 26, 3)) ?_
    refine q_iload_n C (by decide +kernel : decode cX8_addPledge 12 = .ok (.iload_n 1, 1)) ?_
    refine q_aald C (by decide +kernel : decode cX8_addPledge 13 = .ok (.aaload, 1)) ?_
    refine q_iload_n C (by decide +kernel : decode cX8_addPledge 14 = .ok (.iload_n 2, 1)) ?_
    refine q_dup2 C (by decide +kernel : decode cX8_addPledge 15 = .ok (.dup2, 1)) ?_
    refine q_iald C (by decide +kernel : decode cX8_addPledge 16 = .ok (.iaload, 1)) ?_
    refine q_iload_n C (by decide +kernel : decode cX8_addPledge 17 = .ok (.iload_n 3, 1)) ?_
    refine q_iadd C (by decide +kernel : decode cX8_addPledge 18 = .ok (.iadd, 1)) ?_
    refine q_iast C (by decide +kernel : decode cX8_addPledge 19 = .ok (.iastore, 1)) ?_
    exact v_X8_addPledge_20 C hK
theorem u_X8_addPledge (l : Launch) {sp : q_Sp} (H : ∀ (av : List Value) (σ : q_S) (post : Option Value → q_S → Prop), sp av σ post → k_X8_addPledge_0 post (fun _ _ _ _ _ _ => False) (q_L0 av 4) [] σ 0 0 ∧ av.length ≤ 4 ∧ ∀ v ∈ av, v.category = 1) : q_Ct l yX8_addPledge cX8_addPledge 4 none rm_X8_addPledge sp := by
  refine q_met (by decide) ?_
  intro D A p e s m args below meth c σ av post C hsp
  obtain ⟨h1, h2, h3⟩ := H av σ post hsp
  exact ⟨_, v_X8_addPledge_0 (K := fun _ _ _ _ _ _ => False) C (fun h hh => by cases hh), h1, h2, h3⟩
theorem t_X8_addPledge (l : Launch) : q_Ct l yX8_addPledge cX8_addPledge 4 none rm_X8_addPledge s_X8_addPledge := u_X8_addPledge l (by
  intro av σ post h
  unfold s_X8_addPledge at h
  split at h
  · next s p q n =>
    refine ⟨?_, by simp, by simp [Value.category]⟩
    obtain ⟨R, M, pgs, ⟨v, pl, h1, h2, ⟨pr, g1, g2, g3⟩, h6⟩, c, h7⟩ := h
    have hp : p.toNatClampNeg < 12 := clamp_lt 12 c.1.1 (by grind)
    have hq : q.toNatClampNeg < 12 := clamp_lt 12 c.2.1 (by grind)
    obtain ⟨f, g4, g5⟩ := g2 _ hp
    have g12 := g1.2
    simp only [c_push, c_null, c_iload, c_aload, c_istore, c_astore, c_iinc, c_iadd, c_isub, c_imul, c_iand, c_ineg, c_dup, c_dup2, c_pop, c_ifnull, c_ifnonnull, c_get, c_put, c_iald, c_zald, c_iast, c_zast, c_aald, c_aast, c_alen, c_new, c_newa, c_newq, c_mna, c_oinit, c_max, c_copy, c_iret, c_zret, c_aret, c_vret, q_do, q_rc, c_ifeq, c_ifne, c_iflt, c_ifge, c_ifgt, c_ifle, c_iceq, c_icne, c_iclt, c_icge, c_icgt, c_icle, c_call0, c_call1, c_call2, c_call3, c_call4, c_call5, c_call6, c_call7, q_L0, List.map_cons, List.map_nil, List.replicate, List.cons_append, List.nil_append, List.append_nil, List.length_cons, List.length_nil, List.length_set, Nat.reduceSub, Nat.reduceAdd, Nat.reduceLT, Nat.reduceLeDiff, Nat.zero_add, Nat.add_zero, Nat.sub_zero, Nat.sub_self, List.getElem?_cons_zero, List.getElem?_cons_succ, List.set_cons_zero, List.set_cons_succ, Option.toList_some, Option.toList_none, List.sum_cons, List.sum_nil, true_and, and_true, true_or, or_true, Nat.le_refl, Nat.zero_le, Value.category, Fin.isValue, Fin.val_zero, Fin.val_one, Fin.val_two, Fin.reduceFinMk, q_10, q_01, not_false_eq_true, not_true_eq_false, forall_const, true_implies, false_implies, implies_true, q_ni, q_fi, q_nb0, q_nb1, q_fb0, q_fb1, q_nor, q_nar, q_for, q_far, q_non, q_nan, q_fon, q_fan, imp_false, false_and, and_false, and_self, false_or, or_false, va_rf, refKind, k_X8_addPledge_0, k_X8_addPledge_20, q_fld, q_fset, q_oc, q_ai, q_aq, q_len, q_up_s, q_up_up, if_true, h1.2, s_X8_canPledge, g12, rkA, vpi12, if_pos hp, g4.2]
    refine ⟨fun _ => ⟨by grind, by grind, by grind, ?_⟩, fun c2 => absurd c c2⟩
    refine h7 _ ⟨v, pl, ⟨h1.1, ?_⟩, ?_, ?_, h6⟩ (q_fm.up g4.1)
    · rw [q_up_n (ne_ao g4.2 h1.2).symm]; exact h1.2
    · exact h2.up g4.2 (fun fs e => by cases e) (fun f e => by cases e)
    · rw [← g5 _ hq]
      exact PlP.set g1 g2 g3 hp g4.2 _
  · exact h.elim)
def s_X8_dropPledge : q_Sp := fun av σ post => match av with
  | [.ref s, .int p, .int q] => ∃ R M pgs, ShC σ R s M pgs ∧ in11 p q ∧ ∀ σ', ShC σ' R s (M2 M p.toNatClampNeg q.toNatClampNeg 0) pgs → q_fm σ R σ' R → post (some (.int (M p.toNatClampNeg q.toNatClampNeg))) σ'
  | _ => False
theorem w9_199 : (.code yX8_addPledge cX8_addPledge 4 none : Cond) ∈ lw_tbl := by decide +kernel
theorem w9_200 : (.methodLink RX8 58 yX8_addPledge : Cond) ∈ lw_tbl := by decide +kernel
theorem w9_201 : (.instanceMethod yX8_addPledge : Cond) ∈ lw_tbl := by decide +kernel
theorem w9_202 : (.selects RX8 yX8_addPledge yX8_addPledge : Cond) ∈ lw_tbl := by decide +kernel
def rm_X8_dropPledge : Room := { frames := 3, cells := 0, slots := 0, locals := 66 }
def k_X8_dropPledge_0 (post : Option Value → q_S → Prop) (K : Nat → q_K) : q_K := (c_aload 0 (c_iload 1 (c_iload 2 (c_call3 (some 8) s_X8_pledgedTo 0 0 (c_istore 3 (c_aload 0 (c_iload 1 (c_iload 2 (c_iload 3 (c_ineg (c_call4 (some 8) s_X8_addPledge 0 0 (c_iload 3 (c_iret post)))))))))))))
set_option maxRecDepth 100000 in
theorem v_X8_dropPledge_0 {p : Program} {l : Launch} {e : Env} {s : State} {m : MethodId} {args : Array Value} {below : List Frame} {meth : Method} {c : Code} {D : va_G} {A : Nat → Prop} {post : Option Value → q_S → Prop} {K : Nat → q_K} (C : q_C p s m args meth c cX8_dropPledge 4 RX8 "dropPledge" (some .int) A) (hK : ∀ h ∈ ([] : List Nat), q_V p l e rm_X8_dropPledge s m args below meth c D A 4 (MQ below (q_Qc D A post) args s rm_X8_dropPledge.cells rm_X8_dropPledge.slots A) h (K h)) : q_V p l e rm_X8_dropPledge s m args below meth c D A 4 (MQ below (q_Qc D A post) args s rm_X8_dropPledge.cells rm_X8_dropPledge.slots A) 0 (k_X8_dropPledge_0 post K) := by
  unfold k_X8_dropPledge_0
  refine q_aload_n C (by decide +kernel : decode cX8_dropPledge 0 = .ok (.aload_n 0, 1)) ?_
  refine q_iload_n C (by decide +kernel : decode cX8_dropPledge 1 = .ok (.iload_n 1, 1)) ?_
  refine q_iload_n C (by decide +kernel : decode cX8_dropPledge 2 = .ok (.iload_n 2, 1)) ?_
  refine q_call3 C (q_coV C (np := 2) (ci := 8) (rc := (RX8, TX8, 2)) (t_X8_pledgedTo l) w9_187 rfl rfl w9_188 w9_189 w9_190 w9_183 (by decide +kernel) (by decide +kernel : decode cX8_dropPledge 3 = .ok (.invokevirtual 46, 3)) (by decide)) ?_
  refine q_istore_n C (by decide +kernel : decode cX8_dropPledge 6 = .ok (.istore_n 3, 1)) ?_
  refine q_aload_n C (by decide +kernel : decode cX8_dropPledge 7 = .ok (.aload_n 0, 1)) ?_
  refine q_iload_n C (by decide +kernel : decode cX8_dropPledge 8 = .ok (.iload_n 1, 1)) ?_
  refine q_iload_n C (by decide +kernel : decode cX8_dropPledge 9 = .ok (.iload_n 2, 1)) ?_
  refine q_iload_n C (by decide +kernel : decode cX8_dropPledge 10 = .ok (.iload_n 3, 1)) ?_
  refine q_ineg C (by decide +kernel : decode cX8_dropPledge 11 = .ok (.ineg, 1)) ?_
  refine q_call4 C (q_coV C (np := 3) (ci := 8) (rc := (RX8, TX8, 2)) (t_X8_addPledge l) w9_199 rfl rfl w9_200 w9_201 w9_202 w9_183 (by decide +kernel) (by decide +kernel : decode cX8_dropPledge 12 = .ok (.invokevirtual 58, 3)) (by decide)) ?_
  refine q_iload_n C (by decide +kernel : decode cX8_dropPledge 15 = .ok (.iload_n 3, 1)) ?_
  exact q_iret C rfl (by decide +kernel : decode cX8_dropPledge 16 = .ok (.ireturn, 1))
theorem u_X8_dropPledge (l : Launch) {sp : q_Sp} (H : ∀ (av : List Value) (σ : q_S) (post : Option Value → q_S → Prop), sp av σ post → k_X8_dropPledge_0 post (fun _ _ _ _ _ _ => False) (q_L0 av 4) [] σ 0 0 ∧ av.length ≤ 4 ∧ ∀ v ∈ av, v.category = 1) : q_Ct l yX8_dropPledge cX8_dropPledge 4 (some .int) rm_X8_dropPledge sp := by
  refine q_met (by decide) ?_
  intro D A p e s m args below meth c σ av post C hsp
  obtain ⟨h1, h2, h3⟩ := H av σ post hsp
  exact ⟨_, v_X8_dropPledge_0 (K := fun _ _ _ _ _ _ => False) C (fun h hh => by cases hh), h1, h2, h3⟩
theorem t_X8_dropPledge (l : Launch) : q_Ct l yX8_dropPledge cX8_dropPledge 4 (some .int) rm_X8_dropPledge s_X8_dropPledge := u_X8_dropPledge l (by
  intro av σ post h
  unfold s_X8_dropPledge at h
  split at h
  · next s p q =>
    refine ⟨?_, by simp, by simp [Value.category]⟩
    obtain ⟨R, M, pgs, hS, c, h7⟩ := h
    have hoc : q_oc σ s = some 8 := by obtain ⟨v, pl, h1, -⟩ := hS; simp only [q_oc, h1.2]
    simp only [c_push, c_null, c_iload, c_aload, c_istore, c_astore, c_iinc, c_iadd, c_isub, c_imul, c_iand, c_ineg, c_dup, c_dup2, c_pop, c_ifnull, c_ifnonnull, c_get, c_put, c_iald, c_zald, c_iast, c_zast, c_aald, c_aast, c_alen, c_new, c_newa, c_newq, c_mna, c_oinit, c_max, c_copy, c_iret, c_zret, c_aret, c_vret, q_do, q_rc, c_ifeq, c_ifne, c_iflt, c_ifge, c_ifgt, c_ifle, c_iceq, c_icne, c_iclt, c_icge, c_icgt, c_icle, c_call0, c_call1, c_call2, c_call3, c_call4, c_call5, c_call6, c_call7, q_L0, List.map_cons, List.map_nil, List.replicate, List.cons_append, List.nil_append, List.append_nil, List.length_cons, List.length_nil, List.length_set, Nat.reduceSub, Nat.reduceAdd, Nat.reduceLT, Nat.reduceLeDiff, Nat.zero_add, Nat.add_zero, Nat.sub_zero, Nat.sub_self, List.getElem?_cons_zero, List.getElem?_cons_succ, List.set_cons_zero, List.set_cons_succ, Option.toList_some, Option.toList_none, List.sum_cons, List.sum_nil, true_and, and_true, true_or, or_true, Nat.le_refl, Nat.zero_le, Value.category, Fin.isValue, Fin.val_zero, Fin.val_one, Fin.val_two, Fin.reduceFinMk, q_10, q_01, not_false_eq_true, not_true_eq_false, forall_const, true_implies, false_implies, implies_true, q_ni, q_fi, q_nb0, q_nb1, q_fb0, q_fb1, q_nor, q_nar, q_for, q_far, q_non, q_nan, q_fon, q_fan, imp_false, false_and, and_false, and_self, false_or, or_false, va_rf, refKind, k_X8_dropPledge_0, hoc]
    refine ⟨R, M, pgs, hS, fun _ => ?_, fun c2 => absurd c c2⟩
    simp only [c_push, c_null, c_iload, c_aload, c_istore, c_astore, c_iinc, c_iadd, c_isub, c_imul, c_iand, c_ineg, c_dup, c_dup2, c_pop, c_ifnull, c_ifnonnull, c_get, c_put, c_iald, c_zald, c_iast, c_zast, c_aald, c_aast, c_alen, c_new, c_newa, c_newq, c_mna, c_oinit, c_max, c_copy, c_iret, c_zret, c_aret, c_vret, q_do, q_rc, c_ifeq, c_ifne, c_iflt, c_ifge, c_ifgt, c_ifle, c_iceq, c_icne, c_iclt, c_icge, c_icgt, c_icle, c_call0, c_call1, c_call2, c_call3, c_call4, c_call5, c_call6, c_call7, q_L0, List.map_cons, List.map_nil, List.replicate, List.cons_append, List.nil_append, List.append_nil, List.length_cons, List.length_nil, List.length_set, Nat.reduceSub, Nat.reduceAdd, Nat.reduceLT, Nat.reduceLeDiff, Nat.zero_add, Nat.add_zero, Nat.sub_zero, Nat.sub_self, List.getElem?_cons_zero, List.getElem?_cons_succ, List.set_cons_zero, List.set_cons_succ, Option.toList_some, Option.toList_none, List.sum_cons, List.sum_nil, true_and, and_true, true_or, or_true, Nat.le_refl, Nat.zero_le, Value.category, Fin.isValue, Fin.val_zero, Fin.val_one, Fin.val_two, Fin.reduceFinMk, q_10, q_01, not_false_eq_true, not_true_eq_false, forall_const, true_implies, false_implies, implies_true, q_ni, q_fi, q_nb0, q_nb1, q_fb0, q_fb1, q_nor, q_nar, q_for, q_far, q_non, q_nan, q_fon, q_fan, imp_false, false_and, and_false, and_self, false_or, or_false, va_rf, refKind, hoc]
    refine ⟨R, M, pgs, hS, c, fun σ' hS' hf => ?_⟩
    simp only [c_push, c_null, c_iload, c_aload, c_istore, c_astore, c_iinc, c_iadd, c_isub, c_imul, c_iand, c_ineg, c_dup, c_dup2, c_pop, c_ifnull, c_ifnonnull, c_get, c_put, c_iald, c_zald, c_iast, c_zast, c_aald, c_aast, c_alen, c_new, c_newa, c_newq, c_mna, c_oinit, c_max, c_copy, c_iret, c_zret, c_aret, c_vret, q_do, q_rc, c_ifeq, c_ifne, c_iflt, c_ifge, c_ifgt, c_ifle, c_iceq, c_icne, c_iclt, c_icge, c_icgt, c_icle, c_call0, c_call1, c_call2, c_call3, c_call4, c_call5, c_call6, c_call7, q_L0, List.map_cons, List.map_nil, List.replicate, List.cons_append, List.nil_append, List.append_nil, List.length_cons, List.length_nil, List.length_set, Nat.reduceSub, Nat.reduceAdd, Nat.reduceLT, Nat.reduceLeDiff, Nat.zero_add, Nat.add_zero, Nat.sub_zero, Nat.sub_self, List.getElem?_cons_zero, List.getElem?_cons_succ, List.set_cons_zero, List.set_cons_succ, Option.toList_some, Option.toList_none, List.sum_cons, List.sum_nil, true_and, and_true, true_or, or_true, Nat.le_refl, Nat.zero_le, Value.category, Fin.isValue, Fin.val_zero, Fin.val_one, Fin.val_two, Fin.reduceFinMk, q_10, q_01, not_false_eq_true, not_true_eq_false, forall_const, true_implies, false_implies, implies_true, q_ni, q_fi, q_nb0, q_nb1, q_fb0, q_fb1, q_nor, q_nar, q_for, q_far, q_non, q_nan, q_fon, q_fan, imp_false, false_and, and_false, and_self, false_or, or_false, va_rf, refKind]
    have e : M p.toNatClampNeg q.toNatClampNeg + -M p.toNatClampNeg q.toNatClampNeg = 0 := by grind
    rw [e] at hS'
    exact h7 σ' hS' hf
  · exact h.elim)
def s_X8_move : q_Sp := fun av σ post => match av with
  | [.ref s, .int a, .int b, .int n, .int td] => ∃ R M x t, ShC σ R s M (x :: t) ∧ ∀ σ' R' x', x'.1 = (if x.1 < td then td else x.1) → (∀ i, i < 13 → x'.2.2.2 i = chF (chF x.2.2.2 a (-n)) b n i) → ShC σ' R' s M (if x.1 < td then x' :: x :: t else x' :: t) → q_fm σ R σ' R' → post none σ'
  | _ => False
theorem ShC.hd {σ : q_S} {R : Nat → Prop} {s : Nat} {M : Nat → Nat → Int32} {x : pgT} {t : List pgT} (h : ShC σ R s M (x :: t)) (f : Nat → Int32) : ShC (q_up σ x.2.2.1 (.inl (.int, 13, .inl f))) R s M ((x.1, x.2.1, x.2.2.1, f) :: t) ∧ R x.2.2.1 := by
  obtain ⟨v, pl, h1, ⟨nv, hv1, h2, h3, h4⟩, ⟨pr, g1, g2, g3⟩, h6⟩ := h
  have h60 := h6
  rw [List.map_cons, List.nodup_cons] at h6
  refine ⟨⟨v, pl, ⟨h1.1, ?_⟩, ⟨nv, hv1, ⟨h2.1, ?_⟩, ⟨h3.1, q_up_s⟩, h4.upn (fun y hy => ?_)⟩, ⟨pr, ⟨g1.1, ?_⟩, fun p hp => ?_, g3⟩, h60⟩, h3.1⟩
  · rw [q_up_n (ne_ao h3.2 h1.2).symm]; exact h1.2
  · rw [q_up_n (ne_ao h3.2 h2.2).symm]; exact h2.2
  · obtain ⟨⟨-, nv2, k1⟩, k2⟩ := h4.cells y hy
    exact ⟨(ne_ao h3.2 k1).symm, fun e => h6.1 (by rw [← e]; exact List.mem_map.mpr ⟨y, hy, rfl⟩)⟩
  · rw [q_up_n]; exact g1.2
    intro e; have := g1.2; rw [e, h3.2] at this; cases this
  · obtain ⟨f2, k1, k2⟩ := g2 p hp
    refine ⟨f2, ⟨k1.1, ?_⟩, k2⟩
    rw [q_up_n]; exact k1.2
    intro e; have := k1.2; rw [e, h3.2] at this; cases this
theorem ShC.fr {σ σ' : q_S} {R R' : Nat → Prop} {s : Nat} {M : Nat → Nat → Int32} {t : List pgT} (h : ShC σ R s M t) (hm : ∀ a e, R a → σ a = some e → R' a ∧ σ' a = some e) : ShC σ' R' s M t := by
  obtain ⟨v, pl, h1, h2, ⟨pr, g1, g2, g3⟩, h6⟩ := h
  refine ⟨v, pl, hm _ _ h1.1 h1.2, h2.mono (fun a e ha he x hx _ => hm a e ha he), ⟨pr, hm _ _ g1.1 g1.2, fun p hp => ?_, g3⟩, h6⟩
  obtain ⟨f2, k1, k2⟩ := g2 p hp
  exact ⟨f2, hm _ _ k1.1 k1.2, k2⟩
theorem chF_cong {f f2 : Nat → Int32} (h : ∀ i, i < 13 → f i = f2 i) (p n : Int32) : ∀ i, i < 13 → chF f p n i = chF f2 p n i := by
  intro i hi
  unfold chF
  split
  · next c =>
    unfold upd
    split
    · rw [h _ (clamp_lt 13 c.1 c.2)]
    · exact h i hi
  · exact h i hi
