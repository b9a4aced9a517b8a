theorem q_up_up {σ : q_S} {a : Nat} {e e2 : q_E} : q_up (q_up σ a e) a e2 = q_up σ a e2 := by
  funext b
  unfold q_up
  split <;> rfl
-- Person
def s_X7_init : q_Sp := fun av σ post => match av with
  | [.ref a] => σ a = some (.inr (7, [.int 0, .int 0, .int 0])) ∧ post none (q_up σ a (.inr (7, [.int (-1), .int (-1), .int (-1)])))
  | _ => False
theorem w9_116 : (.methodLink RX7 3 objectInit : Cond) ∈ lw_tbl := by decide +kernel
theorem w9_117 : (.fieldLink RX7 9 (TX7 0).1 (TX7 0).2.1 (TX7 0).2.2.1 : Cond) ∈ lw_tbl := by decide +kernel
theorem w9_118 : (.fieldLink RX7 15 (TX7 1).1 (TX7 1).2.1 (TX7 1).2.2.1 : Cond) ∈ lw_tbl := by decide +kernel
theorem w9_119 : (.fieldLink RX7 18 (TX7 2).1 (TX7 2).2.1 (TX7 2).2.2.1 : Cond) ∈ lw_tbl := by decide +kernel
def rm_X7_init : Room := { frames := 1, cells := 0, slots := 0, locals := 20 }
def k_X7_init_0 (post : Option Value → q_S → Prop) (K : Nat → q_K) : q_K := (c_aload 0 (c_oinit (c_aload 0 (c_push (-1) (c_put 7 0 (.int) (c_aload 0 (c_push (-1) (c_put 7 1 (.int) (c_aload 0 (c_push (-1) (c_put 7 2 (.int) (c_vret post))))))))))))
set_option maxRecDepth 100000 in
theorem v_X7_init_0 {p : Program} {l : Launch} {e : Env} {s : State} {m : MethodId} {args : Array Value} {below : List Frame} {meth : Method} {c : Code} {D : va_G} {A : Nat → Prop} {post : Option Value → q_S → Prop} {K : Nat → q_K} (C : q_C p s m args meth c cX7_init 1 RX7 "<init>" none A) (hK : ∀ h ∈ ([] : List Nat), q_V p l e rm_X7_init s m args below meth c D A 1 (MQ below (q_Qc D A post) args s rm_X7_init.cells rm_X7_init.slots A) h (K h)) : q_V p l e rm_X7_init s m args below meth c D A 1 (MQ below (q_Qc D A post) args s rm_X7_init.cells rm_X7_init.slots A) 0 (k_X7_init_0 post K) := by
  unfold k_X7_init_0
  refine q_aload_n C (by decide +kernel : decode cX7_init 0 = .ok (.aload_n 0, 1)) ?_
  refine q_oinit C w9_116 w9_112 w9_113 (by decide) (by decide +kernel : decode cX7_init 1 = .ok (.invokespecial 3, 3)) ?_
  refine q_aload_n C (by decide +kernel : decode cX7_init 4 = .ok (.aload_n 0, 1)) ?_
  refine q_iconst C (by decide +kernel : decode cX7_init 5 = .ok (.iconst (-1), 1)) (by decide) ?_
  refine q_put C (ci := 7) (j := 0) (C0 := RX7) (T := TX7) (N := 3) (ty := .int) rfl iX7 giX7 (by decide) tyX7 tyX7_ok nmX7 (by decide +kernel) rfl w9_117 (by decide +kernel : decode cX7_init 6 = .ok (.putfield 9, 3)) ?_
  refine q_aload_n C (by decide +kernel : decode cX7_init 9 = .ok (.aload_n 0, 1)) ?_
  refine q_iconst C (by decide +kernel : decode cX7_init 10 = .ok (.iconst (-1), 1)) (by decide) ?_
  refine q_put C (ci := 7) (j := 1) (C0 := RX7) (T := TX7) (N := 3) (ty := .int) rfl iX7 giX7 (by decide) tyX7 tyX7_ok nmX7 (by decide +kernel) rfl w9_118 (by decide +kernel : decode cX7_init 11 = .ok (.putfield 15, 3)) ?_
  refine q_aload_n C (by decide +kernel : decode cX7_init 14 = .ok (.aload_n 0, 1)) ?_
  refine q_iconst C (by decide +kernel : decode cX7_init 15 = .ok (.iconst (-1), 1)) (by decide) ?_
  refine q_put C (ci := 7) (j := 2) (C0 := RX7) (T := TX7) (N := 3) (ty := .int) rfl iX7 giX7 (by decide) tyX7 tyX7_ok nmX7 (by decide +kernel) rfl w9_119 (by decide +kernel : decode cX7_init 16 = .ok (.putfield 18, 3)) ?_
  exact q_vret C rfl (by decide +kernel : decode cX7_init 19 = .ok (.return_, 1))
theorem u_X7_init (l : Launch) {sp : q_Sp} (H : ∀ (av : List Value) (σ : q_S) (post : Option Value → q_S → Prop), sp av σ post → k_X7_init_0 post (fun _ _ _ _ _ _ => False) (q_L0 av 1) [] σ 0 0 ∧ av.length ≤ 1 ∧ ∀ v ∈ av, v.category = 1) : q_Ct l yX7_init cX7_init 1 none rm_X7_init sp := by
  refine q_met (by decide) ?_
  intro D A p e s m args below meth c σ av post C hsp
  obtain ⟨h1, h2, h3⟩ := H av σ post hsp
  exact ⟨_, v_X7_init_0 (K := fun _ _ _ _ _ _ => False) C (fun h hh => by cases hh), h1, h2, h3⟩
theorem t_X7_init (l : Launch) : q_Ct l yX7_init cX7_init 1 none rm_X7_init s_X7_init := u_X7_init l (by
  intro av σ post h
  unfold s_X7_init at h
  split at h
  · next a =>
    refine ⟨?_, by simp, by simp [Value.category]⟩
    simp only [c_push, c_null, c_iload, c_aload, c_istore, c_astore, c_iinc, c_iadd, c_isub, c_imul, c_iand, c_ineg, c_dup, c_dup2, c_pop, c_ifnull, c_ifnonnull, c_get, c_put, c_iald, c_zald, c_iast, c_zast, c_aald, c_aast, c_alen, c_new, c_newa, c_newq, c_mna, c_oinit, c_max, c_copy, c_iret, c_zret, c_aret, c_vret, q_do, q_rc, c_ifeq, c_ifne, c_iflt, c_ifge, c_ifgt, c_ifle, c_iceq, c_icne, c_iclt, c_icge, c_icgt, c_icle, c_call0, c_call1, c_call2, c_call3, c_call4, c_call5, c_call6, c_call7, q_L0, List.map_cons, List.map_nil, List.replicate, List.cons_append, List.nil_append, List.append_nil, List.length_cons, List.length_nil, List.length_set, Nat.reduceSub, Nat.reduceAdd, Nat.reduceLT, Nat.reduceLeDiff, Nat.zero_add, Nat.add_zero, Nat.sub_zero, Nat.sub_self, List.getElem?_cons_zero, List.getElem?_cons_succ, List.set_cons_zero, List.set_cons_succ, Option.toList_some, Option.toList_none, List.sum_cons, List.sum_nil, true_and, and_true, true_or, or_true, Nat.le_refl, Nat.zero_le, Value.category, Fin.isValue, Fin.val_zero, Fin.val_one, Fin.val_two, Fin.reduceFinMk, q_10, q_01, not_false_eq_true, not_true_eq_false, forall_const, true_implies, false_implies, implies_true, q_ni, q_fi, q_nb0, q_nb1, q_fb0, q_fb1, q_nor, q_nar, q_for, q_far, q_non, q_nan, q_fon, q_fan, imp_false, false_and, and_false, and_self, false_or, or_false, va_rf, refKind, k_X7_init_0, q_fld, q_fset, q_oc, h.1, q_up_s, q_up_up, if_true]
    exact h.2
  · exact h.elim)
def s_X7_tellDead : q_Sp := fun av σ post => match av with
  | [.ref a, .int d, .int k] => (match σ a with
    | some (.inr (7, [x, _, _])) => post none (q_up σ a (.inr (7, [x, .int d, .int k])))
    | _ => False)
  | _ => False
def rm_X7_tellDead : Room := { frames := 0, cells := 0, slots := 0, locals := 0 }
def k_X7_tellDead_0 (post : Option Value → q_S → Prop) (K : Nat → q_K) : q_K := (c_aload 0 (c_iload 1 (c_put 7 1 (.int) (c_aload 0 (c_iload 2 (c_put 7 2 (.int) (c_vret post)))))))
set_option maxRecDepth 100000 in
theorem v_X7_tellDead_0 {p : Program} {l : Launch} {e : Env} {s : State} {m : MethodId} {args : Array Value} {below : List Frame} {meth : Method} {c : Code} {D : va_G} {A : Nat → Prop} {post : Option Value → q_S → Prop} {K : Nat → q_K} (C : q_C p s m args meth c cX7_tellDead 3 RX7 "tellDead" none A) (hK : ∀ h ∈ ([] : List Nat), q_V p l e rm_X7_tellDead s m args below meth c D A 3 (MQ below (q_Qc D A post) args s rm_X7_tellDead.cells rm_X7_tellDead.slots A) h (K h)) : q_V p l e rm_X7_tellDead s m args below meth c D A 3 (MQ below (q_Qc D A post) args s rm_X7_tellDead.cells rm_X7_tellDead.slots A) 0 (k_X7_tellDead_0 post K) := by
  unfold k_X7_tellDead_0
  refine q_aload_n C (by decide +kernel : decode cX7_tellDead 0 = .ok (.aload_n 0, 1)) ?_
  refine q_iload_n C (by decide +kernel : decode cX7_tellDead 1 = .ok (.iload_n 1, 1)) ?_
  refine q_put C (ci := 7) (j := 1) (C0 := RX7) (T := TX7) (N := 3) (ty := .int) rfl iX7 giX7 (by decide) tyX7 tyX7_ok nmX7 (by decide +kernel) rfl w9_118 (by decide +kernel : decode cX7_tellDead 2 = .ok (.putfield 15, 3)) ?_
  refine q_aload_n C (by decide +kernel : decode cX7_tellDead 5 = .ok (.aload_n 0, 1)) ?_
  refine q_iload_n C (by decide +kernel : decode cX7_tellDead 6 = .ok (.iload_n 2, 1)) ?_
  refine q_put C (ci := 7) (j := 2) (C0 := RX7) (T := TX7) (N := 3) (ty := .int) rfl iX7 giX7 (by decide) tyX7 tyX7_ok nmX7 (by decide +kernel) rfl w9_119 (by decide +kernel : decode cX7_tellDead 7 = .ok (.putfield 18, 3)) ?_
  exact q_vret C rfl (by decide +kernel : decode cX7_tellDead 10 = .ok (.return_, 1))
theorem u_X7_tellDead (l : Launch) {sp : q_Sp} (H : ∀ (av : List Value) (σ : q_S) (post : Option Value → q_S → Prop), sp av σ post → k_X7_tellDead_0 post (fun _ _ _ _ _ _ => False) (q_L0 av 3) [] σ 0 0 ∧ av.length ≤ 3 ∧ ∀ v ∈ av, v.category = 1) : q_Ct l yX7_tellDead cX7_tellDead 3 none rm_X7_tellDead sp := by
  refine q_met (by decide) ?_
  intro D A p e s m args below meth c σ av post C hsp
  obtain ⟨h1, h2, h3⟩ := H av σ post hsp
  exact ⟨_, v_X7_tellDead_0 (K := fun _ _ _ _ _ _ => False) C (fun h hh => by cases hh), h1, h2, h3⟩
theorem t_X7_tellDead (l : Launch) : q_Ct l yX7_tellDead cX7_tellDead 3 none rm_X7_tellDead s_X7_tellDead := u_X7_tellDead l (by
  intro av σ post h
  unfold s_X7_tellDead at h
  split at h
  · split at h
    · next e =>
      refine ⟨?_, by simp, by simp [Value.category]⟩
      simp only [c_push, c_null, c_iload, c_aload, c_istore, c_astore, c_iinc, c_iadd, c_isub, c_imul, c_iand, c_ineg, c_dup, c_dup2, c_pop, c_ifnull, c_ifnonnull, c_get, c_put, c_iald, c_zald, c_iast, c_zast, c_aald, c_aast, c_alen, c_new, c_newa, c_newq, c_mna, c_oinit, c_max, c_copy, c_iret, c_zret, c_aret, c_vret, q_do, q_rc, c_ifeq, c_ifne, c_iflt, c_ifge, c_ifgt, c_ifle, c_iceq, c_icne, c_iclt, c_icge, c_icgt, c_icle, c_call0, c_call1, c_call2, c_call3, c_call4, c_call5, c_call6, c_call7, q_L0, List.map_cons, List.map_nil, List.replicate, List.cons_append, List.nil_append, List.append_nil, List.length_cons, List.length_nil, List.length_set, Nat.reduceSub, Nat.reduceAdd, Nat.reduceLT, Nat.reduceLeDiff, Nat.zero_add, Nat.add_zero, Nat.sub_zero, Nat.sub_self, List.getElem?_cons_zero, List.getElem?_cons_succ, List.set_cons_zero, List.set_cons_succ, Option.toList_some, Option.toList_none, List.sum_cons, List.sum_nil, true_and, and_true, true_or, or_true, Nat.le_refl, Nat.zero_le, Value.category, Fin.isValue, Fin.val_zero, Fin.val_one, Fin.val_two, Fin.reduceFinMk, q_10, q_01, not_false_eq_true, not_true_eq_false, forall_const, true_implies, false_implies, implies_true, q_ni, q_fi, q_nb0, q_nb1, q_fb0, q_fb1, q_nor, q_nar, q_for, q_far, q_non, q_nan, q_fon, q_fan, imp_false, false_and, and_false, and_self, false_or, or_false, va_rf, refKind, k_X7_tellDead_0, q_fld, q_fset, q_oc, e, q_up_s, q_up_up, if_true]
      exact h
    · exact h.elim
  · exact h.elim)
def s_X7_isToldDead : q_Sp := fun av σ post => match av with
  | [.ref a] => (match σ a with
    | some (.inr (7, [_, .int d, _])) => (d = -1 → post (some (.int 0)) σ) ∧ (¬ d = -1 → post (some (.int 1)) σ)
    | _ => False)
  | _ => False
def rm_X7_isToldDead : Room := { frames := 0, cells := 0, slots := 0, locals := 0 }
def k_X7_isToldDead_13 (post : Option Value → q_S → Prop) (K : Nat → q_K) : q_K := (c_zret post)
def k_X7_isToldDead_0 (post : Option Value → q_S → Prop) (K : Nat → q_K) : q_K := (c_aload 0 (c_get 7 1 (c_push (-1) (c_iceq (c_push 0 (k_X7_isToldDead_13 post K)) (c_push 1 (k_X7_isToldDead_13 post K))))))
set_option maxRecDepth 100000 in
theorem v_X7_isToldDead_13 {p : Program} {l : Launch} {e : Env} {s : State} {m : MethodId} {args : Array Value} {below : List Frame} {meth : Method} {c : Code} {D : va_G} {A : Nat → Prop} {post : Option Value → q_S → Prop} {K : Nat → q_K} (C : q_C p s m args meth c cX7_isToldDead 1 RX7 "isToldDead" (some .boolean) A) (hK : ∀ h ∈ ([] : List Nat), q_V p l e rm_X7_isToldDead s m args below meth c D A 1 (MQ below (q_Qc D A post) args s rm_X7_isToldDead.cells rm_X7_isToldDead.slots A) h (K h)) : q_V p l e rm_X7_isToldDead s m args below meth c D A 1 (MQ below (q_Qc D A post) args s rm_X7_isToldDead.cells rm_X7_isToldDead.slots A) 13 (k_X7_isToldDead_13 post K) := by
  unfold k_X7_isToldDead_13
  exact q_zret C rfl (by decide +kernel : decode cX7_isToldDead 13 = .ok (.ireturn, 1))
set_option maxRecDepth 100000 in
theorem v_X7_isToldDead_0 {p : Program} {l : Launch} {e : Env} {s : State} {m : MethodId} {args : Array Value} {below : List Frame} {meth : Method} {c : Code} {D : va_G} {A : Nat → Prop} {post : Option Value → q_S → Prop} {K : Nat → q_K} (C : q_C p s m args meth c cX7_isToldDead 1 RX7 "isToldDead" (some .boolean) A) (hK : ∀ h ∈ ([] : List Nat), q_V p l e rm_X7_isToldDead s m args below meth c D A 1 (MQ below (q_Qc D A post) args s rm_X7_isToldDead.cells rm_X7_isToldDead.slots A) h (K h)) : q_V p l e rm_X7_isToldDead s m args below meth c D A 1 (MQ below (q_Qc D A post) args s rm_X7_isToldDead.cells rm_X7_isToldDead.slots A) 0 (k_X7_isToldDead_0 post K) := by
  unfold k_X7_isToldDead_0
  refine q_aload_n C (by decide +kernel : decode cX7_isToldDead 0 = .ok (.aload_n 0, 1)) ?_
  refine q_get C (ci := 7) (j := 1) (C0 := RX7) (T := TX7) (N := 3) rfl iX7 giX7 (by decide) w9_118 (by decide +kernel : decode cX7_isToldDead 1 = .ok (.getfield 15, 3)) ?_
  refine q_iconst C (by decide +kernel : decode cX7_isToldDead 4 = .ok (.iconst (-1), 1)) (by decide) ?_
  refine q_iceq C (tgt := 12) (by decide +kernel : decode cX7_isToldDead 5 = .ok (.if_icmp .eq 7, 3)) (by decide) ?_ ?_
  · refine q_iconst C (by decide +kernel : decode cX7_isToldDead 12 = .ok (.iconst 0, 1)) (by decide) ?_
    exact v_X7_isToldDead_13 C hK
  · refine q_iconst C (by decide +kernel : decode cX7_isToldDead 8 = .ok (.iconst 1, 1)) (by decide) ?_
    refine q_goto C (tgt := 13) (by decide +kernel : decode cX7_isToldDead 9 = .ok (.goto 4, 3)) (by decide) ?_
    exact v_X7_isToldDead_13 C hK
theorem u_X7_isToldDead (l : Launch) {sp : q_Sp} (H : ∀ (av : List Value) (σ : q_S) (post : Option Value → q_S → Prop), sp av σ post → k_X7_isToldDead_0 post (fun _ _ _ _ _ _ => False) (q_L0 av 1) [] σ 0 0 ∧ av.length ≤ 1 ∧ ∀ v ∈ av, v.category = 1) : q_Ct l yX7_isToldDead cX7_isToldDead 1 (some .boolean) rm_X7_isToldDead sp := by
  refine q_met (by decide) ?_
  intro D A p e s m args below meth c σ av post C hsp
  obtain ⟨h1, h2, h3⟩ := H av σ post hsp
  exact ⟨_, v_X7_isToldDead_0 (K := fun _ _ _ _ _ _ => False) C (fun h hh => by cases hh), h1, h2, h3⟩
theorem t_X7_isToldDead (l : Launch) : q_Ct l yX7_isToldDead cX7_isToldDead 1 (some .boolean) rm_X7_isToldDead s_X7_isToldDead := u_X7_isToldDead l (by
  intro av σ post h
  unfold s_X7_isToldDead at h
  split at h
  · split at h
    · next e =>
      refine ⟨?_, by simp, by simp [Value.category]⟩
      simp only [c_push, c_null, c_iload, c_aload, c_istore, c_astore, c_iinc, c_iadd, c_isub, c_imul, c_iand, c_ineg, c_dup, c_dup2, c_pop, c_ifnull, c_ifnonnull, c_get, c_put, c_iald, c_zald, c_iast, c_zast, c_aald, c_aast, c_alen, c_new, c_newa, c_newq, c_mna, c_oinit, c_max, c_copy, c_iret, c_zret, c_aret, c_vret, q_do, q_rc, c_ifeq, c_ifne, c_iflt, c_ifge, c_ifgt, c_ifle, c_iceq, c_icne, c_iclt, c_icge, c_icgt, c_icle, c_call0, c_call1, c_call2, c_call3, c_call4, c_call5, c_call6, c_call7, q_L0, List.map_cons, List.map_nil, List.replicate, List.cons_append, List.nil_append, List.append_nil, List.length_cons, List.length_nil, List.length_set, Nat.reduceSub, Nat.reduceAdd, Nat.reduceLT, Nat.reduceLeDiff, Nat.zero_add, Nat.add_zero, Nat.sub_zero, Nat.sub_self, List.getElem?_cons_zero, List.getElem?_cons_succ, List.set_cons_zero, List.set_cons_succ, Option.toList_some, Option.toList_none, List.sum_cons, List.sum_nil, true_and, and_true, true_or, or_true, Nat.le_refl, Nat.zero_le, Value.category, Fin.isValue, Fin.val_zero, Fin.val_one, Fin.val_two, Fin.reduceFinMk, q_10, q_01, not_false_eq_true, not_true_eq_false, forall_const, true_implies, false_implies, implies_true, q_ni, q_fi, q_nb0, q_nb1, q_fb0, q_fb1, q_nor, q_nar, q_for, q_far, q_non, q_nan, q_fon, q_fan, imp_false, false_and, and_false, and_self, false_or, or_false, va_rf, refKind, k_X7_isToldDead_0, k_X7_isToldDead_13, q_fld, q_fset, q_oc, e, q_up_s, q_up_up, if_true]
      grind
    · exact h.elim
  · exact h.elim)
def s_X7_isDeathKnownAt : q_Sp := fun av σ post => match av with
  | [.ref a, .int k] => (match σ a with
    | some (.inr (7, [_, .int d, .int lr])) => (¬ d = -1 ∧ lr ≤ k → post (some (.int 1)) σ) ∧ (¬ (¬ d = -1 ∧ lr ≤ k) → post (some (.int 0)) σ)
    | _ => False)
  | _ => False
theorem w9_120 : (.code yX7_isToldDead cX7_isToldDead 1 (some .boolean) : Cond) ∈ lw_tbl := by decide +kernel
theorem w9_121 : (.initialized RX7 : Cond) ∈ lw_tbl := by decide +kernel
theorem w9_122 : (.methodLink RX7 21 yX7_isToldDead : Cond) ∈ lw_tbl := by decide +kernel
theorem w9_123 : (.instanceMethod yX7_isToldDead : Cond) ∈ lw_tbl := by decide +kernel
theorem w9_124 : (.selects RX7 yX7_isToldDead yX7_isToldDead : Cond) ∈ lw_tbl := by decide +kernel
def rm_X7_isDeathKnownAt : Room := { frames := 1, cells := 0, slots := 0, locals := 20 }
def k_X7_isDeathKnownAt_20 (post : Option Value → q_S → Prop) (K : Nat → q_K) : q_K := (c_zret post)
def k_X7_isDeathKnownAt_19 (post : Option Value → q_S → Prop) (K : Nat → q_K) : q_K := (c_push 0 (k_X7_isDeathKnownAt_20 post K))
def k_X7_isDeathKnownAt_0 (post : Option Value → q_S → Prop) (K : Nat → q_K) : q_K := (c_aload 0 (c_call1 (some 7) s_X7_isToldDead 0 0 (c_ifeq (k_X7_isDeathKnownAt_19 post K) (c_aload 0 (c_get 7 2 (c_iload 1 (c_icgt (k_X7_isDeathKnownAt_19 post K) (c_push 1 (k_X7_isDeathKnownAt_20 post K)))))))))
set_option maxRecDepth 100000 in
theorem v_X7_isDeathKnownAt_20 {p : Program} {l : Launch} {e : Env} {s : State} {m : MethodId} {args : Array Value} {below : List Frame} {meth : Method} {c : Code} {D : va_G} {A : Nat → Prop} {post : Option Value → q_S → Prop} {K : Nat → q_K} (C : q_C p s m args meth c cX7_isDeathKnownAt 2 RX7 "isDeathKnownAt" (some .boolean) A) (hK : ∀ h ∈ ([] : List Nat), q_V p l e rm_X7_isDeathKnownAt s m args below meth c D A 2 (MQ below (q_Qc D A post) args s rm_X7_isDeathKnownAt.cells rm_X7_isDeathKnownAt.slots A) h (K h)) : q_V p l e rm_X7_isDeathKnownAt s m args below meth c D A 2 (MQ below (q_Qc D A post) args s rm_X7_isDeathKnownAt.cells rm_X7_isDeathKnownAt.slots A) 20 (k_X7_isDeathKnownAt_20 post K) := by
  unfold k_X7_isDeathKnownAt_20
  exact q_zret C rfl (by decide +kernel : decode cX7_isDeathKnownAt 20 = .ok (.ireturn, 1))
set_option maxRecDepth 100000 in
theorem v_X7_isDeathKnownAt_19 {p : Program} {l : Launch} {e : Env} {s : State} {m : MethodId} {args : Array Value} {below : List Frame} {meth : Method} {c : Code} {D : va_G} {A : Nat → Prop} {post : Option Value → q_S → Prop} {K : Nat → q_K} (C : q_C p s m args meth c cX7_isDeathKnownAt 2 RX7 "isDeathKnownAt" (some .boolean) A) (hK : ∀ h ∈ ([] : List Nat), q_V p l e rm_X7_isDeathKnownAt s m args below meth c D A 2 (MQ below (q_Qc D A post) args s rm_X7_isDeathKnownAt.cells rm_X7_isDeathKnownAt.slots A) h (K h)) : q_V p l e rm_X7_isDeathKnownAt s m args below meth c D A 2 (MQ below (q_Qc D A post) args s rm_X7_isDeathKnownAt.cells rm_X7_isDeathKnownAt.slots A) 19 (k_X7_isDeathKnownAt_19 post K) := by
  unfold k_X7_isDeathKnownAt_19
  refine q_iconst C (by decide +kernel : decode cX7_isDeathKnownAt 19 = .ok (.iconst 0, 1)) (by decide) ?_
  exact v_X7_isDeathKnownAt_20 C hK
set_option maxRecDepth 100000 in
theorem v_X7_isDeathKnownAt_0 {p : Program} {l : Launch} {e : Env} {s : State} {m : MethodId} {args : Array Value} {below : List Frame} {meth : Method} {c : Code} {D : va_G} {A : Nat → Prop} {post : Option Value → q_S → Prop} {K : Nat → q_K} (C : q_C p s m args meth c cX7_isDeathKnownAt 2 RX7 "isDeathKnownAt" (some .boolean) A) (hK : ∀ h ∈ ([] : List Nat), q_V p l e rm_X7_isDeathKnownAt s m args below meth c D A 2 (MQ below (q_Qc D A post) args s rm_X7_isDeathKnownAt.cells rm_X7_isDeathKnownAt.slots A) h (K h)) : q_V p l e rm_X7_isDeathKnownAt s m args below meth c D A 2 (MQ below (q_Qc D A post) args s rm_X7_isDeathKnownAt.cells rm_X7_isDeathKnownAt.slots A) 0 (k_X7_isDeathKnownAt_0 post K) := by
  unfold k_X7_isDeathKnownAt_0
  refine q_aload_n C (by decide +kernel : decode cX7_isDeathKnownAt 0 = .ok (.aload_n 0, 1)) ?_
  refine q_call1 C (q_coV C (np := 0) (ci := 7) (rc := (RX7, TX7, 3)) (t_X7_isToldDead l) w9_120 rfl rfl w9_122 w9_123 w9_124 w9_121 (by decide +kernel) (by decide +kernel : decode cX7_isDeathKnownAt 1 = .ok (.invokevirtual 21, 3)) (by decide)) ?_
  refine q_ifeq C (tgt := 19) (by decide +kernel : decode cX7_isDeathKnownAt 4 = .ok (.ifCond .eq 15, 3)) (by decide) ?_ ?_
  · exact v_X7_isDeathKnownAt_19 C hK
  · refine q_aload_n C (by decide +kernel : decode cX7_isDeathKnownAt 7 = .ok (.aload_n 0, 1)) ?_
    refine q_get C (ci := 7) (j := 2) (C0 := RX7) (T := TX7) (N := 3) rfl iX7 giX7 (by decide) w9_119 (by decide +kernel : decode cX7_isDeathKnownAt 8 = .ok (.getfield 18, 3)) ?_
    refine q_iload_n C (by decide +kernel : decode cX7_isDeathKnownAt 11 = .ok (.iload_n 1, 1)) ?_
    refine q_icgt C (tgt := 19) (by decide +kernel : decode cX7_isDeathKnownAt 12 = .ok (.if_icmp .gt 7, 3)) (by decide) ?_ ?_
    · exact v_X7_isDeathKnownAt_19 C hK
    · refine q_iconst C (by decide +kernel : decode cX7_isDeathKnownAt 15 = .ok (.iconst 1, 1)) (by decide) ?_
      refine q_goto C (tgt := 20) (by decide +kernel : decode cX7_isDeathKnownAt 16 = .ok (.goto 4, 3)) (by decide) ?_
      exact v_X7_isDeathKnownAt_20 C hK
theorem u_X7_isDeathKnownAt (l : Launch) {sp : q_Sp} (H : ∀ (av : List Value) (σ : q_S) (post : Option Value → q_S → Prop), sp av σ post → k_X7_isDeathKnownAt_0 post (fun _ _ _ _ _ _ => False) (q_L0 av 2) [] σ 0 0 ∧ av.length ≤ 2 ∧ ∀ v ∈ av, v.category = 1) : q_Ct l yX7_isDeathKnownAt cX7_isDeathKnownAt 2 (some .boolean) rm_X7_isDeathKnownAt sp := by
  refine q_met (by decide) ?_
  intro D A p e s m args below meth c σ av post C hsp
  obtain ⟨h1, h2, h3⟩ := H av σ post hsp
  exact ⟨_, v_X7_isDeathKnownAt_0 (K := fun _ _ _ _ _ _ => False) C (fun h hh => by cases hh), h1, h2, h3⟩
theorem t_X7_isDeathKnownAt (l : Launch) : q_Ct l yX7_isDeathKnownAt cX7_isDeathKnownAt 2 (some .boolean) rm_X7_isDeathKnownAt s_X7_isDeathKnownAt := u_X7_isDeathKnownAt l (by
  intro av σ post h
  unfold s_X7_isDeathKnownAt at h
  split at h
  · split at h
    · next e =>
      refine ⟨?_, by simp, by simp [Value.category]⟩
      simp only [c_push, c_null, c_iload, c_aload, c_istore, c_astore, c_iinc, c_iadd, c_isub, c_imul, c_iand, c_ineg, c_dup, c_dup2, c_pop, c_ifnull, c_ifnonnull, c_get, c_put, c_iald, c_zald, c_iast, c_zast, c_aald, c_aast, c_alen, c_new, c_newa, c_newq, c_mna, c_oinit, c_max, c_copy, c_iret, c_zret, c_aret, c_vret, q_do, q_rc, c_ifeq, c_ifne, c_iflt, c_ifge, c_ifgt, c_ifle, c_iceq, c_icne, c_iclt, c_icge, c_icgt, c_icle, c_call0, c_call1, c_call2, c_call3, c_call4, c_call5, c_call6, c_call7, q_L0, List.map_cons, List.map_nil, List.replicate, List.cons_append, List.nil_append, List.append_nil, List.length_cons, List.length_nil, List.length_set, Nat.reduceSub, Nat.reduceAdd, Nat.reduceLT, Nat.reduceLeDiff, Nat.zero_add, Nat.add_zero, Nat.sub_zero, Nat.sub_self, List.getElem?_cons_zero, List.getElem?_cons_succ, List.set_cons_zero, List.set_cons_succ, Option.toList_some, Option.toList_none, List.sum_cons, List.sum_nil, true_and, and_true, true_or, or_true, Nat.le_refl, Nat.zero_le, Value.category, Fin.isValue, Fin.val_zero, Fin.val_one, Fin.val_two, Fin.reduceFinMk, q_10, q_01, not_false_eq_true, not_true_eq_false, forall_const, true_implies, false_implies, implies_true, q_ni, q_fi, q_nb0, q_nb1, q_fb0, q_fb1, q_nor, q_nar, q_for, q_far, q_non, q_nan, q_fon, q_fan, imp_false, false_and, and_false, and_self, false_or, or_false, va_rf, refKind, k_X7_isDeathKnownAt_0, k_X7_isDeathKnownAt_19, k_X7_isDeathKnownAt_20, q_fld, q_fset, q_oc, e, q_up_s, q_up_up, if_true, s_X7_isToldDead]
      grind
    · exact h.elim
  · exact h.elim)
-- Act
def s_X0_init : q_Sp := fun av σ post => match av with
  | [.ref a, .int d, .int f, .int l, .int w, .int c] => σ a = some (.inr (0, [.int 0, .int 0, .int 0, .int 0, .int 0])) ∧ post none (q_up σ a (.inr (0, [.int d, .int f, .int l, .int w, .int c])))
  | _ => False
theorem w9_125 : (.methodLink RX0 3 objectInit : Cond) ∈ lw_tbl := by decide +kernel
theorem w9_126 : (.fieldLink RX0 9 (TX0 0).1 (TX0 0).2.1 (TX0 0).2.2.1 : Cond) ∈ lw_tbl := by decide +kernel
theorem w9_127 : (.fieldLink RX0 15 (TX0 1).1 (TX0 1).2.1 (TX0 1).2.2.1 : Cond) ∈ lw_tbl := by decide +kernel
theorem w9_128 : (.fieldLink RX0 18 (TX0 2).1 (TX0 2).2.1 (TX0 2).2.2.1 : Cond) ∈ lw_tbl := by decide +kernel
theorem w9_129 : (.fieldLink RX0 21 (TX0 3).1 (TX0 3).2.1 (TX0 3).2.2.1 : Cond) ∈ lw_tbl := by decide +kernel
theorem w9_130 : (.fieldLink RX0 24 (TX0 4).1 (TX0 4).2.1 (TX0 4).2.2.1 : Cond) ∈ lw_tbl := by decide +kernel
def rm_X0_init : Room := { frames := 1, cells := 0, slots := 0, locals := 20 }
def k_X0_init_0 (post : Option Value → q_S → Prop) (K : Nat → q_K) : q_K := (c_aload 0 (c_oinit (c_aload 0 (c_iload 1 (c_put 0 0 (.int) (c_aload 0 (c_iload 2 (c_put 0 1 (.int) (c_aload 0 (c_iload 3 (c_put 0 2 (.int) (c_aload 0 (c_iload 4 (c_put 0 3 (.int) (c_aload 0 (c_iload 5 (c_put 0 4 (.int) (c_vret post))))))))))))))))))
set_option maxRecDepth 100000 in
theorem v_X0_init_0 {p : Program} {l : Launch} {e : Env} {s : State} {m : MethodId} {args : Array Value} {below : List Frame} {meth : Method} {c : Code} {D : va_G} {A : Nat → Prop} {post : Option Value → q_S → Prop} {K : Nat → q_K} (C : q_C p s m args meth c cX0_init 6 RX0 "<init>" none A) (hK : ∀ h ∈ ([] : List Nat), q_V p l e rm_X0_init s m args below meth c D A 6 (MQ below (q_Qc D A post) args s rm_X0_init.cells rm_X0_init.slots A) h (K h)) : q_V p l e rm_X0_init s m args below meth c D A 6 (MQ below (q_Qc D A post) args s rm_X0_init.cells rm_X0_init.slots A) 0 (k_X0_init_0 post K) := by
  unfold k_X0_init_0
  refine q_aload_n C (by decide +kernel : decode cX0_init 0 = .ok (.aload_n 0, 1)) ?_
  refine q_oinit C w9_125 w9_112 w9_113 (by decide) (by decide +kernel : decode cX0_init 1 = .ok (.invokespecial 3, 3)) ?_
  refine q_aload_n C (by decide +kernel : decode cX0_init 4 = .ok (.aload_n 0, 1)) ?_
  refine q_iload_n C (by decide +kernel : decode cX0_init 5 = .ok (.iload_n 1, 1)) ?_
  refine q_putF C (ci := 0) (j := 0) (C0 := RX0) (T := TX0) (N := 5) (ty := .int) rfl iX0 giX0 (by decide) tyX0 tyX0_ok nmX0 (by decide +kernel) rfl rfl rfl w9_126 (by decide +kernel : decode cX0_init 6 = .ok (.putfield 9, 3)) ?_
  refine q_aload_n C (by decide +kernel : decode cX0_init 9 = .ok (.aload_n 0, 1)) ?_
  refine q_iload_n C (by decide +kernel : decode cX0_init 10 = .ok (.iload_n 2, 1)) ?_
  refine q_putF C (ci := 0) (j := 1) (C0 := RX0) (T := TX0) (N := 5) (ty := .int) rfl iX0 giX0 (by decide) tyX0 tyX0_ok nmX0 (by decide +kernel) rfl rfl rfl w9_127 (by decide +kernel : decode cX0_init 11 = .ok (.putfield 15, 3)) ?_
  refine q_aload_n C (by decide +kernel : decode cX0_init 14 = .ok (.aload_n 0, 1)) ?_
  refine q_iload_n C (by decide +kernel : decode cX0_init 15 = .ok (.iload_n 3, 1)) ?_
  refine q_putF C (ci := 0) (j := 2) (C0 := RX0) (T := TX0) (N := 5) (ty := .int) rfl iX0 giX0 (by decide) tyX0 tyX0_ok nmX0 (by decide +kernel) rfl rfl rfl w9_128 (by decide +kernel : decode cX0_init 16 = .ok (.putfield 18, 3)) ?_
  refine q_aload_n C (by decide +kernel : decode cX0_init 19 = .ok (.aload_n 0, 1)) ?_
  refine q_iload C (by decide +kernel : decode cX0_init 20 = .ok (.iload 4, 2)) ?_
  refine q_putF C (ci := 0) (j := 3) (C0 := RX0) (T := TX0) (N := 5) (ty := .int) rfl iX0 giX0 (by decide) tyX0 tyX0_ok nmX0 (by decide +kernel) rfl rfl rfl w9_129 (by decide +kernel : decode cX0_init 22 = .ok (.putfield 21, 3)) ?_
  refine q_aload_n C (by decide +kernel : decode cX0_init 25 = .ok (.aload_n 0, 1)) ?_
  refine q_iload C (by decide +kernel : decode cX0_init 26 = .ok (.iload 5, 2)) ?_
  refine q_putF C (ci := 0) (j := 4) (C0 := RX0) (T := TX0) (N := 5) (ty := .int) rfl iX0 giX0 (by decide) tyX0 tyX0_ok nmX0 (by decide +kernel) rfl rfl rfl w9_130 (by decide +kernel : decode cX0_init 28 = .ok (.putfield 24, 3)) ?_
  exact q_vret C rfl (by decide +kernel : decode cX0_init 31 = .ok (.return_, 1))
theorem u_X0_init (l : Launch) {sp : q_Sp} (H : ∀ (av : List Value) (σ : q_S) (post : Option Value → q_S → Prop), sp av σ post → k_X0_init_0 post (fun _ _ _ _ _ _ => False) (q_L0 av 6) [] σ 0 0 ∧ av.length ≤ 6 ∧ ∀ v ∈ av, v.category = 1) : q_Ct l yX0_init cX0_init 6 none rm_X0_init sp := by
  refine q_met (by decide) ?_
  intro D A p e s m args below meth c σ av post C hsp
  obtain ⟨h1, h2, h3⟩ := H av σ post hsp
  exact ⟨_, v_X0_init_0 (K := fun _ _ _ _ _ _ => False) C (fun h hh => by cases hh), h1, h2, h3⟩
theorem t_X0_init (l : Launch) : q_Ct l yX0_init cX0_init 6 none rm_X0_init s_X0_init := u_X0_init l (by
  intro av σ post h
  unfold s_X0_init at h
  split at h
  · next a =>
    refine ⟨?_, by simp, by simp [Value.category]⟩
    simp only [c_push, c_null, c_iload, c_aload, c_istore, c_astore, c_iinc, c_iadd, c_isub, c_imul, c_iand, c_ineg, c_dup, c_dup2, c_pop, c_ifnull, c_ifnonnull, c_get, c_put, c_iald, c_zald, c_iast, c_zast, c_aald, c_aast, c_alen, c_new, c_newa, c_newq, c_mna, c_oinit, c_max, c_copy, c_iret, c_zret, c_aret, c_vret, q_do, q_rc, c_ifeq, c_ifne, c_iflt, c_ifge, c_ifgt, c_ifle, c_iceq, c_icne, c_iclt, c_icge, c_icgt, c_icle, c_call0, c_call1, c_call2, c_call3, c_call4, c_call5, c_call6, c_call7, q_L0, List.map_cons, List.map_nil, List.replicate, List.cons_append, List.nil_append, List.append_nil, List.length_cons, List.length_nil, List.length_set, Nat.reduceSub, Nat.reduceAdd, Nat.reduceLT, Nat.reduceLeDiff, Nat.zero_add, Nat.add_zero, Nat.sub_zero, Nat.sub_self, List.getElem?_cons_zero, List.getElem?_cons_succ, List.set_cons_zero, List.set_cons_succ, Option.toList_some, Option.toList_none, List.sum_cons, List.sum_nil, true_and, and_true, true_or, or_true, Nat.le_refl, Nat.zero_le, Value.category, Fin.isValue, Fin.val_zero, Fin.val_one, Fin.val_two, Fin.reduceFinMk, q_10, q_01, not_false_eq_true, not_true_eq_false, forall_const, true_implies, false_implies, implies_true, q_ni, q_fi, q_nb0, q_nb1, q_fb0, q_fb1, q_nor, q_nar, q_for, q_far, q_non, q_nan, q_fon, q_fan, imp_false, false_and, and_false, and_self, false_or, or_false, va_rf, refKind, k_X0_init_0, q_fld, q_fset, q_oc, h.1, q_up_s, q_up_up, if_true]
    exact h.2
  · exact h.elim)
def cEnd (d f l ent dd lr k : Int32) : Int32 := if l = -1 then ent + f else if ¬ (¬ dd = -1 ∧ lr ≤ k) then 2147483647 else if ent + f < dd + l then dd + l else ent + f
def s_X0_endFor : q_Sp := fun av σ post => match av with
  | [.ref a, .ref w, .int k] => (match σ a with
    | some (.inr (0, [.int d, .int f, .int l, _, _])) => (match σ w with
      | some (.inr (9, [.ref p, .int ent, _, _, _])) => (match σ p with
        | some (.inr (7, [_, .int dd, .int lr])) => post (some (.int (cEnd d f l ent dd lr k))) σ
        | _ => False)
      | _ => False)
    | _ => False)
  | _ => False
theorem w9_131 : (.code yX7_isDeathKnownAt cX7_isDeathKnownAt 2 (some .boolean) : Cond) ∈ lw_tbl := by decide +kernel
theorem w9_132 : (.methodLink RX0 36 yX7_isDeathKnownAt : Cond) ∈ lw_tbl := by decide +kernel
theorem w9_133 : (.instanceMethod yX7_isDeathKnownAt : Cond) ∈ lw_tbl := by decide +kernel
theorem w9_134 : (.selects RX7 yX7_isDeathKnownAt yX7_isDeathKnownAt : Cond) ∈ lw_tbl := by decide +kernel
theorem w9_135 : (.methodLink RX0 46 Lib.Math.max.name : Cond) ∈ lw_tbl := by decide +kernel
theorem w9_136 : (.static Lib.Math.max.name : Cond) ∈ lw_tbl := by decide +kernel
theorem w9_137 : (.initialized "java/lang/Math" : Cond) ∈ lw_tbl := by decide +kernel
theorem w9_138 : (.code Lib.Math.max.name Lib.Math.max.code 2 (some .int) : Cond) ∈ lw_tbl := by decide +kernel
theorem w9_139 : (.constant RX0 42 2147483647 : Cond) ∈ lw_tbl := by decide +kernel
def rm_X0_endFor : Room := { frames := 2, cells := 0, slots := 0, locals := 41 }
def k_X0_endFor_0 (post : Option Value → q_S → Prop) (K : Nat → q_K) : q_K := (c_aload 1 (c_get 9 1 (c_aload 0 (c_get 0 1 (c_iadd (c_istore 3 (c_aload 0 (c_get 0 2 (c_push (-1) (c_icne (c_aload 1 (c_get 9 0 (c_iload 2 (c_call2 (some 7) s_X7_isDeathKnownAt 0 0 (c_ifne (c_iload 3 (c_aload 1 (c_get 9 0 (c_get 7 1 (c_aload 0 (c_get 0 2 (c_iadd (c_max (c_iret post))))))))) (c_push 2147483647 (c_iret post))))))) (c_iload 3 (c_iret post))))))))))))
set_option maxRecDepth 100000 in
theorem v_X0_endFor_0 {p : Program} {l : Launch} {e : Env} {s : State} {m : MethodId} {args : Array Value} {below : List Frame} {meth : Method} {c : Code} {D : va_G} {A : Nat → Prop} {post : Option Value → q_S → Prop} {K : Nat → q_K} (C : q_C p s m args meth c cX0_endFor 4 RX0 "endFor" (some .int) A) (hK : ∀ h ∈ ([] : List Nat), q_V p l e rm_X0_endFor s m args below meth c D A 4 (MQ below (q_Qc D A post) args s rm_X0_endFor.cells rm_X0_endFor.slots A) h (K h)) : q_V p l e rm_X0_endFor s m args below meth c D A 4 (MQ below (q_Qc D A post) args s rm_X0_endFor.cells rm_X0_endFor.slots A) 0 (k_X0_endFor_0 post K) := by
  unfold k_X0_endFor_0
  refine q_aload_n C (by decide +kernel : decode cX0_endFor 0 = .ok (.aload_n 1, 1)) ?_
  refine q_getN C (ci := 9) (j := 1) (C0 := RX9) (T := TX9) (N := 5) rfl iX9 giX9 (by decide) (by decide +kernel) (by decide +kernel : decode cX0_endFor 1 = .ok (.getfield 27, 3)) ?_
  refine q_aload_n C (by decide +kernel : decode cX0_endFor 4 = .ok (.aload_n 0, 1)) ?_
  refine q_get C (ci := 0) (j := 1) (C0 := RX0) (T := TX0) (N := 5) rfl iX0 giX0 (by decide) w9_127 (by decide +kernel : decode cX0_endFor 5 = .ok (.getfield 15, 3)) ?_
  refine q_iadd C (by decide +kernel : decode cX0_endFor 8 = .ok (.iadd, 1)) ?_
  refine q_istore_n C (by decide +kernel : decode cX0_endFor 9 = .ok (.istore_n 3, 1)) ?_
  refine q_aload_n C (by decide +kernel : decode cX0_endFor 10 = .ok (.aload_n 0, 1)) ?_
  refine q_get C (ci := 0) (j := 2) (C0 := RX0) (T := TX0) (N := 5) rfl iX0 giX0 (by decide) w9_128 (by decide +kernel : decode cX0_endFor 11 = .ok (.getfield 18, 3)) ?_
  refine q_iconst C (by decide +kernel : decode cX0_endFor 14 = .ok (.iconst (-1), 1)) (by decide) ?_
  refine q_icne C (tgt := 20) (by decide +kernel : decode cX0_endFor 15 = .ok (.if_icmp .ne 5, 3)) (by decide) ?_ ?_
  · refine q_aload_n C (by decide +kernel : decode cX0_endFor 20 = .ok (.aload_n 1, 1)) ?_
    refine q_getN C (ci := 9) (j := 0) (C0 := RX9) (T := TX9) (N := 5) rfl iX9 giX9 (by decide) (by decide +kernel) (by decide +kernel : decode cX0_endFor 21 = .ok (.getfield 32, 3)) ?_
    refine q_iload_n C (by decide +kernel : decode cX0_endFor 24 = .ok (.iload_n 2, 1)) ?_
    refine q_call2 C (q_coV C (np := 1) (ci := 7) (rc := (RX7, TX7, 3)) (t_X7_isDeathKnownAt l) w9_131 rfl rfl w9_132 w9_133 w9_134 w9_121 (by decide +kernel) (by decide +kernel : decode cX0_endFor 25 = .ok (.invokevirtual 36, 3)) (by decide)) ?_
    refine q_ifne C (tgt := 34) (by decide +kernel : decode cX0_endFor 28 = .ok (.ifCond .ne 6, 3)) (by decide) ?_ ?_
    · refine q_iload_n C (by decide +kernel : decode cX0_endFor 34 = .ok (.iload_n 3, 1)) ?_
      refine q_aload_n C (by decide +kernel : decode cX0_endFor 35 = .ok (.aload_n 1, 1)) ?_
      refine q_getN C (ci := 9) (j := 0) (C0 := RX9) (T := TX9) (N := 5) rfl iX9 giX9 (by decide) (by decide +kernel) (by decide +kernel : decode cX0_endFor 36 = .ok (.getfield 32, 3)) ?_
      refine q_getN C (ci := 7) (j := 1) (C0 := RX7) (T := TX7) (N := 3) rfl iX7 giX7 (by decide) (by decide +kernel) (by decide +kernel : decode cX0_endFor 39 = .ok (.getfield 43, 3)) ?_
      refine q_aload_n C (by decide +kernel : decode cX0_endFor 42 = .ok (.aload_n 0, 1)) ?_
      refine q_get C (ci := 0) (j := 2) (C0 := RX0) (T := TX0) (N := 5) rfl iX0 giX0 (by decide) w9_128 (by decide +kernel : decode cX0_endFor 43 = .ok (.getfield 18, 3)) ?_
      refine q_iadd C (by decide +kernel : decode cX0_endFor 46 = .ok (.iadd, 1)) ?_
      refine q_max C w9_135 w9_136 w9_137 w9_138 (by decide) (by decide +kernel : decode cX0_endFor 47 = .ok (.invokestatic 46, 3)) ?_
      exact q_iret C rfl (by decide +kernel : decode cX0_endFor 50 = .ok (.ireturn, 1))
    · refine q_ldc C (by decide +kernel : decode cX0_endFor 31 = .ok (.ldc 42, 2)) w9_139 ?_
      exact q_iret C rfl (by decide +kernel : decode cX0_endFor 33 = .ok (.ireturn, 1))
  · refine q_iload_n C (by decide +kernel : decode cX0_endFor 18 = .ok (.iload_n 3, 1)) ?_
    exact q_iret C rfl (by decide +kernel : decode cX0_endFor 19 = .ok (.ireturn, 1))
theorem u_X0_endFor (l : Launch) {sp : q_Sp} (H : ∀ (av : List Value) (σ : q_S) (post : Option Value → q_S → Prop), sp av σ post → k_X0_endFor_0 post (fun _ _ _ _ _ _ => False) (q_L0 av 4) [] σ 0 0 ∧ av.length ≤ 4 ∧ ∀ v ∈ av, v.category = 1) : q_Ct l yX0_endFor cX0_endFor 4 (some .int) rm_X0_endFor sp := by
  refine q_met (by decide) ?_
  intro D A p e s m args below meth c σ av post C hsp
  obtain ⟨h1, h2, h3⟩ := H av σ post hsp
  exact ⟨_, v_X0_endFor_0 (K := fun _ _ _ _ _ _ => False) C (fun h hh => by cases hh), h1, h2, h3⟩
theorem t_X0_endFor (l : Launch) : q_Ct l yX0_endFor cX0_endFor 4 (some .int) rm_X0_endFor s_X0_endFor := u_X0_endFor l (by
  intro av σ post h
  unfold s_X0_endFor at h
  split at h
  · split at h
    · next e =>
      split at h
      · next e2 =>
        split at h
        · next e3 =>
          refine ⟨?_, by simp, by simp [Value.category]⟩
          simp only [c_push, c_null, c_iload, c_aload, c_istore, c_astore, c_iinc, c_iadd, c_isub, c_imul, c_iand, c_ineg, c_dup, c_dup2, c_pop, c_ifnull, c_ifnonnull, c_get, c_put, c_iald, c_zald, c_iast, c_zast, c_aald, c_aast, c_alen, c_new, c_newa, c_newq, c_mna, c_oinit, c_max, c_copy, c_iret, c_zret, c_aret, c_vret, q_do, q_rc, c_ifeq, c_ifne, c_iflt, c_ifge, c_ifgt, c_ifle, c_iceq, c_icne, c_iclt, c_icge, c_icgt, c_icle, c_call0, c_call1, c_call2, c_call3, c_call4, c_call5, c_call6, c_call7, q_L0, List.map_cons, List.map_nil, List.replicate, List.cons_append, List.nil_append, List.append_nil, List.length_cons, List.length_nil, List.length_set, Nat.reduceSub, Nat.reduceAdd, Nat.reduceLT, Nat.reduceLeDiff, Nat.zero_add, Nat.add_zero, Nat.sub_zero, Nat.sub_self, List.getElem?_cons_zero, List.getElem?_cons_succ, List.set_cons_zero, List.set_cons_succ, Option.toList_some, Option.toList_none, List.sum_cons, List.sum_nil, true_and, and_true, true_or, or_true, Nat.le_refl, Nat.zero_le, Value.category, Fin.isValue, Fin.val_zero, Fin.val_one, Fin.val_two, Fin.reduceFinMk, q_10, q_01, not_false_eq_true, not_true_eq_false, forall_const, true_implies, false_implies, implies_true, q_ni, q_fi, q_nb0, q_nb1, q_fb0, q_fb1, q_nor, q_nar, q_for, q_far, q_non, q_nan, q_fon, q_fan, imp_false, false_and, and_false, and_self, false_or, or_false, va_rf, refKind, k_X0_endFor_0, q_fld, q_fset, q_oc, e, e2, e3, if_true, s_X7_isDeathKnownAt]
          unfold cEnd at h
          grind
        · exact h.elim
      · exact h.elim
    · exact h.elim
  · exact h.elim)
def s_X0_comesLaterTo : q_Sp := fun av σ post => match av with
  | [.ref a, .ref w, .int k] => (match σ a with
    | some (.inr (0, [.int d, _, _, _, _])) => (match σ w with
      | some (.inr (9, [_, .int ent, _, _, _])) => (ent < d ∧ d ≤ k → post (some (.int 1)) σ) ∧ (¬ (ent < d ∧ d ≤ k) → post (some (.int 0)) σ)
      | _ => False)
    | _ => False)
  | _ => False
def rm_X0_comesLaterTo : Room := { frames := 0, cells := 0, slots := 0, locals := 0 }
def k_X0_comesLaterTo_24 (post : Option Value → q_S → Prop) (K : Nat → q_K) : q_K := (c_zret post)
def k_X0_comesLaterTo_23 (post : Option Value → q_S → Prop) (K : Nat → q_K) : q_K := (c_push 0 (k_X0_comesLaterTo_24 post K))
def k_X0_comesLaterTo_0 (post : Option Value → q_S → Prop) (K : Nat → q_K) : q_K := (c_aload 0 (c_get 0 0 (c_aload 1 (c_get 9 1 (c_icle (k_X0_comesLaterTo_23 post K) (c_aload 0 (c_get 0 0 (c_iload 2 (c_icgt (k_X0_comesLaterTo_23 post K) (c_push 1 (k_X0_comesLaterTo_24 post K)))))))))))
set_option maxRecDepth 100000 in
theorem v_X0_comesLaterTo_24 {p : Program} {l : Launch} {e : Env} {s : State} {m : MethodId} {args : Array Value} {below : List Frame} {meth : Method} {c : Code} {D : va_G} {A : Nat → Prop} {post : Option Value → q_S → Prop} {K : Nat → q_K} (C : q_C p s m args meth c cX0_comesLaterTo 3 RX0 "comesLaterTo" (some .boolean) A) (hK : ∀ h ∈ ([] : List Nat), q_V p l e rm_X0_comesLaterTo s m args below meth c D A 3 (MQ below (q_Qc D A post) args s rm_X0_comesLaterTo.cells rm_X0_comesLaterTo.slots A) h (K h)) : q_V p l e rm_X0_comesLaterTo s m args below meth c D A 3 (MQ below (q_Qc D A post) args s rm_X0_comesLaterTo.cells rm_X0_comesLaterTo.slots A) 24 (k_X0_comesLaterTo_24 post K) := by
  unfold k_X0_comesLaterTo_24
  exact q_zret C rfl (by decide +kernel : decode cX0_comesLaterTo 24 = .ok (.ireturn, 1))
set_option maxRecDepth 100000 in
theorem v_X0_comesLaterTo_23 {p : Program} {l : Launch} {e : Env} {s : State} {m : MethodId} {args : Array Value} {below : List Frame} {meth : Method} {c : Code} {D : va_G} {A : Nat → Prop} {post : Option Value → q_S → Prop} {K : Nat → q_K} (C : q_C p s m args meth c cX0_comesLaterTo 3 RX0 "comesLaterTo" (some .boolean) A) (hK : ∀ h ∈ ([] : List Nat), q_V p l e rm_X0_comesLaterTo s m args below meth c D A 3 (MQ below (q_Qc D A post) args s rm_X0_comesLaterTo.cells rm_X0_comesLaterTo.slots A) h (K h)) : q_V p l e rm_X0_comesLaterTo s m args below meth c D A 3 (MQ below (q_Qc D A post) args s rm_X0_comesLaterTo.cells rm_X0_comesLaterTo.slots A) 23 (k_X0_comesLaterTo_23 post K) := by
  unfold k_X0_comesLaterTo_23
  refine q_iconst C (by decide +kernel : decode cX0_comesLaterTo 23 = .ok (.iconst 0, 1)) (by decide) ?_
  exact v_X0_comesLaterTo_24 C hK
set_option maxRecDepth 100000 in
theorem v_X0_comesLaterTo_0 {p : Program} {l : Launch} {e : Env} {s : State} {m : MethodId} {args : Array Value} {below : List Frame} {meth : Method} {c : Code} {D : va_G} {A : Nat → Prop} {post : Option Value → q_S → Prop} {K : Nat → q_K} (C : q_C p s m args meth c cX0_comesLaterTo 3 RX0 "comesLaterTo" (some .boolean) A) (hK : ∀ h ∈ ([] : List Nat), q_V p l e rm_X0_comesLaterTo s m args below meth c D A 3 (MQ below (q_Qc D A post) args s rm_X0_comesLaterTo.cells rm_X0_comesLaterTo.slots A) h (K h)) : q_V p l e rm_X0_comesLaterTo s m args below meth c D A 3 (MQ below (q_Qc D A post) args s rm_X0_comesLaterTo.cells rm_X0_comesLaterTo.slots A) 0 (k_X0_comesLaterTo_0 post K) := by
  unfold k_X0_comesLaterTo_0
  refine q_aload_n C (by decide +kernel : decode cX0_comesLaterTo 0 = .ok (.aload_n 0, 1)) ?_
  refine q_get C (ci := 0) (j := 0) (C0 := RX0) (T := TX0) (N := 5) rfl iX0 giX0 (by decide) w9_126 (by decide +kernel : decode cX0_comesLaterTo 1 = .ok (.getfield 9, 3)) ?_
  refine q_aload_n C (by decide +kernel : decode cX0_comesLaterTo 4 = .ok (.aload_n 1, 1)) ?_
  refine q_getN C (ci := 9) (j := 1) (C0 := RX9) (T := TX9) (N := 5) rfl iX9 giX9 (by decide) (by decide +kernel) (by decide +kernel : decode cX0_comesLaterTo 5 = .ok (.getfield 27, 3)) ?_
  refine q_icle C (tgt := 23) (by decide +kernel : decode cX0_comesLaterTo 8 = .ok (.if_icmp .le 15, 3)) (by decide) ?_ ?_
  · exact v_X0_comesLaterTo_23 C hK
  · refine q_aload_n C (by decide +kernel : decode cX0_comesLaterTo 11 = .ok (.aload_n 0, 1)) ?_
    refine q_get C (ci := 0) (j := 0) (C0 := RX0) (T := TX0) (N := 5) rfl iX0 giX0 (by decide) w9_126 (by decide +kernel : decode cX0_comesLaterTo 12 = .ok (.getfield 9, 3)) ?_
    refine q_iload_n C (by decide +kernel : decode cX0_comesLaterTo 15 = .ok (.iload_n 2, 1)) ?_
    refine q_icgt C (tgt := 23) (by decide +kernel : decode cX0_comesLaterTo 16 = .ok (.if_icmp .gt 7, 3)) (by decide) ?_ ?_
    · exact v_X0_comesLaterTo_23 C hK
    · refine q_iconst C (by decide +kernel : decode cX0_comesLaterTo 19 = .ok (.iconst 1, 1)) (by decide) ?_
      refine q_goto C (tgt := 24) (by decide +kernel : decode cX0_comesLaterTo 20 = .ok (.goto 4, 3)) (by decide) ?_
      exact v_X0_comesLaterTo_24 C hK
theorem u_X0_comesLaterTo (l : Launch) {sp : q_Sp} (H : ∀ (av : List Value) (σ : q_S) (post : Option Value → q_S → Prop), sp av σ post → k_X0_comesLaterTo_0 post (fun _ _ _ _ _ _ => False) (q_L0 av 3) [] σ 0 0 ∧ av.length ≤ 3 ∧ ∀ v ∈ av, v.category = 1) : q_Ct l yX0_comesLaterTo cX0_comesLaterTo 3 (some .boolean) rm_X0_comesLaterTo sp := by
  refine q_met (by decide) ?_
  intro D A p e s m args below meth c σ av post C hsp
  obtain ⟨h1, h2, h3⟩ := H av σ post hsp
  exact ⟨_, v_X0_comesLaterTo_0 (K := fun _ _ _ _ _ _ => False) C (fun h hh => by cases hh), h1, h2, h3⟩
theorem t_X0_comesLaterTo (l : Launch) : q_Ct l yX0_comesLaterTo cX0_comesLaterTo 3 (some .boolean) rm_X0_comesLaterTo s_X0_comesLaterTo := u_X0_comesLaterTo l (by
  intro av σ post h
  unfold s_X0_comesLaterTo at h
  split at h
  · split at h
    · next e =>
      split at h
      · next e2 =>
        refine ⟨?_, by simp, by simp [Value.category]⟩
        simp only [c_push, c_null, c_iload, c_aload, c_istore, c_astore, c_iinc, c_iadd, c_isub, c_imul, c_iand, c_ineg, c_dup, c_dup2, c_pop, c_ifnull, c_ifnonnull, c_get, c_put, c_iald, c_zald, c_iast, c_zast, c_aald, c_aast, c_alen, c_new, c_newa, c_newq, c_mna, c_oinit, c_max, c_copy, c_iret, c_zret, c_aret, c_vret, q_do, q_rc, c_ifeq, c_ifne, c_iflt, c_ifge, c_ifgt, c_ifle, c_iceq, c_icne, c_iclt, c_icge, c_icgt, c_icle, c_call0, c_call1, c_call2, c_call3, c_call4, c_call5, c_call6, c_call7, q_L0, List.map_cons, List.map_nil, List.replicate, List.cons_append, List.nil_append, List.append_nil, List.length_cons, List.length_nil, List.length_set, Nat.reduceSub, Nat.reduceAdd, Nat.reduceLT, Nat.reduceLeDiff, Nat.zero_add, Nat.add_zero, Nat.sub_zero, Nat.sub_self, List.getElem?_cons_zero, List.getElem?_cons_succ, List.set_cons_zero, List.set_cons_succ, Option.toList_some, Option.toList_none, List.sum_cons, List.sum_nil, true_and, and_true, true_or, or_true, Nat.le_refl, Nat.zero_le, Value.category, Fin.isValue, Fin.val_zero, Fin.val_one, Fin.val_two, Fin.reduceFinMk, q_10, q_01, not_false_eq_true, not_true_eq_false, forall_const, true_implies, false_implies, implies_true, q_ni, q_fi, q_nb0, q_nb1, q_fb0, q_fb1, q_nor, q_nar, q_for, q_far, q_non, q_nan, q_fon, q_fan, imp_false, false_and, and_false, and_self, false_or, or_false, va_rf, refKind, k_X0_comesLaterTo_0, k_X0_comesLaterTo_23, k_X0_comesLaterTo_24, q_fld, q_fset, q_oc, e, e2, if_true]
        grind
      · exact h.elim
    · exact h.elim
  · exact h.elim)
def s_X0_changes : q_Sp := fun av σ post => match av with
  | [.ref a, .int x] => (match σ a with
    | some (.inr (0, [.int d, _, _, .int w, _])) => (w = 2 ∨ w = 1 ∧ d ≤ x → post (some (.int 1)) σ) ∧ (¬ (w = 2 ∨ w = 1 ∧ d ≤ x) → post (some (.int 0)) σ)
    | _ => False)
  | _ => False
def rm_X0_changes : Room := { frames := 0, cells := 0, slots := 0, locals := 0 }
def k_X0_changes_29 (post : Option Value → q_S → Prop) (K : Nat → q_K) : q_K := (c_zret post)
def k_X0_changes_24 (post : Option Value → q_S → Prop) (K : Nat → q_K) : q_K := (c_push 1 (k_X0_changes_29 post K))
def k_X0_changes_28 (post : Option Value → q_S → Prop) (K : Nat → q_K) : q_K := (c_push 0 (k_X0_changes_29 post K))
def k_X0_changes_0 (post : Option Value → q_S → Prop) (K : Nat → q_K) : q_K := (c_aload 0 (c_get 0 3 (c_push 2 (c_iceq (k_X0_changes_24 post K) (c_aload 0 (c_get 0 3 (c_push 1 (c_icne (k_X0_changes_28 post K) (c_iload 1 (c_aload 0 (c_get 0 0 (c_iclt (k_X0_changes_28 post K) (k_X0_changes_24 post K)))))))))))))
set_option maxRecDepth 100000 in
theorem v_X0_changes_29 {p : Program} {l : Launch} {e : Env} {s : State} {m : MethodId} {args : Array Value} {below : List Frame} {meth : Method} {c : Code} {D : va_G} {A : Nat → Prop} {post : Option Value → q_S → Prop} {K : Nat → q_K} (C : q_C p s m args meth c cX0_changes 2 RX0 "changes" (some .boolean) A) (hK : ∀ h ∈ ([] : List Nat), q_V p l e rm_X0_changes s m args below meth c D A 2 (MQ below (q_Qc D A post) args s rm_X0_changes.cells rm_X0_changes.slots A) h (K h)) : q_V p l e rm_X0_changes s m args below meth c D A 2 (MQ below (q_Qc D A post) args s rm_X0_changes.cells rm_X0_changes.slots A) 29 (k_X0_changes_29 post K) := by
  unfold k_X0_changes_29
  exact q_zret C rfl (by decide +kernel : decode cX0_changes 29 = .ok (.ireturn, 1))
set_option maxRecDepth 100000 in
theorem v_X0_changes_24 {p : Program} {l : Launch} {e : Env} {s : State} {m : MethodId} {args : Array Value} {below : List Frame} {meth : Method} {c : Code} {D : va_G} {A : Nat → Prop} {post : Option Value → q_S → Prop} {K : Nat → q_K} (C : q_C p s m args meth c cX0_changes 2 RX0 "changes" (some .boolean) A) (hK : ∀ h ∈ ([] : List Nat), q_V p l e rm_X0_changes s m args below meth c D A 2 (MQ below (q_Qc D A post) args s rm_X0_changes.cells rm_X0_changes.slots A) h (K h)) : q_V p l e rm_X0_changes s m args below meth c D A 2 (MQ below (q_Qc D A post) args s rm_X0_changes.cells rm_X0_changes.slots A) 24 (k_X0_changes_24 post K) := by
  unfold k_X0_changes_24
  refine q_iconst C (by decide +kernel : decode cX0_changes 24 = .ok (.iconst 1, 1)) (by decide) ?_
  refine q_goto C (tgt := 29) (by decide +kernel : decode cX0_changes 25 = .ok (.goto 4, 3)) (by decide) ?_
  exact v_X0_changes_29 C hK
set_option maxRecDepth 100000 in
theorem v_X0_changes_28 {p : Program} {l : Launch} {e : Env} {s : State} {m : MethodId} {args : Array Value} {below : List Frame} {meth : Method} {c : Code} {D : va_G} {A : Nat → Prop} {post : Option Value → q_S → Prop} {K : Nat → q_K} (C : q_C p s m args meth c cX0_changes 2 RX0 "changes" (some .boolean) A) (hK : ∀ h ∈ ([] : List Nat), q_V p l e rm_X0_changes s m args below meth c D A 2 (MQ below (q_Qc D A post) args s rm_X0_changes.cells rm_X0_changes.slots A) h (K h)) : q_V p l e rm_X0_changes s m args below meth c D A 2 (MQ below (q_Qc D A post) args s rm_X0_changes.cells rm_X0_changes.slots A) 28 (k_X0_changes_28 post K) := by
  unfold k_X0_changes_28
  refine q_iconst C (by decide +kernel : decode cX0_changes 28 = .ok (.iconst 0, 1)) (by decide) ?_
  exact v_X0_changes_29 C hK
set_option maxRecDepth 100000 in
theorem v_X0_changes_0 {p : Program} {l : Launch} {e : Env} {s : State} {m : MethodId} {args : Array Value} {below : List Frame} {meth : Method} {c : Code} {D : va_G} {A : Nat → Prop} {post : Option Value → q_S → Prop} {K : Nat → q_K} (C : q_C p s m args meth c cX0_changes 2 RX0 "changes" (some .boolean) A) (hK : ∀ h ∈ ([] : List Nat), q_V p l e rm_X0_changes s m args below meth c D A 2 (MQ below (q_Qc D A post) args s rm_X0_changes.cells rm_X0_changes.slots A) h (K h)) : q_V p l e rm_X0_changes s m args below meth c D A 2 (MQ below (q_Qc D A post) args s rm_X0_changes.cells rm_X0_changes.slots A) 0 (k_X0_changes_0 post K) := by
  unfold k_X0_changes_0
  refine q_aload_n C (by decide +kernel : decode cX0_changes 0 = .ok (.aload_n 0, 1)) ?_
  refine q_get C (ci := 0) (j := 3) (C0 := RX0) (T := TX0) (N := 5) rfl iX0 giX0 (by decide) w9_129 (by decide +kernel : decode cX0_changes 1 = .ok (.getfield 21, 3)) ?_
  refine q_iconst C (by decide +kernel : decode cX0_changes 4 = .ok (.iconst 2, 1)) (by decide) ?_
  refine q_iceq C (tgt := 24) (by decide +kernel : decode cX0_changes 5 = .ok (.if_icmp .eq 19, 3)) (by decide) ?_ ?_
  · exact v_X0_changes_24 C hK
  · refine q_aload_n C (by decide +kernel : decode cX0_changes 8 = .ok (.aload_n 0, 1)) ?_
    refine q_get C (ci := 0) (j := 3) (C0 := RX0) (T := TX0) (N := 5) rfl iX0 giX0 (by decide) w9_129 (by decide +kernel : decode cX0_changes 9 = .ok (.getfield 21, 3)) ?_
    refine q_iconst C (by decide +kernel : decode cX0_changes 12 = .ok (.iconst 1, 1)) (by decide) ?_
    refine q_icne C (tgt := 28) (by decide +kernel : decode cX0_changes 13 = .ok (.if_icmp .ne 15, 3)) (by decide) ?_ ?_
    · exact v_X0_changes_28 C hK
    · refine q_iload_n C (by decide +kernel : decode cX0_changes 16 = .ok (.iload_n 1, 1)) ?_
      refine q_aload_n C (by decide +kernel : decode cX0_changes 17 = .ok (.aload_n 0, 1)) ?_
      refine q_get C (ci := 0) (j := 0) (C0 := RX0) (T := TX0) (N := 5) rfl iX0 giX0 (by decide) w9_126 (by decide +kernel : decode cX0_changes 18 = .ok (.getfield 9, 3)) ?_
      refine q_iclt C (tgt := 28) (by decide +kernel : decode cX0_changes 21 = .ok (.if_icmp .lt 7, 3)) (by decide) ?_ ?_
      · exact v_X0_changes_28 C hK
      · exact v_X0_changes_24 C hK
theorem u_X0_changes (l : Launch) {sp : q_Sp} (H : ∀ (av : List Value) (σ : q_S) (post : Option Value → q_S → Prop), sp av σ post → k_X0_changes_0 post (fun _ _ _ _ _ _ => False) (q_L0 av 2) [] σ 0 0 ∧ av.length ≤ 2 ∧ ∀ v ∈ av, v.category = 1) : q_Ct l yX0_changes cX0_changes 2 (some .boolean) rm_X0_changes sp := by
  refine q_met (by decide) ?_
  intro D A p e s m args below meth c σ av post C hsp
  obtain ⟨h1, h2, h3⟩ := H av σ post hsp
  exact ⟨_, v_X0_changes_0 (K := fun _ _ _ _ _ _ => False) C (fun h hh => by cases hh), h1, h2, h3⟩
theorem t_X0_changes (l : Launch) : q_Ct l yX0_changes cX0_changes 2 (some .boolean) rm_X0_changes s_X0_changes := u_X0_changes l (by
  intro av σ post h
  unfold s_X0_changes at h
  split at h
  · split at h
    · next e =>
      refine ⟨?_, by simp, by simp [Value.category]⟩
      simp only [c_push, c_null, c_iload, c_aload, c_istore, c_astore, c_iinc, c_iadd, c_isub, c_imul, c_iand, c_ineg, c_dup, c_dup2, c_pop, c_ifnull, c_ifnonnull, c_get, c_put, c_iald, c_zald, c_iast, c_zast, c_aald, c_aast, c_alen, c_new, c_newa, c_newq, c_mna, c_oinit, c_max, c_copy, c_iret, c_zret, c_aret, c_vret, q_do, q_rc, c_ifeq, c_ifne, c_iflt, c_ifge, c_ifgt, c_ifle, c_iceq, c_icne, c_iclt, c_icge, c_icgt, c_icle, c_call0, c_call1, c_call2, c_call3, c_call4, c_call5, c_call6, c_call7, q_L0, List.map_cons, List.map_nil, List.replicate, List.cons_append, List.nil_append, List.append_nil, List.length_cons, List.length_nil, List.length_set, Nat.reduceSub, Nat.reduceAdd, Nat.reduceLT, Nat.reduceLeDiff, Nat.zero_add, Nat.add_zero, Nat.sub_zero, Nat.sub_self, List.getElem?_cons_zero, List.getElem?_cons_succ, List.set_cons_zero, List.set_cons_succ, Option.toList_some, Option.toList_none, List.sum_cons, List.sum_nil, true_and, and_true, true_or, or_true, Nat.le_refl, Nat.zero_le, Value.category, Fin.isValue, Fin.val_zero, Fin.val_one, Fin.val_two, Fin.reduceFinMk, q_10, q_01, not_false_eq_true, not_true_eq_false, forall_const, true_implies, false_implies, implies_true, q_ni, q_fi, q_nb0, q_nb1, q_fb0, q_fb1, q_nor, q_nar, q_for, q_far, q_non, q_nan, q_fon, q_fan, imp_false, false_and, and_false, and_self, false_or, or_false, va_rf, refKind, k_X0_changes_0, k_X0_changes_24, k_X0_changes_28, k_X0_changes_29, q_fld, q_fset, q_oc, e, if_true]
      grind
    · exact h.elim
  · exact h.elim)
def s_X0_leavesFree : q_Sp := fun av σ post => match av with
  | [.ref a, .int t, .int x] => (match σ a with
    | some (.inr (0, [.int d, _, _, .int w, _])) => (w = 2 ∧ x < t ∧ t < d → post (some (.int 1)) σ) ∧ (¬ (w = 2 ∧ x < t ∧ t < d) → post (some (.int 0)) σ)
    | _ => False)
  | _ => False
def rm_X0_leavesFree : Room := { frames := 0, cells := 0, slots := 0, locals := 0 }
def k_X0_leavesFree_26 (post : Option Value → q_S → Prop) (K : Nat → q_K) : q_K := (c_zret post)
def k_X0_leavesFree_25 (post : Option Value → q_S → Prop) (K : Nat → q_K) : q_K := (c_push 0 (k_X0_leavesFree_26 post K))
def k_X0_leavesFree_0 (post : Option Value → q_S → Prop) (K : Nat → q_K) : q_K := (c_aload 0 (c_get 0 3 (c_push 2 (c_icne (k_X0_leavesFree_25 post K) (c_iload 1 (c_iload 2 (c_icle (k_X0_leavesFree_25 post K) (c_iload 1 (c_aload 0 (c_get 0 0 (c_icge (k_X0_leavesFree_25 post K) (c_push 1 (k_X0_leavesFree_26 post K)))))))))))))
set_option maxRecDepth 100000 in
theorem v_X0_leavesFree_26 {p : Program} {l : Launch} {e : Env} {s : State} {m : MethodId} {args : Array Value} {below : List Frame} {meth : Method} {c : Code} {D : va_G} {A : Nat → Prop} {post : Option Value → q_S → Prop} {K : Nat → q_K} (C : q_C p s m args meth c cX0_leavesFree 3 RX0 "leavesFree" (some .boolean) A) (hK : ∀ h ∈ ([] : List Nat), q_V p l e rm_X0_leavesFree s m args below meth c D A 3 (MQ below (q_Qc D A post) args s rm_X0_leavesFree.cells rm_X0_leavesFree.slots A) h (K h)) : q_V p l e rm_X0_leavesFree s m args below meth c D A 3 (MQ below (q_Qc D A post) args s rm_X0_leavesFree.cells rm_X0_leavesFree.slots A) 26 (k_X0_leavesFree_26 post K) := by
  unfold k_X0_leavesFree_26
  exact q_zret C rfl (by decide +kernel : decode cX0_leavesFree 26 = .ok (.ireturn, 1))
set_option maxRecDepth 100000 in
theorem v_X0_leavesFree_25 {p : Program} {l : Launch} {e : Env} {s : State} {m : MethodId} {args : Array Value} {below : List Frame} {meth : Method} {c : Code} {D : va_G} {A : Nat → Prop} {post : Option Value → q_S → Prop} {K : Nat → q_K} (C : q_C p s m args meth c cX0_leavesFree 3 RX0 "leavesFree" (some .boolean) A) (hK : ∀ h ∈ ([] : List Nat), q_V p l e rm_X0_leavesFree s m args below meth c D A 3 (MQ below (q_Qc D A post) args s rm_X0_leavesFree.cells rm_X0_leavesFree.slots A) h (K h)) : q_V p l e rm_X0_leavesFree s m args below meth c D A 3 (MQ below (q_Qc D A post) args s rm_X0_leavesFree.cells rm_X0_leavesFree.slots A) 25 (k_X0_leavesFree_25 post K) := by
  unfold k_X0_leavesFree_25
  refine q_iconst C (by decide +kernel : decode cX0_leavesFree 25 = .ok (.iconst 0, 1)) (by decide) ?_
  exact v_X0_leavesFree_26 C hK
set_option maxRecDepth 100000 in
theorem v_X0_leavesFree_0 {p : Program} {l : Launch} {e : Env} {s : State} {m : MethodId} {args : Array Value} {below : List Frame} {meth : Method} {c : Code} {D : va_G} {A : Nat → Prop} {post : Option Value → q_S → Prop} {K : Nat → q_K} (C : q_C p s m args meth c cX0_leavesFree 3 RX0 "leavesFree" (some .boolean) A) (hK : ∀ h ∈ ([] : List Nat), q_V p l e rm_X0_leavesFree s m args below meth c D A 3 (MQ below (q_Qc D A post) args s rm_X0_leavesFree.cells rm_X0_leavesFree.slots A) h (K h)) : q_V p l e rm_X0_leavesFree s m args below meth c D A 3 (MQ below (q_Qc D A post) args s rm_X0_leavesFree.cells rm_X0_leavesFree.slots A) 0 (k_X0_leavesFree_0 post K) := by
  unfold k_X0_leavesFree_0
  refine q_aload_n C (by decide +kernel : decode cX0_leavesFree 0 = .ok (.aload_n 0, 1)) ?_
  refine q_get C (ci := 0) (j := 3) (C0 := RX0) (T := TX0) (N := 5) rfl iX0 giX0 (by decide) w9_129 (by decide +kernel : decode cX0_leavesFree 1 = .ok (.getfield 21, 3)) ?_
  refine q_iconst C (by decide +kernel : decode cX0_leavesFree 4 = .ok (.iconst 2, 1)) (by decide) ?_
  refine q_icne C (tgt := 25) (by decide +kernel : decode cX0_leavesFree 5 = .ok (.if_icmp .ne 20, 3)) (by decide) ?_ ?_
  · exact v_X0_leavesFree_25 C hK
  · refine q_iload_n C (by decide +kernel : decode cX0_leavesFree 8 = .ok (.iload_n 1, 1)) ?_
    refine q_iload_n C (by decide +kernel : decode cX0_leavesFree 9 = .ok (.iload_n 2, 1)) ?_
    refine q_icle C (tgt := 25) (by decide +kernel : decode cX0_leavesFree 10 = .ok (.if_icmp .le 15, 3)) (by decide) ?_ ?_
    · exact v_X0_leavesFree_25 C hK
    · refine q_iload_n C (by decide +kernel : decode cX0_leavesFree 13 = .ok (.iload_n 1, 1)) ?_
      refine q_aload_n C (by decide +kernel : decode cX0_leavesFree 14 = .ok (.aload_n 0, 1)) ?_
      refine q_get C (ci := 0) (j := 0) (C0 := RX0) (T := TX0) (N := 5) rfl iX0 giX0 (by decide) w9_126 (by decide +kernel : decode cX0_leavesFree 15 = .ok (.getfield 9, 3)) ?_
      refine q_icge C (tgt := 25) (by decide +kernel : decode cX0_leavesFree 18 = .ok (.if_icmp .ge 7, 3)) (by decide) ?_ ?_
      · exact v_X0_leavesFree_25 C hK
      · refine q_iconst C (by decide +kernel : decode cX0_leavesFree 21 = .ok (.iconst 1, 1)) (by decide) ?_
        refine q_goto C (tgt := 26) (by decide +kernel : decode cX0_leavesFree 22 = .ok (.goto 4, 3)) (by decide) ?_
        exact v_X0_leavesFree_26 C hK
theorem u_X0_leavesFree (l : Launch) {sp : q_Sp} (H : ∀ (av : List Value) (σ : q_S) (post : Option Value → q_S → Prop), sp av σ post → k_X0_leavesFree_0 post (fun _ _ _ _ _ _ => False) (q_L0 av 3) [] σ 0 0 ∧ av.length ≤ 3 ∧ ∀ v ∈ av, v.category = 1) : q_Ct l yX0_leavesFree cX0_leavesFree 3 (some .boolean) rm_X0_leavesFree sp := by
  refine q_met (by decide) ?_
  intro D A p e s m args below meth c σ av post C hsp
  obtain ⟨h1, h2, h3⟩ := H av σ post hsp
  exact ⟨_, v_X0_leavesFree_0 (K := fun _ _ _ _ _ _ => False) C (fun h hh => by cases hh), h1, h2, h3⟩
theorem t_X0_leavesFree (l : Launch) : q_Ct l yX0_leavesFree cX0_leavesFree 3 (some .boolean) rm_X0_leavesFree s_X0_leavesFree := u_X0_leavesFree l (by
  intro av σ post h
  unfold s_X0_leavesFree at h
  split at h
  · split at h
    · next e =>
      refine ⟨?_, by simp, by simp [Value.category]⟩
      simp only [c_push, c_null, c_iload, c_aload, c_istore, c_astore, c_iinc, c_iadd, c_isub, c_imul, c_iand, c_ineg, c_dup, c_dup2, c_pop, c_ifnull, c_ifnonnull, c_get, c_put, c_iald, c_zald, c_iast, c_zast, c_aald, c_aast, c_alen, c_new, c_newa, c_newq, c_mna, c_oinit, c_max, c_copy, c_iret, c_zret, c_aret, c_vret, q_do, q_rc, c_ifeq, c_ifne, c_iflt, c_ifge, c_ifgt, c_ifle, c_iceq, c_icne, c_iclt, c_icge, c_icgt, c_icle, c_call0, c_call1, c_call2, c_call3, c_call4, c_call5, c_call6, c_call7, q_L0, List.map_cons, List.map_nil, List.replicate, List.cons_append, List.nil_append, List.append_nil, List.length_cons, List.length_nil, List.length_set, Nat.reduceSub, Nat.reduceAdd, Nat.reduceLT, Nat.reduceLeDiff, Nat.zero_add, Nat.add_zero, Nat.sub_zero, Nat.sub_self, List.getElem?_cons_zero, List.getElem?_cons_succ, List.set_cons_zero, List.set_cons_succ, Option.toList_some, Option.toList_none, List.sum_cons, List.sum_nil, true_and, and_true, true_or, or_true, Nat.le_refl, Nat.zero_le, Value.category, Fin.isValue, Fin.val_zero, Fin.val_one, Fin.val_two, Fin.reduceFinMk, q_10, q_01, not_false_eq_true, not_true_eq_false, forall_const, true_implies, false_implies, implies_true, q_ni, q_fi, q_nb0, q_nb1, q_fb0, q_fb1, q_nor, q_nar, q_for, q_far, q_non, q_nan, q_fon, q_fan, imp_false, false_and, and_false, and_self, false_or, or_false, va_rf, refKind, k_X0_leavesFree_0, k_X0_leavesFree_25, k_X0_leavesFree_26, q_fld, q_fset, q_oc, e, if_true]
      grind
    · exact h.elim
  · exact h.elim)
-- Licence
def s_X4_init : q_Sp := fun av σ post => match av with
  | [.ref a, .int x1, .int x2, .int x3, .int x4, .int x5, .int x6] => σ a = some (.inr (4, [.int 0, .int 0, .int 0, .int 0, .int 0, .int 0])) ∧ post none (q_up σ a (.inr (4, [.int x1, .int x2, .int x3, .int x4, .int x5, .int x6])))
  | _ => False
theorem w9_140 : (.methodLink RX4 1 objectInit : Cond) ∈ lw_tbl := by decide +kernel
theorem w9_141 : (.fieldLink RX4 7 (TX4 0).1 (TX4 0).2.1 (TX4 0).2.2.1 : Cond) ∈ lw_tbl := by decide +kernel
theorem w9_142 : (.fieldLink RX4 13 (TX4 1).1 (TX4 1).2.1 (TX4 1).2.2.1 : Cond) ∈ lw_tbl := by decide +kernel
theorem w9_143 : (.fieldLink RX4 16 (TX4 2).1 (TX4 2).2.1 (TX4 2).2.2.1 : Cond) ∈ lw_tbl := by decide +kernel
theorem w9_144 : (.fieldLink RX4 19 (TX4 3).1 (TX4 3).2.1 (TX4 3).2.2.1 : Cond) ∈ lw_tbl := by decide +kernel
theorem w9_145 : (.fieldLink RX4 22 (TX4 4).1 (TX4 4).2.1 (TX4 4).2.2.1 : Cond) ∈ lw_tbl := by decide +kernel
theorem w9_146 : (.fieldLink RX4 25 (TX4 5).1 (TX4 5).2.1 (TX4 5).2.2.1 : Cond) ∈ lw_tbl := by decide +kernel
def rm_X4_init : Room := { frames := 1, cells := 0, slots := 0, locals := 20 }
def k_X4_init_0 (post : Option Value → q_S → Prop) (K : Nat → q_K) : q_K := (c_aload 0 (c_oinit (c_aload 0 (c_iload 1 (c_put 4 0 (.int) (c_aload 0 (c_iload 2 (c_put 4 1 (.int) (c_aload 0 (c_iload 3 (c_put 4 2 (.int) (c_aload 0 (c_iload 4 (c_put 4 3 (.int) (c_aload 0 (c_iload 5 (c_put 4 4 (.int) (c_aload 0 (c_iload 6 (c_put 4 5 (.int) (c_vret post)))))))))))))))))))))
set_option maxRecDepth 100000 in
theorem v_X4_init_0 {p : Program} {l : Launch} {e : Env} {s : State} {m : MethodId} {args : Array Value} {below : List Frame} {meth : Method} {c : Code} {D : va_G} {A : Nat → Prop} {post : Option Value → q_S → Prop} {K : Nat → q_K} (C : q_C p s m args meth c cX4_init 7 RX4 "<init>" none A) (hK : ∀ h ∈ ([] : List Nat), q_V p l e rm_X4_init s m args below meth c D A 7 (MQ below (q_Qc D A post) args s rm_X4_init.cells rm_X4_init.slots A) h (K h)) : q_V p l e rm_X4_init s m args below meth c D A 7 (MQ below (q_Qc D A post) args s rm_X4_init.cells rm_X4_init.slots A) 0 (k_X4_init_0 post K) := by
  unfold k_X4_init_0
  refine q_aload_n C (by decide +kernel : decode cX4_init 0 = .ok (.aload_n 0, 1)) ?_
  refine q_oinit C w9_140 w9_112 w9_113 (by decide) (by decide +kernel : decode cX4_init 1 = .ok (.invokespecial 1, 3)) ?_
  refine q_aload_n C (by decide +kernel : decode cX4_init 4 = .ok (.aload_n 0, 1)) ?_
  refine q_iload_n C (by decide +kernel : decode cX4_init 5 = .ok (.iload_n 1, 1)) ?_
  refine q_putF C (ci := 4) (j := 0) (C0 := RX4) (T := TX4) (N := 6) (ty := .int) rfl iX4 giX4 (by decide) tyX4 tyX4_ok nmX4 (by decide +kernel) rfl rfl rfl w9_141 (by decide +kernel : decode cX4_init 6 = .ok (.putfield 7, 3)) ?_
  refine q_aload_n C (by decide +kernel : decode cX4_init 9 = .ok (.aload_n 0, 1)) ?_
  refine q_iload_n C (by decide +kernel : decode cX4_init 10 = .ok (.iload_n 2, 1)) ?_
  refine q_putF C (ci := 4) (j := 1) (C0 := RX4) (T := TX4) (N := 6) (ty := .int) rfl iX4 giX4 (by decide) tyX4 tyX4_ok nmX4 (by decide +kernel) rfl rfl rfl w9_142 (by decide +kernel : decode cX4_init 11 = .ok (.putfield 13, 3)) ?_
  refine q_aload_n C (by decide +kernel : decode cX4_init 14 = .ok (.aload_n 0, 1)) ?_
  refine q_iload_n C (by decide +kernel : decode cX4_init 15 = .ok (.iload_n 3, 1)) ?_
  refine q_putF C (ci := 4) (j := 2) (C0 := RX4) (T := TX4) (N := 6) (ty := .int) rfl iX4 giX4 (by decide) tyX4 tyX4_ok nmX4 (by decide +kernel) rfl rfl rfl w9_143 (by decide +kernel : decode cX4_init 16 = .ok (.putfield 16, 3)) ?_
  refine q_aload_n C (by decide +kernel : decode cX4_init 19 = .ok (.aload_n 0, 1)) ?_
  refine q_iload C (by decide +kernel : decode cX4_init 20 = .ok (.iload 4, 2)) ?_
  refine q_putF C (ci := 4) (j := 3) (C0 := RX4) (T := TX4) (N := 6) (ty := .int) rfl iX4 giX4 (by decide) tyX4 tyX4_ok nmX4 (by decide +kernel) rfl rfl rfl w9_144 (by decide +kernel : decode cX4_init 22 = .ok (.putfield 19, 3)) ?_
  refine q_aload_n C (by decide +kernel : decode cX4_init 25 = .ok (.aload_n 0, 1)) ?_
  refine q_iload C (by decide +kernel : decode cX4_init 26 = .ok (.iload 5, 2)) ?_
  refine q_putF C (ci := 4) (j := 4) (C0 := RX4) (T := TX4) (N := 6) (ty := .int) rfl iX4 giX4 (by decide) tyX4 tyX4_ok nmX4 (by decide +kernel) rfl rfl rfl w9_145 (by decide +kernel : decode cX4_init 28 = .ok (.putfield 22, 3)) ?_
  refine q_aload_n C (by decide +kernel : decode cX4_init 31 = .ok (.aload_n 0, 1)) ?_
  refine q_iload C (by decide +kernel : decode cX4_init 32 = .ok (.iload 6, 2)) ?_
  refine q_putF C (ci := 4) (j := 5) (C0 := RX4) (T := TX4) (N := 6) (ty := .int) rfl iX4 giX4 (by decide) tyX4 tyX4_ok nmX4 (by decide +kernel) rfl rfl rfl w9_146 (by decide +kernel : decode cX4_init 34 = .ok (.putfield 25, 3)) ?_
  exact q_vret C rfl (by decide +kernel : decode cX4_init 37 = .ok (.return_, 1))
theorem u_X4_init (l : Launch) {sp : q_Sp} (H : ∀ (av : List Value) (σ : q_S) (post : Option Value → q_S → Prop), sp av σ post → k_X4_init_0 post (fun _ _ _ _ _ _ => False) (q_L0 av 7) [] σ 0 0 ∧ av.length ≤ 7 ∧ ∀ v ∈ av, v.category = 1) : q_Ct l yX4_init cX4_init 7 none rm_X4_init sp := by
  refine q_met (by decide) ?_
  intro D A p e s m args below meth c σ av post C hsp
  obtain ⟨h1, h2, h3⟩ := H av σ post hsp
  exact ⟨_, v_X4_init_0 (K := fun _ _ _ _ _ _ => False) C (fun h hh => by cases hh), h1, h2, h3⟩
theorem t_X4_init (l : Launch) : q_Ct l yX4_init cX4_init 7 none rm_X4_init s_X4_init := u_X4_init l (by
  intro av σ post h
  unfold s_X4_init at h
  split at h
  · next a =>
    refine ⟨?_, by simp, by simp [Value.category]⟩
    simp only [c_push, c_null, c_iload, c_aload, c_istore, c_astore, c_iinc, c_iadd, c_isub, c_imul, c_iand, c_ineg, c_dup, c_dup2, c_pop, c_ifnull, c_ifnonnull, c_get, c_put, c_iald, c_zald, c_iast, c_zast, c_aald, c_aast, c_alen, c_new, c_newa, c_newq, c_mna, c_oinit, c_max, c_copy, c_iret, c_zret, c_aret, c_vret, q_do, q_rc, c_ifeq, c_ifne, c_iflt, c_ifge, c_ifgt, c_ifle, c_iceq, c_icne, c_iclt, c_icge, c_icgt, c_icle, c_call0, c_call1, c_call2, c_call3, c_call4, c_call5, c_call6, c_call7, q_L0, List.map_cons, List.map_nil, List.replicate, List.cons_append, List.nil_append, List.append_nil, List.length_cons, List.length_nil, List.length_set, Nat.reduceSub, Nat.reduceAdd, Nat.reduceLT, Nat.reduceLeDiff, Nat.zero_add, Nat.add_zero, Nat.sub_zero, Nat.sub_self, List.getElem?_cons_zero, List.getElem?_cons_succ, List.set_cons_zero, List.set_cons_succ, Option.toList_some, Option.toList_none, List.sum_cons, List.sum_nil, true_and, and_true, true_or, or_true, Nat.le_refl, Nat.zero_le, Value.category, Fin.isValue, Fin.val_zero, Fin.val_one, Fin.val_two, Fin.reduceFinMk, q_10, q_01, not_false_eq_true, not_true_eq_false, forall_const, true_implies, false_implies, implies_true, q_ni, q_fi, q_nb0, q_nb1, q_fb0, q_fb1, q_nor, q_nar, q_for, q_far, q_non, q_nan, q_fon, q_fan, imp_false, false_and, and_false, and_self, false_or, or_false, va_rf, refKind, k_X4_init_0, q_fld, q_fset, q_oc, h.1, q_up_s, q_up_up, if_true]
    exact h.2
  · exact h.elim)
def s_X4_fits : q_Sp := fun av σ post => match av with
  | [.ref a, .int w, .int u, .int p] => (match σ a with
    | some (.inr (4, [.int x1, .int x2, .int x3, _, _, _])) => (x1 = w ∧ x2 = u ∧ x3 = p → post (some (.int 1)) σ) ∧ (¬ (x1 = w ∧ x2 = u ∧ x3 = p) → post (some (.int 0)) σ)
    | _ => False)
  | _ => False
def rm_X4_fits : Room := { frames := 0, cells := 0, slots := 0, locals := 0 }
def k_X4_fits_29 (post : Option Value → q_S → Prop) (K : Nat → q_K) : q_K := (c_zret post)
def k_X4_fits_28 (post : Option Value → q_S → Prop) (K : Nat → q_K) : q_K := (c_push 0 (k_X4_fits_29 post K))
def k_X4_fits_0 (post : Option Value → q_S → Prop) (K : Nat → q_K) : q_K := (c_aload 0 (c_get 4 0 (c_iload 1 (c_icne (k_X4_fits_28 post K) (c_aload 0 (c_get 4 1 (c_iload 2 (c_icne (k_X4_fits_28 post K) (c_aload 0 (c_get 4 2 (c_iload 3 (c_icne (k_X4_fits_28 post K) (c_push 1 (k_X4_fits_29 post K))))))))))))))
set_option maxRecDepth 100000 in
theorem v_X4_fits_29 {p : Program} {l : Launch} {e : Env} {s : State} {m : MethodId} {args : Array Value} {below : List Frame} {meth : Method} {c : Code} {D : va_G} {A : Nat → Prop} {post : Option Value → q_S → Prop} {K : Nat → q_K} (C : q_C p s m args meth c cX4_fits 4 RX4 "fits" (some .boolean) A) (hK : ∀ h ∈ ([] : List Nat), q_V p l e rm_X4_fits s m args below meth c D A 4 (MQ below (q_Qc D A post) args s rm_X4_fits.cells rm_X4_fits.slots A) h (K h)) : q_V p l e rm_X4_fits s m args below meth c D A 4 (MQ below (q_Qc D A post) args s rm_X4_fits.cells rm_X4_fits.slots A) 29 (k_X4_fits_29 post K) := by
  unfold k_X4_fits_29
  exact q_zret C rfl (by decide +kernel : decode cX4_fits 29 = .ok (.ireturn, 1))
set_option maxRecDepth 100000 in
theorem v_X4_fits_28 {p : Program} {l : Launch} {e : Env} {s : State} {m : MethodId} {args : Array Value} {below : List Frame} {meth : Method} {c : Code} {D : va_G} {A : Nat → Prop} {post : Option Value → q_S → Prop} {K : Nat → q_K} (C : q_C p s m args meth c cX4_fits 4 RX4 "fits" (some .boolean) A) (hK : ∀ h ∈ ([] : List Nat), q_V p l e rm_X4_fits s m args below meth c D A 4 (MQ below (q_Qc D A post) args s rm_X4_fits.cells rm_X4_fits.slots A) h (K h)) : q_V p l e rm_X4_fits s m args below meth c D A 4 (MQ below (q_Qc D A post) args s rm_X4_fits.cells rm_X4_fits.slots A) 28 (k_X4_fits_28 post K) := by
  unfold k_X4_fits_28
  refine q_iconst C (by decide +kernel : decode cX4_fits 28 = .ok (.iconst 0, 1)) (by decide) ?_
  exact v_X4_fits_29 C hK
set_option maxRecDepth 100000 in
theorem v_X4_fits_0 {p : Program} {l : Launch} {e : Env} {s : State} {m : MethodId} {args : Array Value} {below : List Frame} {meth : Method} {c : Code} {D : va_G} {A : Nat → Prop} {post : Option Value → q_S → Prop} {K : Nat → q_K} (C : q_C p s m args meth c cX4_fits 4 RX4 "fits" (some .boolean) A) (hK : ∀ h ∈ ([] : List Nat), q_V p l e rm_X4_fits s m args below meth c D A 4 (MQ below (q_Qc D A post) args s rm_X4_fits.cells rm_X4_fits.slots A) h (K h)) : q_V p l e rm_X4_fits s m args below meth c D A 4 (MQ below (q_Qc D A post) args s rm_X4_fits.cells rm_X4_fits.slots A) 0 (k_X4_fits_0 post K) := by
  unfold k_X4_fits_0
  refine q_aload_n C (by decide +kernel : decode cX4_fits 0 = .ok (.aload_n 0, 1)) ?_
  refine q_get C (ci := 4) (j := 0) (C0 := RX4) (T := TX4) (N := 6) rfl iX4 giX4 (by decide) w9_141 (by decide +kernel : decode cX4_fits 1 = .ok (.getfield 7, 3)) ?_
  refine q_iload_n C (by decide +kernel : decode cX4_fits 4 = .ok (.iload_n 1, 1)) ?_
  refine q_icne C (tgt := 28) (by decide +kernel : decode cX4_fits 5 = .ok (.if_icmp .ne 23, 3)) (by decide) ?_ ?_
  · exact v_X4_fits_28 C hK
  · refine q_aload_n C (by decide +kernel : decode cX4_fits 8 = .ok (.aload_n 0, 1)) ?_
    refine q_get C (ci := 4) (j := 1) (C0 := RX4) (T := TX4) (N := 6) rfl iX4 giX4 (by decide) w9_142 (by decide +kernel : decode cX4_fits 9 = .ok (.getfield 13, 3)) ?_
    refine q_iload_n C (by decide +kernel : decode cX4_fits 12 = .ok (.iload_n 2, 1)) ?_
    refine q_icne C (tgt := 28) (by decide +kernel : decode cX4_fits 13 = .ok (.if_icmp .ne 15, 3)) (by decide) ?_ ?_
    · exact v_X4_fits_28 C hK
    · refine q_aload_n C (by decide +kernel : decode cX4_fits 16 = .ok (.aload_n 0, 1)) ?_
      refine q_get C (ci := 4) (j := 2) (C0 := RX4) (T := TX4) (N := 6) rfl iX4 giX4 (by decide) w9_143 (by decide +kernel : decode cX4_fits 17 = .ok (.getfield 16, 3)) ?_
      refine q_iload_n C (by decide +kernel : decode cX4_fits 20 = .ok (.iload_n 3, 1)) ?_
      refine q_icne C (tgt := 28) (by decide +kernel : decode cX4_fits 21 = .ok (.if_icmp .ne 7, 3)) (by decide) ?_ ?_
      · exact v_X4_fits_28 C hK
      · refine q_iconst C (by decide +kernel : decode cX4_fits 24 = .ok (.iconst 1, 1)) (by decide) ?_
        refine q_goto C (tgt := 29) (by decide +kernel : decode cX4_fits 25 = .ok (.goto 4, 3)) (by decide) ?_
        exact v_X4_fits_29 C hK
theorem u_X4_fits (l : Launch) {sp : q_Sp} (H : ∀ (av : List Value) (σ : q_S) (post : Option Value → q_S → Prop), sp av σ post → k_X4_fits_0 post (fun _ _ _ _ _ _ => False) (q_L0 av 4) [] σ 0 0 ∧ av.length ≤ 4 ∧ ∀ v ∈ av, v.category = 1) : q_Ct l yX4_fits cX4_fits 4 (some .boolean) rm_X4_fits sp := by
  refine q_met (by decide) ?_
  intro D A p e s m args below meth c σ av post C hsp
  obtain ⟨h1, h2, h3⟩ := H av σ post hsp
  exact ⟨_, v_X4_fits_0 (K := fun _ _ _ _ _ _ => False) C (fun h hh => by cases hh), h1, h2, h3⟩
theorem t_X4_fits (l : Launch) : q_Ct l yX4_fits cX4_fits 4 (some .boolean) rm_X4_fits s_X4_fits := u_X4_fits l (by
  intro av σ post h
  unfold s_X4_fits at h
  split at h
  · split at h
    · next e =>
      refine ⟨?_, by simp, by simp [Value.category]⟩
      simp only [c_push, c_null, c_iload, c_aload, c_istore, c_astore, c_iinc, c_iadd, c_isub, c_imul, c_iand, c_ineg, c_dup, c_dup2, c_pop, c_ifnull, c_ifnonnull, c_get, c_put, c_iald, c_zald, c_iast, c_zast, c_aald, c_aast, c_alen, c_new, c_newa, c_newq, c_mna, c_oinit, c_max, c_copy, c_iret, c_zret, c_aret, c_vret, q_do, q_rc, c_ifeq, c_ifne, c_iflt, c_ifge, c_ifgt, c_ifle, c_iceq, c_icne, c_iclt, c_icge, c_icgt, c_icle, c_call0, c_call1, c_call2, c_call3, c_call4, c_call5, c_call6, c_call7, q_L0, List.map_cons, List.map_nil, List.replicate, List.cons_append, List.nil_append, List.append_nil, List.length_cons, List.length_nil, List.length_set, Nat.reduceSub, Nat.reduceAdd, Nat.reduceLT, Nat.reduceLeDiff, Nat.zero_add, Nat.add_zero, Nat.sub_zero, Nat.sub_self, List.getElem?_cons_zero, List.getElem?_cons_succ, List.set_cons_zero, List.set_cons_succ, Option.toList_some, Option.toList_none, List.sum_cons, List.sum_nil, true_and, and_true, true_or, or_true, Nat.le_refl, Nat.zero_le, Value.category, Fin.isValue, Fin.val_zero, Fin.val_one, Fin.val_two, Fin.reduceFinMk, q_10, q_01, not_false_eq_true, not_true_eq_false, forall_const, true_implies, false_implies, implies_true, q_ni, q_fi, q_nb0, q_nb1, q_fb0, q_fb1, q_nor, q_nar, q_for, q_far, q_non, q_nan, q_fon, q_fan, imp_false, false_and, and_false, and_self, false_or, or_false, va_rf, refKind, k_X4_fits_0, k_X4_fits_28, k_X4_fits_29, q_fld, q_fset, q_oc, e, if_true]
      grind
    · exact h.elim
  · exact h.elim)
def s_X4_coversDay : q_Sp := fun av σ post => match av with
  | [.ref a, .int t] => (match σ a with
    | some (.inr (4, [_, _, _, .int x4, .int x5, .int x6])) => (x4 ≤ t ∧ x5 ≤ t ∧ t ≤ x6 → post (some (.int 1)) σ) ∧ (¬ (x4 ≤ t ∧ x5 ≤ t ∧ t ≤ x6) → post (some (.int 0)) σ)
    | _ => False)
  | _ => False
def rm_X4_coversDay : Room := { frames := 0, cells := 0, slots := 0, locals := 0 }
def k_X4_coversDay_29 (post : Option Value → q_S → Prop) (K : Nat → q_K) : q_K := (c_zret post)
def k_X4_coversDay_28 (post : Option Value → q_S → Prop) (K : Nat → q_K) : q_K := (c_push 0 (k_X4_coversDay_29 post K))
def k_X4_coversDay_0 (post : Option Value → q_S → Prop) (K : Nat → q_K) : q_K := (c_aload 0 (c_get 4 3 (c_iload 1 (c_icgt (k_X4_coversDay_28 post K) (c_aload 0 (c_get 4 4 (c_iload 1 (c_icgt (k_X4_coversDay_28 post K) (c_iload 1 (c_aload 0 (c_get 4 5 (c_icgt (k_X4_coversDay_28 post K) (c_push 1 (k_X4_coversDay_29 post K))))))))))))))
set_option maxRecDepth 100000 in
theorem v_X4_coversDay_29 {p : Program} {l : Launch} {e : Env} {s : State} {m : MethodId} {args : Array Value} {below : List Frame} {meth : Method} {c : Code} {D : va_G} {A : Nat → Prop} {post : Option Value → q_S → Prop} {K : Nat → q_K} (C : q_C p s m args meth c cX4_coversDay 2 RX4 "coversDay" (some .boolean) A) (hK : ∀ h ∈ ([] : List Nat), q_V p l e rm_X4_coversDay s m args below meth c D A 2 (MQ below (q_Qc D A post) args s rm_X4_coversDay.cells rm_X4_coversDay.slots A) h (K h)) : q_V p l e rm_X4_coversDay s m args below meth c D A 2 (MQ below (q_Qc D A post) args s rm_X4_coversDay.cells rm_X4_coversDay.slots A) 29 (k_X4_coversDay_29 post K) := by
  unfold k_X4_coversDay_29
  exact q_zret C rfl (by decide +kernel : decode cX4_coversDay 29 = .ok (.ireturn, 1))
set_option maxRecDepth 100000 in
theorem v_X4_coversDay_28 {p : Program} {l : Launch} {e : Env} {s : State} {m : MethodId} {args : Array Value} {below : List Frame} {meth : Method} {c : Code} {D : va_G} {A : Nat → Prop} {post : Option Value → q_S → Prop} {K : Nat → q_K} (C : q_C p s m args meth c cX4_coversDay 2 RX4 "coversDay" (some .boolean) A) (hK : ∀ h ∈ ([] : List Nat), q_V p l e rm_X4_coversDay s m args below meth c D A 2 (MQ below (q_Qc D A post) args s rm_X4_coversDay.cells rm_X4_coversDay.slots A) h (K h)) : q_V p l e rm_X4_coversDay s m args below meth c D A 2 (MQ below (q_Qc D A post) args s rm_X4_coversDay.cells rm_X4_coversDay.slots A) 28 (k_X4_coversDay_28 post K) := by
  unfold k_X4_coversDay_28
  refine q_iconst C (by decide +kernel : decode cX4_coversDay 28 = .ok (.iconst 0, 1)) (by decide) ?_
  exact v_X4_coversDay_29 C hK
set_option maxRecDepth 100000 in
theorem v_X4_coversDay_0 {p : Program} {l : Launch} {e : Env} {s : State} {m : MethodId} {args : Array Value} {below : List Frame} {meth : Method} {c : Code} {D : va_G} {A : Nat → Prop} {post : Option Value → q_S → Prop} {K : Nat → q_K} (C : q_C p s m args meth c cX4_coversDay 2 RX4 "coversDay" (some .boolean) A) (hK : ∀ h ∈ ([] : List Nat), q_V p l e rm_X4_coversDay s m args below meth c D A 2 (MQ below (q_Qc D A post) args s rm_X4_coversDay.cells rm_X4_coversDay.slots A) h (K h)) : q_V p l e rm_X4_coversDay s m args below meth c D A 2 (MQ below (q_Qc D A post) args s rm_X4_coversDay.cells rm_X4_coversDay.slots A) 0 (k_X4_coversDay_0 post K) := by
  unfold k_X4_coversDay_0
  refine q_aload_n C (by decide +kernel : decode cX4_coversDay 0 = .ok (.aload_n 0, 1)) ?_
  refine q_get C (ci := 4) (j := 3) (C0 := RX4) (T := TX4) (N := 6) rfl iX4 giX4 (by decide) w9_144 (by decide +kernel : decode cX4_coversDay 1 = .ok (.getfield 19, 3)) ?_
  refine q_iload_n C (by decide +kernel : decode cX4_coversDay 4 = .ok (.iload_n 1, 1)) ?_
  refine q_icgt C (tgt := 28) (by decide +kernel : decode cX4_coversDay 5 = .ok (.if_icmp .gt 23, 3)) (by decide) ?_ ?_
  · exact v_X4_coversDay_28 C hK
  · refine q_aload_n C (by decide +kernel : decode cX4_coversDay 8 = .ok (.aload_n 0, 1)) ?_
    refine q_get C (ci := 4) (j := 4) (C0 := RX4) (T := TX4) (N := 6) rfl iX4 giX4 (by decide) w9_145 (by decide +kernel : decode cX4_coversDay 9 = .ok (.getfield 22, 3)) ?_
    refine q_iload_n C (by decide +kernel : decode cX4_coversDay 12 = .ok (.iload_n 1, 1)) ?_
    refine q_icgt C (tgt := 28) (by decide +kernel : decode cX4_coversDay 13 = .ok (.if_icmp .gt 15, 3)) (by decide) ?_ ?_
    · exact v_X4_coversDay_28 C hK
    · refine q_iload_n C (by decide +kernel : decode cX4_coversDay 16 = .ok (.iload_n 1, 1)) ?_
      refine q_aload_n C (by decide +kernel : decode cX4_coversDay 17 = .ok (.aload_n 0, 1)) ?_
      refine q_get C (ci := 4) (j := 5) (C0 := RX4) (T := TX4) (N := 6) rfl iX4 giX4 (by decide) w9_146 (by decide +kernel : decode cX4_coversDay 18 = .ok (.getfield 25, 3)) ?_
      refine q_icgt C (tgt := 28) (by decide +kernel : decode cX4_coversDay 21 = .ok (.if_icmp .gt 7, 3)) (by decide) ?_ ?_
      · exact v_X4_coversDay_28 C hK
      · refine q_iconst C (by decide +kernel : decode cX4_coversDay 24 = .ok (.iconst 1, 1)) (by decide) ?_
        refine q_goto C (tgt := 29) (by decide +kernel : decode cX4_coversDay 25 = .ok (.goto 4, 3)) (by decide) ?_
        exact v_X4_coversDay_29 C hK
theorem u_X4_coversDay (l : Launch) {sp : q_Sp} (H : ∀ (av : List Value) (σ : q_S) (post : Option Value → q_S → Prop), sp av σ post → k_X4_coversDay_0 post (fun _ _ _ _ _ _ => False) (q_L0 av 2) [] σ 0 0 ∧ av.length ≤ 2 ∧ ∀ v ∈ av, v.category = 1) : q_Ct l yX4_coversDay cX4_coversDay 2 (some .boolean) rm_X4_coversDay sp := by
  refine q_met (by decide) ?_
  intro D A p e s m args below meth c σ av post C hsp
  obtain ⟨h1, h2, h3⟩ := H av σ post hsp
  exact ⟨_, v_X4_coversDay_0 (K := fun _ _ _ _ _ _ => False) C (fun h hh => by cases hh), h1, h2, h3⟩
theorem t_X4_coversDay (l : Launch) : q_Ct l yX4_coversDay cX4_coversDay 2 (some .boolean) rm_X4_coversDay s_X4_coversDay := u_X4_coversDay l (by
  intro av σ post h
  unfold s_X4_coversDay at h
  split at h
  · split at h
    · next e =>
      refine ⟨?_, by simp, by simp [Value.category]⟩
      simp only [c_push, c_null, c_iload, c_aload, c_istore, c_astore, c_iinc, c_iadd, c_isub, c_imul, c_iand, c_ineg, c_dup, c_dup2, c_pop, c_ifnull, c_ifnonnull, c_get, c_put, c_iald, c_zald, c_iast, c_zast, c_aald, c_aast, c_alen, c_new, c_newa, c_newq, c_mna, c_oinit, c_max, c_copy, c_iret, c_zret, c_aret, c_vret, q_do, q_rc, c_ifeq, c_ifne, c_iflt, c_ifge, c_ifgt, c_ifle, c_iceq, c_icne, c_iclt, c_icge, c_icgt, c_icle, c_call0, c_call1, c_call2, c_call3, c_call4, c_call5, c_call6, c_call7, q_L0, List.map_cons, List.map_nil, List.replicate, List.cons_append, List.nil_append, List.append_nil, List.length_cons, List.length_nil, List.length_set, Nat.reduceSub, Nat.reduceAdd, Nat.reduceLT, Nat.reduceLeDiff, Nat.zero_add, Nat.add_zero, Nat.sub_zero, Nat.sub_self, List.getElem?_cons_zero, List.getElem?_cons_succ, List.set_cons_zero, List.set_cons_succ, Option.toList_some, Option.toList_none, List.sum_cons, List.sum_nil, true_and, and_true, true_or, or_true, Nat.le_refl, Nat.zero_le, Value.category, Fin.isValue, Fin.val_zero, Fin.val_one, Fin.val_two, Fin.reduceFinMk, q_10, q_01, not_false_eq_true, not_true_eq_false, forall_const, true_implies, false_implies, implies_true, q_ni, q_fi, q_nb0, q_nb1, q_fb0, q_fb1, q_nor, q_nar, q_for, q_far, q_non, q_nan, q_fon, q_fan, imp_false, false_and, and_false, and_self, false_or, or_false, va_rf, refKind, k_X4_coversDay_0, k_X4_coversDay_28, k_X4_coversDay_29, q_fld, q_fset, q_oc, e, if_true]
      grind
    · exact h.elim
  · exact h.elim)
