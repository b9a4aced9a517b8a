theorem ne_ao {σ : q_S} {a b : Nat} {x : FieldType × vp_A} {y : Nat × List Value} (h1 : σ a = some (.inl x)) (h2 : σ b = some (.inr y)) : a ≠ b := fun e => by rw [e, h2] at h1; cases h1
theorem len20 : Int32.ofNat 20 = 20 := rfl
theorem len12 : Int32.ofNat 12 = 12 := rfl
theorem len13 : Int32.ofNat 13 = 13 := rfl
theorem len6 : Int32.ofNat 6 = 6 := rfl
theorem len40 : Int32.ofNat 40 = 40 := rfl
theorem len1000 : Int32.ofNat 1000 = 1000 := rfl
-- Lines
def s_X5_init : q_Sp := fun av σ post => match av with
  | [.ref a] => σ a = some (.inr (5, [.null, .int 0])) ∧ ∀ q, σ q = none → post none (q_up (q_up σ q (.inl (.int, 20, .inl (fun _ => 0)))) a (.inr (5, [.ref q, .int 0])))
  | _ => False
theorem w9_147 : (.methodLink RX5 3 objectInit : Cond) ∈ lw_tbl := by decide +kernel
theorem w9_148 : (.fieldLink RX5 9 (TX5 0).1 (TX5 0).2.1 (TX5 0).2.2.1 : Cond) ∈ lw_tbl := by decide +kernel
theorem w9_149 : (.fieldLink RX5 15 (TX5 1).1 (TX5 1).2.1 (TX5 1).2.2.1 : Cond) ∈ lw_tbl := by decide +kernel
def rm_X5_init : Room := { frames := 1, cells := 1, slots := 20, locals := 20 }
def k_X5_init_0 (post : Option Value → q_S → Prop) (K : Nat → q_K) : q_K := (c_aload 0 (c_oinit (c_aload 0 (c_push 20 (c_newa .int (c_put 5 0 (.array .int) (c_aload 0 (c_push 0 (c_put 5 1 (.int) (c_vret post))))))))))
set_option maxRecDepth 100000 in
theorem v_X5_init_0 {p : Program} {l : Launch} {e : Env} {s : State} {m : MethodId} {args : Array Value} {below : List Frame} {meth : Method} {c : Code} {D : va_G} {A : Nat → Prop} {post : Option Value → q_S → Prop} {K : Nat → q_K} (C : q_C p s m args meth c cX5_init 1 RX5 "<init>" none A) (hK : ∀ h ∈ ([] : List Nat), q_V p l e rm_X5_init s m args below meth c D A 1 (MQ below (q_Qc D A post) args s rm_X5_init.cells rm_X5_init.slots A) h (K h)) : q_V p l e rm_X5_init s m args below meth c D A 1 (MQ below (q_Qc D A post) args s rm_X5_init.cells rm_X5_init.slots A) 0 (k_X5_init_0 post K) := by
  unfold k_X5_init_0
  refine q_aload_n C (by decide +kernel : decode cX5_init 0 = .ok (.aload_n 0, 1)) ?_
  refine q_oinit C w9_147 w9_112 w9_113 (by decide) (by decide +kernel : decode cX5_init 1 = .ok (.invokespecial 3, 3)) ?_
  refine q_aload_n C (by decide +kernel : decode cX5_init 4 = .ok (.aload_n 0, 1)) ?_
  refine q_bipush C (by decide +kernel : decode cX5_init 5 = .ok (.bipush 20, 2)) (by decide) ?_
  refine q_newaI C w9_114 (by decide +kernel : decode cX5_init 7 = .ok (.newarray .int, 2)) ?_
  refine q_putF C (ci := 5) (j := 0) (C0 := RX5) (T := TX5) (N := 2) (ty := .array .int) rfl iX5 giX5 (by decide) tyX5 tyX5_ok nmX5 (by decide +kernel) rfl rfl rfl w9_148 (by decide +kernel : decode cX5_init 9 = .ok (.putfield 9, 3)) ?_
  refine q_aload_n C (by decide +kernel : decode cX5_init 12 = .ok (.aload_n 0, 1)) ?_
  refine q_iconst C (by decide +kernel : decode cX5_init 13 = .ok (.iconst 0, 1)) (by decide) ?_
  refine q_put C (ci := 5) (j := 1) (C0 := RX5) (T := TX5) (N := 2) (ty := .int) rfl iX5 giX5 (by decide) tyX5 tyX5_ok nmX5 (by decide +kernel) rfl w9_149 (by decide +kernel : decode cX5_init 14 = .ok (.putfield 15, 3)) ?_
  exact q_vret C rfl (by decide +kernel : decode cX5_init 17 = .ok (.return_, 1))
theorem u_X5_init (l : Launch) {sp : q_Sp} (H : ∀ (av : List Value) (σ : q_S) (post : Option Value → q_S → Prop), sp av σ post → k_X5_init_0 post (fun _ _ _ _ _ _ => False) (q_L0 av 1) [] σ 1 20 ∧ av.length ≤ 1 ∧ ∀ v ∈ av, v.category = 1) : q_Ct l yX5_init cX5_init 1 none rm_X5_init sp := by
  refine q_met (by decide) ?_
  intro D A p e s m args below meth c σ av post C hsp
  obtain ⟨h1, h2, h3⟩ := H av σ post hsp
  exact ⟨_, v_X5_init_0 (K := fun _ _ _ _ _ _ => False) C (fun h hh => by cases hh), h1, h2, h3⟩
theorem t_X5_init (l : Launch) : q_Ct l yX5_init cX5_init 1 none rm_X5_init s_X5_init := u_X5_init l (by
  intro av σ post h
  unfold s_X5_init at h
  split at h
  · next a =>
    refine ⟨?_, by simp, by simp [Value.category]⟩
    have e9 : (20 : Int32).toNatClampNeg = 20 := rfl
    simp only [c_push, c_null, c_iload, c_aload, c_istore, c_astore, c_iinc, c_iadd, c_isub, c_imul, c_iand, c_ineg, c_dup, c_dup2, c_pop, c_ifnull, c_ifnonnull, c_get, c_put, c_iald, c_zald, c_iast, c_zast, c_aald, c_aast, c_alen, c_new, c_newa, c_newq, c_mna, c_oinit, c_max, c_copy, c_iret, c_zret, c_aret, c_vret, q_do, q_rc, c_ifeq, c_ifne, c_iflt, c_ifge, c_ifgt, c_ifle, c_iceq, c_icne, c_iclt, c_icge, c_icgt, c_icle, c_call0, c_call1, c_call2, c_call3, c_call4, c_call5, c_call6, c_call7, q_L0, List.map_cons, List.map_nil, List.replicate, List.cons_append, List.nil_append, List.append_nil, List.length_cons, List.length_nil, List.length_set, Nat.reduceSub, Nat.reduceAdd, Nat.reduceLT, Nat.reduceLeDiff, Nat.zero_add, Nat.add_zero, Nat.sub_zero, Nat.sub_self, List.getElem?_cons_zero, List.getElem?_cons_succ, List.set_cons_zero, List.set_cons_succ, Option.toList_some, Option.toList_none, List.sum_cons, List.sum_nil, true_and, and_true, true_or, or_true, Nat.le_refl, Nat.zero_le, Value.category, Fin.isValue, Fin.val_zero, Fin.val_one, Fin.val_two, Fin.reduceFinMk, q_10, q_01, not_false_eq_true, not_true_eq_false, forall_const, true_implies, false_implies, implies_true, q_ni, q_fi, q_nb0, q_nb1, q_fb0, q_fb1, q_nor, q_nar, q_for, q_far, q_non, q_nan, q_fon, q_fan, imp_false, false_and, and_false, and_self, false_or, or_false, va_rf, refKind, k_X5_init_0, q_fld, q_fset, q_oc, q_ai, q_aq, q_len, q_up_s, q_up_up, if_true, h.1, e9]
    refine ⟨by decide, fun q hq => ?_⟩
    have hne : a ≠ q := fun e => by rw [← e, h.1] at hq; cases hq
    simp only [c_push, c_null, c_iload, c_aload, c_istore, c_astore, c_iinc, c_iadd, c_isub, c_imul, c_iand, c_ineg, c_dup, c_dup2, c_pop, c_ifnull, c_ifnonnull, c_get, c_put, c_iald, c_zald, c_iast, c_zast, c_aald, c_aast, c_alen, c_new, c_newa, c_newq, c_mna, c_oinit, c_max, c_copy, c_iret, c_zret, c_aret, c_vret, q_do, q_rc, c_ifeq, c_ifne, c_iflt, c_ifge, c_ifgt, c_ifle, c_iceq, c_icne, c_iclt, c_icge, c_icgt, c_icle, c_call0, c_call1, c_call2, c_call3, c_call4, c_call5, c_call6, c_call7, q_L0, List.map_cons, List.map_nil, List.replicate, List.cons_append, List.nil_append, List.append_nil, List.length_cons, List.length_nil, List.length_set, Nat.reduceSub, Nat.reduceAdd, Nat.reduceLT, Nat.reduceLeDiff, Nat.zero_add, Nat.add_zero, Nat.sub_zero, Nat.sub_self, List.getElem?_cons_zero, List.getElem?_cons_succ, List.set_cons_zero, List.set_cons_succ, Option.toList_some, Option.toList_none, List.sum_cons, List.sum_nil, true_and, and_true, true_or, or_true, Nat.le_refl, Nat.zero_le, Value.category, Fin.isValue, Fin.val_zero, Fin.val_one, Fin.val_two, Fin.reduceFinMk, q_10, q_01, not_false_eq_true, not_true_eq_false, forall_const, true_implies, false_implies, implies_true, q_ni, q_fi, q_nb0, q_nb1, q_fb0, q_fb1, q_nor, q_nar, q_for, q_far, q_non, q_nan, q_fon, q_fan, imp_false, false_and, and_false, and_self, false_or, or_false, va_rf, refKind, q_fld, q_fset, q_oc, q_ai, q_aq, q_len, q_up_s, q_up_up, if_true, q_up_n hne, h.1]
    exact h.2 q hq
  · exact h.elim)
def s_X5_append : q_Sp := fun av σ post => match av with
  | [.ref a, .int x] => (match σ a with
    | some (.inr (5, [.ref ra, .int sz])) => (match σ ra with
      | some (.inl (.int, 20, .inl f)) => (0 ≤ sz ∧ sz ≤ 20) ∧ (sz = 20 → post (some (.int (-4))) σ) ∧ (¬ sz = 20 → post (some (.int (sz + 1))) (q_up (q_up σ ra (.inl (.int, 20, .inl (upd f sz.toNatClampNeg x)))) a (.inr (5, [.ref ra, .int (sz + 1)]))))
      | _ => False)
    | _ => False)
  | _ => False
def rm_X5_append : Room := { frames := 0, cells := 0, slots := 0, locals := 0 }
def k_X5_append_0 (post : Option Value → q_S → Prop) (K : Nat → q_K) : q_K := (c_aload 0 (c_get 5 1 (c_aload 0 (c_get 5 0 (c_alen (c_iclt (c_aload 0 (c_get 5 0 (c_aload 0 (c_get 5 1 (c_iload 1 (c_iast (c_aload 0 (c_dup (c_get 5 1 (c_push 1 (c_iadd (c_put 5 1 (.int) (c_aload 0 (c_get 5 1 (c_iret post))))))))))))))) (c_push (-4) (c_iret post))))))))
set_option maxRecDepth 100000 in
theorem v_X5_append_0 {p : Program} {l : Launch} {e : Env} {s : State} {m : MethodId} {args : Array Value} {below : List Frame} {meth : Method} {c : Code} {D : va_G} {A : Nat → Prop} {post : Option Value → q_S → Prop} {K : Nat → q_K} (C : q_C p s m args meth c cX5_append 2 RX5 "append" (some .int) A) (hK : ∀ h ∈ ([] : List Nat), q_V p l e rm_X5_append s m args below meth c D A 2 (MQ below (q_Qc D A post) args s rm_X5_append.cells rm_X5_append.slots A) h (K h)) : q_V p l e rm_X5_append s m args below meth c D A 2 (MQ below (q_Qc D A post) args s rm_X5_append.cells rm_X5_append.slots A) 0 (k_X5_append_0 post K) := by
  unfold k_X5_append_0
  refine q_aload_n C (by decide +kernel : decode cX5_append 0 = .ok (.aload_n 0, 1)) ?_
  refine q_get C (ci := 5) (j := 1) (C0 := RX5) (T := TX5) (N := 2) rfl iX5 giX5 (by decide) w9_149 (by decide +kernel : decode cX5_append 1 = .ok (.getfield 15, 3)) ?_
  refine q_aload_n C (by decide +kernel : decode cX5_append 4 = .ok (.aload_n 0, 1)) ?_
  refine q_get C (ci := 5) (j := 0) (C0 := RX5) (T := TX5) (N := 2) rfl iX5 giX5 (by decide) w9_148 (by decide +kernel : decode cX5_append 5 = .ok (.getfield 9, 3)) ?_
  refine q_alen C (by decide +kernel : decode cX5_append 8 = .ok (.arraylength, 1)) ?_
  refine q_iclt C (tgt := 15) (by decide +kernel : decode cX5_append 9 = .ok (.if_icmp .lt 6, 3)) (by decide) ?_ ?_
  · refine q_aload_n C (by decide +kernel : decode cX5_append 15 = .ok (.aload_n 0, 1)) ?_
    refine q_get C (ci := 5) (j := 0) (C0 := RX5) (T := TX5) (N := 2) rfl iX5 giX5 (by decide) w9_148 (by decide +kernel : decode cX5_append 16 = .ok (.getfield 9, 3)) ?_
    refine q_aload_n C (by decide +kernel : decode cX5_append 19 = .ok (.aload_n 0, 1)) ?_
    refine q_get C (ci := 5) (j := 1) (C0 := RX5) (T := TX5) (N := 2) rfl iX5 giX5 (by decide) w9_149 (by decide +kernel : decode cX5_append 20 = .ok (.getfield 15, 3)) ?_
    refine q_iload_n C (by decide +kernel : decode cX5_append 23 = .ok (.iload_n 1, 1)) ?_
    refine q_iast C (by decide +kernel : decode cX5_append 24 = .ok (.iastore, 1)) ?_
    refine q_aload_n C (by decide +kernel : decode cX5_append 25 = .ok (.aload_n 0, 1)) ?_
    refine q_dup C (by decide +kernel : decode cX5_append 26 = .ok (.dup, 1)) ?_
    refine q_get C (ci := 5) (j := 1) (C0 := RX5) (T := TX5) (N := 2) rfl iX5 giX5 (by decide) w9_149 (by decide +kernel : decode cX5_append 27 = .ok (.getfield 15, 3)) ?_
    refine q_iconst C (by decide +kernel : decode cX5_append 30 = .ok (.iconst 1, 1)) (by decide) ?_
    refine q_iadd C (by decide +kernel : decode cX5_append 31 = .ok (.iadd, 1)) ?_
    refine q_put C (ci := 5) (j := 1) (C0 := RX5) (T := TX5) (N := 2) (ty := .int) rfl iX5 giX5 (by decide) tyX5 tyX5_ok nmX5 (by decide +kernel) rfl w9_149 (by decide +kernel : decode cX5_append 32 = .ok (.putfield 15, 3)) ?_
    refine q_aload_n C (by decide +kernel : decode cX5_append 35 = .ok (.aload_n 0, 1)) ?_
    refine q_get C (ci := 5) (j := 1) (C0 := RX5) (T := TX5) (N := 2) rfl iX5 giX5 (by decide) w9_149 (by decide +kernel : decode cX5_append 36 = .ok (.getfield 15, 3)) ?_
    exact q_iret C rfl (by decide +kernel : decode cX5_append 39 = .ok (.ireturn, 1))
  · refine q_bipush C (by decide +kernel : decode cX5_append 12 = .ok (.bipush (-4), 2)) (by decide) ?_
    exact q_iret C rfl (by decide +kernel : decode cX5_append 14 = .ok (.ireturn, 1))
theorem u_X5_append (l : Launch) {sp : q_Sp} (H : ∀ (av : List Value) (σ : q_S) (post : Option Value → q_S → Prop), sp av σ post → k_X5_append_0 post (fun _ _ _ _ _ _ => False) (q_L0 av 2) [] σ 0 0 ∧ av.length ≤ 2 ∧ ∀ v ∈ av, v.category = 1) : q_Ct l yX5_append cX5_append 2 (some .int) rm_X5_append sp := by
  refine q_met (by decide) ?_
  intro D A p e s m args below meth c σ av post C hsp
  obtain ⟨h1, h2, h3⟩ := H av σ post hsp
  exact ⟨_, v_X5_append_0 (K := fun _ _ _ _ _ _ => False) C (fun h hh => by cases hh), h1, h2, h3⟩
theorem t_X5_append (l : Launch) : q_Ct l yX5_append cX5_append 2 (some .int) rm_X5_append s_X5_append := u_X5_append l (by
  intro av σ post h
  unfold s_X5_append at h
  split at h
  · split at h
    · next e =>
      split at h
      · next e2 =>
        refine ⟨?_, by simp, by simp [Value.category]⟩
        have hne := ne_ao e2 e
        simp only [c_push, c_null, c_iload, c_aload, c_istore, c_astore, c_iinc, c_iadd, c_isub, c_imul, c_iand, c_ineg, c_dup, c_dup2, c_pop, c_ifnull, c_ifnonnull, c_get, c_put, c_iald, c_zald, c_iast, c_zast, c_aald, c_aast, c_alen, c_new, c_newa, c_newq, c_mna, c_oinit, c_max, c_copy, c_iret, c_zret, c_aret, c_vret, q_do, q_rc, c_ifeq, c_ifne, c_iflt, c_ifge, c_ifgt, c_ifle, c_iceq, c_icne, c_iclt, c_icge, c_icgt, c_icle, c_call0, c_call1, c_call2, c_call3, c_call4, c_call5, c_call6, c_call7, q_L0, List.map_cons, List.map_nil, List.replicate, List.cons_append, List.nil_append, List.append_nil, List.length_cons, List.length_nil, List.length_set, Nat.reduceSub, Nat.reduceAdd, Nat.reduceLT, Nat.reduceLeDiff, Nat.zero_add, Nat.add_zero, Nat.sub_zero, Nat.sub_self, List.getElem?_cons_zero, List.getElem?_cons_succ, List.set_cons_zero, List.set_cons_succ, Option.toList_some, Option.toList_none, List.sum_cons, List.sum_nil, true_and, and_true, true_or, or_true, Nat.le_refl, Nat.zero_le, Value.category, Fin.isValue, Fin.val_zero, Fin.val_one, Fin.val_two, Fin.reduceFinMk, q_10, q_01, not_false_eq_true, not_true_eq_false, forall_const, true_implies, false_implies, implies_true, q_ni, q_fi, q_nb0, q_nb1, q_fb0, q_fb1, q_nor, q_nar, q_for, q_far, q_non, q_nan, q_fon, q_fan, imp_false, false_and, and_false, and_self, false_or, or_false, va_rf, refKind, k_X5_append_0, q_fld, q_fset, q_oc, q_ai, q_aq, q_len, q_up_s, q_up_up, if_true, e, e2, q_up_n hne.symm, q_up_n hne, len20, vpi20]
        grind
      · exact h.elim
    · exact h.elim
  · exact h.elim)
def s_X5_rowAt : q_Sp := fun av σ post => match av with
  | [.ref a, .int i] => (match σ a with
    | some (.inr (5, [.ref ra, .int sz])) => (match σ ra with
      | some (.inl (.int, 20, .inl f)) => sz ≤ 20 ∧ (0 ≤ i ∧ i < sz → post (some (.int (f i.toNatClampNeg))) σ) ∧ (¬ (0 ≤ i ∧ i < sz) → post (some (.int 0)) σ)
      | _ => False)
    | _ => False)
  | _ => False
def rm_X5_rowAt : Room := { frames := 0, cells := 0, slots := 0, locals := 0 }
def k_X5_rowAt_31 (post : Option Value → q_S → Prop) (K : Nat → q_K) : q_K := (c_iret post)
def k_X5_rowAt_30 (post : Option Value → q_S → Prop) (K : Nat → q_K) : q_K := (c_push 0 (k_X5_rowAt_31 post K))
def k_X5_rowAt_0 (post : Option Value → q_S → Prop) (K : Nat → q_K) : q_K := (c_iload 1 (c_iflt (k_X5_rowAt_30 post K) (c_iload 1 (c_aload 0 (c_get 5 1 (c_icge (k_X5_rowAt_30 post K) (c_iload 1 (c_aload 0 (c_get 5 0 (c_alen (c_icge (k_X5_rowAt_30 post K) (c_aload 0 (c_get 5 0 (c_iload 1 (c_iald (k_X5_rowAt_31 post K))))))))))))))))
set_option maxRecDepth 100000 in
theorem v_X5_rowAt_31 {p : Program} {l : Launch} {e : Env} {s : State} {m : MethodId} {args : Array Value} {below : List Frame} {meth : Method} {c : Code} {D : va_G} {A : Nat → Prop} {post : Option Value → q_S → Prop} {K : Nat → q_K} (C : q_C p s m args meth c cX5_rowAt 2 RX5 "rowAt" (some .int) A) (hK : ∀ h ∈ ([] : List Nat), q_V p l e rm_X5_rowAt s m args below meth c D A 2 (MQ below (q_Qc D A post) args s rm_X5_rowAt.cells rm_X5_rowAt.slots A) h (K h)) : q_V p l e rm_X5_rowAt s m args below meth c D A 2 (MQ below (q_Qc D A post) args s rm_X5_rowAt.cells rm_X5_rowAt.slots A) 31 (k_X5_rowAt_31 post K) := by
  unfold k_X5_rowAt_31
  exact q_iret C rfl (by decide +kernel : decode cX5_rowAt 31 = .ok (.ireturn, 1))
set_option maxRecDepth 100000 in
theorem v_X5_rowAt_30 {p : Program} {l : Launch} {e : Env} {s : State} {m : MethodId} {args : Array Value} {below : List Frame} {meth : Method} {c : Code} {D : va_G} {A : Nat → Prop} {post : Option Value → q_S → Prop} {K : Nat → q_K} (C : q_C p s m args meth c cX5_rowAt 2 RX5 "rowAt" (some .int) A) (hK : ∀ h ∈ ([] : List Nat), q_V p l e rm_X5_rowAt s m args below meth c D A 2 (MQ below (q_Qc D A post) args s rm_X5_rowAt.cells rm_X5_rowAt.slots A) h (K h)) : q_V p l e rm_X5_rowAt s m args below meth c D A 2 (MQ below (q_Qc D A post) args s rm_X5_rowAt.cells rm_X5_rowAt.slots A) 30 (k_X5_rowAt_30 post K) := by
  unfold k_X5_rowAt_30
  refine q_iconst C (by decide +kernel : decode cX5_rowAt 30 = .ok (.iconst 0, 1)) (by decide) ?_
  exact v_X5_rowAt_31 C hK
set_option maxRecDepth 100000 in
theorem v_X5_rowAt_0 {p : Program} {l : Launch} {e : Env} {s : State} {m : MethodId} {args : Array Value} {below : List Frame} {meth : Method} {c : Code} {D : va_G} {A : Nat → Prop} {post : Option Value → q_S → Prop} {K : Nat → q_K} (C : q_C p s m args meth c cX5_rowAt 2 RX5 "rowAt" (some .int) A) (hK : ∀ h ∈ ([] : List Nat), q_V p l e rm_X5_rowAt s m args below meth c D A 2 (MQ below (q_Qc D A post) args s rm_X5_rowAt.cells rm_X5_rowAt.slots A) h (K h)) : q_V p l e rm_X5_rowAt s m args below meth c D A 2 (MQ below (q_Qc D A post) args s rm_X5_rowAt.cells rm_X5_rowAt.slots A) 0 (k_X5_rowAt_0 post K) := by
  unfold k_X5_rowAt_0
  refine q_iload_n C (by decide +kernel : decode cX5_rowAt 0 = .ok (.iload_n 1, 1)) ?_
  refine q_iflt C (tgt := 30) (by decide +kernel : decode cX5_rowAt 1 = .ok (.ifCond .lt 29, 3)) (by decide) ?_ ?_
  · exact v_X5_rowAt_30 C hK
  · refine q_iload_n C (by decide +kernel : decode cX5_rowAt 4 = .ok (.iload_n 1, 1)) ?_
    refine q_aload_n C (by decide +kernel : decode cX5_rowAt 5 = .ok (.aload_n 0, 1)) ?_
    refine q_get C (ci := 5) (j := 1) (C0 := RX5) (T := TX5) (N := 2) rfl iX5 giX5 (by decide) w9_149 (by decide +kernel : decode cX5_rowAt 6 = .ok (.getfield 15, 3)) ?_
    refine q_icge C (tgt := 30) (by decide +kernel : decode cX5_rowAt 9 = .ok (.if_icmp .ge 21, 3)) (by decide) ?_ ?_
    · exact v_X5_rowAt_30 C hK
    · refine q_iload_n C (by decide +kernel : decode cX5_rowAt 12 = .ok (.iload_n 1, 1)) ?_
      refine q_aload_n C (by decide +kernel : decode cX5_rowAt 13 = .ok (.aload_n 0, 1)) ?_
      refine q_get C (ci := 5) (j := 0) (C0 := RX5) (T := TX5) (N := 2) rfl iX5 giX5 (by decide) w9_148 (by decide +kernel : decode cX5_rowAt 14 = .ok (.getfield 9, 3)) ?_
      refine q_alen C (by decide +kernel : decode cX5_rowAt 17 = .ok (.arraylength, 1)) ?_
      refine q_icge C (tgt := 30) (by decide +kernel : decode cX5_rowAt 18 = .ok (.if_icmp .ge 12, 3)) (by decide) ?_ ?_
      · exact v_X5_rowAt_30 C hK
      · refine q_aload_n C (by decide +kernel : decode cX5_rowAt 21 = .ok (.aload_n 0, 1)) ?_
        refine q_get C (ci := 5) (j := 0) (C0 := RX5) (T := TX5) (N := 2) rfl iX5 giX5 (by decide) w9_148 (by decide +kernel : decode cX5_rowAt 22 = .ok (.getfield 9, 3)) ?_
        refine q_iload_n C (by decide +kernel : decode cX5_rowAt 25 = .ok (.iload_n 1, 1)) ?_
        refine q_iald C (by decide +kernel : decode cX5_rowAt 26 = .ok (.iaload, 1)) ?_
        refine q_goto C (tgt := 31) (by decide +kernel : decode cX5_rowAt 27 = .ok (.goto 4, 3)) (by decide) ?_
        exact v_X5_rowAt_31 C hK
theorem u_X5_rowAt (l : Launch) {sp : q_Sp} (H : ∀ (av : List Value) (σ : q_S) (post : Option Value → q_S → Prop), sp av σ post → k_X5_rowAt_0 post (fun _ _ _ _ _ _ => False) (q_L0 av 2) [] σ 0 0 ∧ av.length ≤ 2 ∧ ∀ v ∈ av, v.category = 1) : q_Ct l yX5_rowAt cX5_rowAt 2 (some .int) rm_X5_rowAt sp := by
  refine q_met (by decide) ?_
  intro D A p e s m args below meth c σ av post C hsp
  obtain ⟨h1, h2, h3⟩ := H av σ post hsp
  exact ⟨_, v_X5_rowAt_0 (K := fun _ _ _ _ _ _ => False) C (fun h hh => by cases hh), h1, h2, h3⟩
theorem t_X5_rowAt (l : Launch) : q_Ct l yX5_rowAt cX5_rowAt 2 (some .int) rm_X5_rowAt s_X5_rowAt := u_X5_rowAt l (by
  intro av σ post h
  unfold s_X5_rowAt at h
  split at h
  · split at h
    · next e =>
      split at h
      · next e2 =>
        refine ⟨?_, by simp, by simp [Value.category]⟩
        simp only [c_push, c_null, c_iload, c_aload, c_istore, c_astore, c_iinc, c_iadd, c_isub, c_imul, c_iand, c_ineg, c_dup, c_dup2, c_pop, c_ifnull, c_ifnonnull, c_get, c_put, c_iald, c_zald, c_iast, c_zast, c_aald, c_aast, c_alen, c_new, c_newa, c_newq, c_mna, c_oinit, c_max, c_copy, c_iret, c_zret, c_aret, c_vret, q_do, q_rc, c_ifeq, c_ifne, c_iflt, c_ifge, c_ifgt, c_ifle, c_iceq, c_icne, c_iclt, c_icge, c_icgt, c_icle, c_call0, c_call1, c_call2, c_call3, c_call4, c_call5, c_call6, c_call7, q_L0, List.map_cons, List.map_nil, List.replicate, List.cons_append, List.nil_append, List.append_nil, List.length_cons, List.length_nil, List.length_set, Nat.reduceSub, Nat.reduceAdd, Nat.reduceLT, Nat.reduceLeDiff, Nat.zero_add, Nat.add_zero, Nat.sub_zero, Nat.sub_self, List.getElem?_cons_zero, List.getElem?_cons_succ, List.set_cons_zero, List.set_cons_succ, Option.toList_some, Option.toList_none, List.sum_cons, List.sum_nil, true_and, and_true, true_or, or_true, Nat.le_refl, Nat.zero_le, Value.category, Fin.isValue, Fin.val_zero, Fin.val_one, Fin.val_two, Fin.reduceFinMk, q_10, q_01, not_false_eq_true, not_true_eq_false, forall_const, true_implies, false_implies, implies_true, q_ni, q_fi, q_nb0, q_nb1, q_fb0, q_fb1, q_nor, q_nar, q_for, q_far, q_non, q_nan, q_fon, q_fan, imp_false, false_and, and_false, and_self, false_or, or_false, va_rf, refKind, k_X5_rowAt_0, k_X5_rowAt_30, k_X5_rowAt_31, q_fld, q_fset, q_oc, q_ai, q_aq, q_len, q_up_s, q_up_up, if_true, e, e2, len20, vpi20]
        grind
      · exact h.elim
    · exact h.elim
  · exact h.elim)
def oN (o : Option Nat) : Int32 := match o with
  | some j => nI j
  | none => -1
def s_X5_firstPlaceOf : q_Sp := fun av σ post => match av with
  | [.ref a, .int x, .int s] => ∃ ra f n sN, σ a = some (.inr (5, [.ref ra, .int (nI n)])) ∧ σ ra = some (.inl (.int, 20, .inl f)) ∧ n ≤ 20 ∧ sN ≤ 20 ∧ s = nI sN ∧ post (some (.int (oN (fj (fun j => decide (f j = x)) n sN)))) σ
  | _ => False
theorem w9_150 : (.code yX5_rowAt cX5_rowAt 2 (some .int) : Cond) ∈ lw_tbl := by decide +kernel
theorem w9_151 : (.initialized RX5 : Cond) ∈ lw_tbl := by decide +kernel
theorem w9_152 : (.methodLink RX5 19 yX5_rowAt : Cond) ∈ lw_tbl := by decide +kernel
theorem w9_153 : (.instanceMethod yX5_rowAt : Cond) ∈ lw_tbl := by decide +kernel
theorem w9_154 : (.selects RX5 yX5_rowAt yX5_rowAt : Cond) ∈ lw_tbl := by decide +kernel
def rm_X5_firstPlaceOf : Room := { frames := 1, cells := 0, slots := 0, locals := 21 }
def k_X5_firstPlaceOf_0 (post : Option Value → q_S → Prop) (K : Nat → q_K) : q_K := (c_iload 2 (c_istore 3 (K 2)))
def k_X5_firstPlaceOf_2 (post : Option Value → q_S → Prop) (K : Nat → q_K) : q_K := (c_iload 3 (c_aload 0 (c_get 5 1 (c_icge (c_push (-1) (c_iret post)) (c_aload 0 (c_iload 3 (c_call2 (some 5) s_X5_rowAt 0 0 (c_iload 1 (c_icne (c_iinc 3 1 (K 2)) (c_iload 3 (c_iret post)))))))))))
set_option maxRecDepth 100000 in
theorem v_X5_firstPlaceOf_0 {p : Program} {l : Launch} {e : Env} {s : State} {m : MethodId} {args : Array Value} {below : List Frame} {meth : Method} {c : Code} {D : va_G} {A : Nat → Prop} {post : Option Value → q_S → Prop} {K : Nat → q_K} (C : q_C p s m args meth c cX5_firstPlaceOf 4 RX5 "firstPlaceOf" (some .int) A) (hK : ∀ h ∈ ([2] : List Nat), q_V p l e rm_X5_firstPlaceOf s m args below meth c D A 4 (MQ below (q_Qc D A post) args s rm_X5_firstPlaceOf.cells rm_X5_firstPlaceOf.slots A) h (K h)) : q_V p l e rm_X5_firstPlaceOf s m args below meth c D A 4 (MQ below (q_Qc D A post) args s rm_X5_firstPlaceOf.cells rm_X5_firstPlaceOf.slots A) 0 (k_X5_firstPlaceOf_0 post K) := by
  unfold k_X5_firstPlaceOf_0
  refine q_iload_n C (by decide +kernel : decode cX5_firstPlaceOf 0 = .ok (.iload_n 2, 1)) ?_
  refine q_istore_n C (by decide +kernel : decode cX5_firstPlaceOf 1 = .ok (.istore_n 3, 1)) ?_
  exact hK 2 (by decide)
set_option maxRecDepth 100000 in
theorem v_X5_firstPlaceOf_2 {p : Program} {l : Launch} {e : Env} {s : State} {m : MethodId} {args : Array Value} {below : List Frame} {meth : Method} {c : Code} {D : va_G} {A : Nat → Prop} {post : Option Value → q_S → Prop} {K : Nat → q_K} (C : q_C p s m args meth c cX5_firstPlaceOf 4 RX5 "firstPlaceOf" (some .int) A) (hK : ∀ h ∈ ([2] : List Nat), q_V p l e rm_X5_firstPlaceOf s m args below meth c D A 4 (MQ below (q_Qc D A post) args s rm_X5_firstPlaceOf.cells rm_X5_firstPlaceOf.slots A) h (K h)) : q_V p l e rm_X5_firstPlaceOf s m args below meth c D A 4 (MQ below (q_Qc D A post) args s rm_X5_firstPlaceOf.cells rm_X5_firstPlaceOf.slots A) 2 (k_X5_firstPlaceOf_2 post K) := by
  unfold k_X5_firstPlaceOf_2
  refine q_iload_n C (by decide +kernel : decode cX5_firstPlaceOf 2 = .ok (.iload_n 3, 1)) ?_
  refine q_aload_n C (by decide +kernel : decode cX5_firstPlaceOf 3 = .ok (.aload_n 0, 1)) ?_
  refine q_get C (ci := 5) (j := 1) (C0 := RX5) (T := TX5) (N := 2) rfl iX5 giX5 (by decide) w9_149 (by decide +kernel : decode cX5_firstPlaceOf 4 = .ok (.getfield 15, 3)) ?_
  refine q_icge C (tgt := 27) (by decide +kernel : decode cX5_firstPlaceOf 7 = .ok (.if_icmp .ge 20, 3)) (by decide) ?_ ?_
  · refine q_iconst C (by decide +kernel : decode cX5_firstPlaceOf 27 = .ok (.iconst (-1), 1)) (by decide) ?_
    exact q_iret C rfl (by decide +kernel : decode cX5_firstPlaceOf 28 = .ok (.ireturn, 1))
  · refine q_aload_n C (by decide +kernel : decode cX5_firstPlaceOf 10 = .ok (.aload_n 0, 1)) ?_
    refine q_iload_n C (by decide +kernel : decode cX5_firstPlaceOf 11 = .ok (.iload_n 3, 1)) ?_
    refine q_call2 C (q_coV C (np := 1) (ci := 5) (rc := (RX5, TX5, 2)) (t_X5_rowAt l) w9_150 rfl rfl w9_152 w9_153 w9_154 w9_151 (by decide +kernel) (by decide +kernel : decode cX5_firstPlaceOf 12 = .ok (.invokevirtual 19, 3)) (by decide)) ?_
    refine q_iload_n C (by decide +kernel : decode cX5_firstPlaceOf 15 = .ok (.iload_n 1, 1)) ?_
    refine q_icne C (tgt := 21) (by decide +kernel : decode cX5_firstPlaceOf 16 = .ok (.if_icmp .ne 5, 3)) (by decide) ?_ ?_
    · refine q_iinc C (by decide +kernel : decode cX5_firstPlaceOf 21 = .ok (.iinc 3 1, 3)) (by decide) ?_
      refine q_goto C (tgt := 2) (by decide +kernel : decode cX5_firstPlaceOf 24 = .ok (.goto (-22), 3)) (by decide) ?_
      exact hK 2 (by decide)
    · refine q_iload_n C (by decide +kernel : decode cX5_firstPlaceOf 19 = .ok (.iload_n 3, 1)) ?_
      exact q_iret C rfl (by decide +kernel : decode cX5_firstPlaceOf 20 = .ok (.ireturn, 1))
theorem u_X5_firstPlaceOf (l : Launch) {sp : q_Sp} (H : ∀ (av : List Value) (σ : q_S) (post : Option Value → q_S → Prop), sp av σ post → ∃ Inv : Nat → Nat → q_K, (∀ K : Nat → q_K, (∀ (h n : Nat) (L : List (Option Value)) (st : List Value) (σ : q_S) (cr sr : Nat), Inv h n L st σ cr sr → K h L st σ cr sr) → k_X5_firstPlaceOf_0 post K (q_L0 av 4) [] σ 0 0) ∧ (∀ (K : Nat → q_K) (n : Nat), (∀ (h m : Nat) (L : List (Option Value)) (st : List Value) (σ : q_S) (cr sr : Nat), m < n → Inv h m L st σ cr sr → K h L st σ cr sr) → ∀ (L : List (Option Value)) (st : List Value) (σ : q_S) (cr sr : Nat), Inv 2 n L st σ cr sr → k_X5_firstPlaceOf_2 post K L st σ cr sr) ∧ av.length ≤ 4 ∧ ∀ v ∈ av, v.category = 1) : q_Ct l yX5_firstPlaceOf cX5_firstPlaceOf 4 (some .int) rm_X5_firstPlaceOf sp := by
  refine q_met (by decide) ?_
  intro D A p e s m args below meth c σ av post C hsp
  obtain ⟨Inv, h1, hh2, h2, h3⟩ := H av σ post hsp
  have hV := q_loops (p := p) (l := l) (e := e) (R := rm_X5_firstPlaceOf) (s := s) (m := m) (args := args) (below := below) (meth := meth) (c := c) (D := D) (A := A) (nL := 4) (Q := MQ below (q_Qc D A post) args s rm_X5_firstPlaceOf.cells rm_X5_firstPlaceOf.slots A) [2] (fun h =>  k_X5_firstPlaceOf_2 post) (fun K hK h hh => ?_) Inv (fun n h hh => ?_)
  · exact ⟨_, v_X5_firstPlaceOf_0 C hV, h1 _ (fun h n L st σ cr sr hi => ⟨n, hi⟩), h2, h3⟩
  · have e9 : h = 2 := by simpa using hh
    subst e9
    exact v_X5_firstPlaceOf_2 C hK
  · have e9 : h = 2 := by simpa using hh
    subst e9
    exact hh2 (fun h L st σ cr sr => ∃ m : Nat, m < n ∧ Inv h m L st σ cr sr) n (fun h m L st σ cr sr hm hi => ⟨m, hm, hi⟩)
theorem t_X5_firstPlaceOf (l : Launch) : q_Ct l yX5_firstPlaceOf cX5_firstPlaceOf 4 (some .int) rm_X5_firstPlaceOf s_X5_firstPlaceOf := u_X5_firstPlaceOf l (by
  intro av σ post h
  unfold s_X5_firstPlaceOf at h
  split at h
  · next a x s =>
    obtain ⟨ra, f, n, sN, e, e2, hn, hs, rfl, h1⟩ := h
    refine ⟨fun _ m L st σ' cr sr => ∃ i d, i ≤ 20 ∧ m = 20 - i ∧ σ' = σ ∧ st = [] ∧ fj (fun j => decide (f j = x)) n i = fj (fun j => decide (f j = x)) n sN ∧ L = [some (.ref a), some (.int x), d, some (.int (nI i))], ?_, ?_, by simp, by simp [Value.category]⟩
    · intro K hK
      simp only [c_push, c_null, c_iload, c_aload, c_istore, c_astore, c_iinc, c_iadd, c_isub, c_imul, c_iand, c_ineg, c_dup, c_dup2, c_pop, c_ifnull, c_ifnonnull, c_get, c_put, c_iald, c_zald, c_iast, c_zast, c_aald, c_aast, c_alen, c_new, c_newa, c_newq, c_mna, c_oinit, c_max, c_copy, c_iret, c_zret, c_aret, c_vret, q_do, q_rc, c_ifeq, c_ifne, c_iflt, c_ifge, c_ifgt, c_ifle, c_iceq, c_icne, c_iclt, c_icge, c_icgt, c_icle, c_call0, c_call1, c_call2, c_call3, c_call4, c_call5, c_call6, c_call7, q_L0, List.map_cons, List.map_nil, List.replicate, List.cons_append, List.nil_append, List.append_nil, List.length_cons, List.length_nil, List.length_set, Nat.reduceSub, Nat.reduceAdd, Nat.reduceLT, Nat.reduceLeDiff, Nat.zero_add, Nat.add_zero, Nat.sub_zero, Nat.sub_self, List.getElem?_cons_zero, List.getElem?_cons_succ, List.set_cons_zero, List.set_cons_succ, Option.toList_some, Option.toList_none, List.sum_cons, List.sum_nil, true_and, and_true, true_or, or_true, Nat.le_refl, Nat.zero_le, Value.category, Fin.isValue, Fin.val_zero, Fin.val_one, Fin.val_two, Fin.reduceFinMk, q_10, q_01, not_false_eq_true, not_true_eq_false, forall_const, true_implies, false_implies, implies_true, q_ni, q_fi, q_nb0, q_nb1, q_fb0, q_fb1, q_nor, q_nar, q_for, q_far, q_non, q_nan, q_fon, q_fan, imp_false, false_and, and_false, and_self, false_or, or_false, va_rf, refKind, k_X5_firstPlaceOf_0, k_X5_firstPlaceOf_2]
      exact hK _ (20 - sN) _ _ _ _ _ ⟨sN, some (.int (nI sN)), hs, rfl, rfl, rfl, rfl, rfl⟩
    · rintro K m hK L st σ' cr sr ⟨i, d, hi, rfl, rfl, rfl, hf, rfl⟩
      simp only [c_push, c_null, c_iload, c_aload, c_istore, c_astore, c_iinc, c_iadd, c_isub, c_imul, c_iand, c_ineg, c_dup, c_dup2, c_pop, c_ifnull, c_ifnonnull, c_get, c_put, c_iald, c_zald, c_iast, c_zast, c_aald, c_aast, c_alen, c_new, c_newa, c_newq, c_mna, c_oinit, c_max, c_copy, c_iret, c_zret, c_aret, c_vret, q_do, q_rc, c_ifeq, c_ifne, c_iflt, c_ifge, c_ifgt, c_ifle, c_iceq, c_icne, c_iclt, c_icge, c_icgt, c_icle, c_call0, c_call1, c_call2, c_call3, c_call4, c_call5, c_call6, c_call7, q_L0, List.map_cons, List.map_nil, List.replicate, List.cons_append, List.nil_append, List.append_nil, List.length_cons, List.length_nil, List.length_set, Nat.reduceSub, Nat.reduceAdd, Nat.reduceLT, Nat.reduceLeDiff, Nat.zero_add, Nat.add_zero, Nat.sub_zero, Nat.sub_self, List.getElem?_cons_zero, List.getElem?_cons_succ, List.set_cons_zero, List.set_cons_succ, Option.toList_some, Option.toList_none, List.sum_cons, List.sum_nil, true_and, and_true, true_or, or_true, Nat.le_refl, Nat.zero_le, Value.category, Fin.isValue, Fin.val_zero, Fin.val_one, Fin.val_two, Fin.reduceFinMk, q_10, q_01, not_false_eq_true, not_true_eq_false, forall_const, true_implies, false_implies, implies_true, q_ni, q_fi, q_nb0, q_nb1, q_fb0, q_fb1, q_nor, q_nar, q_for, q_far, q_non, q_nan, q_fon, q_fan, imp_false, false_and, and_false, and_self, false_or, or_false, va_rf, refKind, k_X5_firstPlaceOf_0, k_X5_firstPlaceOf_2, q_fld, q_fset, q_oc, q_ai, q_aq, q_len, q_up_s, q_up_up, if_true, e, e2, s_X5_rowAt]
      rw [(cl2 (nI n) (nI i) _ _ rfl rfl (by omega) (by omega)).1, (cl2 (nI i) (nI n) _ _ rfl rfl (by omega) (by omega)).2.1, clN (by omega)]
      rw [fj] at hf
      refine ⟨fun c => ?_, fun c => ⟨nI_leN (N := 20) (by omega), fun c1 => ⟨fun c2 => ?_, fun c2 => ?_⟩, fun c1 => absurd ⟨nI_low (by omega), by omega⟩ c1⟩⟩
      · rw [if_neg (by omega)] at hf
        rw [← hf] at h1
        exact h1
      · rw [if_pos (by omega), if_neg (by simp [c2])] at hf
        exact hK _ (20 - (i + 1)) _ _ _ _ _ (by omega) ⟨i + 1, d, by omega, rfl, rfl, rfl, hf, by rw [nI_1]⟩
      · rw [if_pos (by omega), if_pos (by simp [c2])] at hf
        rw [← hf] at h1
        exact h1
  · exact h.elim)
-- CommonLines
def s_X2_init : q_Sp := fun av σ post => match av with
  | [.ref a] => σ a = some (.inr (2, [.null, .int 0])) ∧ ∀ q, σ q = none → post none (q_up (q_up σ q (.inl (.boolean, 1000, .inl (fun _ => 0)))) a (.inr (2, [.ref q, .int 0])))
  | _ => False
theorem w9_155 : (.methodLink RX2 3 objectInit : Cond) ∈ lw_tbl := by decide +kernel
theorem w9_156 : (.fieldLink RX2 9 (TX2 0).1 (TX2 0).2.1 (TX2 0).2.2.1 : Cond) ∈ lw_tbl := by decide +kernel
theorem w9_157 : (.fieldLink RX2 15 (TX2 1).1 (TX2 1).2.1 (TX2 1).2.2.1 : Cond) ∈ lw_tbl := by decide +kernel
def rm_X2_init : Room := { frames := 1, cells := 1, slots := 1000, locals := 20 }
def k_X2_init_0 (post : Option Value → q_S → Prop) (K : Nat → q_K) : q_K := (c_aload 0 (c_oinit (c_aload 0 (c_push 1000 (c_newa .boolean (c_put 2 0 (.array .boolean) (c_aload 0 (c_push 0 (c_put 2 1 (.int) (c_vret post))))))))))
set_option maxRecDepth 100000 in
theorem v_X2_init_0 {p : Program} {l : Launch} {e : Env} {s : State} {m : MethodId} {args : Array Value} {below : List Frame} {meth : Method} {c : Code} {D : va_G} {A : Nat → Prop} {post : Option Value → q_S → Prop} {K : Nat → q_K} (C : q_C p s m args meth c cX2_init 1 RX2 "<init>" none A) (hK : ∀ h ∈ ([] : List Nat), q_V p l e rm_X2_init s m args below meth c D A 1 (MQ below (q_Qc D A post) args s rm_X2_init.cells rm_X2_init.slots A) h (K h)) : q_V p l e rm_X2_init s m args below meth c D A 1 (MQ below (q_Qc D A post) args s rm_X2_init.cells rm_X2_init.slots A) 0 (k_X2_init_0 post K) := by
  unfold k_X2_init_0
  refine q_aload_n C (by decide +kernel : decode cX2_init 0 = .ok (.aload_n 0, 1)) ?_
  refine q_oinit C w9_155 w9_112 w9_113 (by decide) (by decide +kernel : decode cX2_init 1 = .ok (.invokespecial 3, 3)) ?_
  refine q_aload_n C (by decide +kernel : decode cX2_init 4 = .ok (.aload_n 0, 1)) ?_
  refine q_sipush C (by decide +kernel : decode cX2_init 5 = .ok (.sipush 1000, 3)) (by decide) ?_
  refine q_newaZ C w9_115 (by decide +kernel : decode cX2_init 8 = .ok (.newarray .boolean, 2)) ?_
  refine q_putF C (ci := 2) (j := 0) (C0 := RX2) (T := TX2) (N := 2) (ty := .array .boolean) rfl iX2 giX2 (by decide) tyX2 tyX2_ok nmX2 (by decide +kernel) rfl rfl rfl w9_156 (by decide +kernel : decode cX2_init 10 = .ok (.putfield 9, 3)) ?_
  refine q_aload_n C (by decide +kernel : decode cX2_init 13 = .ok (.aload_n 0, 1)) ?_
  refine q_iconst C (by decide +kernel : decode cX2_init 14 = .ok (.iconst 0, 1)) (by decide) ?_
  refine q_put C (ci := 2) (j := 1) (C0 := RX2) (T := TX2) (N := 2) (ty := .int) rfl iX2 giX2 (by decide) tyX2 tyX2_ok nmX2 (by decide +kernel) rfl w9_157 (by decide +kernel : decode cX2_init 15 = .ok (.putfield 15, 3)) ?_
  exact q_vret C rfl (by decide +kernel : decode cX2_init 18 = .ok (.return_, 1))
theorem u_X2_init (l : Launch) {sp : q_Sp} (H : ∀ (av : List Value) (σ : q_S) (post : Option Value → q_S → Prop), sp av σ post → k_X2_init_0 post (fun _ _ _ _ _ _ => False) (q_L0 av 1) [] σ 1 1000 ∧ av.length ≤ 1 ∧ ∀ v ∈ av, v.category = 1) : q_Ct l yX2_init cX2_init 1 none rm_X2_init sp := by
  refine q_met (by decide) ?_
  intro D A p e s m args below meth c σ av post C hsp
  obtain ⟨h1, h2, h3⟩ := H av σ post hsp
  exact ⟨_, v_X2_init_0 (K := fun _ _ _ _ _ _ => False) C (fun h hh => by cases hh), h1, h2, h3⟩
theorem t_X2_init (l : Launch) : q_Ct l yX2_init cX2_init 1 none rm_X2_init s_X2_init := u_X2_init l (by
  intro av σ post h
  unfold s_X2_init at h
  split at h
  · next a =>
    refine ⟨?_, by simp, by simp [Value.category]⟩
    have e9 : (1000 : Int32).toNatClampNeg = 1000 := rfl
    simp only [c_push, c_null, c_iload, c_aload, c_istore, c_astore, c_iinc, c_iadd, c_isub, c_imul, c_iand, c_ineg, c_dup, c_dup2, c_pop, c_ifnull, c_ifnonnull, c_get, c_put, c_iald, c_zald, c_iast, c_zast, c_aald, c_aast, c_alen, c_new, c_newa, c_newq, c_mna, c_oinit, c_max, c_copy, c_iret, c_zret, c_aret, c_vret, q_do, q_rc, c_ifeq, c_ifne, c_iflt, c_ifge, c_ifgt, c_ifle, c_iceq, c_icne, c_iclt, c_icge, c_icgt, c_icle, c_call0, c_call1, c_call2, c_call3, c_call4, c_call5, c_call6, c_call7, q_L0, List.map_cons, List.map_nil, List.replicate, List.cons_append, List.nil_append, List.append_nil, List.length_cons, List.length_nil, List.length_set, Nat.reduceSub, Nat.reduceAdd, Nat.reduceLT, Nat.reduceLeDiff, Nat.zero_add, Nat.add_zero, Nat.sub_zero, Nat.sub_self, List.getElem?_cons_zero, List.getElem?_cons_succ, List.set_cons_zero, List.set_cons_succ, Option.toList_some, Option.toList_none, List.sum_cons, List.sum_nil, true_and, and_true, true_or, or_true, Nat.le_refl, Nat.zero_le, Value.category, Fin.isValue, Fin.val_zero, Fin.val_one, Fin.val_two, Fin.reduceFinMk, q_10, q_01, not_false_eq_true, not_true_eq_false, forall_const, true_implies, false_implies, implies_true, q_ni, q_fi, q_nb0, q_nb1, q_fb0, q_fb1, q_nor, q_nar, q_for, q_far, q_non, q_nan, q_fon, q_fan, imp_false, false_and, and_false, and_self, false_or, or_false, va_rf, refKind, k_X2_init_0, q_fld, q_fset, q_oc, q_ai, q_aq, q_len, q_up_s, q_up_up, if_true, h.1, e9]
    refine ⟨by decide, fun q hq => ?_⟩
    have hne : a ≠ q := fun e => by rw [← e, h.1] at hq; cases hq
    simp only [c_push, c_null, c_iload, c_aload, c_istore, c_astore, c_iinc, c_iadd, c_isub, c_imul, c_iand, c_ineg, c_dup, c_dup2, c_pop, c_ifnull, c_ifnonnull, c_get, c_put, c_iald, c_zald, c_iast, c_zast, c_aald, c_aast, c_alen, c_new, c_newa, c_newq, c_mna, c_oinit, c_max, c_copy, c_iret, c_zret, c_aret, c_vret, q_do, q_rc, c_ifeq, c_ifne, c_iflt, c_ifge, c_ifgt, c_ifle, c_iceq, c_icne, c_iclt, c_icge, c_icgt, c_icle, c_call0, c_call1, c_call2, c_call3, c_call4, c_call5, c_call6, c_call7, q_L0, List.map_cons, List.map_nil, List.replicate, List.cons_append, List.nil_append, List.append_nil, List.length_cons, List.length_nil, List.length_set, Nat.reduceSub, Nat.reduceAdd, Nat.reduceLT, Nat.reduceLeDiff, Nat.zero_add, Nat.add_zero, Nat.sub_zero, Nat.sub_self, List.getElem?_cons_zero, List.getElem?_cons_succ, List.set_cons_zero, List.set_cons_succ, Option.toList_some, Option.toList_none, List.sum_cons, List.sum_nil, true_and, and_true, true_or, or_true, Nat.le_refl, Nat.zero_le, Value.category, Fin.isValue, Fin.val_zero, Fin.val_one, Fin.val_two, Fin.reduceFinMk, q_10, q_01, not_false_eq_true, not_true_eq_false, forall_const, true_implies, false_implies, implies_true, q_ni, q_fi, q_nb0, q_nb1, q_fb0, q_fb1, q_nor, q_nar, q_for, q_far, q_non, q_nan, q_fon, q_fan, imp_false, false_and, and_false, and_self, false_or, or_false, va_rf, refKind, q_fld, q_fset, q_oc, q_ai, q_aq, q_len, q_up_s, q_up_up, if_true, q_up_n hne, h.1]
    exact h.2 q hq
  · exact h.elim)
def s_X2_contain : q_Sp := fun av σ post => match av with
  | [.ref a, .int x] => (match σ a with
    | some (.inr (2, [.ref ra, _])) => (match σ ra with
      | some (.inl (.boolean, 1000, .inl f)) => ((0 ≤ x ∧ x < 1000) ∧ ¬ f x.toNatClampNeg = 0 → post (some (.int 1)) σ) ∧ (¬ ((0 ≤ x ∧ x < 1000) ∧ ¬ f x.toNatClampNeg = 0) → post (some (.int 0)) σ)
      | _ => False)
    | _ => False)
  | _ => False
def rm_X2_contain : Room := { frames := 0, cells := 0, slots := 0, locals := 0 }
def k_X2_contain_27 (post : Option Value → q_S → Prop) (K : Nat → q_K) : q_K := (c_zret post)
def k_X2_contain_26 (post : Option Value → q_S → Prop) (K : Nat → q_K) : q_K := (c_push 0 (k_X2_contain_27 post K))
def k_X2_contain_0 (post : Option Value → q_S → Prop) (K : Nat → q_K) : q_K := (c_iload 1 (c_iflt (k_X2_contain_26 post K) (c_iload 1 (c_aload 0 (c_get 2 0 (c_alen (c_icge (k_X2_contain_26 post K) (c_aload 0 (c_get 2 0 (c_iload 1 (c_zald (c_ifeq (k_X2_contain_26 post K) (c_push 1 (k_X2_contain_27 post K))))))))))))))
set_option maxRecDepth 100000 in
theorem v_X2_contain_27 {p : Program} {l : Launch} {e : Env} {s : State} {m : MethodId} {args : Array Value} {below : List Frame} {meth : Method} {c : Code} {D : va_G} {A : Nat → Prop} {post : Option Value → q_S → Prop} {K : Nat → q_K} (C : q_C p s m args meth c cX2_contain 2 RX2 "contain" (some .boolean) A) (hK : ∀ h ∈ ([] : List Nat), q_V p l e rm_X2_contain s m args below meth c D A 2 (MQ below (q_Qc D A post) args s rm_X2_contain.cells rm_X2_contain.slots A) h (K h)) : q_V p l e rm_X2_contain s m args below meth c D A 2 (MQ below (q_Qc D A post) args s rm_X2_contain.cells rm_X2_contain.slots A) 27 (k_X2_contain_27 post K) := by
  unfold k_X2_contain_27
  exact q_zret C rfl (by decide +kernel : decode cX2_contain 27 = .ok (.ireturn, 1))
set_option maxRecDepth 100000 in
theorem v_X2_contain_26 {p : Program} {l : Launch} {e : Env} {s : State} {m : MethodId} {args : Array Value} {below : List Frame} {meth : Method} {c : Code} {D : va_G} {A : Nat → Prop} {post : Option Value → q_S → Prop} {K : Nat → q_K} (C : q_C p s m args meth c cX2_contain 2 RX2 "contain" (some .boolean) A) (hK : ∀ h ∈ ([] : List Nat), q_V p l e rm_X2_contain s m args below meth c D A 2 (MQ below (q_Qc D A post) args s rm_X2_contain.cells rm_X2_contain.slots A) h (K h)) : q_V p l e rm_X2_contain s m args below meth c D A 2 (MQ below (q_Qc D A post) args s rm_X2_contain.cells rm_X2_contain.slots A) 26 (k_X2_contain_26 post K) := by
  unfold k_X2_contain_26
  refine q_iconst C (by decide +kernel : decode cX2_contain 26 = .ok (.iconst 0, 1)) (by decide) ?_
  exact v_X2_contain_27 C hK
set_option maxRecDepth 100000 in
theorem v_X2_contain_0 {p : Program} {l : Launch} {e : Env} {s : State} {m : MethodId} {args : Array Value} {below : List Frame} {meth : Method} {c : Code} {D : va_G} {A : Nat → Prop} {post : Option Value → q_S → Prop} {K : Nat → q_K} (C : q_C p s m args meth c cX2_contain 2 RX2 "contain" (some .boolean) A) (hK : ∀ h ∈ ([] : List Nat), q_V p l e rm_X2_contain s m args below meth c D A 2 (MQ below (q_Qc D A post) args s rm_X2_contain.cells rm_X2_contain.slots A) h (K h)) : q_V p l e rm_X2_contain s m args below meth c D A 2 (MQ below (q_Qc D A post) args s rm_X2_contain.cells rm_X2_contain.slots A) 0 (k_X2_contain_0 post K) := by
  unfold k_X2_contain_0
  refine q_iload_n C (by decide +kernel : decode cX2_contain 0 = .ok (.iload_n 1, 1)) ?_
  refine q_iflt C (tgt := 26) (by decide +kernel : decode cX2_contain 1 = .ok (.ifCond .lt 25, 3)) (by decide) ?_ ?_
  · exact v_X2_contain_26 C hK
  · refine q_iload_n C (by decide +kernel : decode cX2_contain 4 = .ok (.iload_n 1, 1)) ?_
    refine q_aload_n C (by decide +kernel : decode cX2_contain 5 = .ok (.aload_n 0, 1)) ?_
    refine q_get C (ci := 2) (j := 0) (C0 := RX2) (T := TX2) (N := 2) rfl iX2 giX2 (by decide) w9_156 (by decide +kernel : decode cX2_contain 6 = .ok (.getfield 9, 3)) ?_
    refine q_alen C (by decide +kernel : decode cX2_contain 9 = .ok (.arraylength, 1)) ?_
    refine q_icge C (tgt := 26) (by decide +kernel : decode cX2_contain 10 = .ok (.if_icmp .ge 16, 3)) (by decide) ?_ ?_
    · exact v_X2_contain_26 C hK
    · refine q_aload_n C (by decide +kernel : decode cX2_contain 13 = .ok (.aload_n 0, 1)) ?_
      refine q_get C (ci := 2) (j := 0) (C0 := RX2) (T := TX2) (N := 2) rfl iX2 giX2 (by decide) w9_156 (by decide +kernel : decode cX2_contain 14 = .ok (.getfield 9, 3)) ?_
      refine q_iload_n C (by decide +kernel : decode cX2_contain 17 = .ok (.iload_n 1, 1)) ?_
      refine q_zald C (by decide +kernel : decode cX2_contain 18 = .ok (.baload, 1)) ?_
      refine q_ifeq C (tgt := 26) (by decide +kernel : decode cX2_contain 19 = .ok (.ifCond .eq 7, 3)) (by decide) ?_ ?_
      · exact v_X2_contain_26 C hK
      · refine q_iconst C (by decide +kernel : decode cX2_contain 22 = .ok (.iconst 1, 1)) (by decide) ?_
        refine q_goto C (tgt := 27) (by decide +kernel : decode cX2_contain 23 = .ok (.goto 4, 3)) (by decide) ?_
        exact v_X2_contain_27 C hK
theorem u_X2_contain (l : Launch) {sp : q_Sp} (H : ∀ (av : List Value) (σ : q_S) (post : Option Value → q_S → Prop), sp av σ post → k_X2_contain_0 post (fun _ _ _ _ _ _ => False) (q_L0 av 2) [] σ 0 0 ∧ av.length ≤ 2 ∧ ∀ v ∈ av, v.category = 1) : q_Ct l yX2_contain cX2_contain 2 (some .boolean) rm_X2_contain sp := by
  refine q_met (by decide) ?_
  intro D A p e s m args below meth c σ av post C hsp
  obtain ⟨h1, h2, h3⟩ := H av σ post hsp
  exact ⟨_, v_X2_contain_0 (K := fun _ _ _ _ _ _ => False) C (fun h hh => by cases hh), h1, h2, h3⟩
theorem t_X2_contain (l : Launch) : q_Ct l yX2_contain cX2_contain 2 (some .boolean) rm_X2_contain s_X2_contain := u_X2_contain l (by
  intro av σ post h
  unfold s_X2_contain at h
  split at h
  · split at h
    · next e =>
      split at h
      · next e2 =>
        refine ⟨?_, by simp, by simp [Value.category]⟩
        simp only [c_push, c_null, c_iload, c_aload, c_istore, c_astore, c_iinc, c_iadd, c_isub, c_imul, c_iand, c_ineg, c_dup, c_dup2, c_pop, c_ifnull, c_ifnonnull, c_get, c_put, c_iald, c_zald, c_iast, c_zast, c_aald, c_aast, c_alen, c_new, c_newa, c_newq, c_mna, c_oinit, c_max, c_copy, c_iret, c_zret, c_aret, c_vret, q_do, q_rc, c_ifeq, c_ifne, c_iflt, c_ifge, c_ifgt, c_ifle, c_iceq, c_icne, c_iclt, c_icge, c_icgt, c_icle, c_call0, c_call1, c_call2, c_call3, c_call4, c_call5, c_call6, c_call7, q_L0, List.map_cons, List.map_nil, List.replicate, List.cons_append, List.nil_append, List.append_nil, List.length_cons, List.length_nil, List.length_set, Nat.reduceSub, Nat.reduceAdd, Nat.reduceLT, Nat.reduceLeDiff, Nat.zero_add, Nat.add_zero, Nat.sub_zero, Nat.sub_self, List.getElem?_cons_zero, List.getElem?_cons_succ, List.set_cons_zero, List.set_cons_succ, Option.toList_some, Option.toList_none, List.sum_cons, List.sum_nil, true_and, and_true, true_or, or_true, Nat.le_refl, Nat.zero_le, Value.category, Fin.isValue, Fin.val_zero, Fin.val_one, Fin.val_two, Fin.reduceFinMk, q_10, q_01, not_false_eq_true, not_true_eq_false, forall_const, true_implies, false_implies, implies_true, q_ni, q_fi, q_nb0, q_nb1, q_fb0, q_fb1, q_nor, q_nar, q_for, q_far, q_non, q_nan, q_fon, q_fan, imp_false, false_and, and_false, and_self, false_or, or_false, va_rf, refKind, k_X2_contain_0, k_X2_contain_26, k_X2_contain_27, q_fld, q_fset, q_oc, q_ai, q_aq, q_len, q_up_s, q_up_up, if_true, e, e2, len1000, vpi1000]
        grind
      · exact h.elim
    · exact h.elim
  · exact h.elim)
def s_X2_mark : q_Sp := fun av σ post => match av with
  | [.ref a, .int x, .int on] => (match σ a with
    | some (.inr (2, [.ref ra, .int n])) => (match σ ra with
      | some (.inl (.boolean, 1000, .inl f)) => (1 ≤ x ∧ x ≤ 999) ∧ (on = 0 ∨ on = 1) ∧ (on = 1 ∧ f x.toNatClampNeg = 0 ∧ 20 ≤ n → post (some (.int (-4))) σ) ∧ (¬ (on = 1 ∧ f x.toNatClampNeg = 0 ∧ 20 ≤ n) → post (some (.int (if f x.toNatClampNeg = 0 then 0 else 1))) (q_up (q_up σ ra (.inl (.boolean, 1000, .inl (upd f x.toNatClampNeg on)))) a (.inr (2, [.ref ra, .int (n + (on - (if f x.toNatClampNeg = 0 then 0 else 1)))]))))
      | _ => False)
    | _ => False)
  | _ => False
theorem w9_158 : (.code yX10_oneIf cX10_oneIf 1 (some .int) : Cond) ∈ lw_tbl := by decide +kernel
theorem w9_159 : (.static yX10_oneIf : Cond) ∈ lw_tbl := by decide +kernel
def rm_X2_mark : Room := { frames := 1, cells := 0, slots := 0, locals := 20 }
def k_X2_mark_13 (post : Option Value → q_S → Prop) (K : Nat → q_K) : q_K := (c_push (-2) (c_iret post))
def k_X2_mark_43 (post : Option Value → q_S → Prop) (K : Nat → q_K) : q_K := (c_aload 0 (c_get 2 0 (c_iload 1 (c_iload 2 (c_zast (c_aload 0 (c_dup (c_get 2 1 (c_iload 2 (c_call1 none s_X10_oneIf 0 0 (c_iload 3 (c_call1 none s_X10_oneIf 0 0 (c_isub (c_iadd (c_put 2 1 (.int) (c_iload 3 (c_call1 none s_X10_oneIf 0 0 (c_iret post))))))))))))))))))
def k_X2_mark_0 (post : Option Value → q_S → Prop) (K : Nat → q_K) : q_K := (c_iload 1 (c_iflt (k_X2_mark_13 post K) (c_iload 1 (c_aload 0 (c_get 2 0 (c_alen (c_iclt (c_aload 0 (c_get 2 0 (c_iload 1 (c_zald (c_istore 3 (c_iload 2 (c_ifeq (k_X2_mark_43 post K) (c_iload 3 (c_ifne (k_X2_mark_43 post K) (c_aload 0 (c_get 2 1 (c_push 20 (c_iclt (k_X2_mark_43 post K) (c_push (-4) (c_iret post))))))))))))))) (k_X2_mark_13 post K))))))))
set_option maxRecDepth 100000 in
theorem v_X2_mark_13 {p : Program} {l : Launch} {e : Env} {s : State} {m : MethodId} {args : Array Value} {below : List Frame} {meth : Method} {c : Code} {D : va_G} {A : Nat → Prop} {post : Option Value → q_S → Prop} {K : Nat → q_K} (C : q_C p s m args meth c cX2_mark 4 RX2 "mark" (some .int) A) (hK : ∀ h ∈ ([] : List Nat), q_V p l e rm_X2_mark s m args below meth c D A 4 (MQ below (q_Qc D A post) args s rm_X2_mark.cells rm_X2_mark.slots A) h (K h)) : q_V p l e rm_X2_mark s m args below meth c D A 4 (MQ below (q_Qc D A post) args s rm_X2_mark.cells rm_X2_mark.slots A) 13 (k_X2_mark_13 post K) := by
  unfold k_X2_mark_13
  refine q_bipush C (by decide +kernel : decode cX2_mark 13 = .ok (.bipush (-2), 2)) (by decide) ?_
  exact q_iret C rfl (by decide +kernel : decode cX2_mark 15 = .ok (.ireturn, 1))
set_option maxRecDepth 100000 in
theorem v_X2_mark_43 {p : Program} {l : Launch} {e : Env} {s : State} {m : MethodId} {args : Array Value} {below : List Frame} {meth : Method} {c : Code} {D : va_G} {A : Nat → Prop} {post : Option Value → q_S → Prop} {K : Nat → q_K} (C : q_C p s m args meth c cX2_mark 4 RX2 "mark" (some .int) A) (hK : ∀ h ∈ ([] : List Nat), q_V p l e rm_X2_mark s m args below meth c D A 4 (MQ below (q_Qc D A post) args s rm_X2_mark.cells rm_X2_mark.slots A) h (K h)) : q_V p l e rm_X2_mark s m args below meth c D A 4 (MQ below (q_Qc D A post) args s rm_X2_mark.cells rm_X2_mark.slots A) 43 (k_X2_mark_43 post K) := by
  unfold k_X2_mark_43
  refine q_aload_n C (by decide +kernel : decode cX2_mark 43 = .ok (.aload_n 0, 1)) ?_
  refine q_get C (ci := 2) (j := 0) (C0 := RX2) (T := TX2) (N := 2) rfl iX2 giX2 (by decide) w9_156 (by decide +kernel : decode cX2_mark 44 = .ok (.getfield 9, 3)) ?_
  refine q_iload_n C (by decide +kernel : decode cX2_mark 47 = .ok (.iload_n 1, 1)) ?_
  refine q_iload_n C (by decide +kernel : decode cX2_mark 48 = .ok (.iload_n 2, 1)) ?_
  refine q_zast C (by decide +kernel : decode cX2_mark 49 = .ok (.bastore, 1)) ?_
  refine q_aload_n C (by decide +kernel : decode cX2_mark 50 = .ok (.aload_n 0, 1)) ?_
  refine q_dup C (by decide +kernel : decode cX2_mark 51 = .ok (.dup, 1)) ?_
  refine q_get C (ci := 2) (j := 1) (C0 := RX2) (T := TX2) (N := 2) rfl iX2 giX2 (by decide) w9_157 (by decide +kernel : decode cX2_mark 52 = .ok (.getfield 15, 3)) ?_
  refine q_iload_n C (by decide +kernel : decode cX2_mark 55 = .ok (.iload_n 2, 1)) ?_
  refine q_call1 C (q_coSN C (np := 1) (t_X10_oneIf l) w9_158 (by decide +kernel) w9_159 w9_1 (by decide +kernel) (by decide +kernel : decode cX2_mark 56 = .ok (.invokestatic 19, 3)) (by decide)) ?_
  refine q_iload_n C (by decide +kernel : decode cX2_mark 59 = .ok (.iload_n 3, 1)) ?_
  refine q_call1 C (q_coSN C (np := 1) (t_X10_oneIf l) w9_158 (by decide +kernel) w9_159 w9_1 (by decide +kernel) (by decide +kernel : decode cX2_mark 60 = .ok (.invokestatic 19, 3)) (by decide)) ?_
  refine q_isub C (by decide +kernel : decode cX2_mark 63 = .ok (.isub, 1)) ?_
  refine q_iadd C (by decide +kernel : decode cX2_mark 64 = .ok (.iadd, 1)) ?_
  refine q_put C (ci := 2) (j := 1) (C0 := RX2) (T := TX2) (N := 2) (ty := .int) rfl iX2 giX2 (by decide) tyX2 tyX2_ok nmX2 (by decide +kernel) rfl w9_157 (by decide +kernel : decode cX2_mark 65 = .ok (.putfield 15, 3)) ?_
  refine q_iload_n C (by decide +kernel : decode cX2_mark 68 = .ok (.iload_n 3, 1)) ?_
  refine q_call1 C (q_coSN C (np := 1) (t_X10_oneIf l) w9_158 (by decide +kernel) w9_159 w9_1 (by decide +kernel) (by decide +kernel : decode cX2_mark 69 = .ok (.invokestatic 19, 3)) (by decide)) ?_
  exact q_iret C rfl (by decide +kernel : decode cX2_mark 72 = .ok (.ireturn, 1))
set_option maxRecDepth 100000 in
theorem v_X2_mark_0 {p : Program} {l : Launch} {e : Env} {s : State} {m : MethodId} {args : Array Value} {below : List Frame} {meth : Method} {c : Code} {D : va_G} {A : Nat → Prop} {post : Option Value → q_S → Prop} {K : Nat → q_K} (C : q_C p s m args meth c cX2_mark 4 RX2 "mark" (some .int) A) (hK : ∀ h ∈ ([] : List Nat), q_V p l e rm_X2_mark s m args below meth c D A 4 (MQ below (q_Qc D A post) args s rm_X2_mark.cells rm_X2_mark.slots A) h (K h)) : q_V p l e rm_X2_mark s m args below meth c D A 4 (MQ below (q_Qc D A post) args s rm_X2_mark.cells rm_X2_mark.slots A) 0 (k_X2_mark_0 post K) := by
  unfold k_X2_mark_0
  refine q_iload_n C (by decide +kernel : decode cX2_mark 0 = .ok (.iload_n 1, 1)) ?_
  refine q_iflt C (tgt := 13) (by decide +kernel : decode cX2_mark 1 = .ok (.ifCond .lt 12, 3)) (by decide) ?_ ?_
  · exact v_X2_mark_13 C hK
  · refine q_iload_n C (by decide +kernel : decode cX2_mark 4 = .ok (.iload_n 1, 1)) ?_
    refine q_aload_n C (by decide +kernel : decode cX2_mark 5 = .ok (.aload_n 0, 1)) ?_
    refine q_get C (ci := 2) (j := 0) (C0 := RX2) (T := TX2) (N := 2) rfl iX2 giX2 (by decide) w9_156 (by decide +kernel : decode cX2_mark 6 = .ok (.getfield 9, 3)) ?_
    refine q_alen C (by decide +kernel : decode cX2_mark 9 = .ok (.arraylength, 1)) ?_
    refine q_iclt C (tgt := 16) (by decide +kernel : decode cX2_mark 10 = .ok (.if_icmp .lt 6, 3)) (by decide) ?_ ?_
    · refine q_aload_n C (by decide +kernel : decode cX2_mark 16 = .ok (.aload_n 0, 1)) ?_
      refine q_get C (ci := 2) (j := 0) (C0 := RX2) (T := TX2) (N := 2) rfl iX2 giX2 (by decide) w9_156 (by decide +kernel : decode cX2_mark 17 = .ok (.getfield 9, 3)) ?_
      refine q_iload_n C (by decide +kernel : decode cX2_mark 20 = .ok (.iload_n 1, 1)) ?_
      refine q_zald C (by decide +kernel : decode cX2_mark 21 = .ok (.baload, 1)) ?_
      refine q_istore_n C (by decide +kernel : decode cX2_mark 22 = .ok (.istore_n 3, 1)) ?_
      refine q_iload_n C (by decide +kernel : decode cX2_mark 23 = .ok (.iload_n 2, 1)) ?_
      refine q_ifeq C (tgt := 43) (by decide +kernel : decode cX2_mark 24 = .ok (.ifCond .eq 19, 3)) (by decide) ?_ ?_
      · exact v_X2_mark_43 C hK
      · refine q_iload_n C (by decide +kernel : decode cX2_mark 27 = .ok (.iload_n 3, 1)) ?_
        refine q_ifne C (tgt := 43) (by decide +kernel : decode cX2_mark 28 = .ok (.ifCond .ne 15, 3)) (by decide) ?_ ?_
        · exact v_X2_mark_43 C hK
        · refine q_aload_n C (by decide +kernel : decode cX2_mark 31 = .ok (.aload_n 0, 1)) ?_
          refine q_get C (ci := 2) (j := 1) (C0 := RX2) (T := TX2) (N := 2) rfl iX2 giX2 (by decide) w9_157 (by decide +kernel : decode cX2_mark 32 = .ok (.getfield 15, 3)) ?_
          refine q_bipush C (by decide +kernel : decode cX2_mark 35 = .ok (.bipush 20, 2)) (by decide) ?_
          refine q_iclt C (tgt := 43) (by decide +kernel : decode cX2_mark 37 = .ok (.if_icmp .lt 6, 3)) (by decide) ?_ ?_
          · exact v_X2_mark_43 C hK
          · refine q_bipush C (by decide +kernel : decode cX2_mark 40 = .ok (.bipush (-4), 2)) (by decide) ?_
            exact q_iret C rfl (by decide +kernel : decode cX2_mark 42 = .ok (.ireturn, 1))
    · exact v_X2_mark_13 C hK
theorem u_X2_mark (l : Launch) {sp : q_Sp} (H : ∀ (av : List Value) (σ : q_S) (post : Option Value → q_S → Prop), sp av σ post → k_X2_mark_0 post (fun _ _ _ _ _ _ => False) (q_L0 av 4) [] σ 0 0 ∧ av.length ≤ 4 ∧ ∀ v ∈ av, v.category = 1) : q_Ct l yX2_mark cX2_mark 4 (some .int) rm_X2_mark sp := by
  refine q_met (by decide) ?_
  intro D A p e s m args below meth c σ av post C hsp
  obtain ⟨h1, h2, h3⟩ := H av σ post hsp
  exact ⟨_, v_X2_mark_0 (K := fun _ _ _ _ _ _ => False) C (fun h hh => by cases hh), h1, h2, h3⟩
theorem t_X2_mark (l : Launch) : q_Ct l yX2_mark cX2_mark 4 (some .int) rm_X2_mark s_X2_mark := u_X2_mark l (by
  intro av σ post h
  unfold s_X2_mark at h
  split at h
  · split at h
    · next e =>
      split at h
      · next e2 =>
        refine ⟨?_, by simp, by simp [Value.category]⟩
        obtain ⟨hx, hon, h1, h2⟩ := h
        have hne := ne_ao e2 e
        simp only [c_push, c_null, c_iload, c_aload, c_istore, c_astore, c_iinc, c_iadd, c_isub, c_imul, c_iand, c_ineg, c_dup, c_dup2, c_pop, c_ifnull, c_ifnonnull, c_get, c_put, c_iald, c_zald, c_iast, c_zast, c_aald, c_aast, c_alen, c_new, c_newa, c_newq, c_mna, c_oinit, c_max, c_copy, c_iret, c_zret, c_aret, c_vret, q_do, q_rc, c_ifeq, c_ifne, c_iflt, c_ifge, c_ifgt, c_ifle, c_iceq, c_icne, c_iclt, c_icge, c_icgt, c_icle, c_call0, c_call1, c_call2, c_call3, c_call4, c_call5, c_call6, c_call7, q_L0, List.map_cons, List.map_nil, List.replicate, List.cons_append, List.nil_append, List.append_nil, List.length_cons, List.length_nil, List.length_set, Nat.reduceSub, Nat.reduceAdd, Nat.reduceLT, Nat.reduceLeDiff, Nat.zero_add, Nat.add_zero, Nat.sub_zero, Nat.sub_self, List.getElem?_cons_zero, List.getElem?_cons_succ, List.set_cons_zero, List.set_cons_succ, Option.toList_some, Option.toList_none, List.sum_cons, List.sum_nil, true_and, and_true, true_or, or_true, Nat.le_refl, Nat.zero_le, Value.category, Fin.isValue, Fin.val_zero, Fin.val_one, Fin.val_two, Fin.reduceFinMk, q_10, q_01, not_false_eq_true, not_true_eq_false, forall_const, true_implies, false_implies, implies_true, q_ni, q_fi, q_nb0, q_nb1, q_fb0, q_fb1, q_nor, q_nar, q_for, q_far, q_non, q_nan, q_fon, q_fan, imp_false, false_and, and_false, and_self, false_or, or_false, va_rf, refKind, k_X2_mark_0, k_X2_mark_13, k_X2_mark_43, q_fld, q_fset, q_oc, q_ai, q_aq, q_len, q_up_s, q_up_up, if_true, e, e2, q_up_n hne.symm, q_up_n hne, len1000, vpi1000, s_X10_oneIf, nar01 hon]
        rcases hon with rfl | rfl
        · grind (splits := 40)
        · grind (splits := 40)
      · exact h.elim
    · exact h.elim
  · exact h.elim)
def ownC (f c : Nat → Int32) : Nat → Int32
  | 0 => 0
  | i + 1 => ownC f c i + (if (0 ≤ f i ∧ f i < 1000) ∧ ¬ c (f i).toNatClampNeg = 0 then 0 else 1)
def s_X5_sizeWithout : q_Sp := fun av σ post => match av with
  | [.ref a, .ref cl] => ∃ ra f n ca cv c, σ a = some (.inr (5, [.ref ra, .int (nI n)])) ∧ σ ra = some (.inl (.int, 20, .inl f)) ∧ n ≤ 20 ∧ σ cl = some (.inr (2, [.ref ca, cv])) ∧ σ ca = some (.inl (.boolean, 1000, .inl c)) ∧ post (some (.int (ownC f c n))) σ
  | _ => False
theorem w9_160 : (.code yX2_contain cX2_contain 2 (some .boolean) : Cond) ∈ lw_tbl := by decide +kernel
theorem w9_161 : (.initialized RX2 : Cond) ∈ lw_tbl := by decide +kernel
theorem w9_162 : (.methodLink RX5 23 yX2_contain : Cond) ∈ lw_tbl := by decide +kernel
theorem w9_163 : (.instanceMethod yX2_contain : Cond) ∈ lw_tbl := by decide +kernel
theorem w9_164 : (.selects RX2 yX2_contain yX2_contain : Cond) ∈ lw_tbl := by decide +kernel
def rm_X5_sizeWithout : Room := { frames := 1, cells := 0, slots := 0, locals := 21 }
def k_X5_sizeWithout_0 (post : Option Value → q_S → Prop) (K : Nat → q_K) : q_K := (c_push 0 (c_istore 2 (c_push 0 (c_istore 3 (K 4)))))
def k_X5_sizeWithout_27 (post : Option Value → q_S → Prop) (K : Nat → q_K) : q_K := (c_iinc 3 1 (K 4))
def k_X5_sizeWithout_4 (post : Option Value → q_S → Prop) (K : Nat → q_K) : q_K := (c_iload 3 (c_aload 0 (c_get 5 1 (c_icge (c_iload 2 (c_iret post)) (c_aload 1 (c_aload 0 (c_iload 3 (c_call2 (some 5) s_X5_rowAt 0 0 (c_call2 (some 2) s_X2_contain 0 0 (c_ifne (k_X5_sizeWithout_27 post K) (c_iinc 2 1 (k_X5_sizeWithout_27 post K))))))))))))
set_option maxRecDepth 100000 in
theorem v_X5_sizeWithout_0 {p : Program} {l : Launch} {e : Env} {s : State} {m : MethodId} {args : Array Value} {below : List Frame} {meth : Method} {c : Code} {D : va_G} {A : Nat → Prop} {post : Option Value → q_S → Prop} {K : Nat → q_K} (C : q_C p s m args meth c cX5_sizeWithout 4 RX5 "sizeWithout" (some .int) A) (hK : ∀ h ∈ ([4] : List Nat), q_V p l e rm_X5_sizeWithout s m args below meth c D A 4 (MQ below (q_Qc D A post) args s rm_X5_sizeWithout.cells rm_X5_sizeWithout.slots A) h (K h)) : q_V p l e rm_X5_sizeWithout s m args below meth c D A 4 (MQ below (q_Qc D A post) args s rm_X5_sizeWithout.cells rm_X5_sizeWithout.slots A) 0 (k_X5_sizeWithout_0 post K) := by
  unfold k_X5_sizeWithout_0
  refine q_iconst C (by decide +kernel : decode cX5_sizeWithout 0 = .ok (.iconst 0, 1)) (by decide) ?_
  refine q_istore_n C (by decide +kernel : decode cX5_sizeWithout 1 = .ok (.istore_n 2, 1)) ?_
  refine q_iconst C (by decide +kernel : decode cX5_sizeWithout 2 = .ok (.iconst 0, 1)) (by decide) ?_
  refine q_istore_n C (by decide +kernel : decode cX5_sizeWithout 3 = .ok (.istore_n 3, 1)) ?_
  exact hK 4 (by decide)
set_option maxRecDepth 100000 in
theorem v_X5_sizeWithout_27 {p : Program} {l : Launch} {e : Env} {s : State} {m : MethodId} {args : Array Value} {below : List Frame} {meth : Method} {c : Code} {D : va_G} {A : Nat → Prop} {post : Option Value → q_S → Prop} {K : Nat → q_K} (C : q_C p s m args meth c cX5_sizeWithout 4 RX5 "sizeWithout" (some .int) A) (hK : ∀ h ∈ ([4] : List Nat), q_V p l e rm_X5_sizeWithout s m args below meth c D A 4 (MQ below (q_Qc D A post) args s rm_X5_sizeWithout.cells rm_X5_sizeWithout.slots A) h (K h)) : q_V p l e rm_X5_sizeWithout s m args below meth c D A 4 (MQ below (q_Qc D A post) args s rm_X5_sizeWithout.cells rm_X5_sizeWithout.slots A) 27 (k_X5_sizeWithout_27 post K) := by
  unfold k_X5_sizeWithout_27
  refine q_iinc C (by decide +kernel : decode cX5_sizeWithout 27 = .ok (.iinc 3 1, 3)) (by decide) ?_
  refine q_goto C (tgt := 4) (by decide +kernel : decode cX5_sizeWithout 30 = .ok (.goto (-26), 3)) (by decide) ?_
  exact hK 4 (by decide)
set_option maxRecDepth 100000 in
theorem v_X5_sizeWithout_4 {p : Program} {l : Launch} {e : Env} {s : State} {m : MethodId} {args : Array Value} {below : List Frame} {meth : Method} {c : Code} {D : va_G} {A : Nat → Prop} {post : Option Value → q_S → Prop} {K : Nat → q_K} (C : q_C p s m args meth c cX5_sizeWithout 4 RX5 "sizeWithout" (some .int) A) (hK : ∀ h ∈ ([4] : List Nat), q_V p l e rm_X5_sizeWithout s m args below meth c D A 4 (MQ below (q_Qc D A post) args s rm_X5_sizeWithout.cells rm_X5_sizeWithout.slots A) h (K h)) : q_V p l e rm_X5_sizeWithout s m args below meth c D A 4 (MQ below (q_Qc D A post) args s rm_X5_sizeWithout.cells rm_X5_sizeWithout.slots A) 4 (k_X5_sizeWithout_4 post K) := by
  unfold k_X5_sizeWithout_4
  refine q_iload_n C (by decide +kernel : decode cX5_sizeWithout 4 = .ok (.iload_n 3, 1)) ?_
  refine q_aload_n C (by decide +kernel : decode cX5_sizeWithout 5 = .ok (.aload_n 0, 1)) ?_
  refine q_get C (ci := 5) (j := 1) (C0 := RX5) (T := TX5) (N := 2) rfl iX5 giX5 (by decide) w9_149 (by decide +kernel : decode cX5_sizeWithout 6 = .ok (.getfield 15, 3)) ?_
  refine q_icge C (tgt := 33) (by decide +kernel : decode cX5_sizeWithout 9 = .ok (.if_icmp .ge 24, 3)) (by decide) ?_ ?_
  · refine q_iload_n C (by decide +kernel : decode cX5_sizeWithout 33 = .ok (.iload_n 2, 1)) ?_
    exact q_iret C rfl (by decide +kernel : decode cX5_sizeWithout 34 = .ok (.ireturn, 1))
  · refine q_aload_n C (by decide +kernel : decode cX5_sizeWithout 12 = .ok (.aload_n 1, 1)) ?_
    refine q_aload_n C (by decide +kernel : decode cX5_sizeWithout 13 = .ok (.aload_n 0, 1)) ?_
    refine q_iload_n C (by decide +kernel : decode cX5_sizeWithout 14 = .ok (.iload_n 3, 1)) ?_
    refine q_call2 C (q_coV C (np := 1) (ci := 5) (rc := (RX5, TX5, 2)) (t_X5_rowAt l) w9_150 rfl rfl w9_152 w9_153 w9_154 w9_151 (by decide +kernel) (by decide +kernel : decode cX5_sizeWithout 15 = .ok (.invokevirtual 19, 3)) (by decide)) ?_
    refine q_call2 C (q_coV C (np := 1) (ci := 2) (rc := (RX2, TX2, 2)) (t_X2_contain l) w9_160 rfl rfl w9_162 w9_163 w9_164 w9_161 (by decide +kernel) (by decide +kernel : decode cX5_sizeWithout 18 = .ok (.invokevirtual 23, 3)) (by decide)) ?_
    refine q_ifne C (tgt := 27) (by decide +kernel : decode cX5_sizeWithout 21 = .ok (.ifCond .ne 6, 3)) (by decide) ?_ ?_
    · exact v_X5_sizeWithout_27 C hK
    · refine q_iinc C (by decide +kernel : decode cX5_sizeWithout 24 = .ok (.iinc 2 1, 3)) (by decide) ?_
      exact v_X5_sizeWithout_27 C hK
theorem u_X5_sizeWithout (l : Launch) {sp : q_Sp} (H : ∀ (av : List Value) (σ : q_S) (post : Option Value → q_S → Prop), sp av σ post → ∃ Inv : Nat → Nat → q_K, (∀ K : Nat → q_K, (∀ (h n : Nat) (L : List (Option Value)) (st : List Value) (σ : q_S) (cr sr : Nat), Inv h n L st σ cr sr → K h L st σ cr sr) → k_X5_sizeWithout_0 post K (q_L0 av 4) [] σ 0 0) ∧ (∀ (K : Nat → q_K) (n : Nat), (∀ (h m : Nat) (L : List (Option Value)) (st : List Value) (σ : q_S) (cr sr : Nat), m < n → Inv h m L st σ cr sr → K h L st σ cr sr) → ∀ (L : List (Option Value)) (st : List Value) (σ : q_S) (cr sr : Nat), Inv 4 n L st σ cr sr → k_X5_sizeWithout_4 post K L st σ cr sr) ∧ av.length ≤ 4 ∧ ∀ v ∈ av, v.category = 1) : q_Ct l yX5_sizeWithout cX5_sizeWithout 4 (some .int) rm_X5_sizeWithout sp := by
  refine q_met (by decide) ?_
  intro D A p e s m args below meth c σ av post C hsp
  obtain ⟨Inv, h1, hh4, h2, h3⟩ := H av σ post hsp
  have hV := q_loops (p := p) (l := l) (e := e) (R := rm_X5_sizeWithout) (s := s) (m := m) (args := args) (below := below) (meth := meth) (c := c) (D := D) (A := A) (nL := 4) (Q := MQ below (q_Qc D A post) args s rm_X5_sizeWithout.cells rm_X5_sizeWithout.slots A) [4] (fun h =>  k_X5_sizeWithout_4 post) (fun K hK h hh => ?_) Inv (fun n h hh => ?_)
  · exact ⟨_, v_X5_sizeWithout_0 C hV, h1 _ (fun h n L st σ cr sr hi => ⟨n, hi⟩), h2, h3⟩
  · have e9 : h = 4 := by simpa using hh
    subst e9
    exact v_X5_sizeWithout_4 C hK
  · have e9 : h = 4 := by simpa using hh
    subst e9
    exact hh4 (fun h L st σ cr sr => ∃ m : Nat, m < n ∧ Inv h m L st σ cr sr) n (fun h m L st σ cr sr hm hi => ⟨m, hm, hi⟩)
theorem t_X5_sizeWithout (l : Launch) : q_Ct l yX5_sizeWithout cX5_sizeWithout 4 (some .int) rm_X5_sizeWithout s_X5_sizeWithout := u_X5_sizeWithout l (by
  intro av σ post h
  unfold s_X5_sizeWithout at h
  split at h
  · next a cl =>
    obtain ⟨ra, f, n, ca, cv, c, e, e2, hn, e3, e4, h1⟩ := h
    refine ⟨fun _ m L st σ' cr sr => ∃ i, i ≤ n ∧ m = 20 - i ∧ σ' = σ ∧ st = [] ∧ L = [some (.ref a), some (.ref cl), some (.int (ownC f c i)), some (.int (nI i))], ?_, ?_, by simp, by simp [Value.category]⟩
    · intro K hK
      simp only [c_push, c_null, c_iload, c_aload, c_istore, c_astore, c_iinc, c_iadd, c_isub, c_imul, c_iand, c_ineg, c_dup, c_dup2, c_pop, c_ifnull, c_ifnonnull, c_get, c_put, c_iald, c_zald, c_iast, c_zast, c_aald, c_aast, c_alen, c_new, c_newa, c_newq, c_mna, c_oinit, c_max, c_copy, c_iret, c_zret, c_aret, c_vret, q_do, q_rc, c_ifeq, c_ifne, c_iflt, c_ifge, c_ifgt, c_ifle, c_iceq, c_icne, c_iclt, c_icge, c_icgt, c_icle, c_call0, c_call1, c_call2, c_call3, c_call4, c_call5, c_call6, c_call7, q_L0, List.map_cons, List.map_nil, List.replicate, List.cons_append, List.nil_append, List.append_nil, List.length_cons, List.length_nil, List.length_set, Nat.reduceSub, Nat.reduceAdd, Nat.reduceLT, Nat.reduceLeDiff, Nat.zero_add, Nat.add_zero, Nat.sub_zero, Nat.sub_self, List.getElem?_cons_zero, List.getElem?_cons_succ, List.set_cons_zero, List.set_cons_succ, Option.toList_some, Option.toList_none, List.sum_cons, List.sum_nil, true_and, and_true, true_or, or_true, Nat.le_refl, Nat.zero_le, Value.category, Fin.isValue, Fin.val_zero, Fin.val_one, Fin.val_two, Fin.reduceFinMk, q_10, q_01, not_false_eq_true, not_true_eq_false, forall_const, true_implies, false_implies, implies_true, q_ni, q_fi, q_nb0, q_nb1, q_fb0, q_fb1, q_nor, q_nar, q_for, q_far, q_non, q_nan, q_fon, q_fan, imp_false, false_and, and_false, and_self, false_or, or_false, va_rf, refKind, k_X5_sizeWithout_0, k_X5_sizeWithout_27, k_X5_sizeWithout_4]
      exact hK _ 20 _ _ _ _ _ ⟨0, Nat.zero_le _, rfl, rfl, rfl, rfl⟩
    · rintro K m hK L st σ' cr sr ⟨i, hi, rfl, rfl, rfl, rfl⟩
      simp only [c_push, c_null, c_iload, c_aload, c_istore, c_astore, c_iinc, c_iadd, c_isub, c_imul, c_iand, c_ineg, c_dup, c_dup2, c_pop, c_ifnull, c_ifnonnull, c_get, c_put, c_iald, c_zald, c_iast, c_zast, c_aald, c_aast, c_alen, c_new, c_newa, c_newq, c_mna, c_oinit, c_max, c_copy, c_iret, c_zret, c_aret, c_vret, q_do, q_rc, c_ifeq, c_ifne, c_iflt, c_ifge, c_ifgt, c_ifle, c_iceq, c_icne, c_iclt, c_icge, c_icgt, c_icle, c_call0, c_call1, c_call2, c_call3, c_call4, c_call5, c_call6, c_call7, q_L0, List.map_cons, List.map_nil, List.replicate, List.cons_append, List.nil_append, List.append_nil, List.length_cons, List.length_nil, List.length_set, Nat.reduceSub, Nat.reduceAdd, Nat.reduceLT, Nat.reduceLeDiff, Nat.zero_add, Nat.add_zero, Nat.sub_zero, Nat.sub_self, List.getElem?_cons_zero, List.getElem?_cons_succ, List.set_cons_zero, List.set_cons_succ, Option.toList_some, Option.toList_none, List.sum_cons, List.sum_nil, true_and, and_true, true_or, or_true, Nat.le_refl, Nat.zero_le, Value.category, Fin.isValue, Fin.val_zero, Fin.val_one, Fin.val_two, Fin.reduceFinMk, q_10, q_01, not_false_eq_true, not_true_eq_false, forall_const, true_implies, false_implies, implies_true, q_ni, q_fi, q_nb0, q_nb1, q_fb0, q_fb1, q_nor, q_nar, q_for, q_far, q_non, q_nan, q_fon, q_fan, imp_false, false_and, and_false, and_self, false_or, or_false, va_rf, refKind, k_X5_sizeWithout_0, k_X5_sizeWithout_27, k_X5_sizeWithout_4, q_fld, q_fset, q_oc, q_ai, q_aq, q_len, q_up_s, q_up_up, if_true, e, e2, e3, e4, s_X5_rowAt, s_X2_contain]
      rw [(cl2 (nI n) (nI i) _ _ rfl rfl (by omega) (by omega)).1, (cl2 (nI i) (nI n) _ _ rfl rfl (by omega) (by omega)).2.1, clN (by omega)]
      refine ⟨fun c9 => ?_, fun c9 => ⟨nI_leN (N := 20) (by omega), fun c1 => ⟨fun c2 => ?_, fun c2 => ?_⟩, fun c1 => absurd ⟨nI_low (by omega), by omega⟩ c1⟩⟩
      · have : i = n := by omega
        subst this; exact h1
      · refine hK _ (20 - (i + 1)) _ _ _ _ _ (by omega) ⟨i + 1, by omega, rfl, rfl, rfl, ?_⟩
        rw [nI_1, ownC, if_pos c2, Int32.add_zero]
      · refine hK _ (20 - (i + 1)) _ _ _ _ _ (by omega) ⟨i + 1, by omega, rfl, rfl, rfl, ?_⟩
        rw [nI_1, ownC, if_neg c2]
  · exact h.elim)
