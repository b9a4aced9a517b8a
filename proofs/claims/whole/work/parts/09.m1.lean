def s_X11_isPerson : q_Sp := fun av σ post => match av with
  | [.ref mr, .int p] => (match q_fld σ mr 11 1 with
    | some (.int n) => (0 ≤ n ∧ n ≤ 12) ∧ (0 ≤ p ∧ p < n → post (some (.int 1)) σ) ∧ (¬ (0 ≤ p ∧ p < n) → post (some (.int 0)) σ)
    | _ => False)
  | _ => False
theorem w9_4 : (.fieldLink RX11 100 (TX11 1).1 (TX11 1).2.1 (TX11 1).2.2.1 : Cond) ∈ lw_tbl := by decide +kernel
theorem w9_5 : (.code yX11_in cX11_in 3 (some .boolean) : Cond) ∈ lw_tbl := by decide +kernel
theorem w9_6 : (.initialized RX11 : Cond) ∈ lw_tbl := by decide +kernel
theorem w9_7 : (.static yX11_in : Cond) ∈ lw_tbl := by decide +kernel
theorem w9_8 : (.methodLink RX11 92 yX11_in : Cond) ∈ lw_tbl := by decide +kernel
def rm_X11_isPerson : Room := { frames := 1, cells := 0, slots := 0, locals := 22 }
def k_X11_isPerson_0 (post : Option Value → q_S → Prop) (K : Nat → q_K) : q_K := (c_iload 1 (c_push 0 (c_aload 0 (c_get 11 1 (c_push 1 (c_isub (c_call3 none s_X11_in 0 0 (c_zret post))))))))
set_option maxRecDepth 100000 in
theorem v_X11_isPerson_0 {p : Program} {l : Launch} {e : Env} {s : State} {m : MethodId} {args : Array Value} {below : List Frame} {meth : Method} {c : Code} {D : va_G} {A : Nat → Prop} {post : Option Value → q_S → Prop} {K : Nat → q_K} (C : q_C p s m args meth c cX11_isPerson 2 RX11 "isPerson" (some .boolean) A) (hK : ∀ h ∈ ([] : List Nat), q_V p l e rm_X11_isPerson s m args below meth c D A 2 (MQ below (q_Qc D A post) args s rm_X11_isPerson.cells rm_X11_isPerson.slots A) h (K h)) : q_V p l e rm_X11_isPerson s m args below meth c D A 2 (MQ below (q_Qc D A post) args s rm_X11_isPerson.cells rm_X11_isPerson.slots A) 0 (k_X11_isPerson_0 post K) := by
  unfold k_X11_isPerson_0
  refine q_iload_n C (by decide +kernel : decode cX11_isPerson 0 = .ok (.iload_n 1, 1)) ?_
  refine q_iconst C (by decide +kernel : decode cX11_isPerson 1 = .ok (.iconst 0, 1)) (by decide) ?_
  refine q_aload_n C (by decide +kernel : decode cX11_isPerson 2 = .ok (.aload_n 0, 1)) ?_
  refine q_get C (ci := 11) (j := 1) (C0 := RX11) (T := TX11) (N := 35) rfl iX11 giX11 (by decide) w9_4 (by decide +kernel : decode cX11_isPerson 3 = .ok (.getfield 100, 3)) ?_
  refine q_iconst C (by decide +kernel : decode cX11_isPerson 6 = .ok (.iconst 1, 1)) (by decide) ?_
  refine q_isub C (by decide +kernel : decode cX11_isPerson 7 = .ok (.isub, 1)) ?_
  refine q_call3 C (q_coS C (np := 3) (t_X11_in l) w9_5 w9_8 w9_7 w9_6 (by decide +kernel) (by decide +kernel : decode cX11_isPerson 8 = .ok (.invokestatic 92, 3)) (by decide)) ?_
  exact q_zret C rfl (by decide +kernel : decode cX11_isPerson 11 = .ok (.ireturn, 1))
theorem u_X11_isPerson (l : Launch) {sp : q_Sp} (H : ∀ (av : List Value) (σ : q_S) (post : Option Value → q_S → Prop), sp av σ post → k_X11_isPerson_0 post (fun _ _ _ _ _ _ => False) (q_L0 av 2) [] σ 0 0 ∧ av.length ≤ 2 ∧ ∀ v ∈ av, v.category = 1) : q_Ct l yX11_isPerson cX11_isPerson 2 (some .boolean) rm_X11_isPerson sp := by
  refine q_met (by decide) ?_
  intro D A p e s m args below meth c σ av post C hsp
  obtain ⟨h1, h2, h3⟩ := H av σ post hsp
  exact ⟨_, v_X11_isPerson_0 (K := fun _ _ _ _ _ _ => False) C (fun h hh => by cases hh), h1, h2, h3⟩
theorem t_X11_isPerson (l : Launch) : q_Ct l yX11_isPerson cX11_isPerson 2 (some .boolean) rm_X11_isPerson s_X11_isPerson := u_X11_isPerson l (by
  intro av σ post h
  unfold s_X11_isPerson at h
  split at h
  · split at h
    · next hf =>
      refine ⟨?_, by simp, by simp [Value.category]⟩
      simp only [c_push, c_null, c_iload, c_aload, c_istore, c_astore, c_iinc, c_iadd, c_isub, c_imul, c_iand, c_ineg, c_dup, c_dup2, c_pop, c_ifnull, c_ifnonnull, c_get, c_put, c_iald, c_zald, c_iast, c_zast, c_aald, c_aast, c_alen, c_new, c_newa, c_newq, c_mna, c_oinit, c_max, c_copy, c_iret, c_zret, c_aret, c_vret, q_do, q_rc, c_ifeq, c_ifne, c_iflt, c_ifge, c_ifgt, c_ifle, c_iceq, c_icne, c_iclt, c_icge, c_icgt, c_icle, c_call0, c_call1, c_call2, c_call3, c_call4, c_call5, c_call6, c_call7, q_L0, List.map_cons, List.map_nil, List.replicate, List.cons_append, List.nil_append, List.append_nil, List.length_cons, List.length_nil, List.length_set, Nat.reduceSub, Nat.reduceAdd, Nat.reduceLT, Nat.reduceLeDiff, Nat.zero_add, Nat.add_zero, Nat.sub_zero, Nat.sub_self, List.getElem?_cons_zero, List.getElem?_cons_succ, List.set_cons_zero, List.set_cons_succ, Option.toList_some, Option.toList_none, List.sum_cons, List.sum_nil, true_and, and_true, true_or, or_true, Nat.le_refl, Nat.zero_le, Value.category, Fin.isValue, Fin.val_zero, Fin.val_one, Fin.val_two, Fin.reduceFinMk, q_10, q_01, not_false_eq_true, not_true_eq_false, forall_const, true_implies, false_implies, implies_true, q_ni, q_fi, q_nb0, q_nb1, q_fb0, q_fb1, q_nor, q_nar, q_for, q_far, q_non, q_nan, q_fon, q_fan, imp_false, false_and, and_false, and_self, false_or, or_false, va_rf, refKind, k_X11_isPerson_0, hf, s_X11_in, s_X10_isWithin]
      grind
    · exact h.elim
  · exact h.elim)
def s_X11_isWork : q_Sp := fun av σ post => match av with
  | [.ref mr, .int p] => (match q_fld σ mr 11 11 with
    | some (.int n) => (0 ≤ n ∧ n ≤ 20) ∧ (0 ≤ p ∧ p < n → post (some (.int 1)) σ) ∧ (¬ (0 ≤ p ∧ p < n) → post (some (.int 0)) σ)
    | _ => False)
  | _ => False
theorem w9_9 : (.fieldLink RX11 103 (TX11 11).1 (TX11 11).2.1 (TX11 11).2.2.1 : Cond) ∈ lw_tbl := by decide +kernel
def rm_X11_isWork : Room := { frames := 1, cells := 0, slots := 0, locals := 22 }
def k_X11_isWork_0 (post : Option Value → q_S → Prop) (K : Nat → q_K) : q_K := (c_iload 1 (c_push 0 (c_aload 0 (c_get 11 11 (c_push 1 (c_isub (c_call3 none s_X11_in 0 0 (c_zret post))))))))
set_option maxRecDepth 100000 in
theorem v_X11_isWork_0 {p : Program} {l : Launch} {e : Env} {s : State} {m : MethodId} {args : Array Value} {below : List Frame} {meth : Method} {c : Code} {D : va_G} {A : Nat → Prop} {post : Option Value → q_S → Prop} {K : Nat → q_K} (C : q_C p s m args meth c cX11_isWork 2 RX11 "isWork" (some .boolean) A) (hK : ∀ h ∈ ([] : List Nat), q_V p l e rm_X11_isWork s m args below meth c D A 2 (MQ below (q_Qc D A post) args s rm_X11_isWork.cells rm_X11_isWork.slots A) h (K h)) : q_V p l e rm_X11_isWork s m args below meth c D A 2 (MQ below (q_Qc D A post) args s rm_X11_isWork.cells rm_X11_isWork.slots A) 0 (k_X11_isWork_0 post K) := by
  unfold k_X11_isWork_0
  refine q_iload_n C (by decide +kernel : decode cX11_isWork 0 = .ok (.iload_n 1, 1)) ?_
  refine q_iconst C (by decide +kernel : decode cX11_isWork 1 = .ok (.iconst 0, 1)) (by decide) ?_
  refine q_aload_n C (by decide +kernel : decode cX11_isWork 2 = .ok (.aload_n 0, 1)) ?_
  refine q_get C (ci := 11) (j := 11) (C0 := RX11) (T := TX11) (N := 35) rfl iX11 giX11 (by decide) w9_9 (by decide +kernel : decode cX11_isWork 3 = .ok (.getfield 103, 3)) ?_
  refine q_iconst C (by decide +kernel : decode cX11_isWork 6 = .ok (.iconst 1, 1)) (by decide) ?_
  refine q_isub C (by decide +kernel : decode cX11_isWork 7 = .ok (.isub, 1)) ?_
  refine q_call3 C (q_coS C (np := 3) (t_X11_in l) w9_5 w9_8 w9_7 w9_6 (by decide +kernel) (by decide +kernel : decode cX11_isWork 8 = .ok (.invokestatic 92, 3)) (by decide)) ?_
  exact q_zret C rfl (by decide +kernel : decode cX11_isWork 11 = .ok (.ireturn, 1))
theorem u_X11_isWork (l : Launch) {sp : q_Sp} (H : ∀ (av : List Value) (σ : q_S) (post : Option Value → q_S → Prop), sp av σ post → k_X11_isWork_0 post (fun _ _ _ _ _ _ => False) (q_L0 av 2) [] σ 0 0 ∧ av.length ≤ 2 ∧ ∀ v ∈ av, v.category = 1) : q_Ct l yX11_isWork cX11_isWork 2 (some .boolean) rm_X11_isWork sp := by
  refine q_met (by decide) ?_
  intro D A p e s m args below meth c σ av post C hsp
  obtain ⟨h1, h2, h3⟩ := H av σ post hsp
  exact ⟨_, v_X11_isWork_0 (K := fun _ _ _ _ _ _ => False) C (fun h hh => by cases hh), h1, h2, h3⟩
theorem t_X11_isWork (l : Launch) : q_Ct l yX11_isWork cX11_isWork 2 (some .boolean) rm_X11_isWork s_X11_isWork := u_X11_isWork l (by
  intro av σ post h
  unfold s_X11_isWork at h
  split at h
  · split at h
    · next hf =>
      refine ⟨?_, by simp, by simp [Value.category]⟩
      simp only [c_push, c_null, c_iload, c_aload, c_istore, c_astore, c_iinc, c_iadd, c_isub, c_imul, c_iand, c_ineg, c_dup, c_dup2, c_pop, c_ifnull, c_ifnonnull, c_get, c_put, c_iald, c_zald, c_iast, c_zast, c_aald, c_aast, c_alen, c_new, c_newa, c_newq, c_mna, c_oinit, c_max, c_copy, c_iret, c_zret, c_aret, c_vret, q_do, q_rc, c_ifeq, c_ifne, c_iflt, c_ifge, c_ifgt, c_ifle, c_iceq, c_icne, c_iclt, c_icge, c_icgt, c_icle, c_call0, c_call1, c_call2, c_call3, c_call4, c_call5, c_call6, c_call7, q_L0, List.map_cons, List.map_nil, List.replicate, List.cons_append, List.nil_append, List.append_nil, List.length_cons, List.length_nil, List.length_set, Nat.reduceSub, Nat.reduceAdd, Nat.reduceLT, Nat.reduceLeDiff, Nat.zero_add, Nat.add_zero, Nat.sub_zero, Nat.sub_self, List.getElem?_cons_zero, List.getElem?_cons_succ, List.set_cons_zero, List.set_cons_succ, Option.toList_some, Option.toList_none, List.sum_cons, List.sum_nil, true_and, and_true, true_or, or_true, Nat.le_refl, Nat.zero_le, Value.category, Fin.isValue, Fin.val_zero, Fin.val_one, Fin.val_two, Fin.reduceFinMk, q_10, q_01, not_false_eq_true, not_true_eq_false, forall_const, true_implies, false_implies, implies_true, q_ni, q_fi, q_nb0, q_nb1, q_fb0, q_fb1, q_nor, q_nar, q_for, q_far, q_non, q_nan, q_fon, q_fan, imp_false, false_and, and_false, and_self, false_or, or_false, va_rf, refKind, k_X11_isWork_0, hf, s_X11_in, s_X10_isWithin]
      grind
    · exact h.elim
  · exact h.elim)
-- days
def F_days (z : Nat → Int32) (n : Int32) : Int32 × (Nat → Int32) := if (1 ≤ n ∧ n ≤ 500) ∧ z 0 + n ≤ 3000 then (z 0 + n, upd z 0 (z 0 + n)) else (-2, z)
def s_X11_days : q_Sp := fun av σ post => match av with
  | [.ref mr, .int n] => ∃ ad z g, mOK σ mr ad z g ∧ I1 z ∧ ∀ σ', mOK σ' mr ad (F_days z n).2 g → post (some (.int (F_days z n).1)) σ'
  | _ => False
theorem w9_10 : (.fieldLink RX11 96 (TX11 0).1 (TX11 0).2.1 (TX11 0).2.2.1 : Cond) ∈ lw_tbl := by decide +kernel
def rm_X11_days : Room := { frames := 1, cells := 0, slots := 0, locals := 22 }
def k_X11_days_23 (post : Option Value → q_S → Prop) (K : Nat → q_K) : q_K := (c_push (-2) (c_iret post))
def k_X11_days_0 (post : Option Value → q_S → Prop) (K : Nat → q_K) : q_K := (c_iload 1 (c_push 1 (c_push 500 (c_call3 none s_X11_in 0 0 (c_ifeq (k_X11_days_23 post K) (c_aload 0 (c_get 11 0 (c_iload 1 (c_iadd (c_push 3000 (c_icle (c_aload 0 (c_dup (c_get 11 0 (c_iload 1 (c_iadd (c_put 11 0 (.int) (c_aload 0 (c_get 11 0 (c_iret post))))))))) (k_X11_days_23 post K))))))))))))
set_option maxRecDepth 100000 in
theorem v_X11_days_23 {p : Program} {l : Launch} {e : Env} {s : State} {m : MethodId} {args : Array Value} {below : List Frame} {meth : Method} {c : Code} {D : va_G} {A : Nat → Prop} {post : Option Value → q_S → Prop} {K : Nat → q_K} (C : q_C p s m args meth c cX11_days 2 RX11 "days" (some .int) A) (hK : ∀ h ∈ ([] : List Nat), q_V p l e rm_X11_days s m args below meth c D A 2 (MQ below (q_Qc D A post) args s rm_X11_days.cells rm_X11_days.slots A) h (K h)) : q_V p l e rm_X11_days s m args below meth c D A 2 (MQ below (q_Qc D A post) args s rm_X11_days.cells rm_X11_days.slots A) 23 (k_X11_days_23 post K) := by
  unfold k_X11_days_23
  refine q_bipush C (by decide +kernel : decode cX11_days 23 = .ok (.bipush (-2), 2)) (by decide) ?_
  exact q_iret C rfl (by decide +kernel : decode cX11_days 25 = .ok (.ireturn, 1))
set_option maxRecDepth 100000 in
theorem v_X11_days_0 {p : Program} {l : Launch} {e : Env} {s : State} {m : MethodId} {args : Array Value} {below : List Frame} {meth : Method} {c : Code} {D : va_G} {A : Nat → Prop} {post : Option Value → q_S → Prop} {K : Nat → q_K} (C : q_C p s m args meth c cX11_days 2 RX11 "days" (some .int) A) (hK : ∀ h ∈ ([] : List Nat), q_V p l e rm_X11_days s m args below meth c D A 2 (MQ below (q_Qc D A post) args s rm_X11_days.cells rm_X11_days.slots A) h (K h)) : q_V p l e rm_X11_days s m args below meth c D A 2 (MQ below (q_Qc D A post) args s rm_X11_days.cells rm_X11_days.slots A) 0 (k_X11_days_0 post K) := by
  unfold k_X11_days_0
  refine q_iload_n C (by decide +kernel : decode cX11_days 0 = .ok (.iload_n 1, 1)) ?_
  refine q_iconst C (by decide +kernel : decode cX11_days 1 = .ok (.iconst 1, 1)) (by decide) ?_
  refine q_sipush C (by decide +kernel : decode cX11_days 2 = .ok (.sipush 500, 3)) (by decide) ?_
  refine q_call3 C (q_coS C (np := 3) (t_X11_in l) w9_5 w9_8 w9_7 w9_6 (by decide +kernel) (by decide +kernel : decode cX11_days 5 = .ok (.invokestatic 92, 3)) (by decide)) ?_
  refine q_ifeq C (tgt := 23) (by decide +kernel : decode cX11_days 8 = .ok (.ifCond .eq 15, 3)) (by decide) ?_ ?_
  · exact v_X11_days_23 C hK
  · refine q_aload_n C (by decide +kernel : decode cX11_days 11 = .ok (.aload_n 0, 1)) ?_
    refine q_get C (ci := 11) (j := 0) (C0 := RX11) (T := TX11) (N := 35) rfl iX11 giX11 (by decide) w9_10 (by decide +kernel : decode cX11_days 12 = .ok (.getfield 96, 3)) ?_
    refine q_iload_n C (by decide +kernel : decode cX11_days 15 = .ok (.iload_n 1, 1)) ?_
    refine q_iadd C (by decide +kernel : decode cX11_days 16 = .ok (.iadd, 1)) ?_
    refine q_sipush C (by decide +kernel : decode cX11_days 17 = .ok (.sipush 3000, 3)) (by decide) ?_
    refine q_icle C (tgt := 26) (by decide +kernel : decode cX11_days 20 = .ok (.if_icmp .le 6, 3)) (by decide) ?_ ?_
    · refine q_aload_n C (by decide +kernel : decode cX11_days 26 = .ok (.aload_n 0, 1)) ?_
      refine q_dup C (by decide +kernel : decode cX11_days 27 = .ok (.dup, 1)) ?_
      refine q_get C (ci := 11) (j := 0) (C0 := RX11) (T := TX11) (N := 35) rfl iX11 giX11 (by decide) w9_10 (by decide +kernel : decode cX11_days 28 = .ok (.getfield 96, 3)) ?_
      refine q_iload_n C (by decide +kernel : decode cX11_days 31 = .ok (.iload_n 1, 1)) ?_
      refine q_iadd C (by decide +kernel : decode cX11_days 32 = .ok (.iadd, 1)) ?_
      refine q_put C (ci := 11) (j := 0) (C0 := RX11) (T := TX11) (N := 35) (ty := .int) rfl iX11 giX11 (by decide) tyX11 tyX11_ok nmX11 (by decide +kernel) rfl w9_10 (by decide +kernel : decode cX11_days 33 = .ok (.putfield 96, 3)) ?_
      refine q_aload_n C (by decide +kernel : decode cX11_days 36 = .ok (.aload_n 0, 1)) ?_
      refine q_get C (ci := 11) (j := 0) (C0 := RX11) (T := TX11) (N := 35) rfl iX11 giX11 (by decide) w9_10 (by decide +kernel : decode cX11_days 37 = .ok (.getfield 96, 3)) ?_
      exact q_iret C rfl (by decide +kernel : decode cX11_days 40 = .ok (.ireturn, 1))
    · exact v_X11_days_23 C hK
theorem u_X11_days (l : Launch) {sp : q_Sp} (H : ∀ (av : List Value) (σ : q_S) (post : Option Value → q_S → Prop), sp av σ post → k_X11_days_0 post (fun _ _ _ _ _ _ => False) (q_L0 av 2) [] σ 0 0 ∧ av.length ≤ 2 ∧ ∀ v ∈ av, v.category = 1) : q_Ct l yX11_days cX11_days 2 (some .int) rm_X11_days sp := by
  refine q_met (by decide) ?_
  intro D A p e s m args below meth c σ av post C hsp
  obtain ⟨h1, h2, h3⟩ := H av σ post hsp
  exact ⟨_, v_X11_days_0 (K := fun _ _ _ _ _ _ => False) C (fun h hh => by cases hh), h1, h2, h3⟩
theorem t_X11_days (l : Launch) : q_Ct l yX11_days cX11_days 2 (some .int) rm_X11_days s_X11_days := u_X11_days l (by
  intro av σ post h
  unfold s_X11_days at h
  split at h
  · next mr n =>
    refine ⟨?_, by simp, by simp [Value.category]⟩
    obtain ⟨ad, z, g, ⟨gp, r, hm⟩, hI, h1⟩ := h
    have hm1 := hm.p0 (z 0 + n)
    simp only [c_push, c_null, c_iload, c_aload, c_istore, c_astore, c_iinc, c_iadd, c_isub, c_imul, c_iand, c_ineg, c_dup, c_dup2, c_pop, c_ifnull, c_ifnonnull, c_get, c_put, c_iald, c_zald, c_iast, c_zast, c_aald, c_aast, c_alen, c_new, c_newa, c_newq, c_mna, c_oinit, c_max, c_copy, c_iret, c_zret, c_aret, c_vret, q_do, q_rc, c_ifeq, c_ifne, c_iflt, c_ifge, c_ifgt, c_ifle, c_iceq, c_icne, c_iclt, c_icge, c_icgt, c_icle, c_call0, c_call1, c_call2, c_call3, c_call4, c_call5, c_call6, c_call7, q_L0, List.map_cons, List.map_nil, List.replicate, List.cons_append, List.nil_append, List.append_nil, List.length_cons, List.length_nil, List.length_set, Nat.reduceSub, Nat.reduceAdd, Nat.reduceLT, Nat.reduceLeDiff, Nat.zero_add, Nat.add_zero, Nat.sub_zero, Nat.sub_self, List.getElem?_cons_zero, List.getElem?_cons_succ, List.set_cons_zero, List.set_cons_succ, Option.toList_some, Option.toList_none, List.sum_cons, List.sum_nil, true_and, and_true, true_or, or_true, Nat.le_refl, Nat.zero_le, Value.category, Fin.isValue, Fin.val_zero, Fin.val_one, Fin.val_two, Fin.reduceFinMk, q_10, q_01, not_false_eq_true, not_true_eq_false, forall_const, true_implies, false_implies, implies_true, q_ni, q_fi, q_nb0, q_nb1, q_fb0, q_fb1, q_nor, q_nar, q_for, q_far, q_non, q_nan, q_fon, q_fan, imp_false, false_and, and_false, and_self, false_or, or_false, va_rf, refKind, k_X11_days_0, k_X11_days_23, hm.rd, hm1.rd, s_X11_in, s_X10_isWithin]
    unfold F_days at h1
    split at h1
    · have a := h1 _ ⟨gp, r, hm1⟩
      grind [upd]
    · have a := h1 _ ⟨gp, r, hm⟩
      grind
  · exact h.elim)
-- person
def F_person (z : Nat → Int32) (g : Nat → Nat → Int32) : Int32 × (Nat → Int32) × (Nat → Nat → Int32) := if z 1 = 12 then (-4, z, g) else (z 1, upd z 1 (z 1 + 1), gup (gup g 2 (z 1).toNatClampNeg (-1)) 3 (z 1).toNatClampNeg (-1))
def s_X11_person : q_Sp := fun av σ post => match av with
  | [.ref mr] => ∃ ad z g, mOK σ mr ad z g ∧ I1 z ∧ ∀ σ', mOK σ' mr ad (F_person z g).2.1 (F_person z g).2.2 → post (some (.int (F_person z g).1)) σ'
  | _ => False
theorem w9_11 : (.fieldLink RX11 7 (TX11 2).1 (TX11 2).2.1 (TX11 2).2.2.1 : Cond) ∈ lw_tbl := by decide +kernel
theorem w9_12 : (.fieldLink RX11 13 (TX11 3).1 (TX11 3).2.1 (TX11 3).2.2.1 : Cond) ∈ lw_tbl := by decide +kernel
def rm_X11_person : Room := { frames := 0, cells := 0, slots := 0, locals := 0 }
def k_X11_person_0 (post : Option Value → q_S → Prop) (K : Nat → q_K) : q_K := (c_aload 0 (c_get 11 1 (c_push 12 (c_icne (c_aload 0 (c_get 11 2 (c_aload 0 (c_get 11 1 (c_push (-1) (c_iast (c_aload 0 (c_get 11 3 (c_aload 0 (c_get 11 1 (c_push (-1) (c_iast (c_aload 0 (c_dup (c_get 11 1 (c_push 1 (c_iadd (c_put 11 1 (.int) (c_aload 0 (c_get 11 1 (c_push 1 (c_isub (c_iret post))))))))))))))))))))))) (c_push (-4) (c_iret post))))))
set_option maxRecDepth 100000 in
theorem v_X11_person_0 {p : Program} {l : Launch} {e : Env} {s : State} {m : MethodId} {args : Array Value} {below : List Frame} {meth : Method} {c : Code} {D : va_G} {A : Nat → Prop} {post : Option Value → q_S → Prop} {K : Nat → q_K} (C : q_C p s m args meth c cX11_person 1 RX11 "person" (some .int) A) (hK : ∀ h ∈ ([] : List Nat), q_V p l e rm_X11_person s m args below meth c D A 1 (MQ below (q_Qc D A post) args s rm_X11_person.cells rm_X11_person.slots A) h (K h)) : q_V p l e rm_X11_person s m args below meth c D A 1 (MQ below (q_Qc D A post) args s rm_X11_person.cells rm_X11_person.slots A) 0 (k_X11_person_0 post K) := by
  unfold k_X11_person_0
  refine q_aload_n C (by decide +kernel : decode cX11_person 0 = .ok (.aload_n 0, 1)) ?_
  refine q_get C (ci := 11) (j := 1) (C0 := RX11) (T := TX11) (N := 35) rfl iX11 giX11 (by decide) w9_4 (by decide +kernel : decode cX11_person 1 = .ok (.getfield 100, 3)) ?_
  refine q_bipush C (by decide +kernel : decode cX11_person 4 = .ok (.bipush 12, 2)) (by decide) ?_
  refine q_icne C (tgt := 12) (by decide +kernel : decode cX11_person 6 = .ok (.if_icmp .ne 6, 3)) (by decide) ?_ ?_
  · refine q_aload_n C (by decide +kernel : decode cX11_person 12 = .ok (.aload_n 0, 1)) ?_
    refine q_get C (ci := 11) (j := 2) (C0 := RX11) (T := TX11) (N := 35) rfl iX11 giX11 (by decide) w9_11 (by decide +kernel : decode cX11_person 13 = .ok (.getfield 7, 3)) ?_
    refine q_aload_n C (by decide +kernel : decode cX11_person 16 = .ok (.aload_n 0, 1)) ?_
    refine q_get C (ci := 11) (j := 1) (C0 := RX11) (T := TX11) (N := 35) rfl iX11 giX11 (by decide) w9_4 (by decide +kernel : decode cX11_person 17 = .ok (.getfield 100, 3)) ?_
    refine q_iconst C (by decide +kernel : decode cX11_person 20 = .ok (.iconst (-1), 1)) (by decide) ?_
    refine q_iast C (by decide +kernel : decode cX11_person 21 = .ok (.iastore, 1)) ?_
    refine q_aload_n C (by decide +kernel : decode cX11_person 22 = .ok (.aload_n 0, 1)) ?_
    refine q_get C (ci := 11) (j := 3) (C0 := RX11) (T := TX11) (N := 35) rfl iX11 giX11 (by decide) w9_12 (by decide +kernel : decode cX11_person 23 = .ok (.getfield 13, 3)) ?_
    refine q_aload_n C (by decide +kernel : decode cX11_person 26 = .ok (.aload_n 0, 1)) ?_
    refine q_get C (ci := 11) (j := 1) (C0 := RX11) (T := TX11) (N := 35) rfl iX11 giX11 (by decide) w9_4 (by decide +kernel : decode cX11_person 27 = .ok (.getfield 100, 3)) ?_
    refine q_iconst C (by decide +kernel : decode cX11_person 30 = .ok (.iconst (-1), 1)) (by decide) ?_
    refine q_iast C (by decide +kernel : decode cX11_person 31 = .ok (.iastore, 1)) ?_
    refine q_aload_n C (by decide +kernel : decode cX11_person 32 = .ok (.aload_n 0, 1)) ?_
    refine q_dup C (by decide +kernel : decode cX11_person 33 = .ok (.dup, 1)) ?_
    refine q_get C (ci := 11) (j := 1) (C0 := RX11) (T := TX11) (N := 35) rfl iX11 giX11 (by decide) w9_4 (by decide +kernel : decode cX11_person 34 = .ok (.getfield 100, 3)) ?_
    refine q_iconst C (by decide +kernel : decode cX11_person 37 = .ok (.iconst 1, 1)) (by decide) ?_
    refine q_iadd C (by decide +kernel : decode cX11_person 38 = .ok (.iadd, 1)) ?_
    refine q_put C (ci := 11) (j := 1) (C0 := RX11) (T := TX11) (N := 35) (ty := .int) rfl iX11 giX11 (by decide) tyX11 tyX11_ok nmX11 (by decide +kernel) rfl w9_4 (by decide +kernel : decode cX11_person 39 = .ok (.putfield 100, 3)) ?_
    refine q_aload_n C (by decide +kernel : decode cX11_person 42 = .ok (.aload_n 0, 1)) ?_
    refine q_get C (ci := 11) (j := 1) (C0 := RX11) (T := TX11) (N := 35) rfl iX11 giX11 (by decide) w9_4 (by decide +kernel : decode cX11_person 43 = .ok (.getfield 100, 3)) ?_
    refine q_iconst C (by decide +kernel : decode cX11_person 46 = .ok (.iconst 1, 1)) (by decide) ?_
    refine q_isub C (by decide +kernel : decode cX11_person 47 = .ok (.isub, 1)) ?_
    exact q_iret C rfl (by decide +kernel : decode cX11_person 48 = .ok (.ireturn, 1))
  · refine q_bipush C (by decide +kernel : decode cX11_person 9 = .ok (.bipush (-4), 2)) (by decide) ?_
    exact q_iret C rfl (by decide +kernel : decode cX11_person 11 = .ok (.ireturn, 1))
theorem u_X11_person (l : Launch) {sp : q_Sp} (H : ∀ (av : List Value) (σ : q_S) (post : Option Value → q_S → Prop), sp av σ post → k_X11_person_0 post (fun _ _ _ _ _ _ => False) (q_L0 av 1) [] σ 0 0 ∧ av.length ≤ 1 ∧ ∀ v ∈ av, v.category = 1) : q_Ct l yX11_person cX11_person 1 (some .int) rm_X11_person sp := by
  refine q_met (by decide) ?_
  intro D A p e s m args below meth c σ av post C hsp
  obtain ⟨h1, h2, h3⟩ := H av σ post hsp
  exact ⟨_, v_X11_person_0 (K := fun _ _ _ _ _ _ => False) C (fun h hh => by cases hh), h1, h2, h3⟩
theorem t_X11_person (l : Launch) : q_Ct l yX11_person cX11_person 1 (some .int) rm_X11_person s_X11_person := u_X11_person l (by
  intro av σ post h
  unfold s_X11_person at h
  split at h
  · next mr =>
    refine ⟨?_, by simp, by simp [Value.category]⟩
    obtain ⟨ad, z, g, ⟨gp, r, hm⟩, hI, h1⟩ := h
    have hm1 := hm.a2 (z 1).toNatClampNeg (-1)
    have hm2 := hm1.a3 (z 1).toNatClampNeg (-1)
    have hm3 := hm2.p1 (z 1 + 1)
    simp only [c_push, c_null, c_iload, c_aload, c_istore, c_astore, c_iinc, c_iadd, c_isub, c_imul, c_iand, c_ineg, c_dup, c_dup2, c_pop, c_ifnull, c_ifnonnull, c_get, c_put, c_iald, c_zald, c_iast, c_zast, c_aald, c_aast, c_alen, c_new, c_newa, c_newq, c_mna, c_oinit, c_max, c_copy, c_iret, c_zret, c_aret, c_vret, q_do, q_rc, c_ifeq, c_ifne, c_iflt, c_ifge, c_ifgt, c_ifle, c_iceq, c_icne, c_iclt, c_icge, c_icgt, c_icle, c_call0, c_call1, c_call2, c_call3, c_call4, c_call5, c_call6, c_call7, q_L0, List.map_cons, List.map_nil, List.replicate, List.cons_append, List.nil_append, List.append_nil, List.length_cons, List.length_nil, List.length_set, Nat.reduceSub, Nat.reduceAdd, Nat.reduceLT, Nat.reduceLeDiff, Nat.zero_add, Nat.add_zero, Nat.sub_zero, Nat.sub_self, List.getElem?_cons_zero, List.getElem?_cons_succ, List.set_cons_zero, List.set_cons_succ, Option.toList_some, Option.toList_none, List.sum_cons, List.sum_nil, true_and, and_true, true_or, or_true, Nat.le_refl, Nat.zero_le, Value.category, Fin.isValue, Fin.val_zero, Fin.val_one, Fin.val_two, Fin.reduceFinMk, q_10, q_01, not_false_eq_true, not_true_eq_false, forall_const, true_implies, false_implies, implies_true, q_ni, q_fi, q_nb0, q_nb1, q_fb0, q_fb1, q_nor, q_nar, q_for, q_far, q_non, q_nan, q_fon, q_fan, imp_false, false_and, and_false, and_self, false_or, or_false, va_rf, refKind, k_X11_person_0, hm.rd, hm1.rd, hm2.rd, hm3.rd, vpi12]
    unfold F_person at h1
    unfold I1 at hI
    split at h1
    · have a := h1 _ ⟨gp, r, hm⟩
      grind
    · have a := h1 _ ⟨gp, r, hm3⟩
      grind [upd]
  · exact h.elim)
-- heir
def F_heir (z : Nat → Int32) (g : Nat → Nat → Int32) (p h : Int32) : Int32 × (Nat → Nat → Int32) := if (0 ≤ p ∧ p < z 1) ∧ (h = -1 ∨ 0 ≤ h ∧ h < z 1) ∧ h ≠ p then (g 2 p.toNatClampNeg, gup g 2 p.toNatClampNeg h) else (-2, g)
def s_X11_heir : q_Sp := fun av σ post => match av with
  | [.ref mr, .int p, .int h] => ∃ ad z g, mOK σ mr ad z g ∧ I1 z ∧ ∀ σ', mOK σ' mr ad z (F_heir z g p h).2 → post (some (.int (F_heir z g p h).1)) σ'
  | _ => False
theorem w9_13 : (.code yX11_isPerson cX11_isPerson 2 (some .boolean) : Cond) ∈ lw_tbl := by decide +kernel
theorem w9_14 : (.methodLink RX11 106 yX11_isPerson : Cond) ∈ lw_tbl := by decide +kernel
theorem w9_15 : (.instanceMethod yX11_isPerson : Cond) ∈ lw_tbl := by decide +kernel
theorem w9_16 : (.selects RX11 yX11_isPerson yX11_isPerson : Cond) ∈ lw_tbl := by decide +kernel
def rm_X11_heir : Room := { frames := 2, cells := 0, slots := 0, locals := 43 }
def k_X11_heir_26 (post : Option Value → q_S → Prop) (K : Nat → q_K) : q_K := (c_push (-2) (c_iret post))
def k_X11_heir_21 (post : Option Value → q_S → Prop) (K : Nat → q_K) : q_K := (c_iload 2 (c_iload 1 (c_icne (c_aload 0 (c_get 11 2 (c_iload 1 (c_iald (c_istore 3 (c_aload 0 (c_get 11 2 (c_iload 1 (c_iload 2 (c_iast (c_iload 3 (c_iret post)))))))))))) (k_X11_heir_26 post K))))
def k_X11_heir_0 (post : Option Value → q_S → Prop) (K : Nat → q_K) : q_K := (c_aload 0 (c_iload 1 (c_call2 (some 11) s_X11_isPerson 0 0 (c_ifeq (k_X11_heir_26 post K) (c_iload 2 (c_push (-1) (c_iceq (k_X11_heir_21 post K) (c_aload 0 (c_iload 2 (c_call2 (some 11) s_X11_isPerson 0 0 (c_ifeq (k_X11_heir_26 post K) (k_X11_heir_21 post K))))))))))))
set_option maxRecDepth 100000 in
theorem v_X11_heir_26 {p : Program} {l : Launch} {e : Env} {s : State} {m : MethodId} {args : Array Value} {below : List Frame} {meth : Method} {c : Code} {D : va_G} {A : Nat → Prop} {post : Option Value → q_S → Prop} {K : Nat → q_K} (C : q_C p s m args meth c cX11_heir 4 RX11 "heir" (some .int) A) (hK : ∀ h ∈ ([] : List Nat), q_V p l e rm_X11_heir s m args below meth c D A 4 (MQ below (q_Qc D A post) args s rm_X11_heir.cells rm_X11_heir.slots A) h (K h)) : q_V p l e rm_X11_heir s m args below meth c D A 4 (MQ below (q_Qc D A post) args s rm_X11_heir.cells rm_X11_heir.slots A) 26 (k_X11_heir_26 post K) := by
  unfold k_X11_heir_26
  refine q_bipush C (by decide +kernel : decode cX11_heir 26 = .ok (.bipush (-2), 2)) (by decide) ?_
  exact q_iret C rfl (by decide +kernel : decode cX11_heir 28 = .ok (.ireturn, 1))
set_option maxRecDepth 100000 in
theorem v_X11_heir_21 {p : Program} {l : Launch} {e : Env} {s : State} {m : MethodId} {args : Array Value} {below : List Frame} {meth : Method} {c : Code} {D : va_G} {A : Nat → Prop} {post : Option Value → q_S → Prop} {K : Nat → q_K} (C : q_C p s m args meth c cX11_heir 4 RX11 "heir" (some .int) A) (hK : ∀ h ∈ ([] : List Nat), q_V p l e rm_X11_heir s m args below meth c D A 4 (MQ below (q_Qc D A post) args s rm_X11_heir.cells rm_X11_heir.slots A) h (K h)) : q_V p l e rm_X11_heir s m args below meth c D A 4 (MQ below (q_Qc D A post) args s rm_X11_heir.cells rm_X11_heir.slots A) 21 (k_X11_heir_21 post K) := by
  unfold k_X11_heir_21
  refine q_iload_n C (by decide +kernel : decode cX11_heir 21 = .ok (.iload_n 2, 1)) ?_
  refine q_iload_n C (by decide +kernel : decode cX11_heir 22 = .ok (.iload_n 1, 1)) ?_
  refine q_icne C (tgt := 29) (by decide +kernel : decode cX11_heir 23 = .ok (.if_icmp .ne 6, 3)) (by decide) ?_ ?_
  · refine q_aload_n C (by decide +kernel : decode cX11_heir 29 = .ok (.aload_n 0, 1)) ?_
    refine q_get C (ci := 11) (j := 2) (C0 := RX11) (T := TX11) (N := 35) rfl iX11 giX11 (by decide) w9_11 (by decide +kernel : decode cX11_heir 30 = .ok (.getfield 7, 3)) ?_
    refine q_iload_n C (by decide +kernel : decode cX11_heir 33 = .ok (.iload_n 1, 1)) ?_
    refine q_iald C (by decide +kernel : decode cX11_heir 34 = .ok (.iaload, 1)) ?_
    refine q_istore_n C (by decide +kernel : decode cX11_heir 35 = .ok (.istore_n 3, 1)) ?_
    refine q_aload_n C (by decide +kernel : decode cX11_heir 36 = .ok (.aload_n 0, 1)) ?_
    refine q_get C (ci := 11) (j := 2) (C0 := RX11) (T := TX11) (N := 35) rfl iX11 giX11 (by decide) w9_11 (by decide +kernel : decode cX11_heir 37 = .ok (.getfield 7, 3)) ?_
    refine q_iload_n C (by decide +kernel : decode cX11_heir 40 = .ok (.iload_n 1, 1)) ?_
    refine q_iload_n C (by decide +kernel : decode cX11_heir 41 = .ok (.iload_n 2, 1)) ?_
    refine q_iast C (by decide +kernel : decode cX11_heir 42 = .ok (.iastore, 1)) ?_
    refine q_iload_n C (by decide +kernel : decode cX11_heir 43 = .ok (.iload_n 3, 1)) ?_
    exact q_iret C rfl (by decide +kernel : decode cX11_heir 44 = .ok (.ireturn, 1))
  · exact v_X11_heir_26 C hK
set_option maxRecDepth 100000 in
theorem v_X11_heir_0 {p : Program} {l : Launch} {e : Env} {s : State} {m : MethodId} {args : Array Value} {below : List Frame} {meth : Method} {c : Code} {D : va_G} {A : Nat → Prop} {post : Option Value → q_S → Prop} {K : Nat → q_K} (C : q_C p s m args meth c cX11_heir 4 RX11 "heir" (some .int) A) (hK : ∀ h ∈ ([] : List Nat), q_V p l e rm_X11_heir s m args below meth c D A 4 (MQ below (q_Qc D A post) args s rm_X11_heir.cells rm_X11_heir.slots A) h (K h)) : q_V p l e rm_X11_heir s m args below meth c D A 4 (MQ below (q_Qc D A post) args s rm_X11_heir.cells rm_X11_heir.slots A) 0 (k_X11_heir_0 post K) := by
  unfold k_X11_heir_0
  refine q_aload_n C (by decide +kernel : decode cX11_heir 0 = .ok (.aload_n 0, 1)) ?_
  refine q_iload_n C (by decide +kernel : decode cX11_heir 1 = .ok (.iload_n 1, 1)) ?_
  refine q_call2 C (q_coV C (np := 1) (ci := 11) (rc := (RX11, TX11, 35)) (t_X11_isPerson l) w9_13 rfl rfl w9_14 w9_15 w9_16 w9_6 (by decide +kernel) (by decide +kernel : decode cX11_heir 2 = .ok (.invokevirtual 106, 3)) (by decide)) ?_
  refine q_ifeq C (tgt := 26) (by decide +kernel : decode cX11_heir 5 = .ok (.ifCond .eq 21, 3)) (by decide) ?_ ?_
  · exact v_X11_heir_26 C hK
  · refine q_iload_n C (by decide +kernel : decode cX11_heir 8 = .ok (.iload_n 2, 1)) ?_
    refine q_iconst C (by decide +kernel : decode cX11_heir 9 = .ok (.iconst (-1), 1)) (by decide) ?_
    refine q_iceq C (tgt := 21) (by decide +kernel : decode cX11_heir 10 = .ok (.if_icmp .eq 11, 3)) (by decide) ?_ ?_
    · exact v_X11_heir_21 C hK
    · refine q_aload_n C (by decide +kernel : decode cX11_heir 13 = .ok (.aload_n 0, 1)) ?_
      refine q_iload_n C (by decide +kernel : decode cX11_heir 14 = .ok (.iload_n 2, 1)) ?_
      refine q_call2 C (q_coV C (np := 1) (ci := 11) (rc := (RX11, TX11, 35)) (t_X11_isPerson l) w9_13 rfl rfl w9_14 w9_15 w9_16 w9_6 (by decide +kernel) (by decide +kernel : decode cX11_heir 15 = .ok (.invokevirtual 106, 3)) (by decide)) ?_
      refine q_ifeq C (tgt := 26) (by decide +kernel : decode cX11_heir 18 = .ok (.ifCond .eq 8, 3)) (by decide) ?_ ?_
      · exact v_X11_heir_26 C hK
      · exact v_X11_heir_21 C hK
theorem u_X11_heir (l : Launch) {sp : q_Sp} (H : ∀ (av : List Value) (σ : q_S) (post : Option Value → q_S → Prop), sp av σ post → k_X11_heir_0 post (fun _ _ _ _ _ _ => False) (q_L0 av 4) [] σ 0 0 ∧ av.length ≤ 4 ∧ ∀ v ∈ av, v.category = 1) : q_Ct l yX11_heir cX11_heir 4 (some .int) rm_X11_heir sp := by
  refine q_met (by decide) ?_
  intro D A p e s m args below meth c σ av post C hsp
  obtain ⟨h1, h2, h3⟩ := H av σ post hsp
  exact ⟨_, v_X11_heir_0 (K := fun _ _ _ _ _ _ => False) C (fun h hh => by cases hh), h1, h2, h3⟩
theorem t_X11_heir (l : Launch) : q_Ct l yX11_heir cX11_heir 4 (some .int) rm_X11_heir s_X11_heir := u_X11_heir l (by
  intro av σ post h
  unfold s_X11_heir at h
  split at h
  · next mr p q =>
    refine ⟨?_, by simp, by simp [Value.category]⟩
    obtain ⟨ad, z, g, ⟨gp, r, hm⟩, hI, h1⟩ := h
    have hm1 := hm.a2 p.toNatClampNeg q
    simp only [c_push, c_null, c_iload, c_aload, c_istore, c_astore, c_iinc, c_iadd, c_isub, c_imul, c_iand, c_ineg, c_dup, c_dup2, c_pop, c_ifnull, c_ifnonnull, c_get, c_put, c_iald, c_zald, c_iast, c_zast, c_aald, c_aast, c_alen, c_new, c_newa, c_newq, c_mna, c_oinit, c_max, c_copy, c_iret, c_zret, c_aret, c_vret, q_do, q_rc, c_ifeq, c_ifne, c_iflt, c_ifge, c_ifgt, c_ifle, c_iceq, c_icne, c_iclt, c_icge, c_icgt, c_icle, c_call0, c_call1, c_call2, c_call3, c_call4, c_call5, c_call6, c_call7, q_L0, List.map_cons, List.map_nil, List.replicate, List.cons_append, List.nil_append, List.append_nil, List.length_cons, List.length_nil, List.length_set, Nat.reduceSub, Nat.reduceAdd, Nat.reduceLT, Nat.reduceLeDiff, Nat.zero_add, Nat.add_zero, Nat.sub_zero, Nat.sub_self, List.getElem?_cons_zero, List.getElem?_cons_succ, List.set_cons_zero, List.set_cons_succ, Option.toList_some, Option.toList_none, List.sum_cons, List.sum_nil, true_and, and_true, true_or, or_true, Nat.le_refl, Nat.zero_le, Value.category, Fin.isValue, Fin.val_zero, Fin.val_one, Fin.val_two, Fin.reduceFinMk, q_10, q_01, not_false_eq_true, not_true_eq_false, forall_const, true_implies, false_implies, implies_true, q_ni, q_fi, q_nb0, q_nb1, q_fb0, q_fb1, q_nor, q_nar, q_for, q_far, q_non, q_nan, q_fon, q_fan, imp_false, false_and, and_false, and_self, false_or, or_false, va_rf, refKind, k_X11_heir_0, k_X11_heir_21, k_X11_heir_26, hm.rd, hm1.rd, vpi12, s_X11_isPerson]
    unfold F_heir at h1
    unfold I1 at hI
    split at h1
    · have a := h1 _ ⟨gp, r, hm1⟩
      grind
    · have a := h1 _ ⟨gp, r, hm⟩
      grind
  · exact h.elim)
-- deathAt, died
def deathF (g : Nat → Nat → Int32) (p : Nat) (k : Int32) : Int32 := if g 3 p ≠ -1 ∧ g 4 p ≤ k then g 3 p else -1
def s_X11_deathAt : q_Sp := fun av σ post => match av with
  | [.ref mr, .int p, .int k] => ∃ ad z g gp r, mOKx σ mr ad z g gp r ∧ (0 ≤ p ∧ p < 12) ∧ post (some (.int (deathF g p.toNatClampNeg k))) σ
  | _ => False
theorem w9_17 : (.fieldLink RX11 16 (TX11 4).1 (TX11 4).2.1 (TX11 4).2.2.1 : Cond) ∈ lw_tbl := by decide +kernel
def rm_X11_deathAt : Room := { frames := 0, cells := 0, slots := 0, locals := 0 }
def k_X11_deathAt_30 (post : Option Value → q_S → Prop) (K : Nat → q_K) : q_K := (c_iret post)
def k_X11_deathAt_29 (post : Option Value → q_S → Prop) (K : Nat → q_K) : q_K := (c_push (-1) (k_X11_deathAt_30 post K))
def k_X11_deathAt_0 (post : Option Value → q_S → Prop) (K : Nat → q_K) : q_K := (c_aload 0 (c_get 11 3 (c_iload 1 (c_iald (c_push (-1) (c_iceq (k_X11_deathAt_29 post K) (c_aload 0 (c_get 11 4 (c_iload 1 (c_iald (c_iload 2 (c_icgt (k_X11_deathAt_29 post K) (c_aload 0 (c_get 11 3 (c_iload 1 (c_iald (k_X11_deathAt_30 post K)))))))))))))))))
set_option maxRecDepth 100000 in
theorem v_X11_deathAt_30 {p : Program} {l : Launch} {e : Env} {s : State} {m : MethodId} {args : Array Value} {below : List Frame} {meth : Method} {c : Code} {D : va_G} {A : Nat → Prop} {post : Option Value → q_S → Prop} {K : Nat → q_K} (C : q_C p s m args meth c cX11_deathAt 3 RX11 "deathAt" (some .int) A) (hK : ∀ h ∈ ([] : List Nat), q_V p l e rm_X11_deathAt s m args below meth c D A 3 (MQ below (q_Qc D A post) args s rm_X11_deathAt.cells rm_X11_deathAt.slots A) h (K h)) : q_V p l e rm_X11_deathAt s m args below meth c D A 3 (MQ below (q_Qc D A post) args s rm_X11_deathAt.cells rm_X11_deathAt.slots A) 30 (k_X11_deathAt_30 post K) := by
  unfold k_X11_deathAt_30
  exact q_iret C rfl (by decide +kernel : decode cX11_deathAt 30 = .ok (.ireturn, 1))
set_option maxRecDepth 100000 in
theorem v_X11_deathAt_29 {p : Program} {l : Launch} {e : Env} {s : State} {m : MethodId} {args : Array Value} {below : List Frame} {meth : Method} {c : Code} {D : va_G} {A : Nat → Prop} {post : Option Value → q_S → Prop} {K : Nat → q_K} (C : q_C p s m args meth c cX11_deathAt 3 RX11 "deathAt" (some .int) A) (hK : ∀ h ∈ ([] : List Nat), q_V p l e rm_X11_deathAt s m args below meth c D A 3 (MQ below (q_Qc D A post) args s rm_X11_deathAt.cells rm_X11_deathAt.slots A) h (K h)) : q_V p l e rm_X11_deathAt s m args below meth c D A 3 (MQ below (q_Qc D A post) args s rm_X11_deathAt.cells rm_X11_deathAt.slots A) 29 (k_X11_deathAt_29 post K) := by
  unfold k_X11_deathAt_29
  refine q_iconst C (by decide +kernel : decode cX11_deathAt 29 = .ok (.iconst (-1), 1)) (by decide) ?_
  exact v_X11_deathAt_30 C hK
set_option maxRecDepth 100000 in
theorem v_X11_deathAt_0 {p : Program} {l : Launch} {e : Env} {s : State} {m : MethodId} {args : Array Value} {below : List Frame} {meth : Method} {c : Code} {D : va_G} {A : Nat → Prop} {post : Option Value → q_S → Prop} {K : Nat → q_K} (C : q_C p s m args meth c cX11_deathAt 3 RX11 "deathAt" (some .int) A) (hK : ∀ h ∈ ([] : List Nat), q_V p l e rm_X11_deathAt s m args below meth c D A 3 (MQ below (q_Qc D A post) args s rm_X11_deathAt.cells rm_X11_deathAt.slots A) h (K h)) : q_V p l e rm_X11_deathAt s m args below meth c D A 3 (MQ below (q_Qc D A post) args s rm_X11_deathAt.cells rm_X11_deathAt.slots A) 0 (k_X11_deathAt_0 post K) := by
  unfold k_X11_deathAt_0
  refine q_aload_n C (by decide +kernel : decode cX11_deathAt 0 = .ok (.aload_n 0, 1)) ?_
  refine q_get C (ci := 11) (j := 3) (C0 := RX11) (T := TX11) (N := 35) rfl iX11 giX11 (by decide) w9_12 (by decide +kernel : decode cX11_deathAt 1 = .ok (.getfield 13, 3)) ?_
  refine q_iload_n C (by decide +kernel : decode cX11_deathAt 4 = .ok (.iload_n 1, 1)) ?_
  refine q_iald C (by decide +kernel : decode cX11_deathAt 5 = .ok (.iaload, 1)) ?_
  refine q_iconst C (by decide +kernel : decode cX11_deathAt 6 = .ok (.iconst (-1), 1)) (by decide) ?_
  refine q_iceq C (tgt := 29) (by decide +kernel : decode cX11_deathAt 7 = .ok (.if_icmp .eq 22, 3)) (by decide) ?_ ?_
  · exact v_X11_deathAt_29 C hK
  · refine q_aload_n C (by decide +kernel : decode cX11_deathAt 10 = .ok (.aload_n 0, 1)) ?_
    refine q_get C (ci := 11) (j := 4) (C0 := RX11) (T := TX11) (N := 35) rfl iX11 giX11 (by decide) w9_17 (by decide +kernel : decode cX11_deathAt 11 = .ok (.getfield 16, 3)) ?_
    refine q_iload_n C (by decide +kernel : decode cX11_deathAt 14 = .ok (.iload_n 1, 1)) ?_
    refine q_iald C (by decide +kernel : decode cX11_deathAt 15 = .ok (.iaload, 1)) ?_
    refine q_iload_n C (by decide +kernel : decode cX11_deathAt 16 = .ok (.iload_n 2, 1)) ?_
    refine q_icgt C (tgt := 29) (by decide +kernel : decode cX11_deathAt 17 = .ok (.if_icmp .gt 12, 3)) (by decide) ?_ ?_
    · exact v_X11_deathAt_29 C hK
    · refine q_aload_n C (by decide +kernel : decode cX11_deathAt 20 = .ok (.aload_n 0, 1)) ?_
      refine q_get C (ci := 11) (j := 3) (C0 := RX11) (T := TX11) (N := 35) rfl iX11 giX11 (by decide) w9_12 (by decide +kernel : decode cX11_deathAt 21 = .ok (.getfield 13, 3)) ?_
      refine q_iload_n C (by decide +kernel : decode cX11_deathAt 24 = .ok (.iload_n 1, 1)) ?_
      refine q_iald C (by decide +kernel : decode cX11_deathAt 25 = .ok (.iaload, 1)) ?_
      refine q_goto C (tgt := 30) (by decide +kernel : decode cX11_deathAt 26 = .ok (.goto 4, 3)) (by decide) ?_
      exact v_X11_deathAt_30 C hK
theorem u_X11_deathAt (l : Launch) {sp : q_Sp} (H : ∀ (av : List Value) (σ : q_S) (post : Option Value → q_S → Prop), sp av σ post → k_X11_deathAt_0 post (fun _ _ _ _ _ _ => False) (q_L0 av 3) [] σ 0 0 ∧ av.length ≤ 3 ∧ ∀ v ∈ av, v.category = 1) : q_Ct l yX11_deathAt cX11_deathAt 3 (some .int) rm_X11_deathAt sp := by
  refine q_met (by decide) ?_
  intro D A p e s m args below meth c σ av post C hsp
  obtain ⟨h1, h2, h3⟩ := H av σ post hsp
  exact ⟨_, v_X11_deathAt_0 (K := fun _ _ _ _ _ _ => False) C (fun h hh => by cases hh), h1, h2, h3⟩
theorem t_X11_deathAt (l : Launch) : q_Ct l yX11_deathAt cX11_deathAt 3 (some .int) rm_X11_deathAt s_X11_deathAt := u_X11_deathAt l (by
  intro av σ post h
  unfold s_X11_deathAt at h
  split at h
  · next mr p k =>
    refine ⟨?_, by simp, by simp [Value.category]⟩
    obtain ⟨ad, z, g, gp, r, hm, hI, h1⟩ := h
    simp only [c_push, c_null, c_iload, c_aload, c_istore, c_astore, c_iinc, c_iadd, c_isub, c_imul, c_iand, c_ineg, c_dup, c_dup2, c_pop, c_ifnull, c_ifnonnull, c_get, c_put, c_iald, c_zald, c_iast, c_zast, c_aald, c_aast, c_alen, c_new, c_newa, c_newq, c_mna, c_oinit, c_max, c_copy, c_iret, c_zret, c_aret, c_vret, q_do, q_rc, c_ifeq, c_ifne, c_iflt, c_ifge, c_ifgt, c_ifle, c_iceq, c_icne, c_iclt, c_icge, c_icgt, c_icle, c_call0, c_call1, c_call2, c_call3, c_call4, c_call5, c_call6, c_call7, q_L0, List.map_cons, List.map_nil, List.replicate, List.cons_append, List.nil_append, List.append_nil, List.length_cons, List.length_nil, List.length_set, Nat.reduceSub, Nat.reduceAdd, Nat.reduceLT, Nat.reduceLeDiff, Nat.zero_add, Nat.add_zero, Nat.sub_zero, Nat.sub_self, List.getElem?_cons_zero, List.getElem?_cons_succ, List.set_cons_zero, List.set_cons_succ, Option.toList_some, Option.toList_none, List.sum_cons, List.sum_nil, true_and, and_true, true_or, or_true, Nat.le_refl, Nat.zero_le, Value.category, Fin.isValue, Fin.val_zero, Fin.val_one, Fin.val_two, Fin.reduceFinMk, q_10, q_01, not_false_eq_true, not_true_eq_false, forall_const, true_implies, false_implies, implies_true, q_ni, q_fi, q_nb0, q_nb1, q_fb0, q_fb1, q_nor, q_nar, q_for, q_far, q_non, q_nan, q_fon, q_fan, imp_false, false_and, and_false, and_self, false_or, or_false, va_rf, refKind, k_X11_deathAt_0, k_X11_deathAt_29, k_X11_deathAt_30, hm.rd, vpi12]
    unfold deathF at h1
    grind
  · exact h.elim)
def F_died (z : Nat → Int32) (g : Nat → Nat → Int32) (p k : Int32) : Int32 := if (0 ≤ p ∧ p < z 1) ∧ 0 ≤ k ∧ k ≤ 3000 then deathF g p.toNatClampNeg k else -2
def s_X11_died : q_Sp := fun av σ post => match av with
  | [.ref mr, .int p, .int k] => ∃ ad z g, mOK σ mr ad z g ∧ I1 z ∧ ∀ σ', mOK σ' mr ad z g → post (some (.int (F_died z g p k))) σ'
  | _ => False
theorem w9_18 : (.code yX11_deathAt cX11_deathAt 3 (some .int) : Cond) ∈ lw_tbl := by decide +kernel
theorem w9_19 : (.methodLink RX11 118 yX11_deathAt : Cond) ∈ lw_tbl := by decide +kernel
theorem w9_20 : (.instanceMethod yX11_deathAt : Cond) ∈ lw_tbl := by decide +kernel
theorem w9_21 : (.selects RX11 yX11_deathAt yX11_deathAt : Cond) ∈ lw_tbl := by decide +kernel
def rm_X11_died : Room := { frames := 2, cells := 0, slots := 0, locals := 43 }
def k_X11_died_30 (post : Option Value → q_S → Prop) (K : Nat → q_K) : q_K := (c_iret post)
def k_X11_died_28 (post : Option Value → q_S → Prop) (K : Nat → q_K) : q_K := (c_push (-2) (k_X11_died_30 post K))
def k_X11_died_0 (post : Option Value → q_S → Prop) (K : Nat → q_K) : q_K := (c_aload 0 (c_iload 1 (c_call2 (some 11) s_X11_isPerson 0 0 (c_ifeq (k_X11_died_28 post K) (c_iload 2 (c_push 0 (c_push 3000 (c_call3 none s_X11_in 0 0 (c_ifeq (k_X11_died_28 post K) (c_aload 0 (c_iload 1 (c_iload 2 (c_call3 (some 11) s_X11_deathAt 0 0 (k_X11_died_30 post K))))))))))))))
set_option maxRecDepth 100000 in
theorem v_X11_died_30 {p : Program} {l : Launch} {e : Env} {s : State} {m : MethodId} {args : Array Value} {below : List Frame} {meth : Method} {c : Code} {D : va_G} {A : Nat → Prop} {post : Option Value → q_S → Prop} {K : Nat → q_K} (C : q_C p s m args meth c cX11_died 3 RX11 "died" (some .int) A) (hK : ∀ h ∈ ([] : List Nat), q_V p l e rm_X11_died s m args below meth c D A 3 (MQ below (q_Qc D A post) args s rm_X11_died.cells rm_X11_died.slots A) h (K h)) : q_V p l e rm_X11_died s m args below meth c D A 3 (MQ below (q_Qc D A post) args s rm_X11_died.cells rm_X11_died.slots A) 30 (k_X11_died_30 post K) := by
  unfold k_X11_died_30
  exact q_iret C rfl (by decide +kernel : decode cX11_died 30 = .ok (.ireturn, 1))
set_option maxRecDepth 100000 in
theorem v_X11_died_28 {p : Program} {l : Launch} {e : Env} {s : State} {m : MethodId} {args : Array Value} {below : List Frame} {meth : Method} {c : Code} {D : va_G} {A : Nat → Prop} {post : Option Value → q_S → Prop} {K : Nat → q_K} (C : q_C p s m args meth c cX11_died 3 RX11 "died" (some .int) A) (hK : ∀ h ∈ ([] : List Nat), q_V p l e rm_X11_died s m args below meth c D A 3 (MQ below (q_Qc D A post) args s rm_X11_died.cells rm_X11_died.slots A) h (K h)) : q_V p l e rm_X11_died s m args below meth c D A 3 (MQ below (q_Qc D A post) args s rm_X11_died.cells rm_X11_died.slots A) 28 (k_X11_died_28 post K) := by
  unfold k_X11_died_28
  refine q_bipush C (by decide +kernel : decode cX11_died 28 = .ok (.bipush (-2), 2)) (by decide) ?_
  exact v_X11_died_30 C hK
set_option maxRecDepth 100000 in
theorem v_X11_died_0 {p : Program} {l : Launch} {e : Env} {s : State} {m : MethodId} {args : Array Value} {below : List Frame} {meth : Method} {c : Code} {D : va_G} {A : Nat → Prop} {post : Option Value → q_S → Prop} {K : Nat → q_K} (C : q_C p s m args meth c cX11_died 3 RX11 "died" (some .int) A) (hK : ∀ h ∈ ([] : List Nat), q_V p l e rm_X11_died s m args below meth c D A 3 (MQ below (q_Qc D A post) args s rm_X11_died.cells rm_X11_died.slots A) h (K h)) : q_V p l e rm_X11_died s m args below meth c D A 3 (MQ below (q_Qc D A post) args s rm_X11_died.cells rm_X11_died.slots A) 0 (k_X11_died_0 post K) := by
  unfold k_X11_died_0
  refine q_aload_n C (by decide +kernel : decode cX11_died 0 = .ok (.aload_n 0, 1)) ?_
  refine q_iload_n C (by decide +kernel : decode cX11_died 1 = .ok (.iload_n 1, 1)) ?_
  refine q_call2 C (q_coV C (np := 1) (ci := 11) (rc := (RX11, TX11, 35)) (t_X11_isPerson l) w9_13 rfl rfl w9_14 w9_15 w9_16 w9_6 (by decide +kernel) (by decide +kernel : decode cX11_died 2 = .ok (.invokevirtual 106, 3)) (by decide)) ?_
  refine q_ifeq C (tgt := 28) (by decide +kernel : decode cX11_died 5 = .ok (.ifCond .eq 23, 3)) (by decide) ?_ ?_
  · exact v_X11_died_28 C hK
  · refine q_iload_n C (by decide +kernel : decode cX11_died 8 = .ok (.iload_n 2, 1)) ?_
    refine q_iconst C (by decide +kernel : decode cX11_died 9 = .ok (.iconst 0, 1)) (by decide) ?_
    refine q_sipush C (by decide +kernel : decode cX11_died 10 = .ok (.sipush 3000, 3)) (by decide) ?_
    refine q_call3 C (q_coS C (np := 3) (t_X11_in l) w9_5 w9_8 w9_7 w9_6 (by decide +kernel) (by decide +kernel : decode cX11_died 13 = .ok (.invokestatic 92, 3)) (by decide)) ?_
    refine q_ifeq C (tgt := 28) (by decide +kernel : decode cX11_died 16 = .ok (.ifCond .eq 12, 3)) (by decide) ?_ ?_
    · exact v_X11_died_28 C hK
    · refine q_aload_n C (by decide +kernel : decode cX11_died 19 = .ok (.aload_n 0, 1)) ?_
      refine q_iload_n C (by decide +kernel : decode cX11_died 20 = .ok (.iload_n 1, 1)) ?_
      refine q_iload_n C (by decide +kernel : decode cX11_died 21 = .ok (.iload_n 2, 1)) ?_
      refine q_call3 C (q_coV C (np := 2) (ci := 11) (rc := (RX11, TX11, 35)) (t_X11_deathAt l) w9_18 rfl rfl w9_19 w9_20 w9_21 w9_6 (by decide +kernel) (by decide +kernel : decode cX11_died 22 = .ok (.invokevirtual 118, 3)) (by decide)) ?_
      refine q_goto C (tgt := 30) (by decide +kernel : decode cX11_died 25 = .ok (.goto 5, 3)) (by decide) ?_
      exact v_X11_died_30 C hK
theorem u_X11_died (l : Launch) {sp : q_Sp} (H : ∀ (av : List Value) (σ : q_S) (post : Option Value → q_S → Prop), sp av σ post → k_X11_died_0 post (fun _ _ _ _ _ _ => False) (q_L0 av 3) [] σ 0 0 ∧ av.length ≤ 3 ∧ ∀ v ∈ av, v.category = 1) : q_Ct l yX11_died cX11_died 3 (some .int) rm_X11_died sp := by
  refine q_met (by decide) ?_
  intro D A p e s m args below meth c σ av post C hsp
  obtain ⟨h1, h2, h3⟩ := H av σ post hsp
  exact ⟨_, v_X11_died_0 (K := fun _ _ _ _ _ _ => False) C (fun h hh => by cases hh), h1, h2, h3⟩
theorem t_X11_died (l : Launch) : q_Ct l yX11_died cX11_died 3 (some .int) rm_X11_died s_X11_died := u_X11_died l (by
  intro av σ post h
  unfold s_X11_died at h
  split at h
  · next mr p k =>
    refine ⟨?_, by simp, by simp [Value.category]⟩
    obtain ⟨ad, z, g, ⟨gp, r, hm⟩, hI, h1⟩ := h
    simp only [c_push, c_null, c_iload, c_aload, c_istore, c_astore, c_iinc, c_iadd, c_isub, c_imul, c_iand, c_ineg, c_dup, c_dup2, c_pop, c_ifnull, c_ifnonnull, c_get, c_put, c_iald, c_zald, c_iast, c_zast, c_aald, c_aast, c_alen, c_new, c_newa, c_newq, c_mna, c_oinit, c_max, c_copy, c_iret, c_zret, c_aret, c_vret, q_do, q_rc, c_ifeq, c_ifne, c_iflt, c_ifge, c_ifgt, c_ifle, c_iceq, c_icne, c_iclt, c_icge, c_icgt, c_icle, c_call0, c_call1, c_call2, c_call3, c_call4, c_call5, c_call6, c_call7, q_L0, List.map_cons, List.map_nil, List.replicate, List.cons_append, List.nil_append, List.append_nil, List.length_cons, List.length_nil, List.length_set, Nat.reduceSub, Nat.reduceAdd, Nat.reduceLT, Nat.reduceLeDiff, Nat.zero_add, Nat.add_zero, Nat.sub_zero, Nat.sub_self, List.getElem?_cons_zero, List.getElem?_cons_succ, List.set_cons_zero, List.set_cons_succ, Option.toList_some, Option.toList_none, List.sum_cons, List.sum_nil, true_and, and_true, true_or, or_true, Nat.le_refl, Nat.zero_le, Value.category, Fin.isValue, Fin.val_zero, Fin.val_one, Fin.val_two, Fin.reduceFinMk, q_10, q_01, not_false_eq_true, not_true_eq_false, forall_const, true_implies, false_implies, implies_true, q_ni, q_fi, q_nb0, q_nb1, q_fb0, q_fb1, q_nor, q_nar, q_for, q_far, q_non, q_nan, q_fon, q_fan, imp_false, false_and, and_false, and_self, false_or, or_false, va_rf, refKind, k_X11_died_0, k_X11_died_28, k_X11_died_30, hm.rd, vpi12, s_X11_isPerson, s_X11_in, s_X10_isWithin, s_X11_deathAt]
    have a := h1 _ ⟨gp, r, hm⟩
    unfold F_died at a
    unfold I1 at hI
    grind
  · exact h.elim)
-- act
def F_act (z : Nat → Int32) (g : Nat → Nat → Int32) (d f li v c : Int32) : Int32 × (Nat → Int32) × (Nat → Nat → Int32) :=
  if (z 0 ≤ d ∧ d ≤ 3000) ∧ (0 < z 5 → g 6 (z 5 - 1).toNatClampNeg < d) ∧ (0 ≤ f ∧ f ≤ 2000) ∧ (-1 ≤ li ∧ li ≤ 2000) ∧ (0 ≤ v ∧ v ≤ 2) ∧ (1 ≤ c ∧ c ≤ 16) then
    if z 5 = 6 then (-4, z, g) else (z 5, upd z 5 (z 5 + 1), gup (gup (gup (gup (gup g 6 (z 5).toNatClampNeg d) 7 (z 5).toNatClampNeg f) 8 (z 5).toNatClampNeg li) 9 (z 5).toNatClampNeg v) 10 (z 5).toNatClampNeg c)
  else (-2, z, g)
def s_X11_act : q_Sp := fun av σ post => match av with
  | [.ref mr, .int d, .int f, .int li, .int v, .int c] => ∃ ad z g, mOK σ mr ad z g ∧ I1 z ∧ ∀ σ', mOK σ' mr ad (F_act z g d f li v c).2.1 (F_act z g d f li v c).2.2 → post (some (.int (F_act z g d f li v c).1)) σ'
  | _ => False
theorem w9_22 : (.fieldLink RX11 122 (TX11 5).1 (TX11 5).2.1 (TX11 5).2.2.1 : Cond) ∈ lw_tbl := by decide +kernel
theorem w9_23 : (.fieldLink RX11 19 (TX11 6).1 (TX11 6).2.1 (TX11 6).2.2.1 : Cond) ∈ lw_tbl := by decide +kernel
theorem w9_24 : (.fieldLink RX11 22 (TX11 7).1 (TX11 7).2.1 (TX11 7).2.2.1 : Cond) ∈ lw_tbl := by decide +kernel
theorem w9_25 : (.fieldLink RX11 25 (TX11 8).1 (TX11 8).2.1 (TX11 8).2.2.1 : Cond) ∈ lw_tbl := by decide +kernel
theorem w9_26 : (.fieldLink RX11 28 (TX11 9).1 (TX11 9).2.1 (TX11 9).2.2.1 : Cond) ∈ lw_tbl := by decide +kernel
theorem w9_27 : (.fieldLink RX11 31 (TX11 10).1 (TX11 10).2.1 (TX11 10).2.2.1 : Cond) ∈ lw_tbl := by decide +kernel
def rm_X11_act : Room := { frames := 1, cells := 0, slots := 0, locals := 22 }
def k_X11_act_79 (post : Option Value → q_S → Prop) (K : Nat → q_K) : q_K := (c_push (-2) (c_iret post))
def k_X11_act_36 (post : Option Value → q_S → Prop) (K : Nat → q_K) : q_K := (c_iload 2 (c_push 0 (c_push 2000 (c_call3 none s_X11_in 0 0 (c_ifeq (k_X11_act_79 post K) (c_iload 3 (c_push (-1) (c_push 2000 (c_call3 none s_X11_in 0 0 (c_ifeq (k_X11_act_79 post K) (c_iload 4 (c_push 0 (c_push 2 (c_call3 none s_X11_in 0 0 (c_ifeq (k_X11_act_79 post K) (c_iload 5 (c_push 1 (c_push 16 (c_call3 none s_X11_in 0 0 (c_ifne (c_aload 0 (c_get 11 5 (c_push 6 (c_icne (c_aload 0 (c_get 11 6 (c_aload 0 (c_get 11 5 (c_iload 1 (c_iast (c_aload 0 (c_get 11 7 (c_aload 0 (c_get 11 5 (c_iload 2 (c_iast (c_aload 0 (c_get 11 8 (c_aload 0 (c_get 11 5 (c_iload 3 (c_iast (c_aload 0 (c_get 11 9 (c_aload 0 (c_get 11 5 (c_iload 4 (c_iast (c_aload 0 (c_get 11 10 (c_aload 0 (c_get 11 5 (c_iload 5 (c_iast (c_aload 0 (c_dup (c_get 11 5 (c_push 1 (c_iadd (c_put 11 5 (.int) (c_aload 0 (c_get 11 5 (c_push 1 (c_isub (c_iret post))))))))))))))))))))))))))))))))))))))))) (c_push (-4) (c_iret post)))))) (k_X11_act_79 post K)))))))))))))))))))))
def k_X11_act_0 (post : Option Value → q_S → Prop) (K : Nat → q_K) : q_K := (c_iload 1 (c_aload 0 (c_get 11 0 (c_push 3000 (c_call3 none s_X11_in 0 0 (c_ifeq (k_X11_act_79 post K) (c_aload 0 (c_get 11 5 (c_ifle (k_X11_act_36 post K) (c_iload 1 (c_aload 0 (c_get 11 6 (c_aload 0 (c_get 11 5 (c_push 1 (c_isub (c_iald (c_icle (k_X11_act_79 post K) (k_X11_act_36 post K)))))))))))))))))))
set_option maxRecDepth 100000 in
theorem v_X11_act_79 {p : Program} {l : Launch} {e : Env} {s : State} {m : MethodId} {args : Array Value} {below : List Frame} {meth : Method} {c : Code} {D : va_G} {A : Nat → Prop} {post : Option Value → q_S → Prop} {K : Nat → q_K} (C : q_C p s m args meth c cX11_act 6 RX11 "act" (some .int) A) (hK : ∀ h ∈ ([] : List Nat), q_V p l e rm_X11_act s m args below meth c D A 6 (MQ below (q_Qc D A post) args s rm_X11_act.cells rm_X11_act.slots A) h (K h)) : q_V p l e rm_X11_act s m args below meth c D A 6 (MQ below (q_Qc D A post) args s rm_X11_act.cells rm_X11_act.slots A) 79 (k_X11_act_79 post K) := by
  unfold k_X11_act_79
  refine q_bipush C (by decide +kernel : decode cX11_act 79 = .ok (.bipush (-2), 2)) (by decide) ?_
  exact q_iret C rfl (by decide +kernel : decode cX11_act 81 = .ok (.ireturn, 1))
set_option maxRecDepth 100000 in
theorem v_X11_act_36 {p : Program} {l : Launch} {e : Env} {s : State} {m : MethodId} {args : Array Value} {below : List Frame} {meth : Method} {c : Code} {D : va_G} {A : Nat → Prop} {post : Option Value → q_S → Prop} {K : Nat → q_K} (C : q_C p s m args meth c cX11_act 6 RX11 "act" (some .int) A) (hK : ∀ h ∈ ([] : List Nat), q_V p l e rm_X11_act s m args below meth c D A 6 (MQ below (q_Qc D A post) args s rm_X11_act.cells rm_X11_act.slots A) h (K h)) : q_V p l e rm_X11_act s m args below meth c D A 6 (MQ below (q_Qc D A post) args s rm_X11_act.cells rm_X11_act.slots A) 36 (k_X11_act_36 post K) := by
  unfold k_X11_act_36
  refine q_iload_n C (by decide +kernel : decode cX11_act 36 = .ok (.iload_n 2, 1)) ?_
  refine q_iconst C (by decide +kernel : decode cX11_act 37 = .ok (.iconst 0, 1)) (by decide) ?_
  refine q_sipush C (by decide +kernel : decode cX11_act 38 = .ok (.sipush 2000, 3)) (by decide) ?_
  refine q_call3 C (q_coS C (np := 3) (t_X11_in l) w9_5 w9_8 w9_7 w9_6 (by decide +kernel) (by decide +kernel : decode cX11_act 41 = .ok (.invokestatic 92, 3)) (by decide)) ?_
  refine q_ifeq C (tgt := 79) (by decide +kernel : decode cX11_act 44 = .ok (.ifCond .eq 35, 3)) (by decide) ?_ ?_
  · exact v_X11_act_79 C hK
  · refine q_iload_n C (by decide +kernel : decode cX11_act 47 = .ok (.iload_n 3, 1)) ?_
    refine q_iconst C (by decide +kernel : decode cX11_act 48 = .ok (.iconst (-1), 1)) (by decide) ?_
    refine q_sipush C (by decide +kernel : decode cX11_act 49 = .ok (.sipush 2000, 3)) (by decide) ?_
    refine q_call3 C (q_coS C (np := 3) (t_X11_in l) w9_5 w9_8 w9_7 w9_6 (by decide +kernel) (by decide +kernel : decode cX11_act 52 = .ok (.invokestatic 92, 3)) (by decide)) ?_
    refine q_ifeq C (tgt := 79) (by decide +kernel : decode cX11_act 55 = .ok (.ifCond .eq 24, 3)) (by decide) ?_ ?_
    · exact v_X11_act_79 C hK
    · refine q_iload C (by decide +kernel : decode cX11_act 58 = .ok (.iload 4, 2)) ?_
      refine q_iconst C (by decide +kernel : decode cX11_act 60 = .ok (.iconst 0, 1)) (by decide) ?_
      refine q_iconst C (by decide +kernel : decode cX11_act 61 = .ok (.iconst 2, 1)) (by decide) ?_
      refine q_call3 C (q_coS C (np := 3) (t_X11_in l) w9_5 w9_8 w9_7 w9_6 (by decide +kernel) (by decide +kernel : decode cX11_act 62 = .ok (.invokestatic 92, 3)) (by decide)) ?_
      refine q_ifeq C (tgt := 79) (by decide +kernel : decode cX11_act 65 = .ok (.ifCond .eq 14, 3)) (by decide) ?_ ?_
      · exact v_X11_act_79 C hK
      · refine q_iload C (by decide +kernel : decode cX11_act 68 = .ok (.iload 5, 2)) ?_
        refine q_iconst C (by decide +kernel : decode cX11_act 70 = .ok (.iconst 1, 1)) (by decide) ?_
        refine q_bipush C (by decide +kernel : decode cX11_act 71 = .ok (.bipush 16, 2)) (by decide) ?_
        refine q_call3 C (q_coS C (np := 3) (t_X11_in l) w9_5 w9_8 w9_7 w9_6 (by decide +kernel) (by decide +kernel : decode cX11_act 73 = .ok (.invokestatic 92, 3)) (by decide)) ?_
        refine q_ifne C (tgt := 82) (by decide +kernel : decode cX11_act 76 = .ok (.ifCond .ne 6, 3)) (by decide) ?_ ?_
        · refine q_aload_n C (by decide +kernel : decode cX11_act 82 = .ok (.aload_n 0, 1)) ?_
          refine q_get C (ci := 11) (j := 5) (C0 := RX11) (T := TX11) (N := 35) rfl iX11 giX11 (by decide) w9_22 (by decide +kernel : decode cX11_act 83 = .ok (.getfield 122, 3)) ?_
          refine q_bipush C (by decide +kernel : decode cX11_act 86 = .ok (.bipush 6, 2)) (by decide) ?_
          refine q_icne C (tgt := 94) (by decide +kernel : decode cX11_act 88 = .ok (.if_icmp .ne 6, 3)) (by decide) ?_ ?_
          · refine q_aload_n C (by decide +kernel : decode cX11_act 94 = .ok (.aload_n 0, 1)) ?_
            refine q_get C (ci := 11) (j := 6) (C0 := RX11) (T := TX11) (N := 35) rfl iX11 giX11 (by decide) w9_23 (by decide +kernel : decode cX11_act 95 = .ok (.getfield 19, 3)) ?_
            refine q_aload_n C (by decide +kernel : decode cX11_act 98 = .ok (.aload_n 0, 1)) ?_
            refine q_get C (ci := 11) (j := 5) (C0 := RX11) (T := TX11) (N := 35) rfl iX11 giX11 (by decide) w9_22 (by decide +kernel : decode cX11_act 99 = .ok (.getfield 122, 3)) ?_
            refine q_iload_n C (by decide +kernel : decode cX11_act 102 = .ok (.iload_n 1, 1)) ?_
            refine q_iast C (by decide +kernel : decode cX11_act 103 = .ok (.iastore, 1)) ?_
            refine q_aload_n C (by decide +kernel : decode cX11_act 104 = .ok (.aload_n 0, 1)) ?_
            refine q_get C (ci := 11) (j := 7) (C0 := RX11) (T := TX11) (N := 35) rfl iX11 giX11 (by decide) w9_24 (by decide +kernel : decode cX11_act 105 = .ok (.getfield 22, 3)) ?_
            refine q_aload_n C (by decide +kernel : decode cX11_act 108 = .ok (.aload_n 0, 1)) ?_
            refine q_get C (ci := 11) (j := 5) (C0 := RX11) (T := TX11) (N := 35) rfl iX11 giX11 (by decide) w9_22 (by decide +kernel : decode cX11_act 109 = .ok (.getfield 122, 3)) ?_
            refine q_iload_n C (by decide +kernel : decode cX11_act 112 = .ok (.iload_n 2, 1)) ?_
            refine q_iast C (by decide +kernel : decode cX11_act 113 = .ok (.iastore, 1)) ?_
            refine q_aload_n C (by decide +kernel : decode cX11_act 114 = .ok (.aload_n 0, 1)) ?_
            refine q_get C (ci := 11) (j := 8) (C0 := RX11) (T := TX11) (N := 35) rfl iX11 giX11 (by decide) w9_25 (by decide +kernel : decode cX11_act 115 = .ok (.getfield 25, 3)) ?_
            refine q_aload_n C (by decide +kernel : decode cX11_act 118 = .ok (.aload_n 0, 1)) ?_
            refine q_get C (ci := 11) (j := 5) (C0 := RX11) (T := TX11) (N := 35) rfl iX11 giX11 (by decide) w9_22 (by decide +kernel : decode cX11_act 119 = .ok (.getfield 122, 3)) ?_
            refine q_iload_n C (by decide +kernel : decode cX11_act 122 = .ok (.iload_n 3, 1)) ?_
            refine q_iast C (by decide +kernel : decode cX11_act 123 = .ok (.iastore, 1)) ?_
            refine q_aload_n C (by decide +kernel : decode cX11_act 124 = .ok (.aload_n 0, 1)) ?_
            refine q_get C (ci := 11) (j := 9) (C0 := RX11) (T := TX11) (N := 35) rfl iX11 giX11 (by decide) w9_26 (by decide +kernel : decode cX11_act 125 = .ok (.getfield 28, 3)) ?_
            refine q_aload_n C (by decide +kernel : decode cX11_act 128 = .ok (.aload_n 0, 1)) ?_
            refine q_get C (ci := 11) (j := 5) (C0 := RX11) (T := TX11) (N := 35) rfl iX11 giX11 (by decide) w9_22 (by decide +kernel : decode cX11_act 129 = .ok (.getfield 122, 3)) ?_
            refine q_iload C (by decide +kernel : decode cX11_act 132 = .ok (.iload 4, 2)) ?_
            refine q_iast C (by decide +kernel : decode cX11_act 134 = .ok (.iastore, 1)) ?_
            refine q_aload_n C (by decide +kernel : decode cX11_act 135 = .ok (.aload_n 0, 1)) ?_
            refine q_get C (ci := 11) (j := 10) (C0 := RX11) (T := TX11) (N := 35) rfl iX11 giX11 (by decide) w9_27 (by decide +kernel : decode cX11_act 136 = .ok (.getfield 31, 3)) ?_
            refine q_aload_n C (by decide +kernel : decode cX11_act 139 = .ok (.aload_n 0, 1)) ?_
            refine q_get C (ci := 11) (j := 5) (C0 := RX11) (T := TX11) (N := 35) rfl iX11 giX11 (by decide) w9_22 (by decide +kernel : decode cX11_act 140 = .ok (.getfield 122, 3)) ?_
            refine q_iload C (by decide +kernel : decode cX11_act 143 = .ok (.iload 5, 2)) ?_
            refine q_iast C (by decide +kernel : decode cX11_act 145 = .ok (.iastore, 1)) ?_
            refine q_aload_n C (by decide +kernel : decode cX11_act 146 = .ok (.aload_n 0, 1)) ?_
            refine q_dup C (by decide +kernel : decode cX11_act 147 = .ok (.dup, 1)) ?_
            refine q_get C (ci := 11) (j := 5) (C0 := RX11) (T := TX11) (N := 35) rfl iX11 giX11 (by decide) w9_22 (by decide +kernel : decode cX11_act 148 = .ok (.getfield 122, 3)) ?_
            refine q_iconst C (by decide +kernel : decode cX11_act 151 = .ok (.iconst 1, 1)) (by decide) ?_
            refine q_iadd C (by decide +kernel : decode cX11_act 152 = .ok (.iadd, 1)) ?_
            refine q_put C (ci := 11) (j := 5) (C0 := RX11) (T := TX11) (N := 35) (ty := .int) rfl iX11 giX11 (by decide) tyX11 tyX11_ok nmX11 (by decide +kernel) rfl w9_22 (by decide +kernel : decode cX11_act 153 = .ok (.putfield 122, 3)) ?_
            refine q_aload_n C (by decide +kernel : decode cX11_act 156 = .ok (.aload_n 0, 1)) ?_
            refine q_get C (ci := 11) (j := 5) (C0 := RX11) (T := TX11) (N := 35) rfl iX11 giX11 (by decide) w9_22 (by decide +kernel : decode cX11_act 157 = .ok (.getfield 122, 3)) ?_
            refine q_iconst C (by decide +kernel : decode cX11_act 160 = .ok (.iconst 1, 1)) (by decide) ?_
            refine q_isub C (by decide +kernel : decode cX11_act 161 = .ok (.isub, 1)) ?_
            exact q_iret C rfl (by decide +kernel : decode cX11_act 162 = .ok (.ireturn, 1))
          · refine q_bipush C (by decide +kernel : decode cX11_act 91 = .ok (.bipush (-4), 2)) (by decide) ?_
            exact q_iret C rfl (by decide +kernel : decode cX11_act 93 = .ok (.ireturn, 1))
        · exact v_X11_act_79 C hK
set_option maxRecDepth 100000 in
theorem v_X11_act_0 {p : Program} {l : Launch} {e : Env} {s : State} {m : MethodId} {args : Array Value} {below : List Frame} {meth : Method} {c : Code} {D : va_G} {A : Nat → Prop} {post : Option Value → q_S → Prop} {K : Nat → q_K} (C : q_C p s m args meth c cX11_act 6 RX11 "act" (some .int) A) (hK : ∀ h ∈ ([] : List Nat), q_V p l e rm_X11_act s m args below meth c D A 6 (MQ below (q_Qc D A post) args s rm_X11_act.cells rm_X11_act.slots A) h (K h)) : q_V p l e rm_X11_act s m args below meth c D A 6 (MQ below (q_Qc D A post) args s rm_X11_act.cells rm_X11_act.slots A) 0 (k_X11_act_0 post K) := by
  unfold k_X11_act_0
  refine q_iload_n C (by decide +kernel : decode cX11_act 0 = .ok (.iload_n 1, 1)) ?_
  refine q_aload_n C (by decide +kernel : decode cX11_act 1 = .ok (.aload_n 0, 1)) ?_
  refine q_get C (ci := 11) (j := 0) (C0 := RX11) (T := TX11) (N := 35) rfl iX11 giX11 (by decide) w9_10 (by decide +kernel : decode cX11_act 2 = .ok (.getfield 96, 3)) ?_
  refine q_sipush C (by decide +kernel : decode cX11_act 5 = .ok (.sipush 3000, 3)) (by decide) ?_
  refine q_call3 C (q_coS C (np := 3) (t_X11_in l) w9_5 w9_8 w9_7 w9_6 (by decide +kernel) (by decide +kernel : decode cX11_act 8 = .ok (.invokestatic 92, 3)) (by decide)) ?_
  refine q_ifeq C (tgt := 79) (by decide +kernel : decode cX11_act 11 = .ok (.ifCond .eq 68, 3)) (by decide) ?_ ?_
  · exact v_X11_act_79 C hK
  · refine q_aload_n C (by decide +kernel : decode cX11_act 14 = .ok (.aload_n 0, 1)) ?_
    refine q_get C (ci := 11) (j := 5) (C0 := RX11) (T := TX11) (N := 35) rfl iX11 giX11 (by decide) w9_22 (by decide +kernel : decode cX11_act 15 = .ok (.getfield 122, 3)) ?_
    refine q_ifle C (tgt := 36) (by decide +kernel : decode cX11_act 18 = .ok (.ifCond .le 18, 3)) (by decide) ?_ ?_
    · exact v_X11_act_36 C hK
    · refine q_iload_n C (by decide +kernel : decode cX11_act 21 = .ok (.iload_n 1, 1)) ?_
      refine q_aload_n C (by decide +kernel : decode cX11_act 22 = .ok (.aload_n 0, 1)) ?_
      refine q_get C (ci := 11) (j := 6) (C0 := RX11) (T := TX11) (N := 35) rfl iX11 giX11 (by decide) w9_23 (by decide +kernel : decode cX11_act 23 = .ok (.getfield 19, 3)) ?_
      refine q_aload_n C (by decide +kernel : decode cX11_act 26 = .ok (.aload_n 0, 1)) ?_
      refine q_get C (ci := 11) (j := 5) (C0 := RX11) (T := TX11) (N := 35) rfl iX11 giX11 (by decide) w9_22 (by decide +kernel : decode cX11_act 27 = .ok (.getfield 122, 3)) ?_
      refine q_iconst C (by decide +kernel : decode cX11_act 30 = .ok (.iconst 1, 1)) (by decide) ?_
      refine q_isub C (by decide +kernel : decode cX11_act 31 = .ok (.isub, 1)) ?_
      refine q_iald C (by decide +kernel : decode cX11_act 32 = .ok (.iaload, 1)) ?_
      refine q_icle C (tgt := 79) (by decide +kernel : decode cX11_act 33 = .ok (.if_icmp .le 46, 3)) (by decide) ?_ ?_
      · exact v_X11_act_79 C hK
      · exact v_X11_act_36 C hK
theorem u_X11_act (l : Launch) {sp : q_Sp} (H : ∀ (av : List Value) (σ : q_S) (post : Option Value → q_S → Prop), sp av σ post → k_X11_act_0 post (fun _ _ _ _ _ _ => False) (q_L0 av 6) [] σ 0 0 ∧ av.length ≤ 6 ∧ ∀ v ∈ av, v.category = 1) : q_Ct l yX11_act cX11_act 6 (some .int) rm_X11_act sp := by
  refine q_met (by decide) ?_
  intro D A p e s m args below meth c σ av post C hsp
  obtain ⟨h1, h2, h3⟩ := H av σ post hsp
  exact ⟨_, v_X11_act_0 (K := fun _ _ _ _ _ _ => False) C (fun h hh => by cases hh), h1, h2, h3⟩
theorem t_X11_act (l : Launch) : q_Ct l yX11_act cX11_act 6 (some .int) rm_X11_act s_X11_act := u_X11_act l (by
  intro av σ post h
  unfold s_X11_act at h
  split at h
  · next mr d f li v c =>
    refine ⟨?_, by simp, by simp [Value.category]⟩
    obtain ⟨ad, z, g, ⟨gp, r, hm⟩, hI, h1⟩ := h
    have hm1 := hm.a6 (z 5).toNatClampNeg d
    have hm2 := hm1.a7 (z 5).toNatClampNeg f
    have hm3 := hm2.a8 (z 5).toNatClampNeg li
    have hm4 := hm3.a9 (z 5).toNatClampNeg v
    have hm5 := hm4.a10 (z 5).toNatClampNeg c
    have hm6 := hm5.p5 (z 5 + 1)
    simp only [c_push, c_null, c_iload, c_aload, c_istore, c_astore, c_iinc, c_iadd, c_isub, c_imul, c_iand, c_ineg, c_dup, c_dup2, c_pop, c_ifnull, c_ifnonnull, c_get, c_put, c_iald, c_zald, c_iast, c_zast, c_aald, c_aast, c_alen, c_new, c_newa, c_newq, c_mna, c_oinit, c_max, c_copy, c_iret, c_zret, c_aret, c_vret, q_do, q_rc, c_ifeq, c_ifne, c_iflt, c_ifge, c_ifgt, c_ifle, c_iceq, c_icne, c_iclt, c_icge, c_icgt, c_icle, c_call0, c_call1, c_call2, c_call3, c_call4, c_call5, c_call6, c_call7, q_L0, List.map_cons, List.map_nil, List.replicate, List.cons_append, List.nil_append, List.append_nil, List.length_cons, List.length_nil, List.length_set, Nat.reduceSub, Nat.reduceAdd, Nat.reduceLT, Nat.reduceLeDiff, Nat.zero_add, Nat.add_zero, Nat.sub_zero, Nat.sub_self, List.getElem?_cons_zero, List.getElem?_cons_succ, List.set_cons_zero, List.set_cons_succ, Option.toList_some, Option.toList_none, List.sum_cons, List.sum_nil, true_and, and_true, true_or, or_true, Nat.le_refl, Nat.zero_le, Value.category, Fin.isValue, Fin.val_zero, Fin.val_one, Fin.val_two, Fin.reduceFinMk, q_10, q_01, not_false_eq_true, not_true_eq_false, forall_const, true_implies, false_implies, implies_true, q_ni, q_fi, q_nb0, q_nb1, q_fb0, q_fb1, q_nor, q_nar, q_for, q_far, q_non, q_nan, q_fon, q_fan, imp_false, false_and, and_false, and_self, false_or, or_false, va_rf, refKind, k_X11_act_0, k_X11_act_36, k_X11_act_79, hm.rd, hm1.rd, hm2.rd, hm3.rd, hm4.rd, hm5.rd, hm6.rd, vpi6, s_X11_in, s_X10_isWithin]
    unfold F_act at h1
    unfold I1 at hI
    split at h1
    · split at h1
      · have a := h1 _ ⟨gp, r, hm⟩
        clear h1 hm1 hm2 hm3 hm4 hm5 hm6 hm
        grind (splits := 40)
      · have a := h1 _ ⟨gp, r, hm6⟩
        clear h1 hm1 hm2 hm3 hm4 hm5 hm6 hm
        grind (splits := 40) [upd]
    · have a := h1 _ ⟨gp, r, hm⟩
      clear h1 hm1 hm2 hm3 hm4 hm5 hm6 hm
      grind (splits := 40)
  · exact h.elim)
