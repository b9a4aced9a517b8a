-- Acts
abbrev refsE (C : String) (n m : Nat) (aa : Nat → Nat) : q_E := .inl (.object C, n, .inr (.inr (.inr (.inr (fun i => if i < m then some (aa i) else none)))))
def AcD (σ : q_S) (R : Nat → Prop) (ac AR : Nat) (aa : Nat → Nat) (g : Nat → Nat → Int32) (na : Nat) : Prop := hv σ R ac (.inr (1, [.ref AR, .int (nI na)])) ∧ hv σ R AR (refsE "CopyRegister$Act" 6 na aa) ∧ (∀ i, i < na → hv σ R (aa i) (.inr (0, [.int (g 6 i), .int (g 7 i), .int (g 8 i), .int (g 9 i), .int (g 10 i)]))) ∧ na ≤ 6
def s_X1_rowAt : q_Sp := fun av σ post => match av with
  | [.ref ac, .int i] => ∃ R AR aa g na, AcD σ R ac AR aa g na ∧ (∀ j, j < na → i = nI j → post (some (.ref (aa j))) σ) ∧ (i < 0 ∨ nI na ≤ i → post (some .null) σ)
  | _ => False
theorem w9_252 : (.fieldLink RX1 17 (TX1 1).1 (TX1 1).2.1 (TX1 1).2.2.1 : Cond) ∈ lw_tbl := by decide +kernel
theorem w9_253 : (.fieldLink RX1 11 (TX1 0).1 (TX1 0).2.1 (TX1 0).2.2.1 : Cond) ∈ lw_tbl := by decide +kernel
def rm_X1_rowAt : Room := { frames := 0, cells := 0, slots := 0, locals := 0 }
def k_X1_rowAt_31 (post : Option Value → q_S → Prop) (K : Nat → q_K) : q_K := (c_aret post)
def k_X1_rowAt_30 (post : Option Value → q_S → Prop) (K : Nat → q_K) : q_K := (c_null (k_X1_rowAt_31 post K))
def k_X1_rowAt_0 (post : Option Value → q_S → Prop) (K : Nat → q_K) : q_K := (c_iload 1 (c_iflt (k_X1_rowAt_30 post K) (c_iload 1 (c_aload 0 (c_get 1 1 (c_icge (k_X1_rowAt_30 post K) (c_iload 1 (c_aload 0 (c_get 1 0 (c_alen (c_icge (k_X1_rowAt_30 post K) (c_aload 0 (c_get 1 0 (c_iload 1 (c_aald (k_X1_rowAt_31 post K))))))))))))))))
set_option maxRecDepth 100000 in
theorem v_X1_rowAt_31 {p : Program} {l : Launch} {e : Env} {s : State} {m : MethodId} {args : Array Value} {below : List Frame} {meth : Method} {c : Code} {D : va_G} {A : Nat → Prop} {post : Option Value → q_S → Prop} {K : Nat → q_K} (C : q_C p s m args meth c cX1_rowAt 2 RX1 "rowAt" (some (.object "CopyRegister$Act")) A) (hK : ∀ h ∈ ([] : List Nat), q_V p l e rm_X1_rowAt s m args below meth c D A 2 (MQ below (q_Qc D A post) args s rm_X1_rowAt.cells rm_X1_rowAt.slots A) h (K h)) : q_V p l e rm_X1_rowAt s m args below meth c D A 2 (MQ below (q_Qc D A post) args s rm_X1_rowAt.cells rm_X1_rowAt.slots A) 31 (k_X1_rowAt_31 post K) := by
  unfold k_X1_rowAt_31
  exact q_aret C rfl (Or.inl ⟨_, rfl⟩) (by decide +kernel : decode cX1_rowAt 31 = .ok (.areturn, 1))
set_option maxRecDepth 100000 in
theorem v_X1_rowAt_30 {p : Program} {l : Launch} {e : Env} {s : State} {m : MethodId} {args : Array Value} {below : List Frame} {meth : Method} {c : Code} {D : va_G} {A : Nat → Prop} {post : Option Value → q_S → Prop} {K : Nat → q_K} (C : q_C p s m args meth c cX1_rowAt 2 RX1 "rowAt" (some (.object "CopyRegister$Act")) A) (hK : ∀ h ∈ ([] : List Nat), q_V p l e rm_X1_rowAt s m args below meth c D A 2 (MQ below (q_Qc D A post) args s rm_X1_rowAt.cells rm_X1_rowAt.slots A) h (K h)) : q_V p l e rm_X1_rowAt s m args below meth c D A 2 (MQ below (q_Qc D A post) args s rm_X1_rowAt.cells rm_X1_rowAt.slots A) 30 (k_X1_rowAt_30 post K) := by
  unfold k_X1_rowAt_30
  refine q_null C (by decide +kernel : decode cX1_rowAt 30 = .ok (.aconst_null, 1)) ?_
  exact v_X1_rowAt_31 C hK
set_option maxRecDepth 100000 in
theorem v_X1_rowAt_0 {p : Program} {l : Launch} {e : Env} {s : State} {m : MethodId} {args : Array Value} {below : List Frame} {meth : Method} {c : Code} {D : va_G} {A : Nat → Prop} {post : Option Value → q_S → Prop} {K : Nat → q_K} (C : q_C p s m args meth c cX1_rowAt 2 RX1 "rowAt" (some (.object "CopyRegister$Act")) A) (hK : ∀ h ∈ ([] : List Nat), q_V p l e rm_X1_rowAt s m args below meth c D A 2 (MQ below (q_Qc D A post) args s rm_X1_rowAt.cells rm_X1_rowAt.slots A) h (K h)) : q_V p l e rm_X1_rowAt s m args below meth c D A 2 (MQ below (q_Qc D A post) args s rm_X1_rowAt.cells rm_X1_rowAt.slots A) 0 (k_X1_rowAt_0 post K) := by
  unfold k_X1_rowAt_0
  refine q_iload_n C (by decide +kernel : decode cX1_rowAt 0 = .ok (.iload_n 1, 1)) ?_
  refine q_iflt C (tgt := 30) (by decide +kernel : decode cX1_rowAt 1 = .ok (.ifCond .lt 29, 3)) (by decide) ?_ ?_
  · exact v_X1_rowAt_30 C hK
  · refine q_iload_n C (by decide +kernel : decode cX1_rowAt 4 = .ok (.iload_n 1, 1)) ?_
    refine q_aload_n C (by decide +kernel : decode cX1_rowAt 5 = .ok (.aload_n 0, 1)) ?_
    refine q_get C (ci := 1) (j := 1) (C0 := RX1) (T := TX1) (N := 2) rfl iX1 giX1 (by decide) w9_252 (by decide +kernel : decode cX1_rowAt 6 = .ok (.getfield 17, 3)) ?_
    refine q_icge C (tgt := 30) (by decide +kernel : decode cX1_rowAt 9 = .ok (.if_icmp .ge 21, 3)) (by decide) ?_ ?_
    · exact v_X1_rowAt_30 C hK
    · refine q_iload_n C (by decide +kernel : decode cX1_rowAt 12 = .ok (.iload_n 1, 1)) ?_
      refine q_aload_n C (by decide +kernel : decode cX1_rowAt 13 = .ok (.aload_n 0, 1)) ?_
      refine q_get C (ci := 1) (j := 0) (C0 := RX1) (T := TX1) (N := 2) rfl iX1 giX1 (by decide) w9_253 (by decide +kernel : decode cX1_rowAt 14 = .ok (.getfield 11, 3)) ?_
      refine q_alen C (by decide +kernel : decode cX1_rowAt 17 = .ok (.arraylength, 1)) ?_
      refine q_icge C (tgt := 30) (by decide +kernel : decode cX1_rowAt 18 = .ok (.if_icmp .ge 12, 3)) (by decide) ?_ ?_
      · exact v_X1_rowAt_30 C hK
      · refine q_aload_n C (by decide +kernel : decode cX1_rowAt 21 = .ok (.aload_n 0, 1)) ?_
        refine q_get C (ci := 1) (j := 0) (C0 := RX1) (T := TX1) (N := 2) rfl iX1 giX1 (by decide) w9_253 (by decide +kernel : decode cX1_rowAt 22 = .ok (.getfield 11, 3)) ?_
        refine q_iload_n C (by decide +kernel : decode cX1_rowAt 25 = .ok (.iload_n 1, 1)) ?_
        refine q_aald C (by decide +kernel : decode cX1_rowAt 26 = .ok (.aaload, 1)) ?_
        refine q_goto C (tgt := 31) (by decide +kernel : decode cX1_rowAt 27 = .ok (.goto 4, 3)) (by decide) ?_
        exact v_X1_rowAt_31 C hK
theorem u_X1_rowAt (l : Launch) {sp : q_Sp} (H : ∀ (av : List Value) (σ : q_S) (post : Option Value → q_S → Prop), sp av σ post → k_X1_rowAt_0 post (fun _ _ _ _ _ _ => False) (q_L0 av 2) [] σ 0 0 ∧ av.length ≤ 2 ∧ ∀ v ∈ av, v.category = 1) : q_Ct l yX1_rowAt cX1_rowAt 2 (some (.object "CopyRegister$Act")) rm_X1_rowAt sp := by
  refine q_met (by decide) ?_
  intro D A p e s m args below meth c σ av post C hsp
  obtain ⟨h1, h2, h3⟩ := H av σ post hsp
  exact ⟨_, v_X1_rowAt_0 (K := fun _ _ _ _ _ _ => False) C (fun h hh => by cases hh), h1, h2, h3⟩
theorem t_X1_rowAt (l : Launch) : q_Ct l yX1_rowAt cX1_rowAt 2 (some (.object "CopyRegister$Act")) rm_X1_rowAt s_X1_rowAt := u_X1_rowAt l (by
  intro av σ post h
  unfold s_X1_rowAt at h
  split at h
  · next ac i =>
    refine ⟨?_, by simp, by simp [Value.category]⟩
    obtain ⟨R, AR, aa, g, na, ⟨h1, h2, h3, hna⟩, h7, h8⟩ := h
    have h22 := h2.2
    have hn6 : nI na ≤ 6 := nI_leN (N := 6) hna
    have hn0 : 0 ≤ nI na := nI_low (by omega)
    by_cases c : i < 0 ∨ nI na ≤ i
    · have h9 := h8 c
      simp only [c_push, c_null, c_iload, c_aload, c_istore, c_astore, c_iinc, c_iadd, c_isub, c_imul, c_iand, c_ineg, c_dup, c_dup2, c_pop, c_ifnull, c_ifnonnull, c_get, c_put, c_iald, c_zald, c_iast, c_zast, c_aald, c_aast, c_alen, c_new, c_newa, c_newq, c_mna, c_oinit, c_max, c_copy, c_iret, c_zret, c_aret, c_vret, q_do, q_rc, c_ifeq, c_ifne, c_iflt, c_ifge, c_ifgt, c_ifle, c_iceq, c_icne, c_iclt, c_icge, c_icgt, c_icle, c_call0, c_call1, c_call2, c_call3, c_call4, c_call5, c_call6, c_call7, q_L0, List.map_cons, List.map_nil, List.replicate, List.cons_append, List.nil_append, List.append_nil, List.length_cons, List.length_nil, List.length_set, Nat.reduceSub, Nat.reduceAdd, Nat.reduceLT, Nat.reduceLeDiff, Nat.zero_add, Nat.add_zero, Nat.sub_zero, Nat.sub_self, List.getElem?_cons_zero, List.getElem?_cons_succ, List.set_cons_zero, List.set_cons_succ, Option.toList_some, Option.toList_none, List.sum_cons, List.sum_nil, true_and, and_true, true_or, or_true, Nat.le_refl, Nat.zero_le, Value.category, Fin.isValue, Fin.val_zero, Fin.val_one, Fin.val_two, Fin.reduceFinMk, q_10, q_01, not_false_eq_true, not_true_eq_false, forall_const, true_implies, false_implies, implies_true, q_ni, q_fi, q_nb0, q_nb1, q_fb0, q_fb1, q_nor, q_nar, q_for, q_far, q_non, q_nan, q_fon, q_fan, imp_false, false_and, and_false, and_self, false_or, or_false, va_rf, refKind, k_X1_rowAt_0, k_X1_rowAt_30, k_X1_rowAt_31, q_fld, q_fset, q_oc, q_ai, q_aq, q_len, q_up_s, q_up_up, if_true, h1.2, h22, rkO, vpi6, len6]
      clear h7 h8
      grind
    · have c0 : 0 ≤ i := by grind
      have c1 : i < nI na := by grind
      have c6 : i < 6 := by grind
      have e := nI_self c0
      have hj : i.toNatClampNeg < na := by
        rw [← e] at c1
        exact (cl2 _ _ _ _ rfl rfl (by have := clamp_lt 6 c0 c6; omega) (by omega)).2.1.mp c1
      have h9 := h7 _ hj e.symm
      simp only [c_push, c_null, c_iload, c_aload, c_istore, c_astore, c_iinc, c_iadd, c_isub, c_imul, c_iand, c_ineg, c_dup, c_dup2, c_pop, c_ifnull, c_ifnonnull, c_get, c_put, c_iald, c_zald, c_iast, c_zast, c_aald, c_aast, c_alen, c_new, c_newa, c_newq, c_mna, c_oinit, c_max, c_copy, c_iret, c_zret, c_aret, c_vret, q_do, q_rc, c_ifeq, c_ifne, c_iflt, c_ifge, c_ifgt, c_ifle, c_iceq, c_icne, c_iclt, c_icge, c_icgt, c_icle, c_call0, c_call1, c_call2, c_call3, c_call4, c_call5, c_call6, c_call7, q_L0, List.map_cons, List.map_nil, List.replicate, List.cons_append, List.nil_append, List.append_nil, List.length_cons, List.length_nil, List.length_set, Nat.reduceSub, Nat.reduceAdd, Nat.reduceLT, Nat.reduceLeDiff, Nat.zero_add, Nat.add_zero, Nat.sub_zero, Nat.sub_self, List.getElem?_cons_zero, List.getElem?_cons_succ, List.set_cons_zero, List.set_cons_succ, Option.toList_some, Option.toList_none, List.sum_cons, List.sum_nil, true_and, and_true, true_or, or_true, Nat.le_refl, Nat.zero_le, Value.category, Fin.isValue, Fin.val_zero, Fin.val_one, Fin.val_two, Fin.reduceFinMk, q_10, q_01, not_false_eq_true, not_true_eq_false, forall_const, true_implies, false_implies, implies_true, q_ni, q_fi, q_nb0, q_nb1, q_fb0, q_fb1, q_nor, q_nar, q_for, q_far, q_non, q_nan, q_fon, q_fan, imp_false, false_and, and_false, and_self, false_or, or_false, va_rf, refKind, k_X1_rowAt_0, k_X1_rowAt_30, k_X1_rowAt_31, q_fld, q_fset, q_oc, q_ai, q_aq, q_len, q_up_s, q_up_up, if_true, h1.2, h22, rkO, vpi6, len6, if_pos hj]
      clear h7 h8
      grind
  · exact h.elim)
def s_X1_allEarlierThan : q_Sp := fun av σ post => match av with
  | [.ref ac, .int d] => ∃ R AR aa g na, AcD σ R ac AR aa g na ∧ ((0 < na → g 6 (na - 1) < d) → post (some (.int 1)) σ) ∧ (¬ (0 < na → g 6 (na - 1) < d) → post (some (.int 0)) σ)
  | _ => False
theorem w9_254 : (.code yX1_rowAt cX1_rowAt 2 (some (.object "CopyRegister$Act")) : Cond) ∈ lw_tbl := by decide +kernel
theorem w9_255 : (.initialized RX1 : Cond) ∈ lw_tbl := by decide +kernel
theorem w9_256 : (.methodLink RX1 21 yX1_rowAt : Cond) ∈ lw_tbl := by decide +kernel
theorem w9_257 : (.instanceMethod yX1_rowAt : Cond) ∈ lw_tbl := by decide +kernel
theorem w9_258 : (.selects RX1 yX1_rowAt yX1_rowAt : Cond) ∈ lw_tbl := by decide +kernel
def rm_X1_allEarlierThan : Room := { frames := 1, cells := 0, slots := 0, locals := 21 }
def k_X1_allEarlierThan_28 (post : Option Value → q_S → Prop) (K : Nat → q_K) : q_K := (c_zret post)
def k_X1_allEarlierThan_23 (post : Option Value → q_S → Prop) (K : Nat → q_K) : q_K := (c_push 1 (k_X1_allEarlierThan_28 post K))
def k_X1_allEarlierThan_0 (post : Option Value → q_S → Prop) (K : Nat → q_K) : q_K := (c_aload 0 (c_aload 0 (c_get 1 1 (c_push 1 (c_isub (c_call2 (some 1) s_X1_rowAt 0 0 (c_astore 2 (c_aload 2 (c_ifnull (k_X1_allEarlierThan_23 post K) (c_aload 2 (c_get 0 0 (c_iload 1 (c_icge (c_push 0 (k_X1_allEarlierThan_28 post K)) (k_X1_allEarlierThan_23 post K))))))))))))))
set_option maxRecDepth 100000 in
theorem v_X1_allEarlierThan_28 {p : Program} {l : Launch} {e : Env} {s : State} {m : MethodId} {args : Array Value} {below : List Frame} {meth : Method} {c : Code} {D : va_G} {A : Nat → Prop} {post : Option Value → q_S → Prop} {K : Nat → q_K} (C : q_C p s m args meth c cX1_allEarlierThan 3 RX1 "allEarlierThan" (some .boolean) A) (hK : ∀ h ∈ ([] : List Nat), q_V p l e rm_X1_allEarlierThan s m args below meth c D A 3 (MQ below (q_Qc D A post) args s rm_X1_allEarlierThan.cells rm_X1_allEarlierThan.slots A) h (K h)) : q_V p l e rm_X1_allEarlierThan s m args below meth c D A 3 (MQ below (q_Qc D A post) args s rm_X1_allEarlierThan.cells rm_X1_allEarlierThan.slots A) 28 (k_X1_allEarlierThan_28 post K) := by
  unfold k_X1_allEarlierThan_28
  exact q_zret C rfl (by decide +kernel : decode cX1_allEarlierThan 28 = .ok (.ireturn, 1))
set_option maxRecDepth 100000 in
theorem v_X1_allEarlierThan_23 {p : Program} {l : Launch} {e : Env} {s : State} {m : MethodId} {args : Array Value} {below : List Frame} {meth : Method} {c : Code} {D : va_G} {A : Nat → Prop} {post : Option Value → q_S → Prop} {K : Nat → q_K} (C : q_C p s m args meth c cX1_allEarlierThan 3 RX1 "allEarlierThan" (some .boolean) A) (hK : ∀ h ∈ ([] : List Nat), q_V p l e rm_X1_allEarlierThan s m args below meth c D A 3 (MQ below (q_Qc D A post) args s rm_X1_allEarlierThan.cells rm_X1_allEarlierThan.slots A) h (K h)) : q_V p l e rm_X1_allEarlierThan s m args below meth c D A 3 (MQ below (q_Qc D A post) args s rm_X1_allEarlierThan.cells rm_X1_allEarlierThan.slots A) 23 (k_X1_allEarlierThan_23 post K) := by
  unfold k_X1_allEarlierThan_23
  refine q_iconst C (by decide +kernel : decode cX1_allEarlierThan 23 = .ok (.iconst 1, 1)) (by decide) ?_
  refine q_goto C (tgt := 28) (by decide +kernel : decode cX1_allEarlierThan 24 = .ok (.goto 4, 3)) (by decide) ?_
  exact v_X1_allEarlierThan_28 C hK
set_option maxRecDepth 100000 in
theorem v_X1_allEarlierThan_0 {p : Program} {l : Launch} {e : Env} {s : State} {m : MethodId} {args : Array Value} {below : List Frame} {meth : Method} {c : Code} {D : va_G} {A : Nat → Prop} {post : Option Value → q_S → Prop} {K : Nat → q_K} (C : q_C p s m args meth c cX1_allEarlierThan 3 RX1 "allEarlierThan" (some .boolean) A) (hK : ∀ h ∈ ([] : List Nat), q_V p l e rm_X1_allEarlierThan s m args below meth c D A 3 (MQ below (q_Qc D A post) args s rm_X1_allEarlierThan.cells rm_X1_allEarlierThan.slots A) h (K h)) : q_V p l e rm_X1_allEarlierThan s m args below meth c D A 3 (MQ below (q_Qc D A post) args s rm_X1_allEarlierThan.cells rm_X1_allEarlierThan.slots A) 0 (k_X1_allEarlierThan_0 post K) := by
  unfold k_X1_allEarlierThan_0
  refine q_aload_n C (by decide +kernel : decode cX1_allEarlierThan 0 = .ok (.aload_n 0, 1)) ?_
  refine q_aload_n C (by decide +kernel : decode cX1_allEarlierThan 1 = .ok (.aload_n 0, 1)) ?_
  refine q_get C (ci := 1) (j := 1) (C0 := RX1) (T := TX1) (N := 2) rfl iX1 giX1 (by decide) w9_252 (by decide +kernel : decode cX1_allEarlierThan 2 = .ok (.getfield 17, 3)) ?_
  refine q_iconst C (by decide +kernel : decode cX1_allEarlierThan 5 = .ok (.iconst 1, 1)) (by decide) ?_
  refine q_isub C (by decide +kernel : decode cX1_allEarlierThan 6 = .ok (.isub, 1)) ?_
  refine q_call2 C (q_coV C (np := 1) (ci := 1) (rc := (RX1, TX1, 2)) (t_X1_rowAt l) w9_254 rfl rfl w9_256 w9_257 w9_258 w9_255 (by decide +kernel) (by decide +kernel : decode cX1_allEarlierThan 7 = .ok (.invokevirtual 21, 3)) (by decide)) ?_
  refine q_astore_n C (by decide +kernel : decode cX1_allEarlierThan 10 = .ok (.astore_n 2, 1)) ?_
  refine q_aload_n C (by decide +kernel : decode cX1_allEarlierThan 11 = .ok (.aload_n 2, 1)) ?_
  refine q_ifnull C (tgt := 23) (by decide +kernel : decode cX1_allEarlierThan 12 = .ok (.ifnull 11, 3)) (by decide) ?_ ?_
  · exact v_X1_allEarlierThan_23 C hK
  · refine q_aload_n C (by decide +kernel : decode cX1_allEarlierThan 15 = .ok (.aload_n 2, 1)) ?_
    refine q_getN C (ci := 0) (j := 0) (C0 := RX0) (T := TX0) (N := 5) rfl iX0 giX0 (by decide) (by decide +kernel) (by decide +kernel : decode cX1_allEarlierThan 16 = .ok (.getfield 25, 3)) ?_
    refine q_iload_n C (by decide +kernel : decode cX1_allEarlierThan 19 = .ok (.iload_n 1, 1)) ?_
    refine q_icge C (tgt := 27) (by decide +kernel : decode cX1_allEarlierThan 20 = .ok (.if_icmp .ge 7, 3)) (by decide) ?_ ?_
    · refine q_iconst C (by decide +kernel : decode cX1_allEarlierThan 27 = .ok (.iconst 0, 1)) (by decide) ?_
      exact v_X1_allEarlierThan_28 C hK
    · exact v_X1_allEarlierThan_23 C hK
theorem u_X1_allEarlierThan (l : Launch) {sp : q_Sp} (H : ∀ (av : List Value) (σ : q_S) (post : Option Value → q_S → Prop), sp av σ post → k_X1_allEarlierThan_0 post (fun _ _ _ _ _ _ => False) (q_L0 av 3) [] σ 0 0 ∧ av.length ≤ 3 ∧ ∀ v ∈ av, v.category = 1) : q_Ct l yX1_allEarlierThan cX1_allEarlierThan 3 (some .boolean) rm_X1_allEarlierThan sp := by
  refine q_met (by decide) ?_
  intro D A p e s m args below meth c σ av post C hsp
  obtain ⟨h1, h2, h3⟩ := H av σ post hsp
  exact ⟨_, v_X1_allEarlierThan_0 (K := fun _ _ _ _ _ _ => False) C (fun h hh => by cases hh), h1, h2, h3⟩
theorem t_X1_allEarlierThan (l : Launch) : q_Ct l yX1_allEarlierThan cX1_allEarlierThan 3 (some .boolean) rm_X1_allEarlierThan s_X1_allEarlierThan := u_X1_allEarlierThan l (by
  intro av σ post h
  unfold s_X1_allEarlierThan at h
  split at h
  · next ac d =>
    refine ⟨?_, by simp, by simp [Value.category]⟩
    obtain ⟨R, AR, aa, g, na, hA, h7, h8⟩ := h
    have hA0 := hA
    obtain ⟨h1, h2, h3, hna⟩ := hA
    have f1 : q_fld σ ac 1 1 = some (.int (nI na)) := by simp only [q_fld, h1.2, if_true]; rfl
    have o1 : q_oc σ ac = some 1 := by simp only [q_oc, h1.2]
    simp only [c_push, c_null, c_iload, c_aload, c_istore, c_astore, c_iinc, c_iadd, c_isub, c_imul, c_iand, c_ineg, c_dup, c_dup2, c_pop, c_ifnull, c_ifnonnull, c_get, c_put, c_iald, c_zald, c_iast, c_zast, c_aald, c_aast, c_alen, c_new, c_newa, c_newq, c_mna, c_oinit, c_max, c_copy, c_iret, c_zret, c_aret, c_vret, q_do, q_rc, c_ifeq, c_ifne, c_iflt, c_ifge, c_ifgt, c_ifle, c_iceq, c_icne, c_iclt, c_icge, c_icgt, c_icle, c_call0, c_call1, c_call2, c_call3, c_call4, c_call5, c_call6, c_call7, q_L0, List.map_cons, List.map_nil, List.replicate, List.cons_append, List.nil_append, List.append_nil, List.length_cons, List.length_nil, List.length_set, Nat.reduceSub, Nat.reduceAdd, Nat.reduceLT, Nat.reduceLeDiff, Nat.zero_add, Nat.add_zero, Nat.sub_zero, Nat.sub_self, List.getElem?_cons_zero, List.getElem?_cons_succ, List.set_cons_zero, List.set_cons_succ, Option.toList_some, Option.toList_none, List.sum_cons, List.sum_nil, true_and, and_true, true_or, or_true, Nat.le_refl, Nat.zero_le, Value.category, Fin.isValue, Fin.val_zero, Fin.val_one, Fin.val_two, Fin.reduceFinMk, q_10, q_01, not_false_eq_true, not_true_eq_false, forall_const, true_implies, false_implies, implies_true, q_ni, q_fi, q_nb0, q_nb1, q_fb0, q_fb1, q_nor, q_nar, q_for, q_far, q_non, q_nan, q_fon, q_fan, imp_false, false_and, and_false, and_self, false_or, or_false, va_rf, refKind, k_X1_allEarlierThan_0, k_X1_allEarlierThan_23, k_X1_allEarlierThan_28, f1, o1]
    refine ⟨R, AR, aa, g, na, hA0, fun j hj e => ?_, fun c => ?_⟩
    · have e2 : j = na - 1 := by
        rw [show na = na - 1 + 1 by omega, nI_pred] at e
        have := (cl2 (nI (na - 1)) (nI j) _ _ rfl rfl (by omega) (by omega)).2.2.mp e
        omega
      have f2 : q_fld σ (aa j) 0 0 = some (.int (g 6 j)) := by simp only [q_fld, (h3 j hj).2, if_true]; rfl
      simp only [c_push, c_null, c_iload, c_aload, c_istore, c_astore, c_iinc, c_iadd, c_isub, c_imul, c_iand, c_ineg, c_dup, c_dup2, c_pop, c_ifnull, c_ifnonnull, c_get, c_put, c_iald, c_zald, c_iast, c_zast, c_aald, c_aast, c_alen, c_new, c_newa, c_newq, c_mna, c_oinit, c_max, c_copy, c_iret, c_zret, c_aret, c_vret, q_do, q_rc, c_ifeq, c_ifne, c_iflt, c_ifge, c_ifgt, c_ifle, c_iceq, c_icne, c_iclt, c_icge, c_icgt, c_icle, c_call0, c_call1, c_call2, c_call3, c_call4, c_call5, c_call6, c_call7, q_L0, List.map_cons, List.map_nil, List.replicate, List.cons_append, List.nil_append, List.append_nil, List.length_cons, List.length_nil, List.length_set, Nat.reduceSub, Nat.reduceAdd, Nat.reduceLT, Nat.reduceLeDiff, Nat.zero_add, Nat.add_zero, Nat.sub_zero, Nat.sub_self, List.getElem?_cons_zero, List.getElem?_cons_succ, List.set_cons_zero, List.set_cons_succ, Option.toList_some, Option.toList_none, List.sum_cons, List.sum_nil, true_and, and_true, true_or, or_true, Nat.le_refl, Nat.zero_le, Value.category, Fin.isValue, Fin.val_zero, Fin.val_one, Fin.val_two, Fin.reduceFinMk, q_10, q_01, not_false_eq_true, not_true_eq_false, forall_const, true_implies, false_implies, implies_true, q_ni, q_fi, q_nb0, q_nb1, q_fb0, q_fb1, q_nor, q_nar, q_for, q_far, q_non, q_nan, q_fon, q_fan, imp_false, false_and, and_false, and_self, false_or, or_false, va_rf, refKind, f2]
      rw [e2]
      refine ⟨fun c => h8 (fun h => ?_), fun c => h7 (fun _ => by grind)⟩
      have := h (by omega)
      grind
    · have e2 : na = 0 := by
        rcases Nat.eq_zero_or_pos na with h | h
        · exact h
        · exfalso
          rw [show na = na - 1 + 1 by omega, nI_pred] at c
          rcases c with c | c
          · exact nI_pos (by omega) c
          · have := (cl2 (nI (na - 1 + 1)) (nI (na - 1)) _ _ rfl rfl (by omega) (by omega)).1.mp c
            omega
      simp only [c_push, c_null, c_iload, c_aload, c_istore, c_astore, c_iinc, c_iadd, c_isub, c_imul, c_iand, c_ineg, c_dup, c_dup2, c_pop, c_ifnull, c_ifnonnull, c_get, c_put, c_iald, c_zald, c_iast, c_zast, c_aald, c_aast, c_alen, c_new, c_newa, c_newq, c_mna, c_oinit, c_max, c_copy, c_iret, c_zret, c_aret, c_vret, q_do, q_rc, c_ifeq, c_ifne, c_iflt, c_ifge, c_ifgt, c_ifle, c_iceq, c_icne, c_iclt, c_icge, c_icgt, c_icle, c_call0, c_call1, c_call2, c_call3, c_call4, c_call5, c_call6, c_call7, q_L0, List.map_cons, List.map_nil, List.replicate, List.cons_append, List.nil_append, List.append_nil, List.length_cons, List.length_nil, List.length_set, Nat.reduceSub, Nat.reduceAdd, Nat.reduceLT, Nat.reduceLeDiff, Nat.zero_add, Nat.add_zero, Nat.sub_zero, Nat.sub_self, List.getElem?_cons_zero, List.getElem?_cons_succ, List.set_cons_zero, List.set_cons_succ, Option.toList_some, Option.toList_none, List.sum_cons, List.sum_nil, true_and, and_true, true_or, or_true, Nat.le_refl, Nat.zero_le, Value.category, Fin.isValue, Fin.val_zero, Fin.val_one, Fin.val_two, Fin.reduceFinMk, q_10, q_01, not_false_eq_true, not_true_eq_false, forall_const, true_implies, false_implies, implies_true, q_ni, q_fi, q_nb0, q_nb1, q_fb0, q_fb1, q_nor, q_nar, q_for, q_far, q_non, q_nan, q_fon, q_fan, imp_false, false_and, and_false, and_self, false_or, or_false, va_rf, refKind]
      exact h7 (fun h => by omega)
  · exact h.elim)
def s_X1_append : q_Sp := fun av σ post => match av with
  | [.ref ac, .ref a] => ∃ AR aa na x, σ ac = some (.inr (1, [.ref AR, .int (nI na)])) ∧ σ AR = some (refsE "CopyRegister$Act" 6 na aa) ∧ na ≤ 6 ∧ σ a = some (.inr (0, x)) ∧ (na = 6 → post (some (.int (-4))) σ) ∧ (na < 6 → post (some (.int (nI na))) (q_up (q_up σ AR (refsE "CopyRegister$Act" 6 (na + 1) (va_up aa na a))) ac (.inr (1, [.ref AR, .int (nI (na + 1))]))))
  | _ => False
theorem refs_up (n m : Nat) (aa : Nat → Nat) (a : Nat) (C : String) : (Sum.inl (FieldType.object C, n, Sum.inr (Sum.inr (Sum.inr (Sum.inr (va_up (fun i => if i < m then some (aa i) else none) m (some a)))))) : q_E) = refsE C n (m + 1) (va_up aa m a) := by
  have h : (va_up (fun i => if i < m then some (aa i) else none) m (some a)) = fun i => if i < m + 1 then some (va_up aa m a i) else none := by
    funext i
    unfold va_up
    by_cases e : i = m
    · rw [if_pos e, if_pos e, if_pos (by omega)]
    · rw [if_neg e, if_neg e]
      dsimp only
      by_cases c : i < m
      · rw [if_pos c, if_pos (by omega)]
      · rw [if_neg c, if_neg (by omega)]
  rw [h]
def rm_X1_append : Room := { frames := 0, cells := 0, slots := 0, locals := 0 }
def k_X1_append_0 (post : Option Value → q_S → Prop) (K : Nat → q_K) : q_K := (c_aload 0 (c_get 1 1 (c_aload 0 (c_get 1 0 (c_alen (c_iclt (c_aload 0 (c_get 1 0 (c_aload 0 (c_get 1 1 (c_aload 1 (c_aast 0 (c_aload 0 (c_dup (c_get 1 1 (c_push 1 (c_iadd (c_put 1 1 (.int) (c_aload 0 (c_get 1 1 (c_push 1 (c_isub (c_iret post))))))))))))))))) (c_push (-4) (c_iret post))))))))
set_option maxRecDepth 100000 in
theorem v_X1_append_0 {p : Program} {l : Launch} {e : Env} {s : State} {m : MethodId} {args : Array Value} {below : List Frame} {meth : Method} {c : Code} {D : va_G} {A : Nat → Prop} {post : Option Value → q_S → Prop} {K : Nat → q_K} (C : q_C p s m args meth c cX1_append 2 RX1 "append" (some .int) A) (hK : ∀ h ∈ ([] : List Nat), q_V p l e rm_X1_append s m args below meth c D A 2 (MQ below (q_Qc D A post) args s rm_X1_append.cells rm_X1_append.slots A) h (K h)) : q_V p l e rm_X1_append s m args below meth c D A 2 (MQ below (q_Qc D A post) args s rm_X1_append.cells rm_X1_append.slots A) 0 (k_X1_append_0 post K) := by
  unfold k_X1_append_0
  refine q_aload_n C (by decide +kernel : decode cX1_append 0 = .ok (.aload_n 0, 1)) ?_
  refine q_get C (ci := 1) (j := 1) (C0 := RX1) (T := TX1) (N := 2) rfl iX1 giX1 (by decide) w9_252 (by decide +kernel : decode cX1_append 1 = .ok (.getfield 17, 3)) ?_
  refine q_aload_n C (by decide +kernel : decode cX1_append 4 = .ok (.aload_n 0, 1)) ?_
  refine q_get C (ci := 1) (j := 0) (C0 := RX1) (T := TX1) (N := 2) rfl iX1 giX1 (by decide) w9_253 (by decide +kernel : decode cX1_append 5 = .ok (.getfield 11, 3)) ?_
  refine q_alen C (by decide +kernel : decode cX1_append 8 = .ok (.arraylength, 1)) ?_
  refine q_iclt C (tgt := 15) (by decide +kernel : decode cX1_append 9 = .ok (.if_icmp .lt 6, 3)) (by decide) ?_ ?_
  · refine q_aload_n C (by decide +kernel : decode cX1_append 15 = .ok (.aload_n 0, 1)) ?_
    refine q_get C (ci := 1) (j := 0) (C0 := RX1) (T := TX1) (N := 2) rfl iX1 giX1 (by decide) w9_253 (by decide +kernel : decode cX1_append 16 = .ok (.getfield 11, 3)) ?_
    refine q_aload_n C (by decide +kernel : decode cX1_append 19 = .ok (.aload_n 0, 1)) ?_
    refine q_get C (ci := 1) (j := 1) (C0 := RX1) (T := TX1) (N := 2) rfl iX1 giX1 (by decide) w9_252 (by decide +kernel : decode cX1_append 20 = .ok (.getfield 17, 3)) ?_
    refine q_aload_n C (by decide +kernel : decode cX1_append 23 = .ok (.aload_n 1, 1)) ?_
    refine q_aast C (ci := 0) rfl (by decide +kernel : decode cX1_append 24 = .ok (.aastore, 1)) ?_
    refine q_aload_n C (by decide +kernel : decode cX1_append 25 = .ok (.aload_n 0, 1)) ?_
    refine q_dup C (by decide +kernel : decode cX1_append 26 = .ok (.dup, 1)) ?_
    refine q_get C (ci := 1) (j := 1) (C0 := RX1) (T := TX1) (N := 2) rfl iX1 giX1 (by decide) w9_252 (by decide +kernel : decode cX1_append 27 = .ok (.getfield 17, 3)) ?_
    refine q_iconst C (by decide +kernel : decode cX1_append 30 = .ok (.iconst 1, 1)) (by decide) ?_
    refine q_iadd C (by decide +kernel : decode cX1_append 31 = .ok (.iadd, 1)) ?_
    refine q_put C (ci := 1) (j := 1) (C0 := RX1) (T := TX1) (N := 2) (ty := .int) rfl iX1 giX1 (by decide) tyX1 tyX1_ok nmX1 (by decide +kernel) rfl w9_252 (by decide +kernel : decode cX1_append 32 = .ok (.putfield 17, 3)) ?_
    refine q_aload_n C (by decide +kernel : decode cX1_append 35 = .ok (.aload_n 0, 1)) ?_
    refine q_get C (ci := 1) (j := 1) (C0 := RX1) (T := TX1) (N := 2) rfl iX1 giX1 (by decide) w9_252 (by decide +kernel : decode cX1_append 36 = .ok (.getfield 17, 3)) ?_
    refine q_iconst C (by decide +kernel : decode cX1_append 39 = .ok (.iconst 1, 1)) (by decide) ?_
    refine q_isub C (by decide +kernel : decode cX1_append 40 = .ok (.isub, 1)) ?_
    exact q_iret C rfl (by decide +kernel : decode cX1_append 41 = .ok (.ireturn, 1))
  · refine q_bipush C (by decide +kernel : decode cX1_append 12 = .ok (.bipush (-4), 2)) (by decide) ?_
    exact q_iret C rfl (by decide +kernel : decode cX1_append 14 = .ok (.ireturn, 1))
theorem u_X1_append (l : Launch) {sp : q_Sp} (H : ∀ (av : List Value) (σ : q_S) (post : Option Value → q_S → Prop), sp av σ post → k_X1_append_0 post (fun _ _ _ _ _ _ => False) (q_L0 av 2) [] σ 0 0 ∧ av.length ≤ 2 ∧ ∀ v ∈ av, v.category = 1) : q_Ct l yX1_append cX1_append 2 (some .int) rm_X1_append sp := by
  refine q_met (by decide) ?_
  intro D A p e s m args below meth c σ av post C hsp
  obtain ⟨h1, h2, h3⟩ := H av σ post hsp
  exact ⟨_, v_X1_append_0 (K := fun _ _ _ _ _ _ => False) C (fun h hh => by cases hh), h1, h2, h3⟩
theorem t_X1_append (l : Launch) : q_Ct l yX1_append cX1_append 2 (some .int) rm_X1_append s_X1_append := u_X1_append l (by
  intro av σ post h
  unfold s_X1_append at h
  split at h
  · next ac a =>
    refine ⟨?_, by simp, by simp [Value.category]⟩
    obtain ⟨AR, aa, na, x, h1, h2, hna, h3, h7, h8⟩ := h
    have hne := ne_ao h2 h1
    have c0 : (nI na).toNatClampNeg = na := clN (by omega)
    have E := cl2 (nI na) 6 na 6 rfl rfl (by omega) (by omega)
    have en : q_nm 0 = "CopyRegister$Act" := rfl
    have hru := refs_up 6 na aa a "CopyRegister$Act"
    have e1 : nI na + 1 - 1 = nI na := by rw [nI_1, nI_pred]
    simp only [c_push, c_null, c_iload, c_aload, c_istore, c_astore, c_iinc, c_iadd, c_isub, c_imul, c_iand, c_ineg, c_dup, c_dup2, c_pop, c_ifnull, c_ifnonnull, c_get, c_put, c_iald, c_zald, c_iast, c_zast, c_aald, c_aast, c_alen, c_new, c_newa, c_newq, c_mna, c_oinit, c_max, c_copy, c_iret, c_zret, c_aret, c_vret, q_do, q_rc, c_ifeq, c_ifne, c_iflt, c_ifge, c_ifgt, c_ifle, c_iceq, c_icne, c_iclt, c_icge, c_icgt, c_icle, c_call0, c_call1, c_call2, c_call3, c_call4, c_call5, c_call6, c_call7, q_L0, List.map_cons, List.map_nil, List.replicate, List.cons_append, List.nil_append, List.append_nil, List.length_cons, List.length_nil, List.length_set, Nat.reduceSub, Nat.reduceAdd, Nat.reduceLT, Nat.reduceLeDiff, Nat.zero_add, Nat.add_zero, Nat.sub_zero, Nat.sub_self, List.getElem?_cons_zero, List.getElem?_cons_succ, List.set_cons_zero, List.set_cons_succ, Option.toList_some, Option.toList_none, List.sum_cons, List.sum_nil, true_and, and_true, true_or, or_true, Nat.le_refl, Nat.zero_le, Value.category, Fin.isValue, Fin.val_zero, Fin.val_one, Fin.val_two, Fin.reduceFinMk, q_10, q_01, not_false_eq_true, not_true_eq_false, forall_const, true_implies, false_implies, implies_true, q_ni, q_fi, q_nb0, q_nb1, q_fb0, q_fb1, q_nor, q_nar, q_for, q_far, q_non, q_nan, q_fon, q_fan, imp_false, false_and, and_false, and_self, false_or, or_false, va_rf, refKind, k_X1_append_0, q_fld, q_fset, q_oc, q_ai, q_aq, q_len, q_up_s, q_up_up, if_true, h1, h2, h3, q_up_n hne.symm, q_up_n hne, len6, vpi6, E.2.1, en, c0, hru, nI_1, e1]
    refine ⟨fun c => ⟨⟨nI_low (by omega), by omega⟩, ?_⟩, fun c => h7 (by omega)⟩
    have h9 := h8 (by omega)
    rw [nI_pred]
    exact h9
  · exact h.elim)
def s_X1_inForceOn : q_Sp := fun av σ post => match av with
  | [.ref ac, .int d] => ∃ R AR aa g na, AcD σ R ac AR aa g na ∧ (actF g d na = -1 → post (some .null) σ) ∧ (∀ j, j < na → actF g d na = nI j → post (some (.ref (aa j))) σ)
  | _ => False
def rm_X1_inForceOn : Room := { frames := 1, cells := 0, slots := 0, locals := 21 }
def k_X1_inForceOn_0 (post : Option Value → q_S → Prop) (K : Nat → q_K) : q_K := (c_aload 0 (c_get 1 1 (c_push 1 (c_isub (c_istore 2 (K 7))))))
def k_X1_inForceOn_31 (post : Option Value → q_S → Prop) (K : Nat → q_K) : q_K := (c_iinc 2 (-1) (K 7))
def k_X1_inForceOn_7 (post : Option Value → q_S → Prop) (K : Nat → q_K) : q_K := (c_iload 2 (c_iflt (c_null (c_aret post)) (c_aload 0 (c_iload 2 (c_call2 (some 1) s_X1_rowAt 0 0 (c_astore 3 (c_aload 3 (c_ifnull (k_X1_inForceOn_31 post K) (c_aload 3 (c_get 0 0 (c_iload 1 (c_icgt (k_X1_inForceOn_31 post K) (c_aload 3 (c_aret post))))))))))))))
set_option maxRecDepth 100000 in
theorem v_X1_inForceOn_0 {p : Program} {l : Launch} {e : Env} {s : State} {m : MethodId} {args : Array Value} {below : List Frame} {meth : Method} {c : Code} {D : va_G} {A : Nat → Prop} {post : Option Value → q_S → Prop} {K : Nat → q_K} (C : q_C p s m args meth c cX1_inForceOn 4 RX1 "inForceOn" (some (.object "CopyRegister$Act")) A) (hK : ∀ h ∈ ([7] : List Nat), q_V p l e rm_X1_inForceOn s m args below meth c D A 4 (MQ below (q_Qc D A post) args s rm_X1_inForceOn.cells rm_X1_inForceOn.slots A) h (K h)) : q_V p l e rm_X1_inForceOn s m args below meth c D A 4 (MQ below (q_Qc D A post) args s rm_X1_inForceOn.cells rm_X1_inForceOn.slots A) 0 (k_X1_inForceOn_0 post K) := by
  unfold k_X1_inForceOn_0
  refine q_aload_n C (by decide +kernel : decode cX1_inForceOn 0 = .ok (.aload_n 0, 1)) ?_
  refine q_get C (ci := 1) (j := 1) (C0 := RX1) (T := TX1) (N := 2) rfl iX1 giX1 (by decide) w9_252 (by decide +kernel : decode cX1_inForceOn 1 = .ok (.getfield 17, 3)) ?_
  refine q_iconst C (by decide +kernel : decode cX1_inForceOn 4 = .ok (.iconst 1, 1)) (by decide) ?_
  refine q_isub C (by decide +kernel : decode cX1_inForceOn 5 = .ok (.isub, 1)) ?_
  refine q_istore_n C (by decide +kernel : decode cX1_inForceOn 6 = .ok (.istore_n 2, 1)) ?_
  exact hK 7 (by decide)
set_option maxRecDepth 100000 in
theorem v_X1_inForceOn_31 {p : Program} {l : Launch} {e : Env} {s : State} {m : MethodId} {args : Array Value} {below : List Frame} {meth : Method} {c : Code} {D : va_G} {A : Nat → Prop} {post : Option Value → q_S → Prop} {K : Nat → q_K} (C : q_C p s m args meth c cX1_inForceOn 4 RX1 "inForceOn" (some (.object "CopyRegister$Act")) A) (hK : ∀ h ∈ ([7] : List Nat), q_V p l e rm_X1_inForceOn s m args below meth c D A 4 (MQ below (q_Qc D A post) args s rm_X1_inForceOn.cells rm_X1_inForceOn.slots A) h (K h)) : q_V p l e rm_X1_inForceOn s m args below meth c D A 4 (MQ below (q_Qc D A post) args s rm_X1_inForceOn.cells rm_X1_inForceOn.slots A) 31 (k_X1_inForceOn_31 post K) := by
  unfold k_X1_inForceOn_31
  refine q_iinc C (by decide +kernel : decode cX1_inForceOn 31 = .ok (.iinc 2 (-1), 3)) (by decide) ?_
  refine q_goto C (tgt := 7) (by decide +kernel : decode cX1_inForceOn 34 = .ok (.goto (-27), 3)) (by decide) ?_
  exact hK 7 (by decide)
set_option maxRecDepth 100000 in
theorem v_X1_inForceOn_7 {p : Program} {l : Launch} {e : Env} {s : State} {m : MethodId} {args : Array Value} {below : List Frame} {meth : Method} {c : Code} {D : va_G} {A : Nat → Prop} {post : Option Value → q_S → Prop} {K : Nat → q_K} (C : q_C p s m args meth c cX1_inForceOn 4 RX1 "inForceOn" (some (.object "CopyRegister$Act")) A) (hK : ∀ h ∈ ([7] : List Nat), q_V p l e rm_X1_inForceOn s m args below meth c D A 4 (MQ below (q_Qc D A post) args s rm_X1_inForceOn.cells rm_X1_inForceOn.slots A) h (K h)) : q_V p l e rm_X1_inForceOn s m args below meth c D A 4 (MQ below (q_Qc D A post) args s rm_X1_inForceOn.cells rm_X1_inForceOn.slots A) 7 (k_X1_inForceOn_7 post K) := by
  unfold k_X1_inForceOn_7
  refine q_iload_n C (by decide +kernel : decode cX1_inForceOn 7 = .ok (.iload_n 2, 1)) ?_
  refine q_iflt C (tgt := 37) (by decide +kernel : decode cX1_inForceOn 8 = .ok (.ifCond .lt 29, 3)) (by decide) ?_ ?_
  · refine q_null C (by decide +kernel : decode cX1_inForceOn 37 = .ok (.aconst_null, 1)) ?_
    exact q_aret C rfl (Or.inl ⟨_, rfl⟩) (by decide +kernel : decode cX1_inForceOn 38 = .ok (.areturn, 1))
  · refine q_aload_n C (by decide +kernel : decode cX1_inForceOn 11 = .ok (.aload_n 0, 1)) ?_
    refine q_iload_n C (by decide +kernel : decode cX1_inForceOn 12 = .ok (.iload_n 2, 1)) ?_
    refine q_call2 C (q_coV C (np := 1) (ci := 1) (rc := (RX1, TX1, 2)) (t_X1_rowAt l) w9_254 rfl rfl w9_256 w9_257 w9_258 w9_255 (by decide +kernel) (by decide +kernel : decode cX1_inForceOn 13 = .ok (.invokevirtual 21, 3)) (by decide)) ?_
    refine q_astore_n C (by decide +kernel : decode cX1_inForceOn 16 = .ok (.astore_n 3, 1)) ?_
    refine q_aload_n C (by decide +kernel : decode cX1_inForceOn 17 = .ok (.aload_n 3, 1)) ?_
    refine q_ifnull C (tgt := 31) (by decide +kernel : decode cX1_inForceOn 18 = .ok (.ifnull 13, 3)) (by decide) ?_ ?_
    · exact v_X1_inForceOn_31 C hK
    · refine q_aload_n C (by decide +kernel : decode cX1_inForceOn 21 = .ok (.aload_n 3, 1)) ?_
      refine q_getN C (ci := 0) (j := 0) (C0 := RX0) (T := TX0) (N := 5) rfl iX0 giX0 (by decide) (by decide +kernel) (by decide +kernel : decode cX1_inForceOn 22 = .ok (.getfield 25, 3)) ?_
      refine q_iload_n C (by decide +kernel : decode cX1_inForceOn 25 = .ok (.iload_n 1, 1)) ?_
      refine q_icgt C (tgt := 31) (by decide +kernel : decode cX1_inForceOn 26 = .ok (.if_icmp .gt 5, 3)) (by decide) ?_ ?_
      · exact v_X1_inForceOn_31 C hK
      · refine q_aload_n C (by decide +kernel : decode cX1_inForceOn 29 = .ok (.aload_n 3, 1)) ?_
        exact q_aret C rfl (Or.inl ⟨_, rfl⟩) (by decide +kernel : decode cX1_inForceOn 30 = .ok (.areturn, 1))
theorem u_X1_inForceOn (l : Launch) {sp : q_Sp} (H : ∀ (av : List Value) (σ : q_S) (post : Option Value → q_S → Prop), sp av σ post → ∃ Inv : Nat → Nat → q_K, (∀ K : Nat → q_K, (∀ (h n : Nat) (L : List (Option Value)) (st : List Value) (σ : q_S) (cr sr : Nat), Inv h n L st σ cr sr → K h L st σ cr sr) → k_X1_inForceOn_0 post K (q_L0 av 4) [] σ 0 0) ∧ (∀ (K : Nat → q_K) (n : Nat), (∀ (h m : Nat) (L : List (Option Value)) (st : List Value) (σ : q_S) (cr sr : Nat), m < n → Inv h m L st σ cr sr → K h L st σ cr sr) → ∀ (L : List (Option Value)) (st : List Value) (σ : q_S) (cr sr : Nat), Inv 7 n L st σ cr sr → k_X1_inForceOn_7 post K L st σ cr sr) ∧ av.length ≤ 4 ∧ ∀ v ∈ av, v.category = 1) : q_Ct l yX1_inForceOn cX1_inForceOn 4 (some (.object "CopyRegister$Act")) rm_X1_inForceOn sp := by
  refine q_met (by decide) ?_
  intro D A p e s m args below meth c σ av post C hsp
  obtain ⟨Inv, h1, hh7, h2, h3⟩ := H av σ post hsp
  have hV := q_loops (p := p) (l := l) (e := e) (R := rm_X1_inForceOn) (s := s) (m := m) (args := args) (below := below) (meth := meth) (c := c) (D := D) (A := A) (nL := 4) (Q := MQ below (q_Qc D A post) args s rm_X1_inForceOn.cells rm_X1_inForceOn.slots A) [7] (fun h =>  k_X1_inForceOn_7 post) (fun K hK h hh => ?_) Inv (fun n h hh => ?_)
  · exact ⟨_, v_X1_inForceOn_0 C hV, h1 _ (fun h n L st σ cr sr hi => ⟨n, hi⟩), h2, h3⟩
  · have e9 : h = 7 := by simpa using hh
    subst e9
    exact v_X1_inForceOn_7 C hK
  · have e9 : h = 7 := by simpa using hh
    subst e9
    exact hh7 (fun h L st σ cr sr => ∃ m : Nat, m < n ∧ Inv h m L st σ cr sr) n (fun h m L st σ cr sr hm hi => ⟨m, hm, hi⟩)
theorem t_X1_inForceOn (l : Launch) : q_Ct l yX1_inForceOn cX1_inForceOn 4 (some (.object "CopyRegister$Act")) rm_X1_inForceOn s_X1_inForceOn := u_X1_inForceOn l (by
  intro av σ post h
  unfold s_X1_inForceOn at h
  split at h
  · next ac d =>
    obtain ⟨R, AR, aa, g, na, hA, h7, h8⟩ := h
    have hA0 := hA
    obtain ⟨h1, h2, h3, hna⟩ := hA
    have f1 : q_fld σ ac 1 1 = some (.int (nI na)) := by simp only [q_fld, h1.2, if_true]; rfl
    have o1 : q_oc σ ac = some 1 := by simp only [q_oc, h1.2]
    refine ⟨fun _ m L st σ' cr sr => ∃ s d3, s ≤ na ∧ m = s ∧ σ' = σ ∧ st = [] ∧ actF g d s = actF g d na ∧ L = [some (.ref ac), some (.int d), some (.int (nI s - 1)), d3], ?_, ?_, by simp, by simp [Value.category]⟩
    · intro K hK
      simp only [c_push, c_null, c_iload, c_aload, c_istore, c_astore, c_iinc, c_iadd, c_isub, c_imul, c_iand, c_ineg, c_dup, c_dup2, c_pop, c_ifnull, c_ifnonnull, c_get, c_put, c_iald, c_zald, c_iast, c_zast, c_aald, c_aast, c_alen, c_new, c_newa, c_newq, c_mna, c_oinit, c_max, c_copy, c_iret, c_zret, c_aret, c_vret, q_do, q_rc, c_ifeq, c_ifne, c_iflt, c_ifge, c_ifgt, c_ifle, c_iceq, c_icne, c_iclt, c_icge, c_icgt, c_icle, c_call0, c_call1, c_call2, c_call3, c_call4, c_call5, c_call6, c_call7, q_L0, List.map_cons, List.map_nil, List.replicate, List.cons_append, List.nil_append, List.append_nil, List.length_cons, List.length_nil, List.length_set, Nat.reduceSub, Nat.reduceAdd, Nat.reduceLT, Nat.reduceLeDiff, Nat.zero_add, Nat.add_zero, Nat.sub_zero, Nat.sub_self, List.getElem?_cons_zero, List.getElem?_cons_succ, List.set_cons_zero, List.set_cons_succ, Option.toList_some, Option.toList_none, List.sum_cons, List.sum_nil, true_and, and_true, true_or, or_true, Nat.le_refl, Nat.zero_le, Value.category, Fin.isValue, Fin.val_zero, Fin.val_one, Fin.val_two, Fin.reduceFinMk, q_10, q_01, not_false_eq_true, not_true_eq_false, forall_const, true_implies, false_implies, implies_true, q_ni, q_fi, q_nb0, q_nb1, q_fb0, q_fb1, q_nor, q_nar, q_for, q_far, q_non, q_nan, q_fon, q_fan, imp_false, false_and, and_false, and_self, false_or, or_false, va_rf, refKind, k_X1_inForceOn_0, f1]
      exact hK _ na _ _ _ _ _ ⟨na, none, Nat.le_refl _, rfl, rfl, rfl, rfl, rfl⟩
    · rintro K m hK L st σ' cr sr ⟨s, d3, hs, rfl, rfl, rfl, hact, rfl⟩
      rcases m with _ | s
      · simp only [c_push, c_null, c_iload, c_aload, c_istore, c_astore, c_iinc, c_iadd, c_isub, c_imul, c_iand, c_ineg, c_dup, c_dup2, c_pop, c_ifnull, c_ifnonnull, c_get, c_put, c_iald, c_zald, c_iast, c_zast, c_aald, c_aast, c_alen, c_new, c_newa, c_newq, c_mna, c_oinit, c_max, c_copy, c_iret, c_zret, c_aret, c_vret, q_do, q_rc, c_ifeq, c_ifne, c_iflt, c_ifge, c_ifgt, c_ifle, c_iceq, c_icne, c_iclt, c_icge, c_icgt, c_icle, c_call0, c_call1, c_call2, c_call3, c_call4, c_call5, c_call6, c_call7, q_L0, List.map_cons, List.map_nil, List.replicate, List.cons_append, List.nil_append, List.append_nil, List.length_cons, List.length_nil, List.length_set, Nat.reduceSub, Nat.reduceAdd, Nat.reduceLT, Nat.reduceLeDiff, Nat.zero_add, Nat.add_zero, Nat.sub_zero, Nat.sub_self, List.getElem?_cons_zero, List.getElem?_cons_succ, List.set_cons_zero, List.set_cons_succ, Option.toList_some, Option.toList_none, List.sum_cons, List.sum_nil, true_and, and_true, true_or, or_true, Nat.le_refl, Nat.zero_le, Value.category, Fin.isValue, Fin.val_zero, Fin.val_one, Fin.val_two, Fin.reduceFinMk, q_10, q_01, not_false_eq_true, not_true_eq_false, forall_const, true_implies, false_implies, implies_true, q_ni, q_fi, q_nb0, q_nb1, q_fb0, q_fb1, q_nor, q_nar, q_for, q_far, q_non, q_nan, q_fon, q_fan, imp_false, false_and, and_false, and_self, false_or, or_false, va_rf, refKind, k_X1_inForceOn_0, k_X1_inForceOn_31, k_X1_inForceOn_7, o1]
        refine ⟨fun _ => h7 (by rw [← hact]; rfl), fun c9 => absurd (by decide) c9⟩
      · rw [nI_pred]
        rw [actF] at hact
        simp only [c_push, c_null, c_iload, c_aload, c_istore, c_astore, c_iinc, c_iadd, c_isub, c_imul, c_iand, c_ineg, c_dup, c_dup2, c_pop, c_ifnull, c_ifnonnull, c_get, c_put, c_iald, c_zald, c_iast, c_zast, c_aald, c_aast, c_alen, c_new, c_newa, c_newq, c_mna, c_oinit, c_max, c_copy, c_iret, c_zret, c_aret, c_vret, q_do, q_rc, c_ifeq, c_ifne, c_iflt, c_ifge, c_ifgt, c_ifle, c_iceq, c_icne, c_iclt, c_icge, c_icgt, c_icle, c_call0, c_call1, c_call2, c_call3, c_call4, c_call5, c_call6, c_call7, q_L0, List.map_cons, List.map_nil, List.replicate, List.cons_append, List.nil_append, List.append_nil, List.length_cons, List.length_nil, List.length_set, Nat.reduceSub, Nat.reduceAdd, Nat.reduceLT, Nat.reduceLeDiff, Nat.zero_add, Nat.add_zero, Nat.sub_zero, Nat.sub_self, List.getElem?_cons_zero, List.getElem?_cons_succ, List.set_cons_zero, List.set_cons_succ, Option.toList_some, Option.toList_none, List.sum_cons, List.sum_nil, true_and, and_true, true_or, or_true, Nat.le_refl, Nat.zero_le, Value.category, Fin.isValue, Fin.val_zero, Fin.val_one, Fin.val_two, Fin.reduceFinMk, q_10, q_01, not_false_eq_true, not_true_eq_false, forall_const, true_implies, false_implies, implies_true, q_ni, q_fi, q_nb0, q_nb1, q_fb0, q_fb1, q_nor, q_nar, q_for, q_far, q_non, q_nan, q_fon, q_fan, imp_false, false_and, and_false, and_self, false_or, or_false, va_rf, refKind, k_X1_inForceOn_7, o1]
        refine ⟨fun c9 => absurd c9 (nI_pos (by omega)), fun _ => ⟨R, AR, aa, g, na, hA0, fun j hj e => ?_, fun c => ?_⟩⟩
        · have e2 : j = s := ((cl2 (nI s) (nI j) _ _ rfl rfl (by omega) (by omega)).2.2.mp e).symm
          subst e2
          have f2 : q_fld σ' (aa j) 0 0 = some (.int (g 6 j)) := by simp only [q_fld, (h3 j hj).2, if_true]; rfl
          simp only [c_push, c_null, c_iload, c_aload, c_istore, c_astore, c_iinc, c_iadd, c_isub, c_imul, c_iand, c_ineg, c_dup, c_dup2, c_pop, c_ifnull, c_ifnonnull, c_get, c_put, c_iald, c_zald, c_iast, c_zast, c_aald, c_aast, c_alen, c_new, c_newa, c_newq, c_mna, c_oinit, c_max, c_copy, c_iret, c_zret, c_aret, c_vret, q_do, q_rc, c_ifeq, c_ifne, c_iflt, c_ifge, c_ifgt, c_ifle, c_iceq, c_icne, c_iclt, c_icge, c_icgt, c_icle, c_call0, c_call1, c_call2, c_call3, c_call4, c_call5, c_call6, c_call7, q_L0, List.map_cons, List.map_nil, List.replicate, List.cons_append, List.nil_append, List.append_nil, List.length_cons, List.length_nil, List.length_set, Nat.reduceSub, Nat.reduceAdd, Nat.reduceLT, Nat.reduceLeDiff, Nat.zero_add, Nat.add_zero, Nat.sub_zero, Nat.sub_self, List.getElem?_cons_zero, List.getElem?_cons_succ, List.set_cons_zero, List.set_cons_succ, Option.toList_some, Option.toList_none, List.sum_cons, List.sum_nil, true_and, and_true, true_or, or_true, Nat.le_refl, Nat.zero_le, Value.category, Fin.isValue, Fin.val_zero, Fin.val_one, Fin.val_two, Fin.reduceFinMk, q_10, q_01, not_false_eq_true, not_true_eq_false, forall_const, true_implies, false_implies, implies_true, q_ni, q_fi, q_nb0, q_nb1, q_fb0, q_fb1, q_nor, q_nar, q_for, q_far, q_non, q_nan, q_fon, q_fan, imp_false, false_and, and_false, and_self, false_or, or_false, va_rf, refKind, k_X1_inForceOn_31, f2]
          refine ⟨fun c => ?_, fun c => ?_⟩
          · rw [if_neg (by grind)] at hact
            exact hK _ j _ _ _ _ _ (by omega) ⟨j, some (.ref (aa j)), by omega, rfl, rfl, rfl, hact, by rw [nI_mm (nI j)]⟩
          · rw [if_pos (by grind)] at hact
            exact h8 j hj hact.symm
        · exfalso
          rcases c with c | c
          · exact nI_pos (by omega) c
          · have := (cl2 (nI na) (nI s) _ _ rfl rfl (by omega) (by omega)).1.mp c
            omega
  · exact h.elim)
def s_X1_consentOn : q_Sp := fun av σ post => match av with
  | [.ref ac, .int d] => ∃ R AR aa g na, AcD σ R ac AR aa g na ∧ post (some (.int (if actF g d na = -1 then 16 else g 10 (actF g d na).toNatClampNeg))) σ
  | _ => False
theorem w9_259 : (.code yX1_inForceOn cX1_inForceOn 4 (some (.object "CopyRegister$Act")) : Cond) ∈ lw_tbl := by decide +kernel
theorem w9_260 : (.methodLink RX1 28 yX1_inForceOn : Cond) ∈ lw_tbl := by decide +kernel
theorem w9_261 : (.instanceMethod yX1_inForceOn : Cond) ∈ lw_tbl := by decide +kernel
theorem w9_262 : (.selects RX1 yX1_inForceOn yX1_inForceOn : Cond) ∈ lw_tbl := by decide +kernel
def rm_X1_consentOn : Room := { frames := 2, cells := 0, slots := 0, locals := 44 }
def k_X1_consentOn_19 (post : Option Value → q_S → Prop) (K : Nat → q_K) : q_K := (c_iret post)
def k_X1_consentOn_0 (post : Option Value → q_S → Prop) (K : Nat → q_K) : q_K := (c_aload 0 (c_iload 1 (c_call2 (some 1) s_X1_inForceOn 0 0 (c_astore 2 (c_aload 2 (c_ifnonnull (c_aload 2 (c_get 0 4 (k_X1_consentOn_19 post K))) (c_push 16 (k_X1_consentOn_19 post K))))))))
set_option maxRecDepth 100000 in
theorem v_X1_consentOn_19 {p : Program} {l : Launch} {e : Env} {s : State} {m : MethodId} {args : Array Value} {below : List Frame} {meth : Method} {c : Code} {D : va_G} {A : Nat → Prop} {post : Option Value → q_S → Prop} {K : Nat → q_K} (C : q_C p s m args meth c cX1_consentOn 3 RX1 "consentOn" (some .int) A) (hK : ∀ h ∈ ([] : List Nat), q_V p l e rm_X1_consentOn s m args below meth c D A 3 (MQ below (q_Qc D A post) args s rm_X1_consentOn.cells rm_X1_consentOn.slots A) h (K h)) : q_V p l e rm_X1_consentOn s m args below meth c D A 3 (MQ below (q_Qc D A post) args s rm_X1_consentOn.cells rm_X1_consentOn.slots A) 19 (k_X1_consentOn_19 post K) := by
  unfold k_X1_consentOn_19
  exact q_iret C rfl (by decide +kernel : decode cX1_consentOn 19 = .ok (.ireturn, 1))
set_option maxRecDepth 100000 in
theorem v_X1_consentOn_0 {p : Program} {l : Launch} {e : Env} {s : State} {m : MethodId} {args : Array Value} {below : List Frame} {meth : Method} {c : Code} {D : va_G} {A : Nat → Prop} {post : Option Value → q_S → Prop} {K : Nat → q_K} (C : q_C p s m args meth c cX1_consentOn 3 RX1 "consentOn" (some .int) A) (hK : ∀ h ∈ ([] : List Nat), q_V p l e rm_X1_consentOn s m args below meth c D A 3 (MQ below (q_Qc D A post) args s rm_X1_consentOn.cells rm_X1_consentOn.slots A) h (K h)) : q_V p l e rm_X1_consentOn s m args below meth c D A 3 (MQ below (q_Qc D A post) args s rm_X1_consentOn.cells rm_X1_consentOn.slots A) 0 (k_X1_consentOn_0 post K) := by
  unfold k_X1_consentOn_0
  refine q_aload_n C (by decide +kernel : decode cX1_consentOn 0 = .ok (.aload_n 0, 1)) ?_
  refine q_iload_n C (by decide +kernel : decode cX1_consentOn 1 = .ok (.iload_n 1, 1)) ?_
  refine q_call2 C (q_coV C (np := 1) (ci := 1) (rc := (RX1, TX1, 2)) (t_X1_inForceOn l) w9_259 rfl rfl w9_260 w9_261 w9_262 w9_255 (by decide +kernel) (by decide +kernel : decode cX1_consentOn 2 = .ok (.invokevirtual 28, 3)) (by decide)) ?_
  refine q_astore_n C (by decide +kernel : decode cX1_consentOn 5 = .ok (.astore_n 2, 1)) ?_
  refine q_aload_n C (by decide +kernel : decode cX1_consentOn 6 = .ok (.aload_n 2, 1)) ?_
  refine q_ifnonnull C (tgt := 15) (by decide +kernel : decode cX1_consentOn 7 = .ok (.ifnonnull 8, 3)) (by decide) ?_ ?_
  · refine q_aload_n C (by decide +kernel : decode cX1_consentOn 15 = .ok (.aload_n 2, 1)) ?_
    refine q_getN C (ci := 0) (j := 4) (C0 := RX0) (T := TX0) (N := 5) rfl iX0 giX0 (by decide) (by decide +kernel) (by decide +kernel : decode cX1_consentOn 16 = .ok (.getfield 31, 3)) ?_
    exact v_X1_consentOn_19 C hK
  · refine q_bipush C (by decide +kernel : decode cX1_consentOn 10 = .ok (.bipush 16, 2)) (by decide) ?_
    refine q_goto C (tgt := 19) (by decide +kernel : decode cX1_consentOn 12 = .ok (.goto 7, 3)) (by decide) ?_
    exact v_X1_consentOn_19 C hK
theorem u_X1_consentOn (l : Launch) {sp : q_Sp} (H : ∀ (av : List Value) (σ : q_S) (post : Option Value → q_S → Prop), sp av σ post → k_X1_consentOn_0 post (fun _ _ _ _ _ _ => False) (q_L0 av 3) [] σ 0 0 ∧ av.length ≤ 3 ∧ ∀ v ∈ av, v.category = 1) : q_Ct l yX1_consentOn cX1_consentOn 3 (some .int) rm_X1_consentOn sp := by
  refine q_met (by decide) ?_
  intro D A p e s m args below meth c σ av post C hsp
  obtain ⟨h1, h2, h3⟩ := H av σ post hsp
  exact ⟨_, v_X1_consentOn_0 (K := fun _ _ _ _ _ _ => False) C (fun h hh => by cases hh), h1, h2, h3⟩
theorem t_X1_consentOn (l : Launch) : q_Ct l yX1_consentOn cX1_consentOn 3 (some .int) rm_X1_consentOn s_X1_consentOn := u_X1_consentOn l (by
  intro av σ post h
  unfold s_X1_consentOn at h
  split at h
  · next ac d =>
    refine ⟨?_, by simp, by simp [Value.category]⟩
    obtain ⟨R, AR, aa, g, na, hA, h7⟩ := h
    have hA0 := hA
    obtain ⟨h1, h2, h3, hna⟩ := hA
    have o1 : q_oc σ ac = some 1 := by simp only [q_oc, h1.2]
    simp only [c_push, c_null, c_iload, c_aload, c_istore, c_astore, c_iinc, c_iadd, c_isub, c_imul, c_iand, c_ineg, c_dup, c_dup2, c_pop, c_ifnull, c_ifnonnull, c_get, c_put, c_iald, c_zald, c_iast, c_zast, c_aald, c_aast, c_alen, c_new, c_newa, c_newq, c_mna, c_oinit, c_max, c_copy, c_iret, c_zret, c_aret, c_vret, q_do, q_rc, c_ifeq, c_ifne, c_iflt, c_ifge, c_ifgt, c_ifle, c_iceq, c_icne, c_iclt, c_icge, c_icgt, c_icle, c_call0, c_call1, c_call2, c_call3, c_call4, c_call5, c_call6, c_call7, q_L0, List.map_cons, List.map_nil, List.replicate, List.cons_append, List.nil_append, List.append_nil, List.length_cons, List.length_nil, List.length_set, Nat.reduceSub, Nat.reduceAdd, Nat.reduceLT, Nat.reduceLeDiff, Nat.zero_add, Nat.add_zero, Nat.sub_zero, Nat.sub_self, List.getElem?_cons_zero, List.getElem?_cons_succ, List.set_cons_zero, List.set_cons_succ, Option.toList_some, Option.toList_none, List.sum_cons, List.sum_nil, true_and, and_true, true_or, or_true, Nat.le_refl, Nat.zero_le, Value.category, Fin.isValue, Fin.val_zero, Fin.val_one, Fin.val_two, Fin.reduceFinMk, q_10, q_01, not_false_eq_true, not_true_eq_false, forall_const, true_implies, false_implies, implies_true, q_ni, q_fi, q_nb0, q_nb1, q_fb0, q_fb1, q_nor, q_nar, q_for, q_far, q_non, q_nan, q_fon, q_fan, imp_false, false_and, and_false, and_self, false_or, or_false, va_rf, refKind, k_X1_consentOn_0, k_X1_consentOn_19, o1]
    refine ⟨R, AR, aa, g, na, hA0, fun c => ?_, fun j hj c => ?_⟩
    · simp only [c_push, c_null, c_iload, c_aload, c_istore, c_astore, c_iinc, c_iadd, c_isub, c_imul, c_iand, c_ineg, c_dup, c_dup2, c_pop, c_ifnull, c_ifnonnull, c_get, c_put, c_iald, c_zald, c_iast, c_zast, c_aald, c_aast, c_alen, c_new, c_newa, c_newq, c_mna, c_oinit, c_max, c_copy, c_iret, c_zret, c_aret, c_vret, q_do, q_rc, c_ifeq, c_ifne, c_iflt, c_ifge, c_ifgt, c_ifle, c_iceq, c_icne, c_iclt, c_icge, c_icgt, c_icle, c_call0, c_call1, c_call2, c_call3, c_call4, c_call5, c_call6, c_call7, q_L0, List.map_cons, List.map_nil, List.replicate, List.cons_append, List.nil_append, List.append_nil, List.length_cons, List.length_nil, List.length_set, Nat.reduceSub, Nat.reduceAdd, Nat.reduceLT, Nat.reduceLeDiff, Nat.zero_add, Nat.add_zero, Nat.sub_zero, Nat.sub_self, List.getElem?_cons_zero, List.getElem?_cons_succ, List.set_cons_zero, List.set_cons_succ, Option.toList_some, Option.toList_none, List.sum_cons, List.sum_nil, true_and, and_true, true_or, or_true, Nat.le_refl, Nat.zero_le, Value.category, Fin.isValue, Fin.val_zero, Fin.val_one, Fin.val_two, Fin.reduceFinMk, q_10, q_01, not_false_eq_true, not_true_eq_false, forall_const, true_implies, false_implies, implies_true, q_ni, q_fi, q_nb0, q_nb1, q_fb0, q_fb1, q_nor, q_nar, q_for, q_far, q_non, q_nan, q_fon, q_fan, imp_false, false_and, and_false, and_self, false_or, or_false, va_rf, refKind]
      rw [if_pos c] at h7
      exact h7
    · have f2 : q_fld σ (aa j) 0 4 = some (.int (g 10 j)) := by simp only [q_fld, (h3 j hj).2, if_true]; rfl
      simp only [c_push, c_null, c_iload, c_aload, c_istore, c_astore, c_iinc, c_iadd, c_isub, c_imul, c_iand, c_ineg, c_dup, c_dup2, c_pop, c_ifnull, c_ifnonnull, c_get, c_put, c_iald, c_zald, c_iast, c_zast, c_aald, c_aast, c_alen, c_new, c_newa, c_newq, c_mna, c_oinit, c_max, c_copy, c_iret, c_zret, c_aret, c_vret, q_do, q_rc, c_ifeq, c_ifne, c_iflt, c_ifge, c_ifgt, c_ifle, c_iceq, c_icne, c_iclt, c_icge, c_icgt, c_icle, c_call0, c_call1, c_call2, c_call3, c_call4, c_call5, c_call6, c_call7, q_L0, List.map_cons, List.map_nil, List.replicate, List.cons_append, List.nil_append, List.append_nil, List.length_cons, List.length_nil, List.length_set, Nat.reduceSub, Nat.reduceAdd, Nat.reduceLT, Nat.reduceLeDiff, Nat.zero_add, Nat.add_zero, Nat.sub_zero, Nat.sub_self, List.getElem?_cons_zero, List.getElem?_cons_succ, List.set_cons_zero, List.set_cons_succ, Option.toList_some, Option.toList_none, List.sum_cons, List.sum_nil, true_and, and_true, true_or, or_true, Nat.le_refl, Nat.zero_le, Value.category, Fin.isValue, Fin.val_zero, Fin.val_one, Fin.val_two, Fin.reduceFinMk, q_10, q_01, not_false_eq_true, not_true_eq_false, forall_const, true_implies, false_implies, implies_true, q_ni, q_fi, q_nb0, q_nb1, q_fb0, q_fb1, q_nor, q_nar, q_for, q_far, q_non, q_nan, q_fon, q_fan, imp_false, false_and, and_false, and_self, false_or, or_false, va_rf, refKind, f2]
      rw [c, if_neg (nI_m1 (by omega)), clN (by omega)] at h7
      exact h7
  · exact h.elim)
-- ends
def cfF (g : Nat → Nat → Int32) (ent dd lr k : Int32) (na : Nat) : Int32 := if actF g ent na = -1 then ent else cEnd (g 6 (actF g ent na).toNatClampNeg) (g 7 (actF g ent na).toNatClampNeg) (g 8 (actF g ent na).toNatClampNeg) ent dd lr k
abbrev cCh (g : Nat → Nat → Int32) (ent k x : Int32) (n : Nat) : Prop := (ent < g 6 n ∧ g 6 n ≤ k) ∧ (g 9 n = 2 ∨ g 9 n = 1 ∧ g 6 n ≤ x)
def ceF (g : Nat → Nat → Int32) (ent dd lr k : Int32) (na : Nat) : Nat → Int32
  | 0 => cfF g ent dd lr k na
  | n + 1 => if cCh g ent k (ceF g ent dd lr k na n) n then (if ceF g ent dd lr k na n < cEnd (g 6 n) (g 7 n) (g 8 n) ent dd lr k then cEnd (g 6 n) (g 7 n) (g 8 n) ent dd lr k else ceF g ent dd lr k na n) else ceF g ent dd lr k na n
def WkF (σ : q_S) (w : Nat) (ent dd lr : Int32) : Prop := ∃ p x y z h, σ w = some (.inr (9, [.ref p, .int ent, x, y, z])) ∧ σ p = some (.inr (7, [h, .int dd, .int lr]))
def s_X1_endAheadOf : q_Sp := fun av σ post => match av with
  | [.ref ac, .int n, .ref w, .int k] => ∃ R AR aa g na ent dd lr nn, AcD σ R ac AR aa g na ∧ WkF σ w ent dd lr ∧ nn ≤ na ∧ n = nI nn ∧ post (some (.int (ceF g ent dd lr k na nn))) σ
  | _ => False
theorem w9_263 : (.code yX0_endFor cX0_endFor 4 (some .int) : Cond) ∈ lw_tbl := by decide +kernel
theorem w9_264 : (.initialized RX0 : Cond) ∈ lw_tbl := by decide +kernel
theorem w9_265 : (.methodLink RX1 43 yX0_endFor : Cond) ∈ lw_tbl := by decide +kernel
theorem w9_266 : (.instanceMethod yX0_endFor : Cond) ∈ lw_tbl := by decide +kernel
theorem w9_267 : (.selects RX0 yX0_endFor yX0_endFor : Cond) ∈ lw_tbl := by decide +kernel
theorem w9_268 : (.code yX0_comesLaterTo cX0_comesLaterTo 3 (some .boolean) : Cond) ∈ lw_tbl := by decide +kernel
theorem w9_269 : (.methodLink RX1 47 yX0_comesLaterTo : Cond) ∈ lw_tbl := by decide +kernel
theorem w9_270 : (.instanceMethod yX0_comesLaterTo : Cond) ∈ lw_tbl := by decide +kernel
theorem w9_271 : (.selects RX0 yX0_comesLaterTo yX0_comesLaterTo : Cond) ∈ lw_tbl := by decide +kernel
theorem w9_272 : (.code yX0_changes cX0_changes 2 (some .boolean) : Cond) ∈ lw_tbl := by decide +kernel
theorem w9_273 : (.methodLink RX1 51 yX0_changes : Cond) ∈ lw_tbl := by decide +kernel
theorem w9_274 : (.instanceMethod yX0_changes : Cond) ∈ lw_tbl := by decide +kernel
theorem w9_275 : (.selects RX0 yX0_changes yX0_changes : Cond) ∈ lw_tbl := by decide +kernel
theorem w9_276 : (.methodLink RX1 55 Lib.Math.max.name : Cond) ∈ lw_tbl := by decide +kernel
def rm_X1_endAheadOf : Room := { frames := 3, cells := 0, slots := 0, locals := 64 }
def k_X1_endAheadOf_29 (post : Option Value → q_S → Prop) (K : Nat → q_K) : q_K := (c_istore 5 (c_push 0 (c_istore 6 (K 34))))
def k_X1_endAheadOf_0 (post : Option Value → q_S → Prop) (K : Nat → q_K) : q_K := (c_aload 0 (c_aload 2 (c_get 9 1 (c_call2 (some 1) s_X1_inForceOn 0 0 (c_astore 4 (c_aload 4 (c_ifnonnull (c_aload 4 (c_aload 2 (c_iload 3 (c_call3 (some 0) s_X0_endFor 0 0 (k_X1_endAheadOf_29 post K))))) (c_aload 2 (c_get 9 1 (k_X1_endAheadOf_29 post K))))))))))
def k_X1_endAheadOf_87 (post : Option Value → q_S → Prop) (K : Nat → q_K) : q_K := (c_iinc 6 1 (K 34))
def k_X1_endAheadOf_34 (post : Option Value → q_S → Prop) (K : Nat → q_K) : q_K := (c_iload 6 (c_iload 1 (c_icge (c_iload 5 (c_iret post)) (c_aload 0 (c_iload 6 (c_call2 (some 1) s_X1_rowAt 0 0 (c_astore 7 (c_aload 7 (c_ifnull (k_X1_endAheadOf_87 post K) (c_aload 7 (c_aload 2 (c_iload 3 (c_call3 (some 0) s_X0_comesLaterTo 0 0 (c_ifeq (k_X1_endAheadOf_87 post K) (c_aload 7 (c_iload 5 (c_call2 (some 0) s_X0_changes 0 0 (c_ifeq (k_X1_endAheadOf_87 post K) (c_iload 5 (c_aload 7 (c_aload 2 (c_iload 3 (c_call3 (some 0) s_X0_endFor 0 0 (c_max (c_istore 5 (k_X1_endAheadOf_87 post K))))))))))))))))))))))))))
set_option maxRecDepth 100000 in
theorem v_X1_endAheadOf_29 {p : Program} {l : Launch} {e : Env} {s : State} {m : MethodId} {args : Array Value} {below : List Frame} {meth : Method} {c : Code} {D : va_G} {A : Nat → Prop} {post : Option Value → q_S → Prop} {K : Nat → q_K} (C : q_C p s m args meth c cX1_endAheadOf 8 RX1 "endAheadOf" (some .int) A) (hK : ∀ h ∈ ([34] : List Nat), q_V p l e rm_X1_endAheadOf s m args below meth c D A 8 (MQ below (q_Qc D A post) args s rm_X1_endAheadOf.cells rm_X1_endAheadOf.slots A) h (K h)) : q_V p l e rm_X1_endAheadOf s m args below meth c D A 8 (MQ below (q_Qc D A post) args s rm_X1_endAheadOf.cells rm_X1_endAheadOf.slots A) 29 (k_X1_endAheadOf_29 post K) := by
  unfold k_X1_endAheadOf_29
  refine q_istore C (by decide +kernel : decode cX1_endAheadOf 29 = .ok (.istore 5, 2)) ?_
  refine q_iconst C (by decide +kernel : decode cX1_endAheadOf 31 = .ok (.iconst 0, 1)) (by decide) ?_
  refine q_istore C (by decide +kernel : decode cX1_endAheadOf 32 = .ok (.istore 6, 2)) ?_
  exact hK 34 (by decide)
set_option maxRecDepth 100000 in
theorem v_X1_endAheadOf_0 {p : Program} {l : Launch} {e : Env} {s : State} {m : MethodId} {args : Array Value} {below : List Frame} {meth : Method} {c : Code} {D : va_G} {A : Nat → Prop} {post : Option Value → q_S → Prop} {K : Nat → q_K} (C : q_C p s m args meth c cX1_endAheadOf 8 RX1 "endAheadOf" (some .int) A) (hK : ∀ h ∈ ([34] : List Nat), q_V p l e rm_X1_endAheadOf s m args below meth c D A 8 (MQ below (q_Qc D A post) args s rm_X1_endAheadOf.cells rm_X1_endAheadOf.slots A) h (K h)) : q_V p l e rm_X1_endAheadOf s m args below meth c D A 8 (MQ below (q_Qc D A post) args s rm_X1_endAheadOf.cells rm_X1_endAheadOf.slots A) 0 (k_X1_endAheadOf_0 post K) := by
  unfold k_X1_endAheadOf_0
  refine q_aload_n C (by decide +kernel : decode cX1_endAheadOf 0 = .ok (.aload_n 0, 1)) ?_
  refine q_aload_n C (by decide +kernel : decode cX1_endAheadOf 1 = .ok (.aload_n 2, 1)) ?_
  refine q_getN C (ci := 9) (j := 1) (C0 := RX9) (T := TX9) (N := 5) rfl iX9 giX9 (by decide) (by decide +kernel) (by decide +kernel : decode cX1_endAheadOf 2 = .ok (.getfield 38, 3)) ?_
  refine q_call2 C (q_coV C (np := 1) (ci := 1) (rc := (RX1, TX1, 2)) (t_X1_inForceOn l) w9_259 rfl rfl w9_260 w9_261 w9_262 w9_255 (by decide +kernel) (by decide +kernel : decode cX1_endAheadOf 5 = .ok (.invokevirtual 28, 3)) (by decide)) ?_
  refine q_astore C (by decide +kernel : decode cX1_endAheadOf 8 = .ok (.astore 4, 2)) ?_
  refine q_aload C (by decide +kernel : decode cX1_endAheadOf 10 = .ok (.aload 4, 2)) ?_
  refine q_ifnonnull C (tgt := 22) (by decide +kernel : decode cX1_endAheadOf 12 = .ok (.ifnonnull 10, 3)) (by decide) ?_ ?_
  · refine q_aload C (by decide +kernel : decode cX1_endAheadOf 22 = .ok (.aload 4, 2)) ?_
    refine q_aload_n C (by decide +kernel : decode cX1_endAheadOf 24 = .ok (.aload_n 2, 1)) ?_
    refine q_iload_n C (by decide +kernel : decode cX1_endAheadOf 25 = .ok (.iload_n 3, 1)) ?_
    refine q_call3 C (q_coV C (np := 2) (ci := 0) (rc := (RX0, TX0, 5)) (t_X0_endFor l) w9_263 rfl rfl w9_265 w9_266 w9_267 w9_264 (by decide +kernel) (by decide +kernel : decode cX1_endAheadOf 26 = .ok (.invokevirtual 43, 3)) (by decide)) ?_
    exact v_X1_endAheadOf_29 C hK
  · refine q_aload_n C (by decide +kernel : decode cX1_endAheadOf 15 = .ok (.aload_n 2, 1)) ?_
    refine q_getN C (ci := 9) (j := 1) (C0 := RX9) (T := TX9) (N := 5) rfl iX9 giX9 (by decide) (by decide +kernel) (by decide +kernel : decode cX1_endAheadOf 16 = .ok (.getfield 38, 3)) ?_
    refine q_goto C (tgt := 29) (by decide +kernel : decode cX1_endAheadOf 19 = .ok (.goto 10, 3)) (by decide) ?_
    exact v_X1_endAheadOf_29 C hK
set_option maxRecDepth 100000 in
theorem v_X1_endAheadOf_87 {p : Program} {l : Launch} {e : Env} {s : State} {m : MethodId} {args : Array Value} {below : List Frame} {meth : Method} {c : Code} {D : va_G} {A : Nat → Prop} {post : Option Value → q_S → Prop} {K : Nat → q_K} (C : q_C p s m args meth c cX1_endAheadOf 8 RX1 "endAheadOf" (some .int) A) (hK : ∀ h ∈ ([34] : List Nat), q_V p l e rm_X1_endAheadOf s m args below meth c D A 8 (MQ below (q_Qc D A post) args s rm_X1_endAheadOf.cells rm_X1_endAheadOf.slots A) h (K h)) : q_V p l e rm_X1_endAheadOf s m args below meth c D A 8 (MQ below (q_Qc D A post) args s rm_X1_endAheadOf.cells rm_X1_endAheadOf.slots A) 87 (k_X1_endAheadOf_87 post K) := by
  unfold k_X1_endAheadOf_87
  refine q_iinc C (by decide +kernel : decode cX1_endAheadOf 87 = .ok (.iinc 6 1, 3)) (by decide) ?_
  refine q_goto C (tgt := 34) (by decide +kernel : decode cX1_endAheadOf 90 = .ok (.goto (-56), 3)) (by decide) ?_
  exact hK 34 (by decide)
set_option maxRecDepth 100000 in
theorem v_X1_endAheadOf_34 {p : Program} {l : Launch} {e : Env} {s : State} {m : MethodId} {args : Array Value} {below : List Frame} {meth : Method} {c : Code} {D : va_G} {A : Nat → Prop} {post : Option Value → q_S → Prop} {K : Nat → q_K} (C : q_C p s m args meth c cX1_endAheadOf 8 RX1 "endAheadOf" (some .int) A) (hK : ∀ h ∈ ([34] : List Nat), q_V p l e rm_X1_endAheadOf s m args below meth c D A 8 (MQ below (q_Qc D A post) args s rm_X1_endAheadOf.cells rm_X1_endAheadOf.slots A) h (K h)) : q_V p l e rm_X1_endAheadOf s m args below meth c D A 8 (MQ below (q_Qc D A post) args s rm_X1_endAheadOf.cells rm_X1_endAheadOf.slots A) 34 (k_X1_endAheadOf_34 post K) := by
  unfold k_X1_endAheadOf_34
  refine q_iload C (by decide +kernel : decode cX1_endAheadOf 34 = .ok (.iload 6, 2)) ?_
  refine q_iload_n C (by decide +kernel : decode cX1_endAheadOf 36 = .ok (.iload_n 1, 1)) ?_
  refine q_icge C (tgt := 93) (by decide +kernel : decode cX1_endAheadOf 37 = .ok (.if_icmp .ge 56, 3)) (by decide) ?_ ?_
  · refine q_iload C (by decide +kernel : decode cX1_endAheadOf 93 = .ok (.iload 5, 2)) ?_
    exact q_iret C rfl (by decide +kernel : decode cX1_endAheadOf 95 = .ok (.ireturn, 1))
  · refine q_aload_n C (by decide +kernel : decode cX1_endAheadOf 40 = .ok (.aload_n 0, 1)) ?_
    refine q_iload C (by decide +kernel : decode cX1_endAheadOf 41 = .ok (.iload 6, 2)) ?_
    refine q_call2 C (q_coV C (np := 1) (ci := 1) (rc := (RX1, TX1, 2)) (t_X1_rowAt l) w9_254 rfl rfl w9_256 w9_257 w9_258 w9_255 (by decide +kernel) (by decide +kernel : decode cX1_endAheadOf 43 = .ok (.invokevirtual 21, 3)) (by decide)) ?_
    refine q_astore C (by decide +kernel : decode cX1_endAheadOf 46 = .ok (.astore 7, 2)) ?_
    refine q_aload C (by decide +kernel : decode cX1_endAheadOf 48 = .ok (.aload 7, 2)) ?_
    refine q_ifnull C (tgt := 87) (by decide +kernel : decode cX1_endAheadOf 50 = .ok (.ifnull 37, 3)) (by decide) ?_ ?_
    · exact v_X1_endAheadOf_87 C hK
    · refine q_aload C (by decide +kernel : decode cX1_endAheadOf 53 = .ok (.aload 7, 2)) ?_
      refine q_aload_n C (by decide +kernel : decode cX1_endAheadOf 55 = .ok (.aload_n 2, 1)) ?_
      refine q_iload_n C (by decide +kernel : decode cX1_endAheadOf 56 = .ok (.iload_n 3, 1)) ?_
      refine q_call3 C (q_coV C (np := 2) (ci := 0) (rc := (RX0, TX0, 5)) (t_X0_comesLaterTo l) w9_268 rfl rfl w9_269 w9_270 w9_271 w9_264 (by decide +kernel) (by decide +kernel : decode cX1_endAheadOf 57 = .ok (.invokevirtual 47, 3)) (by decide)) ?_
      refine q_ifeq C (tgt := 87) (by decide +kernel : decode cX1_endAheadOf 60 = .ok (.ifCond .eq 27, 3)) (by decide) ?_ ?_
      · exact v_X1_endAheadOf_87 C hK
      · refine q_aload C (by decide +kernel : decode cX1_endAheadOf 63 = .ok (.aload 7, 2)) ?_
        refine q_iload C (by decide +kernel : decode cX1_endAheadOf 65 = .ok (.iload 5, 2)) ?_
        refine q_call2 C (q_coV C (np := 1) (ci := 0) (rc := (RX0, TX0, 5)) (t_X0_changes l) w9_272 rfl rfl w9_273 w9_274 w9_275 w9_264 (by decide +kernel) (by decide +kernel : decode cX1_endAheadOf 67 = .ok (.invokevirtual 51, 3)) (by decide)) ?_
        refine q_ifeq C (tgt := 87) (by decide +kernel : decode cX1_endAheadOf 70 = .ok (.ifCond .eq 17, 3)) (by decide) ?_ ?_
        · exact v_X1_endAheadOf_87 C hK
        · refine q_iload C (by decide +kernel : decode cX1_endAheadOf 73 = .ok (.iload 5, 2)) ?_
          refine q_aload C (by decide +kernel : decode cX1_endAheadOf 75 = .ok (.aload 7, 2)) ?_
          refine q_aload_n C (by decide +kernel : decode cX1_endAheadOf 77 = .ok (.aload_n 2, 1)) ?_
          refine q_iload_n C (by decide +kernel : decode cX1_endAheadOf 78 = .ok (.iload_n 3, 1)) ?_
          refine q_call3 C (q_coV C (np := 2) (ci := 0) (rc := (RX0, TX0, 5)) (t_X0_endFor l) w9_263 rfl rfl w9_265 w9_266 w9_267 w9_264 (by decide +kernel) (by decide +kernel : decode cX1_endAheadOf 79 = .ok (.invokevirtual 43, 3)) (by decide)) ?_
          refine q_max C w9_276 w9_136 w9_137 w9_138 (by decide) (by decide +kernel : decode cX1_endAheadOf 82 = .ok (.invokestatic 55, 3)) ?_
          refine q_istore C (by decide +kernel : decode cX1_endAheadOf 85 = .ok (.istore 5, 2)) ?_
          exact v_X1_endAheadOf_87 C hK
theorem u_X1_endAheadOf (l : Launch) {sp : q_Sp} (H : ∀ (av : List Value) (σ : q_S) (post : Option Value → q_S → Prop), sp av σ post → ∃ Inv : Nat → Nat → q_K, (∀ K : Nat → q_K, (∀ (h n : Nat) (L : List (Option Value)) (st : List Value) (σ : q_S) (cr sr : Nat), Inv h n L st σ cr sr → K h L st σ cr sr) → k_X1_endAheadOf_0 post K (q_L0 av 8) [] σ 0 0) ∧ (∀ (K : Nat → q_K) (n : Nat), (∀ (h m : Nat) (L : List (Option Value)) (st : List Value) (σ : q_S) (cr sr : Nat), m < n → Inv h m L st σ cr sr → K h L st σ cr sr) → ∀ (L : List (Option Value)) (st : List Value) (σ : q_S) (cr sr : Nat), Inv 34 n L st σ cr sr → k_X1_endAheadOf_34 post K L st σ cr sr) ∧ av.length ≤ 8 ∧ ∀ v ∈ av, v.category = 1) : q_Ct l yX1_endAheadOf cX1_endAheadOf 8 (some .int) rm_X1_endAheadOf sp := by
  refine q_met (by decide) ?_
  intro D A p e s m args below meth c σ av post C hsp
  obtain ⟨Inv, h1, hh34, h2, h3⟩ := H av σ post hsp
  have hV := q_loops (p := p) (l := l) (e := e) (R := rm_X1_endAheadOf) (s := s) (m := m) (args := args) (below := below) (meth := meth) (c := c) (D := D) (A := A) (nL := 8) (Q := MQ below (q_Qc D A post) args s rm_X1_endAheadOf.cells rm_X1_endAheadOf.slots A) [34] (fun h =>  k_X1_endAheadOf_34 post) (fun K hK h hh => ?_) Inv (fun n h hh => ?_)
  · exact ⟨_, v_X1_endAheadOf_0 C hV, h1 _ (fun h n L st σ cr sr hi => ⟨n, hi⟩), h2, h3⟩
  · have e9 : h = 34 := by simpa using hh
    subst e9
    exact v_X1_endAheadOf_34 C hK
  · have e9 : h = 34 := by simpa using hh
    subst e9
    exact hh34 (fun h L st σ cr sr => ∃ m : Nat, m < n ∧ Inv h m L st σ cr sr) n (fun h m L st σ cr sr hm hi => ⟨m, hm, hi⟩)
theorem t_X1_endAheadOf (l : Launch) : q_Ct l yX1_endAheadOf cX1_endAheadOf 8 (some .int) rm_X1_endAheadOf s_X1_endAheadOf := u_X1_endAheadOf l (by
  intro av σ post h
  unfold s_X1_endAheadOf at h
  split at h
  · next ac n w k =>
    obtain ⟨R, AR, aa, g, na, ent, dd, lr, nn, hA, ⟨p, x, y, z, hh, w1, w2⟩, hnn, rfl, h7⟩ := h
    have hA0 := hA
    obtain ⟨h1, h2, h3, hna⟩ := hA
    have o1 : q_oc σ ac = some 1 := by simp only [q_oc, h1.2]
    have fw : q_fld σ w 9 1 = some (.int ent) := by simp only [q_fld, w1, if_true]; rfl
    refine ⟨fun _ m L st σ' cr sr => ∃ i d4 d7, i ≤ nn ∧ m = nn - i ∧ σ' = σ ∧ st = [] ∧ L = [some (.ref ac), some (.int (nI nn)), some (.ref w), some (.int k), d4, some (.int (ceF g ent dd lr k na i)), some (.int (nI i)), d7], ?_, ?_, by simp, by simp [Value.category]⟩
    · intro K hK
      have J29 : ∀ d4 v, v = cfF g ent dd lr k na → k_X1_endAheadOf_29 post K [some (.ref ac), some (.int (nI nn)), some (.ref w), some (.int k), d4, none, none, none] [.int v] σ 0 0 := fun d4 v hv => by
        simp only [c_push, c_null, c_iload, c_aload, c_istore, c_astore, c_iinc, c_iadd, c_isub, c_imul, c_iand, c_ineg, c_dup, c_dup2, c_pop, c_ifnull, c_ifnonnull, c_get, c_put, c_iald, c_zald, c_iast, c_zast, c_aald, c_aast, c_alen, c_new, c_newa, c_newq, c_mna, c_oinit, c_max, c_copy, c_iret, c_zret, c_aret, c_vret, q_do, q_rc, c_ifeq, c_ifne, c_iflt, c_ifge, c_ifgt, c_ifle, c_iceq, c_icne, c_iclt, c_icge, c_icgt, c_icle, c_call0, c_call1, c_call2, c_call3, c_call4, c_call5, c_call6, c_call7, q_L0, List.map_cons, List.map_nil, List.replicate, List.cons_append, List.nil_append, List.append_nil, List.length_cons, List.length_nil, List.length_set, Nat.reduceSub, Nat.reduceAdd, Nat.reduceLT, Nat.reduceLeDiff, Nat.zero_add, Nat.add_zero, Nat.sub_zero, Nat.sub_self, List.getElem?_cons_zero, List.getElem?_cons_succ, List.set_cons_zero, List.set_cons_succ, Option.toList_some, Option.toList_none, List.sum_cons, List.sum_nil, true_and, and_true, true_or, or_true, Nat.le_refl, Nat.zero_le, Value.category, Fin.isValue, Fin.val_zero, Fin.val_one, Fin.val_two, Fin.reduceFinMk, q_10, q_01, not_false_eq_true, not_true_eq_false, forall_const, true_implies, false_implies, implies_true, q_ni, q_fi, q_nb0, q_nb1, q_fb0, q_fb1, q_nor, q_nar, q_for, q_far, q_non, q_nan, q_fon, q_fan, imp_false, false_and, and_false, and_self, false_or, or_false, va_rf, refKind, k_X1_endAheadOf_29]
        exact hK _ nn _ _ _ _ _ ⟨0, d4, none, Nat.zero_le _, rfl, rfl, rfl, by rw [hv]; rfl⟩
      simp only [c_push, c_null, c_iload, c_aload, c_istore, c_astore, c_iinc, c_iadd, c_isub, c_imul, c_iand, c_ineg, c_dup, c_dup2, c_pop, c_ifnull, c_ifnonnull, c_get, c_put, c_iald, c_zald, c_iast, c_zast, c_aald, c_aast, c_alen, c_new, c_newa, c_newq, c_mna, c_oinit, c_max, c_copy, c_iret, c_zret, c_aret, c_vret, q_do, q_rc, c_ifeq, c_ifne, c_iflt, c_ifge, c_ifgt, c_ifle, c_iceq, c_icne, c_iclt, c_icge, c_icgt, c_icle, c_call0, c_call1, c_call2, c_call3, c_call4, c_call5, c_call6, c_call7, q_L0, List.map_cons, List.map_nil, List.replicate, List.cons_append, List.nil_append, List.append_nil, List.length_cons, List.length_nil, List.length_set, Nat.reduceSub, Nat.reduceAdd, Nat.reduceLT, Nat.reduceLeDiff, Nat.zero_add, Nat.add_zero, Nat.sub_zero, Nat.sub_self, List.getElem?_cons_zero, List.getElem?_cons_succ, List.set_cons_zero, List.set_cons_succ, Option.toList_some, Option.toList_none, List.sum_cons, List.sum_nil, true_and, and_true, true_or, or_true, Nat.le_refl, Nat.zero_le, Value.category, Fin.isValue, Fin.val_zero, Fin.val_one, Fin.val_two, Fin.reduceFinMk, q_10, q_01, not_false_eq_true, not_true_eq_false, forall_const, true_implies, false_implies, implies_true, q_ni, q_fi, q_nb0, q_nb1, q_fb0, q_fb1, q_nor, q_nar, q_for, q_far, q_non, q_nan, q_fon, q_fan, imp_false, false_and, and_false, and_self, false_or, or_false, va_rf, refKind, k_X1_endAheadOf_0, o1, fw]
      refine ⟨R, AR, aa, g, na, hA0, fun c => ?_, fun j hj c => ?_⟩
      · simp only [c_push, c_null, c_iload, c_aload, c_istore, c_astore, c_iinc, c_iadd, c_isub, c_imul, c_iand, c_ineg, c_dup, c_dup2, c_pop, c_ifnull, c_ifnonnull, c_get, c_put, c_iald, c_zald, c_iast, c_zast, c_aald, c_aast, c_alen, c_new, c_newa, c_newq, c_mna, c_oinit, c_max, c_copy, c_iret, c_zret, c_aret, c_vret, q_do, q_rc, c_ifeq, c_ifne, c_iflt, c_ifge, c_ifgt, c_ifle, c_iceq, c_icne, c_iclt, c_icge, c_icgt, c_icle, c_call0, c_call1, c_call2, c_call3, c_call4, c_call5, c_call6, c_call7, q_L0, List.map_cons, List.map_nil, List.replicate, List.cons_append, List.nil_append, List.append_nil, List.length_cons, List.length_nil, List.length_set, Nat.reduceSub, Nat.reduceAdd, Nat.reduceLT, Nat.reduceLeDiff, Nat.zero_add, Nat.add_zero, Nat.sub_zero, Nat.sub_self, List.getElem?_cons_zero, List.getElem?_cons_succ, List.set_cons_zero, List.set_cons_succ, Option.toList_some, Option.toList_none, List.sum_cons, List.sum_nil, true_and, and_true, true_or, or_true, Nat.le_refl, Nat.zero_le, Value.category, Fin.isValue, Fin.val_zero, Fin.val_one, Fin.val_two, Fin.reduceFinMk, q_10, q_01, not_false_eq_true, not_true_eq_false, forall_const, true_implies, false_implies, implies_true, q_ni, q_fi, q_nb0, q_nb1, q_fb0, q_fb1, q_nor, q_nar, q_for, q_far, q_non, q_nan, q_fon, q_fan, imp_false, false_and, and_false, and_self, false_or, or_false, va_rf, refKind, fw]
        exact J29 _ _ (by rw [cfF, if_pos c])
      · have e3 := (h3 j hj).2
        have oa : q_oc σ (aa j) = some 0 := by simp only [q_oc, e3]
        simp only [c_push, c_null, c_iload, c_aload, c_istore, c_astore, c_iinc, c_iadd, c_isub, c_imul, c_iand, c_ineg, c_dup, c_dup2, c_pop, c_ifnull, c_ifnonnull, c_get, c_put, c_iald, c_zald, c_iast, c_zast, c_aald, c_aast, c_alen, c_new, c_newa, c_newq, c_mna, c_oinit, c_max, c_copy, c_iret, c_zret, c_aret, c_vret, q_do, q_rc, c_ifeq, c_ifne, c_iflt, c_ifge, c_ifgt, c_ifle, c_iceq, c_icne, c_iclt, c_icge, c_icgt, c_icle, c_call0, c_call1, c_call2, c_call3, c_call4, c_call5, c_call6, c_call7, q_L0, List.map_cons, List.map_nil, List.replicate, List.cons_append, List.nil_append, List.append_nil, List.length_cons, List.length_nil, List.length_set, Nat.reduceSub, Nat.reduceAdd, Nat.reduceLT, Nat.reduceLeDiff, Nat.zero_add, Nat.add_zero, Nat.sub_zero, Nat.sub_self, List.getElem?_cons_zero, List.getElem?_cons_succ, List.set_cons_zero, List.set_cons_succ, Option.toList_some, Option.toList_none, List.sum_cons, List.sum_nil, true_and, and_true, true_or, or_true, Nat.le_refl, Nat.zero_le, Value.category, Fin.isValue, Fin.val_zero, Fin.val_one, Fin.val_two, Fin.reduceFinMk, q_10, q_01, not_false_eq_true, not_true_eq_false, forall_const, true_implies, false_implies, implies_true, q_ni, q_fi, q_nb0, q_nb1, q_fb0, q_fb1, q_nor, q_nar, q_for, q_far, q_non, q_nan, q_fon, q_fan, imp_false, false_and, and_false, and_self, false_or, or_false, va_rf, refKind, oa, s_X0_endFor, e3, w1, w2]
        exact J29 _ _ (by rw [cfF, c, if_neg (nI_m1 (by omega)), clN (by omega)])
    · rintro K m hK L st σ' cr sr ⟨i, d4, d7, hi, rfl, rfl, rfl, rfl⟩
      have J87 : i < nn → ∀ d7 v, v = ceF g ent dd lr k na (i + 1) → k_X1_endAheadOf_87 post K [some (.ref ac), some (.int (nI nn)), some (.ref w), some (.int k), d4, some (.int v), some (.int (nI i)), d7] [] σ' cr sr := fun hlt d7 v hv => by
        simp only [c_push, c_null, c_iload, c_aload, c_istore, c_astore, c_iinc, c_iadd, c_isub, c_imul, c_iand, c_ineg, c_dup, c_dup2, c_pop, c_ifnull, c_ifnonnull, c_get, c_put, c_iald, c_zald, c_iast, c_zast, c_aald, c_aast, c_alen, c_new, c_newa, c_newq, c_mna, c_oinit, c_max, c_copy, c_iret, c_zret, c_aret, c_vret, q_do, q_rc, c_ifeq, c_ifne, c_iflt, c_ifge, c_ifgt, c_ifle, c_iceq, c_icne, c_iclt, c_icge, c_icgt, c_icle, c_call0, c_call1, c_call2, c_call3, c_call4, c_call5, c_call6, c_call7, q_L0, List.map_cons, List.map_nil, List.replicate, List.cons_append, List.nil_append, List.append_nil, List.length_cons, List.length_nil, List.length_set, Nat.reduceSub, Nat.reduceAdd, Nat.reduceLT, Nat.reduceLeDiff, Nat.zero_add, Nat.add_zero, Nat.sub_zero, Nat.sub_self, List.getElem?_cons_zero, List.getElem?_cons_succ, List.set_cons_zero, List.set_cons_succ, Option.toList_some, Option.toList_none, List.sum_cons, List.sum_nil, true_and, and_true, true_or, or_true, Nat.le_refl, Nat.zero_le, Value.category, Fin.isValue, Fin.val_zero, Fin.val_one, Fin.val_two, Fin.reduceFinMk, q_10, q_01, not_false_eq_true, not_true_eq_false, forall_const, true_implies, false_implies, implies_true, q_ni, q_fi, q_nb0, q_nb1, q_fb0, q_fb1, q_nor, q_nar, q_for, q_far, q_non, q_nan, q_fon, q_fan, imp_false, false_and, and_false, and_self, false_or, or_false, va_rf, refKind, k_X1_endAheadOf_87]
        exact hK _ (nn - (i + 1)) _ _ _ _ _ (by omega) ⟨i + 1, d4, d7, by omega, rfl, rfl, rfl, by rw [nI_1, hv]⟩
      simp only [c_push, c_null, c_iload, c_aload, c_istore, c_astore, c_iinc, c_iadd, c_isub, c_imul, c_iand, c_ineg, c_dup, c_dup2, c_pop, c_ifnull, c_ifnonnull, c_get, c_put, c_iald, c_zald, c_iast, c_zast, c_aald, c_aast, c_alen, c_new, c_newa, c_newq, c_mna, c_oinit, c_max, c_copy, c_iret, c_zret, c_aret, c_vret, q_do, q_rc, c_ifeq, c_ifne, c_iflt, c_ifge, c_ifgt, c_ifle, c_iceq, c_icne, c_iclt, c_icge, c_icgt, c_icle, c_call0, c_call1, c_call2, c_call3, c_call4, c_call5, c_call6, c_call7, q_L0, List.map_cons, List.map_nil, List.replicate, List.cons_append, List.nil_append, List.append_nil, List.length_cons, List.length_nil, List.length_set, Nat.reduceSub, Nat.reduceAdd, Nat.reduceLT, Nat.reduceLeDiff, Nat.zero_add, Nat.add_zero, Nat.sub_zero, Nat.sub_self, List.getElem?_cons_zero, List.getElem?_cons_succ, List.set_cons_zero, List.set_cons_succ, Option.toList_some, Option.toList_none, List.sum_cons, List.sum_nil, true_and, and_true, true_or, or_true, Nat.le_refl, Nat.zero_le, Value.category, Fin.isValue, Fin.val_zero, Fin.val_one, Fin.val_two, Fin.reduceFinMk, q_10, q_01, not_false_eq_true, not_true_eq_false, forall_const, true_implies, false_implies, implies_true, q_ni, q_fi, q_nb0, q_nb1, q_fb0, q_fb1, q_nor, q_nar, q_for, q_far, q_non, q_nan, q_fon, q_fan, imp_false, false_and, and_false, and_self, false_or, or_false, va_rf, refKind, k_X1_endAheadOf_34, o1]
      rw [(cl2 (nI nn) (nI i) _ _ rfl rfl (by omega) (by omega)).1]
      refine ⟨fun c => ?_, fun c => ⟨R, AR, aa, g, na, hA0, fun j hj e => ?_, fun c2 => ?_⟩⟩
      · have e : i = nn := by omega
        subst e; exact h7
      · have e2 : j = i := ((cl2 (nI i) (nI j) _ _ rfl rfl (by omega) (by omega)).2.2.mp e).symm
        subst e2
        have e3 := (h3 j hj).2
        have oa : q_oc σ' (aa j) = some 0 := by simp only [q_oc, e3]
        replace J87 := J87 (by omega) (some (.ref (aa j)))
        rw [ceF] at J87
        simp only [c_push, c_null, c_iload, c_aload, c_istore, c_astore, c_iinc, c_iadd, c_isub, c_imul, c_iand, c_ineg, c_dup, c_dup2, c_pop, c_ifnull, c_ifnonnull, c_get, c_put, c_iald, c_zald, c_iast, c_zast, c_aald, c_aast, c_alen, c_new, c_newa, c_newq, c_mna, c_oinit, c_max, c_copy, c_iret, c_zret, c_aret, c_vret, q_do, q_rc, c_ifeq, c_ifne, c_iflt, c_ifge, c_ifgt, c_ifle, c_iceq, c_icne, c_iclt, c_icge, c_icgt, c_icle, c_call0, c_call1, c_call2, c_call3, c_call4, c_call5, c_call6, c_call7, q_L0, List.map_cons, List.map_nil, List.replicate, List.cons_append, List.nil_append, List.append_nil, List.length_cons, List.length_nil, List.length_set, Nat.reduceSub, Nat.reduceAdd, Nat.reduceLT, Nat.reduceLeDiff, Nat.zero_add, Nat.add_zero, Nat.sub_zero, Nat.sub_self, List.getElem?_cons_zero, List.getElem?_cons_succ, List.set_cons_zero, List.set_cons_succ, Option.toList_some, Option.toList_none, List.sum_cons, List.sum_nil, true_and, and_true, true_or, or_true, Nat.le_refl, Nat.zero_le, Value.category, Fin.isValue, Fin.val_zero, Fin.val_one, Fin.val_two, Fin.reduceFinMk, q_10, q_01, not_false_eq_true, not_true_eq_false, forall_const, true_implies, false_implies, implies_true, q_ni, q_fi, q_nb0, q_nb1, q_fb0, q_fb1, q_nor, q_nar, q_for, q_far, q_non, q_nan, q_fon, q_fan, imp_false, false_and, and_false, and_self, false_or, or_false, va_rf, refKind, oa, s_X0_endFor, s_X0_comesLaterTo, s_X0_changes, e3, w1, w2]
        refine ⟨fun c3 => ⟨fun c4 => ?_, fun c4 => ?_⟩, fun c3 => ?_⟩
        · rw [if_pos ⟨c3, c4⟩] at J87
          exact J87 _ rfl
        · rw [if_neg (fun h => c4 h.2)] at J87
          exact J87 _ rfl
        · rw [if_neg (fun h => c3 h.1)] at J87
          exact J87 _ rfl
      · exfalso
        rcases c2 with c2 | c2
        · exact nI_pos (by omega) c2
        · have := (cl2 (nI na) (nI i) _ _ rfl rfl (by omega) (by omega)).1.mp c2
          omega
  · exact h.elim)
def s_X1_endKnownAt : q_Sp := fun av σ post => match av with
  | [.ref ac, .ref w, .int k] => ∃ R AR aa g na ent dd lr, AcD σ R ac AR aa g na ∧ WkF σ w ent dd lr ∧ post (some (.int (ceF g ent dd lr k na na))) σ
  | _ => False
theorem w9_277 : (.code yX1_endAheadOf cX1_endAheadOf 8 (some .int) : Cond) ∈ lw_tbl := by decide +kernel
theorem w9_278 : (.methodLink RX1 34 yX1_endAheadOf : Cond) ∈ lw_tbl := by decide +kernel
theorem w9_279 : (.instanceMethod yX1_endAheadOf : Cond) ∈ lw_tbl := by decide +kernel
theorem w9_280 : (.selects RX1 yX1_endAheadOf yX1_endAheadOf : Cond) ∈ lw_tbl := by decide +kernel
def rm_X1_endKnownAt : Room := { frames := 4, cells := 0, slots := 0, locals := 91 }
def k_X1_endKnownAt_0 (post : Option Value → q_S → Prop) (K : Nat → q_K) : q_K := (c_aload 0 (c_aload 0 (c_get 1 1 (c_aload 1 (c_iload 2 (c_call4 (some 1) s_X1_endAheadOf 0 0 (c_iret post)))))))
set_option maxRecDepth 100000 in
theorem v_X1_endKnownAt_0 {p : Program} {l : Launch} {e : Env} {s : State} {m : MethodId} {args : Array Value} {below : List Frame} {meth : Method} {c : Code} {D : va_G} {A : Nat → Prop} {post : Option Value → q_S → Prop} {K : Nat → q_K} (C : q_C p s m args meth c cX1_endKnownAt 3 RX1 "endKnownAt" (some .int) A) (hK : ∀ h ∈ ([] : List Nat), q_V p l e rm_X1_endKnownAt s m args below meth c D A 3 (MQ below (q_Qc D A post) args s rm_X1_endKnownAt.cells rm_X1_endKnownAt.slots A) h (K h)) : q_V p l e rm_X1_endKnownAt s m args below meth c D A 3 (MQ below (q_Qc D A post) args s rm_X1_endKnownAt.cells rm_X1_endKnownAt.slots A) 0 (k_X1_endKnownAt_0 post K) := by
  unfold k_X1_endKnownAt_0
  refine q_aload_n C (by decide +kernel : decode cX1_endKnownAt 0 = .ok (.aload_n 0, 1)) ?_
  refine q_aload_n C (by decide +kernel : decode cX1_endKnownAt 1 = .ok (.aload_n 0, 1)) ?_
  refine q_get C (ci := 1) (j := 1) (C0 := RX1) (T := TX1) (N := 2) rfl iX1 giX1 (by decide) w9_252 (by decide +kernel : decode cX1_endKnownAt 2 = .ok (.getfield 17, 3)) ?_
  refine q_aload_n C (by decide +kernel : decode cX1_endKnownAt 5 = .ok (.aload_n 1, 1)) ?_
  refine q_iload_n C (by decide +kernel : decode cX1_endKnownAt 6 = .ok (.iload_n 2, 1)) ?_
  refine q_call4 C (q_coV C (np := 3) (ci := 1) (rc := (RX1, TX1, 2)) (t_X1_endAheadOf l) w9_277 rfl rfl w9_278 w9_279 w9_280 w9_255 (by decide +kernel) (by decide +kernel : decode cX1_endKnownAt 7 = .ok (.invokevirtual 34, 3)) (by decide)) ?_
  exact q_iret C rfl (by decide +kernel : decode cX1_endKnownAt 10 = .ok (.ireturn, 1))
theorem u_X1_endKnownAt (l : Launch) {sp : q_Sp} (H : ∀ (av : List Value) (σ : q_S) (post : Option Value → q_S → Prop), sp av σ post → k_X1_endKnownAt_0 post (fun _ _ _ _ _ _ => False) (q_L0 av 3) [] σ 0 0 ∧ av.length ≤ 3 ∧ ∀ v ∈ av, v.category = 1) : q_Ct l yX1_endKnownAt cX1_endKnownAt 3 (some .int) rm_X1_endKnownAt sp := by
  refine q_met (by decide) ?_
  intro D A p e s m args below meth c σ av post C hsp
  obtain ⟨h1, h2, h3⟩ := H av σ post hsp
  exact ⟨_, v_X1_endKnownAt_0 (K := fun _ _ _ _ _ _ => False) C (fun h hh => by cases hh), h1, h2, h3⟩
theorem t_X1_endKnownAt (l : Launch) : q_Ct l yX1_endKnownAt cX1_endKnownAt 3 (some .int) rm_X1_endKnownAt s_X1_endKnownAt := u_X1_endKnownAt l (by
  intro av σ post h
  unfold s_X1_endKnownAt at h
  split at h
  · next ac w k =>
    refine ⟨?_, by simp, by simp [Value.category]⟩
    obtain ⟨R, AR, aa, g, na, ent, dd, lr, hA, hW, h7⟩ := h
    have hA0 := hA
    obtain ⟨h1, h2, h3, hna⟩ := hA
    have o1 : q_oc σ ac = some 1 := by simp only [q_oc, h1.2]
    have f1 : q_fld σ ac 1 1 = some (.int (nI na)) := by simp only [q_fld, h1.2, if_true]; rfl
    simp only [c_push, c_null, c_iload, c_aload, c_istore, c_astore, c_iinc, c_iadd, c_isub, c_imul, c_iand, c_ineg, c_dup, c_dup2, c_pop, c_ifnull, c_ifnonnull, c_get, c_put, c_iald, c_zald, c_iast, c_zast, c_aald, c_aast, c_alen, c_new, c_newa, c_newq, c_mna, c_oinit, c_max, c_copy, c_iret, c_zret, c_aret, c_vret, q_do, q_rc, c_ifeq, c_ifne, c_iflt, c_ifge, c_ifgt, c_ifle, c_iceq, c_icne, c_iclt, c_icge, c_icgt, c_icle, c_call0, c_call1, c_call2, c_call3, c_call4, c_call5, c_call6, c_call7, q_L0, List.map_cons, List.map_nil, List.replicate, List.cons_append, List.nil_append, List.append_nil, List.length_cons, List.length_nil, List.length_set, Nat.reduceSub, Nat.reduceAdd, Nat.reduceLT, Nat.reduceLeDiff, Nat.zero_add, Nat.add_zero, Nat.sub_zero, Nat.sub_self, List.getElem?_cons_zero, List.getElem?_cons_succ, List.set_cons_zero, List.set_cons_succ, Option.toList_some, Option.toList_none, List.sum_cons, List.sum_nil, true_and, and_true, true_or, or_true, Nat.le_refl, Nat.zero_le, Value.category, Fin.isValue, Fin.val_zero, Fin.val_one, Fin.val_two, Fin.reduceFinMk, q_10, q_01, not_false_eq_true, not_true_eq_false, forall_const, true_implies, false_implies, implies_true, q_ni, q_fi, q_nb0, q_nb1, q_fb0, q_fb1, q_nor, q_nar, q_for, q_far, q_non, q_nan, q_fon, q_fan, imp_false, false_and, and_false, and_self, false_or, or_false, va_rf, refKind, k_X1_endKnownAt_0, o1, f1]
    refine ⟨R, AR, aa, g, na, ent, dd, lr, na, hA0, hW, Nat.le_refl _, rfl, ?_⟩
    simp only [c_push, c_null, c_iload, c_aload, c_istore, c_astore, c_iinc, c_iadd, c_isub, c_imul, c_iand, c_ineg, c_dup, c_dup2, c_pop, c_ifnull, c_ifnonnull, c_get, c_put, c_iald, c_zald, c_iast, c_zast, c_aald, c_aast, c_alen, c_new, c_newa, c_newq, c_mna, c_oinit, c_max, c_copy, c_iret, c_zret, c_aret, c_vret, q_do, q_rc, c_ifeq, c_ifne, c_iflt, c_ifge, c_ifgt, c_ifle, c_iceq, c_icne, c_iclt, c_icge, c_icgt, c_icle, c_call0, c_call1, c_call2, c_call3, c_call4, c_call5, c_call6, c_call7, q_L0, List.map_cons, List.map_nil, List.replicate, List.cons_append, List.nil_append, List.append_nil, List.length_cons, List.length_nil, List.length_set, Nat.reduceSub, Nat.reduceAdd, Nat.reduceLT, Nat.reduceLeDiff, Nat.zero_add, Nat.add_zero, Nat.sub_zero, Nat.sub_self, List.getElem?_cons_zero, List.getElem?_cons_succ, List.set_cons_zero, List.set_cons_succ, Option.toList_some, Option.toList_none, List.sum_cons, List.sum_nil, true_and, and_true, true_or, or_true, Nat.le_refl, Nat.zero_le, Value.category, Fin.isValue, Fin.val_zero, Fin.val_one, Fin.val_two, Fin.reduceFinMk, q_10, q_01, not_false_eq_true, not_true_eq_false, forall_const, true_implies, false_implies, implies_true, q_ni, q_fi, q_nb0, q_nb1, q_fb0, q_fb1, q_nor, q_nar, q_for, q_far, q_non, q_nan, q_fon, q_fan, imp_false, false_and, and_false, and_self, false_or, or_false, va_rf, refKind]
    exact h7
  · exact h.elim)
def lfB (g : Nat → Nat → Int32) (ent dd lr t k : Int32) (na : Nat) : Nat → Bool
  | 0 => false
  | n + 1 => lfB g ent dd lr t k na n || decide ((ent < g 6 n ∧ g 6 n ≤ k) ∧ g 9 n = 2 ∧ ceF g ent dd lr k na n < t ∧ t < g 6 n)
def s_X1_leaveFree : q_Sp := fun av σ post => match av with
  | [.ref ac, .ref w, .int t, .int k] => ∃ R AR aa g na ent dd lr, AcD σ R ac AR aa g na ∧ WkF σ w ent dd lr ∧ (lfB g ent dd lr t k na na = true → post (some (.int 1)) σ) ∧ (lfB g ent dd lr t k na na = false → post (some (.int 0)) σ)
  | _ => False
theorem lfB_mono (g : Nat → Nat → Int32) (ent dd lr t k : Int32) (na : Nat) {i : Nat} (h : lfB g ent dd lr t k na i = true) : ∀ d : Nat, lfB g ent dd lr t k na (i + d) = true
  | 0 => h
  | d + 1 => by rw [show i + (d + 1) = (i + d) + 1 from rfl, lfB, lfB_mono g ent dd lr t k na h d]; rfl
theorem w9_281 : (.code yX0_leavesFree cX0_leavesFree 3 (some .boolean) : Cond) ∈ lw_tbl := by decide +kernel
theorem w9_282 : (.methodLink RX1 68 yX0_leavesFree : Cond) ∈ lw_tbl := by decide +kernel
theorem w9_283 : (.instanceMethod yX0_leavesFree : Cond) ∈ lw_tbl := by decide +kernel
theorem w9_284 : (.selects RX0 yX0_leavesFree yX0_leavesFree : Cond) ∈ lw_tbl := by decide +kernel
def rm_X1_leaveFree : Room := { frames := 4, cells := 0, slots := 0, locals := 91 }
def k_X1_leaveFree_0 (post : Option Value → q_S → Prop) (K : Nat → q_K) : q_K := (c_push 0 (c_istore 4 (K 3)))
def k_X1_leaveFree_54 (post : Option Value → q_S → Prop) (K : Nat → q_K) : q_K := (c_iinc 4 1 (K 3))
def k_X1_leaveFree_3 (post : Option Value → q_S → Prop) (K : Nat → q_K) : q_K := (c_iload 4 (c_aload 0 (c_get 1 1 (c_icge (c_push 0 (c_zret post)) (c_aload 0 (c_iload 4 (c_call2 (some 1) s_X1_rowAt 0 0 (c_astore 5 (c_aload 5 (c_ifnull (k_X1_leaveFree_54 post K) (c_aload 5 (c_aload 1 (c_iload 3 (c_call3 (some 0) s_X0_comesLaterTo 0 0 (c_ifeq (k_X1_leaveFree_54 post K) (c_aload 5 (c_iload 2 (c_aload 0 (c_iload 4 (c_aload 1 (c_iload 3 (c_call4 (some 1) s_X1_endAheadOf 0 0 (c_call3 (some 0) s_X0_leavesFree 0 0 (c_ifeq (k_X1_leaveFree_54 post K) (c_push 1 (c_zret post))))))))))))))))))))))))))
set_option maxRecDepth 100000 in
theorem v_X1_leaveFree_0 {p : Program} {l : Launch} {e : Env} {s : State} {m : MethodId} {args : Array Value} {below : List Frame} {meth : Method} {c : Code} {D : va_G} {A : Nat → Prop} {post : Option Value → q_S → Prop} {K : Nat → q_K} (C : q_C p s m args meth c cX1_leaveFree 6 RX1 "leaveFree" (some .boolean) A) (hK : ∀ h ∈ ([3] : List Nat), q_V p l e rm_X1_leaveFree s m args below meth c D A 6 (MQ below (q_Qc D A post) args s rm_X1_leaveFree.cells rm_X1_leaveFree.slots A) h (K h)) : q_V p l e rm_X1_leaveFree s m args below meth c D A 6 (MQ below (q_Qc D A post) args s rm_X1_leaveFree.cells rm_X1_leaveFree.slots A) 0 (k_X1_leaveFree_0 post K) := by
  unfold k_X1_leaveFree_0
  refine q_iconst C (by decide +kernel : decode cX1_leaveFree 0 = .ok (.iconst 0, 1)) (by decide) ?_
  refine q_istore C (by decide +kernel : decode cX1_leaveFree 1 = .ok (.istore 4, 2)) ?_
  exact hK 3 (by decide)
set_option maxRecDepth 100000 in
theorem v_X1_leaveFree_54 {p : Program} {l : Launch} {e : Env} {s : State} {m : MethodId} {args : Array Value} {below : List Frame} {meth : Method} {c : Code} {D : va_G} {A : Nat → Prop} {post : Option Value → q_S → Prop} {K : Nat → q_K} (C : q_C p s m args meth c cX1_leaveFree 6 RX1 "leaveFree" (some .boolean) A) (hK : ∀ h ∈ ([3] : List Nat), q_V p l e rm_X1_leaveFree s m args below meth c D A 6 (MQ below (q_Qc D A post) args s rm_X1_leaveFree.cells rm_X1_leaveFree.slots A) h (K h)) : q_V p l e rm_X1_leaveFree s m args below meth c D A 6 (MQ below (q_Qc D A post) args s rm_X1_leaveFree.cells rm_X1_leaveFree.slots A) 54 (k_X1_leaveFree_54 post K) := by
  unfold k_X1_leaveFree_54
  refine q_iinc C (by decide +kernel : decode cX1_leaveFree 54 = .ok (.iinc 4 1, 3)) (by decide) ?_
  refine q_goto C (tgt := 3) (by decide +kernel : decode cX1_leaveFree 57 = .ok (.goto (-54), 3)) (by decide) ?_
  exact hK 3 (by decide)
set_option maxRecDepth 100000 in
theorem v_X1_leaveFree_3 {p : Program} {l : Launch} {e : Env} {s : State} {m : MethodId} {args : Array Value} {below : List Frame} {meth : Method} {c : Code} {D : va_G} {A : Nat → Prop} {post : Option Value → q_S → Prop} {K : Nat → q_K} (C : q_C p s m args meth c cX1_leaveFree 6 RX1 "leaveFree" (some .boolean) A) (hK : ∀ h ∈ ([3] : List Nat), q_V p l e rm_X1_leaveFree s m args below meth c D A 6 (MQ below (q_Qc D A post) args s rm_X1_leaveFree.cells rm_X1_leaveFree.slots A) h (K h)) : q_V p l e rm_X1_leaveFree s m args below meth c D A 6 (MQ below (q_Qc D A post) args s rm_X1_leaveFree.cells rm_X1_leaveFree.slots A) 3 (k_X1_leaveFree_3 post K) := by
  unfold k_X1_leaveFree_3
  refine q_iload C (by decide +kernel : decode cX1_leaveFree 3 = .ok (.iload 4, 2)) ?_
  refine q_aload_n C (by decide +kernel : decode cX1_leaveFree 5 = .ok (.aload_n 0, 1)) ?_
  refine q_get C (ci := 1) (j := 1) (C0 := RX1) (T := TX1) (N := 2) rfl iX1 giX1 (by decide) w9_252 (by decide +kernel : decode cX1_leaveFree 6 = .ok (.getfield 17, 3)) ?_
  refine q_icge C (tgt := 60) (by decide +kernel : decode cX1_leaveFree 9 = .ok (.if_icmp .ge 51, 3)) (by decide) ?_ ?_
  · refine q_iconst C (by decide +kernel : decode cX1_leaveFree 60 = .ok (.iconst 0, 1)) (by decide) ?_
    exact q_zret C rfl (by decide +kernel : decode cX1_leaveFree 61 = .ok (.ireturn, 1))
  · refine q_aload_n C (by decide +kernel : decode cX1_leaveFree 12 = .ok (.aload_n 0, 1)) ?_
    refine q_iload C (by decide +kernel : decode cX1_leaveFree 13 = .ok (.iload 4, 2)) ?_
    refine q_call2 C (q_coV C (np := 1) (ci := 1) (rc := (RX1, TX1, 2)) (t_X1_rowAt l) w9_254 rfl rfl w9_256 w9_257 w9_258 w9_255 (by decide +kernel) (by decide +kernel : decode cX1_leaveFree 15 = .ok (.invokevirtual 21, 3)) (by decide)) ?_
    refine q_astore C (by decide +kernel : decode cX1_leaveFree 18 = .ok (.astore 5, 2)) ?_
    refine q_aload C (by decide +kernel : decode cX1_leaveFree 20 = .ok (.aload 5, 2)) ?_
    refine q_ifnull C (tgt := 54) (by decide +kernel : decode cX1_leaveFree 22 = .ok (.ifnull 32, 3)) (by decide) ?_ ?_
    · exact v_X1_leaveFree_54 C hK
    · refine q_aload C (by decide +kernel : decode cX1_leaveFree 25 = .ok (.aload 5, 2)) ?_
      refine q_aload_n C (by decide +kernel : decode cX1_leaveFree 27 = .ok (.aload_n 1, 1)) ?_
      refine q_iload_n C (by decide +kernel : decode cX1_leaveFree 28 = .ok (.iload_n 3, 1)) ?_
      refine q_call3 C (q_coV C (np := 2) (ci := 0) (rc := (RX0, TX0, 5)) (t_X0_comesLaterTo l) w9_268 rfl rfl w9_269 w9_270 w9_271 w9_264 (by decide +kernel) (by decide +kernel : decode cX1_leaveFree 29 = .ok (.invokevirtual 47, 3)) (by decide)) ?_
      refine q_ifeq C (tgt := 54) (by decide +kernel : decode cX1_leaveFree 32 = .ok (.ifCond .eq 22, 3)) (by decide) ?_ ?_
      · exact v_X1_leaveFree_54 C hK
      · refine q_aload C (by decide +kernel : decode cX1_leaveFree 35 = .ok (.aload 5, 2)) ?_
        refine q_iload_n C (by decide +kernel : decode cX1_leaveFree 37 = .ok (.iload_n 2, 1)) ?_
        refine q_aload_n C (by decide +kernel : decode cX1_leaveFree 38 = .ok (.aload_n 0, 1)) ?_
        refine q_iload C (by decide +kernel : decode cX1_leaveFree 39 = .ok (.iload 4, 2)) ?_
        refine q_aload_n C (by decide +kernel : decode cX1_leaveFree 41 = .ok (.aload_n 1, 1)) ?_
        refine q_iload_n C (by decide +kernel : decode cX1_leaveFree 42 = .ok (.iload_n 3, 1)) ?_
        refine q_call4 C (q_coV C (np := 3) (ci := 1) (rc := (RX1, TX1, 2)) (t_X1_endAheadOf l) w9_277 rfl rfl w9_278 w9_279 w9_280 w9_255 (by decide +kernel) (by decide +kernel : decode cX1_leaveFree 43 = .ok (.invokevirtual 34, 3)) (by decide)) ?_
        refine q_call3 C (q_coV C (np := 2) (ci := 0) (rc := (RX0, TX0, 5)) (t_X0_leavesFree l) w9_281 rfl rfl w9_282 w9_283 w9_284 w9_264 (by decide +kernel) (by decide +kernel : decode cX1_leaveFree 46 = .ok (.invokevirtual 68, 3)) (by decide)) ?_
        refine q_ifeq C (tgt := 54) (by decide +kernel : decode cX1_leaveFree 49 = .ok (.ifCond .eq 5, 3)) (by decide) ?_ ?_
        · exact v_X1_leaveFree_54 C hK
        · refine q_iconst C (by decide +kernel : decode cX1_leaveFree 52 = .ok (.iconst 1, 1)) (by decide) ?_
          exact q_zret C rfl (by decide +kernel : decode cX1_leaveFree 53 = .ok (.ireturn, 1))
theorem u_X1_leaveFree (l : Launch) {sp : q_Sp} (H : ∀ (av : List Value) (σ : q_S) (post : Option Value → q_S → Prop), sp av σ post → ∃ Inv : Nat → Nat → q_K, (∀ K : Nat → q_K, (∀ (h n : Nat) (L : List (Option Value)) (st : List Value) (σ : q_S) (cr sr : Nat), Inv h n L st σ cr sr → K h L st σ cr sr) → k_X1_leaveFree_0 post K (q_L0 av 6) [] σ 0 0) ∧ (∀ (K : Nat → q_K) (n : Nat), (∀ (h m : Nat) (L : List (Option Value)) (st : List Value) (σ : q_S) (cr sr : Nat), m < n → Inv h m L st σ cr sr → K h L st σ cr sr) → ∀ (L : List (Option Value)) (st : List Value) (σ : q_S) (cr sr : Nat), Inv 3 n L st σ cr sr → k_X1_leaveFree_3 post K L st σ cr sr) ∧ av.length ≤ 6 ∧ ∀ v ∈ av, v.category = 1) : q_Ct l yX1_leaveFree cX1_leaveFree 6 (some .boolean) rm_X1_leaveFree sp := by
  refine q_met (by decide) ?_
  intro D A p e s m args below meth c σ av post C hsp
  obtain ⟨Inv, h1, hh3, h2, h3⟩ := H av σ post hsp
  have hV := q_loops (p := p) (l := l) (e := e) (R := rm_X1_leaveFree) (s := s) (m := m) (args := args) (below := below) (meth := meth) (c := c) (D := D) (A := A) (nL := 6) (Q := MQ below (q_Qc D A post) args s rm_X1_leaveFree.cells rm_X1_leaveFree.slots A) [3] (fun h =>  k_X1_leaveFree_3 post) (fun K hK h hh => ?_) Inv (fun n h hh => ?_)
  · exact ⟨_, v_X1_leaveFree_0 C hV, h1 _ (fun h n L st σ cr sr hi => ⟨n, hi⟩), h2, h3⟩
  · have e9 : h = 3 := by simpa using hh
    subst e9
    exact v_X1_leaveFree_3 C hK
  · have e9 : h = 3 := by simpa using hh
    subst e9
    exact hh3 (fun h L st σ cr sr => ∃ m : Nat, m < n ∧ Inv h m L st σ cr sr) n (fun h m L st σ cr sr hm hi => ⟨m, hm, hi⟩)
theorem t_X1_leaveFree (l : Launch) : q_Ct l yX1_leaveFree cX1_leaveFree 6 (some .boolean) rm_X1_leaveFree s_X1_leaveFree := u_X1_leaveFree l (by
  intro av σ post h
  unfold s_X1_leaveFree at h
  split at h
  · next ac w t k =>
    obtain ⟨R, AR, aa, g, na, ent, dd, lr, hA, hW, h7, h8⟩ := h
    have hA0 := hA
    have hW0 := hW
    obtain ⟨h1, h2, h3, hna⟩ := hA
    obtain ⟨p, x, y, z, hh, w1, w2⟩ := hW
    have o1 : q_oc σ ac = some 1 := by simp only [q_oc, h1.2]
    have f1 : q_fld σ ac 1 1 = some (.int (nI na)) := by simp only [q_fld, h1.2, if_true]; rfl
    refine ⟨fun _ m L st σ' cr sr => ∃ i d5, i ≤ na ∧ m = na - i ∧ σ' = σ ∧ st = [] ∧ lfB g ent dd lr t k na i = false ∧ L = [some (.ref ac), some (.ref w), some (.int t), some (.int k), some (.int (nI i)), d5], ?_, ?_, by simp, by simp [Value.category]⟩
    · intro K hK
      simp only [c_push, c_null, c_iload, c_aload, c_istore, c_astore, c_iinc, c_iadd, c_isub, c_imul, c_iand, c_ineg, c_dup, c_dup2, c_pop, c_ifnull, c_ifnonnull, c_get, c_put, c_iald, c_zald, c_iast, c_zast, c_aald, c_aast, c_alen, c_new, c_newa, c_newq, c_mna, c_oinit, c_max, c_copy, c_iret, c_zret, c_aret, c_vret, q_do, q_rc, c_ifeq, c_ifne, c_iflt, c_ifge, c_ifgt, c_ifle, c_iceq, c_icne, c_iclt, c_icge, c_icgt, c_icle, c_call0, c_call1, c_call2, c_call3, c_call4, c_call5, c_call6, c_call7, q_L0, List.map_cons, List.map_nil, List.replicate, List.cons_append, List.nil_append, List.append_nil, List.length_cons, List.length_nil, List.length_set, Nat.reduceSub, Nat.reduceAdd, Nat.reduceLT, Nat.reduceLeDiff, Nat.zero_add, Nat.add_zero, Nat.sub_zero, Nat.sub_self, List.getElem?_cons_zero, List.getElem?_cons_succ, List.set_cons_zero, List.set_cons_succ, Option.toList_some, Option.toList_none, List.sum_cons, List.sum_nil, true_and, and_true, true_or, or_true, Nat.le_refl, Nat.zero_le, Value.category, Fin.isValue, Fin.val_zero, Fin.val_one, Fin.val_two, Fin.reduceFinMk, q_10, q_01, not_false_eq_true, not_true_eq_false, forall_const, true_implies, false_implies, implies_true, q_ni, q_fi, q_nb0, q_nb1, q_fb0, q_fb1, q_nor, q_nar, q_for, q_far, q_non, q_nan, q_fon, q_fan, imp_false, false_and, and_false, and_self, false_or, or_false, va_rf, refKind, k_X1_leaveFree_0]
      exact hK _ na _ _ _ _ _ ⟨0, none, Nat.zero_le _, rfl, rfl, rfl, rfl, rfl⟩
    · rintro K m hK L st σ' cr sr ⟨i, d5, hi, rfl, rfl, rfl, hlf, rfl⟩
      have J54 : i < na → ¬ ((ent < g 6 i ∧ g 6 i ≤ k) ∧ g 9 i = 2 ∧ ceF g ent dd lr k na i < t ∧ t < g 6 i) → ∀ d5, k_X1_leaveFree_54 post K [some (.ref ac), some (.ref w), some (.int t), some (.int k), some (.int (nI i)), d5] [] σ' cr sr := fun hlt hn d5 => by
        simp only [c_push, c_null, c_iload, c_aload, c_istore, c_astore, c_iinc, c_iadd, c_isub, c_imul, c_iand, c_ineg, c_dup, c_dup2, c_pop, c_ifnull, c_ifnonnull, c_get, c_put, c_iald, c_zald, c_iast, c_zast, c_aald, c_aast, c_alen, c_new, c_newa, c_newq, c_mna, c_oinit, c_max, c_copy, c_iret, c_zret, c_aret, c_vret, q_do, q_rc, c_ifeq, c_ifne, c_iflt, c_ifge, c_ifgt, c_ifle, c_iceq, c_icne, c_iclt, c_icge, c_icgt, c_icle, c_call0, c_call1, c_call2, c_call3, c_call4, c_call5, c_call6, c_call7, q_L0, List.map_cons, List.map_nil, List.replicate, List.cons_append, List.nil_append, List.append_nil, List.length_cons, List.length_nil, List.length_set, Nat.reduceSub, Nat.reduceAdd, Nat.reduceLT, Nat.reduceLeDiff, Nat.zero_add, Nat.add_zero, Nat.sub_zero, Nat.sub_self, List.getElem?_cons_zero, List.getElem?_cons_succ, List.set_cons_zero, List.set_cons_succ, Option.toList_some, Option.toList_none, List.sum_cons, List.sum_nil, true_and, and_true, true_or, or_true, Nat.le_refl, Nat.zero_le, Value.category, Fin.isValue, Fin.val_zero, Fin.val_one, Fin.val_two, Fin.reduceFinMk, q_10, q_01, not_false_eq_true, not_true_eq_false, forall_const, true_implies, false_implies, implies_true, q_ni, q_fi, q_nb0, q_nb1, q_fb0, q_fb1, q_nor, q_nar, q_for, q_far, q_non, q_nan, q_fon, q_fan, imp_false, false_and, and_false, and_self, false_or, or_false, va_rf, refKind, k_X1_leaveFree_54]
        exact hK _ (na - (i + 1)) _ _ _ _ _ (by omega) ⟨i + 1, d5, by omega, rfl, rfl, rfl, by rw [lfB, hlf, decide_eq_false hn]; rfl, by rw [nI_1]⟩
      simp only [c_push, c_null, c_iload, c_aload, c_istore, c_astore, c_iinc, c_iadd, c_isub, c_imul, c_iand, c_ineg, c_dup, c_dup2, c_pop, c_ifnull, c_ifnonnull, c_get, c_put, c_iald, c_zald, c_iast, c_zast, c_aald, c_aast, c_alen, c_new, c_newa, c_newq, c_mna, c_oinit, c_max, c_copy, c_iret, c_zret, c_aret, c_vret, q_do, q_rc, c_ifeq, c_ifne, c_iflt, c_ifge, c_ifgt, c_ifle, c_iceq, c_icne, c_iclt, c_icge, c_icgt, c_icle, c_call0, c_call1, c_call2, c_call3, c_call4, c_call5, c_call6, c_call7, q_L0, List.map_cons, List.map_nil, List.replicate, List.cons_append, List.nil_append, List.append_nil, List.length_cons, List.length_nil, List.length_set, Nat.reduceSub, Nat.reduceAdd, Nat.reduceLT, Nat.reduceLeDiff, Nat.zero_add, Nat.add_zero, Nat.sub_zero, Nat.sub_self, List.getElem?_cons_zero, List.getElem?_cons_succ, List.set_cons_zero, List.set_cons_succ, Option.toList_some, Option.toList_none, List.sum_cons, List.sum_nil, true_and, and_true, true_or, or_true, Nat.le_refl, Nat.zero_le, Value.category, Fin.isValue, Fin.val_zero, Fin.val_one, Fin.val_two, Fin.reduceFinMk, q_10, q_01, not_false_eq_true, not_true_eq_false, forall_const, true_implies, false_implies, implies_true, q_ni, q_fi, q_nb0, q_nb1, q_fb0, q_fb1, q_nor, q_nar, q_for, q_far, q_non, q_nan, q_fon, q_fan, imp_false, false_and, and_false, and_self, false_or, or_false, va_rf, refKind, k_X1_leaveFree_3, o1, f1]
      rw [(cl2 (nI na) (nI i) _ _ rfl rfl (by omega) (by omega)).1]
      refine ⟨fun c => ?_, fun c => ⟨R, AR, aa, g, na, hA0, fun j hj e => ?_, fun c2 => ?_⟩⟩
      · have e : i = na := by omega
        rw [e] at hlf
        exact h8 hlf
      · have e2 : j = i := ((cl2 (nI i) (nI j) _ _ rfl rfl (by omega) (by omega)).2.2.mp e).symm
        subst e2
        have e3 := (h3 j hj).2
        have oa : q_oc σ' (aa j) = some 0 := by simp only [q_oc, e3]
        simp only [c_push, c_null, c_iload, c_aload, c_istore, c_astore, c_iinc, c_iadd, c_isub, c_imul, c_iand, c_ineg, c_dup, c_dup2, c_pop, c_ifnull, c_ifnonnull, c_get, c_put, c_iald, c_zald, c_iast, c_zast, c_aald, c_aast, c_alen, c_new, c_newa, c_newq, c_mna, c_oinit, c_max, c_copy, c_iret, c_zret, c_aret, c_vret, q_do, q_rc, c_ifeq, c_ifne, c_iflt, c_ifge, c_ifgt, c_ifle, c_iceq, c_icne, c_iclt, c_icge, c_icgt, c_icle, c_call0, c_call1, c_call2, c_call3, c_call4, c_call5, c_call6, c_call7, q_L0, List.map_cons, List.map_nil, List.replicate, List.cons_append, List.nil_append, List.append_nil, List.length_cons, List.length_nil, List.length_set, Nat.reduceSub, Nat.reduceAdd, Nat.reduceLT, Nat.reduceLeDiff, Nat.zero_add, Nat.add_zero, Nat.sub_zero, Nat.sub_self, List.getElem?_cons_zero, List.getElem?_cons_succ, List.set_cons_zero, List.set_cons_succ, Option.toList_some, Option.toList_none, List.sum_cons, List.sum_nil, true_and, and_true, true_or, or_true, Nat.le_refl, Nat.zero_le, Value.category, Fin.isValue, Fin.val_zero, Fin.val_one, Fin.val_two, Fin.reduceFinMk, q_10, q_01, not_false_eq_true, not_true_eq_false, forall_const, true_implies, false_implies, implies_true, q_ni, q_fi, q_nb0, q_nb1, q_fb0, q_fb1, q_nor, q_nar, q_for, q_far, q_non, q_nan, q_fon, q_fan, imp_false, false_and, and_false, and_self, false_or, or_false, va_rf, refKind, oa, o1, s_X0_comesLaterTo, e3, w1]
        refine ⟨fun c3 => ?_, fun c3 => J54 hj (fun h => c3 h.1) _⟩
        refine ⟨R, AR, aa, g, na, ent, dd, lr, j, hA0, hW0, by omega, rfl, ?_⟩
        simp only [c_push, c_null, c_iload, c_aload, c_istore, c_astore, c_iinc, c_iadd, c_isub, c_imul, c_iand, c_ineg, c_dup, c_dup2, c_pop, c_ifnull, c_ifnonnull, c_get, c_put, c_iald, c_zald, c_iast, c_zast, c_aald, c_aast, c_alen, c_new, c_newa, c_newq, c_mna, c_oinit, c_max, c_copy, c_iret, c_zret, c_aret, c_vret, q_do, q_rc, c_ifeq, c_ifne, c_iflt, c_ifge, c_ifgt, c_ifle, c_iceq, c_icne, c_iclt, c_icge, c_icgt, c_icle, c_call0, c_call1, c_call2, c_call3, c_call4, c_call5, c_call6, c_call7, q_L0, List.map_cons, List.map_nil, List.replicate, List.cons_append, List.nil_append, List.append_nil, List.length_cons, List.length_nil, List.length_set, Nat.reduceSub, Nat.reduceAdd, Nat.reduceLT, Nat.reduceLeDiff, Nat.zero_add, Nat.add_zero, Nat.sub_zero, Nat.sub_self, List.getElem?_cons_zero, List.getElem?_cons_succ, List.set_cons_zero, List.set_cons_succ, Option.toList_some, Option.toList_none, List.sum_cons, List.sum_nil, true_and, and_true, true_or, or_true, Nat.le_refl, Nat.zero_le, Value.category, Fin.isValue, Fin.val_zero, Fin.val_one, Fin.val_two, Fin.reduceFinMk, q_10, q_01, not_false_eq_true, not_true_eq_false, forall_const, true_implies, false_implies, implies_true, q_ni, q_fi, q_nb0, q_nb1, q_fb0, q_fb1, q_nor, q_nar, q_for, q_far, q_non, q_nan, q_fon, q_fan, imp_false, false_and, and_false, and_self, false_or, or_false, va_rf, refKind, oa, s_X0_leavesFree, e3]
        refine ⟨fun c4 => ?_, fun c4 => J54 hj (fun h => c4 h.2) _⟩
        have ht : lfB g ent dd lr t k na (j + 1) = true := by rw [lfB, decide_eq_true ⟨c3, c4⟩]; simp
        have := lfB_mono g ent dd lr t k na ht (na - (j + 1))
        rw [show j + 1 + (na - (j + 1)) = na by omega] at this
        exact h7 this
      · exfalso
        rcases c2 with c2 | c2
        · exact nI_pos (by omega) c2
        · have := (cl2 (nI na) (nI i) _ _ rfl rfl (by omega) (by omega)).1.mp c2
          omega
  · exact h.elim)
abbrev prC (g : Nat → Nat → Int32) (ent dd lr t k : Int32) (na : Nat) : Prop := ent ≤ t ∧ t ≤ ceF g ent dd lr k na na ∧ lfB g ent dd lr t k na na = false
def s_X1_protect : q_Sp := fun av σ post => match av with
  | [.ref ac, .ref w, .int t, .int k] => ∃ R AR aa g na ent dd lr, AcD σ R ac AR aa g na ∧ WkF σ w ent dd lr ∧ (prC g ent dd lr t k na → post (some (.int 1)) σ) ∧ (¬ prC g ent dd lr t k na → post (some (.int 0)) σ)
  | _ => False
theorem w9_285 : (.code yX1_endKnownAt cX1_endKnownAt 3 (some .int) : Cond) ∈ lw_tbl := by decide +kernel
theorem w9_286 : (.methodLink RX1 61 yX1_endKnownAt : Cond) ∈ lw_tbl := by decide +kernel
theorem w9_287 : (.instanceMethod yX1_endKnownAt : Cond) ∈ lw_tbl := by decide +kernel
theorem w9_288 : (.selects RX1 yX1_endKnownAt yX1_endKnownAt : Cond) ∈ lw_tbl := by decide +kernel
theorem w9_289 : (.code yX1_leaveFree cX1_leaveFree 6 (some .boolean) : Cond) ∈ lw_tbl := by decide +kernel
theorem w9_290 : (.methodLink RX1 64 yX1_leaveFree : Cond) ∈ lw_tbl := by decide +kernel
theorem w9_291 : (.instanceMethod yX1_leaveFree : Cond) ∈ lw_tbl := by decide +kernel
theorem w9_292 : (.selects RX1 yX1_leaveFree yX1_leaveFree : Cond) ∈ lw_tbl := by decide +kernel
def rm_X1_protect : Room := { frames := 5, cells := 0, slots := 0, locals := 116 }
def k_X1_protect_33 (post : Option Value → q_S → Prop) (K : Nat → q_K) : q_K := (c_zret post)
def k_X1_protect_32 (post : Option Value → q_S → Prop) (K : Nat → q_K) : q_K := (c_push 0 (k_X1_protect_33 post K))
def k_X1_protect_0 (post : Option Value → q_S → Prop) (K : Nat → q_K) : q_K := (c_aload 1 (c_get 9 1 (c_iload 2 (c_icgt (k_X1_protect_32 post K) (c_iload 2 (c_aload 0 (c_aload 1 (c_iload 3 (c_call3 (some 1) s_X1_endKnownAt 0 0 (c_icgt (k_X1_protect_32 post K) (c_aload 0 (c_aload 1 (c_iload 2 (c_iload 3 (c_call4 (some 1) s_X1_leaveFree 0 0 (c_ifne (k_X1_protect_32 post K) (c_push 1 (k_X1_protect_33 post K))))))))))))))))))
set_option maxRecDepth 100000 in
theorem v_X1_protect_33 {p : Program} {l : Launch} {e : Env} {s : State} {m : MethodId} {args : Array Value} {below : List Frame} {meth : Method} {c : Code} {D : va_G} {A : Nat → Prop} {post : Option Value → q_S → Prop} {K : Nat → q_K} (C : q_C p s m args meth c cX1_protect 4 RX1 "protect" (some .boolean) A) (hK : ∀ h ∈ ([] : List Nat), q_V p l e rm_X1_protect s m args below meth c D A 4 (MQ below (q_Qc D A post) args s rm_X1_protect.cells rm_X1_protect.slots A) h (K h)) : q_V p l e rm_X1_protect s m args below meth c D A 4 (MQ below (q_Qc D A post) args s rm_X1_protect.cells rm_X1_protect.slots A) 33 (k_X1_protect_33 post K) := by
  unfold k_X1_protect_33
  exact q_zret C rfl (by decide +kernel : decode cX1_protect 33 = .ok (.ireturn, 1))
set_option maxRecDepth 100000 in
theorem v_X1_protect_32 {p : Program} {l : Launch} {e : Env} {s : State} {m : MethodId} {args : Array Value} {below : List Frame} {meth : Method} {c : Code} {D : va_G} {A : Nat → Prop} {post : Option Value → q_S → Prop} {K : Nat → q_K} (C : q_C p s m args meth c cX1_protect 4 RX1 "protect" (some .boolean) A) (hK : ∀ h ∈ ([] : List Nat), q_V p l e rm_X1_protect s m args below meth c D A 4 (MQ below (q_Qc D A post) args s rm_X1_protect.cells rm_X1_protect.slots A) h (K h)) : q_V p l e rm_X1_protect s m args below meth c D A 4 (MQ below (q_Qc D A post) args s rm_X1_protect.cells rm_X1_protect.slots A) 32 (k_X1_protect_32 post K) := by
  unfold k_X1_protect_32
  refine q_iconst C (by decide +kernel : decode cX1_protect 32 = .ok (.iconst 0, 1)) (by decide) ?_
  exact v_X1_protect_33 C hK
set_option maxRecDepth 100000 in
theorem v_X1_protect_0 {p : Program} {l : Launch} {e : Env} {s : State} {m : MethodId} {args : Array Value} {below : List Frame} {meth : Method} {c : Code} {D : va_G} {A : Nat → Prop} {post : Option Value → q_S → Prop} {K : Nat → q_K} (C : q_C p s m args meth c cX1_protect 4 RX1 "protect" (some .boolean) A) (hK : ∀ h ∈ ([] : List Nat), q_V p l e rm_X1_protect s m args below meth c D A 4 (MQ below (q_Qc D A post) args s rm_X1_protect.cells rm_X1_protect.slots A) h (K h)) : q_V p l e rm_X1_protect s m args below meth c D A 4 (MQ below (q_Qc D A post) args s rm_X1_protect.cells rm_X1_protect.slots A) 0 (k_X1_protect_0 post K) := by
  unfold k_X1_protect_0
  refine q_aload_n C (by decide +kernel : decode cX1_protect 0 = .ok (.aload_n 1, 1)) ?_
  refine q_getN C (ci := 9) (j := 1) (C0 := RX9) (T := TX9) (N := 5) rfl iX9 giX9 (by decide) (by decide +kernel) (by decide +kernel : decode cX1_protect 1 = .ok (.getfield 38, 3)) ?_
  refine q_iload_n C (by decide +kernel : decode cX1_protect 4 = .ok (.iload_n 2, 1)) ?_
  refine q_icgt C (tgt := 32) (by decide +kernel : decode cX1_protect 5 = .ok (.if_icmp .gt 27, 3)) (by decide) ?_ ?_
  · exact v_X1_protect_32 C hK
  · refine q_iload_n C (by decide +kernel : decode cX1_protect 8 = .ok (.iload_n 2, 1)) ?_
    refine q_aload_n C (by decide +kernel : decode cX1_protect 9 = .ok (.aload_n 0, 1)) ?_
    refine q_aload_n C (by decide +kernel : decode cX1_protect 10 = .ok (.aload_n 1, 1)) ?_
    refine q_iload_n C (by decide +kernel : decode cX1_protect 11 = .ok (.iload_n 3, 1)) ?_
    refine q_call3 C (q_coV C (np := 2) (ci := 1) (rc := (RX1, TX1, 2)) (t_X1_endKnownAt l) w9_285 rfl rfl w9_286 w9_287 w9_288 w9_255 (by decide +kernel) (by decide +kernel : decode cX1_protect 12 = .ok (.invokevirtual 61, 3)) (by decide)) ?_
    refine q_icgt C (tgt := 32) (by decide +kernel : decode cX1_protect 15 = .ok (.if_icmp .gt 17, 3)) (by decide) ?_ ?_
    · exact v_X1_protect_32 C hK
    · refine q_aload_n C (by decide +kernel : decode cX1_protect 18 = .ok (.aload_n 0, 1)) ?_
      refine q_aload_n C (by decide +kernel : decode cX1_protect 19 = .ok (.aload_n 1, 1)) ?_
      refine q_iload_n C (by decide +kernel : decode cX1_protect 20 = .ok (.iload_n 2, 1)) ?_
      refine q_iload_n C (by decide +kernel : decode cX1_protect 21 = .ok (.iload_n 3, 1)) ?_
      refine q_call4 C (q_coV C (np := 3) (ci := 1) (rc := (RX1, TX1, 2)) (t_X1_leaveFree l) w9_289 rfl rfl w9_290 w9_291 w9_292 w9_255 (by decide +kernel) (by decide +kernel : decode cX1_protect 22 = .ok (.invokevirtual 64, 3)) (by decide)) ?_
      refine q_ifne C (tgt := 32) (by decide +kernel : decode cX1_protect 25 = .ok (.ifCond .ne 7, 3)) (by decide) ?_ ?_
      · exact v_X1_protect_32 C hK
      · refine q_iconst C (by decide +kernel : decode cX1_protect 28 = .ok (.iconst 1, 1)) (by decide) ?_
        refine q_goto C (tgt := 33) (by decide +kernel : decode cX1_protect 29 = .ok (.goto 4, 3)) (by decide) ?_
        exact v_X1_protect_33 C hK
theorem u_X1_protect (l : Launch) {sp : q_Sp} (H : ∀ (av : List Value) (σ : q_S) (post : Option Value → q_S → Prop), sp av σ post → k_X1_protect_0 post (fun _ _ _ _ _ _ => False) (q_L0 av 4) [] σ 0 0 ∧ av.length ≤ 4 ∧ ∀ v ∈ av, v.category = 1) : q_Ct l yX1_protect cX1_protect 4 (some .boolean) rm_X1_protect sp := by
  refine q_met (by decide) ?_
  intro D A p e s m args below meth c σ av post C hsp
  obtain ⟨h1, h2, h3⟩ := H av σ post hsp
  exact ⟨_, v_X1_protect_0 (K := fun _ _ _ _ _ _ => False) C (fun h hh => by cases hh), h1, h2, h3⟩
theorem t_X1_protect (l : Launch) : q_Ct l yX1_protect cX1_protect 4 (some .boolean) rm_X1_protect s_X1_protect := u_X1_protect l (by
  intro av σ post h
  unfold s_X1_protect at h
  split at h
  · next ac w t k =>
    refine ⟨?_, by simp, by simp [Value.category]⟩
    obtain ⟨R, AR, aa, g, na, ent, dd, lr, hA, hW, h7, h8⟩ := h
    have hA0 := hA
    have hW0 := hW
    obtain ⟨h1, h2, h3, hna⟩ := hA
    obtain ⟨p, x, y, z, hh, w1, w2⟩ := hW
    have o1 : q_oc σ ac = some 1 := by simp only [q_oc, h1.2]
    have fw : q_fld σ w 9 1 = some (.int ent) := by simp only [q_fld, w1, if_true]; rfl
    simp only [c_push, c_null, c_iload, c_aload, c_istore, c_astore, c_iinc, c_iadd, c_isub, c_imul, c_iand, c_ineg, c_dup, c_dup2, c_pop, c_ifnull, c_ifnonnull, c_get, c_put, c_iald, c_zald, c_iast, c_zast, c_aald, c_aast, c_alen, c_new, c_newa, c_newq, c_mna, c_oinit, c_max, c_copy, c_iret, c_zret, c_aret, c_vret, q_do, q_rc, c_ifeq, c_ifne, c_iflt, c_ifge, c_ifgt, c_ifle, c_iceq, c_icne, c_iclt, c_icge, c_icgt, c_icle, c_call0, c_call1, c_call2, c_call3, c_call4, c_call5, c_call6, c_call7, q_L0, List.map_cons, List.map_nil, List.replicate, List.cons_append, List.nil_append, List.append_nil, List.length_cons, List.length_nil, List.length_set, Nat.reduceSub, Nat.reduceAdd, Nat.reduceLT, Nat.reduceLeDiff, Nat.zero_add, Nat.add_zero, Nat.sub_zero, Nat.sub_self, List.getElem?_cons_zero, List.getElem?_cons_succ, List.set_cons_zero, List.set_cons_succ, Option.toList_some, Option.toList_none, List.sum_cons, List.sum_nil, true_and, and_true, true_or, or_true, Nat.le_refl, Nat.zero_le, Value.category, Fin.isValue, Fin.val_zero, Fin.val_one, Fin.val_two, Fin.reduceFinMk, q_10, q_01, not_false_eq_true, not_true_eq_false, forall_const, true_implies, false_implies, implies_true, q_ni, q_fi, q_nb0, q_nb1, q_fb0, q_fb1, q_nor, q_nar, q_for, q_far, q_non, q_nan, q_fon, q_fan, imp_false, false_and, and_false, and_self, false_or, or_false, va_rf, refKind, k_X1_protect_0, k_X1_protect_32, k_X1_protect_33, o1, fw]
    refine ⟨fun c => h8 (fun h => by have := h.1; grind), fun c => ?_⟩
    refine ⟨R, AR, aa, g, na, ent, dd, lr, hA0, hW0, ?_⟩
    simp only [c_push, c_null, c_iload, c_aload, c_istore, c_astore, c_iinc, c_iadd, c_isub, c_imul, c_iand, c_ineg, c_dup, c_dup2, c_pop, c_ifnull, c_ifnonnull, c_get, c_put, c_iald, c_zald, c_iast, c_zast, c_aald, c_aast, c_alen, c_new, c_newa, c_newq, c_mna, c_oinit, c_max, c_copy, c_iret, c_zret, c_aret, c_vret, q_do, q_rc, c_ifeq, c_ifne, c_iflt, c_ifge, c_ifgt, c_ifle, c_iceq, c_icne, c_iclt, c_icge, c_icgt, c_icle, c_call0, c_call1, c_call2, c_call3, c_call4, c_call5, c_call6, c_call7, q_L0, List.map_cons, List.map_nil, List.replicate, List.cons_append, List.nil_append, List.append_nil, List.length_cons, List.length_nil, List.length_set, Nat.reduceSub, Nat.reduceAdd, Nat.reduceLT, Nat.reduceLeDiff, Nat.zero_add, Nat.add_zero, Nat.sub_zero, Nat.sub_self, List.getElem?_cons_zero, List.getElem?_cons_succ, List.set_cons_zero, List.set_cons_succ, Option.toList_some, Option.toList_none, List.sum_cons, List.sum_nil, true_and, and_true, true_or, or_true, Nat.le_refl, Nat.zero_le, Value.category, Fin.isValue, Fin.val_zero, Fin.val_one, Fin.val_two, Fin.reduceFinMk, q_10, q_01, not_false_eq_true, not_true_eq_false, forall_const, true_implies, false_implies, implies_true, q_ni, q_fi, q_nb0, q_nb1, q_fb0, q_fb1, q_nor, q_nar, q_for, q_far, q_non, q_nan, q_fon, q_fan, imp_false, false_and, and_false, and_self, false_or, or_false, va_rf, refKind, o1]
    refine ⟨fun c2 => h8 (fun h => by have := h.2.1; grind), fun c2 => ?_⟩
    refine ⟨R, AR, aa, g, na, ent, dd, lr, hA0, hW0, fun c3 => ?_, fun c3 => ?_⟩
    · simp only [c_push, c_null, c_iload, c_aload, c_istore, c_astore, c_iinc, c_iadd, c_isub, c_imul, c_iand, c_ineg, c_dup, c_dup2, c_pop, c_ifnull, c_ifnonnull, c_get, c_put, c_iald, c_zald, c_iast, c_zast, c_aald, c_aast, c_alen, c_new, c_newa, c_newq, c_mna, c_oinit, c_max, c_copy, c_iret, c_zret, c_aret, c_vret, q_do, q_rc, c_ifeq, c_ifne, c_iflt, c_ifge, c_ifgt, c_ifle, c_iceq, c_icne, c_iclt, c_icge, c_icgt, c_icle, c_call0, c_call1, c_call2, c_call3, c_call4, c_call5, c_call6, c_call7, q_L0, List.map_cons, List.map_nil, List.replicate, List.cons_append, List.nil_append, List.append_nil, List.length_cons, List.length_nil, List.length_set, Nat.reduceSub, Nat.reduceAdd, Nat.reduceLT, Nat.reduceLeDiff, Nat.zero_add, Nat.add_zero, Nat.sub_zero, Nat.sub_self, List.getElem?_cons_zero, List.getElem?_cons_succ, List.set_cons_zero, List.set_cons_succ, Option.toList_some, Option.toList_none, List.sum_cons, List.sum_nil, true_and, and_true, true_or, or_true, Nat.le_refl, Nat.zero_le, Value.category, Fin.isValue, Fin.val_zero, Fin.val_one, Fin.val_two, Fin.reduceFinMk, q_10, q_01, not_false_eq_true, not_true_eq_false, forall_const, true_implies, false_implies, implies_true, q_ni, q_fi, q_nb0, q_nb1, q_fb0, q_fb1, q_nor, q_nar, q_for, q_far, q_non, q_nan, q_fon, q_fan, imp_false, false_and, and_false, and_self, false_or, or_false, va_rf, refKind]
      exact h8 (fun h => by have := h.2.2; rw [c3] at this; cases this)
    · simp only [c_push, c_null, c_iload, c_aload, c_istore, c_astore, c_iinc, c_iadd, c_isub, c_imul, c_iand, c_ineg, c_dup, c_dup2, c_pop, c_ifnull, c_ifnonnull, c_get, c_put, c_iald, c_zald, c_iast, c_zast, c_aald, c_aast, c_alen, c_new, c_newa, c_newq, c_mna, c_oinit, c_max, c_copy, c_iret, c_zret, c_aret, c_vret, q_do, q_rc, c_ifeq, c_ifne, c_iflt, c_ifge, c_ifgt, c_ifle, c_iceq, c_icne, c_iclt, c_icge, c_icgt, c_icle, c_call0, c_call1, c_call2, c_call3, c_call4, c_call5, c_call6, c_call7, q_L0, List.map_cons, List.map_nil, List.replicate, List.cons_append, List.nil_append, List.append_nil, List.length_cons, List.length_nil, List.length_set, Nat.reduceSub, Nat.reduceAdd, Nat.reduceLT, Nat.reduceLeDiff, Nat.zero_add, Nat.add_zero, Nat.sub_zero, Nat.sub_self, List.getElem?_cons_zero, List.getElem?_cons_succ, List.set_cons_zero, List.set_cons_succ, Option.toList_some, Option.toList_none, List.sum_cons, List.sum_nil, true_and, and_true, true_or, or_true, Nat.le_refl, Nat.zero_le, Value.category, Fin.isValue, Fin.val_zero, Fin.val_one, Fin.val_two, Fin.reduceFinMk, q_10, q_01, not_false_eq_true, not_true_eq_false, forall_const, true_implies, false_implies, implies_true, q_ni, q_fi, q_nb0, q_nb1, q_fb0, q_fb1, q_nor, q_nar, q_for, q_far, q_non, q_nan, q_fon, q_fan, imp_false, false_and, and_false, and_self, false_or, or_false, va_rf, refKind]
      exact h7 ⟨by grind, by grind, c3⟩
  · exact h.elim)
def s_X1_init : q_Sp := fun av σ post => match av with
  | [.ref a] => σ a = some (.inr (1, [.null, .int 0])) ∧ ∀ q, σ q = none → post none (q_up (q_up σ q (refsE "CopyRegister$Act" 6 0 (fun _ => 0))) a (.inr (1, [.ref q, .int 0])))
  | _ => False
theorem w9_293 : (.methodLink RX1 3 objectInit : Cond) ∈ lw_tbl := by decide +kernel
theorem w9_294 : (.classLink RX1 9 RX0 : Cond) ∈ lw_tbl := by decide +kernel
def rm_X1_init : Room := { frames := 1, cells := 1, slots := 6, locals := 20 }
def k_X1_init_0 (post : Option Value → q_S → Prop) (K : Nat → q_K) : q_K := (c_aload 0 (c_oinit (c_aload 0 (c_push 6 (c_newq (.object RX0) (c_put 1 0 (.array (.object "CopyRegister$Act")) (c_aload 0 (c_push 0 (c_put 1 1 (.int) (c_vret post))))))))))
set_option maxRecDepth 100000 in
theorem v_X1_init_0 {p : Program} {l : Launch} {e : Env} {s : State} {m : MethodId} {args : Array Value} {below : List Frame} {meth : Method} {c : Code} {D : va_G} {A : Nat → Prop} {post : Option Value → q_S → Prop} {K : Nat → q_K} (C : q_C p s m args meth c cX1_init 1 RX1 "<init>" none A) (hK : ∀ h ∈ ([] : List Nat), q_V p l e rm_X1_init s m args below meth c D A 1 (MQ below (q_Qc D A post) args s rm_X1_init.cells rm_X1_init.slots A) h (K h)) : q_V p l e rm_X1_init s m args below meth c D A 1 (MQ below (q_Qc D A post) args s rm_X1_init.cells rm_X1_init.slots A) 0 (k_X1_init_0 post K) := by
  unfold k_X1_init_0
  refine q_aload_n C (by decide +kernel : decode cX1_init 0 = .ok (.aload_n 0, 1)) ?_
  refine q_oinit C w9_293 w9_112 w9_113 (by decide) (by decide +kernel : decode cX1_init 1 = .ok (.invokespecial 3, 3)) ?_
  refine q_aload_n C (by decide +kernel : decode cX1_init 4 = .ok (.aload_n 0, 1)) ?_
  refine q_bipush C (by decide +kernel : decode cX1_init 5 = .ok (.bipush 6, 2)) (by decide) ?_
  refine q_newq C w9_294 (by decide) (by decide +kernel : decode cX1_init 7 = .ok (.anewarray 9, 3)) ?_
  refine q_putF C (ci := 1) (j := 0) (C0 := RX1) (T := TX1) (N := 2) (ty := .array (.object "CopyRegister$Act")) rfl iX1 giX1 (by decide) tyX1 tyX1_ok nmX1 (by decide +kernel) rfl rfl rfl w9_253 (by decide +kernel : decode cX1_init 10 = .ok (.putfield 11, 3)) ?_
  refine q_aload_n C (by decide +kernel : decode cX1_init 13 = .ok (.aload_n 0, 1)) ?_
  refine q_iconst C (by decide +kernel : decode cX1_init 14 = .ok (.iconst 0, 1)) (by decide) ?_
  refine q_put C (ci := 1) (j := 1) (C0 := RX1) (T := TX1) (N := 2) (ty := .int) rfl iX1 giX1 (by decide) tyX1 tyX1_ok nmX1 (by decide +kernel) rfl w9_252 (by decide +kernel : decode cX1_init 15 = .ok (.putfield 17, 3)) ?_
  exact q_vret C rfl (by decide +kernel : decode cX1_init 18 = .ok (.return_, 1))
theorem u_X1_init (l : Launch) {sp : q_Sp} (H : ∀ (av : List Value) (σ : q_S) (post : Option Value → q_S → Prop), sp av σ post → k_X1_init_0 post (fun _ _ _ _ _ _ => False) (q_L0 av 1) [] σ 1 6 ∧ av.length ≤ 1 ∧ ∀ v ∈ av, v.category = 1) : q_Ct l yX1_init cX1_init 1 none rm_X1_init sp := by
  refine q_met (by decide) ?_
  intro D A p e s m args below meth c σ av post C hsp
  obtain ⟨h1, h2, h3⟩ := H av σ post hsp
  exact ⟨_, v_X1_init_0 (K := fun _ _ _ _ _ _ => False) C (fun h hh => by cases hh), h1, h2, h3⟩
theorem t_X1_init (l : Launch) : q_Ct l yX1_init cX1_init 1 none rm_X1_init s_X1_init := u_X1_init l (by
  intro av σ post h
  unfold s_X1_init at h
  split at h
  · next a =>
    refine ⟨?_, by simp, by simp [Value.category]⟩
    have e9 : (6 : Int32).toNatClampNeg = 6 := rfl
    simp only [c_push, c_null, c_iload, c_aload, c_istore, c_astore, c_iinc, c_iadd, c_isub, c_imul, c_iand, c_ineg, c_dup, c_dup2, c_pop, c_ifnull, c_ifnonnull, c_get, c_put, c_iald, c_zald, c_iast, c_zast, c_aald, c_aast, c_alen, c_new, c_newa, c_newq, c_mna, c_oinit, c_max, c_copy, c_iret, c_zret, c_aret, c_vret, q_do, q_rc, c_ifeq, c_ifne, c_iflt, c_ifge, c_ifgt, c_ifle, c_iceq, c_icne, c_iclt, c_icge, c_icgt, c_icle, c_call0, c_call1, c_call2, c_call3, c_call4, c_call5, c_call6, c_call7, q_L0, List.map_cons, List.map_nil, List.replicate, List.cons_append, List.nil_append, List.append_nil, List.length_cons, List.length_nil, List.length_set, Nat.reduceSub, Nat.reduceAdd, Nat.reduceLT, Nat.reduceLeDiff, Nat.zero_add, Nat.add_zero, Nat.sub_zero, Nat.sub_self, List.getElem?_cons_zero, List.getElem?_cons_succ, List.set_cons_zero, List.set_cons_succ, Option.toList_some, Option.toList_none, List.sum_cons, List.sum_nil, true_and, and_true, true_or, or_true, Nat.le_refl, Nat.zero_le, Value.category, Fin.isValue, Fin.val_zero, Fin.val_one, Fin.val_two, Fin.reduceFinMk, q_10, q_01, not_false_eq_true, not_true_eq_false, forall_const, true_implies, false_implies, implies_true, q_ni, q_fi, q_nb0, q_nb1, q_fb0, q_fb1, q_nor, q_nar, q_for, q_far, q_non, q_nan, q_fon, q_fan, imp_false, false_and, and_false, and_self, false_or, or_false, va_rf, refKind, k_X1_init_0, q_fld, q_fset, q_oc, q_ai, q_aq, q_len, q_up_s, q_up_up, if_true, h.1, e9]
    refine ⟨by decide, fun q hq => ?_⟩
    have hne : a ≠ q := fun e => by rw [← e, h.1] at hq; cases hq
    simp only [c_push, c_null, c_iload, c_aload, c_istore, c_astore, c_iinc, c_iadd, c_isub, c_imul, c_iand, c_ineg, c_dup, c_dup2, c_pop, c_ifnull, c_ifnonnull, c_get, c_put, c_iald, c_zald, c_iast, c_zast, c_aald, c_aast, c_alen, c_new, c_newa, c_newq, c_mna, c_oinit, c_max, c_copy, c_iret, c_zret, c_aret, c_vret, q_do, q_rc, c_ifeq, c_ifne, c_iflt, c_ifge, c_ifgt, c_ifle, c_iceq, c_icne, c_iclt, c_icge, c_icgt, c_icle, c_call0, c_call1, c_call2, c_call3, c_call4, c_call5, c_call6, c_call7, q_L0, List.map_cons, List.map_nil, List.replicate, List.cons_append, List.nil_append, List.append_nil, List.length_cons, List.length_nil, List.length_set, Nat.reduceSub, Nat.reduceAdd, Nat.reduceLT, Nat.reduceLeDiff, Nat.zero_add, Nat.add_zero, Nat.sub_zero, Nat.sub_self, List.getElem?_cons_zero, List.getElem?_cons_succ, List.set_cons_zero, List.set_cons_succ, Option.toList_some, Option.toList_none, List.sum_cons, List.sum_nil, true_and, and_true, true_or, or_true, Nat.le_refl, Nat.zero_le, Value.category, Fin.isValue, Fin.val_zero, Fin.val_one, Fin.val_two, Fin.reduceFinMk, q_10, q_01, not_false_eq_true, not_true_eq_false, forall_const, true_implies, false_implies, implies_true, q_ni, q_fi, q_nb0, q_nb1, q_fb0, q_fb1, q_nor, q_nar, q_for, q_far, q_non, q_nan, q_fon, q_fan, imp_false, false_and, and_false, and_self, false_or, or_false, va_rf, refKind, q_fld, q_fset, q_oc, q_ai, q_aq, q_len, q_up_s, q_up_up, if_true, q_up_n hne, h.1]
    exact h.2 q hq
  · exact h.elim)
