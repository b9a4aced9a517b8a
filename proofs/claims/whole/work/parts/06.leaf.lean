-- small functions over ints
theorem q_10 : ((1 : Int32) = 0) = False := by decide
theorem q_01 : ((0 : Int32) = 1) = False := by decide
theorem q_ni (x : Int32) : (narrow .int (.int x) = .int x) = True := eq_true rfl
theorem q_fi (x : Int32) : (fits .int (.int x) = true) = True := eq_true rfl
theorem q_nb0 : (narrow .boolean (.int 0) = .int 0) = True := eq_true rfl
theorem q_nb1 : (narrow .boolean (.int 1) = .int 1) = True := eq_true rfl
theorem q_fb0 : (fits .boolean (.int 0) = true) = True := eq_true rfl
theorem q_fb1 : (fits .boolean (.int 1) = true) = True := eq_true rfl
theorem q_nor (C : String) (a : Nat) : (narrow (.object C) (.ref a) = .ref a) = True := eq_true rfl
theorem q_nar (t : FieldType) (a : Nat) : (narrow (.array t) (.ref a) = .ref a) = True := eq_true rfl
theorem q_for (C : String) (a : Nat) : (fits (.object C) (.ref a) = true) = True := eq_true rfl
theorem q_far (t : FieldType) (a : Nat) : (fits (.array t) (.ref a) = true) = True := eq_true rfl
theorem q_non (C : String) : (narrow (.object C) .null = .null) = True := eq_true rfl
theorem q_nan (t : FieldType) : (narrow (.array t) .null = .null) = True := eq_true rfl
theorem q_fon (C : String) : (fits (.object C) .null = true) = True := eq_true rfl
theorem q_fan (t : FieldType) : (fits (.array t) .null = true) = True := eq_true rfl
def s_X10_isWithin : q_Sp := fun av σ post => match av with
  | [.int x, .int a, .int b] => (a ≤ x ∧ x ≤ b → post (some (.int 1)) σ) ∧ (¬ (a ≤ x ∧ x ≤ b) → post (some (.int 0)) σ)
  | _ => False
def rm_X10_isWithin : Room := { frames := 0, cells := 0, slots := 0, locals := 0 }
def k_X10_isWithin_15 (post : Option Value → q_S → Prop) (K : Nat → q_K) : q_K := (c_zret post)
def k_X10_isWithin_14 (post : Option Value → q_S → Prop) (K : Nat → q_K) : q_K := (c_push 0 (k_X10_isWithin_15 post K))
def k_X10_isWithin_0 (post : Option Value → q_S → Prop) (K : Nat → q_K) : q_K := (c_iload 0 (c_iload 1 (c_iclt (k_X10_isWithin_14 post K) (c_iload 0 (c_iload 2 (c_icgt (k_X10_isWithin_14 post K) (c_push 1 (k_X10_isWithin_15 post K))))))))
set_option maxRecDepth 100000 in
theorem v_X10_isWithin_15 {p : Program} {l : Launch} {e : Env} {s : State} {m : MethodId} {args : Array Value} {below : List Frame} {meth : Method} {c : Code} {D : va_G} {A : Nat → Prop} {post : Option Value → q_S → Prop} {K : Nat → q_K} (C : q_C p s m args meth c cX10_isWithin 3 RX10 "isWithin" (some .boolean) A) (hK : ∀ h ∈ ([] : List Nat), q_V p l e rm_X10_isWithin s m args below meth c D A 3 (MQ below (q_Qc D A post) args s rm_X10_isWithin.cells rm_X10_isWithin.slots A) h (K h)) : q_V p l e rm_X10_isWithin s m args below meth c D A 3 (MQ below (q_Qc D A post) args s rm_X10_isWithin.cells rm_X10_isWithin.slots A) 15 (k_X10_isWithin_15 post K) := by
  unfold k_X10_isWithin_15
  exact q_zret C rfl (by decide +kernel : decode cX10_isWithin 15 = .ok (.ireturn, 1))
set_option maxRecDepth 100000 in
theorem v_X10_isWithin_14 {p : Program} {l : Launch} {e : Env} {s : State} {m : MethodId} {args : Array Value} {below : List Frame} {meth : Method} {c : Code} {D : va_G} {A : Nat → Prop} {post : Option Value → q_S → Prop} {K : Nat → q_K} (C : q_C p s m args meth c cX10_isWithin 3 RX10 "isWithin" (some .boolean) A) (hK : ∀ h ∈ ([] : List Nat), q_V p l e rm_X10_isWithin s m args below meth c D A 3 (MQ below (q_Qc D A post) args s rm_X10_isWithin.cells rm_X10_isWithin.slots A) h (K h)) : q_V p l e rm_X10_isWithin s m args below meth c D A 3 (MQ below (q_Qc D A post) args s rm_X10_isWithin.cells rm_X10_isWithin.slots A) 14 (k_X10_isWithin_14 post K) := by
  unfold k_X10_isWithin_14
  refine q_iconst C (by decide +kernel : decode cX10_isWithin 14 = .ok (.iconst 0, 1)) (by decide) ?_
  exact v_X10_isWithin_15 C hK
set_option maxRecDepth 100000 in
theorem v_X10_isWithin_0 {p : Program} {l : Launch} {e : Env} {s : State} {m : MethodId} {args : Array Value} {below : List Frame} {meth : Method} {c : Code} {D : va_G} {A : Nat → Prop} {post : Option Value → q_S → Prop} {K : Nat → q_K} (C : q_C p s m args meth c cX10_isWithin 3 RX10 "isWithin" (some .boolean) A) (hK : ∀ h ∈ ([] : List Nat), q_V p l e rm_X10_isWithin s m args below meth c D A 3 (MQ below (q_Qc D A post) args s rm_X10_isWithin.cells rm_X10_isWithin.slots A) h (K h)) : q_V p l e rm_X10_isWithin s m args below meth c D A 3 (MQ below (q_Qc D A post) args s rm_X10_isWithin.cells rm_X10_isWithin.slots A) 0 (k_X10_isWithin_0 post K) := by
  unfold k_X10_isWithin_0
  refine q_iload_n C (by decide +kernel : decode cX10_isWithin 0 = .ok (.iload_n 0, 1)) ?_
  refine q_iload_n C (by decide +kernel : decode cX10_isWithin 1 = .ok (.iload_n 1, 1)) ?_
  refine q_iclt C (tgt := 14) (by decide +kernel : decode cX10_isWithin 2 = .ok (.if_icmp .lt 12, 3)) (by decide) ?_ ?_
  · exact v_X10_isWithin_14 C hK
  · refine q_iload_n C (by decide +kernel : decode cX10_isWithin 5 = .ok (.iload_n 0, 1)) ?_
    refine q_iload_n C (by decide +kernel : decode cX10_isWithin 6 = .ok (.iload_n 2, 1)) ?_
    refine q_icgt C (tgt := 14) (by decide +kernel : decode cX10_isWithin 7 = .ok (.if_icmp .gt 7, 3)) (by decide) ?_ ?_
    · exact v_X10_isWithin_14 C hK
    · refine q_iconst C (by decide +kernel : decode cX10_isWithin 10 = .ok (.iconst 1, 1)) (by decide) ?_
      refine q_goto C (tgt := 15) (by decide +kernel : decode cX10_isWithin 11 = .ok (.goto 4, 3)) (by decide) ?_
      exact v_X10_isWithin_15 C hK
theorem u_X10_isWithin (l : Launch) {sp : q_Sp} (H : ∀ (av : List Value) (σ : q_S) (post : Option Value → q_S → Prop), sp av σ post → k_X10_isWithin_0 post (fun _ _ _ _ _ _ => False) (q_L0 av 3) [] σ 0 0 ∧ av.length ≤ 3 ∧ ∀ v ∈ av, v.category = 1) : q_Ct l yX10_isWithin cX10_isWithin 3 (some .boolean) rm_X10_isWithin sp := by
  refine q_met (by decide) ?_
  intro D A p e s m args below meth c σ av post C hsp
  obtain ⟨h1, h2, h3⟩ := H av σ post hsp
  exact ⟨_, v_X10_isWithin_0 (K := fun _ _ _ _ _ _ => False) C (fun h hh => by cases hh), h1, h2, h3⟩
theorem t_X10_isWithin (l : Launch) : q_Ct l yX10_isWithin cX10_isWithin 3 (some .boolean) rm_X10_isWithin s_X10_isWithin := u_X10_isWithin l (by
  intro av σ post h
  unfold s_X10_isWithin at h
  split at h
  · refine ⟨?_, by simp, by simp [Value.category]⟩
    simp only [c_push, c_null, c_iload, c_aload, c_istore, c_astore, c_iinc, c_iadd, c_isub, c_imul, c_iand, c_ineg, c_dup, c_dup2, c_pop, c_ifnull, c_ifnonnull, c_get, c_put, c_iald, c_zald, c_iast, c_zast, c_aald, c_aast, c_alen, c_new, c_newa, c_newq, c_mna, c_oinit, c_max, c_copy, c_iret, c_zret, c_aret, c_vret, q_do, q_rc, c_ifeq, c_ifne, c_iflt, c_ifge, c_ifgt, c_ifle, c_iceq, c_icne, c_iclt, c_icge, c_icgt, c_icle, c_call0, c_call1, c_call2, c_call3, c_call4, c_call5, c_call6, c_call7, q_L0, List.map_cons, List.map_nil, List.replicate, List.cons_append, List.nil_append, List.append_nil, List.length_cons, List.length_nil, List.length_set, Nat.reduceSub, Nat.reduceAdd, Nat.reduceLT, Nat.reduceLeDiff, Nat.zero_add, Nat.add_zero, Nat.sub_zero, Nat.sub_self, List.getElem?_cons_zero, List.getElem?_cons_succ, List.set_cons_zero, List.set_cons_succ, Option.toList_some, Option.toList_none, List.sum_cons, List.sum_nil, true_and, and_true, true_or, or_true, Nat.le_refl, Nat.zero_le, Value.category, Fin.isValue, Fin.val_zero, Fin.val_one, Fin.val_two, Fin.reduceFinMk, q_10, q_01, not_false_eq_true, not_true_eq_false, forall_const, true_implies, false_implies, implies_true, q_ni, q_fi, q_nb0, q_nb1, q_fb0, q_fb1, q_nor, q_nar, q_for, q_far, q_non, q_nan, q_fon, q_fan, imp_false, false_and, and_false, and_self, false_or, or_false, va_rf, refKind, k_X10_isWithin_0, k_X10_isWithin_14, k_X10_isWithin_15]
    grind
  · exact h.elim)
def s_X11_in : q_Sp := s_X10_isWithin
def rm_X11_in : Room := { frames := 0, cells := 0, slots := 0, locals := 0 }
def k_X11_in_15 (post : Option Value → q_S → Prop) (K : Nat → q_K) : q_K := (c_zret post)
def k_X11_in_14 (post : Option Value → q_S → Prop) (K : Nat → q_K) : q_K := (c_push 0 (k_X11_in_15 post K))
def k_X11_in_0 (post : Option Value → q_S → Prop) (K : Nat → q_K) : q_K := (c_iload 0 (c_iload 1 (c_iclt (k_X11_in_14 post K) (c_iload 0 (c_iload 2 (c_icgt (k_X11_in_14 post K) (c_push 1 (k_X11_in_15 post K))))))))
set_option maxRecDepth 100000 in
theorem v_X11_in_15 {p : Program} {l : Launch} {e : Env} {s : State} {m : MethodId} {args : Array Value} {below : List Frame} {meth : Method} {c : Code} {D : va_G} {A : Nat → Prop} {post : Option Value → q_S → Prop} {K : Nat → q_K} (C : q_C p s m args meth c cX11_in 3 RX11 "in" (some .boolean) A) (hK : ∀ h ∈ ([] : List Nat), q_V p l e rm_X11_in s m args below meth c D A 3 (MQ below (q_Qc D A post) args s rm_X11_in.cells rm_X11_in.slots A) h (K h)) : q_V p l e rm_X11_in s m args below meth c D A 3 (MQ below (q_Qc D A post) args s rm_X11_in.cells rm_X11_in.slots A) 15 (k_X11_in_15 post K) := by
  unfold k_X11_in_15
  exact q_zret C rfl (by decide +kernel : decode cX11_in 15 = .ok (.ireturn, 1))
set_option maxRecDepth 100000 in
theorem v_X11_in_14 {p : Program} {l : Launch} {e : Env} {s : State} {m : MethodId} {args : Array Value} {below : List Frame} {meth : Method} {c : Code} {D : va_G} {A : Nat → Prop} {post : Option Value → q_S → Prop} {K : Nat → q_K} (C : q_C p s m args meth c cX11_in 3 RX11 "in" (some .boolean) A) (hK : ∀ h ∈ ([] : List Nat), q_V p l e rm_X11_in s m args below meth c D A 3 (MQ below (q_Qc D A post) args s rm_X11_in.cells rm_X11_in.slots A) h (K h)) : q_V p l e rm_X11_in s m args below meth c D A 3 (MQ below (q_Qc D A post) args s rm_X11_in.cells rm_X11_in.slots A) 14 (k_X11_in_14 post K) := by
  unfold k_X11_in_14
  refine q_iconst C (by decide +kernel : decode cX11_in 14 = .ok (.iconst 0, 1)) (by decide) ?_
  exact v_X11_in_15 C hK
set_option maxRecDepth 100000 in
theorem v_X11_in_0 {p : Program} {l : Launch} {e : Env} {s : State} {m : MethodId} {args : Array Value} {below : List Frame} {meth : Method} {c : Code} {D : va_G} {A : Nat → Prop} {post : Option Value → q_S → Prop} {K : Nat → q_K} (C : q_C p s m args meth c cX11_in 3 RX11 "in" (some .boolean) A) (hK : ∀ h ∈ ([] : List Nat), q_V p l e rm_X11_in s m args below meth c D A 3 (MQ below (q_Qc D A post) args s rm_X11_in.cells rm_X11_in.slots A) h (K h)) : q_V p l e rm_X11_in s m args below meth c D A 3 (MQ below (q_Qc D A post) args s rm_X11_in.cells rm_X11_in.slots A) 0 (k_X11_in_0 post K) := by
  unfold k_X11_in_0
  refine q_iload_n C (by decide +kernel : decode cX11_in 0 = .ok (.iload_n 0, 1)) ?_
  refine q_iload_n C (by decide +kernel : decode cX11_in 1 = .ok (.iload_n 1, 1)) ?_
  refine q_iclt C (tgt := 14) (by decide +kernel : decode cX11_in 2 = .ok (.if_icmp .lt 12, 3)) (by decide) ?_ ?_
  · exact v_X11_in_14 C hK
  · refine q_iload_n C (by decide +kernel : decode cX11_in 5 = .ok (.iload_n 0, 1)) ?_
    refine q_iload_n C (by decide +kernel : decode cX11_in 6 = .ok (.iload_n 2, 1)) ?_
    refine q_icgt C (tgt := 14) (by decide +kernel : decode cX11_in 7 = .ok (.if_icmp .gt 7, 3)) (by decide) ?_ ?_
    · exact v_X11_in_14 C hK
    · refine q_iconst C (by decide +kernel : decode cX11_in 10 = .ok (.iconst 1, 1)) (by decide) ?_
      refine q_goto C (tgt := 15) (by decide +kernel : decode cX11_in 11 = .ok (.goto 4, 3)) (by decide) ?_
      exact v_X11_in_15 C hK
theorem u_X11_in (l : Launch) {sp : q_Sp} (H : ∀ (av : List Value) (σ : q_S) (post : Option Value → q_S → Prop), sp av σ post → k_X11_in_0 post (fun _ _ _ _ _ _ => False) (q_L0 av 3) [] σ 0 0 ∧ av.length ≤ 3 ∧ ∀ v ∈ av, v.category = 1) : q_Ct l yX11_in cX11_in 3 (some .boolean) rm_X11_in sp := by
  refine q_met (by decide) ?_
  intro D A p e s m args below meth c σ av post C hsp
  obtain ⟨h1, h2, h3⟩ := H av σ post hsp
  exact ⟨_, v_X11_in_0 (K := fun _ _ _ _ _ _ => False) C (fun h hh => by cases hh), h1, h2, h3⟩
theorem t_X11_in (l : Launch) : q_Ct l yX11_in cX11_in 3 (some .boolean) rm_X11_in s_X11_in := u_X11_in l (by
  intro av σ post h
  unfold s_X11_in s_X10_isWithin at h
  split at h
  · refine ⟨?_, by simp, by simp [Value.category]⟩
    simp only [c_push, c_null, c_iload, c_aload, c_istore, c_astore, c_iinc, c_iadd, c_isub, c_imul, c_iand, c_ineg, c_dup, c_dup2, c_pop, c_ifnull, c_ifnonnull, c_get, c_put, c_iald, c_zald, c_iast, c_zast, c_aald, c_aast, c_alen, c_new, c_newa, c_newq, c_mna, c_oinit, c_max, c_copy, c_iret, c_zret, c_aret, c_vret, q_do, q_rc, c_ifeq, c_ifne, c_iflt, c_ifge, c_ifgt, c_ifle, c_iceq, c_icne, c_iclt, c_icge, c_icgt, c_icle, c_call0, c_call1, c_call2, c_call3, c_call4, c_call5, c_call6, c_call7, q_L0, List.map_cons, List.map_nil, List.replicate, List.cons_append, List.nil_append, List.append_nil, List.length_cons, List.length_nil, List.length_set, Nat.reduceSub, Nat.reduceAdd, Nat.reduceLT, Nat.reduceLeDiff, Nat.zero_add, Nat.add_zero, Nat.sub_zero, Nat.sub_self, List.getElem?_cons_zero, List.getElem?_cons_succ, List.set_cons_zero, List.set_cons_succ, Option.toList_some, Option.toList_none, List.sum_cons, List.sum_nil, true_and, and_true, true_or, or_true, Nat.le_refl, Nat.zero_le, Value.category, Fin.isValue, Fin.val_zero, Fin.val_one, Fin.val_two, Fin.reduceFinMk, q_10, q_01, not_false_eq_true, not_true_eq_false, forall_const, true_implies, false_implies, implies_true, q_ni, q_fi, q_nb0, q_nb1, q_fb0, q_fb1, q_nor, q_nar, q_for, q_far, q_non, q_nan, q_fon, q_fan, imp_false, false_and, and_false, and_self, false_or, or_false, va_rf, refKind, k_X11_in_0, k_X11_in_14, k_X11_in_15]
    grind
  · exact h.elim)
def s_X10_isDay : q_Sp := fun av σ post => match av with
  | [.int x] => (0 ≤ x ∧ x ≤ 3000 → post (some (.int 1)) σ) ∧ (¬ (0 ≤ x ∧ x ≤ 3000) → post (some (.int 0)) σ)
  | _ => False
theorem w9_0 : (.code yX10_isWithin cX10_isWithin 3 (some .boolean) : Cond) ∈ lw_tbl := by decide +kernel
theorem w9_1 : (.initialized RX10 : Cond) ∈ lw_tbl := by decide +kernel
theorem w9_2 : (.static yX10_isWithin : Cond) ∈ lw_tbl := by decide +kernel
theorem w9_3 : (.methodLink RX10 63 yX10_isWithin : Cond) ∈ lw_tbl := by decide +kernel
def rm_X10_isDay : Room := { frames := 1, cells := 0, slots := 0, locals := 22 }
def k_X10_isDay_0 (post : Option Value → q_S → Prop) (K : Nat → q_K) : q_K := (c_iload 0 (c_push 0 (c_push 3000 (c_call3 none s_X10_isWithin 0 0 (c_zret post)))))
set_option maxRecDepth 100000 in
theorem v_X10_isDay_0 {p : Program} {l : Launch} {e : Env} {s : State} {m : MethodId} {args : Array Value} {below : List Frame} {meth : Method} {c : Code} {D : va_G} {A : Nat → Prop} {post : Option Value → q_S → Prop} {K : Nat → q_K} (C : q_C p s m args meth c cX10_isDay 1 RX10 "isDay" (some .boolean) A) (hK : ∀ h ∈ ([] : List Nat), q_V p l e rm_X10_isDay s m args below meth c D A 1 (MQ below (q_Qc D A post) args s rm_X10_isDay.cells rm_X10_isDay.slots A) h (K h)) : q_V p l e rm_X10_isDay s m args below meth c D A 1 (MQ below (q_Qc D A post) args s rm_X10_isDay.cells rm_X10_isDay.slots A) 0 (k_X10_isDay_0 post K) := by
  unfold k_X10_isDay_0
  refine q_iload_n C (by decide +kernel : decode cX10_isDay 0 = .ok (.iload_n 0, 1)) ?_
  refine q_iconst C (by decide +kernel : decode cX10_isDay 1 = .ok (.iconst 0, 1)) (by decide) ?_
  refine q_sipush C (by decide +kernel : decode cX10_isDay 2 = .ok (.sipush 3000, 3)) (by decide) ?_
  refine q_call3 C (q_coS C (np := 3) (t_X10_isWithin l) w9_0 w9_3 w9_2 w9_1 (by decide +kernel) (by decide +kernel : decode cX10_isDay 5 = .ok (.invokestatic 63, 3)) (by decide)) ?_
  exact q_zret C rfl (by decide +kernel : decode cX10_isDay 8 = .ok (.ireturn, 1))
theorem u_X10_isDay (l : Launch) {sp : q_Sp} (H : ∀ (av : List Value) (σ : q_S) (post : Option Value → q_S → Prop), sp av σ post → k_X10_isDay_0 post (fun _ _ _ _ _ _ => False) (q_L0 av 1) [] σ 0 0 ∧ av.length ≤ 1 ∧ ∀ v ∈ av, v.category = 1) : q_Ct l yX10_isDay cX10_isDay 1 (some .boolean) rm_X10_isDay sp := by
  refine q_met (by decide) ?_
  intro D A p e s m args below meth c σ av post C hsp
  obtain ⟨h1, h2, h3⟩ := H av σ post hsp
  exact ⟨_, v_X10_isDay_0 (K := fun _ _ _ _ _ _ => False) C (fun h hh => by cases hh), h1, h2, h3⟩
theorem t_X10_isDay (l : Launch) : q_Ct l yX10_isDay cX10_isDay 1 (some .boolean) rm_X10_isDay s_X10_isDay := u_X10_isDay l (by
  intro av σ post h
  unfold s_X10_isDay at h
  split at h
  · refine ⟨?_, by simp, by simp [Value.category]⟩
    simp only [c_push, c_null, c_iload, c_aload, c_istore, c_astore, c_iinc, c_iadd, c_isub, c_imul, c_iand, c_ineg, c_dup, c_dup2, c_pop, c_ifnull, c_ifnonnull, c_get, c_put, c_iald, c_zald, c_iast, c_zast, c_aald, c_aast, c_alen, c_new, c_newa, c_newq, c_mna, c_oinit, c_max, c_copy, c_iret, c_zret, c_aret, c_vret, q_do, q_rc, c_ifeq, c_ifne, c_iflt, c_ifge, c_ifgt, c_ifle, c_iceq, c_icne, c_iclt, c_icge, c_icgt, c_icle, c_call0, c_call1, c_call2, c_call3, c_call4, c_call5, c_call6, c_call7, q_L0, List.map_cons, List.map_nil, List.replicate, List.cons_append, List.nil_append, List.append_nil, List.length_cons, List.length_nil, List.length_set, Nat.reduceSub, Nat.reduceAdd, Nat.reduceLT, Nat.reduceLeDiff, Nat.zero_add, Nat.add_zero, Nat.sub_zero, Nat.sub_self, List.getElem?_cons_zero, List.getElem?_cons_succ, List.set_cons_zero, List.set_cons_succ, Option.toList_some, Option.toList_none, List.sum_cons, List.sum_nil, true_and, and_true, true_or, or_true, Nat.le_refl, Nat.zero_le, Value.category, Fin.isValue, Fin.val_zero, Fin.val_one, Fin.val_two, Fin.reduceFinMk, q_10, q_01, not_false_eq_true, not_true_eq_false, forall_const, true_implies, false_implies, implies_true, q_ni, q_fi, q_nb0, q_nb1, q_fb0, q_fb1, q_nor, q_nar, q_for, q_far, q_non, q_nan, q_fon, q_fan, imp_false, false_and, and_false, and_self, false_or, or_false, va_rf, refKind, k_X10_isDay_0, s_X10_isWithin]
    grind
  · exact h.elim)
def s_X10_oneIf : q_Sp := fun av σ post => match av with
  | [.int x] => (x = 0 → post (some (.int 0)) σ) ∧ (¬ x = 0 → post (some (.int 1)) σ)
  | _ => False
def rm_X10_oneIf : Room := { frames := 0, cells := 0, slots := 0, locals := 0 }
def k_X10_oneIf_9 (post : Option Value → q_S → Prop) (K : Nat → q_K) : q_K := (c_iret post)
def k_X10_oneIf_0 (post : Option Value → q_S → Prop) (K : Nat → q_K) : q_K := (c_iload 0 (c_ifeq (c_push 0 (k_X10_oneIf_9 post K)) (c_push 1 (k_X10_oneIf_9 post K))))
set_option maxRecDepth 100000 in
theorem v_X10_oneIf_9 {p : Program} {l : Launch} {e : Env} {s : State} {m : MethodId} {args : Array Value} {below : List Frame} {meth : Method} {c : Code} {D : va_G} {A : Nat → Prop} {post : Option Value → q_S → Prop} {K : Nat → q_K} (C : q_C p s m args meth c cX10_oneIf 1 RX10 "oneIf" (some .int) A) (hK : ∀ h ∈ ([] : List Nat), q_V p l e rm_X10_oneIf s m args below meth c D A 1 (MQ below (q_Qc D A post) args s rm_X10_oneIf.cells rm_X10_oneIf.slots A) h (K h)) : q_V p l e rm_X10_oneIf s m args below meth c D A 1 (MQ below (q_Qc D A post) args s rm_X10_oneIf.cells rm_X10_oneIf.slots A) 9 (k_X10_oneIf_9 post K) := by
  unfold k_X10_oneIf_9
  exact q_iret C rfl (by decide +kernel : decode cX10_oneIf 9 = .ok (.ireturn, 1))
set_option maxRecDepth 100000 in
theorem v_X10_oneIf_0 {p : Program} {l : Launch} {e : Env} {s : State} {m : MethodId} {args : Array Value} {below : List Frame} {meth : Method} {c : Code} {D : va_G} {A : Nat → Prop} {post : Option Value → q_S → Prop} {K : Nat → q_K} (C : q_C p s m args meth c cX10_oneIf 1 RX10 "oneIf" (some .int) A) (hK : ∀ h ∈ ([] : List Nat), q_V p l e rm_X10_oneIf s m args below meth c D A 1 (MQ below (q_Qc D A post) args s rm_X10_oneIf.cells rm_X10_oneIf.slots A) h (K h)) : q_V p l e rm_X10_oneIf s m args below meth c D A 1 (MQ below (q_Qc D A post) args s rm_X10_oneIf.cells rm_X10_oneIf.slots A) 0 (k_X10_oneIf_0 post K) := by
  unfold k_X10_oneIf_0
  refine q_iload_n C (by decide +kernel : decode cX10_oneIf 0 = .ok (.iload_n 0, 1)) ?_
  refine q_ifeq C (tgt := 8) (by decide +kernel : decode cX10_oneIf 1 = .ok (.ifCond .eq 7, 3)) (by decide) ?_ ?_
  · refine q_iconst C (by decide +kernel : decode cX10_oneIf 8 = .ok (.iconst 0, 1)) (by decide) ?_
    exact v_X10_oneIf_9 C hK
  · refine q_iconst C (by decide +kernel : decode cX10_oneIf 4 = .ok (.iconst 1, 1)) (by decide) ?_
    refine q_goto C (tgt := 9) (by decide +kernel : decode cX10_oneIf 5 = .ok (.goto 4, 3)) (by decide) ?_
    exact v_X10_oneIf_9 C hK
theorem u_X10_oneIf (l : Launch) {sp : q_Sp} (H : ∀ (av : List Value) (σ : q_S) (post : Option Value → q_S → Prop), sp av σ post → k_X10_oneIf_0 post (fun _ _ _ _ _ _ => False) (q_L0 av 1) [] σ 0 0 ∧ av.length ≤ 1 ∧ ∀ v ∈ av, v.category = 1) : q_Ct l yX10_oneIf cX10_oneIf 1 (some .int) rm_X10_oneIf sp := by
  refine q_met (by decide) ?_
  intro D A p e s m args below meth c σ av post C hsp
  obtain ⟨h1, h2, h3⟩ := H av σ post hsp
  exact ⟨_, v_X10_oneIf_0 (K := fun _ _ _ _ _ _ => False) C (fun h hh => by cases hh), h1, h2, h3⟩
theorem t_X10_oneIf (l : Launch) : q_Ct l yX10_oneIf cX10_oneIf 1 (some .int) rm_X10_oneIf s_X10_oneIf := u_X10_oneIf l (by
  intro av σ post h
  unfold s_X10_oneIf at h
  split at h
  · refine ⟨?_, by simp, by simp [Value.category]⟩
    simp only [c_push, c_null, c_iload, c_aload, c_istore, c_astore, c_iinc, c_iadd, c_isub, c_imul, c_iand, c_ineg, c_dup, c_dup2, c_pop, c_ifnull, c_ifnonnull, c_get, c_put, c_iald, c_zald, c_iast, c_zast, c_aald, c_aast, c_alen, c_new, c_newa, c_newq, c_mna, c_oinit, c_max, c_copy, c_iret, c_zret, c_aret, c_vret, q_do, q_rc, c_ifeq, c_ifne, c_iflt, c_ifge, c_ifgt, c_ifle, c_iceq, c_icne, c_iclt, c_icge, c_icgt, c_icle, c_call0, c_call1, c_call2, c_call3, c_call4, c_call5, c_call6, c_call7, q_L0, List.map_cons, List.map_nil, List.replicate, List.cons_append, List.nil_append, List.append_nil, List.length_cons, List.length_nil, List.length_set, Nat.reduceSub, Nat.reduceAdd, Nat.reduceLT, Nat.reduceLeDiff, Nat.zero_add, Nat.add_zero, Nat.sub_zero, Nat.sub_self, List.getElem?_cons_zero, List.getElem?_cons_succ, List.set_cons_zero, List.set_cons_succ, Option.toList_some, Option.toList_none, List.sum_cons, List.sum_nil, true_and, and_true, true_or, or_true, Nat.le_refl, Nat.zero_le, Value.category, Fin.isValue, Fin.val_zero, Fin.val_one, Fin.val_two, Fin.reduceFinMk, q_10, q_01, not_false_eq_true, not_true_eq_false, forall_const, true_implies, false_implies, implies_true, q_ni, q_fi, q_nb0, q_nb1, q_fb0, q_fb1, q_nor, q_nar, q_for, q_far, q_non, q_nan, q_fon, q_fan, imp_false, false_and, and_false, and_self, false_or, or_false, va_rf, refKind, k_X10_oneIf_0, k_X10_oneIf_9]
    grind
  · exact h.elim)
def s_X11_greater : q_Sp := fun av σ post => match av with
  | [.int a, .int b] => (b < a → post (some (.int a)) σ) ∧ (¬ b < a → post (some (.int b)) σ)
  | _ => False
def rm_X11_greater : Room := { frames := 0, cells := 0, slots := 0, locals := 0 }
def k_X11_greater_10 (post : Option Value → q_S → Prop) (K : Nat → q_K) : q_K := (c_iret post)
def k_X11_greater_0 (post : Option Value → q_S → Prop) (K : Nat → q_K) : q_K := (c_iload 0 (c_iload 1 (c_icle (c_iload 1 (k_X11_greater_10 post K)) (c_iload 0 (k_X11_greater_10 post K)))))
set_option maxRecDepth 100000 in
theorem v_X11_greater_10 {p : Program} {l : Launch} {e : Env} {s : State} {m : MethodId} {args : Array Value} {below : List Frame} {meth : Method} {c : Code} {D : va_G} {A : Nat → Prop} {post : Option Value → q_S → Prop} {K : Nat → q_K} (C : q_C p s m args meth c cX11_greater 2 RX11 "greater" (some .int) A) (hK : ∀ h ∈ ([] : List Nat), q_V p l e rm_X11_greater s m args below meth c D A 2 (MQ below (q_Qc D A post) args s rm_X11_greater.cells rm_X11_greater.slots A) h (K h)) : q_V p l e rm_X11_greater s m args below meth c D A 2 (MQ below (q_Qc D A post) args s rm_X11_greater.cells rm_X11_greater.slots A) 10 (k_X11_greater_10 post K) := by
  unfold k_X11_greater_10
  exact q_iret C rfl (by decide +kernel : decode cX11_greater 10 = .ok (.ireturn, 1))
set_option maxRecDepth 100000 in
theorem v_X11_greater_0 {p : Program} {l : Launch} {e : Env} {s : State} {m : MethodId} {args : Array Value} {below : List Frame} {meth : Method} {c : Code} {D : va_G} {A : Nat → Prop} {post : Option Value → q_S → Prop} {K : Nat → q_K} (C : q_C p s m args meth c cX11_greater 2 RX11 "greater" (some .int) A) (hK : ∀ h ∈ ([] : List Nat), q_V p l e rm_X11_greater s m args below meth c D A 2 (MQ below (q_Qc D A post) args s rm_X11_greater.cells rm_X11_greater.slots A) h (K h)) : q_V p l e rm_X11_greater s m args below meth c D A 2 (MQ below (q_Qc D A post) args s rm_X11_greater.cells rm_X11_greater.slots A) 0 (k_X11_greater_0 post K) := by
  unfold k_X11_greater_0
  refine q_iload_n C (by decide +kernel : decode cX11_greater 0 = .ok (.iload_n 0, 1)) ?_
  refine q_iload_n C (by decide +kernel : decode cX11_greater 1 = .ok (.iload_n 1, 1)) ?_
  refine q_icle C (tgt := 9) (by decide +kernel : decode cX11_greater 2 = .ok (.if_icmp .le 7, 3)) (by decide) ?_ ?_
  · refine q_iload_n C (by decide +kernel : decode cX11_greater 9 = .ok (.iload_n 1, 1)) ?_
    exact v_X11_greater_10 C hK
  · refine q_iload_n C (by decide +kernel : decode cX11_greater 5 = .ok (.iload_n 0, 1)) ?_
    refine q_goto C (tgt := 10) (by decide +kernel : decode cX11_greater 6 = .ok (.goto 4, 3)) (by decide) ?_
    exact v_X11_greater_10 C hK
theorem u_X11_greater (l : Launch) {sp : q_Sp} (H : ∀ (av : List Value) (σ : q_S) (post : Option Value → q_S → Prop), sp av σ post → k_X11_greater_0 post (fun _ _ _ _ _ _ => False) (q_L0 av 2) [] σ 0 0 ∧ av.length ≤ 2 ∧ ∀ v ∈ av, v.category = 1) : q_Ct l yX11_greater cX11_greater 2 (some .int) rm_X11_greater sp := by
  refine q_met (by decide) ?_
  intro D A p e s m args below meth c σ av post C hsp
  obtain ⟨h1, h2, h3⟩ := H av σ post hsp
  exact ⟨_, v_X11_greater_0 (K := fun _ _ _ _ _ _ => False) C (fun h hh => by cases hh), h1, h2, h3⟩
theorem t_X11_greater (l : Launch) : q_Ct l yX11_greater cX11_greater 2 (some .int) rm_X11_greater s_X11_greater := u_X11_greater l (by
  intro av σ post h
  unfold s_X11_greater at h
  split at h
  · refine ⟨?_, by simp, by simp [Value.category]⟩
    simp only [c_push, c_null, c_iload, c_aload, c_istore, c_astore, c_iinc, c_iadd, c_isub, c_imul, c_iand, c_ineg, c_dup, c_dup2, c_pop, c_ifnull, c_ifnonnull, c_get, c_put, c_iald, c_zald, c_iast, c_zast, c_aald, c_aast, c_alen, c_new, c_newa, c_newq, c_mna, c_oinit, c_max, c_copy, c_iret, c_zret, c_aret, c_vret, q_do, q_rc, c_ifeq, c_ifne, c_iflt, c_ifge, c_ifgt, c_ifle, c_iceq, c_icne, c_iclt, c_icge, c_icgt, c_icle, c_call0, c_call1, c_call2, c_call3, c_call4, c_call5, c_call6, c_call7, q_L0, List.map_cons, List.map_nil, List.replicate, List.cons_append, List.nil_append, List.append_nil, List.length_cons, List.length_nil, List.length_set, Nat.reduceSub, Nat.reduceAdd, Nat.reduceLT, Nat.reduceLeDiff, Nat.zero_add, Nat.add_zero, Nat.sub_zero, Nat.sub_self, List.getElem?_cons_zero, List.getElem?_cons_succ, List.set_cons_zero, List.set_cons_succ, Option.toList_some, Option.toList_none, List.sum_cons, List.sum_nil, true_and, and_true, true_or, or_true, Nat.le_refl, Nat.zero_le, Value.category, Fin.isValue, Fin.val_zero, Fin.val_one, Fin.val_two, Fin.reduceFinMk, q_10, q_01, not_false_eq_true, not_true_eq_false, forall_const, true_implies, false_implies, implies_true, q_ni, q_fi, q_nb0, q_nb1, q_fb0, q_fb1, q_nor, q_nar, q_for, q_far, q_non, q_nan, q_fon, q_fan, imp_false, false_and, and_false, and_self, false_or, or_false, va_rf, refKind, k_X11_greater_0, k_X11_greater_10]
    grind
  · exact h.elim)
def s_X3_isPlace : q_Sp := fun av σ post => match av with
  | [.int x] => (0 ≤ x ∧ x ≤ 20 → post (some (.int 1)) σ) ∧ (¬ (0 ≤ x ∧ x ≤ 20) → post (some (.int 0)) σ)
  | _ => False
def rm_X3_isPlace : Room := { frames := 0, cells := 0, slots := 0, locals := 0 }
def k_X3_isPlace_15 (post : Option Value → q_S → Prop) (K : Nat → q_K) : q_K := (c_zret post)
def k_X3_isPlace_14 (post : Option Value → q_S → Prop) (K : Nat → q_K) : q_K := (c_push 0 (k_X3_isPlace_15 post K))
def k_X3_isPlace_0 (post : Option Value → q_S → Prop) (K : Nat → q_K) : q_K := (c_iload 0 (c_iflt (k_X3_isPlace_14 post K) (c_iload 0 (c_push 20 (c_icgt (k_X3_isPlace_14 post K) (c_push 1 (k_X3_isPlace_15 post K)))))))
set_option maxRecDepth 100000 in
theorem v_X3_isPlace_15 {p : Program} {l : Launch} {e : Env} {s : State} {m : MethodId} {args : Array Value} {below : List Frame} {meth : Method} {c : Code} {D : va_G} {A : Nat → Prop} {post : Option Value → q_S → Prop} {K : Nat → q_K} (C : q_C p s m args meth c cX3_isPlace 1 RX3 "isPlace" (some .boolean) A) (hK : ∀ h ∈ ([] : List Nat), q_V p l e rm_X3_isPlace s m args below meth c D A 1 (MQ below (q_Qc D A post) args s rm_X3_isPlace.cells rm_X3_isPlace.slots A) h (K h)) : q_V p l e rm_X3_isPlace s m args below meth c D A 1 (MQ below (q_Qc D A post) args s rm_X3_isPlace.cells rm_X3_isPlace.slots A) 15 (k_X3_isPlace_15 post K) := by
  unfold k_X3_isPlace_15
  exact q_zret C rfl (by decide +kernel : decode cX3_isPlace 15 = .ok (.ireturn, 1))
set_option maxRecDepth 100000 in
theorem v_X3_isPlace_14 {p : Program} {l : Launch} {e : Env} {s : State} {m : MethodId} {args : Array Value} {below : List Frame} {meth : Method} {c : Code} {D : va_G} {A : Nat → Prop} {post : Option Value → q_S → Prop} {K : Nat → q_K} (C : q_C p s m args meth c cX3_isPlace 1 RX3 "isPlace" (some .boolean) A) (hK : ∀ h ∈ ([] : List Nat), q_V p l e rm_X3_isPlace s m args below meth c D A 1 (MQ below (q_Qc D A post) args s rm_X3_isPlace.cells rm_X3_isPlace.slots A) h (K h)) : q_V p l e rm_X3_isPlace s m args below meth c D A 1 (MQ below (q_Qc D A post) args s rm_X3_isPlace.cells rm_X3_isPlace.slots A) 14 (k_X3_isPlace_14 post K) := by
  unfold k_X3_isPlace_14
  refine q_iconst C (by decide +kernel : decode cX3_isPlace 14 = .ok (.iconst 0, 1)) (by decide) ?_
  exact v_X3_isPlace_15 C hK
set_option maxRecDepth 100000 in
theorem v_X3_isPlace_0 {p : Program} {l : Launch} {e : Env} {s : State} {m : MethodId} {args : Array Value} {below : List Frame} {meth : Method} {c : Code} {D : va_G} {A : Nat → Prop} {post : Option Value → q_S → Prop} {K : Nat → q_K} (C : q_C p s m args meth c cX3_isPlace 1 RX3 "isPlace" (some .boolean) A) (hK : ∀ h ∈ ([] : List Nat), q_V p l e rm_X3_isPlace s m args below meth c D A 1 (MQ below (q_Qc D A post) args s rm_X3_isPlace.cells rm_X3_isPlace.slots A) h (K h)) : q_V p l e rm_X3_isPlace s m args below meth c D A 1 (MQ below (q_Qc D A post) args s rm_X3_isPlace.cells rm_X3_isPlace.slots A) 0 (k_X3_isPlace_0 post K) := by
  unfold k_X3_isPlace_0
  refine q_iload_n C (by decide +kernel : decode cX3_isPlace 0 = .ok (.iload_n 0, 1)) ?_
  refine q_iflt C (tgt := 14) (by decide +kernel : decode cX3_isPlace 1 = .ok (.ifCond .lt 13, 3)) (by decide) ?_ ?_
  · exact v_X3_isPlace_14 C hK
  · refine q_iload_n C (by decide +kernel : decode cX3_isPlace 4 = .ok (.iload_n 0, 1)) ?_
    refine q_bipush C (by decide +kernel : decode cX3_isPlace 5 = .ok (.bipush 20, 2)) (by decide) ?_
    refine q_icgt C (tgt := 14) (by decide +kernel : decode cX3_isPlace 7 = .ok (.if_icmp .gt 7, 3)) (by decide) ?_ ?_
    · exact v_X3_isPlace_14 C hK
    · refine q_iconst C (by decide +kernel : decode cX3_isPlace 10 = .ok (.iconst 1, 1)) (by decide) ?_
      refine q_goto C (tgt := 15) (by decide +kernel : decode cX3_isPlace 11 = .ok (.goto 4, 3)) (by decide) ?_
      exact v_X3_isPlace_15 C hK
theorem u_X3_isPlace (l : Launch) {sp : q_Sp} (H : ∀ (av : List Value) (σ : q_S) (post : Option Value → q_S → Prop), sp av σ post → k_X3_isPlace_0 post (fun _ _ _ _ _ _ => False) (q_L0 av 1) [] σ 0 0 ∧ av.length ≤ 1 ∧ ∀ v ∈ av, v.category = 1) : q_Ct l yX3_isPlace cX3_isPlace 1 (some .boolean) rm_X3_isPlace sp := by
  refine q_met (by decide) ?_
  intro D A p e s m args below meth c σ av post C hsp
  obtain ⟨h1, h2, h3⟩ := H av σ post hsp
  exact ⟨_, v_X3_isPlace_0 (K := fun _ _ _ _ _ _ => False) C (fun h hh => by cases hh), h1, h2, h3⟩
theorem t_X3_isPlace (l : Launch) : q_Ct l yX3_isPlace cX3_isPlace 1 (some .boolean) rm_X3_isPlace s_X3_isPlace := u_X3_isPlace l (by
  intro av σ post h
  unfold s_X3_isPlace at h
  split at h
  · refine ⟨?_, by simp, by simp [Value.category]⟩
    simp only [c_push, c_null, c_iload, c_aload, c_istore, c_astore, c_iinc, c_iadd, c_isub, c_imul, c_iand, c_ineg, c_dup, c_dup2, c_pop, c_ifnull, c_ifnonnull, c_get, c_put, c_iald, c_zald, c_iast, c_zast, c_aald, c_aast, c_alen, c_new, c_newa, c_newq, c_mna, c_oinit, c_max, c_copy, c_iret, c_zret, c_aret, c_vret, q_do, q_rc, c_ifeq, c_ifne, c_iflt, c_ifge, c_ifgt, c_ifle, c_iceq, c_icne, c_iclt, c_icge, c_icgt, c_icle, c_call0, c_call1, c_call2, c_call3, c_call4, c_call5, c_call6, c_call7, q_L0, List.map_cons, List.map_nil, List.replicate, List.cons_append, List.nil_append, List.append_nil, List.length_cons, List.length_nil, List.length_set, Nat.reduceSub, Nat.reduceAdd, Nat.reduceLT, Nat.reduceLeDiff, Nat.zero_add, Nat.add_zero, Nat.sub_zero, Nat.sub_self, List.getElem?_cons_zero, List.getElem?_cons_succ, List.set_cons_zero, List.set_cons_succ, Option.toList_some, Option.toList_none, List.sum_cons, List.sum_nil, true_and, and_true, true_or, or_true, Nat.le_refl, Nat.zero_le, Value.category, Fin.isValue, Fin.val_zero, Fin.val_one, Fin.val_two, Fin.reduceFinMk, q_10, q_01, not_false_eq_true, not_true_eq_false, forall_const, true_implies, false_implies, implies_true, q_ni, q_fi, q_nb0, q_nb1, q_fb0, q_fb1, q_nor, q_nar, q_for, q_far, q_non, q_nan, q_fon, q_fan, imp_false, false_and, and_false, and_self, false_or, or_false, va_rf, refKind, k_X3_isPlace_0, k_X3_isPlace_14, k_X3_isPlace_15]
    grind
  · exact h.elim)
def s_X6_placeOf : q_Sp := fun av σ post => match av with
  | [.int x] => (x = -5 → post (some (.int 12)) σ) ∧ (¬ x = -5 → post (some (.int x)) σ)
  | _ => False
def rm_X6_placeOf : Room := { frames := 0, cells := 0, slots := 0, locals := 0 }
def k_X6_placeOf_12 (post : Option Value → q_S → Prop) (K : Nat → q_K) : q_K := (c_iret post)
def k_X6_placeOf_0 (post : Option Value → q_S → Prop) (K : Nat → q_K) : q_K := (c_iload 0 (c_push (-5) (c_icne (c_iload 0 (k_X6_placeOf_12 post K)) (c_push 12 (k_X6_placeOf_12 post K)))))
set_option maxRecDepth 100000 in
theorem v_X6_placeOf_12 {p : Program} {l : Launch} {e : Env} {s : State} {m : MethodId} {args : Array Value} {below : List Frame} {meth : Method} {c : Code} {D : va_G} {A : Nat → Prop} {post : Option Value → q_S → Prop} {K : Nat → q_K} (C : q_C p s m args meth c cX6_placeOf 1 RX6 "placeOf" (some .int) A) (hK : ∀ h ∈ ([] : List Nat), q_V p l e rm_X6_placeOf s m args below meth c D A 1 (MQ below (q_Qc D A post) args s rm_X6_placeOf.cells rm_X6_placeOf.slots A) h (K h)) : q_V p l e rm_X6_placeOf s m args below meth c D A 1 (MQ below (q_Qc D A post) args s rm_X6_placeOf.cells rm_X6_placeOf.slots A) 12 (k_X6_placeOf_12 post K) := by
  unfold k_X6_placeOf_12
  exact q_iret C rfl (by decide +kernel : decode cX6_placeOf 12 = .ok (.ireturn, 1))
set_option maxRecDepth 100000 in
theorem v_X6_placeOf_0 {p : Program} {l : Launch} {e : Env} {s : State} {m : MethodId} {args : Array Value} {below : List Frame} {meth : Method} {c : Code} {D : va_G} {A : Nat → Prop} {post : Option Value → q_S → Prop} {K : Nat → q_K} (C : q_C p s m args meth c cX6_placeOf 1 RX6 "placeOf" (some .int) A) (hK : ∀ h ∈ ([] : List Nat), q_V p l e rm_X6_placeOf s m args below meth c D A 1 (MQ below (q_Qc D A post) args s rm_X6_placeOf.cells rm_X6_placeOf.slots A) h (K h)) : q_V p l e rm_X6_placeOf s m args below meth c D A 1 (MQ below (q_Qc D A post) args s rm_X6_placeOf.cells rm_X6_placeOf.slots A) 0 (k_X6_placeOf_0 post K) := by
  unfold k_X6_placeOf_0
  refine q_iload_n C (by decide +kernel : decode cX6_placeOf 0 = .ok (.iload_n 0, 1)) ?_
  refine q_bipush C (by decide +kernel : decode cX6_placeOf 1 = .ok (.bipush (-5), 2)) (by decide) ?_
  refine q_icne C (tgt := 11) (by decide +kernel : decode cX6_placeOf 3 = .ok (.if_icmp .ne 8, 3)) (by decide) ?_ ?_
  · refine q_iload_n C (by decide +kernel : decode cX6_placeOf 11 = .ok (.iload_n 0, 1)) ?_
    exact v_X6_placeOf_12 C hK
  · refine q_bipush C (by decide +kernel : decode cX6_placeOf 6 = .ok (.bipush 12, 2)) (by decide) ?_
    refine q_goto C (tgt := 12) (by decide +kernel : decode cX6_placeOf 8 = .ok (.goto 4, 3)) (by decide) ?_
    exact v_X6_placeOf_12 C hK
theorem u_X6_placeOf (l : Launch) {sp : q_Sp} (H : ∀ (av : List Value) (σ : q_S) (post : Option Value → q_S → Prop), sp av σ post → k_X6_placeOf_0 post (fun _ _ _ _ _ _ => False) (q_L0 av 1) [] σ 0 0 ∧ av.length ≤ 1 ∧ ∀ v ∈ av, v.category = 1) : q_Ct l yX6_placeOf cX6_placeOf 1 (some .int) rm_X6_placeOf sp := by
  refine q_met (by decide) ?_
  intro D A p e s m args below meth c σ av post C hsp
  obtain ⟨h1, h2, h3⟩ := H av σ post hsp
  exact ⟨_, v_X6_placeOf_0 (K := fun _ _ _ _ _ _ => False) C (fun h hh => by cases hh), h1, h2, h3⟩
theorem t_X6_placeOf (l : Launch) : q_Ct l yX6_placeOf cX6_placeOf 1 (some .int) rm_X6_placeOf s_X6_placeOf := u_X6_placeOf l (by
  intro av σ post h
  unfold s_X6_placeOf at h
  split at h
  · refine ⟨?_, by simp, by simp [Value.category]⟩
    simp only [c_push, c_null, c_iload, c_aload, c_istore, c_astore, c_iinc, c_iadd, c_isub, c_imul, c_iand, c_ineg, c_dup, c_dup2, c_pop, c_ifnull, c_ifnonnull, c_get, c_put, c_iald, c_zald, c_iast, c_zast, c_aald, c_aast, c_alen, c_new, c_newa, c_newq, c_mna, c_oinit, c_max, c_copy, c_iret, c_zret, c_aret, c_vret, q_do, q_rc, c_ifeq, c_ifne, c_iflt, c_ifge, c_ifgt, c_ifle, c_iceq, c_icne, c_iclt, c_icge, c_icgt, c_icle, c_call0, c_call1, c_call2, c_call3, c_call4, c_call5, c_call6, c_call7, q_L0, List.map_cons, List.map_nil, List.replicate, List.cons_append, List.nil_append, List.append_nil, List.length_cons, List.length_nil, List.length_set, Nat.reduceSub, Nat.reduceAdd, Nat.reduceLT, Nat.reduceLeDiff, Nat.zero_add, Nat.add_zero, Nat.sub_zero, Nat.sub_self, List.getElem?_cons_zero, List.getElem?_cons_succ, List.set_cons_zero, List.set_cons_succ, Option.toList_some, Option.toList_none, List.sum_cons, List.sum_nil, true_and, and_true, true_or, or_true, Nat.le_refl, Nat.zero_le, Value.category, Fin.isValue, Fin.val_zero, Fin.val_one, Fin.val_two, Fin.reduceFinMk, q_10, q_01, not_false_eq_true, not_true_eq_false, forall_const, true_implies, false_implies, implies_true, q_ni, q_fi, q_nb0, q_nb1, q_fb0, q_fb1, q_nor, q_nar, q_for, q_far, q_non, q_nan, q_fon, q_fan, imp_false, false_and, and_false, and_self, false_or, or_false, va_rf, refKind, k_X6_placeOf_0, k_X6_placeOf_12]
    grind
  · exact h.elim)
def s_X8_canPledge : q_Sp := fun av σ post => match av with
  | [.int x, .int y] => ((0 ≤ x ∧ x ≤ 11) ∧ 0 ≤ y ∧ y ≤ 11 → post (some (.int 1)) σ) ∧ (¬ ((0 ≤ x ∧ x ≤ 11) ∧ 0 ≤ y ∧ y ≤ 11) → post (some (.int 0)) σ)
  | _ => False
def rm_X8_canPledge : Room := { frames := 1, cells := 0, slots := 0, locals := 22 }
def k_X8_canPledge_25 (post : Option Value → q_S → Prop) (K : Nat → q_K) : q_K := (c_zret post)
def k_X8_canPledge_24 (post : Option Value → q_S → Prop) (K : Nat → q_K) : q_K := (c_push 0 (k_X8_canPledge_25 post K))
def k_X8_canPledge_0 (post : Option Value → q_S → Prop) (K : Nat → q_K) : q_K := (c_iload 0 (c_push 0 (c_push 11 (c_call3 none s_X10_isWithin 0 0 (c_ifeq (k_X8_canPledge_24 post K) (c_iload 1 (c_push 0 (c_push 11 (c_call3 none s_X10_isWithin 0 0 (c_ifeq (k_X8_canPledge_24 post K) (c_push 1 (k_X8_canPledge_25 post K))))))))))))
set_option maxRecDepth 100000 in
theorem v_X8_canPledge_25 {p : Program} {l : Launch} {e : Env} {s : State} {m : MethodId} {args : Array Value} {below : List Frame} {meth : Method} {c : Code} {D : va_G} {A : Nat → Prop} {post : Option Value → q_S → Prop} {K : Nat → q_K} (C : q_C p s m args meth c cX8_canPledge 2 RX8 "canPledge" (some .boolean) A) (hK : ∀ h ∈ ([] : List Nat), q_V p l e rm_X8_canPledge s m args below meth c D A 2 (MQ below (q_Qc D A post) args s rm_X8_canPledge.cells rm_X8_canPledge.slots A) h (K h)) : q_V p l e rm_X8_canPledge s m args below meth c D A 2 (MQ below (q_Qc D A post) args s rm_X8_canPledge.cells rm_X8_canPledge.slots A) 25 (k_X8_canPledge_25 post K) := by
  unfold k_X8_canPledge_25
  exact q_zret C rfl (by decide +kernel : decode cX8_canPledge 25 = .ok (.ireturn, 1))
set_option maxRecDepth 100000 in
theorem v_X8_canPledge_24 {p : Program} {l : Launch} {e : Env} {s : State} {m : MethodId} {args : Array Value} {below : List Frame} {meth : Method} {c : Code} {D : va_G} {A : Nat → Prop} {post : Option Value → q_S → Prop} {K : Nat → q_K} (C : q_C p s m args meth c cX8_canPledge 2 RX8 "canPledge" (some .boolean) A) (hK : ∀ h ∈ ([] : List Nat), q_V p l e rm_X8_canPledge s m args below meth c D A 2 (MQ below (q_Qc D A post) args s rm_X8_canPledge.cells rm_X8_canPledge.slots A) h (K h)) : q_V p l e rm_X8_canPledge s m args below meth c D A 2 (MQ below (q_Qc D A post) args s rm_X8_canPledge.cells rm_X8_canPledge.slots A) 24 (k_X8_canPledge_24 post K) := by
  unfold k_X8_canPledge_24
  refine q_iconst C (by decide +kernel : decode cX8_canPledge 24 = .ok (.iconst 0, 1)) (by decide) ?_
  exact v_X8_canPledge_25 C hK
set_option maxRecDepth 100000 in
theorem v_X8_canPledge_0 {p : Program} {l : Launch} {e : Env} {s : State} {m : MethodId} {args : Array Value} {below : List Frame} {meth : Method} {c : Code} {D : va_G} {A : Nat → Prop} {post : Option Value → q_S → Prop} {K : Nat → q_K} (C : q_C p s m args meth c cX8_canPledge 2 RX8 "canPledge" (some .boolean) A) (hK : ∀ h ∈ ([] : List Nat), q_V p l e rm_X8_canPledge s m args below meth c D A 2 (MQ below (q_Qc D A post) args s rm_X8_canPledge.cells rm_X8_canPledge.slots A) h (K h)) : q_V p l e rm_X8_canPledge s m args below meth c D A 2 (MQ below (q_Qc D A post) args s rm_X8_canPledge.cells rm_X8_canPledge.slots A) 0 (k_X8_canPledge_0 post K) := by
  unfold k_X8_canPledge_0
  refine q_iload_n C (by decide +kernel : decode cX8_canPledge 0 = .ok (.iload_n 0, 1)) ?_
  refine q_iconst C (by decide +kernel : decode cX8_canPledge 1 = .ok (.iconst 0, 1)) (by decide) ?_
  refine q_bipush C (by decide +kernel : decode cX8_canPledge 2 = .ok (.bipush 11, 2)) (by decide) ?_
  refine q_call3 C (q_coSN C (np := 3) (t_X10_isWithin l) w9_0 (by decide +kernel) w9_2 w9_1 (by decide +kernel) (by decide +kernel : decode cX8_canPledge 4 = .ok (.invokestatic 54, 3)) (by decide)) ?_
  refine q_ifeq C (tgt := 24) (by decide +kernel : decode cX8_canPledge 7 = .ok (.ifCond .eq 17, 3)) (by decide) ?_ ?_
  · exact v_X8_canPledge_24 C hK
  · refine q_iload_n C (by decide +kernel : decode cX8_canPledge 10 = .ok (.iload_n 1, 1)) ?_
    refine q_iconst C (by decide +kernel : decode cX8_canPledge 11 = .ok (.iconst 0, 1)) (by decide) ?_
    refine q_bipush C (by decide +kernel : decode cX8_canPledge 12 = .ok (.bipush 11, 2)) (by decide) ?_
    refine q_call3 C (q_coSN C (np := 3) (t_X10_isWithin l) w9_0 (by decide +kernel) w9_2 w9_1 (by decide +kernel) (by decide +kernel : decode cX8_canPledge 14 = .ok (.invokestatic 54, 3)) (by decide)) ?_
    refine q_ifeq C (tgt := 24) (by decide +kernel : decode cX8_canPledge 17 = .ok (.ifCond .eq 7, 3)) (by decide) ?_ ?_
    · exact v_X8_canPledge_24 C hK
    · refine q_iconst C (by decide +kernel : decode cX8_canPledge 20 = .ok (.iconst 1, 1)) (by decide) ?_
      refine q_goto C (tgt := 25) (by decide +kernel : decode cX8_canPledge 21 = .ok (.goto 4, 3)) (by decide) ?_
      exact v_X8_canPledge_25 C hK
theorem u_X8_canPledge (l : Launch) {sp : q_Sp} (H : ∀ (av : List Value) (σ : q_S) (post : Option Value → q_S → Prop), sp av σ post → k_X8_canPledge_0 post (fun _ _ _ _ _ _ => False) (q_L0 av 2) [] σ 0 0 ∧ av.length ≤ 2 ∧ ∀ v ∈ av, v.category = 1) : q_Ct l yX8_canPledge cX8_canPledge 2 (some .boolean) rm_X8_canPledge sp := by
  refine q_met (by decide) ?_
  intro D A p e s m args below meth c σ av post C hsp
  obtain ⟨h1, h2, h3⟩ := H av σ post hsp
  exact ⟨_, v_X8_canPledge_0 (K := fun _ _ _ _ _ _ => False) C (fun h hh => by cases hh), h1, h2, h3⟩
theorem t_X8_canPledge (l : Launch) : q_Ct l yX8_canPledge cX8_canPledge 2 (some .boolean) rm_X8_canPledge s_X8_canPledge := u_X8_canPledge l (by
  intro av σ post h
  unfold s_X8_canPledge at h
  split at h
  · refine ⟨?_, by simp, by simp [Value.category]⟩
    simp only [c_push, c_null, c_iload, c_aload, c_istore, c_astore, c_iinc, c_iadd, c_isub, c_imul, c_iand, c_ineg, c_dup, c_dup2, c_pop, c_ifnull, c_ifnonnull, c_get, c_put, c_iald, c_zald, c_iast, c_zast, c_aald, c_aast, c_alen, c_new, c_newa, c_newq, c_mna, c_oinit, c_max, c_copy, c_iret, c_zret, c_aret, c_vret, q_do, q_rc, c_ifeq, c_ifne, c_iflt, c_ifge, c_ifgt, c_ifle, c_iceq, c_icne, c_iclt, c_icge, c_icgt, c_icle, c_call0, c_call1, c_call2, c_call3, c_call4, c_call5, c_call6, c_call7, q_L0, List.map_cons, List.map_nil, List.replicate, List.cons_append, List.nil_append, List.append_nil, List.length_cons, List.length_nil, List.length_set, Nat.reduceSub, Nat.reduceAdd, Nat.reduceLT, Nat.reduceLeDiff, Nat.zero_add, Nat.add_zero, Nat.sub_zero, Nat.sub_self, List.getElem?_cons_zero, List.getElem?_cons_succ, List.set_cons_zero, List.set_cons_succ, Option.toList_some, Option.toList_none, List.sum_cons, List.sum_nil, true_and, and_true, true_or, or_true, Nat.le_refl, Nat.zero_le, Value.category, Fin.isValue, Fin.val_zero, Fin.val_one, Fin.val_two, Fin.reduceFinMk, q_10, q_01, not_false_eq_true, not_true_eq_false, forall_const, true_implies, false_implies, implies_true, q_ni, q_fi, q_nb0, q_nb1, q_fb0, q_fb1, q_nor, q_nar, q_for, q_far, q_non, q_nan, q_fon, q_fan, imp_false, false_and, and_false, and_self, false_or, or_false, va_rf, refKind, k_X8_canPledge_0, k_X8_canPledge_24, k_X8_canPledge_25, s_X10_isWithin]
    grind
  · exact h.elim)
