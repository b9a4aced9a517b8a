-- Page
def s_X6_init : q_Sp := fun av σ post => match av with
  | [.ref a, .int d, .null] => σ a = some (.inr (6, [.int 0, .null, .null])) ∧ ∀ q σ', σ q = none → σ' a = some (.inr (6, [.int d, .null, .ref q])) → σ' q = some (.inl (.int, 13, .inl (fun _ => 0))) → (∀ b, b ≠ a → b ≠ q → σ' b = σ b) → post none σ'
  | [.ref a, .int d, .ref b] => σ a = some (.inr (6, [.int 0, .null, .null])) ∧ ∃ x1 x2 bo f, σ b = some (.inr (6, [x1, x2, .ref bo])) ∧ σ bo = some (.inl (.int, 13, .inl f)) ∧ a ≠ b ∧ ∀ q σ' f2, σ q = none → (∀ i, i < 13 → f2 i = f i) → σ' a = some (.inr (6, [.int d, .ref b, .ref q])) → σ' q = some (.inl (.int, 13, .inl f2)) → (∀ b, b ≠ a → b ≠ q → σ' b = σ b) → post none σ'
  | _ => False
theorem w9_165 : (.methodLink RX6 3 objectInit : Cond) ∈ lw_tbl := by decide +kernel
theorem w9_166 : (.fieldLink RX6 9 (TX6 0).1 (TX6 0).2.1 (TX6 0).2.2.1 : Cond) ∈ lw_tbl := by decide +kernel
theorem w9_167 : (.fieldLink RX6 15 (TX6 1).1 (TX6 1).2.1 (TX6 1).2.2.1 : Cond) ∈ lw_tbl := by decide +kernel
theorem w9_168 : (.fieldLink RX6 19 (TX6 2).1 (TX6 2).2.1 (TX6 2).2.2.1 : Cond) ∈ lw_tbl := by decide +kernel
theorem w9_169 : (.methodLink RX6 23 arraycopyName : Cond) ∈ lw_tbl := by decide +kernel
theorem w9_170 : (.native arraycopyName : Cond) ∈ lw_tbl := by decide +kernel
theorem w9_171 : (.static arraycopyName : Cond) ∈ lw_tbl := by decide +kernel
theorem w9_172 : (.initialized "java/lang/System" : Cond) ∈ lw_tbl := by decide +kernel
def rm_X6_init : Room := { frames := 1, cells := 1, slots := 13, locals := 60 }
def k_X6_init_44 (post : Option Value → q_S → Prop) (K : Nat → q_K) : q_K := (c_vret post)
def k_X6_init_0 (post : Option Value → q_S → Prop) (K : Nat → q_K) : q_K := (c_aload 0 (c_oinit (c_aload 0 (c_iload 1 (c_put 6 0 (.int) (c_aload 0 (c_aload 2 (c_put 6 1 (.object "CopyRegister$Page") (c_aload 0 (c_push 13 (c_newa .int (c_put 6 2 (.array .int) (c_aload 2 (c_ifnull (k_X6_init_44 post K) (c_aload 2 (c_get 6 2 (c_push 0 (c_aload 0 (c_get 6 2 (c_push 0 (c_aload 0 (c_get 6 2 (c_alen (c_copy (k_X6_init_44 post K)))))))))))))))))))))))))
set_option maxRecDepth 100000 in
theorem v_X6_init_44 {p : Program} {l : Launch} {e : Env} {s : State} {m : MethodId} {args : Array Value} {below : List Frame} {meth : Method} {c : Code} {D : va_G} {A : Nat → Prop} {post : Option Value → q_S → Prop} {K : Nat → q_K} (C : q_C p s m args meth c cX6_init 3 RX6 "<init>" none A) (hK : ∀ h ∈ ([] : List Nat), q_V p l e rm_X6_init s m args below meth c D A 3 (MQ below (q_Qc D A post) args s rm_X6_init.cells rm_X6_init.slots A) h (K h)) : q_V p l e rm_X6_init s m args below meth c D A 3 (MQ below (q_Qc D A post) args s rm_X6_init.cells rm_X6_init.slots A) 44 (k_X6_init_44 post K) := by
  unfold k_X6_init_44
  exact q_vret C rfl (by decide +kernel : decode cX6_init 44 = .ok (.return_, 1))
set_option maxRecDepth 100000 in
theorem v_X6_init_0 {p : Program} {l : Launch} {e : Env} {s : State} {m : MethodId} {args : Array Value} {below : List Frame} {meth : Method} {c : Code} {D : va_G} {A : Nat → Prop} {post : Option Value → q_S → Prop} {K : Nat → q_K} (C : q_C p s m args meth c cX6_init 3 RX6 "<init>" none A) (hK : ∀ h ∈ ([] : List Nat), q_V p l e rm_X6_init s m args below meth c D A 3 (MQ below (q_Qc D A post) args s rm_X6_init.cells rm_X6_init.slots A) h (K h)) : q_V p l e rm_X6_init s m args below meth c D A 3 (MQ below (q_Qc D A post) args s rm_X6_init.cells rm_X6_init.slots A) 0 (k_X6_init_0 post K) := by
  unfold k_X6_init_0
  refine q_aload_n C (by decide +kernel : decode cX6_init 0 = .ok (.aload_n 0, 1)) ?_
  refine q_oinit C w9_165 w9_112 w9_113 (by decide) (by decide +kernel : decode cX6_init 1 = .ok (.invokespecial 3, 3)) ?_
  refine q_aload_n C (by decide +kernel : decode cX6_init 4 = .ok (.aload_n 0, 1)) ?_
  refine q_iload_n C (by decide +kernel : decode cX6_init 5 = .ok (.iload_n 1, 1)) ?_
  refine q_putF C (ci := 6) (j := 0) (C0 := RX6) (T := TX6) (N := 3) (ty := .int) rfl iX6 giX6 (by decide) tyX6 tyX6_ok nmX6 (by decide +kernel) rfl rfl rfl w9_166 (by decide +kernel : decode cX6_init 6 = .ok (.putfield 9, 3)) ?_
  refine q_aload_n C (by decide +kernel : decode cX6_init 9 = .ok (.aload_n 0, 1)) ?_
  refine q_aload_n C (by decide +kernel : decode cX6_init 10 = .ok (.aload_n 2, 1)) ?_
  refine q_putF C (ci := 6) (j := 1) (C0 := RX6) (T := TX6) (N := 3) (ty := .object "CopyRegister$Page") rfl iX6 giX6 (by decide) tyX6 tyX6_ok nmX6 (by decide +kernel) rfl rfl rfl w9_167 (by decide +kernel : decode cX6_init 11 = .ok (.putfield 15, 3)) ?_
  refine q_aload_n C (by decide +kernel : decode cX6_init 14 = .ok (.aload_n 0, 1)) ?_
  refine q_bipush C (by decide +kernel : decode cX6_init 15 = .ok (.bipush 13, 2)) (by decide) ?_
  refine q_newaI C w9_114 (by decide +kernel : decode cX6_init 17 = .ok (.newarray .int, 2)) ?_
  refine q_putF C (ci := 6) (j := 2) (C0 := RX6) (T := TX6) (N := 3) (ty := .array .int) rfl iX6 giX6 (by decide) tyX6 tyX6_ok nmX6 (by decide +kernel) rfl rfl rfl w9_168 (by decide +kernel : decode cX6_init 19 = .ok (.putfield 19, 3)) ?_
  refine q_aload_n C (by decide +kernel : decode cX6_init 22 = .ok (.aload_n 2, 1)) ?_
  refine q_ifnull C (tgt := 44) (by decide +kernel : decode cX6_init 23 = .ok (.ifnull 21, 3)) (by decide) ?_ ?_
  · exact v_X6_init_44 C hK
  · refine q_aload_n C (by decide +kernel : decode cX6_init 26 = .ok (.aload_n 2, 1)) ?_
    refine q_get C (ci := 6) (j := 2) (C0 := RX6) (T := TX6) (N := 3) rfl iX6 giX6 (by decide) w9_168 (by decide +kernel : decode cX6_init 27 = .ok (.getfield 19, 3)) ?_
    refine q_iconst C (by decide +kernel : decode cX6_init 30 = .ok (.iconst 0, 1)) (by decide) ?_
    refine q_aload_n C (by decide +kernel : decode cX6_init 31 = .ok (.aload_n 0, 1)) ?_
    refine q_get C (ci := 6) (j := 2) (C0 := RX6) (T := TX6) (N := 3) rfl iX6 giX6 (by decide) w9_168 (by decide +kernel : decode cX6_init 32 = .ok (.getfield 19, 3)) ?_
    refine q_iconst C (by decide +kernel : decode cX6_init 35 = .ok (.iconst 0, 1)) (by decide) ?_
    refine q_aload_n C (by decide +kernel : decode cX6_init 36 = .ok (.aload_n 0, 1)) ?_
    refine q_get C (ci := 6) (j := 2) (C0 := RX6) (T := TX6) (N := 3) rfl iX6 giX6 (by decide) w9_168 (by decide +kernel : decode cX6_init 37 = .ok (.getfield 19, 3)) ?_
    refine q_alen C (by decide +kernel : decode cX6_init 40 = .ok (.arraylength, 1)) ?_
    refine q_copy C w9_169 w9_170 w9_171 w9_172 (by decide +kernel) (by decide +kernel : decode cX6_init 41 = .ok (.invokestatic 23, 3)) ?_
    exact v_X6_init_44 C hK
theorem u_X6_init (l : Launch) {sp : q_Sp} (H : ∀ (av : List Value) (σ : q_S) (post : Option Value → q_S → Prop), sp av σ post → k_X6_init_0 post (fun _ _ _ _ _ _ => False) (q_L0 av 3) [] σ 1 13 ∧ av.length ≤ 3 ∧ ∀ v ∈ av, v.category = 1) : q_Ct l yX6_init cX6_init 3 none rm_X6_init sp := by
  refine q_met (by decide) ?_
  intro D A p e s m args below meth c σ av post C hsp
  obtain ⟨h1, h2, h3⟩ := H av σ post hsp
  exact ⟨_, v_X6_init_0 (K := fun _ _ _ _ _ _ => False) C (fun h hh => by cases hh), h1, h2, h3⟩
theorem t_X6_init (l : Launch) : q_Ct l yX6_init cX6_init 3 none rm_X6_init s_X6_init := u_X6_init l (by
  intro av σ post h
  have e9 : (13 : Int32).toNatClampNeg = 13 := rfl
  have e8 : (0 : Int32).toNatClampNeg = 0 := rfl
  unfold s_X6_init at h
  split at h
  · next a d =>
    refine ⟨?_, by simp, by simp [Value.category]⟩
    simp only [c_push, c_null, c_iload, c_aload, c_istore, c_astore, c_iinc, c_iadd, c_isub, c_imul, c_iand, c_ineg, c_dup, c_dup2, c_pop, c_ifnull, c_ifnonnull, c_get, c_put, c_iald, c_zald, c_iast, c_zast, c_aald, c_aast, c_alen, c_new, c_newa, c_newq, c_mna, c_oinit, c_max, c_copy, c_iret, c_zret, c_aret, c_vret, q_do, q_rc, c_ifeq, c_ifne, c_iflt, c_ifge, c_ifgt, c_ifle, c_iceq, c_icne, c_iclt, c_icge, c_icgt, c_icle, c_call0, c_call1, c_call2, c_call3, c_call4, c_call5, c_call6, c_call7, q_L0, List.map_cons, List.map_nil, List.replicate, List.cons_append, List.nil_append, List.append_nil, List.length_cons, List.length_nil, List.length_set, Nat.reduceSub, Nat.reduceAdd, Nat.reduceLT, Nat.reduceLeDiff, Nat.zero_add, Nat.add_zero, Nat.sub_zero, Nat.sub_self, List.getElem?_cons_zero, List.getElem?_cons_succ, List.set_cons_zero, List.set_cons_succ, Option.toList_some, Option.toList_none, List.sum_cons, List.sum_nil, true_and, and_true, true_or, or_true, Nat.le_refl, Nat.zero_le, Value.category, Fin.isValue, Fin.val_zero, Fin.val_one, Fin.val_two, Fin.reduceFinMk, q_10, q_01, not_false_eq_true, not_true_eq_false, forall_const, true_implies, false_implies, implies_true, q_ni, q_fi, q_nb0, q_nb1, q_fb0, q_fb1, q_nor, q_nar, q_for, q_far, q_non, q_nan, q_fon, q_fan, imp_false, false_and, and_false, and_self, false_or, or_false, va_rf, refKind, k_X6_init_0, k_X6_init_44, q_fld, q_fset, q_oc, q_ai, q_aq, q_len, q_up_s, q_up_up, if_true, h.1, e9]
    refine ⟨by decide, fun q hq => ?_⟩
    have hne : a ≠ q := fun e => by rw [← e, q_up_s] at hq; cases hq
    have hq0 : σ q = none := by rw [q_up_n hne.symm] at hq; exact hq
    simp only [c_push, c_null, c_iload, c_aload, c_istore, c_astore, c_iinc, c_iadd, c_isub, c_imul, c_iand, c_ineg, c_dup, c_dup2, c_pop, c_ifnull, c_ifnonnull, c_get, c_put, c_iald, c_zald, c_iast, c_zast, c_aald, c_aast, c_alen, c_new, c_newa, c_newq, c_mna, c_oinit, c_max, c_copy, c_iret, c_zret, c_aret, c_vret, q_do, q_rc, c_ifeq, c_ifne, c_iflt, c_ifge, c_ifgt, c_ifle, c_iceq, c_icne, c_iclt, c_icge, c_icgt, c_icle, c_call0, c_call1, c_call2, c_call3, c_call4, c_call5, c_call6, c_call7, q_L0, List.map_cons, List.map_nil, List.replicate, List.cons_append, List.nil_append, List.append_nil, List.length_cons, List.length_nil, List.length_set, Nat.reduceSub, Nat.reduceAdd, Nat.reduceLT, Nat.reduceLeDiff, Nat.zero_add, Nat.add_zero, Nat.sub_zero, Nat.sub_self, List.getElem?_cons_zero, List.getElem?_cons_succ, List.set_cons_zero, List.set_cons_succ, Option.toList_some, Option.toList_none, List.sum_cons, List.sum_nil, true_and, and_true, true_or, or_true, Nat.le_refl, Nat.zero_le, Value.category, Fin.isValue, Fin.val_zero, Fin.val_one, Fin.val_two, Fin.reduceFinMk, q_10, q_01, not_false_eq_true, not_true_eq_false, forall_const, true_implies, false_implies, implies_true, q_ni, q_fi, q_nb0, q_nb1, q_fb0, q_fb1, q_nor, q_nar, q_for, q_far, q_non, q_nan, q_fon, q_fan, imp_false, false_and, and_false, and_self, false_or, or_false, va_rf, refKind, q_fld, q_fset, q_oc, q_ai, q_aq, q_len, q_up_s, q_up_up, if_true, q_up_n hne]
    refine h.2 q _ hq0 q_up_s ?_ (fun b h1 h2 => ?_)
    · rw [q_up_n hne.symm, q_up_s]
    · rw [q_up_n h1, q_up_n h2, q_up_n h1]
  · next a d b =>
    refine ⟨?_, by simp, by simp [Value.category]⟩
    obtain ⟨h0, x1, x2, bo, f, hb, hbo, hab, h1⟩ := h
    simp only [c_push, c_null, c_iload, c_aload, c_istore, c_astore, c_iinc, c_iadd, c_isub, c_imul, c_iand, c_ineg, c_dup, c_dup2, c_pop, c_ifnull, c_ifnonnull, c_get, c_put, c_iald, c_zald, c_iast, c_zast, c_aald, c_aast, c_alen, c_new, c_newa, c_newq, c_mna, c_oinit, c_max, c_copy, c_iret, c_zret, c_aret, c_vret, q_do, q_rc, c_ifeq, c_ifne, c_iflt, c_ifge, c_ifgt, c_ifle, c_iceq, c_icne, c_iclt, c_icge, c_icgt, c_icle, c_call0, c_call1, c_call2, c_call3, c_call4, c_call5, c_call6, c_call7, q_L0, List.map_cons, List.map_nil, List.replicate, List.cons_append, List.nil_append, List.append_nil, List.length_cons, List.length_nil, List.length_set, Nat.reduceSub, Nat.reduceAdd, Nat.reduceLT, Nat.reduceLeDiff, Nat.zero_add, Nat.add_zero, Nat.sub_zero, Nat.sub_self, List.getElem?_cons_zero, List.getElem?_cons_succ, List.set_cons_zero, List.set_cons_succ, Option.toList_some, Option.toList_none, List.sum_cons, List.sum_nil, true_and, and_true, true_or, or_true, Nat.le_refl, Nat.zero_le, Value.category, Fin.isValue, Fin.val_zero, Fin.val_one, Fin.val_two, Fin.reduceFinMk, q_10, q_01, not_false_eq_true, not_true_eq_false, forall_const, true_implies, false_implies, implies_true, q_ni, q_fi, q_nb0, q_nb1, q_fb0, q_fb1, q_nor, q_nar, q_for, q_far, q_non, q_nan, q_fon, q_fan, imp_false, false_and, and_false, and_self, false_or, or_false, va_rf, refKind, k_X6_init_0, k_X6_init_44, q_fld, q_fset, q_oc, q_ai, q_aq, q_len, q_up_s, q_up_up, if_true, h0, e9]
    refine ⟨by decide, fun q hq => ?_⟩
    have hne : a ≠ q := fun e => by rw [← e, q_up_s] at hq; cases hq
    have hq0 : σ q = none := by rw [q_up_n hne.symm] at hq; exact hq
    have hbq : b ≠ q := fun e => by rw [← e, hb] at hq0; cases hq0
    have hboq : bo ≠ q := fun e => by rw [← e, hbo] at hq0; cases hq0
    have hboa : bo ≠ a := ne_ao hbo h0
    simp only [c_push, c_null, c_iload, c_aload, c_istore, c_astore, c_iinc, c_iadd, c_isub, c_imul, c_iand, c_ineg, c_dup, c_dup2, c_pop, c_ifnull, c_ifnonnull, c_get, c_put, c_iald, c_zald, c_iast, c_zast, c_aald, c_aast, c_alen, c_new, c_newa, c_newq, c_mna, c_oinit, c_max, c_copy, c_iret, c_zret, c_aret, c_vret, q_do, q_rc, c_ifeq, c_ifne, c_iflt, c_ifge, c_ifgt, c_ifle, c_iceq, c_icne, c_iclt, c_icge, c_icgt, c_icle, c_call0, c_call1, c_call2, c_call3, c_call4, c_call5, c_call6, c_call7, q_L0, List.map_cons, List.map_nil, List.replicate, List.cons_append, List.nil_append, List.append_nil, List.length_cons, List.length_nil, List.length_set, Nat.reduceSub, Nat.reduceAdd, Nat.reduceLT, Nat.reduceLeDiff, Nat.zero_add, Nat.add_zero, Nat.sub_zero, Nat.sub_self, List.getElem?_cons_zero, List.getElem?_cons_succ, List.set_cons_zero, List.set_cons_succ, Option.toList_some, Option.toList_none, List.sum_cons, List.sum_nil, true_and, and_true, true_or, or_true, Nat.le_refl, Nat.zero_le, Value.category, Fin.isValue, Fin.val_zero, Fin.val_one, Fin.val_two, Fin.reduceFinMk, q_10, q_01, not_false_eq_true, not_true_eq_false, forall_const, true_implies, false_implies, implies_true, q_ni, q_fi, q_nb0, q_nb1, q_fb0, q_fb1, q_nor, q_nar, q_for, q_far, q_non, q_nan, q_fon, q_fan, imp_false, false_and, and_false, and_self, false_or, or_false, va_rf, refKind, q_fld, q_fset, q_oc, q_ai, q_aq, q_len, q_up_s, q_up_up, if_true, q_up_n hne, q_up_n hab.symm, q_up_n hbq, q_up_n hboq, q_up_n hboa, q_up_n hne.symm, hb, hbo, len13, e9, e8]
    refine ⟨by decide, ?_⟩
    refine h1 q _ (va_cpy f (fun _ => 0) 0 0 13) hq0 (fun i hi => ?_) ?_ q_up_s (fun c h1 h2 => ?_)
    · unfold va_cpy; rw [if_pos ⟨Nat.zero_le _, by omega⟩]; simp
    · rw [q_up_n hne, q_up_s]
    · rw [q_up_n h2, q_up_n h1, q_up_n h2, q_up_n h1]
  · exact h.elim)
def plcF (p : Int32) : Int32 := if p = -5 then 12 else p
def shF (f : Nat → Int32) (p : Int32) : Int32 := if 0 ≤ plcF p ∧ plcF p < 13 then f (plcF p).toNatClampNeg else 0
def chF (f : Nat → Int32) (p n : Int32) : Nat → Int32 := if 0 ≤ plcF p ∧ plcF p < 13 then upd f (plcF p).toNatClampNeg (f (plcF p).toNatClampNeg + n) else f
def s_X6_sharesOf : q_Sp := fun av σ post => match av with
  | [.ref a, .int p] => (match σ a with
    | some (.inr (6, [_, _, .ref oa])) => (match σ oa with
      | some (.inl (.int, 13, .inl f)) => post (some (.int (shF f p))) σ
      | _ => False)
    | _ => False)
  | _ => False
theorem w9_173 : (.code yX6_placeOf cX6_placeOf 1 (some .int) : Cond) ∈ lw_tbl := by decide +kernel
theorem w9_174 : (.initialized RX6 : Cond) ∈ lw_tbl := by decide +kernel
theorem w9_175 : (.static yX6_placeOf : Cond) ∈ lw_tbl := by decide +kernel
theorem w9_176 : (.methodLink RX6 29 yX6_placeOf : Cond) ∈ lw_tbl := by decide +kernel
def rm_X6_sharesOf : Room := { frames := 1, cells := 0, slots := 0, locals := 20 }
def k_X6_sharesOf_28 (post : Option Value → q_S → Prop) (K : Nat → q_K) : q_K := (c_iret post)
def k_X6_sharesOf_27 (post : Option Value → q_S → Prop) (K : Nat → q_K) : q_K := (c_push 0 (k_X6_sharesOf_28 post K))
def k_X6_sharesOf_0 (post : Option Value → q_S → Prop) (K : Nat → q_K) : q_K := (c_iload 1 (c_call1 none s_X6_placeOf 0 0 (c_istore 2 (c_iload 2 (c_iflt (k_X6_sharesOf_27 post K) (c_iload 2 (c_aload 0 (c_get 6 2 (c_alen (c_icge (k_X6_sharesOf_27 post K) (c_aload 0 (c_get 6 2 (c_iload 2 (c_iald (k_X6_sharesOf_28 post K)))))))))))))))
set_option maxRecDepth 100000 in
theorem v_X6_sharesOf_28 {p : Program} {l : Launch} {e : Env} {s : State} {m : MethodId} {args : Array Value} {below : List Frame} {meth : Method} {c : Code} {D : va_G} {A : Nat → Prop} {post : Option Value → q_S → Prop} {K : Nat → q_K} (C : q_C p s m args meth c cX6_sharesOf 3 RX6 "sharesOf" (some .int) A) (hK : ∀ h ∈ ([] : List Nat), q_V p l e rm_X6_sharesOf s m args below meth c D A 3 (MQ below (q_Qc D A post) args s rm_X6_sharesOf.cells rm_X6_sharesOf.slots A) h (K h)) : q_V p l e rm_X6_sharesOf s m args below meth c D A 3 (MQ below (q_Qc D A post) args s rm_X6_sharesOf.cells rm_X6_sharesOf.slots A) 28 (k_X6_sharesOf_28 post K) := by
  unfold k_X6_sharesOf_28
  exact q_iret C rfl (by decide +kernel : decode cX6_sharesOf 28 = .ok (.ireturn, 1))
set_option maxRecDepth 100000 in
theorem v_X6_sharesOf_27 {p : Program} {l : Launch} {e : Env} {s : State} {m : MethodId} {args : Array Value} {below : List Frame} {meth : Method} {c : Code} {D : va_G} {A : Nat → Prop} {post : Option Value → q_S → Prop} {K : Nat → q_K} (C : q_C p s m args meth c cX6_sharesOf 3 RX6 "sharesOf" (some .int) A) (hK : ∀ h ∈ ([] : List Nat), q_V p l e rm_X6_sharesOf s m args below meth c D A 3 (MQ below (q_Qc D A post) args s rm_X6_sharesOf.cells rm_X6_sharesOf.slots A) h (K h)) : q_V p l e rm_X6_sharesOf s m args below meth c D A 3 (MQ below (q_Qc D A post) args s rm_X6_sharesOf.cells rm_X6_sharesOf.slots A) 27 (k_X6_sharesOf_27 post K) := by
  unfold k_X6_sharesOf_27
  refine q_iconst C (by decide +kernel : decode cX6_sharesOf 27 = .ok (.iconst 0, 1)) (by decide) ?_
  exact v_X6_sharesOf_28 C hK
set_option maxRecDepth 100000 in
theorem v_X6_sharesOf_0 {p : Program} {l : Launch} {e : Env} {s : State} {m : MethodId} {args : Array Value} {below : List Frame} {meth : Method} {c : Code} {D : va_G} {A : Nat → Prop} {post : Option Value → q_S → Prop} {K : Nat → q_K} (C : q_C p s m args meth c cX6_sharesOf 3 RX6 "sharesOf" (some .int) A) (hK : ∀ h ∈ ([] : List Nat), q_V p l e rm_X6_sharesOf s m args below meth c D A 3 (MQ below (q_Qc D A post) args s rm_X6_sharesOf.cells rm_X6_sharesOf.slots A) h (K h)) : q_V p l e rm_X6_sharesOf s m args below meth c D A 3 (MQ below (q_Qc D A post) args s rm_X6_sharesOf.cells rm_X6_sharesOf.slots A) 0 (k_X6_sharesOf_0 post K) := by
  unfold k_X6_sharesOf_0
  refine q_iload_n C (by decide +kernel : decode cX6_sharesOf 0 = .ok (.iload_n 1, 1)) ?_
  refine q_call1 C (q_coS C (np := 1) (t_X6_placeOf l) w9_173 w9_176 w9_175 w9_174 (by decide +kernel) (by decide +kernel : decode cX6_sharesOf 1 = .ok (.invokestatic 29, 3)) (by decide)) ?_
  refine q_istore_n C (by decide +kernel : decode cX6_sharesOf 4 = .ok (.istore_n 2, 1)) ?_
  refine q_iload_n C (by decide +kernel : decode cX6_sharesOf 5 = .ok (.iload_n 2, 1)) ?_
  refine q_iflt C (tgt := 27) (by decide +kernel : decode cX6_sharesOf 6 = .ok (.ifCond .lt 21, 3)) (by decide) ?_ ?_
  · exact v_X6_sharesOf_27 C hK
  · refine q_iload_n C (by decide +kernel : decode cX6_sharesOf 9 = .ok (.iload_n 2, 1)) ?_
    refine q_aload_n C (by decide +kernel : decode cX6_sharesOf 10 = .ok (.aload_n 0, 1)) ?_
    refine q_get C (ci := 6) (j := 2) (C0 := RX6) (T := TX6) (N := 3) rfl iX6 giX6 (by decide) w9_168 (by decide +kernel : decode cX6_sharesOf 11 = .ok (.getfield 19, 3)) ?_
    refine q_alen C (by decide +kernel : decode cX6_sharesOf 14 = .ok (.arraylength, 1)) ?_
    refine q_icge C (tgt := 27) (by decide +kernel : decode cX6_sharesOf 15 = .ok (.if_icmp .ge 12, 3)) (by decide) ?_ ?_
    · exact v_X6_sharesOf_27 C hK
    · refine q_aload_n C (by decide +kernel : decode cX6_sharesOf 18 = .ok (.aload_n 0, 1)) ?_
      refine q_get C (ci := 6) (j := 2) (C0 := RX6) (T := TX6) (N := 3) rfl iX6 giX6 (by decide) w9_168 (by decide +kernel : decode cX6_sharesOf 19 = .ok (.getfield 19, 3)) ?_
      refine q_iload_n C (by decide +kernel : decode cX6_sharesOf 22 = .ok (.iload_n 2, 1)) ?_
      refine q_iald C (by decide +kernel : decode cX6_sharesOf 23 = .ok (.iaload, 1)) ?_
      refine q_goto C (tgt := 28) (by decide +kernel : decode cX6_sharesOf 24 = .ok (.goto 4, 3)) (by decide) ?_
      exact v_X6_sharesOf_28 C hK
theorem u_X6_sharesOf (l : Launch) {sp : q_Sp} (H : ∀ (av : List Value) (σ : q_S) (post : Option Value → q_S → Prop), sp av σ post → k_X6_sharesOf_0 post (fun _ _ _ _ _ _ => False) (q_L0 av 3) [] σ 0 0 ∧ av.length ≤ 3 ∧ ∀ v ∈ av, v.category = 1) : q_Ct l yX6_sharesOf cX6_sharesOf 3 (some .int) rm_X6_sharesOf sp := by
  refine q_met (by decide) ?_
  intro D A p e s m args below meth c σ av post C hsp
  obtain ⟨h1, h2, h3⟩ := H av σ post hsp
  exact ⟨_, v_X6_sharesOf_0 (K := fun _ _ _ _ _ _ => False) C (fun h hh => by cases hh), h1, h2, h3⟩
theorem t_X6_sharesOf (l : Launch) : q_Ct l yX6_sharesOf cX6_sharesOf 3 (some .int) rm_X6_sharesOf s_X6_sharesOf := u_X6_sharesOf l (by
  intro av σ post h
  unfold s_X6_sharesOf at h
  split at h
  · next a p =>
    split at h
    · next e =>
      split at h
      · next e2 =>
        refine ⟨?_, by simp, by simp [Value.category]⟩
        simp only [c_push, c_null, c_iload, c_aload, c_istore, c_astore, c_iinc, c_iadd, c_isub, c_imul, c_iand, c_ineg, c_dup, c_dup2, c_pop, c_ifnull, c_ifnonnull, c_get, c_put, c_iald, c_zald, c_iast, c_zast, c_aald, c_aast, c_alen, c_new, c_newa, c_newq, c_mna, c_oinit, c_max, c_copy, c_iret, c_zret, c_aret, c_vret, q_do, q_rc, c_ifeq, c_ifne, c_iflt, c_ifge, c_ifgt, c_ifle, c_iceq, c_icne, c_iclt, c_icge, c_icgt, c_icle, c_call0, c_call1, c_call2, c_call3, c_call4, c_call5, c_call6, c_call7, q_L0, List.map_cons, List.map_nil, List.replicate, List.cons_append, List.nil_append, List.append_nil, List.length_cons, List.length_nil, List.length_set, Nat.reduceSub, Nat.reduceAdd, Nat.reduceLT, Nat.reduceLeDiff, Nat.zero_add, Nat.add_zero, Nat.sub_zero, Nat.sub_self, List.getElem?_cons_zero, List.getElem?_cons_succ, List.set_cons_zero, List.set_cons_succ, Option.toList_some, Option.toList_none, List.sum_cons, List.sum_nil, true_and, and_true, true_or, or_true, Nat.le_refl, Nat.zero_le, Value.category, Fin.isValue, Fin.val_zero, Fin.val_one, Fin.val_two, Fin.reduceFinMk, q_10, q_01, not_false_eq_true, not_true_eq_false, forall_const, true_implies, false_implies, implies_true, q_ni, q_fi, q_nb0, q_nb1, q_fb0, q_fb1, q_nor, q_nar, q_for, q_far, q_non, q_nan, q_fon, q_fan, imp_false, false_and, and_false, and_self, false_or, or_false, va_rf, refKind, k_X6_sharesOf_0, k_X6_sharesOf_27, k_X6_sharesOf_28, q_fld, q_fset, q_oc, q_ai, q_aq, q_len, q_up_s, q_up_up, if_true, e, e2, len13, vpi13, s_X6_placeOf]
        refine ⟨fun c => ?_, fun c => ?_⟩
        · have e9 : plcF p = 12 := by simp [plcF, c]
          rw [shF, e9, if_pos (by decide)] at h
          grind
        · have e9 : plcF p = p := by simp [plcF, c]
          rw [shF, e9] at h
          grind
      · exact h.elim
    · exact h.elim
  · exact h.elim)
def s_X6_change : q_Sp := fun av σ post => match av with
  | [.ref a, .int p, .int n] => (match σ a with
    | some (.inr (6, [_, _, .ref oa])) => (match σ oa with
      | some (.inl (.int, 13, .inl f)) => post none (q_up σ oa (.inl (.int, 13, .inl (chF f p n))))
      | _ => False)
    | _ => False)
  | _ => False
theorem q_up_id {σ : q_S} {a : Nat} {e : q_E} (h : σ a = some e) : q_up σ a e = σ := by
  funext b
  unfold q_up
  split
  · next h2 => rw [h2, h]
  · rfl
def rm_X6_change : Room := { frames := 1, cells := 0, slots := 0, locals := 20 }
def k_X6_change_28 (post : Option Value → q_S → Prop) (K : Nat → q_K) : q_K := (c_vret post)
def k_X6_change_0 (post : Option Value → q_S → Prop) (K : Nat → q_K) : q_K := (c_iload 1 (c_call1 none s_X6_placeOf 0 0 (c_istore 3 (c_iload 3 (c_iflt (k_X6_change_28 post K) (c_iload 3 (c_aload 0 (c_get 6 2 (c_alen (c_icge (k_X6_change_28 post K) (c_aload 0 (c_get 6 2 (c_iload 3 (c_dup2 (c_iald (c_iload 2 (c_iadd (c_iast (k_X6_change_28 post K)))))))))))))))))))
set_option maxRecDepth 100000 in
theorem v_X6_change_28 {p : Program} {l : Launch} {e : Env} {s : State} {m : MethodId} {args : Array Value} {below : List Frame} {meth : Method} {c : Code} {D : va_G} {A : Nat → Prop} {post : Option Value → q_S → Prop} {K : Nat → q_K} (C : q_C p s m args meth c cX6_change 4 RX6 "change" none A) (hK : ∀ h ∈ ([] : List Nat), q_V p l e rm_X6_change s m args below meth c D A 4 (MQ below (q_Qc D A post) args s rm_X6_change.cells rm_X6_change.slots A) h (K h)) : q_V p l e rm_X6_change s m args below meth c D A 4 (MQ below (q_Qc D A post) args s rm_X6_change.cells rm_X6_change.slots A) 28 (k_X6_change_28 post K) := by
  unfold k_X6_change_28
  exact q_vret C rfl (by decide +kernel : decode cX6_change 28 = .ok (.return_, 1))
set_option maxRecDepth 100000 in
theorem v_X6_change_0 {p : Program} {l : Launch} {e : Env} {s : State} {m : MethodId} {args : Array Value} {below : List Frame} {meth : Method} {c : Code} {D : va_G} {A : Nat → Prop} {post : Option Value → q_S → Prop} {K : Nat → q_K} (C : q_C p s m args meth c cX6_change 4 RX6 "change" none A) (hK : ∀ h ∈ ([] : List Nat), q_V p l e rm_X6_change s m args below meth c D A 4 (MQ below (q_Qc D A post) args s rm_X6_change.cells rm_X6_change.slots A) h (K h)) : q_V p l e rm_X6_change s m args below meth c D A 4 (MQ below (q_Qc D A post) args s rm_X6_change.cells rm_X6_change.slots A) 0 (k_X6_change_0 post K) := by
  unfold k_X6_change_0
  refine q_iload_n C (by decide +kernel : decode cX6_change 0 = .ok (.iload_n 1, 1)) ?_
  refine q_call1 C (q_coS C (np := 1) (t_X6_placeOf l) w9_173 w9_176 w9_175 w9_174 (by decide +kernel) (by decide +kernel : decode cX6_change 1 = .ok (.invokestatic 29, 3)) (by decide)) ?_
  refine q_istore_n C (by decide +kernel : decode cX6_change 4 = .ok (.istore_n 3, 1)) ?_
  refine q_iload_n C (by decide +kernel : decode cX6_change 5 = .ok (.iload_n 3, 1)) ?_
  refine q_iflt C (tgt := 28) (by decide +kernel : decode cX6_change 6 = .ok (.ifCond .lt 22, 3)) (by decide) ?_ ?_
  · exact v_X6_change_28 C hK
  · refine q_iload_n C (by decide +kernel : decode cX6_change 9 = .ok (.iload_n 3, 1)) ?_
    refine q_aload_n C (by decide +kernel : decode cX6_change 10 = .ok (.aload_n 0, 1)) ?_
    refine q_get C (ci := 6) (j := 2) (C0 := RX6) (T := TX6) (N := 3) rfl iX6 giX6 (by decide) w9_168 (by decide +kernel : decode cX6_change 11 = .ok (.getfield 19, 3)) ?_
    refine q_alen C (by decide +kernel : decode cX6_change 14 = .ok (.arraylength, 1)) ?_
    refine q_icge C (tgt := 28) (by decide +kernel : decode cX6_change 15 = .ok (.if_icmp .ge 13, 3)) (by decide) ?_ ?_
    · exact v_X6_change_28 C hK
    · refine q_aload_n C (by decide +kernel : decode cX6_change 18 = .ok (.aload_n 0, 1)) ?_
      refine q_get C (ci := 6) (j := 2) (C0 := RX6) (T := TX6) (N := 3) rfl iX6 giX6 (by decide) w9_168 (by decide +kernel : decode cX6_change 19 = .ok (.getfield 19, 3)) ?_
      refine q_iload_n C (by decide +kernel : decode cX6_change 22 = .ok (.iload_n 3, 1)) ?_
      refine q_dup2 C (by decide +kernel : decode cX6_change 23 = .ok (.dup2, 1)) ?_
      refine q_iald C (by decide +kernel : decode cX6_change 24 = .ok (.iaload, 1)) ?_
      refine q_iload_n C (by decide +kernel : decode cX6_change 25 = .ok (.iload_n 2, 1)) ?_
      refine q_iadd C (by decide +kernel : decode cX6_change 26 = .ok (.iadd, 1)) ?_
      refine q_iast C (by decide +kernel : decode cX6_change 27 = .ok (.iastore, 1)) ?_
      exact v_X6_change_28 C hK
theorem u_X6_change (l : Launch) {sp : q_Sp} (H : ∀ (av : List Value) (σ : q_S) (post : Option Value → q_S → Prop), sp av σ post → k_X6_change_0 post (fun _ _ _ _ _ _ => False) (q_L0 av 4) [] σ 0 0 ∧ av.length ≤ 4 ∧ ∀ v ∈ av, v.category = 1) : q_Ct l yX6_change cX6_change 4 none rm_X6_change sp := by
  refine q_met (by decide) ?_
  intro D A p e s m args below meth c σ av post C hsp
  obtain ⟨h1, h2, h3⟩ := H av σ post hsp
  exact ⟨_, v_X6_change_0 (K := fun _ _ _ _ _ _ => False) C (fun h hh => by cases hh), h1, h2, h3⟩
theorem t_X6_change (l : Launch) : q_Ct l yX6_change cX6_change 4 none rm_X6_change s_X6_change := u_X6_change l (by
  intro av σ post h
  unfold s_X6_change at h
  split at h
  · next a p n =>
    split at h
    · next e =>
      split at h
      · next e2 =>
        refine ⟨?_, by simp, by simp [Value.category]⟩
        simp only [c_push, c_null, c_iload, c_aload, c_istore, c_astore, c_iinc, c_iadd, c_isub, c_imul, c_iand, c_ineg, c_dup, c_dup2, c_pop, c_ifnull, c_ifnonnull, c_get, c_put, c_iald, c_zald, c_iast, c_zast, c_aald, c_aast, c_alen, c_new, c_newa, c_newq, c_mna, c_oinit, c_max, c_copy, c_iret, c_zret, c_aret, c_vret, q_do, q_rc, c_ifeq, c_ifne, c_iflt, c_ifge, c_ifgt, c_ifle, c_iceq, c_icne, c_iclt, c_icge, c_icgt, c_icle, c_call0, c_call1, c_call2, c_call3, c_call4, c_call5, c_call6, c_call7, q_L0, List.map_cons, List.map_nil, List.replicate, List.cons_append, List.nil_append, List.append_nil, List.length_cons, List.length_nil, List.length_set, Nat.reduceSub, Nat.reduceAdd, Nat.reduceLT, Nat.reduceLeDiff, Nat.zero_add, Nat.add_zero, Nat.sub_zero, Nat.sub_self, List.getElem?_cons_zero, List.getElem?_cons_succ, List.set_cons_zero, List.set_cons_succ, Option.toList_some, Option.toList_none, List.sum_cons, List.sum_nil, true_and, and_true, true_or, or_true, Nat.le_refl, Nat.zero_le, Value.category, Fin.isValue, Fin.val_zero, Fin.val_one, Fin.val_two, Fin.reduceFinMk, q_10, q_01, not_false_eq_true, not_true_eq_false, forall_const, true_implies, false_implies, implies_true, q_ni, q_fi, q_nb0, q_nb1, q_fb0, q_fb1, q_nor, q_nar, q_for, q_far, q_non, q_nan, q_fon, q_fan, imp_false, false_and, and_false, and_self, false_or, or_false, va_rf, refKind, k_X6_change_0, k_X6_change_28, q_fld, q_fset, q_oc, q_ai, q_aq, q_len, q_up_s, q_up_up, if_true, e, e2, len13, vpi13, s_X6_placeOf]
        have hid := q_up_id e2
        refine ⟨fun c => ?_, fun c => ?_⟩
        · have e9 : plcF p = 12 := by simp [plcF, c]
          rw [chF, e9, if_pos (by decide)] at h
          grind
        · have e9 : plcF p = p := by simp [plcF, c]
          rw [chF, e9] at h
          by_cases c2 : 0 ≤ p ∧ p < 13
          · rw [if_pos c2] at h
            grind
          · rw [if_neg c2, hid] at h
            grind
      · exact h.elim
    · exact h.elim
  · exact h.elim)
-- regions
def hv (σ : q_S) (R : Nat → Prop) (a : Nat) (e : q_E) : Prop := R a ∧ σ a = some e
def q_fm (σ : q_S) (R : Nat → Prop) (σ' : q_S) (R' : Nat → Prop) : Prop := ∀ (a : Nat) (e : q_E), ¬ R a → σ a = some e → ¬ R' a ∧ σ' a = some e
theorem q_fm.refl {σ : q_S} {R : Nat → Prop} : q_fm σ R σ R := fun _ _ h1 h2 => ⟨h1, h2⟩
theorem q_fm.trans {σ σ2 σ3 : q_S} {R R2 R3 : Nat → Prop} (h : q_fm σ R σ2 R2) (h2 : q_fm σ2 R2 σ3 R3) : q_fm σ R σ3 R3 := fun a e h3 h4 => h2 a e (h a e h3 h4).1 (h a e h3 h4).2
theorem q_fm.up {σ : q_S} {R : Nat → Prop} {a : Nat} {e : q_E} (h : R a) : q_fm σ R (q_up σ a e) R := fun b x h1 h2 => ⟨h1, by
  rw [q_up_n (fun e9 => h1 (by rw [e9]; exact h))]; exact h2⟩
-- the pledges of a work
abbrev gridE (n : Nat) (pr : Nat → Nat) : q_E := .inl (.array .int, n, .inr (.inr (.inr (.inr (fun p => if p < n then some (pr p) else none)))))
def PlP (σ : q_S) (R : Nat → Prop) (pl : Nat) (M : Nat → Nat → Int32) : Prop := ∃ pr : Nat → Nat, hv σ R pl (gridE 12 pr) ∧ (∀ p, p < 12 → ∃ f, hv σ R (pr p) (.inl (.int, 12, .inl f)) ∧ ∀ q, q < 12 → f q = M p q) ∧ ∀ i j, i < 12 → j < 12 → pr i = pr j → i = j
def M2 (M : Nat → Nat → Int32) (p q : Nat) (v : Int32) : Nat → Nat → Int32 := fun i j => if i = p ∧ j = q then v else M i j
theorem PlP.set {σ : q_S} {R : Nat → Prop} {pl : Nat} {M : Nat → Nat → Int32} {pr : Nat → Nat} (h1 : hv σ R pl (gridE 12 pr)) (h2 : ∀ p, p < 12 → ∃ f, hv σ R (pr p) (.inl (.int, 12, .inl f)) ∧ ∀ q, q < 12 → f q = M p q) (h3 : ∀ i j, i < 12 → j < 12 → pr i = pr j → i = j) {p q : Nat} (hp : p < 12) {f : Nat → Int32} (hf : σ (pr p) = some (.inl (.int, 12, .inl f))) (v : Int32) : PlP (q_up σ (pr p) (.inl (.int, 12, .inl (upd f q v)))) R pl (M2 M p q v) := by
  refine ⟨pr, ⟨h1.1, ?_⟩, fun i hi => ?_, h3⟩
  · rw [q_up_n]; exact h1.2
    intro e9
    have := h1.2
    rw [e9, hf] at this
    cases this
  · obtain ⟨f2, hf2, hM⟩ := h2 i hi
    by_cases e : i = p
    · subst e
      have ef : f2 = f := by
        have := hf2.2.symm.trans hf
        cases this; rfl
      subst ef
      refine ⟨upd f2 q v, ⟨hf2.1, q_up_s⟩, fun j hj => ?_⟩
      unfold upd M2
      by_cases e2 : j = q
      · subst e2; rw [if_pos rfl, if_pos ⟨rfl, rfl⟩]
      · rw [if_neg e2, if_neg (fun h => e2 h.2)]; exact hM j hj
    · refine ⟨f2, ⟨hf2.1, by rw [q_up_n (fun e9 => e (h3 i p hi hp e9))]; exact hf2.2⟩, fun j hj => ?_⟩
      unfold M2
      rw [if_neg (fun h => e h.1)]; exact hM j hj
-- the pages of a work: day, address, array, contents
abbrev pgT : Type := Int32 × Nat × Nat × (Nat → Int32)
def PgC (σ : q_S) (R : Nat → Prop) : Value → List pgT → Prop
  | v, [] => v = .null
  | v, x :: t => ∃ nv, v = .ref x.2.1 ∧ hv σ R x.2.1 (.inr (6, [.int x.1, nv, .ref x.2.2.1])) ∧ hv σ R x.2.2.1 (.inl (.int, 13, .inl x.2.2.2)) ∧ PgC σ R nv t
theorem PgC.mono {σ σ' : q_S} {R R' : Nat → Prop} : ∀ {t : List pgT} {v : Value}, PgC σ R v t → (∀ a e, R a → σ a = some e → (∀ x ∈ t, a = x.2.1 ∨ a = x.2.2.1 → R' a ∧ σ' a = some e)) → PgC σ' R' v t
  | [], v, h, _ => h
  | x :: t, v, h, hm => by
    obtain ⟨nv, h1, h2, h3, h4⟩ := h
    exact ⟨nv, h1, hm _ _ h2.1 h2.2 x List.mem_cons_self (Or.inl rfl), hm _ _ h3.1 h3.2 x List.mem_cons_self (Or.inr rfl), h4.mono (fun a e ha he y hy => hm a e ha he y (List.mem_cons_of_mem _ hy))⟩
def ShC (σ : q_S) (R : Nat → Prop) (s : Nat) (M : Nat → Nat → Int32) (pgs : List pgT) : Prop := ∃ (v : Value) (pl : Nat), hv σ R s (.inr (8, [v, .ref pl])) ∧ PgC σ R v pgs ∧ PlP σ R pl M ∧ (pgs.map (fun x => x.2.2.1)).Nodup
def s_X8_ownedNow : q_Sp := fun av σ post => match av with
  | [.ref s, .int p] => ∃ R M x t, ShC σ R s M (x :: t) ∧ post (some (.int (shF x.2.2.2 p))) σ
  | _ => False
theorem w9_177 : (.fieldLink RX8 14 (TX8 0).1 (TX8 0).2.1 (TX8 0).2.2.1 : Cond) ∈ lw_tbl := by decide +kernel
theorem w9_178 : (.code yX6_sharesOf cX6_sharesOf 3 (some .int) : Cond) ∈ lw_tbl := by decide +kernel
theorem w9_179 : (.methodLink RX8 29 yX6_sharesOf : Cond) ∈ lw_tbl := by decide +kernel
theorem w9_180 : (.instanceMethod yX6_sharesOf : Cond) ∈ lw_tbl := by decide +kernel
theorem w9_181 : (.selects RX6 yX6_sharesOf yX6_sharesOf : Cond) ∈ lw_tbl := by decide +kernel
def rm_X8_ownedNow : Room := { frames := 2, cells := 0, slots := 0, locals := 42 }
def k_X8_ownedNow_0 (post : Option Value → q_S → Prop) (K : Nat → q_K) : q_K := (c_aload 0 (c_get 8 0 (c_iload 1 (c_call2 (some 6) s_X6_sharesOf 0 0 (c_iret post)))))
set_option maxRecDepth 100000 in
theorem v_X8_ownedNow_0 {p : Program} {l : Launch} {e : Env} {s : State} {m : MethodId} {args : Array Value} {below : List Frame} {meth : Method} {c : Code} {D : va_G} {A : Nat → Prop} {post : Option Value → q_S → Prop} {K : Nat → q_K} (C : q_C p s m args meth c cX8_ownedNow 2 RX8 "ownedNow" (some .int) A) (hK : ∀ h ∈ ([] : List Nat), q_V p l e rm_X8_ownedNow s m args below meth c D A 2 (MQ below (q_Qc D A post) args s rm_X8_ownedNow.cells rm_X8_ownedNow.slots A) h (K h)) : q_V p l e rm_X8_ownedNow s m args below meth c D A 2 (MQ below (q_Qc D A post) args s rm_X8_ownedNow.cells rm_X8_ownedNow.slots A) 0 (k_X8_ownedNow_0 post K) := by
  unfold k_X8_ownedNow_0
  refine q_aload_n C (by decide +kernel : decode cX8_ownedNow 0 = .ok (.aload_n 0, 1)) ?_
  refine q_get C (ci := 8) (j := 0) (C0 := RX8) (T := TX8) (N := 2) rfl iX8 giX8 (by decide) w9_177 (by decide +kernel : decode cX8_ownedNow 1 = .ok (.getfield 14, 3)) ?_
  refine q_iload_n C (by decide +kernel : decode cX8_ownedNow 4 = .ok (.iload_n 1, 1)) ?_
  refine q_call2 C (q_coV C (np := 1) (ci := 6) (rc := (RX6, TX6, 3)) (t_X6_sharesOf l) w9_178 rfl rfl w9_179 w9_180 w9_181 w9_174 (by decide +kernel) (by decide +kernel : decode cX8_ownedNow 5 = .ok (.invokevirtual 29, 3)) (by decide)) ?_
  exact q_iret C rfl (by decide +kernel : decode cX8_ownedNow 8 = .ok (.ireturn, 1))
theorem u_X8_ownedNow (l : Launch) {sp : q_Sp} (H : ∀ (av : List Value) (σ : q_S) (post : Option Value → q_S → Prop), sp av σ post → k_X8_ownedNow_0 post (fun _ _ _ _ _ _ => False) (q_L0 av 2) [] σ 0 0 ∧ av.length ≤ 2 ∧ ∀ v ∈ av, v.category = 1) : q_Ct l yX8_ownedNow cX8_ownedNow 2 (some .int) rm_X8_ownedNow sp := by
  refine q_met (by decide) ?_
  intro D A p e s m args below meth c σ av post C hsp
  obtain ⟨h1, h2, h3⟩ := H av σ post hsp
  exact ⟨_, v_X8_ownedNow_0 (K := fun _ _ _ _ _ _ => False) C (fun h hh => by cases hh), h1, h2, h3⟩
theorem t_X8_ownedNow (l : Launch) : q_Ct l yX8_ownedNow cX8_ownedNow 2 (some .int) rm_X8_ownedNow s_X8_ownedNow := u_X8_ownedNow l (by
  intro av σ post h
  unfold s_X8_ownedNow at h
  split at h
  · next s p =>
    refine ⟨?_, by simp, by simp [Value.category]⟩
    obtain ⟨R, M, x, t, ⟨v, pl, h1, ⟨nv, hv1, h2, h3, h4⟩, h5, h6⟩, h7⟩ := h
    subst hv1
    simp only [c_push, c_null, c_iload, c_aload, c_istore, c_astore, c_iinc, c_iadd, c_isub, c_imul, c_iand, c_ineg, c_dup, c_dup2, c_pop, c_ifnull, c_ifnonnull, c_get, c_put, c_iald, c_zald, c_iast, c_zast, c_aald, c_aast, c_alen, c_new, c_newa, c_newq, c_mna, c_oinit, c_max, c_copy, c_iret, c_zret, c_aret, c_vret, q_do, q_rc, c_ifeq, c_ifne, c_iflt, c_ifge, c_ifgt, c_ifle, c_iceq, c_icne, c_iclt, c_icge, c_icgt, c_icle, c_call0, c_call1, c_call2, c_call3, c_call4, c_call5, c_call6, c_call7, q_L0, List.map_cons, List.map_nil, List.replicate, List.cons_append, List.nil_append, List.append_nil, List.length_cons, List.length_nil, List.length_set, Nat.reduceSub, Nat.reduceAdd, Nat.reduceLT, Nat.reduceLeDiff, Nat.zero_add, Nat.add_zero, Nat.sub_zero, Nat.sub_self, List.getElem?_cons_zero, List.getElem?_cons_succ, List.set_cons_zero, List.set_cons_succ, Option.toList_some, Option.toList_none, List.sum_cons, List.sum_nil, true_and, and_true, true_or, or_true, Nat.le_refl, Nat.zero_le, Value.category, Fin.isValue, Fin.val_zero, Fin.val_one, Fin.val_two, Fin.reduceFinMk, q_10, q_01, not_false_eq_true, not_true_eq_false, forall_const, true_implies, false_implies, implies_true, q_ni, q_fi, q_nb0, q_nb1, q_fb0, q_fb1, q_nor, q_nar, q_for, q_far, q_non, q_nan, q_fon, q_fan, imp_false, false_and, and_false, and_self, false_or, or_false, va_rf, refKind, k_X8_ownedNow_0, q_fld, q_fset, q_oc, q_ai, q_aq, q_len, q_up_s, q_up_up, if_true, h1.2, h2.2, h3.2, s_X6_sharesOf]
    exact h7
  · exact h.elim)
def pvF (t p : Int32) : List pgT → Int32
  | [] => 0
  | x :: r => if x.1 ≤ t then shF x.2.2.2 p else pvF t p r
def s_X8_ownedOn : q_Sp := fun av σ post => match av with
  | [.ref s, .int p, .int t] => ∃ R M pgs, ShC σ R s M pgs ∧ post (some (.int (pvF t p pgs))) σ
  | _ => False
def rm_X8_ownedOn : Room := { frames := 2, cells := 0, slots := 0, locals := 42 }
def k_X8_ownedOn_0 (post : Option Value → q_S → Prop) (K : Nat → q_K) : q_K := (c_aload 0 (c_get 8 0 (c_astore 3 (K 5))))
def k_X8_ownedOn_5 (post : Option Value → q_S → Prop) (K : Nat → q_K) : q_K := (c_aload 3 (c_ifnull (c_push 0 (c_iret post)) (c_aload 3 (c_get 6 0 (c_iload 2 (c_icgt (c_aload 3 (c_get 6 1 (c_astore 3 (K 5)))) (c_aload 3 (c_iload 1 (c_call2 (some 6) s_X6_sharesOf 0 0 (c_iret post))))))))))
set_option maxRecDepth 100000 in
theorem v_X8_ownedOn_0 {p : Program} {l : Launch} {e : Env} {s : State} {m : MethodId} {args : Array Value} {below : List Frame} {meth : Method} {c : Code} {D : va_G} {A : Nat → Prop} {post : Option Value → q_S → Prop} {K : Nat → q_K} (C : q_C p s m args meth c cX8_ownedOn 4 RX8 "ownedOn" (some .int) A) (hK : ∀ h ∈ ([5] : List Nat), q_V p l e rm_X8_ownedOn s m args below meth c D A 4 (MQ below (q_Qc D A post) args s rm_X8_ownedOn.cells rm_X8_ownedOn.slots A) h (K h)) : q_V p l e rm_X8_ownedOn s m args below meth c D A 4 (MQ below (q_Qc D A post) args s rm_X8_ownedOn.cells rm_X8_ownedOn.slots A) 0 (k_X8_ownedOn_0 post K) := by
  unfold k_X8_ownedOn_0
  refine q_aload_n C (by decide +kernel : decode cX8_ownedOn 0 = .ok (.aload_n 0, 1)) ?_
  refine q_get C (ci := 8) (j := 0) (C0 := RX8) (T := TX8) (N := 2) rfl iX8 giX8 (by decide) w9_177 (by decide +kernel : decode cX8_ownedOn 1 = .ok (.getfield 14, 3)) ?_
  refine q_astore_n C (by decide +kernel : decode cX8_ownedOn 4 = .ok (.astore_n 3, 1)) ?_
  exact hK 5 (by decide)
set_option maxRecDepth 100000 in
theorem v_X8_ownedOn_5 {p : Program} {l : Launch} {e : Env} {s : State} {m : MethodId} {args : Array Value} {below : List Frame} {meth : Method} {c : Code} {D : va_G} {A : Nat → Prop} {post : Option Value → q_S → Prop} {K : Nat → q_K} (C : q_C p s m args meth c cX8_ownedOn 4 RX8 "ownedOn" (some .int) A) (hK : ∀ h ∈ ([5] : List Nat), q_V p l e rm_X8_ownedOn s m args below meth c D A 4 (MQ below (q_Qc D A post) args s rm_X8_ownedOn.cells rm_X8_ownedOn.slots A) h (K h)) : q_V p l e rm_X8_ownedOn s m args below meth c D A 4 (MQ below (q_Qc D A post) args s rm_X8_ownedOn.cells rm_X8_ownedOn.slots A) 5 (k_X8_ownedOn_5 post K) := by
  unfold k_X8_ownedOn_5
  refine q_aload_n C (by decide +kernel : decode cX8_ownedOn 5 = .ok (.aload_n 3, 1)) ?_
  refine q_ifnull C (tgt := 31) (by decide +kernel : decode cX8_ownedOn 6 = .ok (.ifnull 25, 3)) (by decide) ?_ ?_
  · refine q_iconst C (by decide +kernel : decode cX8_ownedOn 31 = .ok (.iconst 0, 1)) (by decide) ?_
    exact q_iret C rfl (by decide +kernel : decode cX8_ownedOn 32 = .ok (.ireturn, 1))
  · refine q_aload_n C (by decide +kernel : decode cX8_ownedOn 9 = .ok (.aload_n 3, 1)) ?_
    refine q_getN C (ci := 6) (j := 0) (C0 := RX6) (T := TX6) (N := 3) rfl iX6 giX6 (by decide) (by decide +kernel) (by decide +kernel : decode cX8_ownedOn 10 = .ok (.getfield 33, 3)) ?_
    refine q_iload_n C (by decide +kernel : decode cX8_ownedOn 13 = .ok (.iload_n 2, 1)) ?_
    refine q_icgt C (tgt := 23) (by decide +kernel : decode cX8_ownedOn 14 = .ok (.if_icmp .gt 9, 3)) (by decide) ?_ ?_
    · refine q_aload_n C (by decide +kernel : decode cX8_ownedOn 23 = .ok (.aload_n 3, 1)) ?_
      refine q_getN C (ci := 6) (j := 1) (C0 := RX6) (T := TX6) (N := 3) rfl iX6 giX6 (by decide) (by decide +kernel) (by decide +kernel : decode cX8_ownedOn 24 = .ok (.getfield 37, 3)) ?_
      refine q_astore_n C (by decide +kernel : decode cX8_ownedOn 27 = .ok (.astore_n 3, 1)) ?_
      refine q_goto C (tgt := 5) (by decide +kernel : decode cX8_ownedOn 28 = .ok (.goto (-23), 3)) (by decide) ?_
      exact hK 5 (by decide)
    · refine q_aload_n C (by decide +kernel : decode cX8_ownedOn 17 = .ok (.aload_n 3, 1)) ?_
      refine q_iload_n C (by decide +kernel : decode cX8_ownedOn 18 = .ok (.iload_n 1, 1)) ?_
      refine q_call2 C (q_coV C (np := 1) (ci := 6) (rc := (RX6, TX6, 3)) (t_X6_sharesOf l) w9_178 rfl rfl w9_179 w9_180 w9_181 w9_174 (by decide +kernel) (by decide +kernel : decode cX8_ownedOn 19 = .ok (.invokevirtual 29, 3)) (by decide)) ?_
      exact q_iret C rfl (by decide +kernel : decode cX8_ownedOn 22 = .ok (.ireturn, 1))
theorem u_X8_ownedOn (l : Launch) {sp : q_Sp} (H : ∀ (av : List Value) (σ : q_S) (post : Option Value → q_S → Prop), sp av σ post → ∃ Inv : Nat → Nat → q_K, (∀ K : Nat → q_K, (∀ (h n : Nat) (L : List (Option Value)) (st : List Value) (σ : q_S) (cr sr : Nat), Inv h n L st σ cr sr → K h L st σ cr sr) → k_X8_ownedOn_0 post K (q_L0 av 4) [] σ 0 0) ∧ (∀ (K : Nat → q_K) (n : Nat), (∀ (h m : Nat) (L : List (Option Value)) (st : List Value) (σ : q_S) (cr sr : Nat), m < n → Inv h m L st σ cr sr → K h L st σ cr sr) → ∀ (L : List (Option Value)) (st : List Value) (σ : q_S) (cr sr : Nat), Inv 5 n L st σ cr sr → k_X8_ownedOn_5 post K L st σ cr sr) ∧ av.length ≤ 4 ∧ ∀ v ∈ av, v.category = 1) : q_Ct l yX8_ownedOn cX8_ownedOn 4 (some .int) rm_X8_ownedOn sp := by
  refine q_met (by decide) ?_
  intro D A p e s m args below meth c σ av post C hsp
  obtain ⟨Inv, h1, hh5, h2, h3⟩ := H av σ post hsp
  have hV := q_loops (p := p) (l := l) (e := e) (R := rm_X8_ownedOn) (s := s) (m := m) (args := args) (below := below) (meth := meth) (c := c) (D := D) (A := A) (nL := 4) (Q := MQ below (q_Qc D A post) args s rm_X8_ownedOn.cells rm_X8_ownedOn.slots A) [5] (fun h =>  k_X8_ownedOn_5 post) (fun K hK h hh => ?_) Inv (fun n h hh => ?_)
  · exact ⟨_, v_X8_ownedOn_0 C hV, h1 _ (fun h n L st σ cr sr hi => ⟨n, hi⟩), h2, h3⟩
  · have e9 : h = 5 := by simpa using hh
    subst e9
    exact v_X8_ownedOn_5 C hK
  · have e9 : h = 5 := by simpa using hh
    subst e9
    exact hh5 (fun h L st σ cr sr => ∃ m : Nat, m < n ∧ Inv h m L st σ cr sr) n (fun h m L st σ cr sr hm hi => ⟨m, hm, hi⟩)
theorem t_X8_ownedOn (l : Launch) : q_Ct l yX8_ownedOn cX8_ownedOn 4 (some .int) rm_X8_ownedOn s_X8_ownedOn := u_X8_ownedOn l (by
  intro av σ post h
  unfold s_X8_ownedOn at h
  split at h
  · next s p t =>
    obtain ⟨R, M, pgs, ⟨v, pl, h1, h2, h5, h6⟩, h7⟩ := h
    refine ⟨fun _ m L st σ' cr sr => ∃ (r : List pgT) (v2 : Value), m = r.length ∧ σ' = σ ∧ st = [] ∧ PgC σ R v2 r ∧ pvF t p r = pvF t p pgs ∧ L = [some (.ref s), some (.int p), some (.int t), some v2], ?_, ?_, by simp, by simp [Value.category]⟩
    · intro K hK
      have hv2 : (∃ a, v = .ref a) ∨ v = .null := by
        cases pgs with
        | nil => exact Or.inr h2
        | cons x r => obtain ⟨nv, e, -⟩ := h2; exact Or.inl ⟨_, e⟩
      simp only [c_push, c_null, c_iload, c_aload, c_istore, c_astore, c_iinc, c_iadd, c_isub, c_imul, c_iand, c_ineg, c_dup, c_dup2, c_pop, c_ifnull, c_ifnonnull, c_get, c_put, c_iald, c_zald, c_iast, c_zast, c_aald, c_aast, c_alen, c_new, c_newa, c_newq, c_mna, c_oinit, c_max, c_copy, c_iret, c_zret, c_aret, c_vret, q_do, q_rc, c_ifeq, c_ifne, c_iflt, c_ifge, c_ifgt, c_ifle, c_iceq, c_icne, c_iclt, c_icge, c_icgt, c_icle, c_call0, c_call1, c_call2, c_call3, c_call4, c_call5, c_call6, c_call7, q_L0, List.map_cons, List.map_nil, List.replicate, List.cons_append, List.nil_append, List.append_nil, List.length_cons, List.length_nil, List.length_set, Nat.reduceSub, Nat.reduceAdd, Nat.reduceLT, Nat.reduceLeDiff, Nat.zero_add, Nat.add_zero, Nat.sub_zero, Nat.sub_self, List.getElem?_cons_zero, List.getElem?_cons_succ, List.set_cons_zero, List.set_cons_succ, Option.toList_some, Option.toList_none, List.sum_cons, List.sum_nil, true_and, and_true, true_or, or_true, Nat.le_refl, Nat.zero_le, Value.category, Fin.isValue, Fin.val_zero, Fin.val_one, Fin.val_two, Fin.reduceFinMk, q_10, q_01, not_false_eq_true, not_true_eq_false, forall_const, true_implies, false_implies, implies_true, q_ni, q_fi, q_nb0, q_nb1, q_fb0, q_fb1, q_nor, q_nar, q_for, q_far, q_non, q_nan, q_fon, q_fan, imp_false, false_and, and_false, and_self, false_or, or_false, va_rf, refKind, k_X8_ownedOn_0, k_X8_ownedOn_5, q_fld, q_fset, q_oc, q_ai, q_aq, q_len, q_up_s, q_up_up, if_true, h1.2]
      rcases hv2 with ⟨a, rfl⟩ | rfl
      · simp only [c_push, c_null, c_iload, c_aload, c_istore, c_astore, c_iinc, c_iadd, c_isub, c_imul, c_iand, c_ineg, c_dup, c_dup2, c_pop, c_ifnull, c_ifnonnull, c_get, c_put, c_iald, c_zald, c_iast, c_zast, c_aald, c_aast, c_alen, c_new, c_newa, c_newq, c_mna, c_oinit, c_max, c_copy, c_iret, c_zret, c_aret, c_vret, q_do, q_rc, c_ifeq, c_ifne, c_iflt, c_ifge, c_ifgt, c_ifle, c_iceq, c_icne, c_iclt, c_icge, c_icgt, c_icle, c_call0, c_call1, c_call2, c_call3, c_call4, c_call5, c_call6, c_call7, q_L0, List.map_cons, List.map_nil, List.replicate, List.cons_append, List.nil_append, List.append_nil, List.length_cons, List.length_nil, List.length_set, Nat.reduceSub, Nat.reduceAdd, Nat.reduceLT, Nat.reduceLeDiff, Nat.zero_add, Nat.add_zero, Nat.sub_zero, Nat.sub_self, List.getElem?_cons_zero, List.getElem?_cons_succ, List.set_cons_zero, List.set_cons_succ, Option.toList_some, Option.toList_none, List.sum_cons, List.sum_nil, true_and, and_true, true_or, or_true, Nat.le_refl, Nat.zero_le, Value.category, Fin.isValue, Fin.val_zero, Fin.val_one, Fin.val_two, Fin.reduceFinMk, q_10, q_01, not_false_eq_true, not_true_eq_false, forall_const, true_implies, false_implies, implies_true, q_ni, q_fi, q_nb0, q_nb1, q_fb0, q_fb1, q_nor, q_nar, q_for, q_far, q_non, q_nan, q_fon, q_fan, imp_false, false_and, and_false, and_self, false_or, or_false, va_rf, refKind]
        exact hK _ pgs.length _ _ _ _ _ ⟨pgs, _, rfl, rfl, rfl, h2, rfl, rfl⟩
      · simp only [c_push, c_null, c_iload, c_aload, c_istore, c_astore, c_iinc, c_iadd, c_isub, c_imul, c_iand, c_ineg, c_dup, c_dup2, c_pop, c_ifnull, c_ifnonnull, c_get, c_put, c_iald, c_zald, c_iast, c_zast, c_aald, c_aast, c_alen, c_new, c_newa, c_newq, c_mna, c_oinit, c_max, c_copy, c_iret, c_zret, c_aret, c_vret, q_do, q_rc, c_ifeq, c_ifne, c_iflt, c_ifge, c_ifgt, c_ifle, c_iceq, c_icne, c_iclt, c_icge, c_icgt, c_icle, c_call0, c_call1, c_call2, c_call3, c_call4, c_call5, c_call6, c_call7, q_L0, List.map_cons, List.map_nil, List.replicate, List.cons_append, List.nil_append, List.append_nil, List.length_cons, List.length_nil, List.length_set, Nat.reduceSub, Nat.reduceAdd, Nat.reduceLT, Nat.reduceLeDiff, Nat.zero_add, Nat.add_zero, Nat.sub_zero, Nat.sub_self, List.getElem?_cons_zero, List.getElem?_cons_succ, List.set_cons_zero, List.set_cons_succ, Option.toList_some, Option.toList_none, List.sum_cons, List.sum_nil, true_and, and_true, true_or, or_true, Nat.le_refl, Nat.zero_le, Value.category, Fin.isValue, Fin.val_zero, Fin.val_one, Fin.val_two, Fin.reduceFinMk, q_10, q_01, not_false_eq_true, not_true_eq_false, forall_const, true_implies, false_implies, implies_true, q_ni, q_fi, q_nb0, q_nb1, q_fb0, q_fb1, q_nor, q_nar, q_for, q_far, q_non, q_nan, q_fon, q_fan, imp_false, false_and, and_false, and_self, false_or, or_false, va_rf, refKind]
        exact hK _ pgs.length _ _ _ _ _ ⟨pgs, _, rfl, rfl, rfl, h2, rfl, rfl⟩
    · rintro K m hK L st σ' cr sr ⟨r, v2, rfl, rfl, rfl, h8, h9, rfl⟩
      cases r with
      | nil =>
        have e : v2 = .null := h8
        subst e
        simp only [c_push, c_null, c_iload, c_aload, c_istore, c_astore, c_iinc, c_iadd, c_isub, c_imul, c_iand, c_ineg, c_dup, c_dup2, c_pop, c_ifnull, c_ifnonnull, c_get, c_put, c_iald, c_zald, c_iast, c_zast, c_aald, c_aast, c_alen, c_new, c_newa, c_newq, c_mna, c_oinit, c_max, c_copy, c_iret, c_zret, c_aret, c_vret, q_do, q_rc, c_ifeq, c_ifne, c_iflt, c_ifge, c_ifgt, c_ifle, c_iceq, c_icne, c_iclt, c_icge, c_icgt, c_icle, c_call0, c_call1, c_call2, c_call3, c_call4, c_call5, c_call6, c_call7, q_L0, List.map_cons, List.map_nil, List.replicate, List.cons_append, List.nil_append, List.append_nil, List.length_cons, List.length_nil, List.length_set, Nat.reduceSub, Nat.reduceAdd, Nat.reduceLT, Nat.reduceLeDiff, Nat.zero_add, Nat.add_zero, Nat.sub_zero, Nat.sub_self, List.getElem?_cons_zero, List.getElem?_cons_succ, List.set_cons_zero, List.set_cons_succ, Option.toList_some, Option.toList_none, List.sum_cons, List.sum_nil, true_and, and_true, true_or, or_true, Nat.le_refl, Nat.zero_le, Value.category, Fin.isValue, Fin.val_zero, Fin.val_one, Fin.val_two, Fin.reduceFinMk, q_10, q_01, not_false_eq_true, not_true_eq_false, forall_const, true_implies, false_implies, implies_true, q_ni, q_fi, q_nb0, q_nb1, q_fb0, q_fb1, q_nor, q_nar, q_for, q_far, q_non, q_nan, q_fon, q_fan, imp_false, false_and, and_false, and_self, false_or, or_false, va_rf, refKind, k_X8_ownedOn_0, k_X8_ownedOn_5, q_fld, q_fset, q_oc, q_ai, q_aq, q_len, q_up_s, q_up_up, if_true]
        rw [← h9] at h7
        exact h7
      | cons x r =>
        obtain ⟨nv, e, g1, g2, g3⟩ := h8
        subst e
        have hv2 : (∃ a, nv = .ref a) ∨ nv = .null := by
          cases r with
          | nil => exact Or.inr g3
          | cons x r => obtain ⟨nv, e, -⟩ := g3; exact Or.inl ⟨_, e⟩
        rw [pvF] at h9
        simp only [c_push, c_null, c_iload, c_aload, c_istore, c_astore, c_iinc, c_iadd, c_isub, c_imul, c_iand, c_ineg, c_dup, c_dup2, c_pop, c_ifnull, c_ifnonnull, c_get, c_put, c_iald, c_zald, c_iast, c_zast, c_aald, c_aast, c_alen, c_new, c_newa, c_newq, c_mna, c_oinit, c_max, c_copy, c_iret, c_zret, c_aret, c_vret, q_do, q_rc, c_ifeq, c_ifne, c_iflt, c_ifge, c_ifgt, c_ifle, c_iceq, c_icne, c_iclt, c_icge, c_icgt, c_icle, c_call0, c_call1, c_call2, c_call3, c_call4, c_call5, c_call6, c_call7, q_L0, List.map_cons, List.map_nil, List.replicate, List.cons_append, List.nil_append, List.append_nil, List.length_cons, List.length_nil, List.length_set, Nat.reduceSub, Nat.reduceAdd, Nat.reduceLT, Nat.reduceLeDiff, Nat.zero_add, Nat.add_zero, Nat.sub_zero, Nat.sub_self, List.getElem?_cons_zero, List.getElem?_cons_succ, List.set_cons_zero, List.set_cons_succ, Option.toList_some, Option.toList_none, List.sum_cons, List.sum_nil, true_and, and_true, true_or, or_true, Nat.le_refl, Nat.zero_le, Value.category, Fin.isValue, Fin.val_zero, Fin.val_one, Fin.val_two, Fin.reduceFinMk, q_10, q_01, not_false_eq_true, not_true_eq_false, forall_const, true_implies, false_implies, implies_true, q_ni, q_fi, q_nb0, q_nb1, q_fb0, q_fb1, q_nor, q_nar, q_for, q_far, q_non, q_nan, q_fon, q_fan, imp_false, false_and, and_false, and_self, false_or, or_false, va_rf, refKind, k_X8_ownedOn_0, k_X8_ownedOn_5, q_fld, q_fset, q_oc, q_ai, q_aq, q_len, q_up_s, q_up_up, if_true, g1.2, g2.2, s_X6_sharesOf]
        refine ⟨fun c => ?_, fun c => ?_⟩
        · rw [if_neg (by grind)] at h9
          rcases hv2 with ⟨a, rfl⟩ | rfl
          · simp only [c_push, c_null, c_iload, c_aload, c_istore, c_astore, c_iinc, c_iadd, c_isub, c_imul, c_iand, c_ineg, c_dup, c_dup2, c_pop, c_ifnull, c_ifnonnull, c_get, c_put, c_iald, c_zald, c_iast, c_zast, c_aald, c_aast, c_alen, c_new, c_newa, c_newq, c_mna, c_oinit, c_max, c_copy, c_iret, c_zret, c_aret, c_vret, q_do, q_rc, c_ifeq, c_ifne, c_iflt, c_ifge, c_ifgt, c_ifle, c_iceq, c_icne, c_iclt, c_icge, c_icgt, c_icle, c_call0, c_call1, c_call2, c_call3, c_call4, c_call5, c_call6, c_call7, q_L0, List.map_cons, List.map_nil, List.replicate, List.cons_append, List.nil_append, List.append_nil, List.length_cons, List.length_nil, List.length_set, Nat.reduceSub, Nat.reduceAdd, Nat.reduceLT, Nat.reduceLeDiff, Nat.zero_add, Nat.add_zero, Nat.sub_zero, Nat.sub_self, List.getElem?_cons_zero, List.getElem?_cons_succ, List.set_cons_zero, List.set_cons_succ, Option.toList_some, Option.toList_none, List.sum_cons, List.sum_nil, true_and, and_true, true_or, or_true, Nat.le_refl, Nat.zero_le, Value.category, Fin.isValue, Fin.val_zero, Fin.val_one, Fin.val_two, Fin.reduceFinMk, q_10, q_01, not_false_eq_true, not_true_eq_false, forall_const, true_implies, false_implies, implies_true, q_ni, q_fi, q_nb0, q_nb1, q_fb0, q_fb1, q_nor, q_nar, q_for, q_far, q_non, q_nan, q_fon, q_fan, imp_false, false_and, and_false, and_self, false_or, or_false, va_rf, refKind]
            exact hK _ r.length _ _ _ _ _ (by simp) ⟨r, _, rfl, rfl, rfl, g3, h9, rfl⟩
          · simp only [c_push, c_null, c_iload, c_aload, c_istore, c_astore, c_iinc, c_iadd, c_isub, c_imul, c_iand, c_ineg, c_dup, c_dup2, c_pop, c_ifnull, c_ifnonnull, c_get, c_put, c_iald, c_zald, c_iast, c_zast, c_aald, c_aast, c_alen, c_new, c_newa, c_newq, c_mna, c_oinit, c_max, c_copy, c_iret, c_zret, c_aret, c_vret, q_do, q_rc, c_ifeq, c_ifne, c_iflt, c_ifge, c_ifgt, c_ifle, c_iceq, c_icne, c_iclt, c_icge, c_icgt, c_icle, c_call0, c_call1, c_call2, c_call3, c_call4, c_call5, c_call6, c_call7, q_L0, List.map_cons, List.map_nil, List.replicate, List.cons_append, List.nil_append, List.append_nil, List.length_cons, List.length_nil, List.length_set, Nat.reduceSub, Nat.reduceAdd, Nat.reduceLT, Nat.reduceLeDiff, Nat.zero_add, Nat.add_zero, Nat.sub_zero, Nat.sub_self, List.getElem?_cons_zero, List.getElem?_cons_succ, List.set_cons_zero, List.set_cons_succ, Option.toList_some, Option.toList_none, List.sum_cons, List.sum_nil, true_and, and_true, true_or, or_true, Nat.le_refl, Nat.zero_le, Value.category, Fin.isValue, Fin.val_zero, Fin.val_one, Fin.val_two, Fin.reduceFinMk, q_10, q_01, not_false_eq_true, not_true_eq_false, forall_const, true_implies, false_implies, implies_true, q_ni, q_fi, q_nb0, q_nb1, q_fb0, q_fb1, q_nor, q_nar, q_for, q_far, q_non, q_nan, q_fon, q_fan, imp_false, false_and, and_false, and_self, false_or, or_false, va_rf, refKind]
            exact hK _ r.length _ _ _ _ _ (by simp) ⟨r, _, rfl, rfl, rfl, g3, h9, rfl⟩
        · rw [if_pos (by grind)] at h9
          rw [← h9] at h7
          exact h7
  · exact h.elim)
