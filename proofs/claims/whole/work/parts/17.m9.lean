-- alike, copied
def F_alike (z : Nat → Int32) (g : Nat → Nat → Int32) (a b : Int32) : Int32 := if isW z a ∧ isW z b then nI (RNg g a.toNatClampNeg b.toNatClampNeg 0 0) else -2
def s_X11_alike : q_Sp := fun av σ post => match av with
  | [.ref mr, .int a, .int b] => ∃ ad z g, mOK σ mr ad z g ∧ I1 z ∧ LM z g ∧ LV z g ∧ ∀ σ', mOK σ' mr ad z g → post (some (.int (F_alike z g a b))) σ'
  | _ => False
theorem w9_103 : (.code yX11_layRest cX11_layRest 6 none : Cond) ∈ lw_tbl := by decide +kernel
theorem w9_104 : (.methodLink RX11 174 yX11_layRest : Cond) ∈ lw_tbl := by decide +kernel
theorem w9_105 : (.instanceMethod yX11_layRest : Cond) ∈ lw_tbl := by decide +kernel
theorem w9_106 : (.selects RX11 yX11_layRest yX11_layRest : Cond) ∈ lw_tbl := by decide +kernel
def rm_X11_alike : Room := { frames := 2, cells := 0, slots := 0, locals := 50 }
def k_X11_alike_16 (post : Option Value → q_S → Prop) (K : Nat → q_K) : q_K := (c_push (-2) (c_iret post))
def k_X11_alike_0 (post : Option Value → q_S → Prop) (K : Nat → q_K) : q_K := (c_aload 0 (c_iload 1 (c_call2 (some 11) s_X11_isWork 0 0 (c_ifeq (k_X11_alike_16 post K) (c_aload 0 (c_iload 2 (c_call2 (some 11) s_X11_isWork 0 0 (c_ifne (c_aload 0 (c_iload 1 (c_iload 2 (c_call3 (some 11) s_X11_layRest 0 0 (c_aload 0 (c_get 11 34 (c_push 0 (c_iald (c_iret post))))))))) (k_X11_alike_16 post K)))))))))
set_option maxRecDepth 100000 in
theorem v_X11_alike_16 {p : Program} {l : Launch} {e : Env} {s : State} {m : MethodId} {args : Array Value} {below : List Frame} {meth : Method} {c : Code} {D : va_G} {A : Nat → Prop} {post : Option Value → q_S → Prop} {K : Nat → q_K} (C : q_C p s m args meth c cX11_alike 3 RX11 "alike" (some .int) A) (hK : ∀ h ∈ ([] : List Nat), q_V p l e rm_X11_alike s m args below meth c D A 3 (MQ below (q_Qc D A post) args s rm_X11_alike.cells rm_X11_alike.slots A) h (K h)) : q_V p l e rm_X11_alike s m args below meth c D A 3 (MQ below (q_Qc D A post) args s rm_X11_alike.cells rm_X11_alike.slots A) 16 (k_X11_alike_16 post K) := by
  unfold k_X11_alike_16
  refine q_bipush C (by decide +kernel : decode cX11_alike 16 = .ok (.bipush (-2), 2)) (by decide) ?_
  exact q_iret C rfl (by decide +kernel : decode cX11_alike 18 = .ok (.ireturn, 1))
set_option maxRecDepth 100000 in
theorem v_X11_alike_0 {p : Program} {l : Launch} {e : Env} {s : State} {m : MethodId} {args : Array Value} {below : List Frame} {meth : Method} {c : Code} {D : va_G} {A : Nat → Prop} {post : Option Value → q_S → Prop} {K : Nat → q_K} (C : q_C p s m args meth c cX11_alike 3 RX11 "alike" (some .int) A) (hK : ∀ h ∈ ([] : List Nat), q_V p l e rm_X11_alike s m args below meth c D A 3 (MQ below (q_Qc D A post) args s rm_X11_alike.cells rm_X11_alike.slots A) h (K h)) : q_V p l e rm_X11_alike s m args below meth c D A 3 (MQ below (q_Qc D A post) args s rm_X11_alike.cells rm_X11_alike.slots A) 0 (k_X11_alike_0 post K) := by
  unfold k_X11_alike_0
  refine q_aload_n C (by decide +kernel : decode cX11_alike 0 = .ok (.aload_n 0, 1)) ?_
  refine q_iload_n C (by decide +kernel : decode cX11_alike 1 = .ok (.iload_n 1, 1)) ?_
  refine q_call2 C (q_coV C (np := 1) (ci := 11) (rc := (RX11, TX11, 35)) (t_X11_isWork l) w9_48 rfl rfl w9_49 w9_50 w9_51 w9_6 (by decide +kernel) (by decide +kernel : decode cX11_alike 2 = .ok (.invokevirtual 140, 3)) (by decide)) ?_
  refine q_ifeq C (tgt := 16) (by decide +kernel : decode cX11_alike 5 = .ok (.ifCond .eq 11, 3)) (by decide) ?_ ?_
  · exact v_X11_alike_16 C hK
  · refine q_aload_n C (by decide +kernel : decode cX11_alike 8 = .ok (.aload_n 0, 1)) ?_
    refine q_iload_n C (by decide +kernel : decode cX11_alike 9 = .ok (.iload_n 2, 1)) ?_
    refine q_call2 C (q_coV C (np := 1) (ci := 11) (rc := (RX11, TX11, 35)) (t_X11_isWork l) w9_48 rfl rfl w9_49 w9_50 w9_51 w9_6 (by decide +kernel) (by decide +kernel : decode cX11_alike 10 = .ok (.invokevirtual 140, 3)) (by decide)) ?_
    refine q_ifne C (tgt := 19) (by decide +kernel : decode cX11_alike 13 = .ok (.ifCond .ne 6, 3)) (by decide) ?_ ?_
    · refine q_aload_n C (by decide +kernel : decode cX11_alike 19 = .ok (.aload_n 0, 1)) ?_
      refine q_iload_n C (by decide +kernel : decode cX11_alike 20 = .ok (.iload_n 1, 1)) ?_
      refine q_iload_n C (by decide +kernel : decode cX11_alike 21 = .ok (.iload_n 2, 1)) ?_
      refine q_call3 C (q_coV C (np := 2) (ci := 11) (rc := (RX11, TX11, 35)) (t_X11_layRest l) w9_103 rfl rfl w9_104 w9_105 w9_106 w9_6 (by decide +kernel) (by decide +kernel : decode cX11_alike 22 = .ok (.invokevirtual 174, 3)) (by decide)) ?_
      refine q_aload_n C (by decide +kernel : decode cX11_alike 25 = .ok (.aload_n 0, 1)) ?_
      refine q_get C (ci := 11) (j := 34) (C0 := RX11) (T := TX11) (N := 35) rfl iX11 giX11 (by decide) w9_102 (by decide +kernel : decode cX11_alike 26 = .ok (.getfield 89, 3)) ?_
      refine q_iconst C (by decide +kernel : decode cX11_alike 29 = .ok (.iconst 0, 1)) (by decide) ?_
      refine q_iald C (by decide +kernel : decode cX11_alike 30 = .ok (.iaload, 1)) ?_
      exact q_iret C rfl (by decide +kernel : decode cX11_alike 31 = .ok (.ireturn, 1))
    · exact v_X11_alike_16 C hK
theorem u_X11_alike (l : Launch) {sp : q_Sp} (H : ∀ (av : List Value) (σ : q_S) (post : Option Value → q_S → Prop), sp av σ post → k_X11_alike_0 post (fun _ _ _ _ _ _ => False) (q_L0 av 3) [] σ 0 0 ∧ av.length ≤ 3 ∧ ∀ v ∈ av, v.category = 1) : q_Ct l yX11_alike cX11_alike 3 (some .int) rm_X11_alike sp := by
  refine q_met (by decide) ?_
  intro D A p e s m args below meth c σ av post C hsp
  obtain ⟨h1, h2, h3⟩ := H av σ post hsp
  exact ⟨_, v_X11_alike_0 (K := fun _ _ _ _ _ _ => False) C (fun h hh => by cases hh), h1, h2, h3⟩
theorem t_X11_alike (l : Launch) : q_Ct l yX11_alike cX11_alike 3 (some .int) rm_X11_alike s_X11_alike := u_X11_alike l (by
  intro av σ post h
  unfold s_X11_alike at h
  split at h
  · next mr a b =>
    refine ⟨?_, by simp, by simp [Value.category]⟩
    obtain ⟨ad, z, g, ⟨gp, r, hm⟩, hI, hLM, hLV, h1⟩ := h
    have hI0 := hI
    unfold I1 at hI
    unfold F_alike at h1
    simp only [c_push, c_null, c_iload, c_aload, c_istore, c_astore, c_iinc, c_iadd, c_isub, c_imul, c_iand, c_ineg, c_dup, c_dup2, c_pop, c_ifnull, c_ifnonnull, c_get, c_put, c_iald, c_zald, c_iast, c_zast, c_aald, c_aast, c_alen, c_new, c_newa, c_newq, c_mna, c_oinit, c_max, c_copy, c_iret, c_zret, c_aret, c_vret, q_do, q_rc, c_ifeq, c_ifne, c_iflt, c_ifge, c_ifgt, c_ifle, c_iceq, c_icne, c_iclt, c_icge, c_icgt, c_icle, c_call0, c_call1, c_call2, c_call3, c_call4, c_call5, c_call6, c_call7, q_L0, List.map_cons, List.map_nil, List.replicate, List.cons_append, List.nil_append, List.append_nil, List.length_cons, List.length_nil, List.length_set, Nat.reduceSub, Nat.reduceAdd, Nat.reduceLT, Nat.reduceLeDiff, Nat.zero_add, Nat.add_zero, Nat.sub_zero, Nat.sub_self, List.getElem?_cons_zero, List.getElem?_cons_succ, List.set_cons_zero, List.set_cons_succ, Option.toList_some, Option.toList_none, List.sum_cons, List.sum_nil, true_and, and_true, true_or, or_true, Nat.le_refl, Nat.zero_le, Value.category, Fin.isValue, Fin.val_zero, Fin.val_one, Fin.val_two, Fin.reduceFinMk, q_10, q_01, not_false_eq_true, not_true_eq_false, forall_const, true_implies, false_implies, implies_true, q_ni, q_fi, q_nb0, q_nb1, q_fb0, q_fb1, q_nor, q_nar, q_for, q_far, q_non, q_nan, q_fon, q_fan, imp_false, false_and, and_false, and_self, false_or, or_false, va_rf, refKind, k_X11_alike_0, k_X11_alike_16, hm.rd, s_X11_isWork]
    refine ⟨hI.2.2.2.1, fun c1 => ⟨hI.2.2.2.1, fun c2 => ?_, fun c2 => ?_⟩, fun c1 => ?_⟩
    · refine ⟨ad, z, g, gp, r, hm, hI0, c1, c2, hLM, hLV, fun σ' r' hm' hT => ?_⟩
      rw [if_pos ⟨c1, c2⟩] at h1
      have t0 := hT 0 0 (Nat.zero_le _) (Nat.zero_le _) trivial
      simp only [c_push, c_null, c_iload, c_aload, c_istore, c_astore, c_iinc, c_iadd, c_isub, c_imul, c_iand, c_ineg, c_dup, c_dup2, c_pop, c_ifnull, c_ifnonnull, c_get, c_put, c_iald, c_zald, c_iast, c_zast, c_aald, c_aast, c_alen, c_new, c_newa, c_newq, c_mna, c_oinit, c_max, c_copy, c_iret, c_zret, c_aret, c_vret, q_do, q_rc, c_ifeq, c_ifne, c_iflt, c_ifge, c_ifgt, c_ifle, c_iceq, c_icne, c_iclt, c_icge, c_icgt, c_icle, c_call0, c_call1, c_call2, c_call3, c_call4, c_call5, c_call6, c_call7, q_L0, List.map_cons, List.map_nil, List.replicate, List.cons_append, List.nil_append, List.append_nil, List.length_cons, List.length_nil, List.length_set, Nat.reduceSub, Nat.reduceAdd, Nat.reduceLT, Nat.reduceLeDiff, Nat.zero_add, Nat.add_zero, Nat.sub_zero, Nat.sub_self, List.getElem?_cons_zero, List.getElem?_cons_succ, List.set_cons_zero, List.set_cons_succ, Option.toList_some, Option.toList_none, List.sum_cons, List.sum_nil, true_and, and_true, true_or, or_true, Nat.le_refl, Nat.zero_le, Value.category, Fin.isValue, Fin.val_zero, Fin.val_one, Fin.val_two, Fin.reduceFinMk, q_10, q_01, not_false_eq_true, not_true_eq_false, forall_const, true_implies, false_implies, implies_true, q_ni, q_fi, q_nb0, q_nb1, q_fb0, q_fb1, q_nor, q_nar, q_for, q_far, q_non, q_nan, q_fon, q_fan, imp_false, false_and, and_false, and_self, false_or, or_false, va_rf, refKind, hm'.rd, vpi441]
      have e0 : (0 : Int32).toNatClampNeg = 0 := rfl
      rw [e0, t0]
      exact ⟨by decide, h1 _ ⟨gp, r', hm'⟩⟩
    · rw [if_neg (fun h => c2 h.2)] at h1
      exact h1 _ ⟨gp, r, hm⟩
    · rw [if_neg (fun h => c1 h.1)] at h1
      exact h1 _ ⟨gp, r, hm⟩
  · exact h.elim)
def ownF (g : Nat → Nat → Int32) (a : Nat) : Nat → Int32
  | 0 => 0
  | i + 1 => ownF g a i + (if g 32 (g 30 (20 * a + i)).toNatClampNeg = 0 then 1 else 0)
def F_copied (z : Nat → Int32) (g : Nat → Nat → Int32) (a b p : Int32) : Int32 := if isW z a ∧ isW z b ∧ 1 ≤ p ∧ p ≤ 100 then if 0 < nI (RNg g a.toNatClampNeg b.toNatClampNeg 0 0) ∧ p * ownF g a.toNatClampNeg (lmN g a.toNatClampNeg) ≤ 100 * nI (RNg g a.toNatClampNeg b.toNatClampNeg 0 0) then 1 else 0 else -2
def s_X11_copied : q_Sp := fun av σ post => match av with
  | [.ref mr, .int a, .int b, .int p] => ∃ ad z g, mOK σ mr ad z g ∧ I1 z ∧ LM z g ∧ LV z g ∧ ∀ σ', mOK σ' mr ad z g → post (some (.int (F_copied z g a b p))) σ'
  | _ => False
def rm_X11_copied : Room := { frames := 2, cells := 0, slots := 0, locals := 50 }
def k_X11_copied_26 (post : Option Value → q_S → Prop) (K : Nat → q_K) : q_K := (c_push (-2) (c_iret post))
def k_X11_copied_29 (post : Option Value → q_S → Prop) (K : Nat → q_K) : q_K := (c_aload 0 (c_iload 1 (c_iload 2 (c_call3 (some 11) s_X11_layRest 0 0 (c_push 0 (c_istore 4 (c_push 0 (c_istore 5 (K 41)))))))))
def k_X11_copied_0 (post : Option Value → q_S → Prop) (K : Nat → q_K) : q_K := (c_aload 0 (c_iload 1 (c_call2 (some 11) s_X11_isWork 0 0 (c_ifeq (k_X11_copied_26 post K) (c_aload 0 (c_iload 2 (c_call2 (some 11) s_X11_isWork 0 0 (c_ifeq (k_X11_copied_26 post K) (c_iload 3 (c_push 1 (c_push 100 (c_call3 none s_X11_in 0 0 (c_ifne (k_X11_copied_29 post K) (k_X11_copied_26 post K))))))))))))))
def k_X11_copied_79 (post : Option Value → q_S → Prop) (K : Nat → q_K) : q_K := (c_iadd (c_istore 4 (c_iinc 5 1 (K 41))))
def k_X11_copied_118 (post : Option Value → q_S → Prop) (K : Nat → q_K) : q_K := (c_iret post)
def k_X11_copied_117 (post : Option Value → q_S → Prop) (K : Nat → q_K) : q_K := (c_push 0 (k_X11_copied_118 post K))
def k_X11_copied_41 (post : Option Value → q_S → Prop) (K : Nat → q_K) : q_K := (c_iload 5 (c_aload 0 (c_get 11 29 (c_iload 1 (c_iald (c_icge (c_aload 0 (c_get 11 34 (c_push 0 (c_iald (c_ifle (k_X11_copied_117 post K) (c_push 100 (c_aload 0 (c_get 11 34 (c_push 0 (c_iald (c_imul (c_iload 3 (c_iload 4 (c_imul (c_iclt (k_X11_copied_117 post K) (c_push 1 (k_X11_copied_118 post K))))))))))))))))) (c_iload 4 (c_aload 0 (c_get 11 32 (c_aload 0 (c_get 11 30 (c_push 20 (c_iload 1 (c_imul (c_iload 5 (c_iadd (c_iald (c_zald (c_ifeq (c_push 1 (k_X11_copied_79 post K)) (c_push 0 (k_X11_copied_79 post K)))))))))))))))))))))
set_option maxRecDepth 100000 in
theorem v_X11_copied_26 {p : Program} {l : Launch} {e : Env} {s : State} {m : MethodId} {args : Array Value} {below : List Frame} {meth : Method} {c : Code} {D : va_G} {A : Nat → Prop} {post : Option Value → q_S → Prop} {K : Nat → q_K} (C : q_C p s m args meth c cX11_copied 6 RX11 "copied" (some .int) A) (hK : ∀ h ∈ ([41] : List Nat), q_V p l e rm_X11_copied s m args below meth c D A 6 (MQ below (q_Qc D A post) args s rm_X11_copied.cells rm_X11_copied.slots A) h (K h)) : q_V p l e rm_X11_copied s m args below meth c D A 6 (MQ below (q_Qc D A post) args s rm_X11_copied.cells rm_X11_copied.slots A) 26 (k_X11_copied_26 post K) := by
  unfold k_X11_copied_26
  refine q_bipush C (by decide +kernel : decode cX11_copied 26 = .ok (.bipush (-2), 2)) (by decide) ?_
  exact q_iret C rfl (by decide +kernel : decode cX11_copied 28 = .ok (.ireturn, 1))
set_option maxRecDepth 100000 in
theorem v_X11_copied_29 {p : Program} {l : Launch} {e : Env} {s : State} {m : MethodId} {args : Array Value} {below : List Frame} {meth : Method} {c : Code} {D : va_G} {A : Nat → Prop} {post : Option Value → q_S → Prop} {K : Nat → q_K} (C : q_C p s m args meth c cX11_copied 6 RX11 "copied" (some .int) A) (hK : ∀ h ∈ ([41] : List Nat), q_V p l e rm_X11_copied s m args below meth c D A 6 (MQ below (q_Qc D A post) args s rm_X11_copied.cells rm_X11_copied.slots A) h (K h)) : q_V p l e rm_X11_copied s m args below meth c D A 6 (MQ below (q_Qc D A post) args s rm_X11_copied.cells rm_X11_copied.slots A) 29 (k_X11_copied_29 post K) := by
  unfold k_X11_copied_29
  refine q_aload_n C (by decide +kernel : decode cX11_copied 29 = .ok (.aload_n 0, 1)) ?_
  refine q_iload_n C (by decide +kernel : decode cX11_copied 30 = .ok (.iload_n 1, 1)) ?_
  refine q_iload_n C (by decide +kernel : decode cX11_copied 31 = .ok (.iload_n 2, 1)) ?_
  refine q_call3 C (q_coV C (np := 2) (ci := 11) (rc := (RX11, TX11, 35)) (t_X11_layRest l) w9_103 rfl rfl w9_104 w9_105 w9_106 w9_6 (by decide +kernel) (by decide +kernel : decode cX11_copied 32 = .ok (.invokevirtual 174, 3)) (by decide)) ?_
  refine q_iconst C (by decide +kernel : decode cX11_copied 35 = .ok (.iconst 0, 1)) (by decide) ?_
  refine q_istore C (by decide +kernel : decode cX11_copied 36 = .ok (.istore 4, 2)) ?_
  refine q_iconst C (by decide +kernel : decode cX11_copied 38 = .ok (.iconst 0, 1)) (by decide) ?_
  refine q_istore C (by decide +kernel : decode cX11_copied 39 = .ok (.istore 5, 2)) ?_
  exact hK 41 (by decide)
set_option maxRecDepth 100000 in
theorem v_X11_copied_0 {p : Program} {l : Launch} {e : Env} {s : State} {m : MethodId} {args : Array Value} {below : List Frame} {meth : Method} {c : Code} {D : va_G} {A : Nat → Prop} {post : Option Value → q_S → Prop} {K : Nat → q_K} (C : q_C p s m args meth c cX11_copied 6 RX11 "copied" (some .int) A) (hK : ∀ h ∈ ([41] : List Nat), q_V p l e rm_X11_copied s m args below meth c D A 6 (MQ below (q_Qc D A post) args s rm_X11_copied.cells rm_X11_copied.slots A) h (K h)) : q_V p l e rm_X11_copied s m args below meth c D A 6 (MQ below (q_Qc D A post) args s rm_X11_copied.cells rm_X11_copied.slots A) 0 (k_X11_copied_0 post K) := by
  unfold k_X11_copied_0
  refine q_aload_n C (by decide +kernel : decode cX11_copied 0 = .ok (.aload_n 0, 1)) ?_
  refine q_iload_n C (by decide +kernel : decode cX11_copied 1 = .ok (.iload_n 1, 1)) ?_
  refine q_call2 C (q_coV C (np := 1) (ci := 11) (rc := (RX11, TX11, 35)) (t_X11_isWork l) w9_48 rfl rfl w9_49 w9_50 w9_51 w9_6 (by decide +kernel) (by decide +kernel : decode cX11_copied 2 = .ok (.invokevirtual 140, 3)) (by decide)) ?_
  refine q_ifeq C (tgt := 26) (by decide +kernel : decode cX11_copied 5 = .ok (.ifCond .eq 21, 3)) (by decide) ?_ ?_
  · exact v_X11_copied_26 C hK
  · refine q_aload_n C (by decide +kernel : decode cX11_copied 8 = .ok (.aload_n 0, 1)) ?_
    refine q_iload_n C (by decide +kernel : decode cX11_copied 9 = .ok (.iload_n 2, 1)) ?_
    refine q_call2 C (q_coV C (np := 1) (ci := 11) (rc := (RX11, TX11, 35)) (t_X11_isWork l) w9_48 rfl rfl w9_49 w9_50 w9_51 w9_6 (by decide +kernel) (by decide +kernel : decode cX11_copied 10 = .ok (.invokevirtual 140, 3)) (by decide)) ?_
    refine q_ifeq C (tgt := 26) (by decide +kernel : decode cX11_copied 13 = .ok (.ifCond .eq 13, 3)) (by decide) ?_ ?_
    · exact v_X11_copied_26 C hK
    · refine q_iload_n C (by decide +kernel : decode cX11_copied 16 = .ok (.iload_n 3, 1)) ?_
      refine q_iconst C (by decide +kernel : decode cX11_copied 17 = .ok (.iconst 1, 1)) (by decide) ?_
      refine q_bipush C (by decide +kernel : decode cX11_copied 18 = .ok (.bipush 100, 2)) (by decide) ?_
      refine q_call3 C (q_coS C (np := 3) (t_X11_in l) w9_5 w9_8 w9_7 w9_6 (by decide +kernel) (by decide +kernel : decode cX11_copied 20 = .ok (.invokestatic 92, 3)) (by decide)) ?_
      refine q_ifne C (tgt := 29) (by decide +kernel : decode cX11_copied 23 = .ok (.ifCond .ne 6, 3)) (by decide) ?_ ?_
      · exact v_X11_copied_29 C hK
      · exact v_X11_copied_26 C hK
set_option maxRecDepth 100000 in
theorem v_X11_copied_79 {p : Program} {l : Launch} {e : Env} {s : State} {m : MethodId} {args : Array Value} {below : List Frame} {meth : Method} {c : Code} {D : va_G} {A : Nat → Prop} {post : Option Value → q_S → Prop} {K : Nat → q_K} (C : q_C p s m args meth c cX11_copied 6 RX11 "copied" (some .int) A) (hK : ∀ h ∈ ([41] : List Nat), q_V p l e rm_X11_copied s m args below meth c D A 6 (MQ below (q_Qc D A post) args s rm_X11_copied.cells rm_X11_copied.slots A) h (K h)) : q_V p l e rm_X11_copied s m args below meth c D A 6 (MQ below (q_Qc D A post) args s rm_X11_copied.cells rm_X11_copied.slots A) 79 (k_X11_copied_79 post K) := by
  unfold k_X11_copied_79
  refine q_iadd C (by decide +kernel : decode cX11_copied 79 = .ok (.iadd, 1)) ?_
  refine q_istore C (by decide +kernel : decode cX11_copied 80 = .ok (.istore 4, 2)) ?_
  refine q_iinc C (by decide +kernel : decode cX11_copied 82 = .ok (.iinc 5 1, 3)) (by decide) ?_
  refine q_goto C (tgt := 41) (by decide +kernel : decode cX11_copied 85 = .ok (.goto (-44), 3)) (by decide) ?_
  exact hK 41 (by decide)
set_option maxRecDepth 100000 in
theorem v_X11_copied_118 {p : Program} {l : Launch} {e : Env} {s : State} {m : MethodId} {args : Array Value} {below : List Frame} {meth : Method} {c : Code} {D : va_G} {A : Nat → Prop} {post : Option Value → q_S → Prop} {K : Nat → q_K} (C : q_C p s m args meth c cX11_copied 6 RX11 "copied" (some .int) A) (hK : ∀ h ∈ ([41] : List Nat), q_V p l e rm_X11_copied s m args below meth c D A 6 (MQ below (q_Qc D A post) args s rm_X11_copied.cells rm_X11_copied.slots A) h (K h)) : q_V p l e rm_X11_copied s m args below meth c D A 6 (MQ below (q_Qc D A post) args s rm_X11_copied.cells rm_X11_copied.slots A) 118 (k_X11_copied_118 post K) := by
  unfold k_X11_copied_118
  exact q_iret C rfl (by decide +kernel : decode cX11_copied 118 = .ok (.ireturn, 1))
set_option maxRecDepth 100000 in
theorem v_X11_copied_117 {p : Program} {l : Launch} {e : Env} {s : State} {m : MethodId} {args : Array Value} {below : List Frame} {meth : Method} {c : Code} {D : va_G} {A : Nat → Prop} {post : Option Value → q_S → Prop} {K : Nat → q_K} (C : q_C p s m args meth c cX11_copied 6 RX11 "copied" (some .int) A) (hK : ∀ h ∈ ([41] : List Nat), q_V p l e rm_X11_copied s m args below meth c D A 6 (MQ below (q_Qc D A post) args s rm_X11_copied.cells rm_X11_copied.slots A) h (K h)) : q_V p l e rm_X11_copied s m args below meth c D A 6 (MQ below (q_Qc D A post) args s rm_X11_copied.cells rm_X11_copied.slots A) 117 (k_X11_copied_117 post K) := by
  unfold k_X11_copied_117
  refine q_iconst C (by decide +kernel : decode cX11_copied 117 = .ok (.iconst 0, 1)) (by decide) ?_
  exact v_X11_copied_118 C hK
set_option maxRecDepth 100000 in
theorem v_X11_copied_41 {p : Program} {l : Launch} {e : Env} {s : State} {m : MethodId} {args : Array Value} {below : List Frame} {meth : Method} {c : Code} {D : va_G} {A : Nat → Prop} {post : Option Value → q_S → Prop} {K : Nat → q_K} (C : q_C p s m args meth c cX11_copied 6 RX11 "copied" (some .int) A) (hK : ∀ h ∈ ([41] : List Nat), q_V p l e rm_X11_copied s m args below meth c D A 6 (MQ below (q_Qc D A post) args s rm_X11_copied.cells rm_X11_copied.slots A) h (K h)) : q_V p l e rm_X11_copied s m args below meth c D A 6 (MQ below (q_Qc D A post) args s rm_X11_copied.cells rm_X11_copied.slots A) 41 (k_X11_copied_41 post K) := by
  unfold k_X11_copied_41
  refine q_iload C (by decide +kernel : decode cX11_copied 41 = .ok (.iload 5, 2)) ?_
  refine q_aload_n C (by decide +kernel : decode cX11_copied 43 = .ok (.aload_n 0, 1)) ?_
  refine q_get C (ci := 11) (j := 29) (C0 := RX11) (T := TX11) (N := 35) rfl iX11 giX11 (by decide) w9_30 (by decide +kernel : decode cX11_copied 44 = .ok (.getfield 80, 3)) ?_
  refine q_iload_n C (by decide +kernel : decode cX11_copied 47 = .ok (.iload_n 1, 1)) ?_
  refine q_iald C (by decide +kernel : decode cX11_copied 48 = .ok (.iaload, 1)) ?_
  refine q_icge C (tgt := 88) (by decide +kernel : decode cX11_copied 49 = .ok (.if_icmp .ge 39, 3)) (by decide) ?_ ?_
  · refine q_aload_n C (by decide +kernel : decode cX11_copied 88 = .ok (.aload_n 0, 1)) ?_
    refine q_get C (ci := 11) (j := 34) (C0 := RX11) (T := TX11) (N := 35) rfl iX11 giX11 (by decide) w9_102 (by decide +kernel : decode cX11_copied 89 = .ok (.getfield 89, 3)) ?_
    refine q_iconst C (by decide +kernel : decode cX11_copied 92 = .ok (.iconst 0, 1)) (by decide) ?_
    refine q_iald C (by decide +kernel : decode cX11_copied 93 = .ok (.iaload, 1)) ?_
    refine q_ifle C (tgt := 117) (by decide +kernel : decode cX11_copied 94 = .ok (.ifCond .le 23, 3)) (by decide) ?_ ?_
    · exact v_X11_copied_117 C hK
    · refine q_bipush C (by decide +kernel : decode cX11_copied 97 = .ok (.bipush 100, 2)) (by decide) ?_
      refine q_aload_n C (by decide +kernel : decode cX11_copied 99 = .ok (.aload_n 0, 1)) ?_
      refine q_get C (ci := 11) (j := 34) (C0 := RX11) (T := TX11) (N := 35) rfl iX11 giX11 (by decide) w9_102 (by decide +kernel : decode cX11_copied 100 = .ok (.getfield 89, 3)) ?_
      refine q_iconst C (by decide +kernel : decode cX11_copied 103 = .ok (.iconst 0, 1)) (by decide) ?_
      refine q_iald C (by decide +kernel : decode cX11_copied 104 = .ok (.iaload, 1)) ?_
      refine q_imul C (by decide +kernel : decode cX11_copied 105 = .ok (.imul, 1)) ?_
      refine q_iload_n C (by decide +kernel : decode cX11_copied 106 = .ok (.iload_n 3, 1)) ?_
      refine q_iload C (by decide +kernel : decode cX11_copied 107 = .ok (.iload 4, 2)) ?_
      refine q_imul C (by decide +kernel : decode cX11_copied 109 = .ok (.imul, 1)) ?_
      refine q_iclt C (tgt := 117) (by decide +kernel : decode cX11_copied 110 = .ok (.if_icmp .lt 7, 3)) (by decide) ?_ ?_
      · exact v_X11_copied_117 C hK
      · refine q_iconst C (by decide +kernel : decode cX11_copied 113 = .ok (.iconst 1, 1)) (by decide) ?_
        refine q_goto C (tgt := 118) (by decide +kernel : decode cX11_copied 114 = .ok (.goto 4, 3)) (by decide) ?_
        exact v_X11_copied_118 C hK
  · refine q_iload C (by decide +kernel : decode cX11_copied 52 = .ok (.iload 4, 2)) ?_
    refine q_aload_n C (by decide +kernel : decode cX11_copied 54 = .ok (.aload_n 0, 1)) ?_
    refine q_get C (ci := 11) (j := 32) (C0 := RX11) (T := TX11) (N := 35) rfl iX11 giX11 (by decide) w9_85 (by decide +kernel : decode cX11_copied 55 = .ok (.getfield 86, 3)) ?_
    refine q_aload_n C (by decide +kernel : decode cX11_copied 58 = .ok (.aload_n 0, 1)) ?_
    refine q_get C (ci := 11) (j := 30) (C0 := RX11) (T := TX11) (N := 35) rfl iX11 giX11 (by decide) w9_84 (by decide +kernel : decode cX11_copied 59 = .ok (.getfield 83, 3)) ?_
    refine q_bipush C (by decide +kernel : decode cX11_copied 62 = .ok (.bipush 20, 2)) (by decide) ?_
    refine q_iload_n C (by decide +kernel : decode cX11_copied 64 = .ok (.iload_n 1, 1)) ?_
    refine q_imul C (by decide +kernel : decode cX11_copied 65 = .ok (.imul, 1)) ?_
    refine q_iload C (by decide +kernel : decode cX11_copied 66 = .ok (.iload 5, 2)) ?_
    refine q_iadd C (by decide +kernel : decode cX11_copied 68 = .ok (.iadd, 1)) ?_
    refine q_iald C (by decide +kernel : decode cX11_copied 69 = .ok (.iaload, 1)) ?_
    refine q_zald C (by decide +kernel : decode cX11_copied 70 = .ok (.baload, 1)) ?_
    refine q_ifeq C (tgt := 78) (by decide +kernel : decode cX11_copied 71 = .ok (.ifCond .eq 7, 3)) (by decide) ?_ ?_
    · refine q_iconst C (by decide +kernel : decode cX11_copied 78 = .ok (.iconst 1, 1)) (by decide) ?_
      exact v_X11_copied_79 C hK
    · refine q_iconst C (by decide +kernel : decode cX11_copied 74 = .ok (.iconst 0, 1)) (by decide) ?_
      refine q_goto C (tgt := 79) (by decide +kernel : decode cX11_copied 75 = .ok (.goto 4, 3)) (by decide) ?_
      exact v_X11_copied_79 C hK
theorem u_X11_copied (l : Launch) {sp : q_Sp} (H : ∀ (av : List Value) (σ : q_S) (post : Option Value → q_S → Prop), sp av σ post → ∃ Inv : Nat → Nat → q_K, (∀ K : Nat → q_K, (∀ (h n : Nat) (L : List (Option Value)) (st : List Value) (σ : q_S) (cr sr : Nat), Inv h n L st σ cr sr → K h L st σ cr sr) → k_X11_copied_0 post K (q_L0 av 6) [] σ 0 0) ∧ (∀ (K : Nat → q_K) (n : Nat), (∀ (h m : Nat) (L : List (Option Value)) (st : List Value) (σ : q_S) (cr sr : Nat), m < n → Inv h m L st σ cr sr → K h L st σ cr sr) → ∀ (L : List (Option Value)) (st : List Value) (σ : q_S) (cr sr : Nat), Inv 41 n L st σ cr sr → k_X11_copied_41 post K L st σ cr sr) ∧ av.length ≤ 6 ∧ ∀ v ∈ av, v.category = 1) : q_Ct l yX11_copied cX11_copied 6 (some .int) rm_X11_copied sp := by
  refine q_met (by decide) ?_
  intro D A p e s m args below meth c σ av post C hsp
  obtain ⟨Inv, h1, hh41, h2, h3⟩ := H av σ post hsp
  have hV := q_loops (p := p) (l := l) (e := e) (R := rm_X11_copied) (s := s) (m := m) (args := args) (below := below) (meth := meth) (c := c) (D := D) (A := A) (nL := 6) (Q := MQ below (q_Qc D A post) args s rm_X11_copied.cells rm_X11_copied.slots A) [41] (fun h =>  k_X11_copied_41 post) (fun K hK h hh => ?_) Inv (fun n h hh => ?_)
  · exact ⟨_, v_X11_copied_0 C hV, h1 _ (fun h n L st σ cr sr hi => ⟨n, hi⟩), h2, h3⟩
  · have e9 : h = 41 := by simpa using hh
    subst e9
    exact v_X11_copied_41 C hK
  · have e9 : h = 41 := by simpa using hh
    subst e9
    exact hh41 (fun h L st σ cr sr => ∃ m : Nat, m < n ∧ Inv h m L st σ cr sr) n (fun h m L st σ cr sr hm hi => ⟨m, hm, hi⟩)
theorem t_X11_copied (l : Launch) : q_Ct l yX11_copied cX11_copied 6 (some .int) rm_X11_copied s_X11_copied := u_X11_copied l (by
  intro av σ post h
  unfold s_X11_copied at h
  split at h
  · next mr a b p =>
    obtain ⟨ad, z, g, ⟨gp, r, hm⟩, hI, hLM, hLV, h1⟩ := h
    have hI0 := hI
    unfold I1 at hI
    unfold F_copied at h1
    refine ⟨fun _ n L st σ' cr sr => ∃ (i : Nat) (r' : Nat → Int32), isW z a ∧ isW z b ∧ (1 ≤ p ∧ p ≤ 100) ∧ i ≤ lmN g a.toNatClampNeg ∧ n = lmN g a.toNatClampNeg - i ∧ mOKx σ' mr ad z g gp r' ∧ tabOK r' g a.toNatClampNeg b.toNatClampNeg (fun _ _ => True) ∧ st = [] ∧ L = [some (.ref mr), some (.int a), some (.int b), some (.int p), some (.int (ownF g a.toNatClampNeg i)), some (.int (nI i))], ?_, ?_, by simp, by simp [Value.category]⟩
    · intro K hK
      have JB : ¬ (isW z a ∧ isW z b ∧ 1 ≤ p ∧ p ≤ 100) → post (some (.int (-2))) σ := fun c => by
        rw [if_neg c] at h1
        exact h1 _ ⟨gp, r, hm⟩
      simp only [c_push, c_null, c_iload, c_aload, c_istore, c_astore, c_iinc, c_iadd, c_isub, c_imul, c_iand, c_ineg, c_dup, c_dup2, c_pop, c_ifnull, c_ifnonnull, c_get, c_put, c_iald, c_zald, c_iast, c_zast, c_aald, c_aast, c_alen, c_new, c_newa, c_newq, c_mna, c_oinit, c_max, c_copy, c_iret, c_zret, c_aret, c_vret, q_do, q_rc, c_ifeq, c_ifne, c_iflt, c_ifge, c_ifgt, c_ifle, c_iceq, c_icne, c_iclt, c_icge, c_icgt, c_icle, c_call0, c_call1, c_call2, c_call3, c_call4, c_call5, c_call6, c_call7, q_L0, List.map_cons, List.map_nil, List.replicate, List.cons_append, List.nil_append, List.append_nil, List.length_cons, List.length_nil, List.length_set, Nat.reduceSub, Nat.reduceAdd, Nat.reduceLT, Nat.reduceLeDiff, Nat.zero_add, Nat.add_zero, Nat.sub_zero, Nat.sub_self, List.getElem?_cons_zero, List.getElem?_cons_succ, List.set_cons_zero, List.set_cons_succ, Option.toList_some, Option.toList_none, List.sum_cons, List.sum_nil, true_and, and_true, true_or, or_true, Nat.le_refl, Nat.zero_le, Value.category, Fin.isValue, Fin.val_zero, Fin.val_one, Fin.val_two, Fin.reduceFinMk, q_10, q_01, not_false_eq_true, not_true_eq_false, forall_const, true_implies, false_implies, implies_true, q_ni, q_fi, q_nb0, q_nb1, q_fb0, q_fb1, q_nor, q_nar, q_for, q_far, q_non, q_nan, q_fon, q_fan, imp_false, false_and, and_false, and_self, false_or, or_false, va_rf, refKind, k_X11_copied_0, k_X11_copied_26, hm.rd, s_X11_isWork, s_X11_in, s_X10_isWithin]
      refine ⟨hI.2.2.2.1, fun c1 => ⟨hI.2.2.2.1, fun c2 => ⟨fun c3 => ?_, fun c => JB (by grind)⟩, fun c => JB (by grind)⟩, fun c => JB (by grind)⟩
      simp only [c_push, c_null, c_iload, c_aload, c_istore, c_astore, c_iinc, c_iadd, c_isub, c_imul, c_iand, c_ineg, c_dup, c_dup2, c_pop, c_ifnull, c_ifnonnull, c_get, c_put, c_iald, c_zald, c_iast, c_zast, c_aald, c_aast, c_alen, c_new, c_newa, c_newq, c_mna, c_oinit, c_max, c_copy, c_iret, c_zret, c_aret, c_vret, q_do, q_rc, c_ifeq, c_ifne, c_iflt, c_ifge, c_ifgt, c_ifle, c_iceq, c_icne, c_iclt, c_icge, c_icgt, c_icle, c_call0, c_call1, c_call2, c_call3, c_call4, c_call5, c_call6, c_call7, q_L0, List.map_cons, List.map_nil, List.replicate, List.cons_append, List.nil_append, List.append_nil, List.length_cons, List.length_nil, List.length_set, Nat.reduceSub, Nat.reduceAdd, Nat.reduceLT, Nat.reduceLeDiff, Nat.zero_add, Nat.add_zero, Nat.sub_zero, Nat.sub_self, List.getElem?_cons_zero, List.getElem?_cons_succ, List.set_cons_zero, List.set_cons_succ, Option.toList_some, Option.toList_none, List.sum_cons, List.sum_nil, true_and, and_true, true_or, or_true, Nat.le_refl, Nat.zero_le, Value.category, Fin.isValue, Fin.val_zero, Fin.val_one, Fin.val_two, Fin.reduceFinMk, q_10, q_01, not_false_eq_true, not_true_eq_false, forall_const, true_implies, false_implies, implies_true, q_ni, q_fi, q_nb0, q_nb1, q_fb0, q_fb1, q_nor, q_nar, q_for, q_far, q_non, q_nan, q_fon, q_fan, imp_false, false_and, and_false, and_self, false_or, or_false, va_rf, refKind, k_X11_copied_29, hm.rd]
      refine ⟨ad, z, g, gp, r, hm, hI0, c1, c2, hLM, hLV, fun σ' r' hm' hT => ?_⟩
      simp only [c_push, c_null, c_iload, c_aload, c_istore, c_astore, c_iinc, c_iadd, c_isub, c_imul, c_iand, c_ineg, c_dup, c_dup2, c_pop, c_ifnull, c_ifnonnull, c_get, c_put, c_iald, c_zald, c_iast, c_zast, c_aald, c_aast, c_alen, c_new, c_newa, c_newq, c_mna, c_oinit, c_max, c_copy, c_iret, c_zret, c_aret, c_vret, q_do, q_rc, c_ifeq, c_ifne, c_iflt, c_ifge, c_ifgt, c_ifle, c_iceq, c_icne, c_iclt, c_icge, c_icgt, c_icle, c_call0, c_call1, c_call2, c_call3, c_call4, c_call5, c_call6, c_call7, q_L0, List.map_cons, List.map_nil, List.replicate, List.cons_append, List.nil_append, List.append_nil, List.length_cons, List.length_nil, List.length_set, Nat.reduceSub, Nat.reduceAdd, Nat.reduceLT, Nat.reduceLeDiff, Nat.zero_add, Nat.add_zero, Nat.sub_zero, Nat.sub_self, List.getElem?_cons_zero, List.getElem?_cons_succ, List.set_cons_zero, List.set_cons_succ, Option.toList_some, Option.toList_none, List.sum_cons, List.sum_nil, true_and, and_true, true_or, or_true, Nat.le_refl, Nat.zero_le, Value.category, Fin.isValue, Fin.val_zero, Fin.val_one, Fin.val_two, Fin.reduceFinMk, q_10, q_01, not_false_eq_true, not_true_eq_false, forall_const, true_implies, false_implies, implies_true, q_ni, q_fi, q_nb0, q_nb1, q_fb0, q_fb1, q_nor, q_nar, q_for, q_far, q_non, q_nan, q_fon, q_fan, imp_false, false_and, and_false, and_self, false_or, or_false, va_rf, refKind]
      exact hK _ (lmN g a.toNatClampNeg) _ _ _ _ _ ⟨0, r', c1, c2, c3, Nat.zero_le _, rfl, hm', hT, rfl, rfl⟩
    · rintro K n hK L st σ' cr sr ⟨i, r', ha, hb, hp, hi, rfl, hm', hT, rfl, rfl⟩
      have ha2 : 0 ≤ a ∧ a < 20 := ⟨ha.1, by grind⟩
      have hla := hLM.at ha.1 ha.2 ha2.2
      have ela := nI_self hla.1
      have hA20 : lmN g a.toNatClampNeg ≤ 20 := clamp_le 20 hla.1 hla.2
      have han := clamp_lt 20 ha2.1 ha2.2
      have ean := nI_self ha2.1
      rw [if_pos ⟨ha, hb, hp⟩] at h1
      have h2 := h1 _ ⟨gp, r', hm'⟩
      have t0 := hT 0 0 (Nat.zero_le _) (Nat.zero_le _) trivial
      have e0 : (0 : Int32).toNatClampNeg = 0 := rfl
      have J : i < lmN g a.toNatClampNeg → k_X11_copied_79 post K [some (.ref mr), some (.int a), some (.int b), some (.int p), some (.int (ownF g a.toNatClampNeg i)), some (.int (nI i))] [.int (if g 32 (g 30 (20 * a.toNatClampNeg + i)).toNatClampNeg = 0 then 1 else 0), .int (ownF g a.toNatClampNeg i)] σ' cr sr := fun hlt => by
        simp only [c_push, c_null, c_iload, c_aload, c_istore, c_astore, c_iinc, c_iadd, c_isub, c_imul, c_iand, c_ineg, c_dup, c_dup2, c_pop, c_ifnull, c_ifnonnull, c_get, c_put, c_iald, c_zald, c_iast, c_zast, c_aald, c_aast, c_alen, c_new, c_newa, c_newq, c_mna, c_oinit, c_max, c_copy, c_iret, c_zret, c_aret, c_vret, q_do, q_rc, c_ifeq, c_ifne, c_iflt, c_ifge, c_ifgt, c_ifle, c_iceq, c_icne, c_iclt, c_icge, c_icgt, c_icle, c_call0, c_call1, c_call2, c_call3, c_call4, c_call5, c_call6, c_call7, q_L0, List.map_cons, List.map_nil, List.replicate, List.cons_append, List.nil_append, List.append_nil, List.length_cons, List.length_nil, List.length_set, Nat.reduceSub, Nat.reduceAdd, Nat.reduceLT, Nat.reduceLeDiff, Nat.zero_add, Nat.add_zero, Nat.sub_zero, Nat.sub_self, List.getElem?_cons_zero, List.getElem?_cons_succ, List.set_cons_zero, List.set_cons_succ, Option.toList_some, Option.toList_none, List.sum_cons, List.sum_nil, true_and, and_true, true_or, or_true, Nat.le_refl, Nat.zero_le, Value.category, Fin.isValue, Fin.val_zero, Fin.val_one, Fin.val_two, Fin.reduceFinMk, q_10, q_01, not_false_eq_true, not_true_eq_false, forall_const, true_implies, false_implies, implies_true, q_ni, q_fi, q_nb0, q_nb1, q_fb0, q_fb1, q_nor, q_nar, q_for, q_far, q_non, q_nan, q_fon, q_fan, imp_false, false_and, and_false, and_self, false_or, or_false, va_rf, refKind, k_X11_copied_79]
        exact hK _ (lmN g a.toNatClampNeg - (i + 1)) _ _ _ _ _ (by omega) ⟨i + 1, r', ha, hb, hp, by omega, rfl, hm', hT, rfl, by rw [nI_1, ownF]⟩
      have hx : i < 20 → (20 * a + nI i).toNatClampNeg = 20 * a.toNatClampNeg + i ∧ 0 ≤ 20 * a + nI i ∧ 20 * a + nI i < 400 := fun h => by
        have := at30 ha2 (i := nI i) ⟨nI_low (by omega), nI_ltN (N := 20) (by omega)⟩
        rw [clN (by omega)] at this
        exact ⟨this.2, this.1.1, this.1.2⟩
      simp only [c_push, c_null, c_iload, c_aload, c_istore, c_astore, c_iinc, c_iadd, c_isub, c_imul, c_iand, c_ineg, c_dup, c_dup2, c_pop, c_ifnull, c_ifnonnull, c_get, c_put, c_iald, c_zald, c_iast, c_zast, c_aald, c_aast, c_alen, c_new, c_newa, c_newq, c_mna, c_oinit, c_max, c_copy, c_iret, c_zret, c_aret, c_vret, q_do, q_rc, c_ifeq, c_ifne, c_iflt, c_ifge, c_ifgt, c_ifle, c_iceq, c_icne, c_iclt, c_icge, c_icgt, c_icle, c_call0, c_call1, c_call2, c_call3, c_call4, c_call5, c_call6, c_call7, q_L0, List.map_cons, List.map_nil, List.replicate, List.cons_append, List.nil_append, List.append_nil, List.length_cons, List.length_nil, List.length_set, Nat.reduceSub, Nat.reduceAdd, Nat.reduceLT, Nat.reduceLeDiff, Nat.zero_add, Nat.add_zero, Nat.sub_zero, Nat.sub_self, List.getElem?_cons_zero, List.getElem?_cons_succ, List.set_cons_zero, List.set_cons_succ, Option.toList_some, Option.toList_none, List.sum_cons, List.sum_nil, true_and, and_true, true_or, or_true, Nat.le_refl, Nat.zero_le, Value.category, Fin.isValue, Fin.val_zero, Fin.val_one, Fin.val_two, Fin.reduceFinMk, q_10, q_01, not_false_eq_true, not_true_eq_false, forall_const, true_implies, false_implies, implies_true, q_ni, q_fi, q_nb0, q_nb1, q_fb0, q_fb1, q_nor, q_nar, q_for, q_far, q_non, q_nan, q_fon, q_fan, imp_false, false_and, and_false, and_self, false_or, or_false, va_rf, refKind, k_X11_copied_41, k_X11_copied_117, k_X11_copied_118, hm'.rd, vpi20, vpi400, vpi441, vpi1000, ha2, e0, t0]
      rw [← ela, (cl2 (nI (lmN g a.toNatClampNeg)) (nI i) _ _ rfl rfl (by omega) (by omega)).1]
      refine ⟨fun c => ?_, fun c => ?_⟩
      · have e : i = lmN g a.toNatClampNeg := by omega
        rw [e]
        clear hK J hm' hx hT h1 t0
        grind
      · replace hx := hx (by omega)
        replace J := J (by omega)
        have hv := hLV a.toNatClampNeg i (by rw [ean]; exact ha.2) han (by omega)
        simp only [c_push, c_null, c_iload, c_aload, c_istore, c_astore, c_iinc, c_iadd, c_isub, c_imul, c_iand, c_ineg, c_dup, c_dup2, c_pop, c_ifnull, c_ifnonnull, c_get, c_put, c_iald, c_zald, c_iast, c_zast, c_aald, c_aast, c_alen, c_new, c_newa, c_newq, c_mna, c_oinit, c_max, c_copy, c_iret, c_zret, c_aret, c_vret, q_do, q_rc, c_ifeq, c_ifne, c_iflt, c_ifge, c_ifgt, c_ifle, c_iceq, c_icne, c_iclt, c_icge, c_icgt, c_icle, c_call0, c_call1, c_call2, c_call3, c_call4, c_call5, c_call6, c_call7, q_L0, List.map_cons, List.map_nil, List.replicate, List.cons_append, List.nil_append, List.append_nil, List.length_cons, List.length_nil, List.length_set, Nat.reduceSub, Nat.reduceAdd, Nat.reduceLT, Nat.reduceLeDiff, Nat.zero_add, Nat.add_zero, Nat.sub_zero, Nat.sub_self, List.getElem?_cons_zero, List.getElem?_cons_succ, List.set_cons_zero, List.set_cons_succ, Option.toList_some, Option.toList_none, List.sum_cons, List.sum_nil, true_and, and_true, true_or, or_true, Nat.le_refl, Nat.zero_le, Value.category, Fin.isValue, Fin.val_zero, Fin.val_one, Fin.val_two, Fin.reduceFinMk, q_10, q_01, not_false_eq_true, not_true_eq_false, forall_const, true_implies, false_implies, implies_true, q_ni, q_fi, q_nb0, q_nb1, q_fb0, q_fb1, q_nor, q_nar, q_for, q_far, q_non, q_nan, q_fon, q_fan, imp_false, false_and, and_false, and_self, false_or, or_false, va_rf, refKind, hx]
        refine ⟨by grind, fun c2 => ?_, fun c2 => ?_⟩
        all_goals simp only [c2, if_true, if_false] at J
        all_goals exact J
  · exact h.elim)
-- placeFor
def s_X11_placeFor : q_Sp := fun av σ post => match av with
  | [.ref mr, .int a, .int i, .int b, .int f, .int mo] => ∃ ad z g gp r, mOKx σ mr ad z g gp r ∧ I1 z ∧ isW z a ∧ isW z b ∧ LM z g ∧ LV z g ∧ tabOK r g a.toNatClampNeg b.toNatClampNeg (fun _ _ => True) ∧ ∃ (iN fN mN' : Nat), iN < lmN g a.toNatClampNeg ∧ fN ≤ lmN g b.toNatClampNeg ∧ mN' ≤ 1000 ∧ i = nI iN ∧ f = nI fN ∧ mo = nI mN' ∧
      (∀ j : Nat, fN ≤ j → j < lmN g b.toNatClampNeg → likB g a.toNatClampNeg b.toNatClampNeg iN j = true → mN' ≤ RNg g a.toNatClampNeg b.toNatClampNeg (iN + 1) (j + 1) → (∀ j' : Nat, fN ≤ j' → j' < j → ¬ (likB g a.toNatClampNeg b.toNatClampNeg iN j' = true ∧ mN' ≤ RNg g a.toNatClampNeg b.toNatClampNeg (iN + 1) (j' + 1))) → post (some (.int (nI j))) σ) ∧
      ((∀ j : Nat, fN ≤ j → j < lmN g b.toNatClampNeg → ¬ (likB g a.toNatClampNeg b.toNatClampNeg iN j = true ∧ mN' ≤ RNg g a.toNatClampNeg b.toNatClampNeg (iN + 1) (j + 1))) → post (some (.int (-1))) σ)
  | _ => False
def rm_X11_placeFor : Room := { frames := 1, cells := 0, slots := 0, locals := 25 }
def k_X11_placeFor_0 (post : Option Value → q_S → Prop) (K : Nat → q_K) : q_K := (c_iload 4 (c_istore 6 (K 4)))
def k_X11_placeFor_51 (post : Option Value → q_S → Prop) (K : Nat → q_K) : q_K := (c_iinc 6 1 (K 4))
def k_X11_placeFor_27 (post : Option Value → q_S → Prop) (K : Nat → q_K) : q_K := (c_aload 0 (c_get 11 34 (c_push 21 (c_iload 2 (c_push 1 (c_iadd (c_imul (c_iload 6 (c_iadd (c_push 1 (c_iadd (c_iald (c_iload 5 (c_iclt (k_X11_placeFor_51 post K) (c_iload 6 (c_iret post))))))))))))))))
def k_X11_placeFor_4 (post : Option Value → q_S → Prop) (K : Nat → q_K) : q_K := (c_iload 6 (c_aload 0 (c_get 11 29 (c_iload 3 (c_iald (c_icge (c_push (-1) (c_iret post)) (c_aload 0 (c_iload 1 (c_iload 2 (c_iload 3 (c_iload 6 (c_call5 (some 11) s_X11_areLike 0 0 (c_ifeq (k_X11_placeFor_51 post K) (k_X11_placeFor_27 post K))))))))))))))
set_option maxRecDepth 100000 in
theorem v_X11_placeFor_0 {p : Program} {l : Launch} {e : Env} {s : State} {m : MethodId} {args : Array Value} {below : List Frame} {meth : Method} {c : Code} {D : va_G} {A : Nat → Prop} {post : Option Value → q_S → Prop} {K : Nat → q_K} (C : q_C p s m args meth c cX11_placeFor 7 RX11 "placeFor" (some .int) A) (hK : ∀ h ∈ ([4] : List Nat), q_V p l e rm_X11_placeFor s m args below meth c D A 7 (MQ below (q_Qc D A post) args s rm_X11_placeFor.cells rm_X11_placeFor.slots A) h (K h)) : q_V p l e rm_X11_placeFor s m args below meth c D A 7 (MQ below (q_Qc D A post) args s rm_X11_placeFor.cells rm_X11_placeFor.slots A) 0 (k_X11_placeFor_0 post K) := by
  unfold k_X11_placeFor_0
  refine q_iload C (by decide +kernel : decode cX11_placeFor 0 = .ok (.iload 4, 2)) ?_
  refine q_istore C (by decide +kernel : decode cX11_placeFor 2 = .ok (.istore 6, 2)) ?_
  exact hK 4 (by decide)
set_option maxRecDepth 100000 in
theorem v_X11_placeFor_51 {p : Program} {l : Launch} {e : Env} {s : State} {m : MethodId} {args : Array Value} {below : List Frame} {meth : Method} {c : Code} {D : va_G} {A : Nat → Prop} {post : Option Value → q_S → Prop} {K : Nat → q_K} (C : q_C p s m args meth c cX11_placeFor 7 RX11 "placeFor" (some .int) A) (hK : ∀ h ∈ ([4] : List Nat), q_V p l e rm_X11_placeFor s m args below meth c D A 7 (MQ below (q_Qc D A post) args s rm_X11_placeFor.cells rm_X11_placeFor.slots A) h (K h)) : q_V p l e rm_X11_placeFor s m args below meth c D A 7 (MQ below (q_Qc D A post) args s rm_X11_placeFor.cells rm_X11_placeFor.slots A) 51 (k_X11_placeFor_51 post K) := by
  unfold k_X11_placeFor_51
  refine q_iinc C (by decide +kernel : decode cX11_placeFor 51 = .ok (.iinc 6 1, 3)) (by decide) ?_
  refine q_goto C (tgt := 4) (by decide +kernel : decode cX11_placeFor 54 = .ok (.goto (-50), 3)) (by decide) ?_
  exact hK 4 (by decide)
set_option maxRecDepth 100000 in
theorem v_X11_placeFor_27 {p : Program} {l : Launch} {e : Env} {s : State} {m : MethodId} {args : Array Value} {below : List Frame} {meth : Method} {c : Code} {D : va_G} {A : Nat → Prop} {post : Option Value → q_S → Prop} {K : Nat → q_K} (C : q_C p s m args meth c cX11_placeFor 7 RX11 "placeFor" (some .int) A) (hK : ∀ h ∈ ([4] : List Nat), q_V p l e rm_X11_placeFor s m args below meth c D A 7 (MQ below (q_Qc D A post) args s rm_X11_placeFor.cells rm_X11_placeFor.slots A) h (K h)) : q_V p l e rm_X11_placeFor s m args below meth c D A 7 (MQ below (q_Qc D A post) args s rm_X11_placeFor.cells rm_X11_placeFor.slots A) 27 (k_X11_placeFor_27 post K) := by
  unfold k_X11_placeFor_27
  refine q_aload_n C (by decide +kernel : decode cX11_placeFor 27 = .ok (.aload_n 0, 1)) ?_
  refine q_get C (ci := 11) (j := 34) (C0 := RX11) (T := TX11) (N := 35) rfl iX11 giX11 (by decide) w9_102 (by decide +kernel : decode cX11_placeFor 28 = .ok (.getfield 89, 3)) ?_
  refine q_bipush C (by decide +kernel : decode cX11_placeFor 31 = .ok (.bipush 21, 2)) (by decide) ?_
  refine q_iload_n C (by decide +kernel : decode cX11_placeFor 33 = .ok (.iload_n 2, 1)) ?_
  refine q_iconst C (by decide +kernel : decode cX11_placeFor 34 = .ok (.iconst 1, 1)) (by decide) ?_
  refine q_iadd C (by decide +kernel : decode cX11_placeFor 35 = .ok (.iadd, 1)) ?_
  refine q_imul C (by decide +kernel : decode cX11_placeFor 36 = .ok (.imul, 1)) ?_
  refine q_iload C (by decide +kernel : decode cX11_placeFor 37 = .ok (.iload 6, 2)) ?_
  refine q_iadd C (by decide +kernel : decode cX11_placeFor 39 = .ok (.iadd, 1)) ?_
  refine q_iconst C (by decide +kernel : decode cX11_placeFor 40 = .ok (.iconst 1, 1)) (by decide) ?_
  refine q_iadd C (by decide +kernel : decode cX11_placeFor 41 = .ok (.iadd, 1)) ?_
  refine q_iald C (by decide +kernel : decode cX11_placeFor 42 = .ok (.iaload, 1)) ?_
  refine q_iload C (by decide +kernel : decode cX11_placeFor 43 = .ok (.iload 5, 2)) ?_
  refine q_iclt C (tgt := 51) (by decide +kernel : decode cX11_placeFor 45 = .ok (.if_icmp .lt 6, 3)) (by decide) ?_ ?_
  · exact v_X11_placeFor_51 C hK
  · refine q_iload C (by decide +kernel : decode cX11_placeFor 48 = .ok (.iload 6, 2)) ?_
    exact q_iret C rfl (by decide +kernel : decode cX11_placeFor 50 = .ok (.ireturn, 1))
set_option maxRecDepth 100000 in
theorem v_X11_placeFor_4 {p : Program} {l : Launch} {e : Env} {s : State} {m : MethodId} {args : Array Value} {below : List Frame} {meth : Method} {c : Code} {D : va_G} {A : Nat → Prop} {post : Option Value → q_S → Prop} {K : Nat → q_K} (C : q_C p s m args meth c cX11_placeFor 7 RX11 "placeFor" (some .int) A) (hK : ∀ h ∈ ([4] : List Nat), q_V p l e rm_X11_placeFor s m args below meth c D A 7 (MQ below (q_Qc D A post) args s rm_X11_placeFor.cells rm_X11_placeFor.slots A) h (K h)) : q_V p l e rm_X11_placeFor s m args below meth c D A 7 (MQ below (q_Qc D A post) args s rm_X11_placeFor.cells rm_X11_placeFor.slots A) 4 (k_X11_placeFor_4 post K) := by
  unfold k_X11_placeFor_4
  refine q_iload C (by decide +kernel : decode cX11_placeFor 4 = .ok (.iload 6, 2)) ?_
  refine q_aload_n C (by decide +kernel : decode cX11_placeFor 6 = .ok (.aload_n 0, 1)) ?_
  refine q_get C (ci := 11) (j := 29) (C0 := RX11) (T := TX11) (N := 35) rfl iX11 giX11 (by decide) w9_30 (by decide +kernel : decode cX11_placeFor 7 = .ok (.getfield 80, 3)) ?_
  refine q_iload_n C (by decide +kernel : decode cX11_placeFor 10 = .ok (.iload_n 3, 1)) ?_
  refine q_iald C (by decide +kernel : decode cX11_placeFor 11 = .ok (.iaload, 1)) ?_
  refine q_icge C (tgt := 57) (by decide +kernel : decode cX11_placeFor 12 = .ok (.if_icmp .ge 45, 3)) (by decide) ?_ ?_
  · refine q_iconst C (by decide +kernel : decode cX11_placeFor 57 = .ok (.iconst (-1), 1)) (by decide) ?_
    exact q_iret C rfl (by decide +kernel : decode cX11_placeFor 58 = .ok (.ireturn, 1))
  · refine q_aload_n C (by decide +kernel : decode cX11_placeFor 15 = .ok (.aload_n 0, 1)) ?_
    refine q_iload_n C (by decide +kernel : decode cX11_placeFor 16 = .ok (.iload_n 1, 1)) ?_
    refine q_iload_n C (by decide +kernel : decode cX11_placeFor 17 = .ok (.iload_n 2, 1)) ?_
    refine q_iload_n C (by decide +kernel : decode cX11_placeFor 18 = .ok (.iload_n 3, 1)) ?_
    refine q_iload C (by decide +kernel : decode cX11_placeFor 19 = .ok (.iload 6, 2)) ?_
    refine q_call5 C (q_coV C (np := 4) (ci := 11) (rc := (RX11, TX11, 35)) (t_X11_areLike l) w9_98 rfl rfl w9_99 w9_100 w9_101 w9_6 (by decide +kernel) (by decide +kernel : decode cX11_placeFor 21 = .ok (.invokevirtual 170, 3)) (by decide)) ?_
    refine q_ifeq C (tgt := 51) (by decide +kernel : decode cX11_placeFor 24 = .ok (.ifCond .eq 27, 3)) (by decide) ?_ ?_
    · exact v_X11_placeFor_51 C hK
    · exact v_X11_placeFor_27 C hK
theorem u_X11_placeFor (l : Launch) {sp : q_Sp} (H : ∀ (av : List Value) (σ : q_S) (post : Option Value → q_S → Prop), sp av σ post → ∃ Inv : Nat → Nat → q_K, (∀ K : Nat → q_K, (∀ (h n : Nat) (L : List (Option Value)) (st : List Value) (σ : q_S) (cr sr : Nat), Inv h n L st σ cr sr → K h L st σ cr sr) → k_X11_placeFor_0 post K (q_L0 av 7) [] σ 0 0) ∧ (∀ (K : Nat → q_K) (n : Nat), (∀ (h m : Nat) (L : List (Option Value)) (st : List Value) (σ : q_S) (cr sr : Nat), m < n → Inv h m L st σ cr sr → K h L st σ cr sr) → ∀ (L : List (Option Value)) (st : List Value) (σ : q_S) (cr sr : Nat), Inv 4 n L st σ cr sr → k_X11_placeFor_4 post K L st σ cr sr) ∧ av.length ≤ 7 ∧ ∀ v ∈ av, v.category = 1) : q_Ct l yX11_placeFor cX11_placeFor 7 (some .int) rm_X11_placeFor sp := by
  refine q_met (by decide) ?_
  intro D A p e s m args below meth c σ av post C hsp
  obtain ⟨Inv, h1, hh4, h2, h3⟩ := H av σ post hsp
  have hV := q_loops (p := p) (l := l) (e := e) (R := rm_X11_placeFor) (s := s) (m := m) (args := args) (below := below) (meth := meth) (c := c) (D := D) (A := A) (nL := 7) (Q := MQ below (q_Qc D A post) args s rm_X11_placeFor.cells rm_X11_placeFor.slots A) [4] (fun h =>  k_X11_placeFor_4 post) (fun K hK h hh => ?_) Inv (fun n h hh => ?_)
  · exact ⟨_, v_X11_placeFor_0 C hV, h1 _ (fun h n L st σ cr sr hi => ⟨n, hi⟩), h2, h3⟩
  · have e9 : h = 4 := by simpa using hh
    subst e9
    exact v_X11_placeFor_4 C hK
  · have e9 : h = 4 := by simpa using hh
    subst e9
    exact hh4 (fun h L st σ cr sr => ∃ m : Nat, m < n ∧ Inv h m L st σ cr sr) n (fun h m L st σ cr sr hm hi => ⟨m, hm, hi⟩)
theorem t_X11_placeFor (l : Launch) : q_Ct l yX11_placeFor cX11_placeFor 7 (some .int) rm_X11_placeFor s_X11_placeFor := u_X11_placeFor l (by
  intro av σ post h
  unfold s_X11_placeFor at h
  split at h
  · next mr a i b f mo =>
    obtain ⟨ad, z, g, gp, r, hm, hI, ha, hb, hLM, hLV, hT, iN, fN, mN', hiN, hfN, hmN, rfl, rfl, rfl, h1, h2⟩ := h
    unfold I1 at hI
    have ha2 : 0 ≤ a ∧ a < 20 := ⟨ha.1, by grind⟩
    have hb2 : 0 ≤ b ∧ b < 20 := ⟨hb.1, by grind⟩
    have hla := hLM.at ha.1 ha.2 ha2.2
    have hlb := hLM.at hb.1 hb.2 hb2.2
    have elb := nI_self hlb.1
    have hA20 : lmN g a.toNatClampNeg ≤ 20 := clamp_le 20 hla.1 hla.2
    have hB20 : lmN g b.toNatClampNeg ≤ 20 := clamp_le 20 hlb.1 hlb.2
    have hLVa := hLV a.toNatClampNeg iN (by rw [nI_self ha.1]; exact ha.2) (clamp_lt 20 ha2.1 ha2.2) hiN
    generalize hae : a.toNatClampNeg = an at *
    generalize hbe : b.toNatClampNeg = bn at *
    have hRle : ∀ i j, RNg g an bn i j ≤ lmN g an - i := fun i j => RN_le (likB g an bn) (lmN g an) (lmN g bn) _ i j (Nat.le_refl _)
    refine ⟨fun _ n L st σ' cr sr => ∃ j : Nat, fN ≤ j ∧ j ≤ lmN g bn ∧ n = lmN g bn - j ∧ σ' = σ ∧ st = [] ∧ (∀ j' : Nat, fN ≤ j' → j' < j → ¬ (likB g an bn iN j' = true ∧ mN' ≤ RNg g an bn (iN + 1) (j' + 1))) ∧ L = [some (.ref mr), some (.int a), some (.int (nI iN)), some (.int b), some (.int (nI fN)), some (.int (nI mN')), some (.int (nI j))], ?_, ?_, by simp, by simp [Value.category]⟩
    · intro K hK
      simp only [c_push, c_null, c_iload, c_aload, c_istore, c_astore, c_iinc, c_iadd, c_isub, c_imul, c_iand, c_ineg, c_dup, c_dup2, c_pop, c_ifnull, c_ifnonnull, c_get, c_put, c_iald, c_zald, c_iast, c_zast, c_aald, c_aast, c_alen, c_new, c_newa, c_newq, c_mna, c_oinit, c_max, c_copy, c_iret, c_zret, c_aret, c_vret, q_do, q_rc, c_ifeq, c_ifne, c_iflt, c_ifge, c_ifgt, c_ifle, c_iceq, c_icne, c_iclt, c_icge, c_icgt, c_icle, c_call0, c_call1, c_call2, c_call3, c_call4, c_call5, c_call6, c_call7, q_L0, List.map_cons, List.map_nil, List.replicate, List.cons_append, List.nil_append, List.append_nil, List.length_cons, List.length_nil, List.length_set, Nat.reduceSub, Nat.reduceAdd, Nat.reduceLT, Nat.reduceLeDiff, Nat.zero_add, Nat.add_zero, Nat.sub_zero, Nat.sub_self, List.getElem?_cons_zero, List.getElem?_cons_succ, List.set_cons_zero, List.set_cons_succ, Option.toList_some, Option.toList_none, List.sum_cons, List.sum_nil, true_and, and_true, true_or, or_true, Nat.le_refl, Nat.zero_le, Value.category, Fin.isValue, Fin.val_zero, Fin.val_one, Fin.val_two, Fin.reduceFinMk, q_10, q_01, not_false_eq_true, not_true_eq_false, forall_const, true_implies, false_implies, implies_true, q_ni, q_fi, q_nb0, q_nb1, q_fb0, q_fb1, q_nor, q_nar, q_for, q_far, q_non, q_nan, q_fon, q_fan, imp_false, false_and, and_false, and_self, false_or, or_false, va_rf, refKind, k_X11_placeFor_0]
      exact hK _ (lmN g bn - fN) _ _ _ _ _ ⟨fN, Nat.le_refl _, hfN, rfl, rfl, rfl, fun j' h1 h2 => by omega, rfl⟩
    · rintro K n hK L st σ' cr sr ⟨j, hj0, hj, rfl, rfl, rfl, hno, rfl⟩
      have J51 : j < lmN g bn → ¬ (likB g an bn iN j = true ∧ mN' ≤ RNg g an bn (iN + 1) (j + 1)) → k_X11_placeFor_51 post K [some (.ref mr), some (.int a), some (.int (nI iN)), some (.int b), some (.int (nI fN)), some (.int (nI mN')), some (.int (nI j))] [] σ' cr sr := fun hlt hn => by
        simp only [c_push, c_null, c_iload, c_aload, c_istore, c_astore, c_iinc, c_iadd, c_isub, c_imul, c_iand, c_ineg, c_dup, c_dup2, c_pop, c_ifnull, c_ifnonnull, c_get, c_put, c_iald, c_zald, c_iast, c_zast, c_aald, c_aast, c_alen, c_new, c_newa, c_newq, c_mna, c_oinit, c_max, c_copy, c_iret, c_zret, c_aret, c_vret, q_do, q_rc, c_ifeq, c_ifne, c_iflt, c_ifge, c_ifgt, c_ifle, c_iceq, c_icne, c_iclt, c_icge, c_icgt, c_icle, c_call0, c_call1, c_call2, c_call3, c_call4, c_call5, c_call6, c_call7, q_L0, List.map_cons, List.map_nil, List.replicate, List.cons_append, List.nil_append, List.append_nil, List.length_cons, List.length_nil, List.length_set, Nat.reduceSub, Nat.reduceAdd, Nat.reduceLT, Nat.reduceLeDiff, Nat.zero_add, Nat.add_zero, Nat.sub_zero, Nat.sub_self, List.getElem?_cons_zero, List.getElem?_cons_succ, List.set_cons_zero, List.set_cons_succ, Option.toList_some, Option.toList_none, List.sum_cons, List.sum_nil, true_and, and_true, true_or, or_true, Nat.le_refl, Nat.zero_le, Value.category, Fin.isValue, Fin.val_zero, Fin.val_one, Fin.val_two, Fin.reduceFinMk, q_10, q_01, not_false_eq_true, not_true_eq_false, forall_const, true_implies, false_implies, implies_true, q_ni, q_fi, q_nb0, q_nb1, q_fb0, q_fb1, q_nor, q_nar, q_for, q_far, q_non, q_nan, q_fon, q_fan, imp_false, false_and, and_false, and_self, false_or, or_false, va_rf, refKind, k_X11_placeFor_51]
        exact hK _ (lmN g bn - (j + 1)) _ _ _ _ _ (by omega) ⟨j + 1, by omega, by omega, rfl, rfl, rfl, fun j' h1 h2 => by
          rcases Nat.lt_or_ge j' j with h | h
          · exact hno j' h1 h
          · have e : j' = j := by omega
            rw [e]; exact hn, by rw [nI_1]⟩
      simp only [c_push, c_null, c_iload, c_aload, c_istore, c_astore, c_iinc, c_iadd, c_isub, c_imul, c_iand, c_ineg, c_dup, c_dup2, c_pop, c_ifnull, c_ifnonnull, c_get, c_put, c_iald, c_zald, c_iast, c_zast, c_aald, c_aast, c_alen, c_new, c_newa, c_newq, c_mna, c_oinit, c_max, c_copy, c_iret, c_zret, c_aret, c_vret, q_do, q_rc, c_ifeq, c_ifne, c_iflt, c_ifge, c_ifgt, c_ifle, c_iceq, c_icne, c_iclt, c_icge, c_icgt, c_icle, c_call0, c_call1, c_call2, c_call3, c_call4, c_call5, c_call6, c_call7, q_L0, List.map_cons, List.map_nil, List.replicate, List.cons_append, List.nil_append, List.append_nil, List.length_cons, List.length_nil, List.length_set, Nat.reduceSub, Nat.reduceAdd, Nat.reduceLT, Nat.reduceLeDiff, Nat.zero_add, Nat.add_zero, Nat.sub_zero, Nat.sub_self, List.getElem?_cons_zero, List.getElem?_cons_succ, List.set_cons_zero, List.set_cons_succ, Option.toList_some, Option.toList_none, List.sum_cons, List.sum_nil, true_and, and_true, true_or, or_true, Nat.le_refl, Nat.zero_le, Value.category, Fin.isValue, Fin.val_zero, Fin.val_one, Fin.val_two, Fin.reduceFinMk, q_10, q_01, not_false_eq_true, not_true_eq_false, forall_const, true_implies, false_implies, implies_true, q_ni, q_fi, q_nb0, q_nb1, q_fb0, q_fb1, q_nor, q_nar, q_for, q_far, q_non, q_nan, q_fon, q_fan, imp_false, false_and, and_false, and_self, false_or, or_false, va_rf, refKind, k_X11_placeFor_4, hm.rd, vpi20, hb2, hbe]
      rw [← elb, (cl2 (nI (lmN g bn)) (nI j) _ _ rfl rfl (by omega) (by omega)).1]
      refine ⟨fun c => h2 (fun j' q1 q2 => hno j' q1 (by omega)), fun c => ?_⟩
      refine ⟨ad, z, g, gp, r, hm, ha2, hb2, ⟨nI_low (by omega), nI_ltN (N := 20) (by omega)⟩, ⟨nI_low (by omega), nI_ltN (N := 20) (by omega)⟩, ?_, ?_, ?_⟩
      · rw [hae, clN (by omega)]
        grind
      · rw [hae, hbe, clN (by omega), clN (by omega)]
        intro c9
        have x3 : (21 : Int32) * (nI iN + 1) + nI j + 1 = nI (21 * (iN + 1) + (j + 1)) := by rw [nI_1, idx34, nI_1]; rfl
        have b3 : 0 ≤ nI (21 * (iN + 1) + (j + 1)) ∧ nI (21 * (iN + 1) + (j + 1)) < 441 := ⟨nI_low (by omega), nI_ltN (N := 441) (by omega)⟩
        have c4 : (nI (21 * (iN + 1) + (j + 1))).toNatClampNeg = 21 * (iN + 1) + (j + 1) := clN (by omega)
        have t3 := hT (iN + 1) (j + 1) (by omega) (by omega) trivial
        have l3 := hRle (iN + 1) (j + 1)
        simp only [c_push, c_null, c_iload, c_aload, c_istore, c_astore, c_iinc, c_iadd, c_isub, c_imul, c_iand, c_ineg, c_dup, c_dup2, c_pop, c_ifnull, c_ifnonnull, c_get, c_put, c_iald, c_zald, c_iast, c_zast, c_aald, c_aast, c_alen, c_new, c_newa, c_newq, c_mna, c_oinit, c_max, c_copy, c_iret, c_zret, c_aret, c_vret, q_do, q_rc, c_ifeq, c_ifne, c_iflt, c_ifge, c_ifgt, c_ifle, c_iceq, c_icne, c_iclt, c_icge, c_icgt, c_icle, c_call0, c_call1, c_call2, c_call3, c_call4, c_call5, c_call6, c_call7, q_L0, List.map_cons, List.map_nil, List.replicate, List.cons_append, List.nil_append, List.append_nil, List.length_cons, List.length_nil, List.length_set, Nat.reduceSub, Nat.reduceAdd, Nat.reduceLT, Nat.reduceLeDiff, Nat.zero_add, Nat.add_zero, Nat.sub_zero, Nat.sub_self, List.getElem?_cons_zero, List.getElem?_cons_succ, List.set_cons_zero, List.set_cons_succ, Option.toList_some, Option.toList_none, List.sum_cons, List.sum_nil, true_and, and_true, true_or, or_true, Nat.le_refl, Nat.zero_le, Value.category, Fin.isValue, Fin.val_zero, Fin.val_one, Fin.val_two, Fin.reduceFinMk, q_10, q_01, not_false_eq_true, not_true_eq_false, forall_const, true_implies, false_implies, implies_true, q_ni, q_fi, q_nb0, q_nb1, q_fb0, q_fb1, q_nor, q_nar, q_for, q_far, q_non, q_nan, q_fon, q_fan, imp_false, false_and, and_false, and_self, false_or, or_false, va_rf, refKind, k_X11_placeFor_27, hm.rd, x3, vpi441, b3, c4, t3]
        have E := cl2 (nI (RNg g an bn (iN + 1) (j + 1))) (nI mN') _ _ rfl rfl (by omega) (by omega)
        rw [E.2.1]
        exact ⟨fun c => J51 (by omega) (by omega), fun c => h1 j hj0 (by omega) c9 (by omega) hno⟩
      · rw [hae, hbe, clN (by omega), clN (by omega)]
        intro c9
        simp only [c_push, c_null, c_iload, c_aload, c_istore, c_astore, c_iinc, c_iadd, c_isub, c_imul, c_iand, c_ineg, c_dup, c_dup2, c_pop, c_ifnull, c_ifnonnull, c_get, c_put, c_iald, c_zald, c_iast, c_zast, c_aald, c_aast, c_alen, c_new, c_newa, c_newq, c_mna, c_oinit, c_max, c_copy, c_iret, c_zret, c_aret, c_vret, q_do, q_rc, c_ifeq, c_ifne, c_iflt, c_ifge, c_ifgt, c_ifle, c_iceq, c_icne, c_iclt, c_icge, c_icgt, c_icle, c_call0, c_call1, c_call2, c_call3, c_call4, c_call5, c_call6, c_call7, q_L0, List.map_cons, List.map_nil, List.replicate, List.cons_append, List.nil_append, List.append_nil, List.length_cons, List.length_nil, List.length_set, Nat.reduceSub, Nat.reduceAdd, Nat.reduceLT, Nat.reduceLeDiff, Nat.zero_add, Nat.add_zero, Nat.sub_zero, Nat.sub_self, List.getElem?_cons_zero, List.getElem?_cons_succ, List.set_cons_zero, List.set_cons_succ, Option.toList_some, Option.toList_none, List.sum_cons, List.sum_nil, true_and, and_true, true_or, or_true, Nat.le_refl, Nat.zero_le, Value.category, Fin.isValue, Fin.val_zero, Fin.val_one, Fin.val_two, Fin.reduceFinMk, q_10, q_01, not_false_eq_true, not_true_eq_false, forall_const, true_implies, false_implies, implies_true, q_ni, q_fi, q_nb0, q_nb1, q_fb0, q_fb1, q_nor, q_nar, q_for, q_far, q_non, q_nan, q_fon, q_fan, imp_false, false_and, and_false, and_self, false_or, or_false, va_rf, refKind]
        exact J51 (by omega) (fun h => by rw [c9] at h; exact absurd h.1 (by decide))
  · exact h.elim)
