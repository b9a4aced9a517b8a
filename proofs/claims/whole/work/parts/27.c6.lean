-- Comparison
section RNG
variable {lk : Nat → Nat → Bool} {la lb : Nat}
theorem RN_dj : ∀ (m i j : Nat), (la - i) + (lb - j) ≤ m → RN lk la lb i j ≤ 1 + RN lk la lb i (j + 1) := by
  intro m
  induction m with
  | zero => intro i j h; rw [RN_out (i := i) (j := j) (by omega)]; omega
  | succ m ih =>
    intro i j h
    by_cases c : i < la ∧ j < lb
    · have h1 := ih (i + 1) j (by omega)
      have h2 := RN_i (lk := lk) (la := la) (lb := lb) i (j + 1)
      rw [RN_in (i := i) (j := j) c]
      split <;> omega
    · rw [RN_out (i := i) (j := j) c]; omega
theorem RN_di : ∀ (m i j : Nat), (la - i) + (lb - j) ≤ m → RN lk la lb i j ≤ 1 + RN lk la lb (i + 1) j := by
  intro m
  induction m with
  | zero => intro i j h; rw [RN_out (i := i) (j := j) (by omega)]; omega
  | succ m ih =>
    intro i j h
    by_cases c : i < la ∧ j < lb
    · have h1 := ih i (j + 1) (by omega)
      have h2 := RN_j (lk := lk) (la := la) (lb := lb) (i + 1) j
      rw [RN_in (i := i) (j := j) c]
      split <;> omega
    · rw [RN_out (i := i) (j := j) c]; omega
theorem RN_cl {i j : Nat} (c : i < la ∧ j < lb) : RN lk la lb i j = if lk i j then RN lk la lb (i + 1) (j + 1) + 1 else max (RN lk la lb (i + 1) j) (RN lk la lb i (j + 1)) := by
  rw [RN_in (i := i) (j := j) c]
  have h1 := RN_dj (lk := lk) (la := la) (lb := lb) _ (i + 1) j (Nat.le_refl _)
  have h2 := RN_di (lk := lk) (la := la) (lb := lb) _ i (j + 1) (Nat.le_refl _)
  split <;> omega
end RNG
def GrP (σ : q_S) (R : Nat → Prop) (cp : Nat) (T : Nat → Nat → Int32) : Prop := ∃ (CR : Nat) (rr : Nat → Nat), hv σ R cp (.inr (3, [.ref CR])) ∧ hv σ R CR (gridE 21 rr) ∧ (∀ i, i < 21 → ∃ f, hv σ R (rr i) (.inl (.int, 21, .inl f)) ∧ ∀ j, j < 21 → f j = T i j) ∧ ∀ i j, i < 21 → j < 21 → rr i = rr j → i = j
abbrev in20 (p q : Int32) : Prop := (0 ≤ p ∧ p ≤ 20) ∧ 0 ≤ q ∧ q ≤ 20
def s_X3_restFrom : q_Sp := fun av σ post => match av with
  | [.ref cp, .int i, .int j] => ∃ R T, GrP σ R cp T ∧ in20 i j ∧ post (some (.int (T i.toNatClampNeg j.toNatClampNeg))) σ
  | _ => False
theorem w9_222 : (.code yX3_isPlace cX3_isPlace 1 (some .boolean) : Cond) ∈ lw_tbl := by decide +kernel
theorem w9_223 : (.initialized RX3 : Cond) ∈ lw_tbl := by decide +kernel
theorem w9_224 : (.static yX3_isPlace : Cond) ∈ lw_tbl := by decide +kernel
theorem w9_225 : (.methodLink RX3 16 yX3_isPlace : Cond) ∈ lw_tbl := by decide +kernel
theorem w9_226 : (.fieldLink RX3 11 (TX3 0).1 (TX3 0).2.1 (TX3 0).2.2.1 : Cond) ∈ lw_tbl := by decide +kernel
def rm_X3_restFrom : Room := { frames := 1, cells := 0, slots := 0, locals := 20 }
def k_X3_restFrom_26 (post : Option Value → q_S → Prop) (K : Nat → q_K) : q_K := (c_iret post)
def k_X3_restFrom_25 (post : Option Value → q_S → Prop) (K : Nat → q_K) : q_K := (c_push 0 (k_X3_restFrom_26 post K))
def k_X3_restFrom_0 (post : Option Value → q_S → Prop) (K : Nat → q_K) : q_K := (c_iload 1 (c_call1 none s_X3_isPlace 0 0 (c_ifeq (k_X3_restFrom_25 post K) (c_iload 2 (c_call1 none s_X3_isPlace 0 0 (c_ifeq (k_X3_restFrom_25 post K) (c_aload 0 (c_get 3 0 (c_iload 1 (c_aald (c_iload 2 (c_iald (k_X3_restFrom_26 post K)))))))))))))
set_option maxRecDepth 100000 in
theorem v_X3_restFrom_26 {p : Program} {l : Launch} {e : Env} {s : State} {m : MethodId} {args : Array Value} {below : List Frame} {meth : Method} {c : Code} {D : va_G} {A : Nat → Prop} {post : Option Value → q_S → Prop} {K : Nat → q_K} (C : q_C p s m args meth c cX3_restFrom 3 RX3 "restFrom" (some .int) A) (hK : ∀ h ∈ ([] : List Nat), q_V p l e rm_X3_restFrom s m args below meth c D A 3 (MQ below (q_Qc D A post) args s rm_X3_restFrom.cells rm_X3_restFrom.slots A) h (K h)) : q_V p l e rm_X3_restFrom s m args below meth c D A 3 (MQ below (q_Qc D A post) args s rm_X3_restFrom.cells rm_X3_restFrom.slots A) 26 (k_X3_restFrom_26 post K) := by
  unfold k_X3_restFrom_26
  exact q_iret C rfl (by decide +kernel : decode cX3_restFrom 26 = .ok (.ireturn, 1))
set_option maxRecDepth 100000 in
theorem v_X3_restFrom_25 {p : Program} {l : Launch} {e : Env} {s : State} {m : MethodId} {args : Array Value} {below : List Frame} {meth : Method} {c : Code} {D : va_G} {A : Nat → Prop} {post : Option Value → q_S → Prop} {K : Nat → q_K} (C : q_C p s m args meth c cX3_restFrom 3 RX3 "restFrom" (some .int) A) (hK : ∀ h ∈ ([] : List Nat), q_V p l e rm_X3_restFrom s m args below meth c D A 3 (MQ below (q_Qc D A post) args s rm_X3_restFrom.cells rm_X3_restFrom.slots A) h (K h)) : q_V p l e rm_X3_restFrom s m args below meth c D A 3 (MQ below (q_Qc D A post) args s rm_X3_restFrom.cells rm_X3_restFrom.slots A) 25 (k_X3_restFrom_25 post K) := by
  unfold k_X3_restFrom_25
  refine q_iconst C (by decide +kernel : decode cX3_restFrom 25 = .ok (.iconst 0, 1)) (by decide) ?_
  exact v_X3_restFrom_26 C hK
set_option maxRecDepth 100000 in
theorem v_X3_restFrom_0 {p : Program} {l : Launch} {e : Env} {s : State} {m : MethodId} {args : Array Value} {below : List Frame} {meth : Method} {c : Code} {D : va_G} {A : Nat → Prop} {post : Option Value → q_S → Prop} {K : Nat → q_K} (C : q_C p s m args meth c cX3_restFrom 3 RX3 "restFrom" (some .int) A) (hK : ∀ h ∈ ([] : List Nat), q_V p l e rm_X3_restFrom s m args below meth c D A 3 (MQ below (q_Qc D A post) args s rm_X3_restFrom.cells rm_X3_restFrom.slots A) h (K h)) : q_V p l e rm_X3_restFrom s m args below meth c D A 3 (MQ below (q_Qc D A post) args s rm_X3_restFrom.cells rm_X3_restFrom.slots A) 0 (k_X3_restFrom_0 post K) := by
  unfold k_X3_restFrom_0
  refine q_iload_n C (by decide +kernel : decode cX3_restFrom 0 = .ok (.iload_n 1, 1)) ?_
  refine q_call1 C (q_coS C (np := 1) (t_X3_isPlace l) w9_222 w9_225 w9_224 w9_223 (by decide +kernel) (by decide +kernel : decode cX3_restFrom 1 = .ok (.invokestatic 16, 3)) (by decide)) ?_
  refine q_ifeq C (tgt := 25) (by decide +kernel : decode cX3_restFrom 4 = .ok (.ifCond .eq 21, 3)) (by decide) ?_ ?_
  · exact v_X3_restFrom_25 C hK
  · refine q_iload_n C (by decide +kernel : decode cX3_restFrom 7 = .ok (.iload_n 2, 1)) ?_
    refine q_call1 C (q_coS C (np := 1) (t_X3_isPlace l) w9_222 w9_225 w9_224 w9_223 (by decide +kernel) (by decide +kernel : decode cX3_restFrom 8 = .ok (.invokestatic 16, 3)) (by decide)) ?_
    refine q_ifeq C (tgt := 25) (by decide +kernel : decode cX3_restFrom 11 = .ok (.ifCond .eq 14, 3)) (by decide) ?_ ?_
    · exact v_X3_restFrom_25 C hK
    · refine q_aload_n C (by decide +kernel : decode cX3_restFrom 14 = .ok (.aload_n 0, 1)) ?_
      refine q_get C (ci := 3) (j := 0) (C0 := RX3) (T := TX3) (N := 1) rfl iX3 giX3 (by decide) w9_226 (by decide +kernel : decode cX3_restFrom 15 = .ok (.getfield 11, 3)) ?_
      refine q_iload_n C (by decide +kernel : decode cX3_restFrom 18 = .ok (.iload_n 1, 1)) ?_
      refine q_aald C (by decide +kernel : decode cX3_restFrom 19 = .ok (.aaload, 1)) ?_
      refine q_iload_n C (by decide +kernel : decode cX3_restFrom 20 = .ok (.iload_n 2, 1)) ?_
      refine q_iald C (by decide +kernel : decode cX3_restFrom 21 = .ok (.iaload, 1)) ?_
      refine q_goto C (tgt := 26) (by decide +kernel : decode cX3_restFrom 22 = .ok (.goto 4, 3)) (by decide) ?_
      exact v_X3_restFrom_26 C hK
theorem u_X3_restFrom (l : Launch) {sp : q_Sp} (H : ∀ (av : List Value) (σ : q_S) (post : Option Value → q_S → Prop), sp av σ post → k_X3_restFrom_0 post (fun _ _ _ _ _ _ => False) (q_L0 av 3) [] σ 0 0 ∧ av.length ≤ 3 ∧ ∀ v ∈ av, v.category = 1) : q_Ct l yX3_restFrom cX3_restFrom 3 (some .int) rm_X3_restFrom sp := by
  refine q_met (by decide) ?_
  intro D A p e s m args below meth c σ av post C hsp
  obtain ⟨h1, h2, h3⟩ := H av σ post hsp
  exact ⟨_, v_X3_restFrom_0 (K := fun _ _ _ _ _ _ => False) C (fun h hh => by cases hh), h1, h2, h3⟩
theorem t_X3_restFrom (l : Launch) : q_Ct l yX3_restFrom cX3_restFrom 3 (some .int) rm_X3_restFrom s_X3_restFrom := u_X3_restFrom l (by
  intro av σ post h
  unfold s_X3_restFrom at h
  split at h
  · next cp i j =>
    refine ⟨?_, by simp, by simp [Value.category]⟩
    obtain ⟨R, T, ⟨CR, rr, h1, g1, g2, g3⟩, c, h7⟩ := h
    have hi : i.toNatClampNeg < 21 := clamp_lt 21 c.1.1 (by grind)
    have hj : j.toNatClampNeg < 21 := clamp_lt 21 c.2.1 (by grind)
    obtain ⟨f, g4, g5⟩ := g2 _ hi
    rw [← g5 _ hj] at h7
    have g12 := g1.2
    simp only [c_push, c_null, c_iload, c_aload, c_istore, c_astore, c_iinc, c_iadd, c_isub, c_imul, c_iand, c_ineg, c_dup, c_dup2, c_pop, c_ifnull, c_ifnonnull, c_get, c_put, c_iald, c_zald, c_iast, c_zast, c_aald, c_aast, c_alen, c_new, c_newa, c_newq, c_mna, c_oinit, c_max, c_copy, c_iret, c_zret, c_aret, c_vret, q_do, q_rc, c_ifeq, c_ifne, c_iflt, c_ifge, c_ifgt, c_ifle, c_iceq, c_icne, c_iclt, c_icge, c_icgt, c_icle, c_call0, c_call1, c_call2, c_call3, c_call4, c_call5, c_call6, c_call7, q_L0, List.map_cons, List.map_nil, List.replicate, List.cons_append, List.nil_append, List.append_nil, List.length_cons, List.length_nil, List.length_set, Nat.reduceSub, Nat.reduceAdd, Nat.reduceLT, Nat.reduceLeDiff, Nat.zero_add, Nat.add_zero, Nat.sub_zero, Nat.sub_self, List.getElem?_cons_zero, List.getElem?_cons_succ, List.set_cons_zero, List.set_cons_succ, Option.toList_some, Option.toList_none, List.sum_cons, List.sum_nil, true_and, and_true, true_or, or_true, Nat.le_refl, Nat.zero_le, Value.category, Fin.isValue, Fin.val_zero, Fin.val_one, Fin.val_two, Fin.reduceFinMk, q_10, q_01, not_false_eq_true, not_true_eq_false, forall_const, true_implies, false_implies, implies_true, q_ni, q_fi, q_nb0, q_nb1, q_fb0, q_fb1, q_nor, q_nar, q_for, q_far, q_non, q_nan, q_fon, q_fan, imp_false, false_and, and_false, and_self, false_or, or_false, va_rf, refKind, k_X3_restFrom_0, k_X3_restFrom_25, k_X3_restFrom_26, q_fld, q_fset, q_oc, q_ai, q_aq, q_len, q_up_s, q_up_up, if_true, h1.2, g12, rkA, vpi21, if_pos hi, g4.2, s_X3_isPlace]
    clear g1 g2 g3 g4 g5
    grind
  · exact h.elim)
def s_X3_setRest : q_Sp := fun av σ post => match av with
  | [.ref cp, .int i, .int j, .int n] => ∃ R T, GrP σ R cp T ∧ in20 i j ∧ ∀ σ', GrP σ' R cp (M2 T i.toNatClampNeg j.toNatClampNeg n) → q_fm σ R σ' R → post none σ'
  | _ => False
def rm_X3_setRest : Room := { frames := 1, cells := 0, slots := 0, locals := 20 }
def k_X3_setRest_23 (post : Option Value → q_S → Prop) (K : Nat → q_K) : q_K := (c_vret post)
def k_X3_setRest_0 (post : Option Value → q_S → Prop) (K : Nat → q_K) : q_K := (c_iload 1 (c_call1 none s_X3_isPlace 0 0 (c_ifeq (k_X3_setRest_23 post K) (c_iload 2 (c_call1 none s_X3_isPlace 0 0 (c_ifeq (k_X3_setRest_23 post K) (c_aload 0 (c_get 3 0 (c_iload 1 (c_aald (c_iload 2 (c_iload 3 (c_iast (k_X3_setRest_23 post K))))))))))))))
set_option maxRecDepth 100000 in
theorem v_X3_setRest_23 {p : Program} {l : Launch} {e : Env} {s : State} {m : MethodId} {args : Array Value} {below : List Frame} {meth : Method} {c : Code} {D : va_G} {A : Nat → Prop} {post : Option Value → q_S → Prop} {K : Nat → q_K} (C : q_C p s m args meth c cX3_setRest 4 RX3 "setRest" none A) (hK : ∀ h ∈ ([] : List Nat), q_V p l e rm_X3_setRest s m args below meth c D A 4 (MQ below (q_Qc D A post) args s rm_X3_setRest.cells rm_X3_setRest.slots A) h (K h)) : q_V p l e rm_X3_setRest s m args below meth c D A 4 (MQ below (q_Qc D A post) args s rm_X3_setRest.cells rm_X3_setRest.slots A) 23 (k_X3_setRest_23 post K) := by
  unfold k_X3_setRest_23
  exact q_vret C rfl (by decide +kernel : decode cX3_setRest 23 = .ok (.return_, 1))
set_option maxRecDepth 100000 in
theorem v_X3_setRest_0 {p : Program} {l : Launch} {e : Env} {s : State} {m : MethodId} {args : Array Value} {below : List Frame} {meth : Method} {c : Code} {D : va_G} {A : Nat → Prop} {post : Option Value → q_S → Prop} {K : Nat → q_K} (C : q_C p s m args meth c cX3_setRest 4 RX3 "setRest" none A) (hK : ∀ h ∈ ([] : List Nat), q_V p l e rm_X3_setRest s m args below meth c D A 4 (MQ below (q_Qc D A post) args s rm_X3_setRest.cells rm_X3_setRest.slots A) h (K h)) : q_V p l e rm_X3_setRest s m args below meth c D A 4 (MQ below (q_Qc D A post) args s rm_X3_setRest.cells rm_X3_setRest.slots A) 0 (k_X3_setRest_0 post K) := by
  unfold k_X3_setRest_0
  refine q_iload_n C (by decide +kernel : decode cX3_setRest 0 = .ok (.iload_n 1, 1)) ?_
  refine q_call1 C (q_coS C (np := 1) (t_X3_isPlace l) w9_222 w9_225 w9_224 w9_223 (by decide +kernel) (by decide +kernel : decode cX3_setRest 1 = .ok (.invokestatic 16, 3)) (by decide)) ?_
  refine q_ifeq C (tgt := 23) (by decide +kernel : decode cX3_setRest 4 = .ok (.ifCond .eq 19, 3)) (by decide) ?_ ?_
  · exact v_X3_setRest_23 C hK
  · refine q_iload_n C (by decide +kernel : decode cX3_setRest 7 = .ok (.iload_n 2, 1)) ?_
    refine q_call1 C (q_coS C (np := 1) (t_X3_isPlace l) w9_222 w9_225 w9_224 w9_223 (by decide +kernel) (by decide +kernel : decode cX3_setRest 8 = .ok (.invokestatic 16, 3)) (by decide)) ?_
    refine q_ifeq C (tgt := 23) (by decide +kernel : decode cX3_setRest 11 = .ok (.ifCond .eq 12, 3)) (by decide) ?_ ?_
    · exact v_X3_setRest_23 C hK
    · refine q_aload_n C (by decide +kernel : decode cX3_setRest 14 = .ok (.aload_n 0, 1)) ?_
      refine q_get C (ci := 3) (j := 0) (C0 := RX3) (T := TX3) (N := 1) rfl iX3 giX3 (by decide) w9_226 (by decide +kernel : decode cX3_setRest 15 = .ok (.getfield 11, 3)) ?_
      refine q_iload_n C (by decide +kernel : decode cX3_setRest 18 = .ok (.iload_n 1, 1)) ?_
      refine q_aald C (by decide +kernel : decode cX3_setRest 19 = .ok (.aaload, 1)) ?_
      refine q_iload_n C (by decide +kernel : decode cX3_setRest 20 = .ok (.iload_n 2, 1)) ?_
      refine q_iload_n C (by decide +kernel : decode cX3_setRest 21 = .ok (.iload_n 3, 1)) ?_
      refine q_iast C (by decide +kernel : decode cX3_setRest 22 = .ok (.iastore, 1)) ?_
      exact v_X3_setRest_23 C hK
theorem u_X3_setRest (l : Launch) {sp : q_Sp} (H : ∀ (av : List Value) (σ : q_S) (post : Option Value → q_S → Prop), sp av σ post → k_X3_setRest_0 post (fun _ _ _ _ _ _ => False) (q_L0 av 4) [] σ 0 0 ∧ av.length ≤ 4 ∧ ∀ v ∈ av, v.category = 1) : q_Ct l yX3_setRest cX3_setRest 4 none rm_X3_setRest sp := by
  refine q_met (by decide) ?_
  intro D A p e s m args below meth c σ av post C hsp
  obtain ⟨h1, h2, h3⟩ := H av σ post hsp
  exact ⟨_, v_X3_setRest_0 (K := fun _ _ _ _ _ _ => False) C (fun h hh => by cases hh), h1, h2, h3⟩
theorem t_X3_setRest (l : Launch) : q_Ct l yX3_setRest cX3_setRest 4 none rm_X3_setRest s_X3_setRest := u_X3_setRest l (by
  intro av σ post h
  unfold s_X3_setRest at h
  split at h
  · next cp i j n =>
    refine ⟨?_, by simp, by simp [Value.category]⟩
    obtain ⟨R, T, ⟨CR, rr, h1, g1, g2, g3⟩, c, h7⟩ := h
    have hi : i.toNatClampNeg < 21 := clamp_lt 21 c.1.1 (by grind)
    have hj : j.toNatClampNeg < 21 := clamp_lt 21 c.2.1 (by grind)
    obtain ⟨f, g4, g5⟩ := g2 _ hi
    have g12 := g1.2
    have h9 := h7 (q_up σ (rr i.toNatClampNeg) (.inl (.int, 21, .inl (upd f j.toNatClampNeg n)))) ⟨CR, rr, ⟨h1.1, by rw [q_up_n (ne_ao g4.2 h1.2).symm]; exact h1.2⟩, ⟨g1.1, by
      rw [q_up_n]; exact g1.2
      intro e; rw [e, g4.2] at g12; cases g12⟩, fun a ha => by
        obtain ⟨f2, k1, k2⟩ := g2 a ha
        by_cases e : a = i.toNatClampNeg
        · subst e
          have ef : f2 = f := by have := k1.2.symm.trans g4.2; cases this; rfl
          subst ef
          refine ⟨_, ⟨k1.1, q_up_s⟩, fun b hb => ?_⟩
          unfold upd M2
          by_cases e2 : b = j.toNatClampNeg
          · rw [if_pos e2, if_pos ⟨rfl, e2⟩]
          · rw [if_neg e2, if_neg (fun h => e2 h.2)]; exact k2 b hb
        · refine ⟨f2, ⟨k1.1, by rw [q_up_n (fun e9 => e (g3 a _ ha hi e9))]; exact k1.2⟩, fun b hb => ?_⟩
          unfold M2
          rw [if_neg (fun h => e h.1)]; exact k2 b hb, g3⟩ (q_fm.up g4.1)
    simp only [c_push, c_null, c_iload, c_aload, c_istore, c_astore, c_iinc, c_iadd, c_isub, c_imul, c_iand, c_ineg, c_dup, c_dup2, c_pop, c_ifnull, c_ifnonnull, c_get, c_put, c_iald, c_zald, c_iast, c_zast, c_aald, c_aast, c_alen, c_new, c_newa, c_newq, c_mna, c_oinit, c_max, c_copy, c_iret, c_zret, c_aret, c_vret, q_do, q_rc, c_ifeq, c_ifne, c_iflt, c_ifge, c_ifgt, c_ifle, c_iceq, c_icne, c_iclt, c_icge, c_icgt, c_icle, c_call0, c_call1, c_call2, c_call3, c_call4, c_call5, c_call6, c_call7, q_L0, List.map_cons, List.map_nil, List.replicate, List.cons_append, List.nil_append, List.append_nil, List.length_cons, List.length_nil, List.length_set, Nat.reduceSub, Nat.reduceAdd, Nat.reduceLT, Nat.reduceLeDiff, Nat.zero_add, Nat.add_zero, Nat.sub_zero, Nat.sub_self, List.getElem?_cons_zero, List.getElem?_cons_succ, List.set_cons_zero, List.set_cons_succ, Option.toList_some, Option.toList_none, List.sum_cons, List.sum_nil, true_and, and_true, true_or, or_true, Nat.le_refl, Nat.zero_le, Value.category, Fin.isValue, Fin.val_zero, Fin.val_one, Fin.val_two, Fin.reduceFinMk, q_10, q_01, not_false_eq_true, not_true_eq_false, forall_const, true_implies, false_implies, implies_true, q_ni, q_fi, q_nb0, q_nb1, q_fb0, q_fb1, q_nor, q_nar, q_for, q_far, q_non, q_nan, q_fon, q_fan, imp_false, false_and, and_false, and_self, false_or, or_false, va_rf, refKind, k_X3_setRest_0, k_X3_setRest_23, q_fld, q_fset, q_oc, q_ai, q_aq, q_len, q_up_s, q_up_up, if_true, h1.2, g12, rkA, vpi21, if_pos hi, g4.2, s_X3_isPlace]
    clear g1 g2 g3 g4 g5 h7
    grind
  · exact h.elim)
def s_X3_clearEdges : q_Sp := fun av σ post => match av with
  | [.ref cp, .int a, .int b] => ∃ R T sa sb, GrP σ R cp T ∧ sa ≤ 20 ∧ sb ≤ 20 ∧ a = nI sa ∧ b = nI sb ∧ ∀ σ' T', GrP σ' R cp T' → (∀ i, i ≤ sa → T' i sb = 0) → (∀ j, j ≤ sb → T' sa j = 0) → q_fm σ R σ' R → post none σ'
  | _ => False
theorem w9_227 : (.code yX3_setRest cX3_setRest 4 none : Cond) ∈ lw_tbl := by decide +kernel
theorem w9_228 : (.methodLink RX3 48 yX3_setRest : Cond) ∈ lw_tbl := by decide +kernel
theorem w9_229 : (.instanceMethod yX3_setRest : Cond) ∈ lw_tbl := by decide +kernel
theorem w9_230 : (.selects RX3 yX3_setRest yX3_setRest : Cond) ∈ lw_tbl := by decide +kernel
def rm_X3_clearEdges : Room := { frames := 2, cells := 0, slots := 0, locals := 43 }
def k_X3_clearEdges_0 (post : Option Value → q_S → Prop) (K : Nat → q_K) : q_K := (c_push 0 (c_istore 3 (K 2)))
def k_X3_clearEdges_2 (post : Option Value → q_S → Prop) (K : Nat → q_K) : q_K := (c_iload 3 (c_iload 1 (c_icgt (c_push 0 (c_istore 3 (K 22))) (c_aload 0 (c_iload 3 (c_iload 2 (c_push 0 (c_call4 (some 3) s_X3_setRest 0 0 (c_iinc 3 1 (K 2))))))))))
def k_X3_clearEdges_22 (post : Option Value → q_S → Prop) (K : Nat → q_K) : q_K := (c_iload 3 (c_iload 2 (c_icgt (c_vret post) (c_aload 0 (c_iload 1 (c_iload 3 (c_push 0 (c_call4 (some 3) s_X3_setRest 0 0 (c_iinc 3 1 (K 22))))))))))
set_option maxRecDepth 100000 in
theorem v_X3_clearEdges_0 {p : Program} {l : Launch} {e : Env} {s : State} {m : MethodId} {args : Array Value} {below : List Frame} {meth : Method} {c : Code} {D : va_G} {A : Nat → Prop} {post : Option Value → q_S → Prop} {K : Nat → q_K} (C : q_C p s m args meth c cX3_clearEdges 4 RX3 "clearEdges" none A) (hK : ∀ h ∈ ([2, 22] : List Nat), q_V p l e rm_X3_clearEdges s m args below meth c D A 4 (MQ below (q_Qc D A post) args s rm_X3_clearEdges.cells rm_X3_clearEdges.slots A) h (K h)) : q_V p l e rm_X3_clearEdges s m args below meth c D A 4 (MQ below (q_Qc D A post) args s rm_X3_clearEdges.cells rm_X3_clearEdges.slots A) 0 (k_X3_clearEdges_0 post K) := by
  unfold k_X3_clearEdges_0
  refine q_iconst C (by decide +kernel : decode cX3_clearEdges 0 = .ok (.iconst 0, 1)) (by decide) ?_
  refine q_istore_n C (by decide +kernel : decode cX3_clearEdges 1 = .ok (.istore_n 3, 1)) ?_
  exact hK 2 (by decide)
set_option maxRecDepth 100000 in
theorem v_X3_clearEdges_2 {p : Program} {l : Launch} {e : Env} {s : State} {m : MethodId} {args : Array Value} {below : List Frame} {meth : Method} {c : Code} {D : va_G} {A : Nat → Prop} {post : Option Value → q_S → Prop} {K : Nat → q_K} (C : q_C p s m args meth c cX3_clearEdges 4 RX3 "clearEdges" none A) (hK : ∀ h ∈ ([2, 22] : List Nat), q_V p l e rm_X3_clearEdges s m args below meth c D A 4 (MQ below (q_Qc D A post) args s rm_X3_clearEdges.cells rm_X3_clearEdges.slots A) h (K h)) : q_V p l e rm_X3_clearEdges s m args below meth c D A 4 (MQ below (q_Qc D A post) args s rm_X3_clearEdges.cells rm_X3_clearEdges.slots A) 2 (k_X3_clearEdges_2 post K) := by
  unfold k_X3_clearEdges_2
  refine q_iload_n C (by decide +kernel : decode cX3_clearEdges 2 = .ok (.iload_n 3, 1)) ?_
  refine q_iload_n C (by decide +kernel : decode cX3_clearEdges 3 = .ok (.iload_n 1, 1)) ?_
  refine q_icgt C (tgt := 20) (by decide +kernel : decode cX3_clearEdges 4 = .ok (.if_icmp .gt 16, 3)) (by decide) ?_ ?_
  · refine q_iconst C (by decide +kernel : decode cX3_clearEdges 20 = .ok (.iconst 0, 1)) (by decide) ?_
    refine q_istore_n C (by decide +kernel : decode cX3_clearEdges 21 = .ok (.istore_n 3, 1)) ?_
    exact hK 22 (by decide)
  · refine q_aload_n C (by decide +kernel : decode cX3_clearEdges 7 = .ok (.aload_n 0, 1)) ?_
    refine q_iload_n C (by decide +kernel : decode cX3_clearEdges 8 = .ok (.iload_n 3, 1)) ?_
    refine q_iload_n C (by decide +kernel : decode cX3_clearEdges 9 = .ok (.iload_n 2, 1)) ?_
    refine q_iconst C (by decide +kernel : decode cX3_clearEdges 10 = .ok (.iconst 0, 1)) (by decide) ?_
    refine q_call4 C (q_coV C (np := 3) (ci := 3) (rc := (RX3, TX3, 1)) (t_X3_setRest l) w9_227 rfl rfl w9_228 w9_229 w9_230 w9_223 (by decide +kernel) (by decide +kernel : decode cX3_clearEdges 11 = .ok (.invokevirtual 48, 3)) (by decide)) ?_
    refine q_iinc C (by decide +kernel : decode cX3_clearEdges 14 = .ok (.iinc 3 1, 3)) (by decide) ?_
    refine q_goto C (tgt := 2) (by decide +kernel : decode cX3_clearEdges 17 = .ok (.goto (-15), 3)) (by decide) ?_
    exact hK 2 (by decide)
set_option maxRecDepth 100000 in
theorem v_X3_clearEdges_22 {p : Program} {l : Launch} {e : Env} {s : State} {m : MethodId} {args : Array Value} {below : List Frame} {meth : Method} {c : Code} {D : va_G} {A : Nat → Prop} {post : Option Value → q_S → Prop} {K : Nat → q_K} (C : q_C p s m args meth c cX3_clearEdges 4 RX3 "clearEdges" none A) (hK : ∀ h ∈ ([2, 22] : List Nat), q_V p l e rm_X3_clearEdges s m args below meth c D A 4 (MQ below (q_Qc D A post) args s rm_X3_clearEdges.cells rm_X3_clearEdges.slots A) h (K h)) : q_V p l e rm_X3_clearEdges s m args below meth c D A 4 (MQ below (q_Qc D A post) args s rm_X3_clearEdges.cells rm_X3_clearEdges.slots A) 22 (k_X3_clearEdges_22 post K) := by
  unfold k_X3_clearEdges_22
  refine q_iload_n C (by decide +kernel : decode cX3_clearEdges 22 = .ok (.iload_n 3, 1)) ?_
  refine q_iload_n C (by decide +kernel : decode cX3_clearEdges 23 = .ok (.iload_n 2, 1)) ?_
  refine q_icgt C (tgt := 40) (by decide +kernel : decode cX3_clearEdges 24 = .ok (.if_icmp .gt 16, 3)) (by decide) ?_ ?_
  · exact q_vret C rfl (by decide +kernel : decode cX3_clearEdges 40 = .ok (.return_, 1))
  · refine q_aload_n C (by decide +kernel : decode cX3_clearEdges 27 = .ok (.aload_n 0, 1)) ?_
    refine q_iload_n C (by decide +kernel : decode cX3_clearEdges 28 = .ok (.iload_n 1, 1)) ?_
    refine q_iload_n C (by decide +kernel : decode cX3_clearEdges 29 = .ok (.iload_n 3, 1)) ?_
    refine q_iconst C (by decide +kernel : decode cX3_clearEdges 30 = .ok (.iconst 0, 1)) (by decide) ?_
    refine q_call4 C (q_coV C (np := 3) (ci := 3) (rc := (RX3, TX3, 1)) (t_X3_setRest l) w9_227 rfl rfl w9_228 w9_229 w9_230 w9_223 (by decide +kernel) (by decide +kernel : decode cX3_clearEdges 31 = .ok (.invokevirtual 48, 3)) (by decide)) ?_
    refine q_iinc C (by decide +kernel : decode cX3_clearEdges 34 = .ok (.iinc 3 1, 3)) (by decide) ?_
    refine q_goto C (tgt := 22) (by decide +kernel : decode cX3_clearEdges 37 = .ok (.goto (-15), 3)) (by decide) ?_
    exact hK 22 (by decide)
theorem u_X3_clearEdges (l : Launch) {sp : q_Sp} (H : ∀ (av : List Value) (σ : q_S) (post : Option Value → q_S → Prop), sp av σ post → ∃ Inv : Nat → Nat → q_K, (∀ K : Nat → q_K, (∀ (h n : Nat) (L : List (Option Value)) (st : List Value) (σ : q_S) (cr sr : Nat), Inv h n L st σ cr sr → K h L st σ cr sr) → k_X3_clearEdges_0 post K (q_L0 av 4) [] σ 0 0) ∧ (∀ (K : Nat → q_K) (n : Nat), (∀ (h m : Nat) (L : List (Option Value)) (st : List Value) (σ : q_S) (cr sr : Nat), m < n → Inv h m L st σ cr sr → K h L st σ cr sr) → ∀ (L : List (Option Value)) (st : List Value) (σ : q_S) (cr sr : Nat), Inv 2 n L st σ cr sr → k_X3_clearEdges_2 post K L st σ cr sr) ∧ (∀ (K : Nat → q_K) (n : Nat), (∀ (h m : Nat) (L : List (Option Value)) (st : List Value) (σ : q_S) (cr sr : Nat), m < n → Inv h m L st σ cr sr → K h L st σ cr sr) → ∀ (L : List (Option Value)) (st : List Value) (σ : q_S) (cr sr : Nat), Inv 22 n L st σ cr sr → k_X3_clearEdges_22 post K L st σ cr sr) ∧ av.length ≤ 4 ∧ ∀ v ∈ av, v.category = 1) : q_Ct l yX3_clearEdges cX3_clearEdges 4 none rm_X3_clearEdges sp := by
  refine q_met (by decide) ?_
  intro D A p e s m args below meth c σ av post C hsp
  obtain ⟨Inv, h1, hh2, hh22, h2, h3⟩ := H av σ post hsp
  have hV := q_loops (p := p) (l := l) (e := e) (R := rm_X3_clearEdges) (s := s) (m := m) (args := args) (below := below) (meth := meth) (c := c) (D := D) (A := A) (nL := 4) (Q := MQ below (q_Qc D A post) args s rm_X3_clearEdges.cells rm_X3_clearEdges.slots A) [2, 22] (fun h => if h = 2 then k_X3_clearEdges_2 post else k_X3_clearEdges_22 post) (fun K hK h hh => ?_) Inv (fun n h hh => ?_)
  · exact ⟨_, v_X3_clearEdges_0 C hV, h1 _ (fun h n L st σ cr sr hi => ⟨n, hi⟩), h2, h3⟩
  · rcases (by simpa using hh : h = 2 ∨ h = 22) with rfl | rfl
    · exact v_X3_clearEdges_2 C hK
    · exact v_X3_clearEdges_22 C hK
  · rcases (by simpa using hh : h = 2 ∨ h = 22) with rfl | rfl
    · exact hh2 (fun h L st σ cr sr => ∃ m : Nat, m < n ∧ Inv h m L st σ cr sr) n (fun h m L st σ cr sr hm hi => ⟨m, hm, hi⟩)
    · exact hh22 (fun h L st σ cr sr => ∃ m : Nat, m < n ∧ Inv h m L st σ cr sr) n (fun h m L st σ cr sr hm hi => ⟨m, hm, hi⟩)
theorem t_X3_clearEdges (l : Launch) : q_Ct l yX3_clearEdges cX3_clearEdges 4 none rm_X3_clearEdges s_X3_clearEdges := u_X3_clearEdges l (by
  intro av σ post h
  unfold s_X3_clearEdges at h
  split at h
  · next cp a b =>
    obtain ⟨R, T, sa, sb, hG, hsa, hsb, rfl, rfl, h7⟩ := h
    refine ⟨fun h m L st σ' cr sr => ∃ T' i, GrP σ' R cp T' ∧ q_fm σ R σ' R ∧ st = [] ∧ L = [some (.ref cp), some (.int (nI sa)), some (.int (nI sb)), some (.int (nI i))] ∧ ((h = 2 ∧ i ≤ sa + 1 ∧ m = 200 - i ∧ ∀ k, k < i → T' k sb = 0) ∨ (h = 22 ∧ i ≤ sb + 1 ∧ m = 100 - i ∧ (∀ k, k ≤ sa → T' k sb = 0) ∧ ∀ k, k < i → T' sa k = 0)), ?_, ?_, ?_, by simp, by simp [Value.category]⟩
    · intro K hK
      simp only [c_push, c_null, c_iload, c_aload, c_istore, c_astore, c_iinc, c_iadd, c_isub, c_imul, c_iand, c_ineg, c_dup, c_dup2, c_pop, c_ifnull, c_ifnonnull, c_get, c_put, c_iald, c_zald, c_iast, c_zast, c_aald, c_aast, c_alen, c_new, c_newa, c_newq, c_mna, c_oinit, c_max, c_copy, c_iret, c_zret, c_aret, c_vret, q_do, q_rc, c_ifeq, c_ifne, c_iflt, c_ifge, c_ifgt, c_ifle, c_iceq, c_icne, c_iclt, c_icge, c_icgt, c_icle, c_call0, c_call1, c_call2, c_call3, c_call4, c_call5, c_call6, c_call7, q_L0, List.map_cons, List.map_nil, List.replicate, List.cons_append, List.nil_append, List.append_nil, List.length_cons, List.length_nil, List.length_set, Nat.reduceSub, Nat.reduceAdd, Nat.reduceLT, Nat.reduceLeDiff, Nat.zero_add, Nat.add_zero, Nat.sub_zero, Nat.sub_self, List.getElem?_cons_zero, List.getElem?_cons_succ, List.set_cons_zero, List.set_cons_succ, Option.toList_some, Option.toList_none, List.sum_cons, List.sum_nil, true_and, and_true, true_or, or_true, Nat.le_refl, Nat.zero_le, Value.category, Fin.isValue, Fin.val_zero, Fin.val_one, Fin.val_two, Fin.reduceFinMk, q_10, q_01, not_false_eq_true, not_true_eq_false, forall_const, true_implies, false_implies, implies_true, q_ni, q_fi, q_nb0, q_nb1, q_fb0, q_fb1, q_nor, q_nar, q_for, q_far, q_non, q_nan, q_fon, q_fan, imp_false, false_and, and_false, and_self, false_or, or_false, va_rf, refKind, k_X3_clearEdges_0]
      exact hK _ 200 _ _ _ _ _ ⟨T, 0, hG, q_fm.refl, rfl, rfl, Or.inl ⟨rfl, by omega, rfl, fun k hk => by omega⟩⟩
    · rintro K m hK L st σ' cr sr ⟨T', i, hG', hf, rfl, rfl, ⟨-, hi, rfl, hz⟩ | ⟨h9, -⟩⟩
      · have hoc : q_oc σ' cp = some 3 := by obtain ⟨_, _, h1, -⟩ := hG'; simp only [q_oc, h1.2]
        simp only [c_push, c_null, c_iload, c_aload, c_istore, c_astore, c_iinc, c_iadd, c_isub, c_imul, c_iand, c_ineg, c_dup, c_dup2, c_pop, c_ifnull, c_ifnonnull, c_get, c_put, c_iald, c_zald, c_iast, c_zast, c_aald, c_aast, c_alen, c_new, c_newa, c_newq, c_mna, c_oinit, c_max, c_copy, c_iret, c_zret, c_aret, c_vret, q_do, q_rc, c_ifeq, c_ifne, c_iflt, c_ifge, c_ifgt, c_ifle, c_iceq, c_icne, c_iclt, c_icge, c_icgt, c_icle, c_call0, c_call1, c_call2, c_call3, c_call4, c_call5, c_call6, c_call7, q_L0, List.map_cons, List.map_nil, List.replicate, List.cons_append, List.nil_append, List.append_nil, List.length_cons, List.length_nil, List.length_set, Nat.reduceSub, Nat.reduceAdd, Nat.reduceLT, Nat.reduceLeDiff, Nat.zero_add, Nat.add_zero, Nat.sub_zero, Nat.sub_self, List.getElem?_cons_zero, List.getElem?_cons_succ, List.set_cons_zero, List.set_cons_succ, Option.toList_some, Option.toList_none, List.sum_cons, List.sum_nil, true_and, and_true, true_or, or_true, Nat.le_refl, Nat.zero_le, Value.category, Fin.isValue, Fin.val_zero, Fin.val_one, Fin.val_two, Fin.reduceFinMk, q_10, q_01, not_false_eq_true, not_true_eq_false, forall_const, true_implies, false_implies, implies_true, q_ni, q_fi, q_nb0, q_nb1, q_fb0, q_fb1, q_nor, q_nar, q_for, q_far, q_non, q_nan, q_fon, q_fan, imp_false, false_and, and_false, and_self, false_or, or_false, va_rf, refKind, k_X3_clearEdges_2, hoc]
        rw [(cl2 (nI sa) (nI i) _ _ rfl rfl (by omega) (by omega)).2.1]
        refine ⟨fun c => ?_, fun c => ?_⟩
        · exact hK 22 100 _ _ _ _ _ (by omega) ⟨T', 0, hG', hf, rfl, rfl, Or.inr ⟨rfl, by omega, rfl, fun k hk => hz k (by omega), fun k hk => by omega⟩⟩
        · refine ⟨R, T', hG', ⟨⟨nI_low (by omega), nI_leN (N := 20) (by omega)⟩, nI_low (by omega), nI_leN (N := 20) (by omega)⟩, fun σ2 hG2 hf2 => ?_⟩
          simp only [c_push, c_null, c_iload, c_aload, c_istore, c_astore, c_iinc, c_iadd, c_isub, c_imul, c_iand, c_ineg, c_dup, c_dup2, c_pop, c_ifnull, c_ifnonnull, c_get, c_put, c_iald, c_zald, c_iast, c_zast, c_aald, c_aast, c_alen, c_new, c_newa, c_newq, c_mna, c_oinit, c_max, c_copy, c_iret, c_zret, c_aret, c_vret, q_do, q_rc, c_ifeq, c_ifne, c_iflt, c_ifge, c_ifgt, c_ifle, c_iceq, c_icne, c_iclt, c_icge, c_icgt, c_icle, c_call0, c_call1, c_call2, c_call3, c_call4, c_call5, c_call6, c_call7, q_L0, List.map_cons, List.map_nil, List.replicate, List.cons_append, List.nil_append, List.append_nil, List.length_cons, List.length_nil, List.length_set, Nat.reduceSub, Nat.reduceAdd, Nat.reduceLT, Nat.reduceLeDiff, Nat.zero_add, Nat.add_zero, Nat.sub_zero, Nat.sub_self, List.getElem?_cons_zero, List.getElem?_cons_succ, List.set_cons_zero, List.set_cons_succ, Option.toList_some, Option.toList_none, List.sum_cons, List.sum_nil, true_and, and_true, true_or, or_true, Nat.le_refl, Nat.zero_le, Value.category, Fin.isValue, Fin.val_zero, Fin.val_one, Fin.val_two, Fin.reduceFinMk, q_10, q_01, not_false_eq_true, not_true_eq_false, forall_const, true_implies, false_implies, implies_true, q_ni, q_fi, q_nb0, q_nb1, q_fb0, q_fb1, q_nor, q_nar, q_for, q_far, q_non, q_nan, q_fon, q_fan, imp_false, false_and, and_false, and_self, false_or, or_false, va_rf, refKind]
          rw [clN (by omega), clN (by omega)] at hG2
          refine hK 2 (200 - (i + 1)) _ _ _ _ _ (by omega) ⟨_, i + 1, hG2, hf.trans hf2, rfl, by rw [nI_1], Or.inl ⟨rfl, by omega, rfl, fun k hk => ?_⟩⟩
          unfold M2
          by_cases e : k = i
          · rw [if_pos ⟨e, rfl⟩]
          · rw [if_neg (fun h => e h.1)]; exact hz k (by omega)
      · exact absurd h9 (by decide)
    · rintro K m hK L st σ' cr sr ⟨T', i, hG', hf, rfl, rfl, ⟨h9, -⟩ | ⟨-, hi, rfl, hz, hz2⟩⟩
      · exact absurd h9 (by decide)
      · have hoc : q_oc σ' cp = some 3 := by obtain ⟨_, _, h1, -⟩ := hG'; simp only [q_oc, h1.2]
        simp only [c_push, c_null, c_iload, c_aload, c_istore, c_astore, c_iinc, c_iadd, c_isub, c_imul, c_iand, c_ineg, c_dup, c_dup2, c_pop, c_ifnull, c_ifnonnull, c_get, c_put, c_iald, c_zald, c_iast, c_zast, c_aald, c_aast, c_alen, c_new, c_newa, c_newq, c_mna, c_oinit, c_max, c_copy, c_iret, c_zret, c_aret, c_vret, q_do, q_rc, c_ifeq, c_ifne, c_iflt, c_ifge, c_ifgt, c_ifle, c_iceq, c_icne, c_iclt, c_icge, c_icgt, c_icle, c_call0, c_call1, c_call2, c_call3, c_call4, c_call5, c_call6, c_call7, q_L0, List.map_cons, List.map_nil, List.replicate, List.cons_append, List.nil_append, List.append_nil, List.length_cons, List.length_nil, List.length_set, Nat.reduceSub, Nat.reduceAdd, Nat.reduceLT, Nat.reduceLeDiff, Nat.zero_add, Nat.add_zero, Nat.sub_zero, Nat.sub_self, List.getElem?_cons_zero, List.getElem?_cons_succ, List.set_cons_zero, List.set_cons_succ, Option.toList_some, Option.toList_none, List.sum_cons, List.sum_nil, true_and, and_true, true_or, or_true, Nat.le_refl, Nat.zero_le, Value.category, Fin.isValue, Fin.val_zero, Fin.val_one, Fin.val_two, Fin.reduceFinMk, q_10, q_01, not_false_eq_true, not_true_eq_false, forall_const, true_implies, false_implies, implies_true, q_ni, q_fi, q_nb0, q_nb1, q_fb0, q_fb1, q_nor, q_nar, q_for, q_far, q_non, q_nan, q_fon, q_fan, imp_false, false_and, and_false, and_self, false_or, or_false, va_rf, refKind, k_X3_clearEdges_22, hoc]
        rw [(cl2 (nI sb) (nI i) _ _ rfl rfl (by omega) (by omega)).2.1]
        refine ⟨fun c => ?_, fun c => ?_⟩
        · exact h7 σ' T' hG' hz (fun j hj => hz2 j (by omega)) hf
        · refine ⟨R, T', hG', ⟨⟨nI_low (by omega), nI_leN (N := 20) (by omega)⟩, nI_low (by omega), nI_leN (N := 20) (by omega)⟩, fun σ2 hG2 hf2 => ?_⟩
          simp only [c_push, c_null, c_iload, c_aload, c_istore, c_astore, c_iinc, c_iadd, c_isub, c_imul, c_iand, c_ineg, c_dup, c_dup2, c_pop, c_ifnull, c_ifnonnull, c_get, c_put, c_iald, c_zald, c_iast, c_zast, c_aald, c_aast, c_alen, c_new, c_newa, c_newq, c_mna, c_oinit, c_max, c_copy, c_iret, c_zret, c_aret, c_vret, q_do, q_rc, c_ifeq, c_ifne, c_iflt, c_ifge, c_ifgt, c_ifle, c_iceq, c_icne, c_iclt, c_icge, c_icgt, c_icle, c_call0, c_call1, c_call2, c_call3, c_call4, c_call5, c_call6, c_call7, q_L0, List.map_cons, List.map_nil, List.replicate, List.cons_append, List.nil_append, List.append_nil, List.length_cons, List.length_nil, List.length_set, Nat.reduceSub, Nat.reduceAdd, Nat.reduceLT, Nat.reduceLeDiff, Nat.zero_add, Nat.add_zero, Nat.sub_zero, Nat.sub_self, List.getElem?_cons_zero, List.getElem?_cons_succ, List.set_cons_zero, List.set_cons_succ, Option.toList_some, Option.toList_none, List.sum_cons, List.sum_nil, true_and, and_true, true_or, or_true, Nat.le_refl, Nat.zero_le, Value.category, Fin.isValue, Fin.val_zero, Fin.val_one, Fin.val_two, Fin.reduceFinMk, q_10, q_01, not_false_eq_true, not_true_eq_false, forall_const, true_implies, false_implies, implies_true, q_ni, q_fi, q_nb0, q_nb1, q_fb0, q_fb1, q_nor, q_nar, q_for, q_far, q_non, q_nan, q_fon, q_fan, imp_false, false_and, and_false, and_self, false_or, or_false, va_rf, refKind]
          rw [clN (by omega), clN (by omega)] at hG2
          refine hK 22 (100 - (i + 1)) _ _ _ _ _ (by omega) ⟨_, i + 1, hG2, hf.trans hf2, rfl, by rw [nI_1], Or.inr ⟨rfl, by omega, rfl, fun k hk => ?_, fun k hk => ?_⟩⟩
          · unfold M2
            by_cases e : k = sa ∧ sb = i
            · rw [if_pos e]
            · rw [if_neg e]; exact hz k hk
          · unfold M2
            by_cases e : k = i
            · rw [if_pos ⟨rfl, e⟩]
            · rw [if_neg (fun h => e h.2)]; exact hz2 k (by omega)
  · exact h.elim)
