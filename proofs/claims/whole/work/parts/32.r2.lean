-- parts of a register
section RGA
variable {σ : q_S} {Rg : Nat → Nat → Prop} {r P AC AR WK LC CL CM CP : Nat} {pa aa wa sa ga la lra lc : Nat → Nat} {lrn : Nat → Int32} {z : Nat → Int32} {g : Nat → Nat → Int32}
theorem RegD.p1 (h : RegD σ Rg r P AC AR WK LC CL CM CP pa aa wa sa ga la lra lc lrn z g) : hv σ (Rg 1) r (rootE z P AC WK LC CL CP) := h.2 1
theorem RegD.p2 (h : RegD σ Rg r P AC AR WK LC CL CM CP pa aa wa sa ga la lra lc lrn z g) : PersP σ (Rg 2) P pa lrn g (npF z) := h.2 2
theorem RegD.p3 (h : RegD σ Rg r P AC AR WK LC CL CM CP pa aa wa sa ga la lra lc lrn z g) : AcD σ (Rg 3) AC AR aa g (naF z) := h.2 3
theorem RegD.p4 (h : RegD σ Rg r P AC AR WK LC CL CM CP pa aa wa sa ga la lra lc lrn z g) : WkP σ (Rg 4) WK pa wa sa ga la g (nwF z) := h.2 4
theorem RegD.p5 (h : RegD σ Rg r P AC AR WK LC CL CM CP pa aa wa sa ga la lra lc lrn z g) : LcP σ (Rg 5) LC lc g (nlF z) := h.2 5
theorem RegD.p6 (h : RegD σ Rg r P AC AR WK LC CL CM CP pa aa wa sa ga la lra lc lrn z g) : CmP σ (Rg 6) CL CM (z 31) g := h.2 6
theorem RegD.p7 (h : RegD σ Rg r P AC AR WK LC CL CM CP pa aa wa sa ga la lra lc lrn z g) : ∃ T, GrP σ (Rg 7) CP T := h.2 7
theorem RegD.sh (h : RegD σ Rg r P AC AR WK LC CL CM CP pa aa wa sa ga la lra lc lrn z g) {i : Nat} (hi : i < nwF z) (h20 : nwF z ≤ 20) : ShP σ (Rg (100 + i)) (sa i) i z g := by
  have := h.2 (100 + i)
  unfold Part at this
  rw [if_neg (by omega), if_neg (by omega), if_neg (by omega), if_neg (by omega), if_neg (by omega), if_neg (by omega), if_neg (by omega), if_pos (by omega), show 100 + i - 100 = i by omega] at this
  exact this
theorem RegD.ag (h : RegD σ Rg r P AC AR WK LC CL CM CP pa aa wa sa ga la lra lc lrn z g) {i : Nat} (hi : i < nwF z) (h20 : nwF z ≤ 20) : AgP σ (Rg (200 + i)) (ga i) i g := by
  have := h.2 (200 + i)
  unfold Part at this
  rw [if_neg (by omega), if_neg (by omega), if_neg (by omega), if_neg (by omega), if_neg (by omega), if_neg (by omega), if_neg (by omega), if_neg (by omega), if_pos (by omega), show 200 + i - 200 = i by omega] at this
  exact this
theorem RegD.ln (h : RegD σ Rg r P AC AR WK LC CL CM CP pa aa wa sa ga la lra lc lrn z g) {i : Nat} (hi : i < nwF z) (h20 : nwF z ≤ 20) : LnP σ (Rg (300 + i)) (la i) (lra i) i g := by
  have := h.2 (300 + i)
  unfold Part at this
  rw [if_neg (by omega), if_neg (by omega), if_neg (by omega), if_neg (by omega), if_neg (by omega), if_neg (by omega), if_neg (by omega), if_neg (by omega), if_neg (by omega), if_pos (by omega), show 300 + i - 300 = i by omega] at this
  exact this
end RGA
-- personAt, workAt
def s_X10_personAt : q_Sp := fun av σ post => match av with
  | [.ref r, .int i] => ∃ P pa n x0 x3 x4 x5 x6 x7 x8 x9, σ r = some (.inr (10, [x0, .ref P, .int n, x3, x4, x5, x6, x7, x8, x9])) ∧ σ P = some (refsE "CopyRegister$Person" 12 n.toNatClampNeg pa) ∧ (0 ≤ n ∧ n ≤ 12) ∧ (0 ≤ i ∧ i < n → post (some (.ref (pa i.toNatClampNeg))) σ) ∧ (¬ (0 ≤ i ∧ i < n) → post (some .null) σ)
  | _ => False
theorem ltN {i n : Int32} (h0 : 0 ≤ i) (h : i < n) : i.toNatClampNeg < n.toNatClampNeg := by
  have h1 := clampI h0
  have h2 := clampI (x := n) (by grind)
  rw [Int32.lt_iff_toInt_lt] at h
  omega
theorem w9_312 : (.fieldLink RX10 21 (TX10 2).1 (TX10 2).2.1 (TX10 2).2.2.1 : Cond) ∈ lw_tbl := by decide +kernel
theorem w9_313 : (.fieldLink RX10 17 (TX10 1).1 (TX10 1).2.1 (TX10 1).2.2.1 : Cond) ∈ lw_tbl := by decide +kernel
def rm_X10_personAt : Room := { frames := 0, cells := 0, slots := 0, locals := 0 }
def k_X10_personAt_31 (post : Option Value → q_S → Prop) (K : Nat → q_K) : q_K := (c_aret post)
def k_X10_personAt_30 (post : Option Value → q_S → Prop) (K : Nat → q_K) : q_K := (c_null (k_X10_personAt_31 post K))
def k_X10_personAt_0 (post : Option Value → q_S → Prop) (K : Nat → q_K) : q_K := (c_iload 1 (c_iflt (k_X10_personAt_30 post K) (c_iload 1 (c_aload 0 (c_get 10 2 (c_icge (k_X10_personAt_30 post K) (c_iload 1 (c_aload 0 (c_get 10 1 (c_alen (c_icge (k_X10_personAt_30 post K) (c_aload 0 (c_get 10 1 (c_iload 1 (c_aald (k_X10_personAt_31 post K))))))))))))))))
set_option maxRecDepth 100000 in
theorem v_X10_personAt_31 {p : Program} {l : Launch} {e : Env} {s : State} {m : MethodId} {args : Array Value} {below : List Frame} {meth : Method} {c : Code} {D : va_G} {A : Nat → Prop} {post : Option Value → q_S → Prop} {K : Nat → q_K} (C : q_C p s m args meth c cX10_personAt 2 RX10 "personAt" (some (.object "CopyRegister$Person")) A) (hK : ∀ h ∈ ([] : List Nat), q_V p l e rm_X10_personAt s m args below meth c D A 2 (MQ below (q_Qc D A post) args s rm_X10_personAt.cells rm_X10_personAt.slots A) h (K h)) : q_V p l e rm_X10_personAt s m args below meth c D A 2 (MQ below (q_Qc D A post) args s rm_X10_personAt.cells rm_X10_personAt.slots A) 31 (k_X10_personAt_31 post K) := by
  unfold k_X10_personAt_31
  exact q_aret C rfl (Or.inl ⟨_, rfl⟩) (by decide +kernel : decode cX10_personAt 31 = .ok (.areturn, 1))
set_option maxRecDepth 100000 in
theorem v_X10_personAt_30 {p : Program} {l : Launch} {e : Env} {s : State} {m : MethodId} {args : Array Value} {below : List Frame} {meth : Method} {c : Code} {D : va_G} {A : Nat → Prop} {post : Option Value → q_S → Prop} {K : Nat → q_K} (C : q_C p s m args meth c cX10_personAt 2 RX10 "personAt" (some (.object "CopyRegister$Person")) A) (hK : ∀ h ∈ ([] : List Nat), q_V p l e rm_X10_personAt s m args below meth c D A 2 (MQ below (q_Qc D A post) args s rm_X10_personAt.cells rm_X10_personAt.slots A) h (K h)) : q_V p l e rm_X10_personAt s m args below meth c D A 2 (MQ below (q_Qc D A post) args s rm_X10_personAt.cells rm_X10_personAt.slots A) 30 (k_X10_personAt_30 post K) := by
  unfold k_X10_personAt_30
  refine q_null C (by decide +kernel : decode cX10_personAt 30 = .ok (.aconst_null, 1)) ?_
  exact v_X10_personAt_31 C hK
set_option maxRecDepth 100000 in
theorem v_X10_personAt_0 {p : Program} {l : Launch} {e : Env} {s : State} {m : MethodId} {args : Array Value} {below : List Frame} {meth : Method} {c : Code} {D : va_G} {A : Nat → Prop} {post : Option Value → q_S → Prop} {K : Nat → q_K} (C : q_C p s m args meth c cX10_personAt 2 RX10 "personAt" (some (.object "CopyRegister$Person")) A) (hK : ∀ h ∈ ([] : List Nat), q_V p l e rm_X10_personAt s m args below meth c D A 2 (MQ below (q_Qc D A post) args s rm_X10_personAt.cells rm_X10_personAt.slots A) h (K h)) : q_V p l e rm_X10_personAt s m args below meth c D A 2 (MQ below (q_Qc D A post) args s rm_X10_personAt.cells rm_X10_personAt.slots A) 0 (k_X10_personAt_0 post K) := by
  unfold k_X10_personAt_0
  refine q_iload_n C (by decide +kernel : decode cX10_personAt 0 = .ok (.iload_n 1, 1)) ?_
  refine q_iflt C (tgt := 30) (by decide +kernel : decode cX10_personAt 1 = .ok (.ifCond .lt 29, 3)) (by decide) ?_ ?_
  · exact v_X10_personAt_30 C hK
  · refine q_iload_n C (by decide +kernel : decode cX10_personAt 4 = .ok (.iload_n 1, 1)) ?_
    refine q_aload_n C (by decide +kernel : decode cX10_personAt 5 = .ok (.aload_n 0, 1)) ?_
    refine q_get C (ci := 10) (j := 2) (C0 := RX10) (T := TX10) (N := 10) rfl iX10 giX10 (by decide) w9_312 (by decide +kernel : decode cX10_personAt 6 = .ok (.getfield 21, 3)) ?_
    refine q_icge C (tgt := 30) (by decide +kernel : decode cX10_personAt 9 = .ok (.if_icmp .ge 21, 3)) (by decide) ?_ ?_
    · exact v_X10_personAt_30 C hK
    · refine q_iload_n C (by decide +kernel : decode cX10_personAt 12 = .ok (.iload_n 1, 1)) ?_
      refine q_aload_n C (by decide +kernel : decode cX10_personAt 13 = .ok (.aload_n 0, 1)) ?_
      refine q_get C (ci := 10) (j := 1) (C0 := RX10) (T := TX10) (N := 10) rfl iX10 giX10 (by decide) w9_313 (by decide +kernel : decode cX10_personAt 14 = .ok (.getfield 17, 3)) ?_
      refine q_alen C (by decide +kernel : decode cX10_personAt 17 = .ok (.arraylength, 1)) ?_
      refine q_icge C (tgt := 30) (by decide +kernel : decode cX10_personAt 18 = .ok (.if_icmp .ge 12, 3)) (by decide) ?_ ?_
      · exact v_X10_personAt_30 C hK
      · refine q_aload_n C (by decide +kernel : decode cX10_personAt 21 = .ok (.aload_n 0, 1)) ?_
        refine q_get C (ci := 10) (j := 1) (C0 := RX10) (T := TX10) (N := 10) rfl iX10 giX10 (by decide) w9_313 (by decide +kernel : decode cX10_personAt 22 = .ok (.getfield 17, 3)) ?_
        refine q_iload_n C (by decide +kernel : decode cX10_personAt 25 = .ok (.iload_n 1, 1)) ?_
        refine q_aald C (by decide +kernel : decode cX10_personAt 26 = .ok (.aaload, 1)) ?_
        refine q_goto C (tgt := 31) (by decide +kernel : decode cX10_personAt 27 = .ok (.goto 4, 3)) (by decide) ?_
        exact v_X10_personAt_31 C hK
theorem u_X10_personAt (l : Launch) {sp : q_Sp} (H : ∀ (av : List Value) (σ : q_S) (post : Option Value → q_S → Prop), sp av σ post → k_X10_personAt_0 post (fun _ _ _ _ _ _ => False) (q_L0 av 2) [] σ 0 0 ∧ av.length ≤ 2 ∧ ∀ v ∈ av, v.category = 1) : q_Ct l yX10_personAt cX10_personAt 2 (some (.object "CopyRegister$Person")) rm_X10_personAt sp := by
  refine q_met (by decide) ?_
  intro D A p e s m args below meth c σ av post C hsp
  obtain ⟨h1, h2, h3⟩ := H av σ post hsp
  exact ⟨_, v_X10_personAt_0 (K := fun _ _ _ _ _ _ => False) C (fun h hh => by cases hh), h1, h2, h3⟩
theorem t_X10_personAt (l : Launch) : q_Ct l yX10_personAt cX10_personAt 2 (some (.object "CopyRegister$Person")) rm_X10_personAt s_X10_personAt := u_X10_personAt l (by
  intro av σ post h
  unfold s_X10_personAt at h
  split at h
  · next r i =>
    refine ⟨?_, by simp, by simp [Value.category]⟩
    obtain ⟨P, pa, n, x0, x3, x4, x5, x6, x7, x8, x9, e1, e2, hn, h7, h8⟩ := h
    by_cases c : 0 ≤ i ∧ i < n
    · have hlt := ltN c.1 c.2
      have h9 := h7 c
      simp only [c_push, c_null, c_iload, c_aload, c_istore, c_astore, c_iinc, c_iadd, c_isub, c_imul, c_iand, c_ineg, c_dup, c_dup2, c_pop, c_ifnull, c_ifnonnull, c_get, c_put, c_iald, c_zald, c_iast, c_zast, c_aald, c_aast, c_alen, c_new, c_newa, c_newq, c_mna, c_oinit, c_max, c_copy, c_iret, c_zret, c_aret, c_vret, q_do, q_rc, c_ifeq, c_ifne, c_iflt, c_ifge, c_ifgt, c_ifle, c_iceq, c_icne, c_iclt, c_icge, c_icgt, c_icle, c_call0, c_call1, c_call2, c_call3, c_call4, c_call5, c_call6, c_call7, q_L0, List.map_cons, List.map_nil, List.replicate, List.cons_append, List.nil_append, List.append_nil, List.length_cons, List.length_nil, List.length_set, Nat.reduceSub, Nat.reduceAdd, Nat.reduceLT, Nat.reduceLeDiff, Nat.zero_add, Nat.add_zero, Nat.sub_zero, Nat.sub_self, List.getElem?_cons_zero, List.getElem?_cons_succ, List.set_cons_zero, List.set_cons_succ, Option.toList_some, Option.toList_none, List.sum_cons, List.sum_nil, true_and, and_true, true_or, or_true, Nat.le_refl, Nat.zero_le, Value.category, Fin.isValue, Fin.val_zero, Fin.val_one, Fin.val_two, Fin.reduceFinMk, q_10, q_01, not_false_eq_true, not_true_eq_false, forall_const, true_implies, false_implies, implies_true, q_ni, q_fi, q_nb0, q_nb1, q_fb0, q_fb1, q_nor, q_nar, q_for, q_far, q_non, q_nan, q_fon, q_fan, imp_false, false_and, and_false, and_self, false_or, or_false, va_rf, refKind, k_X10_personAt_0, k_X10_personAt_30, k_X10_personAt_31, q_fld, q_fset, q_oc, q_ai, q_aq, q_len, q_up_s, q_up_up, if_true, e1, e2, rkO, vpi12, len12, if_pos hlt]
      clear h7 h8
      grind
    · have h9 := h8 c
      simp only [c_push, c_null, c_iload, c_aload, c_istore, c_astore, c_iinc, c_iadd, c_isub, c_imul, c_iand, c_ineg, c_dup, c_dup2, c_pop, c_ifnull, c_ifnonnull, c_get, c_put, c_iald, c_zald, c_iast, c_zast, c_aald, c_aast, c_alen, c_new, c_newa, c_newq, c_mna, c_oinit, c_max, c_copy, c_iret, c_zret, c_aret, c_vret, q_do, q_rc, c_ifeq, c_ifne, c_iflt, c_ifge, c_ifgt, c_ifle, c_iceq, c_icne, c_iclt, c_icge, c_icgt, c_icle, c_call0, c_call1, c_call2, c_call3, c_call4, c_call5, c_call6, c_call7, q_L0, List.map_cons, List.map_nil, List.replicate, List.cons_append, List.nil_append, List.append_nil, List.length_cons, List.length_nil, List.length_set, Nat.reduceSub, Nat.reduceAdd, Nat.reduceLT, Nat.reduceLeDiff, Nat.zero_add, Nat.add_zero, Nat.sub_zero, Nat.sub_self, List.getElem?_cons_zero, List.getElem?_cons_succ, List.set_cons_zero, List.set_cons_succ, Option.toList_some, Option.toList_none, List.sum_cons, List.sum_nil, true_and, and_true, true_or, or_true, Nat.le_refl, Nat.zero_le, Value.category, Fin.isValue, Fin.val_zero, Fin.val_one, Fin.val_two, Fin.reduceFinMk, q_10, q_01, not_false_eq_true, not_true_eq_false, forall_const, true_implies, false_implies, implies_true, q_ni, q_fi, q_nb0, q_nb1, q_fb0, q_fb1, q_nor, q_nar, q_for, q_far, q_non, q_nan, q_fon, q_fan, imp_false, false_and, and_false, and_self, false_or, or_false, va_rf, refKind, k_X10_personAt_0, k_X10_personAt_30, k_X10_personAt_31, q_fld, q_fset, q_oc, q_ai, q_aq, q_len, q_up_s, q_up_up, if_true, e1, e2, rkO, vpi12, len12]
      clear h7 h8
      grind
  · exact h.elim)
def s_X10_workAt : q_Sp := fun av σ post => match av with
  | [.ref r, .int i] => ∃ W wa n x0 x1 x2 x3 x6 x7 x8 x9, σ r = some (.inr (10, [x0, x1, x2, x3, .ref W, .int n, x6, x7, x8, x9])) ∧ σ W = some (refsE "CopyRegister$Work" 20 n.toNatClampNeg wa) ∧ (0 ≤ n ∧ n ≤ 20) ∧ (0 ≤ i ∧ i < n → post (some (.ref (wa i.toNatClampNeg))) σ) ∧ (¬ (0 ≤ i ∧ i < n) → post (some .null) σ)
  | _ => False
theorem w9_314 : (.fieldLink RX10 37 (TX10 5).1 (TX10 5).2.1 (TX10 5).2.2.1 : Cond) ∈ lw_tbl := by decide +kernel
theorem w9_315 : (.fieldLink RX10 33 (TX10 4).1 (TX10 4).2.1 (TX10 4).2.2.1 : Cond) ∈ lw_tbl := by decide +kernel
def rm_X10_workAt : Room := { frames := 0, cells := 0, slots := 0, locals := 0 }
def k_X10_workAt_31 (post : Option Value → q_S → Prop) (K : Nat → q_K) : q_K := (c_aret post)
def k_X10_workAt_30 (post : Option Value → q_S → Prop) (K : Nat → q_K) : q_K := (c_null (k_X10_workAt_31 post K))
def k_X10_workAt_0 (post : Option Value → q_S → Prop) (K : Nat → q_K) : q_K := (c_iload 1 (c_iflt (k_X10_workAt_30 post K) (c_iload 1 (c_aload 0 (c_get 10 5 (c_icge (k_X10_workAt_30 post K) (c_iload 1 (c_aload 0 (c_get 10 4 (c_alen (c_icge (k_X10_workAt_30 post K) (c_aload 0 (c_get 10 4 (c_iload 1 (c_aald (k_X10_workAt_31 post K))))))))))))))))
set_option maxRecDepth 100000 in
theorem v_X10_workAt_31 {p : Program} {l : Launch} {e : Env} {s : State} {m : MethodId} {args : Array Value} {below : List Frame} {meth : Method} {c : Code} {D : va_G} {A : Nat → Prop} {post : Option Value → q_S → Prop} {K : Nat → q_K} (C : q_C p s m args meth c cX10_workAt 2 RX10 "workAt" (some (.object "CopyRegister$Work")) A) (hK : ∀ h ∈ ([] : List Nat), q_V p l e rm_X10_workAt s m args below meth c D A 2 (MQ below (q_Qc D A post) args s rm_X10_workAt.cells rm_X10_workAt.slots A) h (K h)) : q_V p l e rm_X10_workAt s m args below meth c D A 2 (MQ below (q_Qc D A post) args s rm_X10_workAt.cells rm_X10_workAt.slots A) 31 (k_X10_workAt_31 post K) := by
  unfold k_X10_workAt_31
  exact q_aret C rfl (Or.inl ⟨_, rfl⟩) (by decide +kernel : decode cX10_workAt 31 = .ok (.areturn, 1))
set_option maxRecDepth 100000 in
theorem v_X10_workAt_30 {p : Program} {l : Launch} {e : Env} {s : State} {m : MethodId} {args : Array Value} {below : List Frame} {meth : Method} {c : Code} {D : va_G} {A : Nat → Prop} {post : Option Value → q_S → Prop} {K : Nat → q_K} (C : q_C p s m args meth c cX10_workAt 2 RX10 "workAt" (some (.object "CopyRegister$Work")) A) (hK : ∀ h ∈ ([] : List Nat), q_V p l e rm_X10_workAt s m args below meth c D A 2 (MQ below (q_Qc D A post) args s rm_X10_workAt.cells rm_X10_workAt.slots A) h (K h)) : q_V p l e rm_X10_workAt s m args below meth c D A 2 (MQ below (q_Qc D A post) args s rm_X10_workAt.cells rm_X10_workAt.slots A) 30 (k_X10_workAt_30 post K) := by
  unfold k_X10_workAt_30
  refine q_null C (by decide +kernel : decode cX10_workAt 30 = .ok (.aconst_null, 1)) ?_
  exact v_X10_workAt_31 C hK
set_option maxRecDepth 100000 in
theorem v_X10_workAt_0 {p : Program} {l : Launch} {e : Env} {s : State} {m : MethodId} {args : Array Value} {below : List Frame} {meth : Method} {c : Code} {D : va_G} {A : Nat → Prop} {post : Option Value → q_S → Prop} {K : Nat → q_K} (C : q_C p s m args meth c cX10_workAt 2 RX10 "workAt" (some (.object "CopyRegister$Work")) A) (hK : ∀ h ∈ ([] : List Nat), q_V p l e rm_X10_workAt s m args below meth c D A 2 (MQ below (q_Qc D A post) args s rm_X10_workAt.cells rm_X10_workAt.slots A) h (K h)) : q_V p l e rm_X10_workAt s m args below meth c D A 2 (MQ below (q_Qc D A post) args s rm_X10_workAt.cells rm_X10_workAt.slots A) 0 (k_X10_workAt_0 post K) := by
  unfold k_X10_workAt_0
  refine q_iload_n C (by decide +kernel : decode cX10_workAt 0 = .ok (.iload_n 1, 1)) ?_
  refine q_iflt C (tgt := 30) (by decide +kernel : decode cX10_workAt 1 = .ok (.ifCond .lt 29, 3)) (by decide) ?_ ?_
  · exact v_X10_workAt_30 C hK
  · refine q_iload_n C (by decide +kernel : decode cX10_workAt 4 = .ok (.iload_n 1, 1)) ?_
    refine q_aload_n C (by decide +kernel : decode cX10_workAt 5 = .ok (.aload_n 0, 1)) ?_
    refine q_get C (ci := 10) (j := 5) (C0 := RX10) (T := TX10) (N := 10) rfl iX10 giX10 (by decide) w9_314 (by decide +kernel : decode cX10_workAt 6 = .ok (.getfield 37, 3)) ?_
    refine q_icge C (tgt := 30) (by decide +kernel : decode cX10_workAt 9 = .ok (.if_icmp .ge 21, 3)) (by decide) ?_ ?_
    · exact v_X10_workAt_30 C hK
    · refine q_iload_n C (by decide +kernel : decode cX10_workAt 12 = .ok (.iload_n 1, 1)) ?_
      refine q_aload_n C (by decide +kernel : decode cX10_workAt 13 = .ok (.aload_n 0, 1)) ?_
      refine q_get C (ci := 10) (j := 4) (C0 := RX10) (T := TX10) (N := 10) rfl iX10 giX10 (by decide) w9_315 (by decide +kernel : decode cX10_workAt 14 = .ok (.getfield 33, 3)) ?_
      refine q_alen C (by decide +kernel : decode cX10_workAt 17 = .ok (.arraylength, 1)) ?_
      refine q_icge C (tgt := 30) (by decide +kernel : decode cX10_workAt 18 = .ok (.if_icmp .ge 12, 3)) (by decide) ?_ ?_
      · exact v_X10_workAt_30 C hK
      · refine q_aload_n C (by decide +kernel : decode cX10_workAt 21 = .ok (.aload_n 0, 1)) ?_
        refine q_get C (ci := 10) (j := 4) (C0 := RX10) (T := TX10) (N := 10) rfl iX10 giX10 (by decide) w9_315 (by decide +kernel : decode cX10_workAt 22 = .ok (.getfield 33, 3)) ?_
        refine q_iload_n C (by decide +kernel : decode cX10_workAt 25 = .ok (.iload_n 1, 1)) ?_
        refine q_aald C (by decide +kernel : decode cX10_workAt 26 = .ok (.aaload, 1)) ?_
        refine q_goto C (tgt := 31) (by decide +kernel : decode cX10_workAt 27 = .ok (.goto 4, 3)) (by decide) ?_
        exact v_X10_workAt_31 C hK
theorem u_X10_workAt (l : Launch) {sp : q_Sp} (H : ∀ (av : List Value) (σ : q_S) (post : Option Value → q_S → Prop), sp av σ post → k_X10_workAt_0 post (fun _ _ _ _ _ _ => False) (q_L0 av 2) [] σ 0 0 ∧ av.length ≤ 2 ∧ ∀ v ∈ av, v.category = 1) : q_Ct l yX10_workAt cX10_workAt 2 (some (.object "CopyRegister$Work")) rm_X10_workAt sp := by
  refine q_met (by decide) ?_
  intro D A p e s m args below meth c σ av post C hsp
  obtain ⟨h1, h2, h3⟩ := H av σ post hsp
  exact ⟨_, v_X10_workAt_0 (K := fun _ _ _ _ _ _ => False) C (fun h hh => by cases hh), h1, h2, h3⟩
theorem t_X10_workAt (l : Launch) : q_Ct l yX10_workAt cX10_workAt 2 (some (.object "CopyRegister$Work")) rm_X10_workAt s_X10_workAt := u_X10_workAt l (by
  intro av σ post h
  unfold s_X10_workAt at h
  split at h
  · next r i =>
    refine ⟨?_, by simp, by simp [Value.category]⟩
    obtain ⟨W, wa, n, x0, x1, x2, x3, x6, x7, x8, x9, e1, e2, hn, h7, h8⟩ := h
    by_cases c : 0 ≤ i ∧ i < n
    · have hlt := ltN c.1 c.2
      have h9 := h7 c
      simp only [c_push, c_null, c_iload, c_aload, c_istore, c_astore, c_iinc, c_iadd, c_isub, c_imul, c_iand, c_ineg, c_dup, c_dup2, c_pop, c_ifnull, c_ifnonnull, c_get, c_put, c_iald, c_zald, c_iast, c_zast, c_aald, c_aast, c_alen, c_new, c_newa, c_newq, c_mna, c_oinit, c_max, c_copy, c_iret, c_zret, c_aret, c_vret, q_do, q_rc, c_ifeq, c_ifne, c_iflt, c_ifge, c_ifgt, c_ifle, c_iceq, c_icne, c_iclt, c_icge, c_icgt, c_icle, c_call0, c_call1, c_call2, c_call3, c_call4, c_call5, c_call6, c_call7, q_L0, List.map_cons, List.map_nil, List.replicate, List.cons_append, List.nil_append, List.append_nil, List.length_cons, List.length_nil, List.length_set, Nat.reduceSub, Nat.reduceAdd, Nat.reduceLT, Nat.reduceLeDiff, Nat.zero_add, Nat.add_zero, Nat.sub_zero, Nat.sub_self, List.getElem?_cons_zero, List.getElem?_cons_succ, List.set_cons_zero, List.set_cons_succ, Option.toList_some, Option.toList_none, List.sum_cons, List.sum_nil, true_and, and_true, true_or, or_true, Nat.le_refl, Nat.zero_le, Value.category, Fin.isValue, Fin.val_zero, Fin.val_one, Fin.val_two, Fin.reduceFinMk, q_10, q_01, not_false_eq_true, not_true_eq_false, forall_const, true_implies, false_implies, implies_true, q_ni, q_fi, q_nb0, q_nb1, q_fb0, q_fb1, q_nor, q_nar, q_for, q_far, q_non, q_nan, q_fon, q_fan, imp_false, false_and, and_false, and_self, false_or, or_false, va_rf, refKind, k_X10_workAt_0, k_X10_workAt_30, k_X10_workAt_31, q_fld, q_fset, q_oc, q_ai, q_aq, q_len, q_up_s, q_up_up, if_true, e1, e2, rkO, vpi20, len20, if_pos hlt]
      clear h7 h8
      grind
    · have h9 := h8 c
      simp only [c_push, c_null, c_iload, c_aload, c_istore, c_astore, c_iinc, c_iadd, c_isub, c_imul, c_iand, c_ineg, c_dup, c_dup2, c_pop, c_ifnull, c_ifnonnull, c_get, c_put, c_iald, c_zald, c_iast, c_zast, c_aald, c_aast, c_alen, c_new, c_newa, c_newq, c_mna, c_oinit, c_max, c_copy, c_iret, c_zret, c_aret, c_vret, q_do, q_rc, c_ifeq, c_ifne, c_iflt, c_ifge, c_ifgt, c_ifle, c_iceq, c_icne, c_iclt, c_icge, c_icgt, c_icle, c_call0, c_call1, c_call2, c_call3, c_call4, c_call5, c_call6, c_call7, q_L0, List.map_cons, List.map_nil, List.replicate, List.cons_append, List.nil_append, List.append_nil, List.length_cons, List.length_nil, List.length_set, Nat.reduceSub, Nat.reduceAdd, Nat.reduceLT, Nat.reduceLeDiff, Nat.zero_add, Nat.add_zero, Nat.sub_zero, Nat.sub_self, List.getElem?_cons_zero, List.getElem?_cons_succ, List.set_cons_zero, List.set_cons_succ, Option.toList_some, Option.toList_none, List.sum_cons, List.sum_nil, true_and, and_true, true_or, or_true, Nat.le_refl, Nat.zero_le, Value.category, Fin.isValue, Fin.val_zero, Fin.val_one, Fin.val_two, Fin.reduceFinMk, q_10, q_01, not_false_eq_true, not_true_eq_false, forall_const, true_implies, false_implies, implies_true, q_ni, q_fi, q_nb0, q_nb1, q_fb0, q_fb1, q_nor, q_nar, q_for, q_far, q_non, q_nan, q_fon, q_fan, imp_false, false_and, and_false, and_self, false_or, or_false, va_rf, refKind, k_X10_workAt_0, k_X10_workAt_30, k_X10_workAt_31, q_fld, q_fset, q_oc, q_ai, q_aq, q_len, q_up_s, q_up_up, if_true, e1, e2, rkO, vpi20, len20]
      clear h7 h8
      grind
  · exact h.elim)
theorem refs_inj {C : String} {n m : Nat} {p q : Nat → Nat} (h : refsE C n m p = refsE C n m q) {i : Nat} (hi : i < m) : p i = q i := by
  have h1 := Sum.inl.inj h
  have h2 := (Prod.mk.inj h1).2
  have h3 := (Prod.mk.inj h2).2
  have h4 := Sum.inr.inj (Sum.inr.inj (Sum.inr.inj (Sum.inr.inj h3)))
  have h5 := congrFun h4 i
  simp only [hi, if_true] at h5
  exact Option.some.inj h5
theorem pAt {σ : q_S} {r P AC WK LC CL CP : Nat} {z : Nat → Int32} {pa : Nat → Nat} (h1 : σ r = some (rootE z P AC WK LC CL CP)) (h2 : σ P = some (refsE "CopyRegister$Person" 12 (npF z) pa)) (h3 : 0 ≤ z 1 ∧ z 1 ≤ 12) (i : Int32) (post : Option Value → q_S → Prop) : s_X10_personAt [.ref r, .int i] σ post = ((0 ≤ i ∧ i < z 1 → post (some (.ref (pa i.toNatClampNeg))) σ) ∧ (¬ (0 ≤ i ∧ i < z 1) → post (some .null) σ)) := by
  refine propext ⟨fun h => ?_, fun h => ⟨P, pa, z 1, _, _, _, _, _, _, _, _, h1, h2, h3, h.1, h.2⟩⟩
  obtain ⟨P', pa', n, x0, x3, x4, x5, x6, x7, x8, x9, e1, e2, hn, h7, h8⟩ := h
  rw [h1] at e1
  have e3 := Option.some.inj e1
  unfold rootE at e3
  simp only [Sum.inr.injEq, Prod.mk.injEq, List.cons.injEq, Value.ref.injEq, Value.int.injEq, true_and] at e3
  obtain ⟨-, rfl, rfl, -⟩ := e3
  rw [h2] at e2
  refine ⟨fun c => ?_, h8⟩
  rw [refs_inj (Option.some.inj e2) (ltN c.1 c.2)]
  exact h7 c
theorem wAt {σ : q_S} {r P AC WK LC CL CP : Nat} {z : Nat → Int32} {wa : Nat → Nat} (h1 : σ r = some (rootE z P AC WK LC CL CP)) (h2 : σ WK = some (refsE "CopyRegister$Work" 20 (nwF z) wa)) (h3 : 0 ≤ z 11 ∧ z 11 ≤ 20) (i : Int32) (post : Option Value → q_S → Prop) : s_X10_workAt [.ref r, .int i] σ post = ((0 ≤ i ∧ i < z 11 → post (some (.ref (wa i.toNatClampNeg))) σ) ∧ (¬ (0 ≤ i ∧ i < z 11) → post (some .null) σ)) := by
  refine propext ⟨fun h => ?_, fun h => ⟨WK, wa, z 11, _, _, _, _, _, _, _, _, h1, h2, h3, h.1, h.2⟩⟩
  obtain ⟨P', pa', n, x0, x3, x4, x5, x6, x7, x8, x9, e1, e2, hn, h7, h8⟩ := h
  rw [h1] at e1
  have e3 := Option.some.inj e1
  unfold rootE at e3
  simp only [Sum.inr.injEq, Prod.mk.injEq, List.cons.injEq, Value.ref.injEq, Value.int.injEq, true_and] at e3
  obtain ⟨-, -, -, -, rfl, rfl, -⟩ := e3
  rw [h2] at e2
  refine ⟨fun c => ?_, h8⟩
  rw [refs_inj (Option.some.inj e2) (ltN c.1 c.2)]
  exact h7 c
def s_X10_isDayOf : q_Sp := fun av σ post => match av with
  | [.ref w, .int k] => (match σ w with
    | some (.inr (9, [_, .int ent, _, _, _])) => (ent ≤ k ∧ k ≤ 3000 → post (some (.int 1)) σ) ∧ (¬ (ent ≤ k ∧ k ≤ 3000) → post (some (.int 0)) σ)
    | _ => False)
  | _ => False
def rm_X10_isDayOf : Room := { frames := 1, cells := 0, slots := 0, locals := 22 }
def k_X10_isDayOf_0 (post : Option Value → q_S → Prop) (K : Nat → q_K) : q_K := (c_iload 1 (c_aload 0 (c_get 9 1 (c_push 3000 (c_call3 none s_X10_isWithin 0 0 (c_zret post))))))
set_option maxRecDepth 100000 in
theorem v_X10_isDayOf_0 {p : Program} {l : Launch} {e : Env} {s : State} {m : MethodId} {args : Array Value} {below : List Frame} {meth : Method} {c : Code} {D : va_G} {A : Nat → Prop} {post : Option Value → q_S → Prop} {K : Nat → q_K} (C : q_C p s m args meth c cX10_isDayOf 2 RX10 "isDayOf" (some .boolean) A) (hK : ∀ h ∈ ([] : List Nat), q_V p l e rm_X10_isDayOf s m args below meth c D A 2 (MQ below (q_Qc D A post) args s rm_X10_isDayOf.cells rm_X10_isDayOf.slots A) h (K h)) : q_V p l e rm_X10_isDayOf s m args below meth c D A 2 (MQ below (q_Qc D A post) args s rm_X10_isDayOf.cells rm_X10_isDayOf.slots A) 0 (k_X10_isDayOf_0 post K) := by
  unfold k_X10_isDayOf_0
  refine q_iload_n C (by decide +kernel : decode cX10_isDayOf 0 = .ok (.iload_n 1, 1)) ?_
  refine q_aload_n C (by decide +kernel : decode cX10_isDayOf 1 = .ok (.aload_n 0, 1)) ?_
  refine q_getN C (ci := 9) (j := 1) (C0 := RX9) (T := TX9) (N := 5) rfl iX9 giX9 (by decide) (by decide +kernel) (by decide +kernel : decode cX10_isDayOf 2 = .ok (.getfield 165, 3)) ?_
  refine q_sipush C (by decide +kernel : decode cX10_isDayOf 5 = .ok (.sipush 3000, 3)) (by decide) ?_
  refine q_call3 C (q_coS C (np := 3) (t_X10_isWithin l) w9_0 w9_3 w9_2 w9_1 (by decide +kernel) (by decide +kernel : decode cX10_isDayOf 8 = .ok (.invokestatic 63, 3)) (by decide)) ?_
  exact q_zret C rfl (by decide +kernel : decode cX10_isDayOf 11 = .ok (.ireturn, 1))
theorem u_X10_isDayOf (l : Launch) {sp : q_Sp} (H : ∀ (av : List Value) (σ : q_S) (post : Option Value → q_S → Prop), sp av σ post → k_X10_isDayOf_0 post (fun _ _ _ _ _ _ => False) (q_L0 av 2) [] σ 0 0 ∧ av.length ≤ 2 ∧ ∀ v ∈ av, v.category = 1) : q_Ct l yX10_isDayOf cX10_isDayOf 2 (some .boolean) rm_X10_isDayOf sp := by
  refine q_met (by decide) ?_
  intro D A p e s m args below meth c σ av post C hsp
  obtain ⟨h1, h2, h3⟩ := H av σ post hsp
  exact ⟨_, v_X10_isDayOf_0 (K := fun _ _ _ _ _ _ => False) C (fun h hh => by cases hh), h1, h2, h3⟩
theorem t_X10_isDayOf (l : Launch) : q_Ct l yX10_isDayOf cX10_isDayOf 2 (some .boolean) rm_X10_isDayOf s_X10_isDayOf := u_X10_isDayOf l (by
  intro av σ post h
  unfold s_X10_isDayOf at h
  split at h
  · split at h
    · next e =>
      refine ⟨?_, by simp, by simp [Value.category]⟩
      simp only [c_push, c_null, c_iload, c_aload, c_istore, c_astore, c_iinc, c_iadd, c_isub, c_imul, c_iand, c_ineg, c_dup, c_dup2, c_pop, c_ifnull, c_ifnonnull, c_get, c_put, c_iald, c_zald, c_iast, c_zast, c_aald, c_aast, c_alen, c_new, c_newa, c_newq, c_mna, c_oinit, c_max, c_copy, c_iret, c_zret, c_aret, c_vret, q_do, q_rc, c_ifeq, c_ifne, c_iflt, c_ifge, c_ifgt, c_ifle, c_iceq, c_icne, c_iclt, c_icge, c_icgt, c_icle, c_call0, c_call1, c_call2, c_call3, c_call4, c_call5, c_call6, c_call7, q_L0, List.map_cons, List.map_nil, List.replicate, List.cons_append, List.nil_append, List.append_nil, List.length_cons, List.length_nil, List.length_set, Nat.reduceSub, Nat.reduceAdd, Nat.reduceLT, Nat.reduceLeDiff, Nat.zero_add, Nat.add_zero, Nat.sub_zero, Nat.sub_self, List.getElem?_cons_zero, List.getElem?_cons_succ, List.set_cons_zero, List.set_cons_succ, Option.toList_some, Option.toList_none, List.sum_cons, List.sum_nil, true_and, and_true, true_or, or_true, Nat.le_refl, Nat.zero_le, Value.category, Fin.isValue, Fin.val_zero, Fin.val_one, Fin.val_two, Fin.reduceFinMk, q_10, q_01, not_false_eq_true, not_true_eq_false, forall_const, true_implies, false_implies, implies_true, q_ni, q_fi, q_nb0, q_nb1, q_fb0, q_fb1, q_nor, q_nar, q_for, q_far, q_non, q_nan, q_fon, q_fan, imp_false, false_and, and_false, and_self, false_or, or_false, va_rf, refKind, k_X10_isDayOf_0, q_fld, q_fset, q_oc, q_ai, q_aq, q_len, q_up_s, q_up_up, if_true, e, s_X10_isWithin]
      exact h
    · exact h.elim
  · exact h.elim)
def s_X10_areTwoPersons : q_Sp := fun av σ post => match av with
  | [.ref r, .int a, .int b] => ∃ P AC WK LC CL CP z pa, σ r = some (rootE z P AC WK LC CL CP) ∧ σ P = some (refsE "CopyRegister$Person" 12 (npF z) pa) ∧ (0 ≤ z 1 ∧ z 1 ≤ 12) ∧ (¬ a = b ∧ isP z a ∧ isP z b → post (some (.int 1)) σ) ∧ (¬ (¬ a = b ∧ isP z a ∧ isP z b) → post (some (.int 0)) σ)
  | _ => False
theorem w9_316 : (.code yX10_personAt cX10_personAt 2 (some (.object "CopyRegister$Person")) : Cond) ∈ lw_tbl := by decide +kernel
theorem w9_317 : (.methodLink RX10 68 yX10_personAt : Cond) ∈ lw_tbl := by decide +kernel
theorem w9_318 : (.instanceMethod yX10_personAt : Cond) ∈ lw_tbl := by decide +kernel
theorem w9_319 : (.selects RX10 yX10_personAt yX10_personAt : Cond) ∈ lw_tbl := by decide +kernel
def rm_X10_areTwoPersons : Room := { frames := 1, cells := 0, slots := 0, locals := 21 }
def k_X10_areTwoPersons_26 (post : Option Value → q_S → Prop) (K : Nat → q_K) : q_K := (c_zret post)
def k_X10_areTwoPersons_25 (post : Option Value → q_S → Prop) (K : Nat → q_K) : q_K := (c_push 0 (k_X10_areTwoPersons_26 post K))
def k_X10_areTwoPersons_0 (post : Option Value → q_S → Prop) (K : Nat → q_K) : q_K := (c_iload 1 (c_iload 2 (c_iceq (k_X10_areTwoPersons_25 post K) (c_aload 0 (c_iload 1 (c_call2 (some 10) s_X10_personAt 0 0 (c_ifnull (k_X10_areTwoPersons_25 post K) (c_aload 0 (c_iload 2 (c_call2 (some 10) s_X10_personAt 0 0 (c_ifnull (k_X10_areTwoPersons_25 post K) (c_push 1 (k_X10_areTwoPersons_26 post K)))))))))))))
set_option maxRecDepth 100000 in
theorem v_X10_areTwoPersons_26 {p : Program} {l : Launch} {e : Env} {s : State} {m : MethodId} {args : Array Value} {below : List Frame} {meth : Method} {c : Code} {D : va_G} {A : Nat → Prop} {post : Option Value → q_S → Prop} {K : Nat → q_K} (C : q_C p s m args meth c cX10_areTwoPersons 3 RX10 "areTwoPersons" (some .boolean) A) (hK : ∀ h ∈ ([] : List Nat), q_V p l e rm_X10_areTwoPersons s m args below meth c D A 3 (MQ below (q_Qc D A post) args s rm_X10_areTwoPersons.cells rm_X10_areTwoPersons.slots A) h (K h)) : q_V p l e rm_X10_areTwoPersons s m args below meth c D A 3 (MQ below (q_Qc D A post) args s rm_X10_areTwoPersons.cells rm_X10_areTwoPersons.slots A) 26 (k_X10_areTwoPersons_26 post K) := by
  unfold k_X10_areTwoPersons_26
  exact q_zret C rfl (by decide +kernel : decode cX10_areTwoPersons 26 = .ok (.ireturn, 1))
set_option maxRecDepth 100000 in
theorem v_X10_areTwoPersons_25 {p : Program} {l : Launch} {e : Env} {s : State} {m : MethodId} {args : Array Value} {below : List Frame} {meth : Method} {c : Code} {D : va_G} {A : Nat → Prop} {post : Option Value → q_S → Prop} {K : Nat → q_K} (C : q_C p s m args meth c cX10_areTwoPersons 3 RX10 "areTwoPersons" (some .boolean) A) (hK : ∀ h ∈ ([] : List Nat), q_V p l e rm_X10_areTwoPersons s m args below meth c D A 3 (MQ below (q_Qc D A post) args s rm_X10_areTwoPersons.cells rm_X10_areTwoPersons.slots A) h (K h)) : q_V p l e rm_X10_areTwoPersons s m args below meth c D A 3 (MQ below (q_Qc D A post) args s rm_X10_areTwoPersons.cells rm_X10_areTwoPersons.slots A) 25 (k_X10_areTwoPersons_25 post K) := by
  unfold k_X10_areTwoPersons_25
  refine q_iconst C (by decide +kernel : decode cX10_areTwoPersons 25 = .ok (.iconst 0, 1)) (by decide) ?_
  exact v_X10_areTwoPersons_26 C hK
set_option maxRecDepth 100000 in
theorem v_X10_areTwoPersons_0 {p : Program} {l : Launch} {e : Env} {s : State} {m : MethodId} {args : Array Value} {below : List Frame} {meth : Method} {c : Code} {D : va_G} {A : Nat → Prop} {post : Option Value → q_S → Prop} {K : Nat → q_K} (C : q_C p s m args meth c cX10_areTwoPersons 3 RX10 "areTwoPersons" (some .boolean) A) (hK : ∀ h ∈ ([] : List Nat), q_V p l e rm_X10_areTwoPersons s m args below meth c D A 3 (MQ below (q_Qc D A post) args s rm_X10_areTwoPersons.cells rm_X10_areTwoPersons.slots A) h (K h)) : q_V p l e rm_X10_areTwoPersons s m args below meth c D A 3 (MQ below (q_Qc D A post) args s rm_X10_areTwoPersons.cells rm_X10_areTwoPersons.slots A) 0 (k_X10_areTwoPersons_0 post K) := by
  unfold k_X10_areTwoPersons_0
  refine q_iload_n C (by decide +kernel : decode cX10_areTwoPersons 0 = .ok (.iload_n 1, 1)) ?_
  refine q_iload_n C (by decide +kernel : decode cX10_areTwoPersons 1 = .ok (.iload_n 2, 1)) ?_
  refine q_iceq C (tgt := 25) (by decide +kernel : decode cX10_areTwoPersons 2 = .ok (.if_icmp .eq 23, 3)) (by decide) ?_ ?_
  · exact v_X10_areTwoPersons_25 C hK
  · refine q_aload_n C (by decide +kernel : decode cX10_areTwoPersons 5 = .ok (.aload_n 0, 1)) ?_
    refine q_iload_n C (by decide +kernel : decode cX10_areTwoPersons 6 = .ok (.iload_n 1, 1)) ?_
    refine q_call2 C (q_coV C (np := 1) (ci := 10) (rc := (RX10, TX10, 10)) (t_X10_personAt l) w9_316 rfl rfl w9_317 w9_318 w9_319 w9_1 (by decide +kernel) (by decide +kernel : decode cX10_areTwoPersons 7 = .ok (.invokevirtual 68, 3)) (by decide)) ?_
    refine q_ifnull C (tgt := 25) (by decide +kernel : decode cX10_areTwoPersons 10 = .ok (.ifnull 15, 3)) (by decide) ?_ ?_
    · exact v_X10_areTwoPersons_25 C hK
    · refine q_aload_n C (by decide +kernel : decode cX10_areTwoPersons 13 = .ok (.aload_n 0, 1)) ?_
      refine q_iload_n C (by decide +kernel : decode cX10_areTwoPersons 14 = .ok (.iload_n 2, 1)) ?_
      refine q_call2 C (q_coV C (np := 1) (ci := 10) (rc := (RX10, TX10, 10)) (t_X10_personAt l) w9_316 rfl rfl w9_317 w9_318 w9_319 w9_1 (by decide +kernel) (by decide +kernel : decode cX10_areTwoPersons 15 = .ok (.invokevirtual 68, 3)) (by decide)) ?_
      refine q_ifnull C (tgt := 25) (by decide +kernel : decode cX10_areTwoPersons 18 = .ok (.ifnull 7, 3)) (by decide) ?_ ?_
      · exact v_X10_areTwoPersons_25 C hK
      · refine q_iconst C (by decide +kernel : decode cX10_areTwoPersons 21 = .ok (.iconst 1, 1)) (by decide) ?_
        refine q_goto C (tgt := 26) (by decide +kernel : decode cX10_areTwoPersons 22 = .ok (.goto 4, 3)) (by decide) ?_
        exact v_X10_areTwoPersons_26 C hK
theorem u_X10_areTwoPersons (l : Launch) {sp : q_Sp} (H : ∀ (av : List Value) (σ : q_S) (post : Option Value → q_S → Prop), sp av σ post → k_X10_areTwoPersons_0 post (fun _ _ _ _ _ _ => False) (q_L0 av 3) [] σ 0 0 ∧ av.length ≤ 3 ∧ ∀ v ∈ av, v.category = 1) : q_Ct l yX10_areTwoPersons cX10_areTwoPersons 3 (some .boolean) rm_X10_areTwoPersons sp := by
  refine q_met (by decide) ?_
  intro D A p e s m args below meth c σ av post C hsp
  obtain ⟨h1, h2, h3⟩ := H av σ post hsp
  exact ⟨_, v_X10_areTwoPersons_0 (K := fun _ _ _ _ _ _ => False) C (fun h hh => by cases hh), h1, h2, h3⟩
theorem t_X10_areTwoPersons (l : Launch) : q_Ct l yX10_areTwoPersons cX10_areTwoPersons 3 (some .boolean) rm_X10_areTwoPersons s_X10_areTwoPersons := u_X10_areTwoPersons l (by
  intro av σ post h
  unfold s_X10_areTwoPersons at h
  split at h
  · next r a b =>
    refine ⟨?_, by simp, by simp [Value.category]⟩
    obtain ⟨P, AC, WK, LC, CL, CP, z, pa, e1, e2, hn, h7, h8⟩ := h
    have o1 : q_oc σ r = some 10 := by simp only [q_oc, e1]
    simp only [c_push, c_null, c_iload, c_aload, c_istore, c_astore, c_iinc, c_iadd, c_isub, c_imul, c_iand, c_ineg, c_dup, c_dup2, c_pop, c_ifnull, c_ifnonnull, c_get, c_put, c_iald, c_zald, c_iast, c_zast, c_aald, c_aast, c_alen, c_new, c_newa, c_newq, c_mna, c_oinit, c_max, c_copy, c_iret, c_zret, c_aret, c_vret, q_do, q_rc, c_ifeq, c_ifne, c_iflt, c_ifge, c_ifgt, c_ifle, c_iceq, c_icne, c_iclt, c_icge, c_icgt, c_icle, c_call0, c_call1, c_call2, c_call3, c_call4, c_call5, c_call6, c_call7, q_L0, List.map_cons, List.map_nil, List.replicate, List.cons_append, List.nil_append, List.append_nil, List.length_cons, List.length_nil, List.length_set, Nat.reduceSub, Nat.reduceAdd, Nat.reduceLT, Nat.reduceLeDiff, Nat.zero_add, Nat.add_zero, Nat.sub_zero, Nat.sub_self, List.getElem?_cons_zero, List.getElem?_cons_succ, List.set_cons_zero, List.set_cons_succ, Option.toList_some, Option.toList_none, List.sum_cons, List.sum_nil, true_and, and_true, true_or, or_true, Nat.le_refl, Nat.zero_le, Value.category, Fin.isValue, Fin.val_zero, Fin.val_one, Fin.val_two, Fin.reduceFinMk, q_10, q_01, not_false_eq_true, not_true_eq_false, forall_const, true_implies, false_implies, implies_true, q_ni, q_fi, q_nb0, q_nb1, q_fb0, q_fb1, q_nor, q_nar, q_for, q_far, q_non, q_nan, q_fon, q_fan, imp_false, false_and, and_false, and_self, false_or, or_false, va_rf, refKind, k_X10_areTwoPersons_0, k_X10_areTwoPersons_25, k_X10_areTwoPersons_26, o1, pAt e1 e2 hn]
    clear e1 e2
    grind
  · exact h.elim)
