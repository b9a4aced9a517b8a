theorem inR {x : Int32} (N : Nat) (h0 : 0 ≤ x) (h : x < Int32.ofNat N) (hN : N < 2147483648 := by decide) : ∃ j : Nat, j < N ∧ x = nI j ∧ x.toNatClampNeg = j := ⟨x.toNatClampNeg, clamp_lt N h0 h hN, (nI_self h0).symm, rfl⟩
theorem idx20 (w p q : Nat) : (144 : Int32) * nI w + 12 * nI p + nI q = nI (144 * w + 12 * p + q) := by
  rw [show (144 : Int32) = nI 144 from rfl, show (12 : Int32) = nI 12 from rfl, pk_mul, pk_mul, nI_add, nI_add]
theorem idx21 (w p : Nat) : (12 : Int32) * nI w + nI p = nI (12 * w + p) := by
  rw [show (12 : Int32) = nI 12 from rfl, pk_mul, nI_add]
theorem idx30 (w p : Nat) : (20 : Int32) * nI w + nI p = nI (20 * w + p) := by
  rw [show (20 : Int32) = nI 20 from rfl, pk_mul, nI_add]
-- hasRight, end, inRight
def naF (z : Nat → Int32) : Nat := (z 5).toNatClampNeg
def EF (z : Nat → Int32) (g : Nat → Nat → Int32) (w : Nat) (k t : Int32) : Int32 × Int32 := endF g w k t (naF z) (naF z)
abbrev HR (z : Nat → Int32) (g : Nat → Nat → Int32) (w : Nat) (t k : Int32) : Prop := g 13 w ≤ t ∧ t ≤ (EF z g w k t).1 ∧ (EF z g w k t).2 = 0
def s_X11_hasRight : q_Sp := fun av σ post => match av with
  | [.ref mr, .int w, .int t, .int k] => ∃ ad z g gp r, mOKx σ mr ad z g gp r ∧ (0 ≤ w ∧ w < 20) ∧ (0 ≤ z 5 ∧ z 5 ≤ 6) ∧ (0 ≤ g 12 w.toNatClampNeg ∧ g 12 w.toNatClampNeg < 12) ∧ ∀ σ' gp', mOKx σ' mr ad z g gp' r → (HR z g w.toNatClampNeg t k → post (some (.int 1)) σ') ∧ (¬ HR z g w.toNatClampNeg t k → post (some (.int 0)) σ')
  | _ => False
theorem w9_44 : (.code yX11_endAt cX11_endAt 8 (some .int) : Cond) ∈ lw_tbl := by decide +kernel
theorem w9_45 : (.methodLink RX11 143 yX11_endAt : Cond) ∈ lw_tbl := by decide +kernel
theorem w9_46 : (.instanceMethod yX11_endAt : Cond) ∈ lw_tbl := by decide +kernel
theorem w9_47 : (.selects RX11 yX11_endAt yX11_endAt : Cond) ∈ lw_tbl := by decide +kernel
def rm_X11_hasRight : Room := { frames := 3, cells := 0, slots := 0, locals := 74 }
def k_X11_hasRight_33 (post : Option Value → q_S → Prop) (K : Nat → q_K) : q_K := (c_zret post)
def k_X11_hasRight_32 (post : Option Value → q_S → Prop) (K : Nat → q_K) : q_K := (c_push 0 (k_X11_hasRight_33 post K))
def k_X11_hasRight_0 (post : Option Value → q_S → Prop) (K : Nat → q_K) : q_K := (c_iload 2 (c_aload 0 (c_get 11 13 (c_iload 1 (c_iald (c_iclt (k_X11_hasRight_32 post K) (c_aload 0 (c_iload 1 (c_iload 3 (c_iload 2 (c_call4 (some 11) s_X11_endAt 0 0 (c_iload 2 (c_iclt (k_X11_hasRight_32 post K) (c_aload 0 (c_get 11 33 (c_ifne (k_X11_hasRight_32 post K) (c_push 1 (k_X11_hasRight_33 post K))))))))))))))))))
set_option maxRecDepth 100000 in
theorem v_X11_hasRight_33 {p : Program} {l : Launch} {e : Env} {s : State} {m : MethodId} {args : Array Value} {below : List Frame} {meth : Method} {c : Code} {D : va_G} {A : Nat → Prop} {post : Option Value → q_S → Prop} {K : Nat → q_K} (C : q_C p s m args meth c cX11_hasRight 4 RX11 "hasRight" (some .boolean) A) (hK : ∀ h ∈ ([] : List Nat), q_V p l e rm_X11_hasRight s m args below meth c D A 4 (MQ below (q_Qc D A post) args s rm_X11_hasRight.cells rm_X11_hasRight.slots A) h (K h)) : q_V p l e rm_X11_hasRight s m args below meth c D A 4 (MQ below (q_Qc D A post) args s rm_X11_hasRight.cells rm_X11_hasRight.slots A) 33 (k_X11_hasRight_33 post K) := by
  unfold k_X11_hasRight_33
  exact q_zret C rfl (by decide +kernel : decode cX11_hasRight 33 = .ok (.ireturn, 1))
set_option maxRecDepth 100000 in
theorem v_X11_hasRight_32 {p : Program} {l : Launch} {e : Env} {s : State} {m : MethodId} {args : Array Value} {below : List Frame} {meth : Method} {c : Code} {D : va_G} {A : Nat → Prop} {post : Option Value → q_S → Prop} {K : Nat → q_K} (C : q_C p s m args meth c cX11_hasRight 4 RX11 "hasRight" (some .boolean) A) (hK : ∀ h ∈ ([] : List Nat), q_V p l e rm_X11_hasRight s m args below meth c D A 4 (MQ below (q_Qc D A post) args s rm_X11_hasRight.cells rm_X11_hasRight.slots A) h (K h)) : q_V p l e rm_X11_hasRight s m args below meth c D A 4 (MQ below (q_Qc D A post) args s rm_X11_hasRight.cells rm_X11_hasRight.slots A) 32 (k_X11_hasRight_32 post K) := by
  unfold k_X11_hasRight_32
  refine q_iconst C (by decide +kernel : decode cX11_hasRight 32 = .ok (.iconst 0, 1)) (by decide) ?_
  exact v_X11_hasRight_33 C hK
set_option maxRecDepth 100000 in
theorem v_X11_hasRight_0 {p : Program} {l : Launch} {e : Env} {s : State} {m : MethodId} {args : Array Value} {below : List Frame} {meth : Method} {c : Code} {D : va_G} {A : Nat → Prop} {post : Option Value → q_S → Prop} {K : Nat → q_K} (C : q_C p s m args meth c cX11_hasRight 4 RX11 "hasRight" (some .boolean) A) (hK : ∀ h ∈ ([] : List Nat), q_V p l e rm_X11_hasRight s m args below meth c D A 4 (MQ below (q_Qc D A post) args s rm_X11_hasRight.cells rm_X11_hasRight.slots A) h (K h)) : q_V p l e rm_X11_hasRight s m args below meth c D A 4 (MQ below (q_Qc D A post) args s rm_X11_hasRight.cells rm_X11_hasRight.slots A) 0 (k_X11_hasRight_0 post K) := by
  unfold k_X11_hasRight_0
  refine q_iload_n C (by decide +kernel : decode cX11_hasRight 0 = .ok (.iload_n 2, 1)) ?_
  refine q_aload_n C (by decide +kernel : decode cX11_hasRight 1 = .ok (.aload_n 0, 1)) ?_
  refine q_get C (ci := 11) (j := 13) (C0 := RX11) (T := TX11) (N := 35) rfl iX11 giX11 (by decide) w9_29 (by decide +kernel : decode cX11_hasRight 2 = .ok (.getfield 37, 3)) ?_
  refine q_iload_n C (by decide +kernel : decode cX11_hasRight 5 = .ok (.iload_n 1, 1)) ?_
  refine q_iald C (by decide +kernel : decode cX11_hasRight 6 = .ok (.iaload, 1)) ?_
  refine q_iclt C (tgt := 32) (by decide +kernel : decode cX11_hasRight 7 = .ok (.if_icmp .lt 25, 3)) (by decide) ?_ ?_
  · exact v_X11_hasRight_32 C hK
  · refine q_aload_n C (by decide +kernel : decode cX11_hasRight 10 = .ok (.aload_n 0, 1)) ?_
    refine q_iload_n C (by decide +kernel : decode cX11_hasRight 11 = .ok (.iload_n 1, 1)) ?_
    refine q_iload_n C (by decide +kernel : decode cX11_hasRight 12 = .ok (.iload_n 3, 1)) ?_
    refine q_iload_n C (by decide +kernel : decode cX11_hasRight 13 = .ok (.iload_n 2, 1)) ?_
    refine q_call4 C (q_coV C (np := 3) (ci := 11) (rc := (RX11, TX11, 35)) (t_X11_endAt l) w9_44 rfl rfl w9_45 w9_46 w9_47 w9_6 (by decide +kernel) (by decide +kernel : decode cX11_hasRight 14 = .ok (.invokevirtual 143, 3)) (by decide)) ?_
    refine q_iload_n C (by decide +kernel : decode cX11_hasRight 17 = .ok (.iload_n 2, 1)) ?_
    refine q_iclt C (tgt := 32) (by decide +kernel : decode cX11_hasRight 18 = .ok (.if_icmp .lt 14, 3)) (by decide) ?_ ?_
    · exact v_X11_hasRight_32 C hK
    · refine q_aload_n C (by decide +kernel : decode cX11_hasRight 21 = .ok (.aload_n 0, 1)) ?_
      refine q_get C (ci := 11) (j := 33) (C0 := RX11) (T := TX11) (N := 35) rfl iX11 giX11 (by decide) w9_43 (by decide +kernel : decode cX11_hasRight 22 = .ok (.getfield 136, 3)) ?_
      refine q_ifne C (tgt := 32) (by decide +kernel : decode cX11_hasRight 25 = .ok (.ifCond .ne 7, 3)) (by decide) ?_ ?_
      · exact v_X11_hasRight_32 C hK
      · refine q_iconst C (by decide +kernel : decode cX11_hasRight 28 = .ok (.iconst 1, 1)) (by decide) ?_
        refine q_goto C (tgt := 33) (by decide +kernel : decode cX11_hasRight 29 = .ok (.goto 4, 3)) (by decide) ?_
        exact v_X11_hasRight_33 C hK
theorem u_X11_hasRight (l : Launch) {sp : q_Sp} (H : ∀ (av : List Value) (σ : q_S) (post : Option Value → q_S → Prop), sp av σ post → k_X11_hasRight_0 post (fun _ _ _ _ _ _ => False) (q_L0 av 4) [] σ 0 0 ∧ av.length ≤ 4 ∧ ∀ v ∈ av, v.category = 1) : q_Ct l yX11_hasRight cX11_hasRight 4 (some .boolean) rm_X11_hasRight sp := by
  refine q_met (by decide) ?_
  intro D A p e s m args below meth c σ av post C hsp
  obtain ⟨h1, h2, h3⟩ := H av σ post hsp
  exact ⟨_, v_X11_hasRight_0 (K := fun _ _ _ _ _ _ => False) C (fun h hh => by cases hh), h1, h2, h3⟩
theorem t_X11_hasRight (l : Launch) : q_Ct l yX11_hasRight cX11_hasRight 4 (some .boolean) rm_X11_hasRight s_X11_hasRight := u_X11_hasRight l (by
  intro av σ post h
  unfold s_X11_hasRight at h
  split at h
  · next mr w t k =>
    refine ⟨?_, by simp, by simp [Value.category]⟩
    obtain ⟨ad, z, g, gp, r, hm, hw, hI, hau, h1⟩ := h
    simp only [c_push, c_null, c_iload, c_aload, c_istore, c_astore, c_iinc, c_iadd, c_isub, c_imul, c_iand, c_ineg, c_dup, c_dup2, c_pop, c_ifnull, c_ifnonnull, c_get, c_put, c_iald, c_zald, c_iast, c_zast, c_aald, c_aast, c_alen, c_new, c_newa, c_newq, c_mna, c_oinit, c_max, c_copy, c_iret, c_zret, c_aret, c_vret, q_do, q_rc, c_ifeq, c_ifne, c_iflt, c_ifge, c_ifgt, c_ifle, c_iceq, c_icne, c_iclt, c_icge, c_icgt, c_icle, c_call0, c_call1, c_call2, c_call3, c_call4, c_call5, c_call6, c_call7, q_L0, List.map_cons, List.map_nil, List.replicate, List.cons_append, List.nil_append, List.append_nil, List.length_cons, List.length_nil, List.length_set, Nat.reduceSub, Nat.reduceAdd, Nat.reduceLT, Nat.reduceLeDiff, Nat.zero_add, Nat.add_zero, Nat.sub_zero, Nat.sub_self, List.getElem?_cons_zero, List.getElem?_cons_succ, List.set_cons_zero, List.set_cons_succ, Option.toList_some, Option.toList_none, List.sum_cons, List.sum_nil, true_and, and_true, true_or, or_true, Nat.le_refl, Nat.zero_le, Value.category, Fin.isValue, Fin.val_zero, Fin.val_one, Fin.val_two, Fin.reduceFinMk, q_10, q_01, not_false_eq_true, not_true_eq_false, forall_const, true_implies, false_implies, implies_true, q_ni, q_fi, q_nb0, q_nb1, q_fb0, q_fb1, q_nor, q_nar, q_for, q_far, q_non, q_nan, q_fon, q_fan, imp_false, false_and, and_false, and_self, false_or, or_false, va_rf, refKind, k_X11_hasRight_0, k_X11_hasRight_32, k_X11_hasRight_33, hm.rd, vpi20, hw]
    have h0 := h1 σ gp hm
    unfold HR EF naF at h1 h0
    refine ⟨fun c => by grind, fun c => ?_⟩
    refine ⟨ad, z, g, gp, r, hm, hw, hI, hau, fun σ' hm' => ?_⟩
    simp only [c_push, c_null, c_iload, c_aload, c_istore, c_astore, c_iinc, c_iadd, c_isub, c_imul, c_iand, c_ineg, c_dup, c_dup2, c_pop, c_ifnull, c_ifnonnull, c_get, c_put, c_iald, c_zald, c_iast, c_zast, c_aald, c_aast, c_alen, c_new, c_newa, c_newq, c_mna, c_oinit, c_max, c_copy, c_iret, c_zret, c_aret, c_vret, q_do, q_rc, c_ifeq, c_ifne, c_iflt, c_ifge, c_ifgt, c_ifle, c_iceq, c_icne, c_iclt, c_icge, c_icgt, c_icle, c_call0, c_call1, c_call2, c_call3, c_call4, c_call5, c_call6, c_call7, q_L0, List.map_cons, List.map_nil, List.replicate, List.cons_append, List.nil_append, List.append_nil, List.length_cons, List.length_nil, List.length_set, Nat.reduceSub, Nat.reduceAdd, Nat.reduceLT, Nat.reduceLeDiff, Nat.zero_add, Nat.add_zero, Nat.sub_zero, Nat.sub_self, List.getElem?_cons_zero, List.getElem?_cons_succ, List.set_cons_zero, List.set_cons_succ, Option.toList_some, Option.toList_none, List.sum_cons, List.sum_nil, true_and, and_true, true_or, or_true, Nat.le_refl, Nat.zero_le, Value.category, Fin.isValue, Fin.val_zero, Fin.val_one, Fin.val_two, Fin.reduceFinMk, q_10, q_01, not_false_eq_true, not_true_eq_false, forall_const, true_implies, false_implies, implies_true, q_ni, q_fi, q_nb0, q_nb1, q_fb0, q_fb1, q_nor, q_nar, q_for, q_far, q_non, q_nan, q_fon, q_fan, imp_false, false_and, and_false, and_self, false_or, or_false, va_rf, refKind, hm'.rd]
    have h2 := h1 σ' _ hm'
    clear h1 h0
    grind
  · exact h.elim)
def F_end (z : Nat → Int32) (g : Nat → Nat → Int32) (w k : Int32) : Int32 := if (0 ≤ w ∧ w < z 11) ∧ g 13 w.toNatClampNeg ≤ k ∧ k ≤ 3000 then if (EF z g w.toNatClampNeg k 0).1 = 1000000 then -1 else (EF z g w.toNatClampNeg k 0).1 else -2
def AU (z : Nat → Int32) (g : Nat → Nat → Int32) : Prop := ∀ w : Nat, nI w < z 11 → w < 20 → 0 ≤ g 12 w ∧ g 12 w < 12
theorem AU.at {z : Nat → Int32} {g : Nat → Nat → Int32} (h : AU z g) {w : Int32} (h0 : 0 ≤ w) (h1 : w < z 11) (h2 : w < 20) : 0 ≤ g 12 w.toNatClampNeg ∧ g 12 w.toNatClampNeg < 12 := h _ (by rw [nI_self h0]; exact h1) (clamp_lt 20 h0 h2)
def s_X11_end : q_Sp := fun av σ post => match av with
  | [.ref mr, .int w, .int k] => ∃ ad z g, mOK σ mr ad z g ∧ I1 z ∧ AU z g ∧ ∀ σ', mOK σ' mr ad z g → post (some (.int (F_end z g w k))) σ'
  | _ => False
theorem w9_48 : (.code yX11_isWork cX11_isWork 2 (some .boolean) : Cond) ∈ lw_tbl := by decide +kernel
theorem w9_49 : (.methodLink RX11 140 yX11_isWork : Cond) ∈ lw_tbl := by decide +kernel
theorem w9_50 : (.instanceMethod yX11_isWork : Cond) ∈ lw_tbl := by decide +kernel
theorem w9_51 : (.selects RX11 yX11_isWork yX11_isWork : Cond) ∈ lw_tbl := by decide +kernel
def rm_X11_end : Room := { frames := 3, cells := 0, slots := 0, locals := 74 }
def k_X11_end_24 (post : Option Value → q_S → Prop) (K : Nat → q_K) : q_K := (c_push (-2) (c_iret post))
def k_X11_end_46 (post : Option Value → q_S → Prop) (K : Nat → q_K) : q_K := (c_iret post)
def k_X11_end_0 (post : Option Value → q_S → Prop) (K : Nat → q_K) : q_K := (c_aload 0 (c_iload 1 (c_call2 (some 11) s_X11_isWork 0 0 (c_ifeq (k_X11_end_24 post K) (c_iload 2 (c_aload 0 (c_get 11 13 (c_iload 1 (c_iald (c_push 3000 (c_call3 none s_X11_in 0 0 (c_ifne (c_aload 0 (c_iload 1 (c_iload 2 (c_push 0 (c_call4 (some 11) s_X11_endAt 0 0 (c_istore 3 (c_iload 3 (c_push 1000000 (c_icne (c_iload 3 (k_X11_end_46 post K)) (c_push (-1) (k_X11_end_46 post K))))))))))) (k_X11_end_24 post K)))))))))))))
set_option maxRecDepth 100000 in
theorem v_X11_end_24 {p : Program} {l : Launch} {e : Env} {s : State} {m : MethodId} {args : Array Value} {below : List Frame} {meth : Method} {c : Code} {D : va_G} {A : Nat → Prop} {post : Option Value → q_S → Prop} {K : Nat → q_K} (C : q_C p s m args meth c cX11_end 4 RX11 "end" (some .int) A) (hK : ∀ h ∈ ([] : List Nat), q_V p l e rm_X11_end s m args below meth c D A 4 (MQ below (q_Qc D A post) args s rm_X11_end.cells rm_X11_end.slots A) h (K h)) : q_V p l e rm_X11_end s m args below meth c D A 4 (MQ below (q_Qc D A post) args s rm_X11_end.cells rm_X11_end.slots A) 24 (k_X11_end_24 post K) := by
  unfold k_X11_end_24
  refine q_bipush C (by decide +kernel : decode cX11_end 24 = .ok (.bipush (-2), 2)) (by decide) ?_
  exact q_iret C rfl (by decide +kernel : decode cX11_end 26 = .ok (.ireturn, 1))
set_option maxRecDepth 100000 in
theorem v_X11_end_46 {p : Program} {l : Launch} {e : Env} {s : State} {m : MethodId} {args : Array Value} {below : List Frame} {meth : Method} {c : Code} {D : va_G} {A : Nat → Prop} {post : Option Value → q_S → Prop} {K : Nat → q_K} (C : q_C p s m args meth c cX11_end 4 RX11 "end" (some .int) A) (hK : ∀ h ∈ ([] : List Nat), q_V p l e rm_X11_end s m args below meth c D A 4 (MQ below (q_Qc D A post) args s rm_X11_end.cells rm_X11_end.slots A) h (K h)) : q_V p l e rm_X11_end s m args below meth c D A 4 (MQ below (q_Qc D A post) args s rm_X11_end.cells rm_X11_end.slots A) 46 (k_X11_end_46 post K) := by
  unfold k_X11_end_46
  exact q_iret C rfl (by decide +kernel : decode cX11_end 46 = .ok (.ireturn, 1))
set_option maxRecDepth 100000 in
theorem v_X11_end_0 {p : Program} {l : Launch} {e : Env} {s : State} {m : MethodId} {args : Array Value} {below : List Frame} {meth : Method} {c : Code} {D : va_G} {A : Nat → Prop} {post : Option Value → q_S → Prop} {K : Nat → q_K} (C : q_C p s m args meth c cX11_end 4 RX11 "end" (some .int) A) (hK : ∀ h ∈ ([] : List Nat), q_V p l e rm_X11_end s m args below meth c D A 4 (MQ below (q_Qc D A post) args s rm_X11_end.cells rm_X11_end.slots A) h (K h)) : q_V p l e rm_X11_end s m args below meth c D A 4 (MQ below (q_Qc D A post) args s rm_X11_end.cells rm_X11_end.slots A) 0 (k_X11_end_0 post K) := by
  unfold k_X11_end_0
  refine q_aload_n C (by decide +kernel : decode cX11_end 0 = .ok (.aload_n 0, 1)) ?_
  refine q_iload_n C (by decide +kernel : decode cX11_end 1 = .ok (.iload_n 1, 1)) ?_
  refine q_call2 C (q_coV C (np := 1) (ci := 11) (rc := (RX11, TX11, 35)) (t_X11_isWork l) w9_48 rfl rfl w9_49 w9_50 w9_51 w9_6 (by decide +kernel) (by decide +kernel : decode cX11_end 2 = .ok (.invokevirtual 140, 3)) (by decide)) ?_
  refine q_ifeq C (tgt := 24) (by decide +kernel : decode cX11_end 5 = .ok (.ifCond .eq 19, 3)) (by decide) ?_ ?_
  · exact v_X11_end_24 C hK
  · refine q_iload_n C (by decide +kernel : decode cX11_end 8 = .ok (.iload_n 2, 1)) ?_
    refine q_aload_n C (by decide +kernel : decode cX11_end 9 = .ok (.aload_n 0, 1)) ?_
    refine q_get C (ci := 11) (j := 13) (C0 := RX11) (T := TX11) (N := 35) rfl iX11 giX11 (by decide) w9_29 (by decide +kernel : decode cX11_end 10 = .ok (.getfield 37, 3)) ?_
    refine q_iload_n C (by decide +kernel : decode cX11_end 13 = .ok (.iload_n 1, 1)) ?_
    refine q_iald C (by decide +kernel : decode cX11_end 14 = .ok (.iaload, 1)) ?_
    refine q_sipush C (by decide +kernel : decode cX11_end 15 = .ok (.sipush 3000, 3)) (by decide) ?_
    refine q_call3 C (q_coS C (np := 3) (t_X11_in l) w9_5 w9_8 w9_7 w9_6 (by decide +kernel) (by decide +kernel : decode cX11_end 18 = .ok (.invokestatic 92, 3)) (by decide)) ?_
    refine q_ifne C (tgt := 27) (by decide +kernel : decode cX11_end 21 = .ok (.ifCond .ne 6, 3)) (by decide) ?_ ?_
    · refine q_aload_n C (by decide +kernel : decode cX11_end 27 = .ok (.aload_n 0, 1)) ?_
      refine q_iload_n C (by decide +kernel : decode cX11_end 28 = .ok (.iload_n 1, 1)) ?_
      refine q_iload_n C (by decide +kernel : decode cX11_end 29 = .ok (.iload_n 2, 1)) ?_
      refine q_iconst C (by decide +kernel : decode cX11_end 30 = .ok (.iconst 0, 1)) (by decide) ?_
      refine q_call4 C (q_coV C (np := 3) (ci := 11) (rc := (RX11, TX11, 35)) (t_X11_endAt l) w9_44 rfl rfl w9_45 w9_46 w9_47 w9_6 (by decide +kernel) (by decide +kernel : decode cX11_end 31 = .ok (.invokevirtual 143, 3)) (by decide)) ?_
      refine q_istore_n C (by decide +kernel : decode cX11_end 34 = .ok (.istore_n 3, 1)) ?_
      refine q_iload_n C (by decide +kernel : decode cX11_end 35 = .ok (.iload_n 3, 1)) ?_
      refine q_ldc C (by decide +kernel : decode cX11_end 36 = .ok (.ldc 125, 2)) w9_34 ?_
      refine q_icne C (tgt := 45) (by decide +kernel : decode cX11_end 38 = .ok (.if_icmp .ne 7, 3)) (by decide) ?_ ?_
      · refine q_iload_n C (by decide +kernel : decode cX11_end 45 = .ok (.iload_n 3, 1)) ?_
        exact v_X11_end_46 C hK
      · refine q_iconst C (by decide +kernel : decode cX11_end 41 = .ok (.iconst (-1), 1)) (by decide) ?_
        refine q_goto C (tgt := 46) (by decide +kernel : decode cX11_end 42 = .ok (.goto 4, 3)) (by decide) ?_
        exact v_X11_end_46 C hK
    · exact v_X11_end_24 C hK
theorem u_X11_end (l : Launch) {sp : q_Sp} (H : ∀ (av : List Value) (σ : q_S) (post : Option Value → q_S → Prop), sp av σ post → k_X11_end_0 post (fun _ _ _ _ _ _ => False) (q_L0 av 4) [] σ 0 0 ∧ av.length ≤ 4 ∧ ∀ v ∈ av, v.category = 1) : q_Ct l yX11_end cX11_end 4 (some .int) rm_X11_end sp := by
  refine q_met (by decide) ?_
  intro D A p e s m args below meth c σ av post C hsp
  obtain ⟨h1, h2, h3⟩ := H av σ post hsp
  exact ⟨_, v_X11_end_0 (K := fun _ _ _ _ _ _ => False) C (fun h hh => by cases hh), h1, h2, h3⟩
theorem t_X11_end (l : Launch) : q_Ct l yX11_end cX11_end 4 (some .int) rm_X11_end s_X11_end := u_X11_end l (by
  intro av σ post h
  unfold s_X11_end at h
  split at h
  · next mr w k =>
    refine ⟨?_, by simp, by simp [Value.category]⟩
    obtain ⟨ad, z, g, ⟨gp, r, hm⟩, hI, hA, h1⟩ := h
    simp only [c_push, c_null, c_iload, c_aload, c_istore, c_astore, c_iinc, c_iadd, c_isub, c_imul, c_iand, c_ineg, c_dup, c_dup2, c_pop, c_ifnull, c_ifnonnull, c_get, c_put, c_iald, c_zald, c_iast, c_zast, c_aald, c_aast, c_alen, c_new, c_newa, c_newq, c_mna, c_oinit, c_max, c_copy, c_iret, c_zret, c_aret, c_vret, q_do, q_rc, c_ifeq, c_ifne, c_iflt, c_ifge, c_ifgt, c_ifle, c_iceq, c_icne, c_iclt, c_icge, c_icgt, c_icle, c_call0, c_call1, c_call2, c_call3, c_call4, c_call5, c_call6, c_call7, q_L0, List.map_cons, List.map_nil, List.replicate, List.cons_append, List.nil_append, List.append_nil, List.length_cons, List.length_nil, List.length_set, Nat.reduceSub, Nat.reduceAdd, Nat.reduceLT, Nat.reduceLeDiff, Nat.zero_add, Nat.add_zero, Nat.sub_zero, Nat.sub_self, List.getElem?_cons_zero, List.getElem?_cons_succ, List.set_cons_zero, List.set_cons_succ, Option.toList_some, Option.toList_none, List.sum_cons, List.sum_nil, true_and, and_true, true_or, or_true, Nat.le_refl, Nat.zero_le, Value.category, Fin.isValue, Fin.val_zero, Fin.val_one, Fin.val_two, Fin.reduceFinMk, q_10, q_01, not_false_eq_true, not_true_eq_false, forall_const, true_implies, false_implies, implies_true, q_ni, q_fi, q_nb0, q_nb1, q_fb0, q_fb1, q_nor, q_nar, q_for, q_far, q_non, q_nan, q_fon, q_fan, imp_false, false_and, and_false, and_self, false_or, or_false, va_rf, refKind, k_X11_end_0, k_X11_end_24, k_X11_end_46, hm.rd, vpi20, s_X11_isWork, s_X11_in, s_X10_isWithin]
    have h0 := h1 σ ⟨gp, r, hm⟩
    have hau := fun c0 c1 c2 => hA.at (w := w) c0 c1 c2
    unfold I1 at hI
    unfold F_end at h0
    refine ⟨hI.2.2.2.1, fun c => ?_, fun c => by grind⟩
    have cw : 0 ≤ w ∧ w < 20 := by grind
    refine ⟨cw, fun c2 => ?_, fun c2 => by grind⟩
    refine ⟨ad, z, g, gp, r, hm, cw, hI.2.2.1, hau c.1 c.2 cw.2, fun σ' hm' => ?_⟩
    have h2 := h1 σ' ⟨_, r, hm'⟩
    unfold F_end EF naF at h2
    simp only [c_push, c_null, c_iload, c_aload, c_istore, c_astore, c_iinc, c_iadd, c_isub, c_imul, c_iand, c_ineg, c_dup, c_dup2, c_pop, c_ifnull, c_ifnonnull, c_get, c_put, c_iald, c_zald, c_iast, c_zast, c_aald, c_aast, c_alen, c_new, c_newa, c_newq, c_mna, c_oinit, c_max, c_copy, c_iret, c_zret, c_aret, c_vret, q_do, q_rc, c_ifeq, c_ifne, c_iflt, c_ifge, c_ifgt, c_ifle, c_iceq, c_icne, c_iclt, c_icge, c_icgt, c_icle, c_call0, c_call1, c_call2, c_call3, c_call4, c_call5, c_call6, c_call7, q_L0, List.map_cons, List.map_nil, List.replicate, List.cons_append, List.nil_append, List.append_nil, List.length_cons, List.length_nil, List.length_set, Nat.reduceSub, Nat.reduceAdd, Nat.reduceLT, Nat.reduceLeDiff, Nat.zero_add, Nat.add_zero, Nat.sub_zero, Nat.sub_self, List.getElem?_cons_zero, List.getElem?_cons_succ, List.set_cons_zero, List.set_cons_succ, Option.toList_some, Option.toList_none, List.sum_cons, List.sum_nil, true_and, and_true, true_or, or_true, Nat.le_refl, Nat.zero_le, Value.category, Fin.isValue, Fin.val_zero, Fin.val_one, Fin.val_two, Fin.reduceFinMk, q_10, q_01, not_false_eq_true, not_true_eq_false, forall_const, true_implies, false_implies, implies_true, q_ni, q_fi, q_nb0, q_nb1, q_fb0, q_fb1, q_nor, q_nar, q_for, q_far, q_non, q_nan, q_fon, q_fan, imp_false, false_and, and_false, and_self, false_or, or_false, va_rf, refKind, hm'.rd]
    clear h1 h0
    grind
  · exact h.elim)
def F_inRight (z : Nat → Int32) (g : Nat → Nat → Int32) (w t k : Int32) : Int32 := if (0 ≤ w ∧ w < z 11) ∧ (0 ≤ t ∧ t ≤ 3000) ∧ g 13 w.toNatClampNeg ≤ k ∧ k ≤ 3000 then if HR z g w.toNatClampNeg t k then 1 else 0 else -2
def s_X11_inRight : q_Sp := fun av σ post => match av with
  | [.ref mr, .int w, .int t, .int k] => ∃ ad z g, mOK σ mr ad z g ∧ I1 z ∧ AU z g ∧ ∀ σ', mOK σ' mr ad z g → post (some (.int (F_inRight z g w t k))) σ'
  | _ => False
theorem w9_52 : (.code yX11_hasRight cX11_hasRight 4 (some .boolean) : Cond) ∈ lw_tbl := by decide +kernel
theorem w9_53 : (.methodLink RX11 146 yX11_hasRight : Cond) ∈ lw_tbl := by decide +kernel
theorem w9_54 : (.instanceMethod yX11_hasRight : Cond) ∈ lw_tbl := by decide +kernel
theorem w9_55 : (.selects RX11 yX11_hasRight yX11_hasRight : Cond) ∈ lw_tbl := by decide +kernel
def rm_X11_inRight : Room := { frames := 4, cells := 0, slots := 0, locals := 97 }
def k_X11_inRight_35 (post : Option Value → q_S → Prop) (K : Nat → q_K) : q_K := (c_push (-2) (c_iret post))
def k_X11_inRight_53 (post : Option Value → q_S → Prop) (K : Nat → q_K) : q_K := (c_iret post)
def k_X11_inRight_0 (post : Option Value → q_S → Prop) (K : Nat → q_K) : q_K := (c_aload 0 (c_iload 1 (c_call2 (some 11) s_X11_isWork 0 0 (c_ifeq (k_X11_inRight_35 post K) (c_iload 2 (c_push 0 (c_push 3000 (c_call3 none s_X11_in 0 0 (c_ifeq (k_X11_inRight_35 post K) (c_iload 3 (c_aload 0 (c_get 11 13 (c_iload 1 (c_iald (c_push 3000 (c_call3 none s_X11_in 0 0 (c_ifne (c_aload 0 (c_iload 1 (c_iload 2 (c_iload 3 (c_call4 (some 11) s_X11_hasRight 0 0 (c_ifeq (c_push 0 (k_X11_inRight_53 post K)) (c_push 1 (k_X11_inRight_53 post K)))))))) (k_X11_inRight_35 post K))))))))))))))))))
set_option maxRecDepth 100000 in
theorem v_X11_inRight_35 {p : Program} {l : Launch} {e : Env} {s : State} {m : MethodId} {args : Array Value} {below : List Frame} {meth : Method} {c : Code} {D : va_G} {A : Nat → Prop} {post : Option Value → q_S → Prop} {K : Nat → q_K} (C : q_C p s m args meth c cX11_inRight 4 RX11 "inRight" (some .int) A) (hK : ∀ h ∈ ([] : List Nat), q_V p l e rm_X11_inRight s m args below meth c D A 4 (MQ below (q_Qc D A post) args s rm_X11_inRight.cells rm_X11_inRight.slots A) h (K h)) : q_V p l e rm_X11_inRight s m args below meth c D A 4 (MQ below (q_Qc D A post) args s rm_X11_inRight.cells rm_X11_inRight.slots A) 35 (k_X11_inRight_35 post K) := by
  unfold k_X11_inRight_35
  refine q_bipush C (by decide +kernel : decode cX11_inRight 35 = .ok (.bipush (-2), 2)) (by decide) ?_
  exact q_iret C rfl (by decide +kernel : decode cX11_inRight 37 = .ok (.ireturn, 1))
set_option maxRecDepth 100000 in
theorem v_X11_inRight_53 {p : Program} {l : Launch} {e : Env} {s : State} {m : MethodId} {args : Array Value} {below : List Frame} {meth : Method} {c : Code} {D : va_G} {A : Nat → Prop} {post : Option Value → q_S → Prop} {K : Nat → q_K} (C : q_C p s m args meth c cX11_inRight 4 RX11 "inRight" (some .int) A) (hK : ∀ h ∈ ([] : List Nat), q_V p l e rm_X11_inRight s m args below meth c D A 4 (MQ below (q_Qc D A post) args s rm_X11_inRight.cells rm_X11_inRight.slots A) h (K h)) : q_V p l e rm_X11_inRight s m args below meth c D A 4 (MQ below (q_Qc D A post) args s rm_X11_inRight.cells rm_X11_inRight.slots A) 53 (k_X11_inRight_53 post K) := by
  unfold k_X11_inRight_53
  exact q_iret C rfl (by decide +kernel : decode cX11_inRight 53 = .ok (.ireturn, 1))
set_option maxRecDepth 100000 in
theorem v_X11_inRight_0 {p : Program} {l : Launch} {e : Env} {s : State} {m : MethodId} {args : Array Value} {below : List Frame} {meth : Method} {c : Code} {D : va_G} {A : Nat → Prop} {post : Option Value → q_S → Prop} {K : Nat → q_K} (C : q_C p s m args meth c cX11_inRight 4 RX11 "inRight" (some .int) A) (hK : ∀ h ∈ ([] : List Nat), q_V p l e rm_X11_inRight s m args below meth c D A 4 (MQ below (q_Qc D A post) args s rm_X11_inRight.cells rm_X11_inRight.slots A) h (K h)) : q_V p l e rm_X11_inRight s m args below meth c D A 4 (MQ below (q_Qc D A post) args s rm_X11_inRight.cells rm_X11_inRight.slots A) 0 (k_X11_inRight_0 post K) := by
  unfold k_X11_inRight_0
  refine q_aload_n C (by decide +kernel : decode cX11_inRight 0 = .ok (.aload_n 0, 1)) ?_
  refine q_iload_n C (by decide +kernel : decode cX11_inRight 1 = .ok (.iload_n 1, 1)) ?_
  refine q_call2 C (q_coV C (np := 1) (ci := 11) (rc := (RX11, TX11, 35)) (t_X11_isWork l) w9_48 rfl rfl w9_49 w9_50 w9_51 w9_6 (by decide +kernel) (by decide +kernel : decode cX11_inRight 2 = .ok (.invokevirtual 140, 3)) (by decide)) ?_
  refine q_ifeq C (tgt := 35) (by decide +kernel : decode cX11_inRight 5 = .ok (.ifCond .eq 30, 3)) (by decide) ?_ ?_
  · exact v_X11_inRight_35 C hK
  · refine q_iload_n C (by decide +kernel : decode cX11_inRight 8 = .ok (.iload_n 2, 1)) ?_
    refine q_iconst C (by decide +kernel : decode cX11_inRight 9 = .ok (.iconst 0, 1)) (by decide) ?_
    refine q_sipush C (by decide +kernel : decode cX11_inRight 10 = .ok (.sipush 3000, 3)) (by decide) ?_
    refine q_call3 C (q_coS C (np := 3) (t_X11_in l) w9_5 w9_8 w9_7 w9_6 (by decide +kernel) (by decide +kernel : decode cX11_inRight 13 = .ok (.invokestatic 92, 3)) (by decide)) ?_
    refine q_ifeq C (tgt := 35) (by decide +kernel : decode cX11_inRight 16 = .ok (.ifCond .eq 19, 3)) (by decide) ?_ ?_
    · exact v_X11_inRight_35 C hK
    · refine q_iload_n C (by decide +kernel : decode cX11_inRight 19 = .ok (.iload_n 3, 1)) ?_
      refine q_aload_n C (by decide +kernel : decode cX11_inRight 20 = .ok (.aload_n 0, 1)) ?_
      refine q_get C (ci := 11) (j := 13) (C0 := RX11) (T := TX11) (N := 35) rfl iX11 giX11 (by decide) w9_29 (by decide +kernel : decode cX11_inRight 21 = .ok (.getfield 37, 3)) ?_
      refine q_iload_n C (by decide +kernel : decode cX11_inRight 24 = .ok (.iload_n 1, 1)) ?_
      refine q_iald C (by decide +kernel : decode cX11_inRight 25 = .ok (.iaload, 1)) ?_
      refine q_sipush C (by decide +kernel : decode cX11_inRight 26 = .ok (.sipush 3000, 3)) (by decide) ?_
      refine q_call3 C (q_coS C (np := 3) (t_X11_in l) w9_5 w9_8 w9_7 w9_6 (by decide +kernel) (by decide +kernel : decode cX11_inRight 29 = .ok (.invokestatic 92, 3)) (by decide)) ?_
      refine q_ifne C (tgt := 38) (by decide +kernel : decode cX11_inRight 32 = .ok (.ifCond .ne 6, 3)) (by decide) ?_ ?_
      · refine q_aload_n C (by decide +kernel : decode cX11_inRight 38 = .ok (.aload_n 0, 1)) ?_
        refine q_iload_n C (by decide +kernel : decode cX11_inRight 39 = .ok (.iload_n 1, 1)) ?_
        refine q_iload_n C (by decide +kernel : decode cX11_inRight 40 = .ok (.iload_n 2, 1)) ?_
        refine q_iload_n C (by decide +kernel : decode cX11_inRight 41 = .ok (.iload_n 3, 1)) ?_
        refine q_call4 C (q_coV C (np := 3) (ci := 11) (rc := (RX11, TX11, 35)) (t_X11_hasRight l) w9_52 rfl rfl w9_53 w9_54 w9_55 w9_6 (by decide +kernel) (by decide +kernel : decode cX11_inRight 42 = .ok (.invokevirtual 146, 3)) (by decide)) ?_
        refine q_ifeq C (tgt := 52) (by decide +kernel : decode cX11_inRight 45 = .ok (.ifCond .eq 7, 3)) (by decide) ?_ ?_
        · refine q_iconst C (by decide +kernel : decode cX11_inRight 52 = .ok (.iconst 0, 1)) (by decide) ?_
          exact v_X11_inRight_53 C hK
        · refine q_iconst C (by decide +kernel : decode cX11_inRight 48 = .ok (.iconst 1, 1)) (by decide) ?_
          refine q_goto C (tgt := 53) (by decide +kernel : decode cX11_inRight 49 = .ok (.goto 4, 3)) (by decide) ?_
          exact v_X11_inRight_53 C hK
      · exact v_X11_inRight_35 C hK
theorem u_X11_inRight (l : Launch) {sp : q_Sp} (H : ∀ (av : List Value) (σ : q_S) (post : Option Value → q_S → Prop), sp av σ post → k_X11_inRight_0 post (fun _ _ _ _ _ _ => False) (q_L0 av 4) [] σ 0 0 ∧ av.length ≤ 4 ∧ ∀ v ∈ av, v.category = 1) : q_Ct l yX11_inRight cX11_inRight 4 (some .int) rm_X11_inRight sp := by
  refine q_met (by decide) ?_
  intro D A p e s m args below meth c σ av post C hsp
  obtain ⟨h1, h2, h3⟩ := H av σ post hsp
  exact ⟨_, v_X11_inRight_0 (K := fun _ _ _ _ _ _ => False) C (fun h hh => by cases hh), h1, h2, h3⟩
theorem t_X11_inRight (l : Launch) : q_Ct l yX11_inRight cX11_inRight 4 (some .int) rm_X11_inRight s_X11_inRight := u_X11_inRight l (by
  intro av σ post h
  unfold s_X11_inRight at h
  split at h
  · next mr w t k =>
    refine ⟨?_, by simp, by simp [Value.category]⟩
    obtain ⟨ad, z, g, ⟨gp, r, hm⟩, hI, hA, h1⟩ := h
    simp only [c_push, c_null, c_iload, c_aload, c_istore, c_astore, c_iinc, c_iadd, c_isub, c_imul, c_iand, c_ineg, c_dup, c_dup2, c_pop, c_ifnull, c_ifnonnull, c_get, c_put, c_iald, c_zald, c_iast, c_zast, c_aald, c_aast, c_alen, c_new, c_newa, c_newq, c_mna, c_oinit, c_max, c_copy, c_iret, c_zret, c_aret, c_vret, q_do, q_rc, c_ifeq, c_ifne, c_iflt, c_ifge, c_ifgt, c_ifle, c_iceq, c_icne, c_iclt, c_icge, c_icgt, c_icle, c_call0, c_call1, c_call2, c_call3, c_call4, c_call5, c_call6, c_call7, q_L0, List.map_cons, List.map_nil, List.replicate, List.cons_append, List.nil_append, List.append_nil, List.length_cons, List.length_nil, List.length_set, Nat.reduceSub, Nat.reduceAdd, Nat.reduceLT, Nat.reduceLeDiff, Nat.zero_add, Nat.add_zero, Nat.sub_zero, Nat.sub_self, List.getElem?_cons_zero, List.getElem?_cons_succ, List.set_cons_zero, List.set_cons_succ, Option.toList_some, Option.toList_none, List.sum_cons, List.sum_nil, true_and, and_true, true_or, or_true, Nat.le_refl, Nat.zero_le, Value.category, Fin.isValue, Fin.val_zero, Fin.val_one, Fin.val_two, Fin.reduceFinMk, q_10, q_01, not_false_eq_true, not_true_eq_false, forall_const, true_implies, false_implies, implies_true, q_ni, q_fi, q_nb0, q_nb1, q_fb0, q_fb1, q_nor, q_nar, q_for, q_far, q_non, q_nan, q_fon, q_fan, imp_false, false_and, and_false, and_self, false_or, or_false, va_rf, refKind, k_X11_inRight_0, k_X11_inRight_35, k_X11_inRight_53, hm.rd, vpi20, s_X11_isWork, s_X11_in, s_X10_isWithin]
    have h0 := h1 σ ⟨gp, r, hm⟩
    have hau := fun c0 c1 c2 => hA.at (w := w) c0 c1 c2
    unfold I1 at hI
    unfold F_inRight at h0
    refine ⟨hI.2.2.2.1, fun c => ?_, fun c => by grind⟩
    have cw : 0 ≤ w ∧ w < 20 := by grind
    refine ⟨fun c1 => ?_, fun c1 => by grind⟩
    refine ⟨cw, fun c2 => ?_, fun c2 => by grind⟩
    refine ⟨ad, z, g, gp, r, hm, cw, hI.2.2.1, hau c.1 c.2 cw.2, fun σ' gp' hm' => ?_⟩
    have h2 := h1 σ' ⟨_, r, hm'⟩
    rw [F_inRight, if_pos ⟨c, c1, c2⟩] at h2
    refine ⟨fun c3 => ?_, fun c3 => ?_⟩
    · rw [if_pos c3] at h2
      simp only [c_push, c_null, c_iload, c_aload, c_istore, c_astore, c_iinc, c_iadd, c_isub, c_imul, c_iand, c_ineg, c_dup, c_dup2, c_pop, c_ifnull, c_ifnonnull, c_get, c_put, c_iald, c_zald, c_iast, c_zast, c_aald, c_aast, c_alen, c_new, c_newa, c_newq, c_mna, c_oinit, c_max, c_copy, c_iret, c_zret, c_aret, c_vret, q_do, q_rc, c_ifeq, c_ifne, c_iflt, c_ifge, c_ifgt, c_ifle, c_iceq, c_icne, c_iclt, c_icge, c_icgt, c_icle, c_call0, c_call1, c_call2, c_call3, c_call4, c_call5, c_call6, c_call7, q_L0, List.map_cons, List.map_nil, List.replicate, List.cons_append, List.nil_append, List.append_nil, List.length_cons, List.length_nil, List.length_set, Nat.reduceSub, Nat.reduceAdd, Nat.reduceLT, Nat.reduceLeDiff, Nat.zero_add, Nat.add_zero, Nat.sub_zero, Nat.sub_self, List.getElem?_cons_zero, List.getElem?_cons_succ, List.set_cons_zero, List.set_cons_succ, Option.toList_some, Option.toList_none, List.sum_cons, List.sum_nil, true_and, and_true, true_or, or_true, Nat.le_refl, Nat.zero_le, Value.category, Fin.isValue, Fin.val_zero, Fin.val_one, Fin.val_two, Fin.reduceFinMk, q_10, q_01, not_false_eq_true, not_true_eq_false, forall_const, true_implies, false_implies, implies_true, q_ni, q_fi, q_nb0, q_nb1, q_fb0, q_fb1, q_nor, q_nar, q_for, q_far, q_non, q_nan, q_fon, q_fan, imp_false, false_and, and_false, and_self, false_or, or_false, va_rf, refKind]
      exact h2
    · rw [if_neg c3] at h2
      simp only [c_push, c_null, c_iload, c_aload, c_istore, c_astore, c_iinc, c_iadd, c_isub, c_imul, c_iand, c_ineg, c_dup, c_dup2, c_pop, c_ifnull, c_ifnonnull, c_get, c_put, c_iald, c_zald, c_iast, c_zast, c_aald, c_aast, c_alen, c_new, c_newa, c_newq, c_mna, c_oinit, c_max, c_copy, c_iret, c_zret, c_aret, c_vret, q_do, q_rc, c_ifeq, c_ifne, c_iflt, c_ifge, c_ifgt, c_ifle, c_iceq, c_icne, c_iclt, c_icge, c_icgt, c_icle, c_call0, c_call1, c_call2, c_call3, c_call4, c_call5, c_call6, c_call7, q_L0, List.map_cons, List.map_nil, List.replicate, List.cons_append, List.nil_append, List.append_nil, List.length_cons, List.length_nil, List.length_set, Nat.reduceSub, Nat.reduceAdd, Nat.reduceLT, Nat.reduceLeDiff, Nat.zero_add, Nat.add_zero, Nat.sub_zero, Nat.sub_self, List.getElem?_cons_zero, List.getElem?_cons_succ, List.set_cons_zero, List.set_cons_succ, Option.toList_some, Option.toList_none, List.sum_cons, List.sum_nil, true_and, and_true, true_or, or_true, Nat.le_refl, Nat.zero_le, Value.category, Fin.isValue, Fin.val_zero, Fin.val_one, Fin.val_two, Fin.reduceFinMk, q_10, q_01, not_false_eq_true, not_true_eq_false, forall_const, true_implies, false_implies, implies_true, q_ni, q_fi, q_nb0, q_nb1, q_fb0, q_fb1, q_nor, q_nar, q_for, q_far, q_non, q_nan, q_fon, q_fan, imp_false, false_and, and_false, and_self, false_or, or_false, va_rf, refKind]
      exact h2
  · exact h.elim)
-- move
def moveF (z : Nat → Int32) (g : Nat → Nat → Int32) (w a b n : Int32) : Nat → Nat → Int32 := gup (gup (gup (gup (gup g 15 (z 14).toNatClampNeg (z 0)) 16 (z 14).toNatClampNeg w) 17 (z 14).toNatClampNeg a) 18 (z 14).toNatClampNeg b) 19 (z 14).toNatClampNeg n
def s_X11_move : q_Sp := fun av σ post => match av with
  | [.ref mr, .int w, .int a, .int b, .int n] => ∃ ad z g gp r, mOKx σ mr ad z g gp r ∧ (0 ≤ z 14 ∧ z 14 < 1000) ∧ ∀ σ', mOKx σ' mr ad (upd z 14 (z 14 + 1)) (moveF z g w a b n) gp r → post none σ'
  | _ => False
theorem w9_56 : (.fieldLink RX11 40 (TX11 15).1 (TX11 15).2.1 (TX11 15).2.2.1 : Cond) ∈ lw_tbl := by decide +kernel
theorem w9_57 : (.fieldLink RX11 149 (TX11 14).1 (TX11 14).2.1 (TX11 14).2.2.1 : Cond) ∈ lw_tbl := by decide +kernel
theorem w9_58 : (.fieldLink RX11 43 (TX11 16).1 (TX11 16).2.1 (TX11 16).2.2.1 : Cond) ∈ lw_tbl := by decide +kernel
theorem w9_59 : (.fieldLink RX11 46 (TX11 17).1 (TX11 17).2.1 (TX11 17).2.2.1 : Cond) ∈ lw_tbl := by decide +kernel
theorem w9_60 : (.fieldLink RX11 49 (TX11 18).1 (TX11 18).2.1 (TX11 18).2.2.1 : Cond) ∈ lw_tbl := by decide +kernel
theorem w9_61 : (.fieldLink RX11 52 (TX11 19).1 (TX11 19).2.1 (TX11 19).2.2.1 : Cond) ∈ lw_tbl := by decide +kernel
def rm_X11_move : Room := { frames := 0, cells := 0, slots := 0, locals := 0 }
def k_X11_move_0 (post : Option Value → q_S → Prop) (K : Nat → q_K) : q_K := (c_aload 0 (c_get 11 15 (c_aload 0 (c_get 11 14 (c_aload 0 (c_get 11 0 (c_iast (c_aload 0 (c_get 11 16 (c_aload 0 (c_get 11 14 (c_iload 1 (c_iast (c_aload 0 (c_get 11 17 (c_aload 0 (c_get 11 14 (c_iload 2 (c_iast (c_aload 0 (c_get 11 18 (c_aload 0 (c_get 11 14 (c_iload 3 (c_iast (c_aload 0 (c_get 11 19 (c_aload 0 (c_get 11 14 (c_iload 4 (c_iast (c_aload 0 (c_dup (c_get 11 14 (c_push 1 (c_iadd (c_put 11 14 (.int) (c_vret post))))))))))))))))))))))))))))))))))))))
set_option maxRecDepth 100000 in
theorem v_X11_move_0 {p : Program} {l : Launch} {e : Env} {s : State} {m : MethodId} {args : Array Value} {below : List Frame} {meth : Method} {c : Code} {D : va_G} {A : Nat → Prop} {post : Option Value → q_S → Prop} {K : Nat → q_K} (C : q_C p s m args meth c cX11_move 5 RX11 "move" none A) (hK : ∀ h ∈ ([] : List Nat), q_V p l e rm_X11_move s m args below meth c D A 5 (MQ below (q_Qc D A post) args s rm_X11_move.cells rm_X11_move.slots A) h (K h)) : q_V p l e rm_X11_move s m args below meth c D A 5 (MQ below (q_Qc D A post) args s rm_X11_move.cells rm_X11_move.slots A) 0 (k_X11_move_0 post K) := by
  unfold k_X11_move_0
  refine q_aload_n C (by decide +kernel : decode cX11_move 0 = .ok (.aload_n 0, 1)) ?_
  refine q_get C (ci := 11) (j := 15) (C0 := RX11) (T := TX11) (N := 35) rfl iX11 giX11 (by decide) w9_56 (by decide +kernel : decode cX11_move 1 = .ok (.getfield 40, 3)) ?_
  refine q_aload_n C (by decide +kernel : decode cX11_move 4 = .ok (.aload_n 0, 1)) ?_
  refine q_get C (ci := 11) (j := 14) (C0 := RX11) (T := TX11) (N := 35) rfl iX11 giX11 (by decide) w9_57 (by decide +kernel : decode cX11_move 5 = .ok (.getfield 149, 3)) ?_
  refine q_aload_n C (by decide +kernel : decode cX11_move 8 = .ok (.aload_n 0, 1)) ?_
  refine q_get C (ci := 11) (j := 0) (C0 := RX11) (T := TX11) (N := 35) rfl iX11 giX11 (by decide) w9_10 (by decide +kernel : decode cX11_move 9 = .ok (.getfield 96, 3)) ?_
  refine q_iast C (by decide +kernel : decode cX11_move 12 = .ok (.iastore, 1)) ?_
  refine q_aload_n C (by decide +kernel : decode cX11_move 13 = .ok (.aload_n 0, 1)) ?_
  refine q_get C (ci := 11) (j := 16) (C0 := RX11) (T := TX11) (N := 35) rfl iX11 giX11 (by decide) w9_58 (by decide +kernel : decode cX11_move 14 = .ok (.getfield 43, 3)) ?_
  refine q_aload_n C (by decide +kernel : decode cX11_move 17 = .ok (.aload_n 0, 1)) ?_
  refine q_get C (ci := 11) (j := 14) (C0 := RX11) (T := TX11) (N := 35) rfl iX11 giX11 (by decide) w9_57 (by decide +kernel : decode cX11_move 18 = .ok (.getfield 149, 3)) ?_
  refine q_iload_n C (by decide +kernel : decode cX11_move 21 = .ok (.iload_n 1, 1)) ?_
  refine q_iast C (by decide +kernel : decode cX11_move 22 = .ok (.iastore, 1)) ?_
  refine q_aload_n C (by decide +kernel : decode cX11_move 23 = .ok (.aload_n 0, 1)) ?_
  refine q_get C (ci := 11) (j := 17) (C0 := RX11) (T := TX11) (N := 35) rfl iX11 giX11 (by decide) w9_59 (by decide +kernel : decode cX11_move 24 = .ok (.getfield 46, 3)) ?_
  refine q_aload_n C (by decide +kernel : decode cX11_move 27 = .ok (.aload_n 0, 1)) ?_
  refine q_get C (ci := 11) (j := 14) (C0 := RX11) (T := TX11) (N := 35) rfl iX11 giX11 (by decide) w9_57 (by decide +kernel : decode cX11_move 28 = .ok (.getfield 149, 3)) ?_
  refine q_iload_n C (by decide +kernel : decode cX11_move 31 = .ok (.iload_n 2, 1)) ?_
  refine q_iast C (by decide +kernel : decode cX11_move 32 = .ok (.iastore, 1)) ?_
  refine q_aload_n C (by decide +kernel : decode cX11_move 33 = .ok (.aload_n 0, 1)) ?_
  refine q_get C (ci := 11) (j := 18) (C0 := RX11) (T := TX11) (N := 35) rfl iX11 giX11 (by decide) w9_60 (by decide +kernel : decode cX11_move 34 = .ok (.getfield 49, 3)) ?_
  refine q_aload_n C (by decide +kernel : decode cX11_move 37 = .ok (.aload_n 0, 1)) ?_
  refine q_get C (ci := 11) (j := 14) (C0 := RX11) (T := TX11) (N := 35) rfl iX11 giX11 (by decide) w9_57 (by decide +kernel : decode cX11_move 38 = .ok (.getfield 149, 3)) ?_
  refine q_iload_n C (by decide +kernel : decode cX11_move 41 = .ok (.iload_n 3, 1)) ?_
  refine q_iast C (by decide +kernel : decode cX11_move 42 = .ok (.iastore, 1)) ?_
  refine q_aload_n C (by decide +kernel : decode cX11_move 43 = .ok (.aload_n 0, 1)) ?_
  refine q_get C (ci := 11) (j := 19) (C0 := RX11) (T := TX11) (N := 35) rfl iX11 giX11 (by decide) w9_61 (by decide +kernel : decode cX11_move 44 = .ok (.getfield 52, 3)) ?_
  refine q_aload_n C (by decide +kernel : decode cX11_move 47 = .ok (.aload_n 0, 1)) ?_
  refine q_get C (ci := 11) (j := 14) (C0 := RX11) (T := TX11) (N := 35) rfl iX11 giX11 (by decide) w9_57 (by decide +kernel : decode cX11_move 48 = .ok (.getfield 149, 3)) ?_
  refine q_iload C (by decide +kernel : decode cX11_move 51 = .ok (.iload 4, 2)) ?_
  refine q_iast C (by decide +kernel : decode cX11_move 53 = .ok (.iastore, 1)) ?_
  refine q_aload_n C (by decide +kernel : decode cX11_move 54 = .ok (.aload_n 0, 1)) ?_
  refine q_dup C (by decide +kernel : decode cX11_move 55 = .ok (.dup, 1)) ?_
  refine q_get C (ci := 11) (j := 14) (C0 := RX11) (T := TX11) (N := 35) rfl iX11 giX11 (by decide) w9_57 (by decide +kernel : decode cX11_move 56 = .ok (.getfield 149, 3)) ?_
  refine q_iconst C (by decide +kernel : decode cX11_move 59 = .ok (.iconst 1, 1)) (by decide) ?_
  refine q_iadd C (by decide +kernel : decode cX11_move 60 = .ok (.iadd, 1)) ?_
  refine q_put C (ci := 11) (j := 14) (C0 := RX11) (T := TX11) (N := 35) (ty := .int) rfl iX11 giX11 (by decide) tyX11 tyX11_ok nmX11 (by decide +kernel) rfl w9_57 (by decide +kernel : decode cX11_move 61 = .ok (.putfield 149, 3)) ?_
  exact q_vret C rfl (by decide +kernel : decode cX11_move 64 = .ok (.return_, 1))
theorem u_X11_move (l : Launch) {sp : q_Sp} (H : ∀ (av : List Value) (σ : q_S) (post : Option Value → q_S → Prop), sp av σ post → k_X11_move_0 post (fun _ _ _ _ _ _ => False) (q_L0 av 5) [] σ 0 0 ∧ av.length ≤ 5 ∧ ∀ v ∈ av, v.category = 1) : q_Ct l yX11_move cX11_move 5 none rm_X11_move sp := by
  refine q_met (by decide) ?_
  intro D A p e s m args below meth c σ av post C hsp
  obtain ⟨h1, h2, h3⟩ := H av σ post hsp
  exact ⟨_, v_X11_move_0 (K := fun _ _ _ _ _ _ => False) C (fun h hh => by cases hh), h1, h2, h3⟩
theorem t_X11_move (l : Launch) : q_Ct l yX11_move cX11_move 5 none rm_X11_move s_X11_move := u_X11_move l (by
  intro av σ post h
  unfold s_X11_move at h
  split at h
  · next mr w a b n =>
    refine ⟨?_, by simp, by simp [Value.category]⟩
    obtain ⟨ad, z, g, gp, r, hm, hI, h1⟩ := h
    have hm1 := hm.a15 (z 14).toNatClampNeg (z 0)
    have hm2 := hm1.a16 (z 14).toNatClampNeg w
    have hm3 := hm2.a17 (z 14).toNatClampNeg a
    have hm4 := hm3.a18 (z 14).toNatClampNeg b
    have hm5 := hm4.a19 (z 14).toNatClampNeg n
    have hm6 := hm5.p14 (z 14 + 1)
    simp only [c_push, c_null, c_iload, c_aload, c_istore, c_astore, c_iinc, c_iadd, c_isub, c_imul, c_iand, c_ineg, c_dup, c_dup2, c_pop, c_ifnull, c_ifnonnull, c_get, c_put, c_iald, c_zald, c_iast, c_zast, c_aald, c_aast, c_alen, c_new, c_newa, c_newq, c_mna, c_oinit, c_max, c_copy, c_iret, c_zret, c_aret, c_vret, q_do, q_rc, c_ifeq, c_ifne, c_iflt, c_ifge, c_ifgt, c_ifle, c_iceq, c_icne, c_iclt, c_icge, c_icgt, c_icle, c_call0, c_call1, c_call2, c_call3, c_call4, c_call5, c_call6, c_call7, q_L0, List.map_cons, List.map_nil, List.replicate, List.cons_append, List.nil_append, List.append_nil, List.length_cons, List.length_nil, List.length_set, Nat.reduceSub, Nat.reduceAdd, Nat.reduceLT, Nat.reduceLeDiff, Nat.zero_add, Nat.add_zero, Nat.sub_zero, Nat.sub_self, List.getElem?_cons_zero, List.getElem?_cons_succ, List.set_cons_zero, List.set_cons_succ, Option.toList_some, Option.toList_none, List.sum_cons, List.sum_nil, true_and, and_true, true_or, or_true, Nat.le_refl, Nat.zero_le, Value.category, Fin.isValue, Fin.val_zero, Fin.val_one, Fin.val_two, Fin.reduceFinMk, q_10, q_01, not_false_eq_true, not_true_eq_false, forall_const, true_implies, false_implies, implies_true, q_ni, q_fi, q_nb0, q_nb1, q_fb0, q_fb1, q_nor, q_nar, q_for, q_far, q_non, q_nan, q_fon, q_fan, imp_false, false_and, and_false, and_self, false_or, or_false, va_rf, refKind, k_X11_move_0, hm.rd, hm1.rd, hm2.rd, hm3.rd, hm4.rd, hm5.rd, hm6.rd, vpi1000, hI]
    exact h1 _ hm6
  · exact h.elim)
-- holds
def holdsF (g : Nat → Nat → Int32) (w p t : Int32) : Nat → Int32
  | 0 => if g 12 w.toNatClampNeg = p then 16 else 0
  | n + 1 => if g 16 n = w ∧ g 15 n ≤ t then holdsF g w p t n + (if g 18 n = p then g 19 n else 0) - (if g 17 n = p then g 19 n else 0) else holdsF g w p t n
def s_X11_holds : q_Sp := fun av σ post => match av with
  | [.ref mr, .int w, .int p, .int t] => ∃ ad z g gp r, mOKx σ mr ad z g gp r ∧ (0 ≤ w ∧ w < 20) ∧ (0 ≤ z 14 ∧ z 14 ≤ 1000) ∧ post (some (.int (holdsF g w p t (z 14).toNatClampNeg))) σ
  | _ => False
def rm_X11_holds : Room := { frames := 0, cells := 0, slots := 0, locals := 0 }
def k_X11_holds_16 (post : Option Value → q_S → Prop) (K : Nat → q_K) : q_K := (c_istore 4 (c_push 0 (c_istore 5 (K 21))))
def k_X11_holds_0 (post : Option Value → q_S → Prop) (K : Nat → q_K) : q_K := (c_aload 0 (c_get 11 12 (c_iload 1 (c_iald (c_iload 2 (c_icne (c_push 0 (k_X11_holds_16 post K)) (c_push 16 (k_X11_holds_16 post K))))))))
def k_X11_holds_106 (post : Option Value → q_S → Prop) (K : Nat → q_K) : q_K := (c_iinc 5 1 (K 21))
def k_X11_holds_103 (post : Option Value → q_S → Prop) (K : Nat → q_K) : q_K := (c_isub (c_istore 4 (k_X11_holds_106 post K)))
def k_X11_holds_76 (post : Option Value → q_S → Prop) (K : Nat → q_K) : q_K := (c_iadd (c_istore 4 (c_iload 4 (c_aload 0 (c_get 11 17 (c_iload 5 (c_iald (c_iload 2 (c_icne (c_push 0 (k_X11_holds_103 post K)) (c_aload 0 (c_get 11 19 (c_iload 5 (c_iald (k_X11_holds_103 post K))))))))))))))
def k_X11_holds_21 (post : Option Value → q_S → Prop) (K : Nat → q_K) : q_K := (c_iload 5 (c_aload 0 (c_get 11 14 (c_icge (c_iload 4 (c_iret post)) (c_aload 0 (c_get 11 16 (c_iload 5 (c_iald (c_iload 1 (c_icne (k_X11_holds_106 post K) (c_aload 0 (c_get 11 15 (c_iload 5 (c_iald (c_iload 3 (c_icgt (k_X11_holds_106 post K) (c_iload 4 (c_aload 0 (c_get 11 18 (c_iload 5 (c_iald (c_iload 2 (c_icne (c_push 0 (k_X11_holds_76 post K)) (c_aload 0 (c_get 11 19 (c_iload 5 (c_iald (k_X11_holds_76 post K))))))))))))))))))))))))))))
set_option maxRecDepth 100000 in
theorem v_X11_holds_16 {p : Program} {l : Launch} {e : Env} {s : State} {m : MethodId} {args : Array Value} {below : List Frame} {meth : Method} {c : Code} {D : va_G} {A : Nat → Prop} {post : Option Value → q_S → Prop} {K : Nat → q_K} (C : q_C p s m args meth c cX11_holds 6 RX11 "holds" (some .int) A) (hK : ∀ h ∈ ([21] : List Nat), q_V p l e rm_X11_holds s m args below meth c D A 6 (MQ below (q_Qc D A post) args s rm_X11_holds.cells rm_X11_holds.slots A) h (K h)) : q_V p l e rm_X11_holds s m args below meth c D A 6 (MQ below (q_Qc D A post) args s rm_X11_holds.cells rm_X11_holds.slots A) 16 (k_X11_holds_16 post K) := by
  unfold k_X11_holds_16
  refine q_istore C (by decide +kernel : decode cX11_holds 16 = .ok (.istore 4, 2)) ?_
  refine q_iconst C (by decide +kernel : decode cX11_holds 18 = .ok (.iconst 0, 1)) (by decide) ?_
  refine q_istore C (by decide +kernel : decode cX11_holds 19 = .ok (.istore 5, 2)) ?_
  exact hK 21 (by decide)
set_option maxRecDepth 100000 in
theorem v_X11_holds_0 {p : Program} {l : Launch} {e : Env} {s : State} {m : MethodId} {args : Array Value} {below : List Frame} {meth : Method} {c : Code} {D : va_G} {A : Nat → Prop} {post : Option Value → q_S → Prop} {K : Nat → q_K} (C : q_C p s m args meth c cX11_holds 6 RX11 "holds" (some .int) A) (hK : ∀ h ∈ ([21] : List Nat), q_V p l e rm_X11_holds s m args below meth c D A 6 (MQ below (q_Qc D A post) args s rm_X11_holds.cells rm_X11_holds.slots A) h (K h)) : q_V p l e rm_X11_holds s m args below meth c D A 6 (MQ below (q_Qc D A post) args s rm_X11_holds.cells rm_X11_holds.slots A) 0 (k_X11_holds_0 post K) := by
  unfold k_X11_holds_0
  refine q_aload_n C (by decide +kernel : decode cX11_holds 0 = .ok (.aload_n 0, 1)) ?_
  refine q_get C (ci := 11) (j := 12) (C0 := RX11) (T := TX11) (N := 35) rfl iX11 giX11 (by decide) w9_28 (by decide +kernel : decode cX11_holds 1 = .ok (.getfield 34, 3)) ?_
  refine q_iload_n C (by decide +kernel : decode cX11_holds 4 = .ok (.iload_n 1, 1)) ?_
  refine q_iald C (by decide +kernel : decode cX11_holds 5 = .ok (.iaload, 1)) ?_
  refine q_iload_n C (by decide +kernel : decode cX11_holds 6 = .ok (.iload_n 2, 1)) ?_
  refine q_icne C (tgt := 15) (by decide +kernel : decode cX11_holds 7 = .ok (.if_icmp .ne 8, 3)) (by decide) ?_ ?_
  · refine q_iconst C (by decide +kernel : decode cX11_holds 15 = .ok (.iconst 0, 1)) (by decide) ?_
    exact v_X11_holds_16 C hK
  · refine q_bipush C (by decide +kernel : decode cX11_holds 10 = .ok (.bipush 16, 2)) (by decide) ?_
    refine q_goto C (tgt := 16) (by decide +kernel : decode cX11_holds 12 = .ok (.goto 4, 3)) (by decide) ?_
    exact v_X11_holds_16 C hK
set_option maxRecDepth 100000 in
theorem v_X11_holds_106 {p : Program} {l : Launch} {e : Env} {s : State} {m : MethodId} {args : Array Value} {below : List Frame} {meth : Method} {c : Code} {D : va_G} {A : Nat → Prop} {post : Option Value → q_S → Prop} {K : Nat → q_K} (C : q_C p s m args meth c cX11_holds 6 RX11 "holds" (some .int) A) (hK : ∀ h ∈ ([21] : List Nat), q_V p l e rm_X11_holds s m args below meth c D A 6 (MQ below (q_Qc D A post) args s rm_X11_holds.cells rm_X11_holds.slots A) h (K h)) : q_V p l e rm_X11_holds s m args below meth c D A 6 (MQ below (q_Qc D A post) args s rm_X11_holds.cells rm_X11_holds.slots A) 106 (k_X11_holds_106 post K) := by
  unfold k_X11_holds_106
  refine q_iinc C (by decide +kernel : decode cX11_holds 106 = .ok (.iinc 5 1, 3)) (by decide) ?_
  refine q_goto C (tgt := 21) (by decide +kernel : decode cX11_holds 109 = .ok (.goto (-88), 3)) (by decide) ?_
  exact hK 21 (by decide)
set_option maxRecDepth 100000 in
theorem v_X11_holds_103 {p : Program} {l : Launch} {e : Env} {s : State} {m : MethodId} {args : Array Value} {below : List Frame} {meth : Method} {c : Code} {D : va_G} {A : Nat → Prop} {post : Option Value → q_S → Prop} {K : Nat → q_K} (C : q_C p s m args meth c cX11_holds 6 RX11 "holds" (some .int) A) (hK : ∀ h ∈ ([21] : List Nat), q_V p l e rm_X11_holds s m args below meth c D A 6 (MQ below (q_Qc D A post) args s rm_X11_holds.cells rm_X11_holds.slots A) h (K h)) : q_V p l e rm_X11_holds s m args below meth c D A 6 (MQ below (q_Qc D A post) args s rm_X11_holds.cells rm_X11_holds.slots A) 103 (k_X11_holds_103 post K) := by
  unfold k_X11_holds_103
  refine q_isub C (by decide +kernel : decode cX11_holds 103 = .ok (.isub, 1)) ?_
  refine q_istore C (by decide +kernel : decode cX11_holds 104 = .ok (.istore 4, 2)) ?_
  exact v_X11_holds_106 C hK
set_option maxRecDepth 100000 in
theorem v_X11_holds_76 {p : Program} {l : Launch} {e : Env} {s : State} {m : MethodId} {args : Array Value} {below : List Frame} {meth : Method} {c : Code} {D : va_G} {A : Nat → Prop} {post : Option Value → q_S → Prop} {K : Nat → q_K} (C : q_C p s m args meth c cX11_holds 6 RX11 "holds" (some .int) A) (hK : ∀ h ∈ ([21] : List Nat), q_V p l e rm_X11_holds s m args below meth c D A 6 (MQ below (q_Qc D A post) args s rm_X11_holds.cells rm_X11_holds.slots A) h (K h)) : q_V p l e rm_X11_holds s m args below meth c D A 6 (MQ below (q_Qc D A post) args s rm_X11_holds.cells rm_X11_holds.slots A) 76 (k_X11_holds_76 post K) := by
  unfold k_X11_holds_76
  refine q_iadd C (by decide +kernel : decode cX11_holds 76 = .ok (.iadd, 1)) ?_
  refine q_istore C (by decide +kernel : decode cX11_holds 77 = .ok (.istore 4, 2)) ?_
  refine q_iload C (by decide +kernel : decode cX11_holds 79 = .ok (.iload 4, 2)) ?_
  refine q_aload_n C (by decide +kernel : decode cX11_holds 81 = .ok (.aload_n 0, 1)) ?_
  refine q_get C (ci := 11) (j := 17) (C0 := RX11) (T := TX11) (N := 35) rfl iX11 giX11 (by decide) w9_59 (by decide +kernel : decode cX11_holds 82 = .ok (.getfield 46, 3)) ?_
  refine q_iload C (by decide +kernel : decode cX11_holds 85 = .ok (.iload 5, 2)) ?_
  refine q_iald C (by decide +kernel : decode cX11_holds 87 = .ok (.iaload, 1)) ?_
  refine q_iload_n C (by decide +kernel : decode cX11_holds 88 = .ok (.iload_n 2, 1)) ?_
  refine q_icne C (tgt := 102) (by decide +kernel : decode cX11_holds 89 = .ok (.if_icmp .ne 13, 3)) (by decide) ?_ ?_
  · refine q_iconst C (by decide +kernel : decode cX11_holds 102 = .ok (.iconst 0, 1)) (by decide) ?_
    exact v_X11_holds_103 C hK
  · refine q_aload_n C (by decide +kernel : decode cX11_holds 92 = .ok (.aload_n 0, 1)) ?_
    refine q_get C (ci := 11) (j := 19) (C0 := RX11) (T := TX11) (N := 35) rfl iX11 giX11 (by decide) w9_61 (by decide +kernel : decode cX11_holds 93 = .ok (.getfield 52, 3)) ?_
    refine q_iload C (by decide +kernel : decode cX11_holds 96 = .ok (.iload 5, 2)) ?_
    refine q_iald C (by decide +kernel : decode cX11_holds 98 = .ok (.iaload, 1)) ?_
    refine q_goto C (tgt := 103) (by decide +kernel : decode cX11_holds 99 = .ok (.goto 4, 3)) (by decide) ?_
    exact v_X11_holds_103 C hK
set_option maxRecDepth 100000 in
theorem v_X11_holds_21 {p : Program} {l : Launch} {e : Env} {s : State} {m : MethodId} {args : Array Value} {below : List Frame} {meth : Method} {c : Code} {D : va_G} {A : Nat → Prop} {post : Option Value → q_S → Prop} {K : Nat → q_K} (C : q_C p s m args meth c cX11_holds 6 RX11 "holds" (some .int) A) (hK : ∀ h ∈ ([21] : List Nat), q_V p l e rm_X11_holds s m args below meth c D A 6 (MQ below (q_Qc D A post) args s rm_X11_holds.cells rm_X11_holds.slots A) h (K h)) : q_V p l e rm_X11_holds s m args below meth c D A 6 (MQ below (q_Qc D A post) args s rm_X11_holds.cells rm_X11_holds.slots A) 21 (k_X11_holds_21 post K) := by
  unfold k_X11_holds_21
  refine q_iload C (by decide +kernel : decode cX11_holds 21 = .ok (.iload 5, 2)) ?_
  refine q_aload_n C (by decide +kernel : decode cX11_holds 23 = .ok (.aload_n 0, 1)) ?_
  refine q_get C (ci := 11) (j := 14) (C0 := RX11) (T := TX11) (N := 35) rfl iX11 giX11 (by decide) w9_57 (by decide +kernel : decode cX11_holds 24 = .ok (.getfield 149, 3)) ?_
  refine q_icge C (tgt := 112) (by decide +kernel : decode cX11_holds 27 = .ok (.if_icmp .ge 85, 3)) (by decide) ?_ ?_
  · refine q_iload C (by decide +kernel : decode cX11_holds 112 = .ok (.iload 4, 2)) ?_
    exact q_iret C rfl (by decide +kernel : decode cX11_holds 114 = .ok (.ireturn, 1))
  · refine q_aload_n C (by decide +kernel : decode cX11_holds 30 = .ok (.aload_n 0, 1)) ?_
    refine q_get C (ci := 11) (j := 16) (C0 := RX11) (T := TX11) (N := 35) rfl iX11 giX11 (by decide) w9_58 (by decide +kernel : decode cX11_holds 31 = .ok (.getfield 43, 3)) ?_
    refine q_iload C (by decide +kernel : decode cX11_holds 34 = .ok (.iload 5, 2)) ?_
    refine q_iald C (by decide +kernel : decode cX11_holds 36 = .ok (.iaload, 1)) ?_
    refine q_iload_n C (by decide +kernel : decode cX11_holds 37 = .ok (.iload_n 1, 1)) ?_
    refine q_icne C (tgt := 106) (by decide +kernel : decode cX11_holds 38 = .ok (.if_icmp .ne 68, 3)) (by decide) ?_ ?_
    · exact v_X11_holds_106 C hK
    · refine q_aload_n C (by decide +kernel : decode cX11_holds 41 = .ok (.aload_n 0, 1)) ?_
      refine q_get C (ci := 11) (j := 15) (C0 := RX11) (T := TX11) (N := 35) rfl iX11 giX11 (by decide) w9_56 (by decide +kernel : decode cX11_holds 42 = .ok (.getfield 40, 3)) ?_
      refine q_iload C (by decide +kernel : decode cX11_holds 45 = .ok (.iload 5, 2)) ?_
      refine q_iald C (by decide +kernel : decode cX11_holds 47 = .ok (.iaload, 1)) ?_
      refine q_iload_n C (by decide +kernel : decode cX11_holds 48 = .ok (.iload_n 3, 1)) ?_
      refine q_icgt C (tgt := 106) (by decide +kernel : decode cX11_holds 49 = .ok (.if_icmp .gt 57, 3)) (by decide) ?_ ?_
      · exact v_X11_holds_106 C hK
      · refine q_iload C (by decide +kernel : decode cX11_holds 52 = .ok (.iload 4, 2)) ?_
        refine q_aload_n C (by decide +kernel : decode cX11_holds 54 = .ok (.aload_n 0, 1)) ?_
        refine q_get C (ci := 11) (j := 18) (C0 := RX11) (T := TX11) (N := 35) rfl iX11 giX11 (by decide) w9_60 (by decide +kernel : decode cX11_holds 55 = .ok (.getfield 49, 3)) ?_
        refine q_iload C (by decide +kernel : decode cX11_holds 58 = .ok (.iload 5, 2)) ?_
        refine q_iald C (by decide +kernel : decode cX11_holds 60 = .ok (.iaload, 1)) ?_
        refine q_iload_n C (by decide +kernel : decode cX11_holds 61 = .ok (.iload_n 2, 1)) ?_
        refine q_icne C (tgt := 75) (by decide +kernel : decode cX11_holds 62 = .ok (.if_icmp .ne 13, 3)) (by decide) ?_ ?_
        · refine q_iconst C (by decide +kernel : decode cX11_holds 75 = .ok (.iconst 0, 1)) (by decide) ?_
          exact v_X11_holds_76 C hK
        · refine q_aload_n C (by decide +kernel : decode cX11_holds 65 = .ok (.aload_n 0, 1)) ?_
          refine q_get C (ci := 11) (j := 19) (C0 := RX11) (T := TX11) (N := 35) rfl iX11 giX11 (by decide) w9_61 (by decide +kernel : decode cX11_holds 66 = .ok (.getfield 52, 3)) ?_
          refine q_iload C (by decide +kernel : decode cX11_holds 69 = .ok (.iload 5, 2)) ?_
          refine q_iald C (by decide +kernel : decode cX11_holds 71 = .ok (.iaload, 1)) ?_
          refine q_goto C (tgt := 76) (by decide +kernel : decode cX11_holds 72 = .ok (.goto 4, 3)) (by decide) ?_
          exact v_X11_holds_76 C hK
theorem u_X11_holds (l : Launch) {sp : q_Sp} (H : ∀ (av : List Value) (σ : q_S) (post : Option Value → q_S → Prop), sp av σ post → ∃ Inv : Nat → Nat → q_K, (∀ K : Nat → q_K, (∀ (h n : Nat) (L : List (Option Value)) (st : List Value) (σ : q_S) (cr sr : Nat), Inv h n L st σ cr sr → K h L st σ cr sr) → k_X11_holds_0 post K (q_L0 av 6) [] σ 0 0) ∧ (∀ (K : Nat → q_K) (n : Nat), (∀ (h m : Nat) (L : List (Option Value)) (st : List Value) (σ : q_S) (cr sr : Nat), m < n → Inv h m L st σ cr sr → K h L st σ cr sr) → ∀ (L : List (Option Value)) (st : List Value) (σ : q_S) (cr sr : Nat), Inv 21 n L st σ cr sr → k_X11_holds_21 post K L st σ cr sr) ∧ av.length ≤ 6 ∧ ∀ v ∈ av, v.category = 1) : q_Ct l yX11_holds cX11_holds 6 (some .int) rm_X11_holds sp := by
  refine q_met (by decide) ?_
  intro D A p e s m args below meth c σ av post C hsp
  obtain ⟨Inv, h1, hh21, h2, h3⟩ := H av σ post hsp
  have hV := q_loops (p := p) (l := l) (e := e) (R := rm_X11_holds) (s := s) (m := m) (args := args) (below := below) (meth := meth) (c := c) (D := D) (A := A) (nL := 6) (Q := MQ below (q_Qc D A post) args s rm_X11_holds.cells rm_X11_holds.slots A) [21] (fun h =>  k_X11_holds_21 post) (fun K hK h hh => ?_) Inv (fun n h hh => ?_)
  · exact ⟨_, v_X11_holds_0 C hV, h1 _ (fun h n L st σ cr sr hi => ⟨n, hi⟩), h2, h3⟩
  · have e9 : h = 21 := by simpa using hh
    subst e9
    exact v_X11_holds_21 C hK
  · have e9 : h = 21 := by simpa using hh
    subst e9
    exact hh21 (fun h L st σ cr sr => ∃ m : Nat, m < n ∧ Inv h m L st σ cr sr) n (fun h m L st σ cr sr hm hi => ⟨m, hm, hi⟩)
theorem t_X11_holds (l : Launch) : q_Ct l yX11_holds cX11_holds 6 (some .int) rm_X11_holds s_X11_holds := u_X11_holds l (by
  intro av σ post h
  unfold s_X11_holds at h
  split at h
  · next mr w p t =>
    obtain ⟨ad, z, g, gp, r, hm, hw, hI, h1⟩ := h
    have ez := nI_self hI.1
    generalize hna : (z 14).toNatClampNeg = na at h1 ez
    have hna6 : na ≤ 1000 := hna ▸ clamp_le 1000 hI.1 hI.2
    refine ⟨fun _ n L st σ' cr sr => ∃ i : Nat, i ≤ na ∧ n = na - i ∧ σ' = σ ∧ st = [] ∧ L = [some (.ref mr), some (.int w), some (.int p), some (.int t), some (.int (holdsF g w p t i)), some (.int (nI i))], ?_, ?_, by simp, by simp [Value.category]⟩
    · intro K hK
      simp only [c_push, c_null, c_iload, c_aload, c_istore, c_astore, c_iinc, c_iadd, c_isub, c_imul, c_iand, c_ineg, c_dup, c_dup2, c_pop, c_ifnull, c_ifnonnull, c_get, c_put, c_iald, c_zald, c_iast, c_zast, c_aald, c_aast, c_alen, c_new, c_newa, c_newq, c_mna, c_oinit, c_max, c_copy, c_iret, c_zret, c_aret, c_vret, q_do, q_rc, c_ifeq, c_ifne, c_iflt, c_ifge, c_ifgt, c_ifle, c_iceq, c_icne, c_iclt, c_icge, c_icgt, c_icle, c_call0, c_call1, c_call2, c_call3, c_call4, c_call5, c_call6, c_call7, q_L0, List.map_cons, List.map_nil, List.replicate, List.cons_append, List.nil_append, List.append_nil, List.length_cons, List.length_nil, List.length_set, Nat.reduceSub, Nat.reduceAdd, Nat.reduceLT, Nat.reduceLeDiff, Nat.zero_add, Nat.add_zero, Nat.sub_zero, Nat.sub_self, List.getElem?_cons_zero, List.getElem?_cons_succ, List.set_cons_zero, List.set_cons_succ, Option.toList_some, Option.toList_none, List.sum_cons, List.sum_nil, true_and, and_true, true_or, or_true, Nat.le_refl, Nat.zero_le, Value.category, Fin.isValue, Fin.val_zero, Fin.val_one, Fin.val_two, Fin.reduceFinMk, q_10, q_01, not_false_eq_true, not_true_eq_false, forall_const, true_implies, false_implies, implies_true, q_ni, q_fi, q_nb0, q_nb1, q_fb0, q_fb1, q_nor, q_nar, q_for, q_far, q_non, q_nan, q_fon, q_fan, imp_false, false_and, and_false, and_self, false_or, or_false, va_rf, refKind, k_X11_holds_0, k_X11_holds_16, k_X11_holds_76, k_X11_holds_103, k_X11_holds_106, k_X11_holds_21, hm.rd, vpi20, hw]
      refine ⟨fun c => hK 21 na _ _ _ _ _ ⟨0, Nat.zero_le _, rfl, rfl, rfl, ?_⟩, fun c => hK 21 na _ _ _ _ _ ⟨0, Nat.zero_le _, rfl, rfl, rfl, ?_⟩⟩
      · rw [holdsF, if_neg c]; rfl
      · rw [holdsF, if_pos c]; rfl
    · rintro K n hK L st σ' cr sr ⟨i, hi, rfl, rfl, rfl, rfl⟩
      have J106 : i < na → k_X11_holds_106 post K [some (.ref mr), some (.int w), some (.int p), some (.int t), some (.int (holdsF g w p t (i + 1))), some (.int (nI i))] [] σ' cr sr := fun hlt => by
        simp only [c_push, c_null, c_iload, c_aload, c_istore, c_astore, c_iinc, c_iadd, c_isub, c_imul, c_iand, c_ineg, c_dup, c_dup2, c_pop, c_ifnull, c_ifnonnull, c_get, c_put, c_iald, c_zald, c_iast, c_zast, c_aald, c_aast, c_alen, c_new, c_newa, c_newq, c_mna, c_oinit, c_max, c_copy, c_iret, c_zret, c_aret, c_vret, q_do, q_rc, c_ifeq, c_ifne, c_iflt, c_ifge, c_ifgt, c_ifle, c_iceq, c_icne, c_iclt, c_icge, c_icgt, c_icle, c_call0, c_call1, c_call2, c_call3, c_call4, c_call5, c_call6, c_call7, q_L0, List.map_cons, List.map_nil, List.replicate, List.cons_append, List.nil_append, List.append_nil, List.length_cons, List.length_nil, List.length_set, Nat.reduceSub, Nat.reduceAdd, Nat.reduceLT, Nat.reduceLeDiff, Nat.zero_add, Nat.add_zero, Nat.sub_zero, Nat.sub_self, List.getElem?_cons_zero, List.getElem?_cons_succ, List.set_cons_zero, List.set_cons_succ, Option.toList_some, Option.toList_none, List.sum_cons, List.sum_nil, true_and, and_true, true_or, or_true, Nat.le_refl, Nat.zero_le, Value.category, Fin.isValue, Fin.val_zero, Fin.val_one, Fin.val_two, Fin.reduceFinMk, q_10, q_01, not_false_eq_true, not_true_eq_false, forall_const, true_implies, false_implies, implies_true, q_ni, q_fi, q_nb0, q_nb1, q_fb0, q_fb1, q_nor, q_nar, q_for, q_far, q_non, q_nan, q_fon, q_fan, imp_false, false_and, and_false, and_self, false_or, or_false, va_rf, refKind, k_X11_holds_106]
        exact hK 21 (na - (i + 1)) _ _ _ _ _ (by omega) ⟨i + 1, by omega, rfl, rfl, rfl, by rw [nI_1]⟩
      simp only [c_push, c_null, c_iload, c_aload, c_istore, c_astore, c_iinc, c_iadd, c_isub, c_imul, c_iand, c_ineg, c_dup, c_dup2, c_pop, c_ifnull, c_ifnonnull, c_get, c_put, c_iald, c_zald, c_iast, c_zast, c_aald, c_aast, c_alen, c_new, c_newa, c_newq, c_mna, c_oinit, c_max, c_copy, c_iret, c_zret, c_aret, c_vret, q_do, q_rc, c_ifeq, c_ifne, c_iflt, c_ifge, c_ifgt, c_ifle, c_iceq, c_icne, c_iclt, c_icge, c_icgt, c_icle, c_call0, c_call1, c_call2, c_call3, c_call4, c_call5, c_call6, c_call7, q_L0, List.map_cons, List.map_nil, List.replicate, List.cons_append, List.nil_append, List.append_nil, List.length_cons, List.length_nil, List.length_set, Nat.reduceSub, Nat.reduceAdd, Nat.reduceLT, Nat.reduceLeDiff, Nat.zero_add, Nat.add_zero, Nat.sub_zero, Nat.sub_self, List.getElem?_cons_zero, List.getElem?_cons_succ, List.set_cons_zero, List.set_cons_succ, Option.toList_some, Option.toList_none, List.sum_cons, List.sum_nil, true_and, and_true, true_or, or_true, Nat.le_refl, Nat.zero_le, Value.category, Fin.isValue, Fin.val_zero, Fin.val_one, Fin.val_two, Fin.reduceFinMk, q_10, q_01, not_false_eq_true, not_true_eq_false, forall_const, true_implies, false_implies, implies_true, q_ni, q_fi, q_nb0, q_nb1, q_fb0, q_fb1, q_nor, q_nar, q_for, q_far, q_non, q_nan, q_fon, q_fan, imp_false, false_and, and_false, and_self, false_or, or_false, va_rf, refKind, k_X11_holds_21, k_X11_holds_76, k_X11_holds_103, hm.rd, vpi1000]
      rw [← ez]
      have E := cl2 (nI na) (nI i) na i rfl rfl (by omega) (by omega)
      rw [E.1, clN (by omega)]
      refine ⟨fun c => ?_, fun c => ?_⟩
      · have e : i = na := by omega
        subst e; exact h1
      · replace J106 := J106 (by omega)
        rw [holdsF] at J106
        have hlo : 0 ≤ nI i := nI_low (by omega)
        have hhi : nI i < 1000 := nI_ltN (N := 1000) (by omega)
        clear hK h1 hm E
        grind (splits := 40)
  · exact h.elim)
