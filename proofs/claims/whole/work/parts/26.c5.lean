theorem ShC.push {σ σ' : q_S} {R : Nat → Prop} {s : Nat} {M : Nat → Nat → Int32} {x : pgT} {t : List pgT} (h : ShC σ R s M (x :: t)) {q q2 : Nat} {td : Int32} {f2 : Nat → Int32} (hq : σ q = none) (hq2 : σ q2 = none) (h1 : σ' q = some (.inr (6, [.int td, .ref x.2.1, .ref q2]))) (h2 : σ' q2 = some (.inl (.int, 13, .inl f2))) (h3 : ∀ b, b ≠ q → b ≠ q2 → σ' b = σ b) :
    ∃ v pl, σ' s = some (.inr (8, [v, .ref pl])) ∧ ShC (q_up σ' s (.inr (8, [.ref q, .ref pl]))) (fun c => R c ∨ c = q ∨ c = q2) s M ((td, q, q2, f2) :: x :: t) ∧ q_fm σ R (q_up σ' s (.inr (8, [.ref q, .ref pl]))) (fun c => R c ∨ c = q ∨ c = q2) := by
  have hm : ∀ a e, R a → σ a = some e → (fun c => R c ∨ c = q ∨ c = q2) a ∧ σ' a = some e := fun a e ha he => ⟨Or.inl ha, by
    rw [h3 a (fun e9 => by rw [e9, hq] at he; cases he) (fun e9 => by rw [e9, hq2] at he; cases he)]; exact he⟩
  have hnq : ∀ a e, σ a = some e → a ≠ q ∧ a ≠ q2 := fun a e he => ⟨fun e9 => (by rw [e9, hq] at he; cases he), fun e9 => (by rw [e9, hq2] at he; cases he)⟩
  have hR := h
  obtain ⟨v, pl, k1, k2, ⟨pr, g1, g2, g3⟩, k6⟩ := h
  have k1' := hm _ _ k1.1 k1.2
  have hsq := hnq s _ k1.2
  refine ⟨v, pl, k1'.2, ⟨.ref q, pl, ⟨k1'.1, q_up_s⟩, ⟨.ref x.2.1, rfl, ⟨Or.inr (Or.inl rfl), ?_⟩, ⟨Or.inr (Or.inr rfl), ?_⟩, ?_⟩, ⟨pr, ⟨(hm _ _ g1.1 g1.2).1, ?_⟩, fun p hp => ?_, g3⟩, ?_⟩, fun a e ha he => ⟨?_, ?_⟩⟩
  · rw [q_up_n hsq.1.symm]; exact h1
  · rw [q_up_n hsq.2.symm]; exact h2
  · have hv2 : v = .ref x.2.1 := by obtain ⟨nv, e, -⟩ := k2; exact e
    rw [← hv2]
    exact (k2.mono (fun a e ha he y hy _ => hm a e ha he)).up k1'.2 (fun fs e => by cases e) (fun f e => by cases e)
  · rw [q_up_n (ne_ao g1.2 k1.2)]; exact (hm _ _ g1.1 g1.2).2
  · obtain ⟨f, j1, j2⟩ := g2 p hp
    exact ⟨f, ⟨(hm _ _ j1.1 j1.2).1, by rw [q_up_n (ne_ao j1.2 k1.2)]; exact (hm _ _ j1.1 j1.2).2⟩, j2⟩
  · rw [List.map_cons, List.nodup_cons]
    refine ⟨fun hmem => ?_, k6⟩
    obtain ⟨y, hy, e⟩ := List.mem_map.mp hmem
    have := (k2.cells y hy).2.2
    have e2 : y.2.2.1 = q2 := e
    rw [e2, hq2] at this
    cases this
  · rintro (h9 | h9 | h9)
    · exact ha h9
    · exact (hnq a e he).1 h9
    · exact (hnq a e he).2 h9
  · rw [q_up_n (fun e9 => ha (by rw [e9]; exact k1.1)), h3 a (hnq a e he).1 (hnq a e he).2]; exact he
theorem w9_203 : (.classLink RX8 9 RX6 : Cond) ∈ lw_tbl := by decide +kernel
theorem w9_204 : (.instantiable RX6 3 : Cond) ∈ lw_tbl := by decide +kernel
theorem w9_205 : (.code yX6_init cX6_init 3 none : Cond) ∈ lw_tbl := by decide +kernel
theorem w9_206 : (.methodLink RX8 11 yX6_init : Cond) ∈ lw_tbl := by decide +kernel
theorem w9_207 : (.instanceMethod yX6_init : Cond) ∈ lw_tbl := by decide +kernel
theorem w9_208 : (.code yX6_change cX6_change 4 none : Cond) ∈ lw_tbl := by decide +kernel
theorem w9_209 : (.methodLink RX8 20 yX6_change : Cond) ∈ lw_tbl := by decide +kernel
theorem w9_210 : (.instanceMethod yX6_change : Cond) ∈ lw_tbl := by decide +kernel
theorem w9_211 : (.selects RX6 yX6_change yX6_change : Cond) ∈ lw_tbl := by decide +kernel
def rm_X8_move : Room := { frames := 2, cells := 2, slots := 16, locals := 82 }
def k_X8_move_29 (post : Option Value → q_S → Prop) (K : Nat → q_K) : q_K := (c_aload 0 (c_get 8 0 (c_iload 1 (c_iload 3 (c_ineg (c_call3 (some 6) s_X6_change 0 0 (c_aload 0 (c_get 8 0 (c_iload 2 (c_iload 3 (c_call3 (some 6) s_X6_change 0 0 (c_vret post))))))))))))
def k_X8_move_0 (post : Option Value → q_S → Prop) (K : Nat → q_K) : q_K := (c_aload 0 (c_get 8 0 (c_get 6 0 (c_iload 4 (c_icge (k_X8_move_29 post K) (c_aload 0 (c_new 6 3 [.int 0, .null, .null] (c_dup (c_iload 4 (c_aload 0 (c_get 8 0 (c_call3 (some 6) s_X6_init 1 13 (c_put 8 0 (.object "CopyRegister$Page") (k_X8_move_29 post K))))))))))))))
set_option maxRecDepth 100000 in
theorem v_X8_move_29 {p : Program} {l : Launch} {e : Env} {s : State} {m : MethodId} {args : Array Value} {below : List Frame} {meth : Method} {c : Code} {D : va_G} {A : Nat → Prop} {post : Option Value → q_S → Prop} {K : Nat → q_K} (C : q_C p s m args meth c cX8_move 5 RX8 "move" none A) (hK : ∀ h ∈ ([] : List Nat), q_V p l e rm_X8_move s m args below meth c D A 5 (MQ below (q_Qc D A post) args s rm_X8_move.cells rm_X8_move.slots A) h (K h)) : q_V p l e rm_X8_move s m args below meth c D A 5 (MQ below (q_Qc D A post) args s rm_X8_move.cells rm_X8_move.slots A) 29 (k_X8_move_29 post K) := by
  unfold k_X8_move_29
  refine q_aload_n C (by decide +kernel : decode cX8_move 29 = .ok (.aload_n 0, 1)) ?_
  refine q_get C (ci := 8) (j := 0) (C0 := RX8) (T := TX8) (N := 2) rfl iX8 giX8 (by decide) w9_177 (by decide +kernel : decode cX8_move 30 = .ok (.getfield 14, 3)) ?_
  refine q_iload_n C (by decide +kernel : decode cX8_move 33 = .ok (.iload_n 1, 1)) ?_
  refine q_iload_n C (by decide +kernel : decode cX8_move 34 = .ok (.iload_n 3, 1)) ?_
  refine q_ineg C (by decide +kernel : decode cX8_move 35 = .ok (.ineg, 1)) ?_
  refine q_call3 C (q_coV C (np := 2) (ci := 6) (rc := (RX6, TX6, 3)) (t_X6_change l) w9_208 rfl rfl w9_209 w9_210 w9_211 w9_174 (by decide +kernel) (by decide +kernel : decode cX8_move 36 = .ok (.invokevirtual 20, 3)) (by decide)) ?_
  refine q_aload_n C (by decide +kernel : decode cX8_move 39 = .ok (.aload_n 0, 1)) ?_
  refine q_get C (ci := 8) (j := 0) (C0 := RX8) (T := TX8) (N := 2) rfl iX8 giX8 (by decide) w9_177 (by decide +kernel : decode cX8_move 40 = .ok (.getfield 14, 3)) ?_
  refine q_iload_n C (by decide +kernel : decode cX8_move 43 = .ok (.iload_n 2, 1)) ?_
  refine q_iload_n C (by decide +kernel : decode cX8_move 44 = .ok (.iload_n 3, 1)) ?_
  refine q_call3 C (q_coV C (np := 2) (ci := 6) (rc := (RX6, TX6, 3)) (t_X6_change l) w9_208 rfl rfl w9_209 w9_210 w9_211 w9_174 (by decide +kernel) (by decide +kernel : decode cX8_move 45 = .ok (.invokevirtual 20, 3)) (by decide)) ?_
  exact q_vret C rfl (by decide +kernel : decode cX8_move 48 = .ok (.return_, 1))
set_option maxRecDepth 100000 in
theorem v_X8_move_0 {p : Program} {l : Launch} {e : Env} {s : State} {m : MethodId} {args : Array Value} {below : List Frame} {meth : Method} {c : Code} {D : va_G} {A : Nat → Prop} {post : Option Value → q_S → Prop} {K : Nat → q_K} (C : q_C p s m args meth c cX8_move 5 RX8 "move" none A) (hK : ∀ h ∈ ([] : List Nat), q_V p l e rm_X8_move s m args below meth c D A 5 (MQ below (q_Qc D A post) args s rm_X8_move.cells rm_X8_move.slots A) h (K h)) : q_V p l e rm_X8_move s m args below meth c D A 5 (MQ below (q_Qc D A post) args s rm_X8_move.cells rm_X8_move.slots A) 0 (k_X8_move_0 post K) := by
  unfold k_X8_move_0
  refine q_aload_n C (by decide +kernel : decode cX8_move 0 = .ok (.aload_n 0, 1)) ?_
  refine q_get C (ci := 8) (j := 0) (C0 := RX8) (T := TX8) (N := 2) rfl iX8 giX8 (by decide) w9_177 (by decide +kernel : decode cX8_move 1 = .ok (.getfield 14, 3)) ?_
  refine q_getN C (ci := 6) (j := 0) (C0 := RX6) (T := TX6) (N := 3) rfl iX6 giX6 (by decide) (by decide +kernel) (by decide +kernel : decode cX8_move 4 = .ok (.getfield 33, 3)) ?_
  refine q_iload C (by decide +kernel : decode cX8_move 7 = .ok (.iload 4, 2)) ?_
  refine q_icge C (tgt := 29) (by decide +kernel : decode cX8_move 9 = .ok (.if_icmp .ge 20, 3)) (by decide) ?_ ?_
  · exact v_X8_move_29 C hK
  · refine q_aload_n C (by decide +kernel : decode cX8_move 12 = .ok (.aload_n 0, 1)) ?_
    refine q_new C (ci := 6) (C0 := RX6) (T := TX6) (N := 3) (fs := [.int 0, .null, .null]) rfl iX6 giX6 tyX6 tyX6_ok w9_203 w9_204 w9_174 dvX6 (by decide +kernel : decode cX8_move 13 = .ok (.new 9, 3)) ?_
    refine q_dup C (by decide +kernel : decode cX8_move 16 = .ok (.dup, 1)) ?_
    refine q_iload C (by decide +kernel : decode cX8_move 17 = .ok (.iload 4, 2)) ?_
    refine q_aload_n C (by decide +kernel : decode cX8_move 19 = .ok (.aload_n 0, 1)) ?_
    refine q_get C (ci := 8) (j := 0) (C0 := RX8) (T := TX8) (N := 2) rfl iX8 giX8 (by decide) w9_177 (by decide +kernel : decode cX8_move 20 = .ok (.getfield 14, 3)) ?_
    refine q_call3 C (q_coI C (np := 2) (ci := 6) (t_X6_init l) w9_205 rfl w9_206 w9_207 w9_174 (by decide +kernel) (by decide +kernel : decode cX8_move 23 = .ok (.invokespecial 11, 3)) (by decide)) ?_
    refine q_put C (ci := 8) (j := 0) (C0 := RX8) (T := TX8) (N := 2) (ty := .object "CopyRegister$Page") rfl iX8 giX8 (by decide) tyX8 tyX8_ok nmX8 (by decide +kernel) rfl w9_177 (by decide +kernel : decode cX8_move 26 = .ok (.putfield 14, 3)) ?_
    exact v_X8_move_29 C hK
theorem u_X8_move (l : Launch) {sp : q_Sp} (H : ∀ (av : List Value) (σ : q_S) (post : Option Value → q_S → Prop), sp av σ post → k_X8_move_0 post (fun _ _ _ _ _ _ => False) (q_L0 av 5) [] σ 2 16 ∧ av.length ≤ 5 ∧ ∀ v ∈ av, v.category = 1) : q_Ct l yX8_move cX8_move 5 none rm_X8_move sp := by
  refine q_met (by decide) ?_
  intro D A p e s m args below meth c σ av post C hsp
  obtain ⟨h1, h2, h3⟩ := H av σ post hsp
  exact ⟨_, v_X8_move_0 (K := fun _ _ _ _ _ _ => False) C (fun h hh => by cases hh), h1, h2, h3⟩
theorem t_X8_move (l : Launch) : q_Ct l yX8_move cX8_move 5 none rm_X8_move s_X8_move := u_X8_move l (by
  intro av σ post h
  unfold s_X8_move at h
  split at h
  · next s a b n td =>
    refine ⟨?_, by simp, by simp [Value.category]⟩
    obtain ⟨R, M, x, t, hS, h7⟩ := h
    have J29 : ∀ σ2 R2 y t2 cr sr, ShC σ2 R2 s M (y :: t2) → (∀ σ', ShC σ' R2 s M ((y.1, y.2.1, y.2.2.1, chF (chF y.2.2.2 a (-n)) b n) :: t2) → q_fm σ2 R2 σ' R2 → post none σ') → k_X8_move_29 post (fun _ _ _ _ _ _ => False) [some (.ref s), some (.int a), some (.int b), some (.int n), some (.int td)] [] σ2 cr sr := fun σ2 R2 y t2 cr sr hS2 hp => by
      have hS20 := hS2
      have hhd := hS2.hd (chF (chF y.2.2.2 a (-n)) b n)
      obtain ⟨v, pl, k1, ⟨nv, hv1, k2, k3, k4⟩, -, -⟩ := hS2
      subst hv1
      have n1 := (ne_ao k3.2 k1.2).symm
      have n2 := (ne_ao k3.2 k2.2).symm
      simp only [c_push, c_null, c_iload, c_aload, c_istore, c_astore, c_iinc, c_iadd, c_isub, c_imul, c_iand, c_ineg, c_dup, c_dup2, c_pop, c_ifnull, c_ifnonnull, c_get, c_put, c_iald, c_zald, c_iast, c_zast, c_aald, c_aast, c_alen, c_new, c_newa, c_newq, c_mna, c_oinit, c_max, c_copy, c_iret, c_zret, c_aret, c_vret, q_do, q_rc, c_ifeq, c_ifne, c_iflt, c_ifge, c_ifgt, c_ifle, c_iceq, c_icne, c_iclt, c_icge, c_icgt, c_icle, c_call0, c_call1, c_call2, c_call3, c_call4, c_call5, c_call6, c_call7, q_L0, List.map_cons, List.map_nil, List.replicate, List.cons_append, List.nil_append, List.append_nil, List.length_cons, List.length_nil, List.length_set, Nat.reduceSub, Nat.reduceAdd, Nat.reduceLT, Nat.reduceLeDiff, Nat.zero_add, Nat.add_zero, Nat.sub_zero, Nat.sub_self, List.getElem?_cons_zero, List.getElem?_cons_succ, List.set_cons_zero, List.set_cons_succ, Option.toList_some, Option.toList_none, List.sum_cons, List.sum_nil, true_and, and_true, true_or, or_true, Nat.le_refl, Nat.zero_le, Value.category, Fin.isValue, Fin.val_zero, Fin.val_one, Fin.val_two, Fin.reduceFinMk, q_10, q_01, not_false_eq_true, not_true_eq_false, forall_const, true_implies, false_implies, implies_true, q_ni, q_fi, q_nb0, q_nb1, q_fb0, q_fb1, q_nor, q_nar, q_for, q_far, q_non, q_nan, q_fon, q_fan, imp_false, false_and, and_false, and_self, false_or, or_false, va_rf, refKind, k_X8_move_29, q_fld, q_fset, q_oc, q_ai, q_aq, q_len, q_up_s, q_up_up, if_true, k1.2, k2.2, k3.2, q_up_n n1, q_up_n n2, s_X6_change]
      exact hp _ hhd.1 (q_fm.up hhd.2)
    have hS0 := hS
    obtain ⟨v, pl, k1, ⟨nv, hv1, k2, k3, k4⟩, k5, k6⟩ := hS
    subst hv1
    simp only [c_push, c_null, c_iload, c_aload, c_istore, c_astore, c_iinc, c_iadd, c_isub, c_imul, c_iand, c_ineg, c_dup, c_dup2, c_pop, c_ifnull, c_ifnonnull, c_get, c_put, c_iald, c_zald, c_iast, c_zast, c_aald, c_aast, c_alen, c_new, c_newa, c_newq, c_mna, c_oinit, c_max, c_copy, c_iret, c_zret, c_aret, c_vret, q_do, q_rc, c_ifeq, c_ifne, c_iflt, c_ifge, c_ifgt, c_ifle, c_iceq, c_icne, c_iclt, c_icge, c_icgt, c_icle, c_call0, c_call1, c_call2, c_call3, c_call4, c_call5, c_call6, c_call7, q_L0, List.map_cons, List.map_nil, List.replicate, List.cons_append, List.nil_append, List.append_nil, List.length_cons, List.length_nil, List.length_set, Nat.reduceSub, Nat.reduceAdd, Nat.reduceLT, Nat.reduceLeDiff, Nat.zero_add, Nat.add_zero, Nat.sub_zero, Nat.sub_self, List.getElem?_cons_zero, List.getElem?_cons_succ, List.set_cons_zero, List.set_cons_succ, Option.toList_some, Option.toList_none, List.sum_cons, List.sum_nil, true_and, and_true, true_or, or_true, Nat.le_refl, Nat.zero_le, Value.category, Fin.isValue, Fin.val_zero, Fin.val_one, Fin.val_two, Fin.reduceFinMk, q_10, q_01, not_false_eq_true, not_true_eq_false, forall_const, true_implies, false_implies, implies_true, q_ni, q_fi, q_nb0, q_nb1, q_fb0, q_fb1, q_nor, q_nar, q_for, q_far, q_non, q_nan, q_fon, q_fan, imp_false, false_and, and_false, and_self, false_or, or_false, va_rf, refKind, k_X8_move_0, q_fld, q_fset, q_oc, q_ai, q_aq, q_len, q_up_s, q_up_up, if_true, k1.2, k2.2]
    refine ⟨fun c => ?_, fun c => ?_⟩
    · refine J29 _ _ _ _ _ _ hS0 (fun σ' hS' hf => h7 σ' R (x.1, x.2.1, x.2.2.1, chF (chF x.2.2.2 a (-n)) b n) ?_ ?_ ?_ hf)
      · rw [if_neg (by grind)]
      · exact fun i hi => rfl
      · rw [if_neg (by grind)]; exact hS'
    · intro q hq
      have hsq : s ≠ q := fun e => by rw [← e, k1.2] at hq; cases hq
      have hxq : x.2.1 ≠ q := fun e => by rw [← e, k2.2] at hq; cases hq
      have hoq : x.2.2.1 ≠ q := fun e => by rw [← e, k3.2] at hq; cases hq
      simp only [c_push, c_null, c_iload, c_aload, c_istore, c_astore, c_iinc, c_iadd, c_isub, c_imul, c_iand, c_ineg, c_dup, c_dup2, c_pop, c_ifnull, c_ifnonnull, c_get, c_put, c_iald, c_zald, c_iast, c_zast, c_aald, c_aast, c_alen, c_new, c_newa, c_newq, c_mna, c_oinit, c_max, c_copy, c_iret, c_zret, c_aret, c_vret, q_do, q_rc, c_ifeq, c_ifne, c_iflt, c_ifge, c_ifgt, c_ifle, c_iceq, c_icne, c_iclt, c_icge, c_icgt, c_icle, c_call0, c_call1, c_call2, c_call3, c_call4, c_call5, c_call6, c_call7, q_L0, List.map_cons, List.map_nil, List.replicate, List.cons_append, List.nil_append, List.append_nil, List.length_cons, List.length_nil, List.length_set, Nat.reduceSub, Nat.reduceAdd, Nat.reduceLT, Nat.reduceLeDiff, Nat.zero_add, Nat.add_zero, Nat.sub_zero, Nat.sub_self, List.getElem?_cons_zero, List.getElem?_cons_succ, List.set_cons_zero, List.set_cons_succ, Option.toList_some, Option.toList_none, List.sum_cons, List.sum_nil, true_and, and_true, true_or, or_true, Nat.le_refl, Nat.zero_le, Value.category, Fin.isValue, Fin.val_zero, Fin.val_one, Fin.val_two, Fin.reduceFinMk, q_10, q_01, not_false_eq_true, not_true_eq_false, forall_const, true_implies, false_implies, implies_true, q_ni, q_fi, q_nb0, q_nb1, q_fb0, q_fb1, q_nor, q_nar, q_for, q_far, q_non, q_nan, q_fon, q_fan, imp_false, false_and, and_false, and_self, false_or, or_false, va_rf, refKind, q_fld, q_fset, q_oc, q_ai, q_aq, q_len, q_up_s, q_up_up, if_true, q_up_n hsq, k1.2, s_X6_init]
      refine ⟨_, _, _, _, by rw [q_up_n hxq]; exact k2.2, by rw [q_up_n hoq]; exact k3.2, hxq.symm, fun q2 σ' f2 hq2 hf2 e1 e2 e3 => ?_⟩
      have hqq : q2 ≠ q := fun e => by rw [e, q_up_s] at hq2; cases hq2
      have hq20 : σ q2 = none := by rw [q_up_n hqq] at hq2; exact hq2
      obtain ⟨v9, pl9, p1, p2, p3⟩ := ShC.push hS0 hq hq20 e1 e2 (fun b h1 h2 => by rw [e3 b h1 h2, q_up_n h1])
      simp only [c_push, c_null, c_iload, c_aload, c_istore, c_astore, c_iinc, c_iadd, c_isub, c_imul, c_iand, c_ineg, c_dup, c_dup2, c_pop, c_ifnull, c_ifnonnull, c_get, c_put, c_iald, c_zald, c_iast, c_zast, c_aald, c_aast, c_alen, c_new, c_newa, c_newq, c_mna, c_oinit, c_max, c_copy, c_iret, c_zret, c_aret, c_vret, q_do, q_rc, c_ifeq, c_ifne, c_iflt, c_ifge, c_ifgt, c_ifle, c_iceq, c_icne, c_iclt, c_icge, c_icgt, c_icle, c_call0, c_call1, c_call2, c_call3, c_call4, c_call5, c_call6, c_call7, q_L0, List.map_cons, List.map_nil, List.replicate, List.cons_append, List.nil_append, List.append_nil, List.length_cons, List.length_nil, List.length_set, Nat.reduceSub, Nat.reduceAdd, Nat.reduceLT, Nat.reduceLeDiff, Nat.zero_add, Nat.add_zero, Nat.sub_zero, Nat.sub_self, List.getElem?_cons_zero, List.getElem?_cons_succ, List.set_cons_zero, List.set_cons_succ, Option.toList_some, Option.toList_none, List.sum_cons, List.sum_nil, true_and, and_true, true_or, or_true, Nat.le_refl, Nat.zero_le, Value.category, Fin.isValue, Fin.val_zero, Fin.val_one, Fin.val_two, Fin.reduceFinMk, q_10, q_01, not_false_eq_true, not_true_eq_false, forall_const, true_implies, false_implies, implies_true, q_ni, q_fi, q_nb0, q_nb1, q_fb0, q_fb1, q_nor, q_nar, q_for, q_far, q_non, q_nan, q_fon, q_fan, imp_false, false_and, and_false, and_self, false_or, or_false, va_rf, refKind, q_fld, q_fset, q_oc, q_ai, q_aq, q_len, q_up_s, q_up_up, if_true, p1]
      refine J29 _ _ _ _ _ _ p2 (fun σ2 hS2 hf => h7 σ2 _ (td, q, q2, chF (chF f2 a (-n)) b n) ?_ ?_ ?_ (p3.trans hf))
      · rw [if_pos (by grind)]
      · exact chF_cong (chF_cong hf2 a (-n)) b n
      · rw [if_pos (by grind)]; exact hS2
  · exact h.elim)
-- passOn
def Mc (M : Nat → Nat → Int32) (p k : Nat) : Nat → Nat → Int32 := fun i j => if i = p ∧ j < k then 0 else M i j
theorem Mc_s (M : Nat → Nat → Int32) (p k : Nat) : M2 (Mc M p k) p k 0 = Mc M p (k + 1) := by
  funext i j
  unfold M2 Mc
  by_cases h1 : i = p ∧ j = k
  · rw [if_pos h1, if_pos ⟨h1.1, by omega⟩]
  · rw [if_neg h1]
    by_cases h2 : i = p ∧ j < k
    · rw [if_pos h2, if_pos ⟨h2.1, by omega⟩]
    · rw [if_neg h2, if_neg (by omega)]
def s_X8_passOn : q_Sp := fun av σ post => match av with
  | [.ref s, .int p, .int rc, .int td] => ∃ R M x t, ShC σ R s M (x :: t) ∧ (0 ≤ p ∧ p ≤ 11) ∧ ∀ σ' R' pgs', ShC σ' R' s (Mc M p.toNatClampNeg 12) pgs' → q_fm σ R σ' R' → (0 < shF x.2.2.2 p → ∃ x', x'.1 = (if x.1 < td then td else x.1) ∧ (∀ i, i < 13 → x'.2.2.2 i = chF (chF x.2.2.2 p (-shF x.2.2.2 p)) rc (shF x.2.2.2 p) i) ∧ pgs' = (if x.1 < td then x' :: x :: t else x' :: t)) → (¬ 0 < shF x.2.2.2 p → pgs' = x :: t) → post none σ'
  | _ => False
theorem w9_212 : (.code yX8_move cX8_move 5 none : Cond) ∈ lw_tbl := by decide +kernel
theorem w9_213 : (.methodLink RX8 65 yX8_move : Cond) ∈ lw_tbl := by decide +kernel
theorem w9_214 : (.instanceMethod yX8_move : Cond) ∈ lw_tbl := by decide +kernel
theorem w9_215 : (.selects RX8 yX8_move yX8_move : Cond) ∈ lw_tbl := by decide +kernel
theorem w9_216 : (.code yX8_dropPledge cX8_dropPledge 4 (some .int) : Cond) ∈ lw_tbl := by decide +kernel
theorem w9_217 : (.methodLink RX8 62 yX8_dropPledge : Cond) ∈ lw_tbl := by decide +kernel
theorem w9_218 : (.instanceMethod yX8_dropPledge : Cond) ∈ lw_tbl := by decide +kernel
theorem w9_219 : (.selects RX8 yX8_dropPledge yX8_dropPledge : Cond) ∈ lw_tbl := by decide +kernel
def rm_X8_passOn : Room := { frames := 4, cells := 2, slots := 16, locals := 106 }
def k_X8_passOn_0 (post : Option Value → q_S → Prop) (K : Nat → q_K) : q_K := (c_push 0 (c_istore 4 (K 3)))
def k_X8_passOn_45 (post : Option Value → q_S → Prop) (K : Nat → q_K) : q_K := (c_vret post)
def k_X8_passOn_3 (post : Option Value → q_S → Prop) (K : Nat → q_K) : q_K := (c_iload 4 (c_push 12 (c_icge (c_aload 0 (c_iload 1 (c_call2 (some 8) s_X8_ownedNow 0 0 (c_istore 4 (c_iload 4 (c_ifle (k_X8_passOn_45 post K) (c_aload 0 (c_iload 1 (c_iload 2 (c_iload 4 (c_iload 3 (c_call5 (some 8) s_X8_move 2 16 (k_X8_passOn_45 post K))))))))))))) (c_aload 0 (c_iload 1 (c_iload 4 (c_call3 (some 8) s_X8_dropPledge 0 0 (c_pop (c_iinc 4 1 (K 3))))))))))
set_option maxRecDepth 100000 in
theorem v_X8_passOn_0 {p : Program} {l : Launch} {e : Env} {s : State} {m : MethodId} {args : Array Value} {below : List Frame} {meth : Method} {c : Code} {D : va_G} {A : Nat → Prop} {post : Option Value → q_S → Prop} {K : Nat → q_K} (C : q_C p s m args meth c cX8_passOn 5 RX8 "passOn" none A) (hK : ∀ h ∈ ([3] : List Nat), q_V p l e rm_X8_passOn s m args below meth c D A 5 (MQ below (q_Qc D A post) args s rm_X8_passOn.cells rm_X8_passOn.slots A) h (K h)) : q_V p l e rm_X8_passOn s m args below meth c D A 5 (MQ below (q_Qc D A post) args s rm_X8_passOn.cells rm_X8_passOn.slots A) 0 (k_X8_passOn_0 post K) := by
  unfold k_X8_passOn_0
  refine q_iconst C (by decide +kernel : decode cX8_passOn 0 = .ok (.iconst 0, 1)) (by decide) ?_
  refine q_istore C (by decide +kernel : decode cX8_passOn 1 = .ok (.istore 4, 2)) ?_
  exact hK 3 (by decide)
set_option maxRecDepth 100000 in
theorem v_X8_passOn_45 {p : Program} {l : Launch} {e : Env} {s : State} {m : MethodId} {args : Array Value} {below : List Frame} {meth : Method} {c : Code} {D : va_G} {A : Nat → Prop} {post : Option Value → q_S → Prop} {K : Nat → q_K} (C : q_C p s m args meth c cX8_passOn 5 RX8 "passOn" none A) (hK : ∀ h ∈ ([3] : List Nat), q_V p l e rm_X8_passOn s m args below meth c D A 5 (MQ below (q_Qc D A post) args s rm_X8_passOn.cells rm_X8_passOn.slots A) h (K h)) : q_V p l e rm_X8_passOn s m args below meth c D A 5 (MQ below (q_Qc D A post) args s rm_X8_passOn.cells rm_X8_passOn.slots A) 45 (k_X8_passOn_45 post K) := by
  unfold k_X8_passOn_45
  exact q_vret C rfl (by decide +kernel : decode cX8_passOn 45 = .ok (.return_, 1))
set_option maxRecDepth 100000 in
theorem v_X8_passOn_3 {p : Program} {l : Launch} {e : Env} {s : State} {m : MethodId} {args : Array Value} {below : List Frame} {meth : Method} {c : Code} {D : va_G} {A : Nat → Prop} {post : Option Value → q_S → Prop} {K : Nat → q_K} (C : q_C p s m args meth c cX8_passOn 5 RX8 "passOn" none A) (hK : ∀ h ∈ ([3] : List Nat), q_V p l e rm_X8_passOn s m args below meth c D A 5 (MQ below (q_Qc D A post) args s rm_X8_passOn.cells rm_X8_passOn.slots A) h (K h)) : q_V p l e rm_X8_passOn s m args below meth c D A 5 (MQ below (q_Qc D A post) args s rm_X8_passOn.cells rm_X8_passOn.slots A) 3 (k_X8_passOn_3 post K) := by
  unfold k_X8_passOn_3
  refine q_iload C (by decide +kernel : decode cX8_passOn 3 = .ok (.iload 4, 2)) ?_
  refine q_bipush C (by decide +kernel : decode cX8_passOn 5 = .ok (.bipush 12, 2)) (by decide) ?_
  refine q_icge C (tgt := 24) (by decide +kernel : decode cX8_passOn 7 = .ok (.if_icmp .ge 17, 3)) (by decide) ?_ ?_
  · refine q_aload_n C (by decide +kernel : decode cX8_passOn 24 = .ok (.aload_n 0, 1)) ?_
    refine q_iload_n C (by decide +kernel : decode cX8_passOn 25 = .ok (.iload_n 1, 1)) ?_
    refine q_call2 C (q_coV C (np := 1) (ci := 8) (rc := (RX8, TX8, 2)) (t_X8_ownedNow l) w9_191 rfl rfl w9_192 w9_193 w9_194 w9_183 (by decide +kernel) (by decide +kernel : decode cX8_passOn 26 = .ok (.invokevirtual 40, 3)) (by decide)) ?_
    refine q_istore C (by decide +kernel : decode cX8_passOn 29 = .ok (.istore 4, 2)) ?_
    refine q_iload C (by decide +kernel : decode cX8_passOn 31 = .ok (.iload 4, 2)) ?_
    refine q_ifle C (tgt := 45) (by decide +kernel : decode cX8_passOn 33 = .ok (.ifCond .le 12, 3)) (by decide) ?_ ?_
    · exact v_X8_passOn_45 C hK
    · refine q_aload_n C (by decide +kernel : decode cX8_passOn 36 = .ok (.aload_n 0, 1)) ?_
      refine q_iload_n C (by decide +kernel : decode cX8_passOn 37 = .ok (.iload_n 1, 1)) ?_
      refine q_iload_n C (by decide +kernel : decode cX8_passOn 38 = .ok (.iload_n 2, 1)) ?_
      refine q_iload C (by decide +kernel : decode cX8_passOn 39 = .ok (.iload 4, 2)) ?_
      refine q_iload_n C (by decide +kernel : decode cX8_passOn 41 = .ok (.iload_n 3, 1)) ?_
      refine q_call5 C (q_coV C (np := 4) (ci := 8) (rc := (RX8, TX8, 2)) (t_X8_move l) w9_212 rfl rfl w9_213 w9_214 w9_215 w9_183 (by decide +kernel) (by decide +kernel : decode cX8_passOn 42 = .ok (.invokevirtual 65, 3)) (by decide)) ?_
      exact v_X8_passOn_45 C hK
  · refine q_aload_n C (by decide +kernel : decode cX8_passOn 10 = .ok (.aload_n 0, 1)) ?_
    refine q_iload_n C (by decide +kernel : decode cX8_passOn 11 = .ok (.iload_n 1, 1)) ?_
    refine q_iload C (by decide +kernel : decode cX8_passOn 12 = .ok (.iload 4, 2)) ?_
    refine q_call3 C (q_coV C (np := 2) (ci := 8) (rc := (RX8, TX8, 2)) (t_X8_dropPledge l) w9_216 rfl rfl w9_217 w9_218 w9_219 w9_183 (by decide +kernel) (by decide +kernel : decode cX8_passOn 14 = .ok (.invokevirtual 62, 3)) (by decide)) ?_
    refine q_pop C (by decide +kernel : decode cX8_passOn 17 = .ok (.pop, 1)) ?_
    refine q_iinc C (by decide +kernel : decode cX8_passOn 18 = .ok (.iinc 4 1, 3)) (by decide) ?_
    refine q_goto C (tgt := 3) (by decide +kernel : decode cX8_passOn 21 = .ok (.goto (-18), 3)) (by decide) ?_
    exact hK 3 (by decide)
theorem u_X8_passOn (l : Launch) {sp : q_Sp} (H : ∀ (av : List Value) (σ : q_S) (post : Option Value → q_S → Prop), sp av σ post → ∃ Inv : Nat → Nat → q_K, (∀ K : Nat → q_K, (∀ (h n : Nat) (L : List (Option Value)) (st : List Value) (σ : q_S) (cr sr : Nat), Inv h n L st σ cr sr → K h L st σ cr sr) → k_X8_passOn_0 post K (q_L0 av 5) [] σ 2 16) ∧ (∀ (K : Nat → q_K) (n : Nat), (∀ (h m : Nat) (L : List (Option Value)) (st : List Value) (σ : q_S) (cr sr : Nat), m < n → Inv h m L st σ cr sr → K h L st σ cr sr) → ∀ (L : List (Option Value)) (st : List Value) (σ : q_S) (cr sr : Nat), Inv 3 n L st σ cr sr → k_X8_passOn_3 post K L st σ cr sr) ∧ av.length ≤ 5 ∧ ∀ v ∈ av, v.category = 1) : q_Ct l yX8_passOn cX8_passOn 5 none rm_X8_passOn sp := by
  refine q_met (by decide) ?_
  intro D A p e s m args below meth c σ av post C hsp
  obtain ⟨Inv, h1, hh3, h2, h3⟩ := H av σ post hsp
  have hV := q_loops (p := p) (l := l) (e := e) (R := rm_X8_passOn) (s := s) (m := m) (args := args) (below := below) (meth := meth) (c := c) (D := D) (A := A) (nL := 5) (Q := MQ below (q_Qc D A post) args s rm_X8_passOn.cells rm_X8_passOn.slots A) [3] (fun h =>  k_X8_passOn_3 post) (fun K hK h hh => ?_) Inv (fun n h hh => ?_)
  · exact ⟨_, v_X8_passOn_0 C hV, h1 _ (fun h n L st σ cr sr hi => ⟨n, hi⟩), h2, h3⟩
  · have e9 : h = 3 := by simpa using hh
    subst e9
    exact v_X8_passOn_3 C hK
  · have e9 : h = 3 := by simpa using hh
    subst e9
    exact hh3 (fun h L st σ cr sr => ∃ m : Nat, m < n ∧ Inv h m L st σ cr sr) n (fun h m L st σ cr sr hm hi => ⟨m, hm, hi⟩)
theorem t_X8_passOn (l : Launch) : q_Ct l yX8_passOn cX8_passOn 5 none rm_X8_passOn s_X8_passOn := u_X8_passOn l (by
  intro av σ post h
  unfold s_X8_passOn at h
  split at h
  · next s p rc td =>
    obtain ⟨R, M, x, t, hS, hp, h7⟩ := h
    refine ⟨fun _ m L st σ' cr sr => ∃ i, i ≤ 12 ∧ m = 12 - i ∧ cr = 2 ∧ sr = 16 ∧ ShC σ' R s (Mc M p.toNatClampNeg i) (x :: t) ∧ q_fm σ R σ' R ∧ st = [] ∧ L = [some (.ref s), some (.int p), some (.int rc), some (.int td), some (.int (nI i))], ?_, ?_, by simp, by simp [Value.category]⟩
    · intro K hK
      simp only [c_push, c_null, c_iload, c_aload, c_istore, c_astore, c_iinc, c_iadd, c_isub, c_imul, c_iand, c_ineg, c_dup, c_dup2, c_pop, c_ifnull, c_ifnonnull, c_get, c_put, c_iald, c_zald, c_iast, c_zast, c_aald, c_aast, c_alen, c_new, c_newa, c_newq, c_mna, c_oinit, c_max, c_copy, c_iret, c_zret, c_aret, c_vret, q_do, q_rc, c_ifeq, c_ifne, c_iflt, c_ifge, c_ifgt, c_ifle, c_iceq, c_icne, c_iclt, c_icge, c_icgt, c_icle, c_call0, c_call1, c_call2, c_call3, c_call4, c_call5, c_call6, c_call7, q_L0, List.map_cons, List.map_nil, List.replicate, List.cons_append, List.nil_append, List.append_nil, List.length_cons, List.length_nil, List.length_set, Nat.reduceSub, Nat.reduceAdd, Nat.reduceLT, Nat.reduceLeDiff, Nat.zero_add, Nat.add_zero, Nat.sub_zero, Nat.sub_self, List.getElem?_cons_zero, List.getElem?_cons_succ, List.set_cons_zero, List.set_cons_succ, Option.toList_some, Option.toList_none, List.sum_cons, List.sum_nil, true_and, and_true, true_or, or_true, Nat.le_refl, Nat.zero_le, Value.category, Fin.isValue, Fin.val_zero, Fin.val_one, Fin.val_two, Fin.reduceFinMk, q_10, q_01, not_false_eq_true, not_true_eq_false, forall_const, true_implies, false_implies, implies_true, q_ni, q_fi, q_nb0, q_nb1, q_fb0, q_fb1, q_nor, q_nar, q_for, q_far, q_non, q_nan, q_fon, q_fan, imp_false, false_and, and_false, and_self, false_or, or_false, va_rf, refKind, k_X8_passOn_0]
      refine hK _ 12 _ _ _ _ _ ⟨0, Nat.zero_le _, rfl, rfl, rfl, ?_, q_fm.refl, rfl, rfl⟩
      have e : Mc M p.toNatClampNeg 0 = M := by funext i j; unfold Mc; rw [if_neg (by omega)]
      rw [e]; exact hS
    · rintro K m hK L st σ' cr sr ⟨i, hi, rfl, rfl, rfl, hS', hf, rfl, rfl⟩
      have hoc : q_oc σ' s = some 8 := by obtain ⟨v, pl, h1, -⟩ := hS'; simp only [q_oc, h1.2]
      simp only [c_push, c_null, c_iload, c_aload, c_istore, c_astore, c_iinc, c_iadd, c_isub, c_imul, c_iand, c_ineg, c_dup, c_dup2, c_pop, c_ifnull, c_ifnonnull, c_get, c_put, c_iald, c_zald, c_iast, c_zast, c_aald, c_aast, c_alen, c_new, c_newa, c_newq, c_mna, c_oinit, c_max, c_copy, c_iret, c_zret, c_aret, c_vret, q_do, q_rc, c_ifeq, c_ifne, c_iflt, c_ifge, c_ifgt, c_ifle, c_iceq, c_icne, c_iclt, c_icge, c_icgt, c_icle, c_call0, c_call1, c_call2, c_call3, c_call4, c_call5, c_call6, c_call7, q_L0, List.map_cons, List.map_nil, List.replicate, List.cons_append, List.nil_append, List.append_nil, List.length_cons, List.length_nil, List.length_set, Nat.reduceSub, Nat.reduceAdd, Nat.reduceLT, Nat.reduceLeDiff, Nat.zero_add, Nat.add_zero, Nat.sub_zero, Nat.sub_self, List.getElem?_cons_zero, List.getElem?_cons_succ, List.set_cons_zero, List.set_cons_succ, Option.toList_some, Option.toList_none, List.sum_cons, List.sum_nil, true_and, and_true, true_or, or_true, Nat.le_refl, Nat.zero_le, Value.category, Fin.isValue, Fin.val_zero, Fin.val_one, Fin.val_two, Fin.reduceFinMk, q_10, q_01, not_false_eq_true, not_true_eq_false, forall_const, true_implies, false_implies, implies_true, q_ni, q_fi, q_nb0, q_nb1, q_fb0, q_fb1, q_nor, q_nar, q_for, q_far, q_non, q_nan, q_fon, q_fan, imp_false, false_and, and_false, and_self, false_or, or_false, va_rf, refKind, k_X8_passOn_3, k_X8_passOn_45, hoc]
      rw [(cl2 12 (nI i) 12 i rfl rfl (by omega) (by omega)).1]
      refine ⟨fun c => ?_, fun c => ?_⟩
      · have : i = 12 := by omega
        subst this
        refine ⟨R, _, x, t, hS', ?_⟩
        simp only [c_push, c_null, c_iload, c_aload, c_istore, c_astore, c_iinc, c_iadd, c_isub, c_imul, c_iand, c_ineg, c_dup, c_dup2, c_pop, c_ifnull, c_ifnonnull, c_get, c_put, c_iald, c_zald, c_iast, c_zast, c_aald, c_aast, c_alen, c_new, c_newa, c_newq, c_mna, c_oinit, c_max, c_copy, c_iret, c_zret, c_aret, c_vret, q_do, q_rc, c_ifeq, c_ifne, c_iflt, c_ifge, c_ifgt, c_ifle, c_iceq, c_icne, c_iclt, c_icge, c_icgt, c_icle, c_call0, c_call1, c_call2, c_call3, c_call4, c_call5, c_call6, c_call7, q_L0, List.map_cons, List.map_nil, List.replicate, List.cons_append, List.nil_append, List.append_nil, List.length_cons, List.length_nil, List.length_set, Nat.reduceSub, Nat.reduceAdd, Nat.reduceLT, Nat.reduceLeDiff, Nat.zero_add, Nat.add_zero, Nat.sub_zero, Nat.sub_self, List.getElem?_cons_zero, List.getElem?_cons_succ, List.set_cons_zero, List.set_cons_succ, Option.toList_some, Option.toList_none, List.sum_cons, List.sum_nil, true_and, and_true, true_or, or_true, Nat.le_refl, Nat.zero_le, Value.category, Fin.isValue, Fin.val_zero, Fin.val_one, Fin.val_two, Fin.reduceFinMk, q_10, q_01, not_false_eq_true, not_true_eq_false, forall_const, true_implies, false_implies, implies_true, q_ni, q_fi, q_nb0, q_nb1, q_fb0, q_fb1, q_nor, q_nar, q_for, q_far, q_non, q_nan, q_fon, q_fan, imp_false, false_and, and_false, and_self, false_or, or_false, va_rf, refKind, hoc]
        refine ⟨fun c2 => ?_, fun c2 => ?_⟩
        · exact h7 σ' R (x :: t) hS' hf (fun c3 => absurd c2 (by grind)) (fun _ => rfl)
        · refine ⟨R, _, x, t, hS', fun σ2 R2 x' e1 e2 e3 e4 => ?_⟩
          simp only [c_push, c_null, c_iload, c_aload, c_istore, c_astore, c_iinc, c_iadd, c_isub, c_imul, c_iand, c_ineg, c_dup, c_dup2, c_pop, c_ifnull, c_ifnonnull, c_get, c_put, c_iald, c_zald, c_iast, c_zast, c_aald, c_aast, c_alen, c_new, c_newa, c_newq, c_mna, c_oinit, c_max, c_copy, c_iret, c_zret, c_aret, c_vret, q_do, q_rc, c_ifeq, c_ifne, c_iflt, c_ifge, c_ifgt, c_ifle, c_iceq, c_icne, c_iclt, c_icge, c_icgt, c_icle, c_call0, c_call1, c_call2, c_call3, c_call4, c_call5, c_call6, c_call7, q_L0, List.map_cons, List.map_nil, List.replicate, List.cons_append, List.nil_append, List.append_nil, List.length_cons, List.length_nil, List.length_set, Nat.reduceSub, Nat.reduceAdd, Nat.reduceLT, Nat.reduceLeDiff, Nat.zero_add, Nat.add_zero, Nat.sub_zero, Nat.sub_self, List.getElem?_cons_zero, List.getElem?_cons_succ, List.set_cons_zero, List.set_cons_succ, Option.toList_some, Option.toList_none, List.sum_cons, List.sum_nil, true_and, and_true, true_or, or_true, Nat.le_refl, Nat.zero_le, Value.category, Fin.isValue, Fin.val_zero, Fin.val_one, Fin.val_two, Fin.reduceFinMk, q_10, q_01, not_false_eq_true, not_true_eq_false, forall_const, true_implies, false_implies, implies_true, q_ni, q_fi, q_nb0, q_nb1, q_fb0, q_fb1, q_nor, q_nar, q_for, q_far, q_non, q_nan, q_fon, q_fan, imp_false, false_and, and_false, and_self, false_or, or_false, va_rf, refKind]
          exact h7 σ2 R2 _ e3 (hf.trans e4) (fun _ => ⟨x', e1, e2, rfl⟩) (fun c3 => absurd (by grind) c3)
      · refine ⟨R, _, x :: t, hS', ⟨hp, nI_low (by omega), nI_leN (N := 11) (by omega)⟩, fun σ2 hS2 hf2 => ?_⟩
        simp only [c_push, c_null, c_iload, c_aload, c_istore, c_astore, c_iinc, c_iadd, c_isub, c_imul, c_iand, c_ineg, c_dup, c_dup2, c_pop, c_ifnull, c_ifnonnull, c_get, c_put, c_iald, c_zald, c_iast, c_zast, c_aald, c_aast, c_alen, c_new, c_newa, c_newq, c_mna, c_oinit, c_max, c_copy, c_iret, c_zret, c_aret, c_vret, q_do, q_rc, c_ifeq, c_ifne, c_iflt, c_ifge, c_ifgt, c_ifle, c_iceq, c_icne, c_iclt, c_icge, c_icgt, c_icle, c_call0, c_call1, c_call2, c_call3, c_call4, c_call5, c_call6, c_call7, q_L0, List.map_cons, List.map_nil, List.replicate, List.cons_append, List.nil_append, List.append_nil, List.length_cons, List.length_nil, List.length_set, Nat.reduceSub, Nat.reduceAdd, Nat.reduceLT, Nat.reduceLeDiff, Nat.zero_add, Nat.add_zero, Nat.sub_zero, Nat.sub_self, List.getElem?_cons_zero, List.getElem?_cons_succ, List.set_cons_zero, List.set_cons_succ, Option.toList_some, Option.toList_none, List.sum_cons, List.sum_nil, true_and, and_true, true_or, or_true, Nat.le_refl, Nat.zero_le, Value.category, Fin.isValue, Fin.val_zero, Fin.val_one, Fin.val_two, Fin.reduceFinMk, q_10, q_01, not_false_eq_true, not_true_eq_false, forall_const, true_implies, false_implies, implies_true, q_ni, q_fi, q_nb0, q_nb1, q_fb0, q_fb1, q_nor, q_nar, q_for, q_far, q_non, q_nan, q_fon, q_fan, imp_false, false_and, and_false, and_self, false_or, or_false, va_rf, refKind]
        rw [clN (by omega), Mc_s] at hS2
        exact hK _ (12 - (i + 1)) _ _ _ _ _ (by omega) ⟨i + 1, by omega, rfl, rfl, rfl, hS2, hf.trans hf2, rfl, by rw [nI_1]⟩
  · exact h.elim)
-- Shares()
theorem q_grid_q {σ : q_S} {q : Nat} {rw0 : Nat → Nat} {N K : Nat} : q_grid σ q rw0 N K q = some (gridE N rw0) := by unfold q_grid; rw [if_pos rfl]
theorem q_grid_r {σ : q_S} {q : Nat} {rw0 : Nat → Nat} {N K i : Nat} (hi : i < N) (hne : rw0 i ≠ q) : q_grid σ q rw0 N K (rw0 i) = some (.inl (.int, K, .inl (fun _ => 0))) := by
  unfold q_grid
  rw [if_neg hne, if_pos (List.mem_map.mpr ⟨i, List.mem_range.mpr hi, rfl⟩)]
theorem q_grid_o {σ : q_S} {q : Nat} {rw0 : Nat → Nat} {N K b : Nat} {e : q_E} (hq : σ q = none) (hr : ∀ i, i < N → σ (rw0 i) = none ∧ rw0 i ≠ q) (hb : σ b = some e) : q_grid σ q rw0 N K b = some e ∧ b ≠ q ∧ ∀ i, i < N → b ≠ rw0 i := by
  have h1 : b ≠ q := fun e9 => by rw [e9, hq] at hb; cases hb
  have h2 : ∀ i, i < N → b ≠ rw0 i := fun i hi e9 => by rw [e9, (hr i hi).1] at hb; cases hb
  refine ⟨?_, h1, h2⟩
  unfold q_grid
  rw [if_neg h1, if_neg]
  · exact hb
  · intro hm
    obtain ⟨i, hi, e9⟩ := List.mem_map.mp hm
    exact h2 i (List.mem_range.mp hi) e9.symm
def s_X8_init : q_Sp := fun av σ post => match av with
  | [.ref s, .int au, .int d] => σ s = some (.inr (8, [.null, .null])) ∧ ∀ σ' R x', x'.1 = d → (∀ i, i < 13 → x'.2.2.2 i = chF (fun _ => 0) au 16 i) → ShC σ' R s (fun _ _ => 0) [x'] → (∀ a e, a ≠ s → σ a = some e → ¬ R a ∧ σ' a = some e) → post none σ'
  | _ => False
theorem w9_220 : (.methodLink RX8 3 objectInit : Cond) ∈ lw_tbl := by decide +kernel
theorem w9_221 : (.classLink RX8 24 "[[I" : Cond) ∈ lw_tbl := by decide +kernel
def rm_X8_init : Room := { frames := 2, cells := 15, slots := 172, locals := 82 }
def k_X8_init_0 (post : Option Value → q_S → Prop) (K : Nat → q_K) : q_K := (c_aload 0 (c_oinit (c_aload 0 (c_new 6 3 [.int 0, .null, .null] (c_dup (c_iload 2 (c_null (c_call3 (some 6) s_X6_init 1 13 (c_put 8 0 (.object "CopyRegister$Page") (c_aload 0 (c_get 8 0 (c_iload 1 (c_push 16 (c_call3 (some 6) s_X6_change 0 0 (c_aload 0 (c_push 12 (c_push 12 (c_mna (c_put 8 1 (.array (.array .int)) (c_vret post))))))))))))))))))))
set_option maxRecDepth 100000 in
theorem v_X8_init_0 {p : Program} {l : Launch} {e : Env} {s : State} {m : MethodId} {args : Array Value} {below : List Frame} {meth : Method} {c : Code} {D : va_G} {A : Nat → Prop} {post : Option Value → q_S → Prop} {K : Nat → q_K} (C : q_C p s m args meth c cX8_init 3 RX8 "<init>" none A) (hK : ∀ h ∈ ([] : List Nat), q_V p l e rm_X8_init s m args below meth c D A 3 (MQ below (q_Qc D A post) args s rm_X8_init.cells rm_X8_init.slots A) h (K h)) : q_V p l e rm_X8_init s m args below meth c D A 3 (MQ below (q_Qc D A post) args s rm_X8_init.cells rm_X8_init.slots A) 0 (k_X8_init_0 post K) := by
  unfold k_X8_init_0
  refine q_aload_n C (by decide +kernel : decode cX8_init 0 = .ok (.aload_n 0, 1)) ?_
  refine q_oinit C w9_220 w9_112 w9_113 (by decide) (by decide +kernel : decode cX8_init 1 = .ok (.invokespecial 3, 3)) ?_
  refine q_aload_n C (by decide +kernel : decode cX8_init 4 = .ok (.aload_n 0, 1)) ?_
  refine q_new C (ci := 6) (C0 := RX6) (T := TX6) (N := 3) (fs := [.int 0, .null, .null]) rfl iX6 giX6 tyX6 tyX6_ok w9_203 w9_204 w9_174 dvX6 (by decide +kernel : decode cX8_init 5 = .ok (.new 9, 3)) ?_
  refine q_dup C (by decide +kernel : decode cX8_init 8 = .ok (.dup, 1)) ?_
  refine q_iload_n C (by decide +kernel : decode cX8_init 9 = .ok (.iload_n 2, 1)) ?_
  refine q_null C (by decide +kernel : decode cX8_init 10 = .ok (.aconst_null, 1)) ?_
  refine q_call3 C (q_coI C (np := 2) (ci := 6) (t_X6_init l) w9_205 rfl w9_206 w9_207 w9_174 (by decide +kernel) (by decide +kernel : decode cX8_init 11 = .ok (.invokespecial 11, 3)) (by decide)) ?_
  refine q_put C (ci := 8) (j := 0) (C0 := RX8) (T := TX8) (N := 2) (ty := .object "CopyRegister$Page") rfl iX8 giX8 (by decide) tyX8 tyX8_ok nmX8 (by decide +kernel) rfl w9_177 (by decide +kernel : decode cX8_init 14 = .ok (.putfield 14, 3)) ?_
  refine q_aload_n C (by decide +kernel : decode cX8_init 17 = .ok (.aload_n 0, 1)) ?_
  refine q_get C (ci := 8) (j := 0) (C0 := RX8) (T := TX8) (N := 2) rfl iX8 giX8 (by decide) w9_177 (by decide +kernel : decode cX8_init 18 = .ok (.getfield 14, 3)) ?_
  refine q_iload_n C (by decide +kernel : decode cX8_init 21 = .ok (.iload_n 1, 1)) ?_
  refine q_bipush C (by decide +kernel : decode cX8_init 22 = .ok (.bipush 16, 2)) (by decide) ?_
  refine q_call3 C (q_coV C (np := 2) (ci := 6) (rc := (RX6, TX6, 3)) (t_X6_change l) w9_208 rfl rfl w9_209 w9_210 w9_211 w9_174 (by decide +kernel) (by decide +kernel : decode cX8_init 24 = .ok (.invokevirtual 20, 3)) (by decide)) ?_
  refine q_aload_n C (by decide +kernel : decode cX8_init 27 = .ok (.aload_n 0, 1)) ?_
  refine q_bipush C (by decide +kernel : decode cX8_init 28 = .ok (.bipush 12, 2)) (by decide) ?_
  refine q_bipush C (by decide +kernel : decode cX8_init 30 = .ok (.bipush 12, 2)) (by decide) ?_
  refine q_mna C w9_221 w9_114 (by decide +kernel : decode cX8_init 32 = .ok (.multianewarray 24 2, 4)) ?_
  refine q_putF C (ci := 8) (j := 1) (C0 := RX8) (T := TX8) (N := 2) (ty := .array (.array .int)) rfl iX8 giX8 (by decide) tyX8 tyX8_ok nmX8 (by decide +kernel) rfl rfl rfl w9_186 (by decide +kernel : decode cX8_init 36 = .ok (.putfield 26, 3)) ?_
  exact q_vret C rfl (by decide +kernel : decode cX8_init 39 = .ok (.return_, 1))
theorem u_X8_init (l : Launch) {sp : q_Sp} (H : ∀ (av : List Value) (σ : q_S) (post : Option Value → q_S → Prop), sp av σ post → k_X8_init_0 post (fun _ _ _ _ _ _ => False) (q_L0 av 3) [] σ 15 172 ∧ av.length ≤ 3 ∧ ∀ v ∈ av, v.category = 1) : q_Ct l yX8_init cX8_init 3 none rm_X8_init sp := by
  refine q_met (by decide) ?_
  intro D A p e s m args below meth c σ av post C hsp
  obtain ⟨h1, h2, h3⟩ := H av σ post hsp
  exact ⟨_, v_X8_init_0 (K := fun _ _ _ _ _ _ => False) C (fun h hh => by cases hh), h1, h2, h3⟩
theorem t_X8_init (l : Launch) : q_Ct l yX8_init cX8_init 3 none rm_X8_init s_X8_init := u_X8_init l (by
  intro av σ post h
  unfold s_X8_init at h
  split at h
  · next s au d =>
    refine ⟨?_, by simp, by simp [Value.category]⟩
    obtain ⟨h0, h7⟩ := h
    have e9 : (12 : Int32).toNatClampNeg = 12 := rfl
    simp only [c_push, c_null, c_iload, c_aload, c_istore, c_astore, c_iinc, c_iadd, c_isub, c_imul, c_iand, c_ineg, c_dup, c_dup2, c_pop, c_ifnull, c_ifnonnull, c_get, c_put, c_iald, c_zald, c_iast, c_zast, c_aald, c_aast, c_alen, c_new, c_newa, c_newq, c_mna, c_oinit, c_max, c_copy, c_iret, c_zret, c_aret, c_vret, q_do, q_rc, c_ifeq, c_ifne, c_iflt, c_ifge, c_ifgt, c_ifle, c_iceq, c_icne, c_iclt, c_icge, c_icgt, c_icle, c_call0, c_call1, c_call2, c_call3, c_call4, c_call5, c_call6, c_call7, q_L0, List.map_cons, List.map_nil, List.replicate, List.cons_append, List.nil_append, List.append_nil, List.length_cons, List.length_nil, List.length_set, Nat.reduceSub, Nat.reduceAdd, Nat.reduceLT, Nat.reduceLeDiff, Nat.zero_add, Nat.add_zero, Nat.sub_zero, Nat.sub_self, List.getElem?_cons_zero, List.getElem?_cons_succ, List.set_cons_zero, List.set_cons_succ, Option.toList_some, Option.toList_none, List.sum_cons, List.sum_nil, true_and, and_true, true_or, or_true, Nat.le_refl, Nat.zero_le, Value.category, Fin.isValue, Fin.val_zero, Fin.val_one, Fin.val_two, Fin.reduceFinMk, q_10, q_01, not_false_eq_true, not_true_eq_false, forall_const, true_implies, false_implies, implies_true, q_ni, q_fi, q_nb0, q_nb1, q_fb0, q_fb1, q_nor, q_nar, q_for, q_far, q_non, q_nan, q_fon, q_fan, imp_false, false_and, and_false, and_self, false_or, or_false, va_rf, refKind, k_X8_init_0, q_fld, q_fset, q_oc, q_ai, q_aq, q_len, q_up_s, q_up_up, if_true, h0]
    intro q hq
    have hsq : s ≠ q := fun e => by rw [← e, h0] at hq; cases hq
    simp only [c_push, c_null, c_iload, c_aload, c_istore, c_astore, c_iinc, c_iadd, c_isub, c_imul, c_iand, c_ineg, c_dup, c_dup2, c_pop, c_ifnull, c_ifnonnull, c_get, c_put, c_iald, c_zald, c_iast, c_zast, c_aald, c_aast, c_alen, c_new, c_newa, c_newq, c_mna, c_oinit, c_max, c_copy, c_iret, c_zret, c_aret, c_vret, q_do, q_rc, c_ifeq, c_ifne, c_iflt, c_ifge, c_ifgt, c_ifle, c_iceq, c_icne, c_iclt, c_icge, c_icgt, c_icle, c_call0, c_call1, c_call2, c_call3, c_call4, c_call5, c_call6, c_call7, q_L0, List.map_cons, List.map_nil, List.replicate, List.cons_append, List.nil_append, List.append_nil, List.length_cons, List.length_nil, List.length_set, Nat.reduceSub, Nat.reduceAdd, Nat.reduceLT, Nat.reduceLeDiff, Nat.zero_add, Nat.add_zero, Nat.sub_zero, Nat.sub_self, List.getElem?_cons_zero, List.getElem?_cons_succ, List.set_cons_zero, List.set_cons_succ, Option.toList_some, Option.toList_none, List.sum_cons, List.sum_nil, true_and, and_true, true_or, or_true, Nat.le_refl, Nat.zero_le, Value.category, Fin.isValue, Fin.val_zero, Fin.val_one, Fin.val_two, Fin.reduceFinMk, q_10, q_01, not_false_eq_true, not_true_eq_false, forall_const, true_implies, false_implies, implies_true, q_ni, q_fi, q_nb0, q_nb1, q_fb0, q_fb1, q_nor, q_nar, q_for, q_far, q_non, q_nan, q_fon, q_fan, imp_false, false_and, and_false, and_self, false_or, or_false, va_rf, refKind, q_fld, q_fset, q_oc, q_ai, q_aq, q_len, q_up_s, q_up_up, if_true, q_up_n hsq, h0, s_X6_init]
    refine fun q2 σ' hq2 e1 e2 e3 => ?_
    have hqq : q2 ≠ q := fun e => by rw [e, q_up_s] at hq2; cases hq2
    have hsq2 : s ≠ q2 := fun e => by rw [← e, q_up_n hsq, h0] at hq2; cases hq2
    have hs' : σ' s = some (.inr (8, [.null, .null])) := by rw [e3 s hsq hsq2, q_up_n hsq]; exact h0
    simp only [c_push, c_null, c_iload, c_aload, c_istore, c_astore, c_iinc, c_iadd, c_isub, c_imul, c_iand, c_ineg, c_dup, c_dup2, c_pop, c_ifnull, c_ifnonnull, c_get, c_put, c_iald, c_zald, c_iast, c_zast, c_aald, c_aast, c_alen, c_new, c_newa, c_newq, c_mna, c_oinit, c_max, c_copy, c_iret, c_zret, c_aret, c_vret, q_do, q_rc, c_ifeq, c_ifne, c_iflt, c_ifge, c_ifgt, c_ifle, c_iceq, c_icne, c_iclt, c_icge, c_icgt, c_icle, c_call0, c_call1, c_call2, c_call3, c_call4, c_call5, c_call6, c_call7, q_L0, List.map_cons, List.map_nil, List.replicate, List.cons_append, List.nil_append, List.append_nil, List.length_cons, List.length_nil, List.length_set, Nat.reduceSub, Nat.reduceAdd, Nat.reduceLT, Nat.reduceLeDiff, Nat.zero_add, Nat.add_zero, Nat.sub_zero, Nat.sub_self, List.getElem?_cons_zero, List.getElem?_cons_succ, List.set_cons_zero, List.set_cons_succ, Option.toList_some, Option.toList_none, List.sum_cons, List.sum_nil, true_and, and_true, true_or, or_true, Nat.le_refl, Nat.zero_le, Value.category, Fin.isValue, Fin.val_zero, Fin.val_one, Fin.val_two, Fin.reduceFinMk, q_10, q_01, not_false_eq_true, not_true_eq_false, forall_const, true_implies, false_implies, implies_true, q_ni, q_fi, q_nb0, q_nb1, q_fb0, q_fb1, q_nor, q_nar, q_for, q_far, q_non, q_nan, q_fon, q_fan, imp_false, false_and, and_false, and_self, false_or, or_false, va_rf, refKind, q_fld, q_fset, q_oc, q_ai, q_aq, q_len, q_up_s, q_up_up, if_true, hs', q_up_n hsq.symm, q_up_n hsq2.symm, e1, e2, s_X6_change, q_up_n hsq2, q_up_n hqq]
    simp only [c_push, c_null, c_iload, c_aload, c_istore, c_astore, c_iinc, c_iadd, c_isub, c_imul, c_iand, c_ineg, c_dup, c_dup2, c_pop, c_ifnull, c_ifnonnull, c_get, c_put, c_iald, c_zald, c_iast, c_zast, c_aald, c_aast, c_alen, c_new, c_newa, c_newq, c_mna, c_oinit, c_max, c_copy, c_iret, c_zret, c_aret, c_vret, q_do, q_rc, c_ifeq, c_ifne, c_iflt, c_ifge, c_ifgt, c_ifle, c_iceq, c_icne, c_iclt, c_icge, c_icgt, c_icle, c_call0, c_call1, c_call2, c_call3, c_call4, c_call5, c_call6, c_call7, q_L0, List.map_cons, List.map_nil, List.replicate, List.cons_append, List.nil_append, List.append_nil, List.length_cons, List.length_nil, List.length_set, Nat.reduceSub, Nat.reduceAdd, Nat.reduceLT, Nat.reduceLeDiff, Nat.zero_add, Nat.add_zero, Nat.sub_zero, Nat.sub_self, List.getElem?_cons_zero, List.getElem?_cons_succ, List.set_cons_zero, List.set_cons_succ, Option.toList_some, Option.toList_none, List.sum_cons, List.sum_nil, true_and, and_true, true_or, or_true, Nat.le_refl, Nat.zero_le, Value.category, Fin.isValue, Fin.val_zero, Fin.val_one, Fin.val_two, Fin.reduceFinMk, q_10, q_01, not_false_eq_true, not_true_eq_false, forall_const, true_implies, false_implies, implies_true, q_ni, q_fi, q_nb0, q_nb1, q_fb0, q_fb1, q_nor, q_nar, q_for, q_far, q_non, q_nan, q_fon, q_fan, imp_false, false_and, and_false, and_self, false_or, or_false, va_rf, refKind, e9]
    refine ⟨by decide, fun q3 rw0 g1 g2 g3 => ?_⟩
    generalize hσ2 : q_up (q_up σ' s (Sum.inr (8, [Value.ref q, Value.null]))) q2 (Sum.inl (FieldType.int, 13, Sum.inl (chF (fun x => 0) au 16))) = σ2 at *
    have s1 : σ2 s = some (.inr (8, [.ref q, .null])) := by rw [← hσ2, q_up_n hsq2, q_up_s]
    have s2 : σ2 q = some (.inr (6, [.int d, .null, .ref q2])) := by rw [← hσ2, q_up_n hqq.symm, q_up_n hsq.symm]; exact e1
    have s3 : σ2 q2 = some (.inl (.int, 13, .inl (chF (fun _ => 0) au 16))) := by rw [← hσ2, q_up_s]
    have s4 : ∀ a e, a ≠ s → σ a = some e → σ2 a = some e ∧ a ≠ q ∧ a ≠ q2 := fun a e ha he => by
      have n1 : a ≠ q := fun e9 => by rw [e9, hq] at he; cases he
      have n2 : a ≠ q2 := fun e9 => by rw [← e9, q_up_n n1, he] at hq2; cases hq2
      exact ⟨by rw [← hσ2, q_up_n n2, q_up_n ha, e3 a n1 n2, q_up_n n1]; exact he, n1, n2⟩
    have t1 := q_grid_o (N := 12) (K := 12) g1 g2 s1
    have t2 := q_grid_o (N := 12) (K := 12) g1 g2 s2
    have t3 := q_grid_o (N := 12) (K := 12) g1 g2 s3
    have hq3 : q_grid σ2 q3 rw0 12 12 q3 = some (gridE 12 rw0) := q_grid_q
    simp only [c_push, c_null, c_iload, c_aload, c_istore, c_astore, c_iinc, c_iadd, c_isub, c_imul, c_iand, c_ineg, c_dup, c_dup2, c_pop, c_ifnull, c_ifnonnull, c_get, c_put, c_iald, c_zald, c_iast, c_zast, c_aald, c_aast, c_alen, c_new, c_newa, c_newq, c_mna, c_oinit, c_max, c_copy, c_iret, c_zret, c_aret, c_vret, q_do, q_rc, c_ifeq, c_ifne, c_iflt, c_ifge, c_ifgt, c_ifle, c_iceq, c_icne, c_iclt, c_icge, c_icgt, c_icle, c_call0, c_call1, c_call2, c_call3, c_call4, c_call5, c_call6, c_call7, q_L0, List.map_cons, List.map_nil, List.replicate, List.cons_append, List.nil_append, List.append_nil, List.length_cons, List.length_nil, List.length_set, Nat.reduceSub, Nat.reduceAdd, Nat.reduceLT, Nat.reduceLeDiff, Nat.zero_add, Nat.add_zero, Nat.sub_zero, Nat.sub_self, List.getElem?_cons_zero, List.getElem?_cons_succ, List.set_cons_zero, List.set_cons_succ, Option.toList_some, Option.toList_none, List.sum_cons, List.sum_nil, true_and, and_true, true_or, or_true, Nat.le_refl, Nat.zero_le, Value.category, Fin.isValue, Fin.val_zero, Fin.val_one, Fin.val_two, Fin.reduceFinMk, q_10, q_01, not_false_eq_true, not_true_eq_false, forall_const, true_implies, false_implies, implies_true, q_ni, q_fi, q_nb0, q_nb1, q_fb0, q_fb1, q_nor, q_nar, q_for, q_far, q_non, q_nan, q_fon, q_fan, imp_false, false_and, and_false, and_self, false_or, or_false, va_rf, refKind, q_fld, q_fset, q_oc, q_ai, q_aq, q_len, q_up_s, q_up_up, if_true, t1.1]
    refine h7 _ (fun c => c = s ∨ c = q ∨ c = q2 ∨ c = q3 ∨ ∃ i, i < 12 ∧ c = rw0 i) (d, q, q2, chF (fun _ => 0) au 16) rfl (fun i hi => rfl) ⟨.ref q, q3, ⟨Or.inl rfl, q_up_s⟩, ⟨.null, rfl, ⟨Or.inr (Or.inl rfl), by rw [q_up_n hsq.symm]; exact t2.1⟩, ⟨Or.inr (Or.inr (Or.inl rfl)), by rw [q_up_n hsq2.symm]; exact t3.1⟩, rfl⟩, ⟨rw0, ⟨Or.inr (Or.inr (Or.inr (Or.inl rfl))), by rw [q_up_n t1.2.1.symm]; exact hq3⟩, fun p hp => ⟨fun _ => 0, ⟨Or.inr (Or.inr (Or.inr (Or.inr ⟨p, hp, rfl⟩))), by rw [q_up_n (t1.2.2 p hp).symm]; exact q_grid_r hp (g2 p hp).2⟩, fun q hq => rfl⟩, g3⟩, by simp⟩ (fun a e ha he => ?_)
    have s5 := s4 a e ha he
    have t5 := q_grid_o (N := 12) (K := 12) g1 g2 s5.1
    refine ⟨?_, by rw [q_up_n ha]; exact t5.1⟩
    rintro (h9 | h9 | h9 | h9 | ⟨i, hi, h9⟩)
    · exact ha h9
    · exact s5.2.1 h9
    · exact s5.2.2 h9
    · exact t5.2.1 h9
    · exact t5.2.2 i hi h9
  · exact h.elim)
