-- pair, copied of the register
def s_X10_pair : q_Sp := fun av σ post => match av with
  | [.ref r, .int a, .int b, .int k, .int v] => ∃ z g, RegOK σ r z g ∧ I1 z ∧ LM z g ∧ LV z g ∧ ∀ σ', RegOK σ' r z g → post (some (.int (F_pair z g a b k v))) σ'
  | _ => False
theorem w9_343 : (.code yX3_placeOf cX3_placeOf 12 (some .int) : Cond) ∈ lw_tbl := by decide +kernel
theorem w9_344 : (.methodLink RX10 205 yX3_placeOf : Cond) ∈ lw_tbl := by decide +kernel
theorem w9_345 : (.instanceMethod yX3_placeOf : Cond) ∈ lw_tbl := by decide +kernel
theorem w9_346 : (.selects RX3 yX3_placeOf yX3_placeOf : Cond) ∈ lw_tbl := by decide +kernel
def rm_X10_pair : Room := { frames := 5, cells := 0, slots := 0, locals := 124 }
def k_X10_pair_38 (post : Option Value → q_S → Prop) (K : Nat → q_K) : q_K := (c_push (-2) (c_iret post))
def k_X10_pair_70 (post : Option Value → q_S → Prop) (K : Nat → q_K) : q_K := (c_call6 (some 3) s_X3_placeOf 0 0 (c_iret post))
def k_X10_pair_0 (post : Option Value → q_S → Prop) (K : Nat → q_K) : q_K := (c_aload 0 (c_iload 1 (c_call2 (some 10) s_X10_workAt 0 0 (c_astore 5 (c_aload 0 (c_iload 2 (c_call2 (some 10) s_X10_workAt 0 0 (c_astore 6 (c_aload 5 (c_ifnull (k_X10_pair_38 post K) (c_aload 6 (c_ifnull (k_X10_pair_38 post K) (c_iload 3 (c_iflt (k_X10_pair_38 post K) (c_iload 4 (c_push 0 (c_push 1 (c_call3 none s_X10_isWithin 0 0 (c_ifne (c_aload 0 (c_get 10 9 (c_aload 5 (c_get 9 4 (c_aload 6 (c_get 9 4 (c_aload 0 (c_get 10 8 (c_iload 3 (c_iload 4 (c_ifne (c_push 0 (k_X10_pair_70 post K)) (c_push 1 (k_X10_pair_70 post K))))))))))))) (k_X10_pair_38 post K))))))))))))))))))))
set_option maxRecDepth 100000 in
theorem v_X10_pair_38 {p : Program} {l : Launch} {e : Env} {s : State} {m : MethodId} {args : Array Value} {below : List Frame} {meth : Method} {c : Code} {D : va_G} {A : Nat → Prop} {post : Option Value → q_S → Prop} {K : Nat → q_K} (C : q_C p s m args meth c cX10_pair 7 RX10 "pair" (some .int) A) (hK : ∀ h ∈ ([] : List Nat), q_V p l e rm_X10_pair s m args below meth c D A 7 (MQ below (q_Qc D A post) args s rm_X10_pair.cells rm_X10_pair.slots A) h (K h)) : q_V p l e rm_X10_pair s m args below meth c D A 7 (MQ below (q_Qc D A post) args s rm_X10_pair.cells rm_X10_pair.slots A) 38 (k_X10_pair_38 post K) := by
  unfold k_X10_pair_38
  refine q_bipush C (by decide +kernel : decode cX10_pair 38 = .ok (.bipush (-2), 2)) (by decide) ?_
  exact q_iret C rfl (by decide +kernel : decode cX10_pair 40 = .ok (.ireturn, 1))
set_option maxRecDepth 100000 in
theorem v_X10_pair_70 {p : Program} {l : Launch} {e : Env} {s : State} {m : MethodId} {args : Array Value} {below : List Frame} {meth : Method} {c : Code} {D : va_G} {A : Nat → Prop} {post : Option Value → q_S → Prop} {K : Nat → q_K} (C : q_C p s m args meth c cX10_pair 7 RX10 "pair" (some .int) A) (hK : ∀ h ∈ ([] : List Nat), q_V p l e rm_X10_pair s m args below meth c D A 7 (MQ below (q_Qc D A post) args s rm_X10_pair.cells rm_X10_pair.slots A) h (K h)) : q_V p l e rm_X10_pair s m args below meth c D A 7 (MQ below (q_Qc D A post) args s rm_X10_pair.cells rm_X10_pair.slots A) 70 (k_X10_pair_70 post K) := by
  unfold k_X10_pair_70
  refine q_call6 C (q_coV C (np := 5) (ci := 3) (rc := (RX3, TX3, 1)) (t_X3_placeOf l) w9_343 rfl rfl w9_344 w9_345 w9_346 w9_223 (by decide +kernel) (by decide +kernel : decode cX10_pair 70 = .ok (.invokevirtual 205, 3)) (by decide)) ?_
  exact q_iret C rfl (by decide +kernel : decode cX10_pair 73 = .ok (.ireturn, 1))
set_option maxRecDepth 100000 in
theorem v_X10_pair_0 {p : Program} {l : Launch} {e : Env} {s : State} {m : MethodId} {args : Array Value} {below : List Frame} {meth : Method} {c : Code} {D : va_G} {A : Nat → Prop} {post : Option Value → q_S → Prop} {K : Nat → q_K} (C : q_C p s m args meth c cX10_pair 7 RX10 "pair" (some .int) A) (hK : ∀ h ∈ ([] : List Nat), q_V p l e rm_X10_pair s m args below meth c D A 7 (MQ below (q_Qc D A post) args s rm_X10_pair.cells rm_X10_pair.slots A) h (K h)) : q_V p l e rm_X10_pair s m args below meth c D A 7 (MQ below (q_Qc D A post) args s rm_X10_pair.cells rm_X10_pair.slots A) 0 (k_X10_pair_0 post K) := by
  unfold k_X10_pair_0
  refine q_aload_n C (by decide +kernel : decode cX10_pair 0 = .ok (.aload_n 0, 1)) ?_
  refine q_iload_n C (by decide +kernel : decode cX10_pair 1 = .ok (.iload_n 1, 1)) ?_
  refine q_call2 C (q_coV C (np := 1) (ci := 10) (rc := (RX10, TX10, 10)) (t_X10_workAt l) w9_337 rfl rfl w9_338 w9_339 w9_340 w9_1 (by decide +kernel) (by decide +kernel : decode cX10_pair 2 = .ok (.invokevirtual 87, 3)) (by decide)) ?_
  refine q_astore C (by decide +kernel : decode cX10_pair 5 = .ok (.astore 5, 2)) ?_
  refine q_aload_n C (by decide +kernel : decode cX10_pair 7 = .ok (.aload_n 0, 1)) ?_
  refine q_iload_n C (by decide +kernel : decode cX10_pair 8 = .ok (.iload_n 2, 1)) ?_
  refine q_call2 C (q_coV C (np := 1) (ci := 10) (rc := (RX10, TX10, 10)) (t_X10_workAt l) w9_337 rfl rfl w9_338 w9_339 w9_340 w9_1 (by decide +kernel) (by decide +kernel : decode cX10_pair 9 = .ok (.invokevirtual 87, 3)) (by decide)) ?_
  refine q_astore C (by decide +kernel : decode cX10_pair 12 = .ok (.astore 6, 2)) ?_
  refine q_aload C (by decide +kernel : decode cX10_pair 14 = .ok (.aload 5, 2)) ?_
  refine q_ifnull C (tgt := 38) (by decide +kernel : decode cX10_pair 16 = .ok (.ifnull 22, 3)) (by decide) ?_ ?_
  · exact v_X10_pair_38 C hK
  · refine q_aload C (by decide +kernel : decode cX10_pair 19 = .ok (.aload 6, 2)) ?_
    refine q_ifnull C (tgt := 38) (by decide +kernel : decode cX10_pair 21 = .ok (.ifnull 17, 3)) (by decide) ?_ ?_
    · exact v_X10_pair_38 C hK
    · refine q_iload_n C (by decide +kernel : decode cX10_pair 24 = .ok (.iload_n 3, 1)) ?_
      refine q_iflt C (tgt := 38) (by decide +kernel : decode cX10_pair 25 = .ok (.ifCond .lt 13, 3)) (by decide) ?_ ?_
      · exact v_X10_pair_38 C hK
      · refine q_iload C (by decide +kernel : decode cX10_pair 28 = .ok (.iload 4, 2)) ?_
        refine q_iconst C (by decide +kernel : decode cX10_pair 30 = .ok (.iconst 0, 1)) (by decide) ?_
        refine q_iconst C (by decide +kernel : decode cX10_pair 31 = .ok (.iconst 1, 1)) (by decide) ?_
        refine q_call3 C (q_coS C (np := 3) (t_X10_isWithin l) w9_0 w9_3 w9_2 w9_1 (by decide +kernel) (by decide +kernel : decode cX10_pair 32 = .ok (.invokestatic 63, 3)) (by decide)) ?_
        refine q_ifne C (tgt := 41) (by decide +kernel : decode cX10_pair 35 = .ok (.ifCond .ne 6, 3)) (by decide) ?_ ?_
        · refine q_aload_n C (by decide +kernel : decode cX10_pair 41 = .ok (.aload_n 0, 1)) ?_
          refine q_get C (ci := 10) (j := 9) (C0 := RX10) (T := TX10) (N := 10) rfl iX10 giX10 (by decide) w9_341 (by decide +kernel : decode cX10_pair 42 = .ok (.getfield 59, 3)) ?_
          refine q_aload C (by decide +kernel : decode cX10_pair 45 = .ok (.aload 5, 2)) ?_
          refine q_getN C (ci := 9) (j := 4) (C0 := RX9) (T := TX9) (N := 5) rfl iX9 giX9 (by decide) (by decide +kernel) (by decide +kernel : decode cX10_pair 47 = .ok (.getfield 189, 3)) ?_
          refine q_aload C (by decide +kernel : decode cX10_pair 50 = .ok (.aload 6, 2)) ?_
          refine q_getN C (ci := 9) (j := 4) (C0 := RX9) (T := TX9) (N := 5) rfl iX9 giX9 (by decide) (by decide +kernel) (by decide +kernel : decode cX10_pair 52 = .ok (.getfield 189, 3)) ?_
          refine q_aload_n C (by decide +kernel : decode cX10_pair 55 = .ok (.aload_n 0, 1)) ?_
          refine q_get C (ci := 10) (j := 8) (C0 := RX10) (T := TX10) (N := 10) rfl iX10 giX10 (by decide) w9_323 (by decide +kernel : decode cX10_pair 56 = .ok (.getfield 52, 3)) ?_
          refine q_iload_n C (by decide +kernel : decode cX10_pair 59 = .ok (.iload_n 3, 1)) ?_
          refine q_iload C (by decide +kernel : decode cX10_pair 60 = .ok (.iload 4, 2)) ?_
          refine q_ifne C (tgt := 69) (by decide +kernel : decode cX10_pair 62 = .ok (.ifCond .ne 7, 3)) (by decide) ?_ ?_
          · refine q_iconst C (by decide +kernel : decode cX10_pair 69 = .ok (.iconst 0, 1)) (by decide) ?_
            exact v_X10_pair_70 C hK
          · refine q_iconst C (by decide +kernel : decode cX10_pair 65 = .ok (.iconst 1, 1)) (by decide) ?_
            refine q_goto C (tgt := 70) (by decide +kernel : decode cX10_pair 66 = .ok (.goto 4, 3)) (by decide) ?_
            exact v_X10_pair_70 C hK
        · exact v_X10_pair_38 C hK
theorem u_X10_pair (l : Launch) {sp : q_Sp} (H : ∀ (av : List Value) (σ : q_S) (post : Option Value → q_S → Prop), sp av σ post → k_X10_pair_0 post (fun _ _ _ _ _ _ => False) (q_L0 av 7) [] σ 0 0 ∧ av.length ≤ 7 ∧ ∀ v ∈ av, v.category = 1) : q_Ct l yX10_pair cX10_pair 7 (some .int) rm_X10_pair sp := by
  refine q_met (by decide) ?_
  intro D A p e s m args below meth c σ av post C hsp
  obtain ⟨h1, h2, h3⟩ := H av σ post hsp
  exact ⟨_, v_X10_pair_0 (K := fun _ _ _ _ _ _ => False) C (fun h hh => by cases hh), h1, h2, h3⟩
theorem t_X10_pair (l : Launch) : q_Ct l yX10_pair cX10_pair 7 (some .int) rm_X10_pair s_X10_pair := u_X10_pair l (by
  intro av σ post h
  unfold s_X10_pair at h
  split at h
  · next r a b k v =>
    refine ⟨?_, by simp, by simp [Value.category]⟩
    obtain ⟨z, g, hR, hI, hLM, hLV, h1⟩ := h
    have hR0 := hR
    obtain ⟨Rg, P, AC, AR, WK, LC, CL, CM, CP, pa, aa, wa, sa, ga, la, lra, lc, lrn, hD⟩ := hR
    have e1 := hD.p1.2
    have e4 := hD.p4.1.2
    have o1 : q_oc σ r = some 10 := by simp only [q_oc, e1]
    have hI2 := hI
    unfold I1 at hI
    unfold F_pair at h1
    by_cases c : isW z a ∧ isW z b ∧ 0 ≤ k ∧ 0 ≤ v ∧ v ≤ 1
    · rw [if_pos c] at h1
      obtain ⟨fa, hA, hfa⟩ := hD.lnF hI2 hLM c.1
      obtain ⟨fb, hB, hfb⟩ := hD.lnF hI2 hLM c.2.1
      obtain ⟨cc, hC, hcc⟩ := hD.cmF
      obtain ⟨T, hG⟩ := hD.p7
      have hla := ltN c.1.1 c.1.2
      have hlb := ltN c.2.1.1 c.2.1.2
      have w1 := (hD.p4.2 _ hla).2
      have w2 := (hD.p4.2 _ hlb).2
      have g1 : q_fld σ (wa a.toNatClampNeg) 9 4 = some (.ref (la a.toNatClampNeg)) := by simp only [q_fld, w1, if_true]; rfl
      have g2 : q_fld σ (wa b.toNatClampNeg) 9 4 = some (.ref (la b.toNatClampNeg)) := by simp only [q_fld, w2, if_true]; rfl
      have f8 : q_fld σ r 10 8 = some (.ref CL) := by simp only [q_fld, e1, if_true]; rfl
      have f9 : q_fld σ r 10 9 = some (.ref CP) := by simp only [q_fld, e1, if_true]; rfl
      have o7 : q_oc σ CP = some 3 := by obtain ⟨_, _, h1, -⟩ := hG; simp only [q_oc, h1.2]
      have hV := fun i h => hLV a.toNatClampNeg i (by rw [nI_self c.1.1]; exact c.1.2) (by have := hI2.n20; unfold nwF at this; omega) h
      have hlk := lk_eq (z := z) hfa hfb hcc hV
      have hk := c.2.2.1
      have hk2 : ¬ k < 0 := by grind
      have ek := nI_self hk
      have hkb : k.toNatClampNeg < 2147483648 := by
        obtain ⟨j, hj, e⟩ := nI_of (x := k) hk2
        rw [e, nI_clamp hj]; exact hj
      have J : ∀ fl : Int32, (fl = 0 ∨ fl = 1) → v = 1 - fl → s_X3_placeOf [.ref CP, .ref (la a.toNatClampNeg), .ref (la b.toNatClampNeg), .ref CL, .int k, .int fl] σ (fun r9 σ9 => c_iret post [] (r9.toList ++ []) σ9 0 0) := fun fl hfl hv => by
        refine ⟨_, T, _, fa, _, _, fb, _, _, _, cc, k.toNatClampNeg, hG, hA, hB, hC, ek.symm, hkb, hfl, fun σ' T' hG' hf => ?_⟩
        rw [PW_cong hlk _ 0 0 _ _ (Nat.le_refl _), RN_cong hlk _ 0 0 (Nat.le_refl _), ← hv]
        exact h1 _ (hD.put7 hG' hf)
      have hv01 : v = 0 ∨ v = 1 := by grind
      simp only [c_push, c_null, c_iload, c_aload, c_istore, c_astore, c_iinc, c_iadd, c_isub, c_imul, c_iand, c_ineg, c_dup, c_dup2, c_pop, c_ifnull, c_ifnonnull, c_get, c_put, c_iald, c_zald, c_iast, c_zast, c_aald, c_aast, c_alen, c_new, c_newa, c_newq, c_mna, c_oinit, c_max, c_copy, c_iret, c_zret, c_aret, c_vret, q_do, q_rc, c_ifeq, c_ifne, c_iflt, c_ifge, c_ifgt, c_ifle, c_iceq, c_icne, c_iclt, c_icge, c_icgt, c_icle, c_call0, c_call1, c_call2, c_call3, c_call4, c_call5, c_call6, c_call7, q_L0, List.map_cons, List.map_nil, List.replicate, List.cons_append, List.nil_append, List.append_nil, List.length_cons, List.length_nil, List.length_set, Nat.reduceSub, Nat.reduceAdd, Nat.reduceLT, Nat.reduceLeDiff, Nat.zero_add, Nat.add_zero, Nat.sub_zero, Nat.sub_self, List.getElem?_cons_zero, List.getElem?_cons_succ, List.set_cons_zero, List.set_cons_succ, Option.toList_some, Option.toList_none, List.sum_cons, List.sum_nil, true_and, and_true, true_or, or_true, Nat.le_refl, Nat.zero_le, Value.category, Fin.isValue, Fin.val_zero, Fin.val_one, Fin.val_two, Fin.reduceFinMk, q_10, q_01, not_false_eq_true, not_true_eq_false, forall_const, true_implies, false_implies, implies_true, q_ni, q_fi, q_nb0, q_nb1, q_fb0, q_fb1, q_nor, q_nar, q_for, q_far, q_non, q_nan, q_fon, q_fan, imp_false, false_and, and_false, and_self, false_or, or_false, va_rf, refKind] at J
      simp only [c_push, c_null, c_iload, c_aload, c_istore, c_astore, c_iinc, c_iadd, c_isub, c_imul, c_iand, c_ineg, c_dup, c_dup2, c_pop, c_ifnull, c_ifnonnull, c_get, c_put, c_iald, c_zald, c_iast, c_zast, c_aald, c_aast, c_alen, c_new, c_newa, c_newq, c_mna, c_oinit, c_max, c_copy, c_iret, c_zret, c_aret, c_vret, q_do, q_rc, c_ifeq, c_ifne, c_iflt, c_ifge, c_ifgt, c_ifle, c_iceq, c_icne, c_iclt, c_icge, c_icgt, c_icle, c_call0, c_call1, c_call2, c_call3, c_call4, c_call5, c_call6, c_call7, q_L0, List.map_cons, List.map_nil, List.replicate, List.cons_append, List.nil_append, List.append_nil, List.length_cons, List.length_nil, List.length_set, Nat.reduceSub, Nat.reduceAdd, Nat.reduceLT, Nat.reduceLeDiff, Nat.zero_add, Nat.add_zero, Nat.sub_zero, Nat.sub_self, List.getElem?_cons_zero, List.getElem?_cons_succ, List.set_cons_zero, List.set_cons_succ, Option.toList_some, Option.toList_none, List.sum_cons, List.sum_nil, true_and, and_true, true_or, or_true, Nat.le_refl, Nat.zero_le, Value.category, Fin.isValue, Fin.val_zero, Fin.val_one, Fin.val_two, Fin.reduceFinMk, q_10, q_01, not_false_eq_true, not_true_eq_false, forall_const, true_implies, false_implies, implies_true, q_ni, q_fi, q_nb0, q_nb1, q_fb0, q_fb1, q_nor, q_nar, q_for, q_far, q_non, q_nan, q_fon, q_fan, imp_false, false_and, and_false, and_self, false_or, or_false, va_rf, refKind, k_X10_pair_0, k_X10_pair_38, k_X10_pair_70, o1, wAt e1 e4 hI.2.2.2.1, c.1, c.2.1, g1, g2, f8, f9, o7, s_X10_isWithin, hk2, c.2.2.2]
      rcases hv01 with rfl | rfl
      · have j := J 1 (Or.inr rfl) (by decide)
        first | exact j | exact ⟨fun c9 => absurd rfl c9, fun _ => j⟩ | (simp; exact j)
      · have j := J 0 (Or.inl rfl) (by decide)
        first | exact j | exact ⟨fun _ => j, fun c9 => absurd c9 (by decide)⟩ | (simp; exact j)
    · rw [if_neg c] at h1
      have h2 := h1 _ hR0
      clear h1
      by_cases ca : 0 ≤ a ∧ a < z 11
      · by_cases cb : 0 ≤ b ∧ b < z 11
        · by_cases ck : k < 0
          · simp only [c_push, c_null, c_iload, c_aload, c_istore, c_astore, c_iinc, c_iadd, c_isub, c_imul, c_iand, c_ineg, c_dup, c_dup2, c_pop, c_ifnull, c_ifnonnull, c_get, c_put, c_iald, c_zald, c_iast, c_zast, c_aald, c_aast, c_alen, c_new, c_newa, c_newq, c_mna, c_oinit, c_max, c_copy, c_iret, c_zret, c_aret, c_vret, q_do, q_rc, c_ifeq, c_ifne, c_iflt, c_ifge, c_ifgt, c_ifle, c_iceq, c_icne, c_iclt, c_icge, c_icgt, c_icle, c_call0, c_call1, c_call2, c_call3, c_call4, c_call5, c_call6, c_call7, q_L0, List.map_cons, List.map_nil, List.replicate, List.cons_append, List.nil_append, List.append_nil, List.length_cons, List.length_nil, List.length_set, Nat.reduceSub, Nat.reduceAdd, Nat.reduceLT, Nat.reduceLeDiff, Nat.zero_add, Nat.add_zero, Nat.sub_zero, Nat.sub_self, List.getElem?_cons_zero, List.getElem?_cons_succ, List.set_cons_zero, List.set_cons_succ, Option.toList_some, Option.toList_none, List.sum_cons, List.sum_nil, true_and, and_true, true_or, or_true, Nat.le_refl, Nat.zero_le, Value.category, Fin.isValue, Fin.val_zero, Fin.val_one, Fin.val_two, Fin.reduceFinMk, q_10, q_01, not_false_eq_true, not_true_eq_false, forall_const, true_implies, false_implies, implies_true, q_ni, q_fi, q_nb0, q_nb1, q_fb0, q_fb1, q_nor, q_nar, q_for, q_far, q_non, q_nan, q_fon, q_fan, imp_false, false_and, and_false, and_self, false_or, or_false, va_rf, refKind, k_X10_pair_0, k_X10_pair_38, k_X10_pair_70, o1, wAt e1 e4 hI.2.2.2.1, s_X10_isWithin, h2, ca, cb, ck]
          · have cv : ¬ (0 ≤ v ∧ v ≤ 1) := fun h => c ⟨ca, cb, by grind, h.1, h.2⟩
            simp only [c_push, c_null, c_iload, c_aload, c_istore, c_astore, c_iinc, c_iadd, c_isub, c_imul, c_iand, c_ineg, c_dup, c_dup2, c_pop, c_ifnull, c_ifnonnull, c_get, c_put, c_iald, c_zald, c_iast, c_zast, c_aald, c_aast, c_alen, c_new, c_newa, c_newq, c_mna, c_oinit, c_max, c_copy, c_iret, c_zret, c_aret, c_vret, q_do, q_rc, c_ifeq, c_ifne, c_iflt, c_ifge, c_ifgt, c_ifle, c_iceq, c_icne, c_iclt, c_icge, c_icgt, c_icle, c_call0, c_call1, c_call2, c_call3, c_call4, c_call5, c_call6, c_call7, q_L0, List.map_cons, List.map_nil, List.replicate, List.cons_append, List.nil_append, List.append_nil, List.length_cons, List.length_nil, List.length_set, Nat.reduceSub, Nat.reduceAdd, Nat.reduceLT, Nat.reduceLeDiff, Nat.zero_add, Nat.add_zero, Nat.sub_zero, Nat.sub_self, List.getElem?_cons_zero, List.getElem?_cons_succ, List.set_cons_zero, List.set_cons_succ, Option.toList_some, Option.toList_none, List.sum_cons, List.sum_nil, true_and, and_true, true_or, or_true, Nat.le_refl, Nat.zero_le, Value.category, Fin.isValue, Fin.val_zero, Fin.val_one, Fin.val_two, Fin.reduceFinMk, q_10, q_01, not_false_eq_true, not_true_eq_false, forall_const, true_implies, false_implies, implies_true, q_ni, q_fi, q_nb0, q_nb1, q_fb0, q_fb1, q_nor, q_nar, q_for, q_far, q_non, q_nan, q_fon, q_fan, imp_false, false_and, and_false, and_self, false_or, or_false, va_rf, refKind, k_X10_pair_0, k_X10_pair_38, k_X10_pair_70, o1, wAt e1 e4 hI.2.2.2.1, s_X10_isWithin, h2, ca, cb, ck, cv]
        · simp only [c_push, c_null, c_iload, c_aload, c_istore, c_astore, c_iinc, c_iadd, c_isub, c_imul, c_iand, c_ineg, c_dup, c_dup2, c_pop, c_ifnull, c_ifnonnull, c_get, c_put, c_iald, c_zald, c_iast, c_zast, c_aald, c_aast, c_alen, c_new, c_newa, c_newq, c_mna, c_oinit, c_max, c_copy, c_iret, c_zret, c_aret, c_vret, q_do, q_rc, c_ifeq, c_ifne, c_iflt, c_ifge, c_ifgt, c_ifle, c_iceq, c_icne, c_iclt, c_icge, c_icgt, c_icle, c_call0, c_call1, c_call2, c_call3, c_call4, c_call5, c_call6, c_call7, q_L0, List.map_cons, List.map_nil, List.replicate, List.cons_append, List.nil_append, List.append_nil, List.length_cons, List.length_nil, List.length_set, Nat.reduceSub, Nat.reduceAdd, Nat.reduceLT, Nat.reduceLeDiff, Nat.zero_add, Nat.add_zero, Nat.sub_zero, Nat.sub_self, List.getElem?_cons_zero, List.getElem?_cons_succ, List.set_cons_zero, List.set_cons_succ, Option.toList_some, Option.toList_none, List.sum_cons, List.sum_nil, true_and, and_true, true_or, or_true, Nat.le_refl, Nat.zero_le, Value.category, Fin.isValue, Fin.val_zero, Fin.val_one, Fin.val_two, Fin.reduceFinMk, q_10, q_01, not_false_eq_true, not_true_eq_false, forall_const, true_implies, false_implies, implies_true, q_ni, q_fi, q_nb0, q_nb1, q_fb0, q_fb1, q_nor, q_nar, q_for, q_far, q_non, q_nan, q_fon, q_fan, imp_false, false_and, and_false, and_self, false_or, or_false, va_rf, refKind, k_X10_pair_0, k_X10_pair_38, k_X10_pair_70, o1, wAt e1 e4 hI.2.2.2.1, s_X10_isWithin, h2, ca, cb]
      · by_cases cb : 0 ≤ b ∧ b < z 11
        · simp only [c_push, c_null, c_iload, c_aload, c_istore, c_astore, c_iinc, c_iadd, c_isub, c_imul, c_iand, c_ineg, c_dup, c_dup2, c_pop, c_ifnull, c_ifnonnull, c_get, c_put, c_iald, c_zald, c_iast, c_zast, c_aald, c_aast, c_alen, c_new, c_newa, c_newq, c_mna, c_oinit, c_max, c_copy, c_iret, c_zret, c_aret, c_vret, q_do, q_rc, c_ifeq, c_ifne, c_iflt, c_ifge, c_ifgt, c_ifle, c_iceq, c_icne, c_iclt, c_icge, c_icgt, c_icle, c_call0, c_call1, c_call2, c_call3, c_call4, c_call5, c_call6, c_call7, q_L0, List.map_cons, List.map_nil, List.replicate, List.cons_append, List.nil_append, List.append_nil, List.length_cons, List.length_nil, List.length_set, Nat.reduceSub, Nat.reduceAdd, Nat.reduceLT, Nat.reduceLeDiff, Nat.zero_add, Nat.add_zero, Nat.sub_zero, Nat.sub_self, List.getElem?_cons_zero, List.getElem?_cons_succ, List.set_cons_zero, List.set_cons_succ, Option.toList_some, Option.toList_none, List.sum_cons, List.sum_nil, true_and, and_true, true_or, or_true, Nat.le_refl, Nat.zero_le, Value.category, Fin.isValue, Fin.val_zero, Fin.val_one, Fin.val_two, Fin.reduceFinMk, q_10, q_01, not_false_eq_true, not_true_eq_false, forall_const, true_implies, false_implies, implies_true, q_ni, q_fi, q_nb0, q_nb1, q_fb0, q_fb1, q_nor, q_nar, q_for, q_far, q_non, q_nan, q_fon, q_fan, imp_false, false_and, and_false, and_self, false_or, or_false, va_rf, refKind, k_X10_pair_0, k_X10_pair_38, k_X10_pair_70, o1, wAt e1 e4 hI.2.2.2.1, s_X10_isWithin, h2, ca, cb]
        · simp only [c_push, c_null, c_iload, c_aload, c_istore, c_astore, c_iinc, c_iadd, c_isub, c_imul, c_iand, c_ineg, c_dup, c_dup2, c_pop, c_ifnull, c_ifnonnull, c_get, c_put, c_iald, c_zald, c_iast, c_zast, c_aald, c_aast, c_alen, c_new, c_newa, c_newq, c_mna, c_oinit, c_max, c_copy, c_iret, c_zret, c_aret, c_vret, q_do, q_rc, c_ifeq, c_ifne, c_iflt, c_ifge, c_ifgt, c_ifle, c_iceq, c_icne, c_iclt, c_icge, c_icgt, c_icle, c_call0, c_call1, c_call2, c_call3, c_call4, c_call5, c_call6, c_call7, q_L0, List.map_cons, List.map_nil, List.replicate, List.cons_append, List.nil_append, List.append_nil, List.length_cons, List.length_nil, List.length_set, Nat.reduceSub, Nat.reduceAdd, Nat.reduceLT, Nat.reduceLeDiff, Nat.zero_add, Nat.add_zero, Nat.sub_zero, Nat.sub_self, List.getElem?_cons_zero, List.getElem?_cons_succ, List.set_cons_zero, List.set_cons_succ, Option.toList_some, Option.toList_none, List.sum_cons, List.sum_nil, true_and, and_true, true_or, or_true, Nat.le_refl, Nat.zero_le, Value.category, Fin.isValue, Fin.val_zero, Fin.val_one, Fin.val_two, Fin.reduceFinMk, q_10, q_01, not_false_eq_true, not_true_eq_false, forall_const, true_implies, false_implies, implies_true, q_ni, q_fi, q_nb0, q_nb1, q_fb0, q_fb1, q_nor, q_nar, q_for, q_far, q_non, q_nan, q_fon, q_fan, imp_false, false_and, and_false, and_self, false_or, or_false, va_rf, refKind, k_X10_pair_0, k_X10_pair_38, k_X10_pair_70, o1, wAt e1 e4 hI.2.2.2.1, s_X10_isWithin, h2, ca, cb]
  · exact h.elim)
def s_X10_copied : q_Sp := fun av σ post => match av with
  | [.ref r, .int a, .int b, .int p] => ∃ z g, RegOK σ r z g ∧ I1 z ∧ LM z g ∧ LV z g ∧ ∀ σ', RegOK σ' r z g → post (some (.int (F_copied z g a b p))) σ'
  | _ => False
theorem w9_347 : (.code yX5_sizeWithout cX5_sizeWithout 4 (some .int) : Cond) ∈ lw_tbl := by decide +kernel
theorem w9_348 : (.methodLink RX10 209 yX5_sizeWithout : Cond) ∈ lw_tbl := by decide +kernel
theorem w9_349 : (.instanceMethod yX5_sizeWithout : Cond) ∈ lw_tbl := by decide +kernel
theorem w9_350 : (.selects RX5 yX5_sizeWithout yX5_sizeWithout : Cond) ∈ lw_tbl := by decide +kernel
theorem w9_351 : (.methodLink RX10 139 yX10_oneIf : Cond) ∈ lw_tbl := by decide +kernel
def rm_X10_copied : Room := { frames := 4, cells := 0, slots := 0, locals := 93 }
def k_X10_copied_34 (post : Option Value → q_S → Prop) (K : Nat → q_K) : q_K := (c_push (-2) (c_iret post))
def k_X10_copied_96 (post : Option Value → q_S → Prop) (K : Nat → q_K) : q_K := (c_call1 none s_X10_oneIf 0 0 (c_iret post))
def k_X10_copied_95 (post : Option Value → q_S → Prop) (K : Nat → q_K) : q_K := (c_push 0 (k_X10_copied_96 post K))
def k_X10_copied_0 (post : Option Value → q_S → Prop) (K : Nat → q_K) : q_K := (c_aload 0 (c_iload 1 (c_call2 (some 10) s_X10_workAt 0 0 (c_astore 4 (c_aload 0 (c_iload 2 (c_call2 (some 10) s_X10_workAt 0 0 (c_astore 5 (c_aload 4 (c_ifnull (k_X10_copied_34 post K) (c_aload 5 (c_ifnull (k_X10_copied_34 post K) (c_iload 3 (c_push 1 (c_push 100 (c_call3 none s_X10_isWithin 0 0 (c_ifne (c_aload 0 (c_get 10 9 (c_aload 4 (c_get 9 4 (c_aload 5 (c_get 9 4 (c_aload 0 (c_get 10 8 (c_call4 (some 3) s_X3_measure 0 0 (c_istore 6 (c_aload 4 (c_get 9 4 (c_aload 0 (c_get 10 8 (c_call2 (some 5) s_X5_sizeWithout 0 0 (c_istore 7 (c_iload 6 (c_ifle (k_X10_copied_95 post K) (c_push 100 (c_iload 6 (c_imul (c_iload 3 (c_iload 7 (c_imul (c_iclt (k_X10_copied_95 post K) (c_push 1 (k_X10_copied_96 post K))))))))))))))))))))))))))) (k_X10_copied_34 post K))))))))))))))))))
set_option maxRecDepth 100000 in
theorem v_X10_copied_34 {p : Program} {l : Launch} {e : Env} {s : State} {m : MethodId} {args : Array Value} {below : List Frame} {meth : Method} {c : Code} {D : va_G} {A : Nat → Prop} {post : Option Value → q_S → Prop} {K : Nat → q_K} (C : q_C p s m args meth c cX10_copied 8 RX10 "copied" (some .int) A) (hK : ∀ h ∈ ([] : List Nat), q_V p l e rm_X10_copied s m args below meth c D A 8 (MQ below (q_Qc D A post) args s rm_X10_copied.cells rm_X10_copied.slots A) h (K h)) : q_V p l e rm_X10_copied s m args below meth c D A 8 (MQ below (q_Qc D A post) args s rm_X10_copied.cells rm_X10_copied.slots A) 34 (k_X10_copied_34 post K) := by
  unfold k_X10_copied_34
  refine q_bipush C (by decide +kernel : decode cX10_copied 34 = .ok (.bipush (-2), 2)) (by decide) ?_
  exact q_iret C rfl (by decide +kernel : decode cX10_copied 36 = .ok (.ireturn, 1))
set_option maxRecDepth 100000 in
theorem v_X10_copied_96 {p : Program} {l : Launch} {e : Env} {s : State} {m : MethodId} {args : Array Value} {below : List Frame} {meth : Method} {c : Code} {D : va_G} {A : Nat → Prop} {post : Option Value → q_S → Prop} {K : Nat → q_K} (C : q_C p s m args meth c cX10_copied 8 RX10 "copied" (some .int) A) (hK : ∀ h ∈ ([] : List Nat), q_V p l e rm_X10_copied s m args below meth c D A 8 (MQ below (q_Qc D A post) args s rm_X10_copied.cells rm_X10_copied.slots A) h (K h)) : q_V p l e rm_X10_copied s m args below meth c D A 8 (MQ below (q_Qc D A post) args s rm_X10_copied.cells rm_X10_copied.slots A) 96 (k_X10_copied_96 post K) := by
  unfold k_X10_copied_96
  refine q_call1 C (q_coS C (np := 1) (t_X10_oneIf l) w9_158 w9_351 w9_159 w9_1 (by decide +kernel) (by decide +kernel : decode cX10_copied 96 = .ok (.invokestatic 139, 3)) (by decide)) ?_
  exact q_iret C rfl (by decide +kernel : decode cX10_copied 99 = .ok (.ireturn, 1))
set_option maxRecDepth 100000 in
theorem v_X10_copied_95 {p : Program} {l : Launch} {e : Env} {s : State} {m : MethodId} {args : Array Value} {below : List Frame} {meth : Method} {c : Code} {D : va_G} {A : Nat → Prop} {post : Option Value → q_S → Prop} {K : Nat → q_K} (C : q_C p s m args meth c cX10_copied 8 RX10 "copied" (some .int) A) (hK : ∀ h ∈ ([] : List Nat), q_V p l e rm_X10_copied s m args below meth c D A 8 (MQ below (q_Qc D A post) args s rm_X10_copied.cells rm_X10_copied.slots A) h (K h)) : q_V p l e rm_X10_copied s m args below meth c D A 8 (MQ below (q_Qc D A post) args s rm_X10_copied.cells rm_X10_copied.slots A) 95 (k_X10_copied_95 post K) := by
  unfold k_X10_copied_95
  refine q_iconst C (by decide +kernel : decode cX10_copied 95 = .ok (.iconst 0, 1)) (by decide) ?_
  exact v_X10_copied_96 C hK
set_option maxRecDepth 100000 in
theorem v_X10_copied_0 {p : Program} {l : Launch} {e : Env} {s : State} {m : MethodId} {args : Array Value} {below : List Frame} {meth : Method} {c : Code} {D : va_G} {A : Nat → Prop} {post : Option Value → q_S → Prop} {K : Nat → q_K} (C : q_C p s m args meth c cX10_copied 8 RX10 "copied" (some .int) A) (hK : ∀ h ∈ ([] : List Nat), q_V p l e rm_X10_copied s m args below meth c D A 8 (MQ below (q_Qc D A post) args s rm_X10_copied.cells rm_X10_copied.slots A) h (K h)) : q_V p l e rm_X10_copied s m args below meth c D A 8 (MQ below (q_Qc D A post) args s rm_X10_copied.cells rm_X10_copied.slots A) 0 (k_X10_copied_0 post K) := by
  unfold k_X10_copied_0
  refine q_aload_n C (by decide +kernel : decode cX10_copied 0 = .ok (.aload_n 0, 1)) ?_
  refine q_iload_n C (by decide +kernel : decode cX10_copied 1 = .ok (.iload_n 1, 1)) ?_
  refine q_call2 C (q_coV C (np := 1) (ci := 10) (rc := (RX10, TX10, 10)) (t_X10_workAt l) w9_337 rfl rfl w9_338 w9_339 w9_340 w9_1 (by decide +kernel) (by decide +kernel : decode cX10_copied 2 = .ok (.invokevirtual 87, 3)) (by decide)) ?_
  refine q_astore C (by decide +kernel : decode cX10_copied 5 = .ok (.astore 4, 2)) ?_
  refine q_aload_n C (by decide +kernel : decode cX10_copied 7 = .ok (.aload_n 0, 1)) ?_
  refine q_iload_n C (by decide +kernel : decode cX10_copied 8 = .ok (.iload_n 2, 1)) ?_
  refine q_call2 C (q_coV C (np := 1) (ci := 10) (rc := (RX10, TX10, 10)) (t_X10_workAt l) w9_337 rfl rfl w9_338 w9_339 w9_340 w9_1 (by decide +kernel) (by decide +kernel : decode cX10_copied 9 = .ok (.invokevirtual 87, 3)) (by decide)) ?_
  refine q_astore C (by decide +kernel : decode cX10_copied 12 = .ok (.astore 5, 2)) ?_
  refine q_aload C (by decide +kernel : decode cX10_copied 14 = .ok (.aload 4, 2)) ?_
  refine q_ifnull C (tgt := 34) (by decide +kernel : decode cX10_copied 16 = .ok (.ifnull 18, 3)) (by decide) ?_ ?_
  · exact v_X10_copied_34 C hK
  · refine q_aload C (by decide +kernel : decode cX10_copied 19 = .ok (.aload 5, 2)) ?_
    refine q_ifnull C (tgt := 34) (by decide +kernel : decode cX10_copied 21 = .ok (.ifnull 13, 3)) (by decide) ?_ ?_
    · exact v_X10_copied_34 C hK
    · refine q_iload_n C (by decide +kernel : decode cX10_copied 24 = .ok (.iload_n 3, 1)) ?_
      refine q_iconst C (by decide +kernel : decode cX10_copied 25 = .ok (.iconst 1, 1)) (by decide) ?_
      refine q_bipush C (by decide +kernel : decode cX10_copied 26 = .ok (.bipush 100, 2)) (by decide) ?_
      refine q_call3 C (q_coS C (np := 3) (t_X10_isWithin l) w9_0 w9_3 w9_2 w9_1 (by decide +kernel) (by decide +kernel : decode cX10_copied 28 = .ok (.invokestatic 63, 3)) (by decide)) ?_
      refine q_ifne C (tgt := 37) (by decide +kernel : decode cX10_copied 31 = .ok (.ifCond .ne 6, 3)) (by decide) ?_ ?_
      · refine q_aload_n C (by decide +kernel : decode cX10_copied 37 = .ok (.aload_n 0, 1)) ?_
        refine q_get C (ci := 10) (j := 9) (C0 := RX10) (T := TX10) (N := 10) rfl iX10 giX10 (by decide) w9_341 (by decide +kernel : decode cX10_copied 38 = .ok (.getfield 59, 3)) ?_
        refine q_aload C (by decide +kernel : decode cX10_copied 41 = .ok (.aload 4, 2)) ?_
        refine q_getN C (ci := 9) (j := 4) (C0 := RX9) (T := TX9) (N := 5) rfl iX9 giX9 (by decide) (by decide +kernel) (by decide +kernel : decode cX10_copied 43 = .ok (.getfield 189, 3)) ?_
        refine q_aload C (by decide +kernel : decode cX10_copied 46 = .ok (.aload 5, 2)) ?_
        refine q_getN C (ci := 9) (j := 4) (C0 := RX9) (T := TX9) (N := 5) rfl iX9 giX9 (by decide) (by decide +kernel) (by decide +kernel : decode cX10_copied 48 = .ok (.getfield 189, 3)) ?_
        refine q_aload_n C (by decide +kernel : decode cX10_copied 51 = .ok (.aload_n 0, 1)) ?_
        refine q_get C (ci := 10) (j := 8) (C0 := RX10) (T := TX10) (N := 10) rfl iX10 giX10 (by decide) w9_323 (by decide +kernel : decode cX10_copied 52 = .ok (.getfield 52, 3)) ?_
        refine q_call4 C (q_coV C (np := 3) (ci := 3) (rc := (RX3, TX3, 1)) (t_X3_measure l) w9_242 rfl rfl w9_342 w9_244 w9_245 w9_223 (by decide +kernel) (by decide +kernel : decode cX10_copied 55 = .ok (.invokevirtual 201, 3)) (by decide)) ?_
        refine q_istore C (by decide +kernel : decode cX10_copied 58 = .ok (.istore 6, 2)) ?_
        refine q_aload C (by decide +kernel : decode cX10_copied 60 = .ok (.aload 4, 2)) ?_
        refine q_getN C (ci := 9) (j := 4) (C0 := RX9) (T := TX9) (N := 5) rfl iX9 giX9 (by decide) (by decide +kernel) (by decide +kernel : decode cX10_copied 62 = .ok (.getfield 189, 3)) ?_
        refine q_aload_n C (by decide +kernel : decode cX10_copied 65 = .ok (.aload_n 0, 1)) ?_
        refine q_get C (ci := 10) (j := 8) (C0 := RX10) (T := TX10) (N := 10) rfl iX10 giX10 (by decide) w9_323 (by decide +kernel : decode cX10_copied 66 = .ok (.getfield 52, 3)) ?_
        refine q_call2 C (q_coV C (np := 1) (ci := 5) (rc := (RX5, TX5, 2)) (t_X5_sizeWithout l) w9_347 rfl rfl w9_348 w9_349 w9_350 w9_151 (by decide +kernel) (by decide +kernel : decode cX10_copied 69 = .ok (.invokevirtual 209, 3)) (by decide)) ?_
        refine q_istore C (by decide +kernel : decode cX10_copied 72 = .ok (.istore 7, 2)) ?_
        refine q_iload C (by decide +kernel : decode cX10_copied 74 = .ok (.iload 6, 2)) ?_
        refine q_ifle C (tgt := 95) (by decide +kernel : decode cX10_copied 76 = .ok (.ifCond .le 19, 3)) (by decide) ?_ ?_
        · exact v_X10_copied_95 C hK
        · refine q_bipush C (by decide +kernel : decode cX10_copied 79 = .ok (.bipush 100, 2)) (by decide) ?_
          refine q_iload C (by decide +kernel : decode cX10_copied 81 = .ok (.iload 6, 2)) ?_
          refine q_imul C (by decide +kernel : decode cX10_copied 83 = .ok (.imul, 1)) ?_
          refine q_iload_n C (by decide +kernel : decode cX10_copied 84 = .ok (.iload_n 3, 1)) ?_
          refine q_iload C (by decide +kernel : decode cX10_copied 85 = .ok (.iload 7, 2)) ?_
          refine q_imul C (by decide +kernel : decode cX10_copied 87 = .ok (.imul, 1)) ?_
          refine q_iclt C (tgt := 95) (by decide +kernel : decode cX10_copied 88 = .ok (.if_icmp .lt 7, 3)) (by decide) ?_ ?_
          · exact v_X10_copied_95 C hK
          · refine q_iconst C (by decide +kernel : decode cX10_copied 91 = .ok (.iconst 1, 1)) (by decide) ?_
            refine q_goto C (tgt := 96) (by decide +kernel : decode cX10_copied 92 = .ok (.goto 4, 3)) (by decide) ?_
            exact v_X10_copied_96 C hK
      · exact v_X10_copied_34 C hK
theorem u_X10_copied (l : Launch) {sp : q_Sp} (H : ∀ (av : List Value) (σ : q_S) (post : Option Value → q_S → Prop), sp av σ post → k_X10_copied_0 post (fun _ _ _ _ _ _ => False) (q_L0 av 8) [] σ 0 0 ∧ av.length ≤ 8 ∧ ∀ v ∈ av, v.category = 1) : q_Ct l yX10_copied cX10_copied 8 (some .int) rm_X10_copied sp := by
  refine q_met (by decide) ?_
  intro D A p e s m args below meth c σ av post C hsp
  obtain ⟨h1, h2, h3⟩ := H av σ post hsp
  exact ⟨_, v_X10_copied_0 (K := fun _ _ _ _ _ _ => False) C (fun h hh => by cases hh), h1, h2, h3⟩
theorem t_X10_copied (l : Launch) : q_Ct l yX10_copied cX10_copied 8 (some .int) rm_X10_copied s_X10_copied := u_X10_copied l (by
  intro av σ post h
  unfold s_X10_copied at h
  split at h
  · next r a b p =>
    refine ⟨?_, by simp, by simp [Value.category]⟩
    obtain ⟨z, g, hR, hI, hLM, hLV, h1⟩ := h
    have hR0 := hR
    obtain ⟨Rg, P, AC, AR, WK, LC, CL, CM, CP, pa, aa, wa, sa, ga, la, lra, lc, lrn, hD⟩ := hR
    have e1 := hD.p1.2
    have e4 := hD.p4.1.2
    have o1 : q_oc σ r = some 10 := by simp only [q_oc, e1]
    have hI2 := hI
    unfold I1 at hI
    unfold F_copied at h1
    by_cases c : isW z a ∧ isW z b ∧ 1 ≤ p ∧ p ≤ 100
    · rw [if_pos c] at h1
      obtain ⟨fa, hA, hfa⟩ := hD.lnF hI2 hLM c.1
      obtain ⟨fb, hB, hfb⟩ := hD.lnF hI2 hLM c.2.1
      obtain ⟨cc, hC, hcc⟩ := hD.cmF
      obtain ⟨T, hG⟩ := hD.p7
      have hla := ltN c.1.1 c.1.2
      have hlb := ltN c.2.1.1 c.2.1.2
      have w1 := (hD.p4.2 _ hla).2
      have w2 := (hD.p4.2 _ hlb).2
      have g1 : q_fld σ (wa a.toNatClampNeg) 9 4 = some (.ref (la a.toNatClampNeg)) := by simp only [q_fld, w1, if_true]; rfl
      have g2 : q_fld σ (wa b.toNatClampNeg) 9 4 = some (.ref (la b.toNatClampNeg)) := by simp only [q_fld, w2, if_true]; rfl
      have f8 : q_fld σ r 10 8 = some (.ref CL) := by simp only [q_fld, e1, if_true]; rfl
      have f9 : q_fld σ r 10 9 = some (.ref CP) := by simp only [q_fld, e1, if_true]; rfl
      have o7 : q_oc σ CP = some 3 := by obtain ⟨_, _, h1, -⟩ := hG; simp only [q_oc, h1.2]
      have hV := fun i h => hLV a.toNatClampNeg i (by rw [nI_self c.1.1]; exact c.1.2) (by have := hI2.n20; unfold nwF at this; omega) h
      have hlk := lk_eq (z := z) hfa hfb hcc hV
      have hown := own_eq hfa hcc hV _ (Nat.le_refl _)
      simp only [c_push, c_null, c_iload, c_aload, c_istore, c_astore, c_iinc, c_iadd, c_isub, c_imul, c_iand, c_ineg, c_dup, c_dup2, c_pop, c_ifnull, c_ifnonnull, c_get, c_put, c_iald, c_zald, c_iast, c_zast, c_aald, c_aast, c_alen, c_new, c_newa, c_newq, c_mna, c_oinit, c_max, c_copy, c_iret, c_zret, c_aret, c_vret, q_do, q_rc, c_ifeq, c_ifne, c_iflt, c_ifge, c_ifgt, c_ifle, c_iceq, c_icne, c_iclt, c_icge, c_icgt, c_icle, c_call0, c_call1, c_call2, c_call3, c_call4, c_call5, c_call6, c_call7, q_L0, List.map_cons, List.map_nil, List.replicate, List.cons_append, List.nil_append, List.append_nil, List.length_cons, List.length_nil, List.length_set, Nat.reduceSub, Nat.reduceAdd, Nat.reduceLT, Nat.reduceLeDiff, Nat.zero_add, Nat.add_zero, Nat.sub_zero, Nat.sub_self, List.getElem?_cons_zero, List.getElem?_cons_succ, List.set_cons_zero, List.set_cons_succ, Option.toList_some, Option.toList_none, List.sum_cons, List.sum_nil, true_and, and_true, true_or, or_true, Nat.le_refl, Nat.zero_le, Value.category, Fin.isValue, Fin.val_zero, Fin.val_one, Fin.val_two, Fin.reduceFinMk, q_10, q_01, not_false_eq_true, not_true_eq_false, forall_const, true_implies, false_implies, implies_true, q_ni, q_fi, q_nb0, q_nb1, q_fb0, q_fb1, q_nor, q_nar, q_for, q_far, q_non, q_nan, q_fon, q_fan, imp_false, false_and, and_false, and_self, false_or, or_false, va_rf, refKind, k_X10_copied_0, k_X10_copied_34, k_X10_copied_95, k_X10_copied_96, o1, wAt e1 e4 hI.2.2.2.1, c.1, c.2.1, g1, g2, f8, f9, o7, s_X10_isWithin, c.2.2]
      refine ⟨_, T, _, fa, _, _, fb, _, _, _, cc, hG, hA, hB, hC, fun σ' T' hG' hf hT => ?_⟩
      rw [RN_cong hlk _ 0 0 (Nat.le_refl _)]
      have hA' := hA.fm hf
      have hC' := hC.fm hf
      have r7 : ¬ Rg 7 r := fun h9 => by have := hD.1 _ _ _ h9 hD.p1.1; omega
      have w7 : ¬ Rg 7 (wa a.toNatClampNeg) := fun h9 => by have := hD.1 _ _ _ h9 (hD.p4.2 _ hla).1; omega
      have e1' := (hf _ _ r7 e1).2
      have w1' := (hf _ _ w7 w1).2
      have g1' : q_fld σ' (wa a.toNatClampNeg) 9 4 = some (.ref (la a.toNatClampNeg)) := by simp only [q_fld, w1', if_true]; rfl
      have f8' : q_fld σ' r 10 8 = some (.ref CL) := by simp only [q_fld, e1', if_true]; rfl
      have o5 : q_oc σ' (la a.toNatClampNeg) = some 5 := by simp only [q_oc, hA'.1.2]
      simp only [c_push, c_null, c_iload, c_aload, c_istore, c_astore, c_iinc, c_iadd, c_isub, c_imul, c_iand, c_ineg, c_dup, c_dup2, c_pop, c_ifnull, c_ifnonnull, c_get, c_put, c_iald, c_zald, c_iast, c_zast, c_aald, c_aast, c_alen, c_new, c_newa, c_newq, c_mna, c_oinit, c_max, c_copy, c_iret, c_zret, c_aret, c_vret, q_do, q_rc, c_ifeq, c_ifne, c_iflt, c_ifge, c_ifgt, c_ifle, c_iceq, c_icne, c_iclt, c_icge, c_icgt, c_icle, c_call0, c_call1, c_call2, c_call3, c_call4, c_call5, c_call6, c_call7, q_L0, List.map_cons, List.map_nil, List.replicate, List.cons_append, List.nil_append, List.append_nil, List.length_cons, List.length_nil, List.length_set, Nat.reduceSub, Nat.reduceAdd, Nat.reduceLT, Nat.reduceLeDiff, Nat.zero_add, Nat.add_zero, Nat.sub_zero, Nat.sub_self, List.getElem?_cons_zero, List.getElem?_cons_succ, List.set_cons_zero, List.set_cons_succ, Option.toList_some, Option.toList_none, List.sum_cons, List.sum_nil, true_and, and_true, true_or, or_true, Nat.le_refl, Nat.zero_le, Value.category, Fin.isValue, Fin.val_zero, Fin.val_one, Fin.val_two, Fin.reduceFinMk, q_10, q_01, not_false_eq_true, not_true_eq_false, forall_const, true_implies, false_implies, implies_true, q_ni, q_fi, q_nb0, q_nb1, q_fb0, q_fb1, q_nor, q_nar, q_for, q_far, q_non, q_nan, q_fon, q_fan, imp_false, false_and, and_false, and_self, false_or, or_false, va_rf, refKind, g1', f8', o5]
      refine ⟨_, fa, _, _, _, cc, hA'.1.2, hA'.2.1.2, hA'.2.2, hC'.1.2, hC'.2.2, ?_⟩
      rw [hown]
      have h2 := h1 _ (hD.put7 hG' hf)
      simp only [c_push, c_null, c_iload, c_aload, c_istore, c_astore, c_iinc, c_iadd, c_isub, c_imul, c_iand, c_ineg, c_dup, c_dup2, c_pop, c_ifnull, c_ifnonnull, c_get, c_put, c_iald, c_zald, c_iast, c_zast, c_aald, c_aast, c_alen, c_new, c_newa, c_newq, c_mna, c_oinit, c_max, c_copy, c_iret, c_zret, c_aret, c_vret, q_do, q_rc, c_ifeq, c_ifne, c_iflt, c_ifge, c_ifgt, c_ifle, c_iceq, c_icne, c_iclt, c_icge, c_icgt, c_icle, c_call0, c_call1, c_call2, c_call3, c_call4, c_call5, c_call6, c_call7, q_L0, List.map_cons, List.map_nil, List.replicate, List.cons_append, List.nil_append, List.append_nil, List.length_cons, List.length_nil, List.length_set, Nat.reduceSub, Nat.reduceAdd, Nat.reduceLT, Nat.reduceLeDiff, Nat.zero_add, Nat.add_zero, Nat.sub_zero, Nat.sub_self, List.getElem?_cons_zero, List.getElem?_cons_succ, List.set_cons_zero, List.set_cons_succ, Option.toList_some, Option.toList_none, List.sum_cons, List.sum_nil, true_and, and_true, true_or, or_true, Nat.le_refl, Nat.zero_le, Value.category, Fin.isValue, Fin.val_zero, Fin.val_one, Fin.val_two, Fin.reduceFinMk, q_10, q_01, not_false_eq_true, not_true_eq_false, forall_const, true_implies, false_implies, implies_true, q_ni, q_fi, q_nb0, q_nb1, q_fb0, q_fb1, q_nor, q_nar, q_for, q_far, q_non, q_nan, q_fon, q_fan, imp_false, false_and, and_false, and_self, false_or, or_false, va_rf, refKind, s_X10_oneIf]
      clear h1 hD hG hG' hT
      grind
    · rw [if_neg c] at h1
      have h2 := h1 _ hR0
      clear h1
      by_cases ca : 0 ≤ a ∧ a < z 11
      · by_cases cb : 0 ≤ b ∧ b < z 11
        · have cv : ¬ (1 ≤ p ∧ p ≤ 100) := fun h => c ⟨ca, cb, h⟩
          simp only [c_push, c_null, c_iload, c_aload, c_istore, c_astore, c_iinc, c_iadd, c_isub, c_imul, c_iand, c_ineg, c_dup, c_dup2, c_pop, c_ifnull, c_ifnonnull, c_get, c_put, c_iald, c_zald, c_iast, c_zast, c_aald, c_aast, c_alen, c_new, c_newa, c_newq, c_mna, c_oinit, c_max, c_copy, c_iret, c_zret, c_aret, c_vret, q_do, q_rc, c_ifeq, c_ifne, c_iflt, c_ifge, c_ifgt, c_ifle, c_iceq, c_icne, c_iclt, c_icge, c_icgt, c_icle, c_call0, c_call1, c_call2, c_call3, c_call4, c_call5, c_call6, c_call7, q_L0, List.map_cons, List.map_nil, List.replicate, List.cons_append, List.nil_append, List.append_nil, List.length_cons, List.length_nil, List.length_set, Nat.reduceSub, Nat.reduceAdd, Nat.reduceLT, Nat.reduceLeDiff, Nat.zero_add, Nat.add_zero, Nat.sub_zero, Nat.sub_self, List.getElem?_cons_zero, List.getElem?_cons_succ, List.set_cons_zero, List.set_cons_succ, Option.toList_some, Option.toList_none, List.sum_cons, List.sum_nil, true_and, and_true, true_or, or_true, Nat.le_refl, Nat.zero_le, Value.category, Fin.isValue, Fin.val_zero, Fin.val_one, Fin.val_two, Fin.reduceFinMk, q_10, q_01, not_false_eq_true, not_true_eq_false, forall_const, true_implies, false_implies, implies_true, q_ni, q_fi, q_nb0, q_nb1, q_fb0, q_fb1, q_nor, q_nar, q_for, q_far, q_non, q_nan, q_fon, q_fan, imp_false, false_and, and_false, and_self, false_or, or_false, va_rf, refKind, k_X10_copied_0, k_X10_copied_34, k_X10_copied_95, k_X10_copied_96, o1, wAt e1 e4 hI.2.2.2.1, s_X10_isWithin, h2, ca, cb, cv]
        · simp only [c_push, c_null, c_iload, c_aload, c_istore, c_astore, c_iinc, c_iadd, c_isub, c_imul, c_iand, c_ineg, c_dup, c_dup2, c_pop, c_ifnull, c_ifnonnull, c_get, c_put, c_iald, c_zald, c_iast, c_zast, c_aald, c_aast, c_alen, c_new, c_newa, c_newq, c_mna, c_oinit, c_max, c_copy, c_iret, c_zret, c_aret, c_vret, q_do, q_rc, c_ifeq, c_ifne, c_iflt, c_ifge, c_ifgt, c_ifle, c_iceq, c_icne, c_iclt, c_icge, c_icgt, c_icle, c_call0, c_call1, c_call2, c_call3, c_call4, c_call5, c_call6, c_call7, q_L0, List.map_cons, List.map_nil, List.replicate, List.cons_append, List.nil_append, List.append_nil, List.length_cons, List.length_nil, List.length_set, Nat.reduceSub, Nat.reduceAdd, Nat.reduceLT, Nat.reduceLeDiff, Nat.zero_add, Nat.add_zero, Nat.sub_zero, Nat.sub_self, List.getElem?_cons_zero, List.getElem?_cons_succ, List.set_cons_zero, List.set_cons_succ, Option.toList_some, Option.toList_none, List.sum_cons, List.sum_nil, true_and, and_true, true_or, or_true, Nat.le_refl, Nat.zero_le, Value.category, Fin.isValue, Fin.val_zero, Fin.val_one, Fin.val_two, Fin.reduceFinMk, q_10, q_01, not_false_eq_true, not_true_eq_false, forall_const, true_implies, false_implies, implies_true, q_ni, q_fi, q_nb0, q_nb1, q_fb0, q_fb1, q_nor, q_nar, q_for, q_far, q_non, q_nan, q_fon, q_fan, imp_false, false_and, and_false, and_self, false_or, or_false, va_rf, refKind, k_X10_copied_0, k_X10_copied_34, k_X10_copied_95, k_X10_copied_96, o1, wAt e1 e4 hI.2.2.2.1, s_X10_isWithin, h2, ca, cb]
      · by_cases cb : 0 ≤ b ∧ b < z 11
        · simp only [c_push, c_null, c_iload, c_aload, c_istore, c_astore, c_iinc, c_iadd, c_isub, c_imul, c_iand, c_ineg, c_dup, c_dup2, c_pop, c_ifnull, c_ifnonnull, c_get, c_put, c_iald, c_zald, c_iast, c_zast, c_aald, c_aast, c_alen, c_new, c_newa, c_newq, c_mna, c_oinit, c_max, c_copy, c_iret, c_zret, c_aret, c_vret, q_do, q_rc, c_ifeq, c_ifne, c_iflt, c_ifge, c_ifgt, c_ifle, c_iceq, c_icne, c_iclt, c_icge, c_icgt, c_icle, c_call0, c_call1, c_call2, c_call3, c_call4, c_call5, c_call6, c_call7, q_L0, List.map_cons, List.map_nil, List.replicate, List.cons_append, List.nil_append, List.append_nil, List.length_cons, List.length_nil, List.length_set, Nat.reduceSub, Nat.reduceAdd, Nat.reduceLT, Nat.reduceLeDiff, Nat.zero_add, Nat.add_zero, Nat.sub_zero, Nat.sub_self, List.getElem?_cons_zero, List.getElem?_cons_succ, List.set_cons_zero, List.set_cons_succ, Option.toList_some, Option.toList_none, List.sum_cons, List.sum_nil, true_and, and_true, true_or, or_true, Nat.le_refl, Nat.zero_le, Value.category, Fin.isValue, Fin.val_zero, Fin.val_one, Fin.val_two, Fin.reduceFinMk, q_10, q_01, not_false_eq_true, not_true_eq_false, forall_const, true_implies, false_implies, implies_true, q_ni, q_fi, q_nb0, q_nb1, q_fb0, q_fb1, q_nor, q_nar, q_for, q_far, q_non, q_nan, q_fon, q_fan, imp_false, false_and, and_false, and_self, false_or, or_false, va_rf, refKind, k_X10_copied_0, k_X10_copied_34, k_X10_copied_95, k_X10_copied_96, o1, wAt e1 e4 hI.2.2.2.1, s_X10_isWithin, h2, ca, cb]
        · simp only [c_push, c_null, c_iload, c_aload, c_istore, c_astore, c_iinc, c_iadd, c_isub, c_imul, c_iand, c_ineg, c_dup, c_dup2, c_pop, c_ifnull, c_ifnonnull, c_get, c_put, c_iald, c_zald, c_iast, c_zast, c_aald, c_aast, c_alen, c_new, c_newa, c_newq, c_mna, c_oinit, c_max, c_copy, c_iret, c_zret, c_aret, c_vret, q_do, q_rc, c_ifeq, c_ifne, c_iflt, c_ifge, c_ifgt, c_ifle, c_iceq, c_icne, c_iclt, c_icge, c_icgt, c_icle, c_call0, c_call1, c_call2, c_call3, c_call4, c_call5, c_call6, c_call7, q_L0, List.map_cons, List.map_nil, List.replicate, List.cons_append, List.nil_append, List.append_nil, List.length_cons, List.length_nil, List.length_set, Nat.reduceSub, Nat.reduceAdd, Nat.reduceLT, Nat.reduceLeDiff, Nat.zero_add, Nat.add_zero, Nat.sub_zero, Nat.sub_self, List.getElem?_cons_zero, List.getElem?_cons_succ, List.set_cons_zero, List.set_cons_succ, Option.toList_some, Option.toList_none, List.sum_cons, List.sum_nil, true_and, and_true, true_or, or_true, Nat.le_refl, Nat.zero_le, Value.category, Fin.isValue, Fin.val_zero, Fin.val_one, Fin.val_two, Fin.reduceFinMk, q_10, q_01, not_false_eq_true, not_true_eq_false, forall_const, true_implies, false_implies, implies_true, q_ni, q_fi, q_nb0, q_nb1, q_fb0, q_fb1, q_nor, q_nar, q_for, q_far, q_non, q_nan, q_fon, q_fan, imp_false, false_and, and_false, and_self, false_or, or_false, va_rf, refKind, k_X10_copied_0, k_X10_copied_34, k_X10_copied_95, k_X10_copied_96, o1, wAt e1 e4 hI.2.2.2.1, s_X10_isWithin, h2, ca, cb]
  · exact h.elim)
