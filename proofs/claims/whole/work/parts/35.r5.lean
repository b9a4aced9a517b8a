-- one region is written
theorem RegD.put1 {σ σ' : q_S} {Rg : Nat → Nat → Prop} {r P AC AR WK LC CL CM CP : Nat} {pa aa wa sa ga la lra lc : Nat → Nat} {lrn : Nat → Int32} {z : Nat → Int32} {g : Nat → Nat → Int32} (h : RegD σ Rg r P AC AR WK LC CL CM CP pa aa wa sa ga la lra lc lrn z g)
    {lrn' : Nat → Int32} {z' : Nat → Int32} {g' : Nat → Nat → Int32} (t0 : Nat) {R' : Nat → Prop} (hf : q_fm σ (Rg t0) σ' R') (h0 : Part t0 σ' R' r P AC AR WK LC CL CM CP pa aa wa sa ga la lra lc lrn' z' g')
    (hk : ∀ k, k ≠ t0 → Part k σ (Rg k) r P AC AR WK LC CL CM CP pa aa wa sa ga la lra lc lrn z g → Part k σ (Rg k) r P AC AR WK LC CL CM CP pa aa wa sa ga la lra lc lrn' z' g') : RegOK σ' r z' g' :=
  h.put (pa' := pa) (aa' := aa) (wa' := wa) (sa' := sa) (ga' := ga) (la' := la) (lra' := lra) (lc' := lc) (fun t => t = t0) (fun _ a => R' a) (fun t t' a h1 h2 _ _ => by rw [h1, h2]) (fun a e ha he => ⟨fun t _ => (hf a e (ha t0 rfl) he).1, (hf a e (ha t0 rfl) he).2⟩) (fun k hk => by subst hk; exact h0) hk
-- heir
theorem PersP.up {σ : q_S} {R : Nat → Prop} {P np : Nat} {pa : Nat → Nat} {lrn lrn' : Nat → Int32} {g g' : Nat → Nat → Int32} (h : PersP σ R P pa lrn g np) {i : Nat} (hi : i < np) (v : List Value) (hv1 : v = [.int (g' 2 i), .int (g' 3 i), .int (lrn' i)]) (ho : ∀ j, j ≠ i → g' 2 j = g 2 j ∧ g' 3 j = g 3 j ∧ lrn' j = lrn j ∧ g' 4 j = g 4 j) (hl : ¬ g' 3 i = -1 → lrn' i = g' 4 i) : PersP (q_up σ (pa i) (.inr (7, v))) R P pa lrn' g' np := by
  obtain ⟨h1, h2, h3, h4⟩ := h
  refine ⟨⟨h1.1, by rw [q_up_n (ne_ao h1.2 (h2 i hi).2)]; exact h1.2⟩, fun j hj => ?_, h3, fun j hj hd => ?_⟩
  · by_cases e : j = i
    · subst e
      exact ⟨(h2 j hj).1, by rw [q_up_s, hv1]⟩
    · have k := ho j e
      rw [k.1, k.2.1, k.2.2.1]
      exact ⟨(h2 j hj).1, by rw [q_up_n (fun e9 => e (h3 j i hj hi e9))]; exact (h2 j hj).2⟩
  · by_cases e : j = i
    · subst e; exact hl hd
    · have k := ho j e
      rw [k.2.2.1, k.2.2.2]
      rw [k.2.1] at hd
      exact h4 j hj hd
def s_X10_heir : q_Sp := fun av σ post => match av with
  | [.ref r, .int p, .int q] => ∃ z g, RegOK σ r z g ∧ I1 z ∧ ∀ σ', RegOK σ' r z (F_heir z g p q).2 → post (some (.int (F_heir z g p q).1)) σ'
  | _ => False
def rm_X10_heir : Room := { frames := 1, cells := 0, slots := 0, locals := 21 }
def k_X10_heir_28 (post : Option Value → q_S → Prop) (K : Nat → q_K) : q_K := (c_push (-2) (c_iret post))
def k_X10_heir_31 (post : Option Value → q_S → Prop) (K : Nat → q_K) : q_K := (c_aload 3 (c_get 7 0 (c_istore 4 (c_aload 3 (c_iload 2 (c_put 7 0 (.int) (c_iload 4 (c_iret post))))))))
def k_X10_heir_0 (post : Option Value → q_S → Prop) (K : Nat → q_K) : q_K := (c_aload 0 (c_iload 1 (c_call2 (some 10) s_X10_personAt 0 0 (c_astore 3 (c_aload 3 (c_ifnull (k_X10_heir_28 post K) (c_iload 2 (c_iload 1 (c_iceq (k_X10_heir_28 post K) (c_iload 2 (c_push (-1) (c_iceq (k_X10_heir_31 post K) (c_aload 0 (c_iload 2 (c_call2 (some 10) s_X10_personAt 0 0 (c_ifnonnull (k_X10_heir_31 post K) (k_X10_heir_28 post K)))))))))))))))))
set_option maxRecDepth 100000 in
theorem v_X10_heir_28 {p : Program} {l : Launch} {e : Env} {s : State} {m : MethodId} {args : Array Value} {below : List Frame} {meth : Method} {c : Code} {D : va_G} {A : Nat → Prop} {post : Option Value → q_S → Prop} {K : Nat → q_K} (C : q_C p s m args meth c cX10_heir 5 RX10 "heir" (some .int) A) (hK : ∀ h ∈ ([] : List Nat), q_V p l e rm_X10_heir s m args below meth c D A 5 (MQ below (q_Qc D A post) args s rm_X10_heir.cells rm_X10_heir.slots A) h (K h)) : q_V p l e rm_X10_heir s m args below meth c D A 5 (MQ below (q_Qc D A post) args s rm_X10_heir.cells rm_X10_heir.slots A) 28 (k_X10_heir_28 post K) := by
  unfold k_X10_heir_28
  refine q_bipush C (by decide +kernel : decode cX10_heir 28 = .ok (.bipush (-2), 2)) (by decide) ?_
  exact q_iret C rfl (by decide +kernel : decode cX10_heir 30 = .ok (.ireturn, 1))
set_option maxRecDepth 100000 in
theorem v_X10_heir_31 {p : Program} {l : Launch} {e : Env} {s : State} {m : MethodId} {args : Array Value} {below : List Frame} {meth : Method} {c : Code} {D : va_G} {A : Nat → Prop} {post : Option Value → q_S → Prop} {K : Nat → q_K} (C : q_C p s m args meth c cX10_heir 5 RX10 "heir" (some .int) A) (hK : ∀ h ∈ ([] : List Nat), q_V p l e rm_X10_heir s m args below meth c D A 5 (MQ below (q_Qc D A post) args s rm_X10_heir.cells rm_X10_heir.slots A) h (K h)) : q_V p l e rm_X10_heir s m args below meth c D A 5 (MQ below (q_Qc D A post) args s rm_X10_heir.cells rm_X10_heir.slots A) 31 (k_X10_heir_31 post K) := by
  unfold k_X10_heir_31
  refine q_aload_n C (by decide +kernel : decode cX10_heir 31 = .ok (.aload_n 3, 1)) ?_
  refine q_getN C (ci := 7) (j := 0) (C0 := RX7) (T := TX7) (N := 3) rfl iX7 giX7 (by decide) (by decide +kernel) (by decide +kernel : decode cX10_heir 32 = .ok (.getfield 72, 3)) ?_
  refine q_istore C (by decide +kernel : decode cX10_heir 35 = .ok (.istore 4, 2)) ?_
  refine q_aload_n C (by decide +kernel : decode cX10_heir 37 = .ok (.aload_n 3, 1)) ?_
  refine q_iload_n C (by decide +kernel : decode cX10_heir 38 = .ok (.iload_n 2, 1)) ?_
  refine q_putN C (ci := 7) (j := 0) (C0 := RX7) (T := TX7) (N := 3) (ty := .int) rfl iX7 giX7 (by decide) tyX7 tyX7_ok nmX7 (by decide +kernel) rfl (by decide +kernel) (by decide +kernel : decode cX10_heir 39 = .ok (.putfield 72, 3)) ?_
  refine q_iload C (by decide +kernel : decode cX10_heir 42 = .ok (.iload 4, 2)) ?_
  exact q_iret C rfl (by decide +kernel : decode cX10_heir 44 = .ok (.ireturn, 1))
set_option maxRecDepth 100000 in
theorem v_X10_heir_0 {p : Program} {l : Launch} {e : Env} {s : State} {m : MethodId} {args : Array Value} {below : List Frame} {meth : Method} {c : Code} {D : va_G} {A : Nat → Prop} {post : Option Value → q_S → Prop} {K : Nat → q_K} (C : q_C p s m args meth c cX10_heir 5 RX10 "heir" (some .int) A) (hK : ∀ h ∈ ([] : List Nat), q_V p l e rm_X10_heir s m args below meth c D A 5 (MQ below (q_Qc D A post) args s rm_X10_heir.cells rm_X10_heir.slots A) h (K h)) : q_V p l e rm_X10_heir s m args below meth c D A 5 (MQ below (q_Qc D A post) args s rm_X10_heir.cells rm_X10_heir.slots A) 0 (k_X10_heir_0 post K) := by
  unfold k_X10_heir_0
  refine q_aload_n C (by decide +kernel : decode cX10_heir 0 = .ok (.aload_n 0, 1)) ?_
  refine q_iload_n C (by decide +kernel : decode cX10_heir 1 = .ok (.iload_n 1, 1)) ?_
  refine q_call2 C (q_coV C (np := 1) (ci := 10) (rc := (RX10, TX10, 10)) (t_X10_personAt l) w9_316 rfl rfl w9_317 w9_318 w9_319 w9_1 (by decide +kernel) (by decide +kernel : decode cX10_heir 2 = .ok (.invokevirtual 68, 3)) (by decide)) ?_
  refine q_astore_n C (by decide +kernel : decode cX10_heir 5 = .ok (.astore_n 3, 1)) ?_
  refine q_aload_n C (by decide +kernel : decode cX10_heir 6 = .ok (.aload_n 3, 1)) ?_
  refine q_ifnull C (tgt := 28) (by decide +kernel : decode cX10_heir 7 = .ok (.ifnull 21, 3)) (by decide) ?_ ?_
  · exact v_X10_heir_28 C hK
  · refine q_iload_n C (by decide +kernel : decode cX10_heir 10 = .ok (.iload_n 2, 1)) ?_
    refine q_iload_n C (by decide +kernel : decode cX10_heir 11 = .ok (.iload_n 1, 1)) ?_
    refine q_iceq C (tgt := 28) (by decide +kernel : decode cX10_heir 12 = .ok (.if_icmp .eq 16, 3)) (by decide) ?_ ?_
    · exact v_X10_heir_28 C hK
    · refine q_iload_n C (by decide +kernel : decode cX10_heir 15 = .ok (.iload_n 2, 1)) ?_
      refine q_iconst C (by decide +kernel : decode cX10_heir 16 = .ok (.iconst (-1), 1)) (by decide) ?_
      refine q_iceq C (tgt := 31) (by decide +kernel : decode cX10_heir 17 = .ok (.if_icmp .eq 14, 3)) (by decide) ?_ ?_
      · exact v_X10_heir_31 C hK
      · refine q_aload_n C (by decide +kernel : decode cX10_heir 20 = .ok (.aload_n 0, 1)) ?_
        refine q_iload_n C (by decide +kernel : decode cX10_heir 21 = .ok (.iload_n 2, 1)) ?_
        refine q_call2 C (q_coV C (np := 1) (ci := 10) (rc := (RX10, TX10, 10)) (t_X10_personAt l) w9_316 rfl rfl w9_317 w9_318 w9_319 w9_1 (by decide +kernel) (by decide +kernel : decode cX10_heir 22 = .ok (.invokevirtual 68, 3)) (by decide)) ?_
        refine q_ifnonnull C (tgt := 31) (by decide +kernel : decode cX10_heir 25 = .ok (.ifnonnull 6, 3)) (by decide) ?_ ?_
        · exact v_X10_heir_31 C hK
        · exact v_X10_heir_28 C hK
theorem u_X10_heir (l : Launch) {sp : q_Sp} (H : ∀ (av : List Value) (σ : q_S) (post : Option Value → q_S → Prop), sp av σ post → k_X10_heir_0 post (fun _ _ _ _ _ _ => False) (q_L0 av 5) [] σ 0 0 ∧ av.length ≤ 5 ∧ ∀ v ∈ av, v.category = 1) : q_Ct l yX10_heir cX10_heir 5 (some .int) rm_X10_heir sp := by
  refine q_met (by decide) ?_
  intro D A p e s m args below meth c σ av post C hsp
  obtain ⟨h1, h2, h3⟩ := H av σ post hsp
  exact ⟨_, v_X10_heir_0 (K := fun _ _ _ _ _ _ => False) C (fun h hh => by cases hh), h1, h2, h3⟩
theorem t_X10_heir (l : Launch) : q_Ct l yX10_heir cX10_heir 5 (some .int) rm_X10_heir s_X10_heir := u_X10_heir l (by
  intro av σ post h
  unfold s_X10_heir at h
  split at h
  · next r p q =>
    refine ⟨?_, by simp, by simp [Value.category]⟩
    obtain ⟨z, g, hR, hI, h1⟩ := h
    have hR0 := hR
    obtain ⟨Rg, P, AC, AR, WK, LC, CL, CM, CP, pa, aa, wa, sa, ga, la, lra, lc, lrn, hD⟩ := hR
    have e1 := hD.p1.2
    have e2 := hD.p2.1.2
    have o1 : q_oc σ r = some 10 := by simp only [q_oc, e1]
    have h20 := hI.n20
    unfold I1 at hI
    unfold F_heir at h1
    simp only [c_push, c_null, c_iload, c_aload, c_istore, c_astore, c_iinc, c_iadd, c_isub, c_imul, c_iand, c_ineg, c_dup, c_dup2, c_pop, c_ifnull, c_ifnonnull, c_get, c_put, c_iald, c_zald, c_iast, c_zast, c_aald, c_aast, c_alen, c_new, c_newa, c_newq, c_mna, c_oinit, c_max, c_copy, c_iret, c_zret, c_aret, c_vret, q_do, q_rc, c_ifeq, c_ifne, c_iflt, c_ifge, c_ifgt, c_ifle, c_iceq, c_icne, c_iclt, c_icge, c_icgt, c_icle, c_call0, c_call1, c_call2, c_call3, c_call4, c_call5, c_call6, c_call7, q_L0, List.map_cons, List.map_nil, List.replicate, List.cons_append, List.nil_append, List.append_nil, List.length_cons, List.length_nil, List.length_set, Nat.reduceSub, Nat.reduceAdd, Nat.reduceLT, Nat.reduceLeDiff, Nat.zero_add, Nat.add_zero, Nat.sub_zero, Nat.sub_self, List.getElem?_cons_zero, List.getElem?_cons_succ, List.set_cons_zero, List.set_cons_succ, Option.toList_some, Option.toList_none, List.sum_cons, List.sum_nil, true_and, and_true, true_or, or_true, Nat.le_refl, Nat.zero_le, Value.category, Fin.isValue, Fin.val_zero, Fin.val_one, Fin.val_two, Fin.reduceFinMk, q_10, q_01, not_false_eq_true, not_true_eq_false, forall_const, true_implies, false_implies, implies_true, q_ni, q_fi, q_nb0, q_nb1, q_fb0, q_fb1, q_nor, q_nar, q_for, q_far, q_non, q_nan, q_fon, q_fan, imp_false, false_and, and_false, and_self, false_or, or_false, va_rf, refKind, k_X10_heir_0, k_X10_heir_28, k_X10_heir_31, o1, pAt e1 e2 hI.2.1]
    by_cases c : (0 ≤ p ∧ p < z 1) ∧ (q = -1 ∨ 0 ≤ q ∧ q < z 1) ∧ q ≠ p
    · rw [if_pos c] at h1
      dsimp only at h1
      have hpn : p.toNatClampNeg < npF z := ltN c.1.1 c.1.2
      have e3 := (hD.p2.2.1 _ hpn).2
      have a : post (some (.int (g 2 p.toNatClampNeg))) (q_up σ (pa p.toNatClampNeg) (.inr (7, [.int q, .int (g 3 p.toNatClampNeg), .int (lrn p.toNatClampNeg)]))) := h1 _ (hD.put1 (lrn' := lrn) 2 (q_fm.up (hD.p2.2.1 _ hpn).1) (hD.p2.up hpn _ (by rw [gup_s, if_pos rfl, gup_n (by decide)]) (fun j hj => ⟨by rw [gup_s, if_neg hj], by rw [gup_n (by decide)], rfl, by rw [gup_n (by decide)]⟩) (fun hd => by rw [gup_n (by decide)] at hd ⊢; exact hD.p2.2.2.2 _ hpn hd))
        (fun k hk h => h.cong (fun _ h => h) (fun e => absurd e hk) (fun _ h => h) (fun _ h => h) (fun _ h => h) (fun _ h => h) (fun i _ hi => ⟨hi, fun h => h.cong (Int32.le_refl _) rfl rfl rfl rfl rfl rfl rfl rfl rfl⟩) (fun i _ hi => ⟨hi, fun h => h⟩) (fun i _ hi => ⟨hi, fun h => h⟩) h20 h20))
      simp only [c_push, c_null, c_iload, c_aload, c_istore, c_astore, c_iinc, c_iadd, c_isub, c_imul, c_iand, c_ineg, c_dup, c_dup2, c_pop, c_ifnull, c_ifnonnull, c_get, c_put, c_iald, c_zald, c_iast, c_zast, c_aald, c_aast, c_alen, c_new, c_newa, c_newq, c_mna, c_oinit, c_max, c_copy, c_iret, c_zret, c_aret, c_vret, q_do, q_rc, c_ifeq, c_ifne, c_iflt, c_ifge, c_ifgt, c_ifle, c_iceq, c_icne, c_iclt, c_icge, c_icgt, c_icle, c_call0, c_call1, c_call2, c_call3, c_call4, c_call5, c_call6, c_call7, q_L0, List.map_cons, List.map_nil, List.replicate, List.cons_append, List.nil_append, List.append_nil, List.length_cons, List.length_nil, List.length_set, Nat.reduceSub, Nat.reduceAdd, Nat.reduceLT, Nat.reduceLeDiff, Nat.zero_add, Nat.add_zero, Nat.sub_zero, Nat.sub_self, List.getElem?_cons_zero, List.getElem?_cons_succ, List.set_cons_zero, List.set_cons_succ, Option.toList_some, Option.toList_none, List.sum_cons, List.sum_nil, true_and, and_true, true_or, or_true, Nat.le_refl, Nat.zero_le, Value.category, Fin.isValue, Fin.val_zero, Fin.val_one, Fin.val_two, Fin.reduceFinMk, q_10, q_01, not_false_eq_true, not_true_eq_false, forall_const, true_implies, false_implies, implies_true, q_ni, q_fi, q_nb0, q_nb1, q_fb0, q_fb1, q_nor, q_nar, q_for, q_far, q_non, q_nan, q_fon, q_fan, imp_false, false_and, and_false, and_self, false_or, or_false, va_rf, refKind, q_fld, q_fset, q_oc, q_ai, q_aq, q_len, q_up_s, q_up_up, if_true, e3]
      clear h1
      grind
    · rw [if_neg c] at h1
      have a := h1 _ hR0
      clear h1
      refine ⟨fun c1 => ⟨fun c2 => a, fun c2 => ⟨fun c3 => ?_, fun c3 => ⟨fun c4 => ?_, fun c4 => a⟩⟩⟩, fun c1 => a⟩
      · exact absurd ⟨c1, Or.inl c3, c2⟩ c
      · exact absurd ⟨c1, Or.inr c4, c2⟩ c
  · exact h.elim)
-- died
def s_X10_died : q_Sp := fun av σ post => match av with
  | [.ref r, .int p, .int k] => ∃ z g, RegOK σ r z g ∧ I1 z ∧ ∀ σ', RegOK σ' r z g → post (some (.int (F_died z g p k))) σ'
  | _ => False
theorem w9_329 : (.code yX10_isDay cX10_isDay 1 (some .boolean) : Cond) ∈ lw_tbl := by decide +kernel
theorem w9_330 : (.static yX10_isDay : Cond) ∈ lw_tbl := by decide +kernel
theorem w9_331 : (.methodLink RX10 101 yX10_isDay : Cond) ∈ lw_tbl := by decide +kernel
theorem w9_332 : (.methodLink RX10 105 yX7_isDeathKnownAt : Cond) ∈ lw_tbl := by decide +kernel
def rm_X10_died : Room := { frames := 2, cells := 0, slots := 0, locals := 42 }
def k_X10_died_17 (post : Option Value → q_S → Prop) (K : Nat → q_K) : q_K := (c_push (-2) (c_iret post))
def k_X10_died_36 (post : Option Value → q_S → Prop) (K : Nat → q_K) : q_K := (c_iret post)
def k_X10_died_0 (post : Option Value → q_S → Prop) (K : Nat → q_K) : q_K := (c_aload 0 (c_iload 1 (c_call2 (some 10) s_X10_personAt 0 0 (c_astore 3 (c_aload 3 (c_ifnull (k_X10_died_17 post K) (c_iload 2 (c_call1 none s_X10_isDay 0 0 (c_ifne (c_aload 3 (c_iload 2 (c_call2 (some 7) s_X7_isDeathKnownAt 0 0 (c_ifeq (c_push (-1) (k_X10_died_36 post K)) (c_aload 3 (c_get 7 1 (k_X10_died_36 post K))))))) (k_X10_died_17 post K))))))))))
set_option maxRecDepth 100000 in
theorem v_X10_died_17 {p : Program} {l : Launch} {e : Env} {s : State} {m : MethodId} {args : Array Value} {below : List Frame} {meth : Method} {c : Code} {D : va_G} {A : Nat → Prop} {post : Option Value → q_S → Prop} {K : Nat → q_K} (C : q_C p s m args meth c cX10_died 4 RX10 "died" (some .int) A) (hK : ∀ h ∈ ([] : List Nat), q_V p l e rm_X10_died s m args below meth c D A 4 (MQ below (q_Qc D A post) args s rm_X10_died.cells rm_X10_died.slots A) h (K h)) : q_V p l e rm_X10_died s m args below meth c D A 4 (MQ below (q_Qc D A post) args s rm_X10_died.cells rm_X10_died.slots A) 17 (k_X10_died_17 post K) := by
  unfold k_X10_died_17
  refine q_bipush C (by decide +kernel : decode cX10_died 17 = .ok (.bipush (-2), 2)) (by decide) ?_
  exact q_iret C rfl (by decide +kernel : decode cX10_died 19 = .ok (.ireturn, 1))
set_option maxRecDepth 100000 in
theorem v_X10_died_36 {p : Program} {l : Launch} {e : Env} {s : State} {m : MethodId} {args : Array Value} {below : List Frame} {meth : Method} {c : Code} {D : va_G} {A : Nat → Prop} {post : Option Value → q_S → Prop} {K : Nat → q_K} (C : q_C p s m args meth c cX10_died 4 RX10 "died" (some .int) A) (hK : ∀ h ∈ ([] : List Nat), q_V p l e rm_X10_died s m args below meth c D A 4 (MQ below (q_Qc D A post) args s rm_X10_died.cells rm_X10_died.slots A) h (K h)) : q_V p l e rm_X10_died s m args below meth c D A 4 (MQ below (q_Qc D A post) args s rm_X10_died.cells rm_X10_died.slots A) 36 (k_X10_died_36 post K) := by
  unfold k_X10_died_36
  exact q_iret C rfl (by decide +kernel : decode cX10_died 36 = .ok (.ireturn, 1))
set_option maxRecDepth 100000 in
theorem v_X10_died_0 {p : Program} {l : Launch} {e : Env} {s : State} {m : MethodId} {args : Array Value} {below : List Frame} {meth : Method} {c : Code} {D : va_G} {A : Nat → Prop} {post : Option Value → q_S → Prop} {K : Nat → q_K} (C : q_C p s m args meth c cX10_died 4 RX10 "died" (some .int) A) (hK : ∀ h ∈ ([] : List Nat), q_V p l e rm_X10_died s m args below meth c D A 4 (MQ below (q_Qc D A post) args s rm_X10_died.cells rm_X10_died.slots A) h (K h)) : q_V p l e rm_X10_died s m args below meth c D A 4 (MQ below (q_Qc D A post) args s rm_X10_died.cells rm_X10_died.slots A) 0 (k_X10_died_0 post K) := by
  unfold k_X10_died_0
  refine q_aload_n C (by decide +kernel : decode cX10_died 0 = .ok (.aload_n 0, 1)) ?_
  refine q_iload_n C (by decide +kernel : decode cX10_died 1 = .ok (.iload_n 1, 1)) ?_
  refine q_call2 C (q_coV C (np := 1) (ci := 10) (rc := (RX10, TX10, 10)) (t_X10_personAt l) w9_316 rfl rfl w9_317 w9_318 w9_319 w9_1 (by decide +kernel) (by decide +kernel : decode cX10_died 2 = .ok (.invokevirtual 68, 3)) (by decide)) ?_
  refine q_astore_n C (by decide +kernel : decode cX10_died 5 = .ok (.astore_n 3, 1)) ?_
  refine q_aload_n C (by decide +kernel : decode cX10_died 6 = .ok (.aload_n 3, 1)) ?_
  refine q_ifnull C (tgt := 17) (by decide +kernel : decode cX10_died 7 = .ok (.ifnull 10, 3)) (by decide) ?_ ?_
  · exact v_X10_died_17 C hK
  · refine q_iload_n C (by decide +kernel : decode cX10_died 10 = .ok (.iload_n 2, 1)) ?_
    refine q_call1 C (q_coS C (np := 1) (t_X10_isDay l) w9_329 w9_331 w9_330 w9_1 (by decide +kernel) (by decide +kernel : decode cX10_died 11 = .ok (.invokestatic 101, 3)) (by decide)) ?_
    refine q_ifne C (tgt := 20) (by decide +kernel : decode cX10_died 14 = .ok (.ifCond .ne 6, 3)) (by decide) ?_ ?_
    · refine q_aload_n C (by decide +kernel : decode cX10_died 20 = .ok (.aload_n 3, 1)) ?_
      refine q_iload_n C (by decide +kernel : decode cX10_died 21 = .ok (.iload_n 2, 1)) ?_
      refine q_call2 C (q_coV C (np := 1) (ci := 7) (rc := (RX7, TX7, 3)) (t_X7_isDeathKnownAt l) w9_131 rfl rfl w9_332 w9_133 w9_134 w9_121 (by decide +kernel) (by decide +kernel : decode cX10_died 22 = .ok (.invokevirtual 105, 3)) (by decide)) ?_
      refine q_ifeq C (tgt := 35) (by decide +kernel : decode cX10_died 25 = .ok (.ifCond .eq 10, 3)) (by decide) ?_ ?_
      · refine q_iconst C (by decide +kernel : decode cX10_died 35 = .ok (.iconst (-1), 1)) (by decide) ?_
        exact v_X10_died_36 C hK
      · refine q_aload_n C (by decide +kernel : decode cX10_died 28 = .ok (.aload_n 3, 1)) ?_
        refine q_getN C (ci := 7) (j := 1) (C0 := RX7) (T := TX7) (N := 3) rfl iX7 giX7 (by decide) (by decide +kernel) (by decide +kernel : decode cX10_died 29 = .ok (.getfield 108, 3)) ?_
        refine q_goto C (tgt := 36) (by decide +kernel : decode cX10_died 32 = .ok (.goto 4, 3)) (by decide) ?_
        exact v_X10_died_36 C hK
    · exact v_X10_died_17 C hK
theorem u_X10_died (l : Launch) {sp : q_Sp} (H : ∀ (av : List Value) (σ : q_S) (post : Option Value → q_S → Prop), sp av σ post → k_X10_died_0 post (fun _ _ _ _ _ _ => False) (q_L0 av 4) [] σ 0 0 ∧ av.length ≤ 4 ∧ ∀ v ∈ av, v.category = 1) : q_Ct l yX10_died cX10_died 4 (some .int) rm_X10_died sp := by
  refine q_met (by decide) ?_
  intro D A p e s m args below meth c σ av post C hsp
  obtain ⟨h1, h2, h3⟩ := H av σ post hsp
  exact ⟨_, v_X10_died_0 (K := fun _ _ _ _ _ _ => False) C (fun h hh => by cases hh), h1, h2, h3⟩
theorem t_X10_died (l : Launch) : q_Ct l yX10_died cX10_died 4 (some .int) rm_X10_died s_X10_died := u_X10_died l (by
  intro av σ post h
  unfold s_X10_died at h
  split at h
  · next r p k =>
    refine ⟨?_, by simp, by simp [Value.category]⟩
    obtain ⟨z, g, hR, hI, h1⟩ := h
    have a := h1 _ hR
    clear h1
    obtain ⟨Rg, P, AC, AR, WK, LC, CL, CM, CP, pa, aa, wa, sa, ga, la, lra, lc, lrn, hD⟩ := hR
    have e1 := hD.p1.2
    have e2 := hD.p2.1.2
    have o1 : q_oc σ r = some 10 := by simp only [q_oc, e1]
    unfold I1 at hI
    unfold F_died at a
    by_cases c : 0 ≤ p ∧ p < z 1
    · have hpn : p.toNatClampNeg < npF z := ltN c.1 c.2
      have e3 := (hD.p2.2.1 _ hpn).2
      have e4 := hD.p2.2.2.2 _ hpn
      unfold deathF at a
      have o2 : q_oc σ (pa p.toNatClampNeg) = some 7 := by simp only [q_oc, e3]
      have f1 : q_fld σ (pa p.toNatClampNeg) 7 1 = some (.int (g 3 p.toNatClampNeg)) := by simp only [q_fld, e3, if_true]; rfl
      simp only [c_push, c_null, c_iload, c_aload, c_istore, c_astore, c_iinc, c_iadd, c_isub, c_imul, c_iand, c_ineg, c_dup, c_dup2, c_pop, c_ifnull, c_ifnonnull, c_get, c_put, c_iald, c_zald, c_iast, c_zast, c_aald, c_aast, c_alen, c_new, c_newa, c_newq, c_mna, c_oinit, c_max, c_copy, c_iret, c_zret, c_aret, c_vret, q_do, q_rc, c_ifeq, c_ifne, c_iflt, c_ifge, c_ifgt, c_ifle, c_iceq, c_icne, c_iclt, c_icge, c_icgt, c_icle, c_call0, c_call1, c_call2, c_call3, c_call4, c_call5, c_call6, c_call7, q_L0, List.map_cons, List.map_nil, List.replicate, List.cons_append, List.nil_append, List.append_nil, List.length_cons, List.length_nil, List.length_set, Nat.reduceSub, Nat.reduceAdd, Nat.reduceLT, Nat.reduceLeDiff, Nat.zero_add, Nat.add_zero, Nat.sub_zero, Nat.sub_self, List.getElem?_cons_zero, List.getElem?_cons_succ, List.set_cons_zero, List.set_cons_succ, Option.toList_some, Option.toList_none, List.sum_cons, List.sum_nil, true_and, and_true, true_or, or_true, Nat.le_refl, Nat.zero_le, Value.category, Fin.isValue, Fin.val_zero, Fin.val_one, Fin.val_two, Fin.reduceFinMk, q_10, q_01, not_false_eq_true, not_true_eq_false, forall_const, true_implies, false_implies, implies_true, q_ni, q_fi, q_nb0, q_nb1, q_fb0, q_fb1, q_nor, q_nar, q_for, q_far, q_non, q_nan, q_fon, q_fan, imp_false, false_and, and_false, and_self, false_or, or_false, va_rf, refKind, k_X10_died_0, k_X10_died_17, k_X10_died_36, o1, o2, f1, pAt e1 e2 hI.2.1, s_X10_isDay, s_X7_isDeathKnownAt, e3]
      clear hD e1 e2 e3
      grind
    · simp only [c_push, c_null, c_iload, c_aload, c_istore, c_astore, c_iinc, c_iadd, c_isub, c_imul, c_iand, c_ineg, c_dup, c_dup2, c_pop, c_ifnull, c_ifnonnull, c_get, c_put, c_iald, c_zald, c_iast, c_zast, c_aald, c_aast, c_alen, c_new, c_newa, c_newq, c_mna, c_oinit, c_max, c_copy, c_iret, c_zret, c_aret, c_vret, q_do, q_rc, c_ifeq, c_ifne, c_iflt, c_ifge, c_ifgt, c_ifle, c_iceq, c_icne, c_iclt, c_icge, c_icgt, c_icle, c_call0, c_call1, c_call2, c_call3, c_call4, c_call5, c_call6, c_call7, q_L0, List.map_cons, List.map_nil, List.replicate, List.cons_append, List.nil_append, List.append_nil, List.length_cons, List.length_nil, List.length_set, Nat.reduceSub, Nat.reduceAdd, Nat.reduceLT, Nat.reduceLeDiff, Nat.zero_add, Nat.add_zero, Nat.sub_zero, Nat.sub_self, List.getElem?_cons_zero, List.getElem?_cons_succ, List.set_cons_zero, List.set_cons_succ, Option.toList_some, Option.toList_none, List.sum_cons, List.sum_nil, true_and, and_true, true_or, or_true, Nat.le_refl, Nat.zero_le, Value.category, Fin.isValue, Fin.val_zero, Fin.val_one, Fin.val_two, Fin.reduceFinMk, q_10, q_01, not_false_eq_true, not_true_eq_false, forall_const, true_implies, false_implies, implies_true, q_ni, q_fi, q_nb0, q_nb1, q_fb0, q_fb1, q_nor, q_nar, q_for, q_far, q_non, q_nan, q_fon, q_fan, imp_false, false_and, and_false, and_self, false_or, or_false, va_rf, refKind, k_X10_died_0, k_X10_died_17, k_X10_died_36, o1, pAt e1 e2 hI.2.1, s_X10_isDay]
      rw [if_neg (fun h => c h.1)] at a
      exact ⟨fun c1 => absurd c1 c, fun _ => a⟩
  · exact h.elim)
-- common
def s_X10_common : q_Sp := fun av σ post => match av with
  | [.ref r, .int x, .int on] => ∃ z g, RegOK σ r z g ∧ I1 z ∧ (on = 0 ∨ on = 1) ∧ ∀ σ', RegOK σ' r (F_common z g x on).2.1 (F_common z g x on).2.2 → post (some (.int (F_common z g x on).1)) σ'
  | _ => False
theorem w9_333 : (.code yX2_mark cX2_mark 4 (some .int) : Cond) ∈ lw_tbl := by decide +kernel
theorem w9_334 : (.methodLink RX10 197 yX2_mark : Cond) ∈ lw_tbl := by decide +kernel
theorem w9_335 : (.instanceMethod yX2_mark : Cond) ∈ lw_tbl := by decide +kernel
theorem w9_336 : (.selects RX2 yX2_mark yX2_mark : Cond) ∈ lw_tbl := by decide +kernel
def rm_X10_common : Room := { frames := 2, cells := 0, slots := 0, locals := 43 }
def k_X10_common_0 (post : Option Value → q_S → Prop) (K : Nat → q_K) : q_K := (c_iload 1 (c_push 1 (c_push 999 (c_call3 none s_X10_isWithin 0 0 (c_ifne (c_aload 0 (c_get 10 8 (c_iload 1 (c_iload 2 (c_call3 (some 2) s_X2_mark 0 0 (c_iret post)))))) (c_push (-2) (c_iret post)))))))
set_option maxRecDepth 100000 in
theorem v_X10_common_0 {p : Program} {l : Launch} {e : Env} {s : State} {m : MethodId} {args : Array Value} {below : List Frame} {meth : Method} {c : Code} {D : va_G} {A : Nat → Prop} {post : Option Value → q_S → Prop} {K : Nat → q_K} (C : q_C p s m args meth c cX10_common 3 RX10 "common" (some .int) A) (hK : ∀ h ∈ ([] : List Nat), q_V p l e rm_X10_common s m args below meth c D A 3 (MQ below (q_Qc D A post) args s rm_X10_common.cells rm_X10_common.slots A) h (K h)) : q_V p l e rm_X10_common s m args below meth c D A 3 (MQ below (q_Qc D A post) args s rm_X10_common.cells rm_X10_common.slots A) 0 (k_X10_common_0 post K) := by
  unfold k_X10_common_0
  refine q_iload_n C (by decide +kernel : decode cX10_common 0 = .ok (.iload_n 1, 1)) ?_
  refine q_iconst C (by decide +kernel : decode cX10_common 1 = .ok (.iconst 1, 1)) (by decide) ?_
  refine q_sipush C (by decide +kernel : decode cX10_common 2 = .ok (.sipush 999, 3)) (by decide) ?_
  refine q_call3 C (q_coS C (np := 3) (t_X10_isWithin l) w9_0 w9_3 w9_2 w9_1 (by decide +kernel) (by decide +kernel : decode cX10_common 5 = .ok (.invokestatic 63, 3)) (by decide)) ?_
  refine q_ifne C (tgt := 14) (by decide +kernel : decode cX10_common 8 = .ok (.ifCond .ne 6, 3)) (by decide) ?_ ?_
  · refine q_aload_n C (by decide +kernel : decode cX10_common 14 = .ok (.aload_n 0, 1)) ?_
    refine q_get C (ci := 10) (j := 8) (C0 := RX10) (T := TX10) (N := 10) rfl iX10 giX10 (by decide) w9_323 (by decide +kernel : decode cX10_common 15 = .ok (.getfield 52, 3)) ?_
    refine q_iload_n C (by decide +kernel : decode cX10_common 18 = .ok (.iload_n 1, 1)) ?_
    refine q_iload_n C (by decide +kernel : decode cX10_common 19 = .ok (.iload_n 2, 1)) ?_
    refine q_call3 C (q_coV C (np := 2) (ci := 2) (rc := (RX2, TX2, 2)) (t_X2_mark l) w9_333 rfl rfl w9_334 w9_335 w9_336 w9_161 (by decide +kernel) (by decide +kernel : decode cX10_common 20 = .ok (.invokevirtual 197, 3)) (by decide)) ?_
    exact q_iret C rfl (by decide +kernel : decode cX10_common 23 = .ok (.ireturn, 1))
  · refine q_bipush C (by decide +kernel : decode cX10_common 11 = .ok (.bipush (-2), 2)) (by decide) ?_
    exact q_iret C rfl (by decide +kernel : decode cX10_common 13 = .ok (.ireturn, 1))
theorem u_X10_common (l : Launch) {sp : q_Sp} (H : ∀ (av : List Value) (σ : q_S) (post : Option Value → q_S → Prop), sp av σ post → k_X10_common_0 post (fun _ _ _ _ _ _ => False) (q_L0 av 3) [] σ 0 0 ∧ av.length ≤ 3 ∧ ∀ v ∈ av, v.category = 1) : q_Ct l yX10_common cX10_common 3 (some .int) rm_X10_common sp := by
  refine q_met (by decide) ?_
  intro D A p e s m args below meth c σ av post C hsp
  obtain ⟨h1, h2, h3⟩ := H av σ post hsp
  exact ⟨_, v_X10_common_0 (K := fun _ _ _ _ _ _ => False) C (fun h hh => by cases hh), h1, h2, h3⟩
theorem t_X10_common (l : Launch) : q_Ct l yX10_common cX10_common 3 (some .int) rm_X10_common s_X10_common := u_X10_common l (by
  intro av σ post h
  unfold s_X10_common at h
  split at h
  · next r x on =>
    refine ⟨?_, by simp, by simp [Value.category]⟩
    obtain ⟨z, g, hR, hI, hon, h1⟩ := h
    have hR0 := hR
    obtain ⟨Rg, P, AC, AR, WK, LC, CL, CM, CP, pa, aa, wa, sa, ga, la, lra, lc, lrn, hD⟩ := hR
    have e1 := hD.p1.2
    obtain ⟨k1, f, k2, k3⟩ := hD.p6
    have f1 : q_fld σ r 10 8 = some (.ref CL) := by simp only [q_fld, e1, if_true]; rfl
    have o1 : q_oc σ CL = some 2 := by simp only [q_oc, k1.2]
    have h20 := hI.n20
    unfold I1 at hI
    unfold F_common at h1
    simp only [c_push, c_null, c_iload, c_aload, c_istore, c_astore, c_iinc, c_iadd, c_isub, c_imul, c_iand, c_ineg, c_dup, c_dup2, c_pop, c_ifnull, c_ifnonnull, c_get, c_put, c_iald, c_zald, c_iast, c_zast, c_aald, c_aast, c_alen, c_new, c_newa, c_newq, c_mna, c_oinit, c_max, c_copy, c_iret, c_zret, c_aret, c_vret, q_do, q_rc, c_ifeq, c_ifne, c_iflt, c_ifge, c_ifgt, c_ifle, c_iceq, c_icne, c_iclt, c_icge, c_icgt, c_icle, c_call0, c_call1, c_call2, c_call3, c_call4, c_call5, c_call6, c_call7, q_L0, List.map_cons, List.map_nil, List.replicate, List.cons_append, List.nil_append, List.append_nil, List.length_cons, List.length_nil, List.length_set, Nat.reduceSub, Nat.reduceAdd, Nat.reduceLT, Nat.reduceLeDiff, Nat.zero_add, Nat.add_zero, Nat.sub_zero, Nat.sub_self, List.getElem?_cons_zero, List.getElem?_cons_succ, List.set_cons_zero, List.set_cons_succ, Option.toList_some, Option.toList_none, List.sum_cons, List.sum_nil, true_and, and_true, true_or, or_true, Nat.le_refl, Nat.zero_le, Value.category, Fin.isValue, Fin.val_zero, Fin.val_one, Fin.val_two, Fin.reduceFinMk, q_10, q_01, not_false_eq_true, not_true_eq_false, forall_const, true_implies, false_implies, implies_true, q_ni, q_fi, q_nb0, q_nb1, q_fb0, q_fb1, q_nor, q_nar, q_for, q_far, q_non, q_nan, q_fon, q_fan, imp_false, false_and, and_false, and_self, false_or, or_false, va_rf, refKind, k_X10_common_0, f1, o1, s_X10_isWithin, s_X2_mark, k1.2, k2.2]
    by_cases c : 1 ≤ x ∧ x ≤ 999
    · rw [if_pos c] at h1
      have hx : x.toNatClampNeg < 1000 := clamp_lt 1000 (by grind) (by grind)
      have ex := k3 _ hx
      refine ⟨fun _ => ⟨c, hon, fun c2 => ?_, fun c2 => ?_⟩, fun c2 => absurd c c2⟩
      · rw [if_pos ⟨c2.1, by rw [← ex]; exact c2.2.1, by grind⟩] at h1
        exact h1 _ hR0
      · rw [if_neg (fun h => c2 ⟨h.1, by rw [ex]; exact h.2.1, by rw [h.2.2]; decide⟩)] at h1
        dsimp only at h1
        rw [ex]
        refine h1 _ (hD.put1 (lrn' := lrn) (σ' := q_up (q_up σ CM (.inl (.boolean, 1000, .inl (upd f x.toNatClampNeg on)))) CL (.inr (2, [.ref CM, .int (z 31 + (on - (if g 32 x.toNatClampNeg = 0 then 0 else 1)))]))) 6 ((q_fm.up k2.1).trans (q_fm.up k1.1)) ⟨⟨k1.1, q_up_s⟩, _, ⟨k2.1, by rw [q_up_n (ne_ao k2.2 k1.2), q_up_s]⟩, fun y hy => ?_⟩
          (fun k hk h => h.cong (fun _ h => h) (fun _ h => h) (fun _ h => h) (fun _ h => h) (fun _ h => h) (fun e => absurd e hk) (fun i _ hi => ⟨hi, fun h => h.cong (Int32.le_refl _) rfl rfl rfl rfl rfl rfl rfl rfl rfl⟩) (fun i _ hi => ⟨hi, fun h => h⟩) (fun i _ hi => ⟨hi, fun h => h⟩) h20 h20))
        rw [gup_s]
        unfold upd
        by_cases e : y = x.toNatClampNeg
        · rw [if_pos e, if_pos e]
        · rw [if_neg e, if_neg e]; exact k3 y hy
    · rw [if_neg c] at h1
      have a := h1 _ hR0
      exact ⟨fun c2 => absurd c2 c, fun _ => a⟩
  · exact h.elim)
