theorem RegD.put {σ σ' : q_S} {Rg : Nat → Nat → Prop} {r P AC AR WK LC CL CM CP : Nat} {pa aa wa sa ga la lra lc : Nat → Nat} {lrn : Nat → Int32} {z : Nat → Int32} {g : Nat → Nat → Int32} (h : RegD σ Rg r P AC AR WK LC CL CM CP pa aa wa sa ga la lra lc lrn z g)
    {pa' aa' wa' sa' ga' la' lra' lc' : Nat → Nat} {lrn' : Nat → Int32} {z' : Nat → Int32} {g' : Nat → Nat → Int32} (T : Nat → Prop) (nR : Nat → Nat → Prop) (hd : ∀ t t' a, T t → T t' → nR t a → nR t' a → t = t')
    (hf : ∀ a e, (∀ t, T t → ¬ Rg t a) → σ a = some e → (∀ t, T t → ¬ nR t a) ∧ σ' a = some e) (h0 : ∀ k, T k → Part k σ' (nR k) r P AC AR WK LC CL CM CP pa' aa' wa' sa' ga' la' lra' lc' lrn' z' g')
    (hk : ∀ k, ¬ T k → Part k σ (Rg k) r P AC AR WK LC CL CM CP pa aa wa sa ga la lra lc lrn z g → Part k σ (Rg k) r P AC AR WK LC CL CM CP pa' aa' wa' sa' ga' la' lra' lc' lrn' z' g') : RegOK σ' r z' g' := by
  refine ⟨fun t a => (T t ∧ nR t a) ∨ (¬ T t ∧ Rg t a ∧ σ a ≠ none), P, AC, AR, WK, LC, CL, CM, CP, pa', aa', wa', sa', ga', la', lra', lc', lrn', fun t t' a h1 h2 => ?_, fun k => ?_⟩
  · have key : ∀ t t', T t → nR t a → ¬ T t' → Rg t' a → σ a ≠ none → False := fun t t' q1 q2 q3 q4 q5 => by
      cases he : σ a with
      | none => exact q5 he
      | some e => exact (hf a e (fun t9 h9 h8 => q3 (by rw [← h.1 _ _ _ h8 q4]; exact h9)) he).1 t q1 q2
    rcases h1 with ⟨h1, h3⟩ | ⟨h1, h3, h4⟩ <;> rcases h2 with ⟨h2, h5⟩ | ⟨h2, h5, h6⟩
    · exact hd _ _ _ h1 h2 h3 h5
    · exact (key _ _ h1 h3 h2 h5 h6).elim
    · exact (key _ _ h2 h5 h1 h3 h4).elim
    · exact h.1 _ _ _ h3 h5
  · rcases Classical.em (T k) with c | c
    · exact (h0 k c).fr (fun a e ha he => ⟨Or.inl ⟨c, ha⟩, he⟩)
    · exact (hk k c (h.2 k)).fr (fun a e ha he => ⟨Or.inr ⟨c, ha, by rw [he]; exact fun h => by cases h⟩, (hf a e (fun t9 h9 h8 => c (by rw [← h.1 _ _ _ h8 ha]; exact h9)) he).2⟩)
theorem Part.cong {k : Nat} {σ : q_S} {R : Nat → Prop} {r P AC AR WK LC CL CM CP : Nat} {pa aa wa sa ga la lra lc pa' aa' wa' sa' ga' la' lra' lc' : Nat → Nat} {lrn lrn' : Nat → Int32} {z z' : Nat → Int32} {g g' : Nat → Nat → Int32}
    (h : Part k σ R r P AC AR WK LC CL CM CP pa aa wa sa ga la lra lc lrn z g) (c1 : k = 1 → hv σ R r (rootE z P AC WK LC CL CP) → hv σ R r (rootE z' P AC WK LC CL CP)) (c2 : k = 2 → PersP σ R P pa lrn g (npF z) → PersP σ R P pa' lrn' g' (npF z')) (c3 : k = 3 → AcD σ R AC AR aa g (naF z) → AcD σ R AC AR aa' g' (naF z')) (c4 : k = 4 → WkP σ R WK pa wa sa ga la g (nwF z) → WkP σ R WK pa' wa' sa' ga' la' g' (nwF z')) (c5 : k = 5 → LcP σ R LC lc g (nlF z) → LcP σ R LC lc' g' (nlF z')) (c6 : k = 6 → CmP σ R CL CM (z 31) g → CmP σ R CL CM (z' 31) g')
    (cs : ∀ i, k = 100 + i → i < nwF z' → i < nwF z ∧ (ShP σ R (sa i) i z g → ShP σ R (sa' i) i z' g')) (ca : ∀ i, k = 200 + i → i < nwF z' → i < nwF z ∧ (AgP σ R (ga i) i g → AgP σ R (ga' i) i g')) (cl : ∀ i, k = 300 + i → i < nwF z' → i < nwF z ∧ (LnP σ R (la i) (lra i) i g → LnP σ R (la' i) (lra' i) i g')) (h20 : nwF z ≤ 20) (h20' : nwF z' ≤ 20) : Part k σ R r P AC AR WK LC CL CM CP pa' aa' wa' sa' ga' la' lra' lc' lrn' z' g' := by
  unfold Part at h ⊢
  by_cases e1 : k = 1
  · rw [if_pos e1] at h ⊢; exact c1 e1 h
  rw [if_neg e1] at h ⊢
  by_cases e2 : k = 2
  · rw [if_pos e2] at h ⊢; exact c2 e2 h
  rw [if_neg e2] at h ⊢
  by_cases e3 : k = 3
  · rw [if_pos e3] at h ⊢; exact c3 e3 h
  rw [if_neg e3] at h ⊢
  by_cases e4 : k = 4
  · rw [if_pos e4] at h ⊢; exact c4 e4 h
  rw [if_neg e4] at h ⊢
  by_cases e5 : k = 5
  · rw [if_pos e5] at h ⊢; exact c5 e5 h
  rw [if_neg e5] at h ⊢
  by_cases e6 : k = 6
  · rw [if_pos e6] at h ⊢; exact c6 e6 h
  rw [if_neg e6] at h ⊢
  by_cases e7 : k = 7
  · rw [if_pos e7] at h ⊢; exact h
  rw [if_neg e7] at h ⊢
  by_cases e8 : 100 ≤ k ∧ k < 100 + nwF z'
  · rw [if_pos e8]
    have q := cs (k - 100) (by omega) (by omega)
    rw [if_pos (by omega)] at h
    exact q.2 h
  rw [if_neg e8]
  by_cases e9 : 200 ≤ k ∧ k < 200 + nwF z'
  · rw [if_pos e9]
    have q := ca (k - 200) (by omega) (by omega)
    rw [if_neg (by omega), if_pos (by omega)] at h
    exact q.2 h
  rw [if_neg e9]
  by_cases e10 : 300 ≤ k ∧ k < 300 + nwF z'
  · rw [if_pos e10]
    have q := cl (k - 300) (by omega) (by omega)
    rw [if_neg (by omega), if_neg (by omega), if_pos (by omega)] at h
    exact q.2 h
  rw [if_neg e10]
  trivial
theorem I1.n20 {z : Nat → Int32} (h : I1 z) : nwF z ≤ 20 := clamp_le 20 h.2.2.2.1.1 h.2.2.2.1.2
-- days
theorem ShP.day {σ : q_S} {R : Nat → Prop} {s i : Nat} {z : Nat → Int32} {g : Nat → Nat → Int32} (h : ShP σ R s i z g) {v : Int32} (hv : z 0 ≤ v) : ShP σ R s i (upd z 0 v) g := by
  obtain ⟨pgs, h1, ⟨x, t, e, hx⟩, h3, h4⟩ := h
  exact ⟨pgs, h1, ⟨x, t, e, Int32.le_trans hx hv⟩, h3, h4⟩
def s_X10_days : q_Sp := fun av σ post => match av with
  | [.ref r, .int n] => ∃ z g, RegOK σ r z g ∧ I1 z ∧ ∀ σ', RegOK σ' r (F_days z n).2 g → post (some (.int (F_days z n).1)) σ'
  | _ => False
theorem w9_320 : (.fieldLink RX10 9 (TX10 0).1 (TX10 0).2.1 (TX10 0).2.2.1 : Cond) ∈ lw_tbl := by decide +kernel
def rm_X10_days : Room := { frames := 1, cells := 0, slots := 0, locals := 22 }
def k_X10_days_23 (post : Option Value → q_S → Prop) (K : Nat → q_K) : q_K := (c_push (-2) (c_iret post))
def k_X10_days_0 (post : Option Value → q_S → Prop) (K : Nat → q_K) : q_K := (c_iload 1 (c_push 1 (c_push 500 (c_call3 none s_X10_isWithin 0 0 (c_ifeq (k_X10_days_23 post K) (c_aload 0 (c_get 10 0 (c_iload 1 (c_iadd (c_push 3000 (c_icle (c_aload 0 (c_dup (c_get 10 0 (c_iload 1 (c_iadd (c_put 10 0 (.int) (c_aload 0 (c_get 10 0 (c_iret post))))))))) (k_X10_days_23 post K))))))))))))
set_option maxRecDepth 100000 in
theorem v_X10_days_23 {p : Program} {l : Launch} {e : Env} {s : State} {m : MethodId} {args : Array Value} {below : List Frame} {meth : Method} {c : Code} {D : va_G} {A : Nat → Prop} {post : Option Value → q_S → Prop} {K : Nat → q_K} (C : q_C p s m args meth c cX10_days 2 RX10 "days" (some .int) A) (hK : ∀ h ∈ ([] : List Nat), q_V p l e rm_X10_days s m args below meth c D A 2 (MQ below (q_Qc D A post) args s rm_X10_days.cells rm_X10_days.slots A) h (K h)) : q_V p l e rm_X10_days s m args below meth c D A 2 (MQ below (q_Qc D A post) args s rm_X10_days.cells rm_X10_days.slots A) 23 (k_X10_days_23 post K) := by
  unfold k_X10_days_23
  refine q_bipush C (by decide +kernel : decode cX10_days 23 = .ok (.bipush (-2), 2)) (by decide) ?_
  exact q_iret C rfl (by decide +kernel : decode cX10_days 25 = .ok (.ireturn, 1))
set_option maxRecDepth 100000 in
theorem v_X10_days_0 {p : Program} {l : Launch} {e : Env} {s : State} {m : MethodId} {args : Array Value} {below : List Frame} {meth : Method} {c : Code} {D : va_G} {A : Nat → Prop} {post : Option Value → q_S → Prop} {K : Nat → q_K} (C : q_C p s m args meth c cX10_days 2 RX10 "days" (some .int) A) (hK : ∀ h ∈ ([] : List Nat), q_V p l e rm_X10_days s m args below meth c D A 2 (MQ below (q_Qc D A post) args s rm_X10_days.cells rm_X10_days.slots A) h (K h)) : q_V p l e rm_X10_days s m args below meth c D A 2 (MQ below (q_Qc D A post) args s rm_X10_days.cells rm_X10_days.slots A) 0 (k_X10_days_0 post K) := by
  unfold k_X10_days_0
  refine q_iload_n C (by decide +kernel : decode cX10_days 0 = .ok (.iload_n 1, 1)) ?_
  refine q_iconst C (by decide +kernel : decode cX10_days 1 = .ok (.iconst 1, 1)) (by decide) ?_
  refine q_sipush C (by decide +kernel : decode cX10_days 2 = .ok (.sipush 500, 3)) (by decide) ?_
  refine q_call3 C (q_coS C (np := 3) (t_X10_isWithin l) w9_0 w9_3 w9_2 w9_1 (by decide +kernel) (by decide +kernel : decode cX10_days 5 = .ok (.invokestatic 63, 3)) (by decide)) ?_
  refine q_ifeq C (tgt := 23) (by decide +kernel : decode cX10_days 8 = .ok (.ifCond .eq 15, 3)) (by decide) ?_ ?_
  · exact v_X10_days_23 C hK
  · refine q_aload_n C (by decide +kernel : decode cX10_days 11 = .ok (.aload_n 0, 1)) ?_
    refine q_get C (ci := 10) (j := 0) (C0 := RX10) (T := TX10) (N := 10) rfl iX10 giX10 (by decide) w9_320 (by decide +kernel : decode cX10_days 12 = .ok (.getfield 9, 3)) ?_
    refine q_iload_n C (by decide +kernel : decode cX10_days 15 = .ok (.iload_n 1, 1)) ?_
    refine q_iadd C (by decide +kernel : decode cX10_days 16 = .ok (.iadd, 1)) ?_
    refine q_sipush C (by decide +kernel : decode cX10_days 17 = .ok (.sipush 3000, 3)) (by decide) ?_
    refine q_icle C (tgt := 26) (by decide +kernel : decode cX10_days 20 = .ok (.if_icmp .le 6, 3)) (by decide) ?_ ?_
    · refine q_aload_n C (by decide +kernel : decode cX10_days 26 = .ok (.aload_n 0, 1)) ?_
      refine q_dup C (by decide +kernel : decode cX10_days 27 = .ok (.dup, 1)) ?_
      refine q_get C (ci := 10) (j := 0) (C0 := RX10) (T := TX10) (N := 10) rfl iX10 giX10 (by decide) w9_320 (by decide +kernel : decode cX10_days 28 = .ok (.getfield 9, 3)) ?_
      refine q_iload_n C (by decide +kernel : decode cX10_days 31 = .ok (.iload_n 1, 1)) ?_
      refine q_iadd C (by decide +kernel : decode cX10_days 32 = .ok (.iadd, 1)) ?_
      refine q_put C (ci := 10) (j := 0) (C0 := RX10) (T := TX10) (N := 10) (ty := .int) rfl iX10 giX10 (by decide) tyX10 tyX10_ok nmX10 (by decide +kernel) rfl w9_320 (by decide +kernel : decode cX10_days 33 = .ok (.putfield 9, 3)) ?_
      refine q_aload_n C (by decide +kernel : decode cX10_days 36 = .ok (.aload_n 0, 1)) ?_
      refine q_get C (ci := 10) (j := 0) (C0 := RX10) (T := TX10) (N := 10) rfl iX10 giX10 (by decide) w9_320 (by decide +kernel : decode cX10_days 37 = .ok (.getfield 9, 3)) ?_
      exact q_iret C rfl (by decide +kernel : decode cX10_days 40 = .ok (.ireturn, 1))
    · exact v_X10_days_23 C hK
theorem u_X10_days (l : Launch) {sp : q_Sp} (H : ∀ (av : List Value) (σ : q_S) (post : Option Value → q_S → Prop), sp av σ post → k_X10_days_0 post (fun _ _ _ _ _ _ => False) (q_L0 av 2) [] σ 0 0 ∧ av.length ≤ 2 ∧ ∀ v ∈ av, v.category = 1) : q_Ct l yX10_days cX10_days 2 (some .int) rm_X10_days sp := by
  refine q_met (by decide) ?_
  intro D A p e s m args below meth c σ av post C hsp
  obtain ⟨h1, h2, h3⟩ := H av σ post hsp
  exact ⟨_, v_X10_days_0 (K := fun _ _ _ _ _ _ => False) C (fun h hh => by cases hh), h1, h2, h3⟩
theorem t_X10_days (l : Launch) : q_Ct l yX10_days cX10_days 2 (some .int) rm_X10_days s_X10_days := u_X10_days l (by
  intro av σ post h
  unfold s_X10_days at h
  split at h
  · next r n =>
    refine ⟨?_, by simp, by simp [Value.category]⟩
    obtain ⟨z, g, hR, hI, h1⟩ := h
    have hR0 := hR
    obtain ⟨Rg, P, AC, AR, WK, LC, CL, CM, CP, pa, aa, wa, sa, ga, la, lra, lc, lrn, hD⟩ := hR
    have e1 := hD.p1.2
    have h20 := hI.n20
    simp only [c_push, c_null, c_iload, c_aload, c_istore, c_astore, c_iinc, c_iadd, c_isub, c_imul, c_iand, c_ineg, c_dup, c_dup2, c_pop, c_ifnull, c_ifnonnull, c_get, c_put, c_iald, c_zald, c_iast, c_zast, c_aald, c_aast, c_alen, c_new, c_newa, c_newq, c_mna, c_oinit, c_max, c_copy, c_iret, c_zret, c_aret, c_vret, q_do, q_rc, c_ifeq, c_ifne, c_iflt, c_ifge, c_ifgt, c_ifle, c_iceq, c_icne, c_iclt, c_icge, c_icgt, c_icle, c_call0, c_call1, c_call2, c_call3, c_call4, c_call5, c_call6, c_call7, q_L0, List.map_cons, List.map_nil, List.replicate, List.cons_append, List.nil_append, List.append_nil, List.length_cons, List.length_nil, List.length_set, Nat.reduceSub, Nat.reduceAdd, Nat.reduceLT, Nat.reduceLeDiff, Nat.zero_add, Nat.add_zero, Nat.sub_zero, Nat.sub_self, List.getElem?_cons_zero, List.getElem?_cons_succ, List.set_cons_zero, List.set_cons_succ, Option.toList_some, Option.toList_none, List.sum_cons, List.sum_nil, true_and, and_true, true_or, or_true, Nat.le_refl, Nat.zero_le, Value.category, Fin.isValue, Fin.val_zero, Fin.val_one, Fin.val_two, Fin.reduceFinMk, q_10, q_01, not_false_eq_true, not_true_eq_false, forall_const, true_implies, false_implies, implies_true, q_ni, q_fi, q_nb0, q_nb1, q_fb0, q_fb1, q_nor, q_nar, q_for, q_far, q_non, q_nan, q_fon, q_fan, imp_false, false_and, and_false, and_self, false_or, or_false, va_rf, refKind, k_X10_days_0, k_X10_days_23, q_fld, q_fset, q_oc, q_ai, q_aq, q_len, q_up_s, q_up_up, if_true, e1, s_X10_isWithin]
    unfold F_days at h1
    split at h1
    · next c =>
      have hI2 := hI
      unfold I1 at hI
      have a : post (some (.int (z 0 + n))) (q_up σ r (.inr (10, [.int (z 0 + n), .ref P, .int (z 1), .ref AC, .ref WK, .int (z 11), .ref LC, .int (z 22), .ref CL, .ref CP]))) := h1 _ (hD.put (σ' := q_up σ r (rootE (upd z 0 (z 0 + n)) P AC WK LC CL CP)) (fun t => t = 1) (fun t a => Rg 1 a) (fun t t' a h1 h2 _ _ => by rw [h1, h2]) (fun a e ha he => ⟨fun t ht => ha 1 rfl, by rw [q_up_n (fun e9 => ha 1 rfl (by rw [e9]; exact hD.p1.1))]; exact he⟩) (fun k hk => by subst hk; exact ⟨hD.p1.1, q_up_s⟩)
        (fun k hk h => h.cong (fun e => absurd e hk) (fun _ h => h) (fun _ h => h) (fun _ h => h) (fun _ h => h) (fun _ h => h) (fun i _ hi => ⟨hi, fun h => h.day (by grind)⟩) (fun i _ hi => ⟨hi, fun h => h⟩) (fun i _ hi => ⟨hi, fun h => h⟩) h20 h20))
      clear h1
      grind
    · have a := h1 _ hR0
      clear h1
      grind
  · exact h.elim)
def s_X10_count : q_Sp := fun av σ post => match av with
  | [.ref r, .int x] => ∃ z g, RegOK σ r z g ∧ I1 z ∧ ∀ σ', RegOK σ' r z g → post (some (.int (F_count z x))) σ'
  | _ => False
theorem w9_321 : (.fieldLink RX10 27 (TX10 3).1 (TX10 3).2.1 (TX10 3).2.2.1 : Cond) ∈ lw_tbl := by decide +kernel
theorem w9_322 : (.fieldLink RX10 46 (TX10 7).1 (TX10 7).2.1 (TX10 7).2.2.1 : Cond) ∈ lw_tbl := by decide +kernel
theorem w9_323 : (.fieldLink RX10 52 (TX10 8).1 (TX10 8).2.1 (TX10 8).2.2.1 : Cond) ∈ lw_tbl := by decide +kernel
def rm_X10_count : Room := { frames := 0, cells := 0, slots := 0, locals := 0 }
def k_X10_count_0 (post : Option Value → q_S → Prop) (K : Nat → q_K) : q_K := (c_iload 1 (c_tsw 0 [(c_aload 0 (c_get 10 0 (c_iret post))), (c_aload 0 (c_get 10 2 (c_iret post))), (c_aload 0 (c_get 10 3 (c_get 1 1 (c_iret post)))), (c_aload 0 (c_get 10 5 (c_iret post))), (c_aload 0 (c_get 10 7 (c_iret post))), (c_aload 0 (c_get 10 8 (c_get 2 1 (c_iret post))))] (c_push (-2) (c_iret post))))
set_option maxRecDepth 100000 in
theorem v_X10_count_0 {p : Program} {l : Launch} {e : Env} {s : State} {m : MethodId} {args : Array Value} {below : List Frame} {meth : Method} {c : Code} {D : va_G} {A : Nat → Prop} {post : Option Value → q_S → Prop} {K : Nat → q_K} (C : q_C p s m args meth c cX10_count 2 RX10 "count" (some .int) A) (hK : ∀ h ∈ ([] : List Nat), q_V p l e rm_X10_count s m args below meth c D A 2 (MQ below (q_Qc D A post) args s rm_X10_count.cells rm_X10_count.slots A) h (K h)) : q_V p l e rm_X10_count s m args below meth c D A 2 (MQ below (q_Qc D A post) args s rm_X10_count.cells rm_X10_count.slots A) 0 (k_X10_count_0 post K) := by
  unfold k_X10_count_0
  refine q_iload_n C (by decide +kernel : decode cX10_count 0 = .ok (.iload_n 1, 1)) ?_
  refine q_tsw C (tgt := 76) (by decide +kernel : decode cX10_count 1 = .ok (.tableswitch 75 0 5 #[39, 44, 49, 57, 62, 67], 39)) (by rfl) (by decide) ?_ (fun i ki hi => ?_)
  · refine q_bipush C (by decide +kernel : decode cX10_count 76 = .ok (.bipush (-2), 2)) (by decide) ?_
    exact q_iret C rfl (by decide +kernel : decode cX10_count 78 = .ok (.ireturn, 1))
  · match i, hi with
    | 0, hi =>
      cases hi
      refine ⟨39, 40, by decide, by decide, ?_⟩
      refine q_aload_n C (by decide +kernel : decode cX10_count 40 = .ok (.aload_n 0, 1)) ?_
      refine q_get C (ci := 10) (j := 0) (C0 := RX10) (T := TX10) (N := 10) rfl iX10 giX10 (by decide) w9_320 (by decide +kernel : decode cX10_count 41 = .ok (.getfield 9, 3)) ?_
      exact q_iret C rfl (by decide +kernel : decode cX10_count 44 = .ok (.ireturn, 1))
    | 1, hi =>
      cases hi
      refine ⟨44, 45, by decide, by decide, ?_⟩
      refine q_aload_n C (by decide +kernel : decode cX10_count 45 = .ok (.aload_n 0, 1)) ?_
      refine q_get C (ci := 10) (j := 2) (C0 := RX10) (T := TX10) (N := 10) rfl iX10 giX10 (by decide) w9_312 (by decide +kernel : decode cX10_count 46 = .ok (.getfield 21, 3)) ?_
      exact q_iret C rfl (by decide +kernel : decode cX10_count 49 = .ok (.ireturn, 1))
    | 2, hi =>
      cases hi
      refine ⟨49, 50, by decide, by decide, ?_⟩
      refine q_aload_n C (by decide +kernel : decode cX10_count 50 = .ok (.aload_n 0, 1)) ?_
      refine q_get C (ci := 10) (j := 3) (C0 := RX10) (T := TX10) (N := 10) rfl iX10 giX10 (by decide) w9_321 (by decide +kernel : decode cX10_count 51 = .ok (.getfield 27, 3)) ?_
      refine q_getN C (ci := 1) (j := 1) (C0 := RX1) (T := TX1) (N := 2) rfl iX1 giX1 (by decide) (by decide +kernel) (by decide +kernel : decode cX10_count 54 = .ok (.getfield 213, 3)) ?_
      exact q_iret C rfl (by decide +kernel : decode cX10_count 57 = .ok (.ireturn, 1))
    | 3, hi =>
      cases hi
      refine ⟨57, 58, by decide, by decide, ?_⟩
      refine q_aload_n C (by decide +kernel : decode cX10_count 58 = .ok (.aload_n 0, 1)) ?_
      refine q_get C (ci := 10) (j := 5) (C0 := RX10) (T := TX10) (N := 10) rfl iX10 giX10 (by decide) w9_314 (by decide +kernel : decode cX10_count 59 = .ok (.getfield 37, 3)) ?_
      exact q_iret C rfl (by decide +kernel : decode cX10_count 62 = .ok (.ireturn, 1))
    | 4, hi =>
      cases hi
      refine ⟨62, 63, by decide, by decide, ?_⟩
      refine q_aload_n C (by decide +kernel : decode cX10_count 63 = .ok (.aload_n 0, 1)) ?_
      refine q_get C (ci := 10) (j := 7) (C0 := RX10) (T := TX10) (N := 10) rfl iX10 giX10 (by decide) w9_322 (by decide +kernel : decode cX10_count 64 = .ok (.getfield 46, 3)) ?_
      exact q_iret C rfl (by decide +kernel : decode cX10_count 67 = .ok (.ireturn, 1))
    | 5, hi =>
      cases hi
      refine ⟨67, 68, by decide, by decide, ?_⟩
      refine q_aload_n C (by decide +kernel : decode cX10_count 68 = .ok (.aload_n 0, 1)) ?_
      refine q_get C (ci := 10) (j := 8) (C0 := RX10) (T := TX10) (N := 10) rfl iX10 giX10 (by decide) w9_323 (by decide +kernel : decode cX10_count 69 = .ok (.getfield 52, 3)) ?_
      refine q_getN C (ci := 2) (j := 1) (C0 := RX2) (T := TX2) (N := 2) rfl iX2 giX2 (by decide) (by decide +kernel) (by decide +kernel : decode cX10_count 72 = .ok (.getfield 216, 3)) ?_
      exact q_iret C rfl (by decide +kernel : decode cX10_count 75 = .ok (.ireturn, 1))
    | i + 6, hi => simp at hi
theorem u_X10_count (l : Launch) {sp : q_Sp} (H : ∀ (av : List Value) (σ : q_S) (post : Option Value → q_S → Prop), sp av σ post → k_X10_count_0 post (fun _ _ _ _ _ _ => False) (q_L0 av 2) [] σ 0 0 ∧ av.length ≤ 2 ∧ ∀ v ∈ av, v.category = 1) : q_Ct l yX10_count cX10_count 2 (some .int) rm_X10_count sp := by
  refine q_met (by decide) ?_
  intro D A p e s m args below meth c σ av post C hsp
  obtain ⟨h1, h2, h3⟩ := H av σ post hsp
  exact ⟨_, v_X10_count_0 (K := fun _ _ _ _ _ _ => False) C (fun h hh => by cases hh), h1, h2, h3⟩
theorem t_X10_count (l : Launch) : q_Ct l yX10_count cX10_count 2 (some .int) rm_X10_count s_X10_count := u_X10_count l (by
  intro av σ post h
  unfold s_X10_count at h
  split at h
  · next r x =>
    refine ⟨?_, by simp, by simp [Value.category]⟩
    obtain ⟨z, g, hR, hI, h1⟩ := h
    have h2 := h1 _ hR
    obtain ⟨Rg, P, AC, AR, WK, LC, CL, CM, CP, pa, aa, wa, sa, ga, la, lra, lc, lrn, hD⟩ := hR
    have e1 := hD.p1.2
    have e2 := hD.p3.1.2
    have e3 := hD.p6.1.2
    have e4 : nI (naF z) = z 5 := nI_self hI.2.2.1.1
    rw [e4] at e2
    simp only [c_push, c_null, c_iload, c_aload, c_istore, c_astore, c_iinc, c_iadd, c_isub, c_imul, c_iand, c_ineg, c_dup, c_dup2, c_pop, c_ifnull, c_ifnonnull, c_get, c_put, c_iald, c_zald, c_iast, c_zast, c_aald, c_aast, c_alen, c_new, c_newa, c_newq, c_mna, c_oinit, c_max, c_copy, c_iret, c_zret, c_aret, c_vret, q_do, q_rc, c_ifeq, c_ifne, c_iflt, c_ifge, c_ifgt, c_ifle, c_iceq, c_icne, c_iclt, c_icge, c_icgt, c_icle, c_call0, c_call1, c_call2, c_call3, c_call4, c_call5, c_call6, c_call7, q_L0, List.map_cons, List.map_nil, List.replicate, List.cons_append, List.nil_append, List.append_nil, List.length_cons, List.length_nil, List.length_set, Nat.reduceSub, Nat.reduceAdd, Nat.reduceLT, Nat.reduceLeDiff, Nat.zero_add, Nat.add_zero, Nat.sub_zero, Nat.sub_self, List.getElem?_cons_zero, List.getElem?_cons_succ, List.set_cons_zero, List.set_cons_succ, Option.toList_some, Option.toList_none, List.sum_cons, List.sum_nil, true_and, and_true, true_or, or_true, Nat.le_refl, Nat.zero_le, Value.category, Fin.isValue, Fin.val_zero, Fin.val_one, Fin.val_two, Fin.reduceFinMk, q_10, q_01, not_false_eq_true, not_true_eq_false, forall_const, true_implies, false_implies, implies_true, q_ni, q_fi, q_nb0, q_nb1, q_fb0, q_fb1, q_nor, q_nar, q_for, q_far, q_non, q_nan, q_fon, q_fan, imp_false, false_and, and_false, and_self, false_or, or_false, va_rf, refKind, k_X10_count_0, c_tsw]
    refine ⟨fun i ki hi hx => ?_, fun c => ?_⟩
    · rcases i with _ | _ | _ | _ | _ | _ | i
      all_goals first
        | (cases hi
           have e := ofI hx (by decide)
           subst e
           simp only [c_push, c_null, c_iload, c_aload, c_istore, c_astore, c_iinc, c_iadd, c_isub, c_imul, c_iand, c_ineg, c_dup, c_dup2, c_pop, c_ifnull, c_ifnonnull, c_get, c_put, c_iald, c_zald, c_iast, c_zast, c_aald, c_aast, c_alen, c_new, c_newa, c_newq, c_mna, c_oinit, c_max, c_copy, c_iret, c_zret, c_aret, c_vret, q_do, q_rc, c_ifeq, c_ifne, c_iflt, c_ifge, c_ifgt, c_ifle, c_iceq, c_icne, c_iclt, c_icge, c_icgt, c_icle, c_call0, c_call1, c_call2, c_call3, c_call4, c_call5, c_call6, c_call7, q_L0, List.map_cons, List.map_nil, List.replicate, List.cons_append, List.nil_append, List.append_nil, List.length_cons, List.length_nil, List.length_set, Nat.reduceSub, Nat.reduceAdd, Nat.reduceLT, Nat.reduceLeDiff, Nat.zero_add, Nat.add_zero, Nat.sub_zero, Nat.sub_self, List.getElem?_cons_zero, List.getElem?_cons_succ, List.set_cons_zero, List.set_cons_succ, Option.toList_some, Option.toList_none, List.sum_cons, List.sum_nil, true_and, and_true, true_or, or_true, Nat.le_refl, Nat.zero_le, Value.category, Fin.isValue, Fin.val_zero, Fin.val_one, Fin.val_two, Fin.reduceFinMk, q_10, q_01, not_false_eq_true, not_true_eq_false, forall_const, true_implies, false_implies, implies_true, q_ni, q_fi, q_nb0, q_nb1, q_fb0, q_fb1, q_nor, q_nar, q_for, q_far, q_non, q_nan, q_fon, q_fan, imp_false, false_and, and_false, and_self, false_or, or_false, va_rf, refKind, q_fld, q_fset, q_oc, q_ai, q_aq, q_len, q_up_s, q_up_up, if_true, e1, e2, e3]
           exact h2)
        | (simp at hi)
    · have n0 : ∀ i : Nat, i < 6 → x ≠ nI i := fun i hi e => by
        rw [e, nI_toInt (by omega)] at c
        omega
      rw [F_count, if_neg (show ¬ x = 0 from n0 0 (by decide)), if_neg (show ¬ x = 1 from n0 1 (by decide)), if_neg (show ¬ x = 2 from n0 2 (by decide)), if_neg (show ¬ x = 3 from n0 3 (by decide)), if_neg (show ¬ x = 4 from n0 4 (by decide)), if_neg (show ¬ x = 5 from n0 5 (by decide))] at h2
      exact h2
  · exact h.elim)
