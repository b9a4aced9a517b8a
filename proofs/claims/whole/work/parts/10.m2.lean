-- actAt
def actF (g : Nat → Nat → Int32) (on : Int32) : Nat → Int32
  | 0 => -1
  | n + 1 => if g 6 n ≤ on then nI n else actF g on n
def s_X11_actAt : q_Sp := fun av σ post => match av with
  | [.ref mr, .int on] => ∃ ad z g gp r, mOKx σ mr ad z g gp r ∧ (0 ≤ z 5 ∧ z 5 ≤ 6) ∧ post (some (.int (actF g on (z 5).toNatClampNeg))) σ
  | _ => False
def rm_X11_actAt : Room := { frames := 0, cells := 0, slots := 0, locals := 0 }
def k_X11_actAt_0 (post : Option Value → q_S → Prop) (K : Nat → q_K) : q_K := (c_push (-1) (c_istore 2 (c_push 0 (c_istore 3 (K 4)))))
def k_X11_actAt_27 (post : Option Value → q_S → Prop) (K : Nat → q_K) : q_K := (c_istore 2 (c_iinc 3 1 (K 4)))
def k_X11_actAt_4 (post : Option Value → q_S → Prop) (K : Nat → q_K) : q_K := (c_iload 3 (c_aload 0 (c_get 11 5 (c_icge (c_iload 2 (c_iret post)) (c_aload 0 (c_get 11 6 (c_iload 3 (c_iald (c_iload 1 (c_icgt (c_iload 2 (k_X11_actAt_27 post K)) (c_iload 3 (k_X11_actAt_27 post K))))))))))))
set_option maxRecDepth 100000 in
theorem v_X11_actAt_0 {p : Program} {l : Launch} {e : Env} {s : State} {m : MethodId} {args : Array Value} {below : List Frame} {meth : Method} {c : Code} {D : va_G} {A : Nat → Prop} {post : Option Value → q_S → Prop} {K : Nat → q_K} (C : q_C p s m args meth c cX11_actAt 4 RX11 "actAt" (some .int) A) (hK : ∀ h ∈ ([4] : List Nat), q_V p l e rm_X11_actAt s m args below meth c D A 4 (MQ below (q_Qc D A post) args s rm_X11_actAt.cells rm_X11_actAt.slots A) h (K h)) : q_V p l e rm_X11_actAt s m args below meth c D A 4 (MQ below (q_Qc D A post) args s rm_X11_actAt.cells rm_X11_actAt.slots A) 0 (k_X11_actAt_0 post K) := by
  unfold k_X11_actAt_0
  refine q_iconst C (by decide +kernel : decode cX11_actAt 0 = .ok (.iconst (-1), 1)) (by decide) ?_
  refine q_istore_n C (by decide +kernel : decode cX11_actAt 1 = .ok (.istore_n 2, 1)) ?_
  refine q_iconst C (by decide +kernel : decode cX11_actAt 2 = .ok (.iconst 0, 1)) (by decide) ?_
  refine q_istore_n C (by decide +kernel : decode cX11_actAt 3 = .ok (.istore_n 3, 1)) ?_
  exact hK 4 (by decide)
set_option maxRecDepth 100000 in
theorem v_X11_actAt_27 {p : Program} {l : Launch} {e : Env} {s : State} {m : MethodId} {args : Array Value} {below : List Frame} {meth : Method} {c : Code} {D : va_G} {A : Nat → Prop} {post : Option Value → q_S → Prop} {K : Nat → q_K} (C : q_C p s m args meth c cX11_actAt 4 RX11 "actAt" (some .int) A) (hK : ∀ h ∈ ([4] : List Nat), q_V p l e rm_X11_actAt s m args below meth c D A 4 (MQ below (q_Qc D A post) args s rm_X11_actAt.cells rm_X11_actAt.slots A) h (K h)) : q_V p l e rm_X11_actAt s m args below meth c D A 4 (MQ below (q_Qc D A post) args s rm_X11_actAt.cells rm_X11_actAt.slots A) 27 (k_X11_actAt_27 post K) := by
  unfold k_X11_actAt_27
  refine q_istore_n C (by decide +kernel : decode cX11_actAt 27 = .ok (.istore_n 2, 1)) ?_
  refine q_iinc C (by decide +kernel : decode cX11_actAt 28 = .ok (.iinc 3 1, 3)) (by decide) ?_
  refine q_goto C (tgt := 4) (by decide +kernel : decode cX11_actAt 31 = .ok (.goto (-27), 3)) (by decide) ?_
  exact hK 4 (by decide)
set_option maxRecDepth 100000 in
theorem v_X11_actAt_4 {p : Program} {l : Launch} {e : Env} {s : State} {m : MethodId} {args : Array Value} {below : List Frame} {meth : Method} {c : Code} {D : va_G} {A : Nat → Prop} {post : Option Value → q_S → Prop} {K : Nat → q_K} (C : q_C p s m args meth c cX11_actAt 4 RX11 "actAt" (some .int) A) (hK : ∀ h ∈ ([4] : List Nat), q_V p l e rm_X11_actAt s m args below meth c D A 4 (MQ below (q_Qc D A post) args s rm_X11_actAt.cells rm_X11_actAt.slots A) h (K h)) : q_V p l e rm_X11_actAt s m args below meth c D A 4 (MQ below (q_Qc D A post) args s rm_X11_actAt.cells rm_X11_actAt.slots A) 4 (k_X11_actAt_4 post K) := by
  unfold k_X11_actAt_4
  refine q_iload_n C (by decide +kernel : decode cX11_actAt 4 = .ok (.iload_n 3, 1)) ?_
  refine q_aload_n C (by decide +kernel : decode cX11_actAt 5 = .ok (.aload_n 0, 1)) ?_
  refine q_get C (ci := 11) (j := 5) (C0 := RX11) (T := TX11) (N := 35) rfl iX11 giX11 (by decide) w9_22 (by decide +kernel : decode cX11_actAt 6 = .ok (.getfield 122, 3)) ?_
  refine q_icge C (tgt := 34) (by decide +kernel : decode cX11_actAt 9 = .ok (.if_icmp .ge 25, 3)) (by decide) ?_ ?_
  · refine q_iload_n C (by decide +kernel : decode cX11_actAt 34 = .ok (.iload_n 2, 1)) ?_
    exact q_iret C rfl (by decide +kernel : decode cX11_actAt 35 = .ok (.ireturn, 1))
  · refine q_aload_n C (by decide +kernel : decode cX11_actAt 12 = .ok (.aload_n 0, 1)) ?_
    refine q_get C (ci := 11) (j := 6) (C0 := RX11) (T := TX11) (N := 35) rfl iX11 giX11 (by decide) w9_23 (by decide +kernel : decode cX11_actAt 13 = .ok (.getfield 19, 3)) ?_
    refine q_iload_n C (by decide +kernel : decode cX11_actAt 16 = .ok (.iload_n 3, 1)) ?_
    refine q_iald C (by decide +kernel : decode cX11_actAt 17 = .ok (.iaload, 1)) ?_
    refine q_iload_n C (by decide +kernel : decode cX11_actAt 18 = .ok (.iload_n 1, 1)) ?_
    refine q_icgt C (tgt := 26) (by decide +kernel : decode cX11_actAt 19 = .ok (.if_icmp .gt 7, 3)) (by decide) ?_ ?_
    · refine q_iload_n C (by decide +kernel : decode cX11_actAt 26 = .ok (.iload_n 2, 1)) ?_
      exact v_X11_actAt_27 C hK
    · refine q_iload_n C (by decide +kernel : decode cX11_actAt 22 = .ok (.iload_n 3, 1)) ?_
      refine q_goto C (tgt := 27) (by decide +kernel : decode cX11_actAt 23 = .ok (.goto 4, 3)) (by decide) ?_
      exact v_X11_actAt_27 C hK
theorem u_X11_actAt (l : Launch) {sp : q_Sp} (H : ∀ (av : List Value) (σ : q_S) (post : Option Value → q_S → Prop), sp av σ post → ∃ Inv : Nat → Nat → q_K, (∀ K : Nat → q_K, (∀ (h n : Nat) (L : List (Option Value)) (st : List Value) (σ : q_S) (cr sr : Nat), Inv h n L st σ cr sr → K h L st σ cr sr) → k_X11_actAt_0 post K (q_L0 av 4) [] σ 0 0) ∧ (∀ (K : Nat → q_K) (n : Nat), (∀ (h m : Nat) (L : List (Option Value)) (st : List Value) (σ : q_S) (cr sr : Nat), m < n → Inv h m L st σ cr sr → K h L st σ cr sr) → ∀ (L : List (Option Value)) (st : List Value) (σ : q_S) (cr sr : Nat), Inv 4 n L st σ cr sr → k_X11_actAt_4 post K L st σ cr sr) ∧ av.length ≤ 4 ∧ ∀ v ∈ av, v.category = 1) : q_Ct l yX11_actAt cX11_actAt 4 (some .int) rm_X11_actAt sp := by
  refine q_met (by decide) ?_
  intro D A p e s m args below meth c σ av post C hsp
  obtain ⟨Inv, h1, hh4, h2, h3⟩ := H av σ post hsp
  have hV := q_loops (p := p) (l := l) (e := e) (R := rm_X11_actAt) (s := s) (m := m) (args := args) (below := below) (meth := meth) (c := c) (D := D) (A := A) (nL := 4) (Q := MQ below (q_Qc D A post) args s rm_X11_actAt.cells rm_X11_actAt.slots A) [4] (fun h =>  k_X11_actAt_4 post) (fun K hK h hh => ?_) Inv (fun n h hh => ?_)
  · exact ⟨_, v_X11_actAt_0 C hV, h1 _ (fun h n L st σ cr sr hi => ⟨n, hi⟩), h2, h3⟩
  · have e9 : h = 4 := by simpa using hh
    subst e9
    exact v_X11_actAt_4 C hK
  · have e9 : h = 4 := by simpa using hh
    subst e9
    exact hh4 (fun h L st σ cr sr => ∃ m : Nat, m < n ∧ Inv h m L st σ cr sr) n (fun h m L st σ cr sr hm hi => ⟨m, hm, hi⟩)
theorem t_X11_actAt (l : Launch) : q_Ct l yX11_actAt cX11_actAt 4 (some .int) rm_X11_actAt s_X11_actAt := u_X11_actAt l (by
  intro av σ post h
  unfold s_X11_actAt at h
  split at h
  · next mr on =>
    obtain ⟨ad, z, g, gp, r, hm, hI, h1⟩ := h
    have ez := nI_self hI.1
    generalize hna : (z 5).toNatClampNeg = na at h1 ez
    have hna6 : na ≤ 6 := hna ▸ clamp_le 6 hI.1 hI.2
    refine ⟨fun _ n L st σ' cr sr => ∃ i : Nat, i ≤ na ∧ n = na - i ∧ σ' = σ ∧ st = [] ∧ L = [some (.ref mr), some (.int on), some (.int (actF g on i)), some (.int (nI i))], ?_, ?_, by simp, by simp [Value.category]⟩
    · intro K hK
      simp only [c_push, c_null, c_iload, c_aload, c_istore, c_astore, c_iinc, c_iadd, c_isub, c_imul, c_iand, c_ineg, c_dup, c_dup2, c_pop, c_ifnull, c_ifnonnull, c_get, c_put, c_iald, c_zald, c_iast, c_zast, c_aald, c_aast, c_alen, c_new, c_newa, c_newq, c_mna, c_oinit, c_max, c_copy, c_iret, c_zret, c_aret, c_vret, q_do, q_rc, c_ifeq, c_ifne, c_iflt, c_ifge, c_ifgt, c_ifle, c_iceq, c_icne, c_iclt, c_icge, c_icgt, c_icle, c_call0, c_call1, c_call2, c_call3, c_call4, c_call5, c_call6, c_call7, q_L0, List.map_cons, List.map_nil, List.replicate, List.cons_append, List.nil_append, List.append_nil, List.length_cons, List.length_nil, List.length_set, Nat.reduceSub, Nat.reduceAdd, Nat.reduceLT, Nat.reduceLeDiff, Nat.zero_add, Nat.add_zero, Nat.sub_zero, Nat.sub_self, List.getElem?_cons_zero, List.getElem?_cons_succ, List.set_cons_zero, List.set_cons_succ, Option.toList_some, Option.toList_none, List.sum_cons, List.sum_nil, true_and, and_true, true_or, or_true, Nat.le_refl, Nat.zero_le, Value.category, Fin.isValue, Fin.val_zero, Fin.val_one, Fin.val_two, Fin.reduceFinMk, q_10, q_01, not_false_eq_true, not_true_eq_false, forall_const, true_implies, false_implies, implies_true, q_ni, q_fi, q_nb0, q_nb1, q_fb0, q_fb1, q_nor, q_nar, q_for, q_far, q_non, q_nan, q_fon, q_fan, imp_false, false_and, and_false, and_self, false_or, or_false, va_rf, refKind, k_X11_actAt_0, k_X11_actAt_27, k_X11_actAt_4]
      exact hK 4 na _ _ _ _ _ ⟨0, Nat.zero_le _, rfl, rfl, rfl, rfl⟩
    · rintro K n hK L st σ' cr sr ⟨i, hi, rfl, rfl, rfl, rfl⟩
      simp only [c_push, c_null, c_iload, c_aload, c_istore, c_astore, c_iinc, c_iadd, c_isub, c_imul, c_iand, c_ineg, c_dup, c_dup2, c_pop, c_ifnull, c_ifnonnull, c_get, c_put, c_iald, c_zald, c_iast, c_zast, c_aald, c_aast, c_alen, c_new, c_newa, c_newq, c_mna, c_oinit, c_max, c_copy, c_iret, c_zret, c_aret, c_vret, q_do, q_rc, c_ifeq, c_ifne, c_iflt, c_ifge, c_ifgt, c_ifle, c_iceq, c_icne, c_iclt, c_icge, c_icgt, c_icle, c_call0, c_call1, c_call2, c_call3, c_call4, c_call5, c_call6, c_call7, q_L0, List.map_cons, List.map_nil, List.replicate, List.cons_append, List.nil_append, List.append_nil, List.length_cons, List.length_nil, List.length_set, Nat.reduceSub, Nat.reduceAdd, Nat.reduceLT, Nat.reduceLeDiff, Nat.zero_add, Nat.add_zero, Nat.sub_zero, Nat.sub_self, List.getElem?_cons_zero, List.getElem?_cons_succ, List.set_cons_zero, List.set_cons_succ, Option.toList_some, Option.toList_none, List.sum_cons, List.sum_nil, true_and, and_true, true_or, or_true, Nat.le_refl, Nat.zero_le, Value.category, Fin.isValue, Fin.val_zero, Fin.val_one, Fin.val_two, Fin.reduceFinMk, q_10, q_01, not_false_eq_true, not_true_eq_false, forall_const, true_implies, false_implies, implies_true, q_ni, q_fi, q_nb0, q_nb1, q_fb0, q_fb1, q_nor, q_nar, q_for, q_far, q_non, q_nan, q_fon, q_fan, imp_false, false_and, and_false, and_self, false_or, or_false, va_rf, refKind, k_X11_actAt_0, k_X11_actAt_27, k_X11_actAt_4, hm.rd, vpi6]
      rw [← ez]
      have E := cl2 (nI na) (nI i) na i rfl rfl (by omega) (by omega)
      rw [E.1, clN (by omega)]
      refine ⟨fun c => ?_, fun c => ⟨⟨nI_low (by omega), nI_ltN (N := 6) (by omega)⟩, fun c2 => hK 4 (na - (i + 1)) _ _ _ _ _ (by omega) ⟨i + 1, by omega, rfl, rfl, rfl, ?_⟩, fun c2 => hK 4 (na - (i + 1)) _ _ _ _ _ (by omega) ⟨i + 1, by omega, rfl, rfl, rfl, ?_⟩⟩⟩
      · have e : i = na := by omega
        subst e; exact h1
      · rw [nI_1, actF, if_neg (by grind)]
      · rw [nI_1, actF, if_pos (by grind)]
  · exact h.elim)
-- work
def F_work (z : Nat → Int32) (g : Nat → Nat → Int32) (p : Int32) : Int32 × (Nat → Int32) × (Nat → Nat → Int32) :=
  if 0 ≤ p ∧ p < z 1 then if g 3 p.toNatClampNeg ≠ -1 then (-3, z, g) else if z 11 = 20 then (-4, z, g) else (z 11, upd z 11 (z 11 + 1), gup (gup (gup g 12 (z 11).toNatClampNeg p) 13 (z 11).toNatClampNeg (z 0)) 29 (z 11).toNatClampNeg 0)
  else (-2, z, g)
def s_X11_work : q_Sp := fun av σ post => match av with
  | [.ref mr, .int p] => ∃ ad z g, mOK σ mr ad z g ∧ I1 z ∧ ∀ σ', mOK σ' mr ad (F_work z g p).2.1 (F_work z g p).2.2 → post (some (.int (F_work z g p).1)) σ'
  | _ => False
theorem w9_28 : (.fieldLink RX11 34 (TX11 12).1 (TX11 12).2.1 (TX11 12).2.2.1 : Cond) ∈ lw_tbl := by decide +kernel
theorem w9_29 : (.fieldLink RX11 37 (TX11 13).1 (TX11 13).2.1 (TX11 13).2.2.1 : Cond) ∈ lw_tbl := by decide +kernel
theorem w9_30 : (.fieldLink RX11 80 (TX11 29).1 (TX11 29).2.1 (TX11 29).2.2.1 : Cond) ∈ lw_tbl := by decide +kernel
def rm_X11_work : Room := { frames := 2, cells := 0, slots := 0, locals := 43 }
def k_X11_work_0 (post : Option Value → q_S → Prop) (K : Nat → q_K) : q_K := (c_aload 0 (c_iload 1 (c_call2 (some 11) s_X11_isPerson 0 0 (c_ifne (c_aload 0 (c_get 11 3 (c_iload 1 (c_iald (c_push (-1) (c_iceq (c_aload 0 (c_get 11 11 (c_push 20 (c_icne (c_aload 0 (c_get 11 12 (c_aload 0 (c_get 11 11 (c_iload 1 (c_iast (c_aload 0 (c_get 11 13 (c_aload 0 (c_get 11 11 (c_aload 0 (c_get 11 0 (c_iast (c_aload 0 (c_get 11 29 (c_aload 0 (c_get 11 11 (c_push 0 (c_iast (c_aload 0 (c_dup (c_get 11 11 (c_push 1 (c_iadd (c_put 11 11 (.int) (c_aload 0 (c_get 11 11 (c_push 1 (c_isub (c_iret post)))))))))))))))))))))))))))))) (c_push (-4) (c_iret post)))))) (c_push (-3) (c_iret post)))))))) (c_push (-2) (c_iret post))))))
set_option maxRecDepth 100000 in
theorem v_X11_work_0 {p : Program} {l : Launch} {e : Env} {s : State} {m : MethodId} {args : Array Value} {below : List Frame} {meth : Method} {c : Code} {D : va_G} {A : Nat → Prop} {post : Option Value → q_S → Prop} {K : Nat → q_K} (C : q_C p s m args meth c cX11_work 2 RX11 "work" (some .int) A) (hK : ∀ h ∈ ([] : List Nat), q_V p l e rm_X11_work s m args below meth c D A 2 (MQ below (q_Qc D A post) args s rm_X11_work.cells rm_X11_work.slots A) h (K h)) : q_V p l e rm_X11_work s m args below meth c D A 2 (MQ below (q_Qc D A post) args s rm_X11_work.cells rm_X11_work.slots A) 0 (k_X11_work_0 post K) := by
  unfold k_X11_work_0
  refine q_aload_n C (by decide +kernel : decode cX11_work 0 = .ok (.aload_n 0, 1)) ?_
  refine q_iload_n C (by decide +kernel : decode cX11_work 1 = .ok (.iload_n 1, 1)) ?_
  refine q_call2 C (q_coV C (np := 1) (ci := 11) (rc := (RX11, TX11, 35)) (t_X11_isPerson l) w9_13 rfl rfl w9_14 w9_15 w9_16 w9_6 (by decide +kernel) (by decide +kernel : decode cX11_work 2 = .ok (.invokevirtual 106, 3)) (by decide)) ?_
  refine q_ifne C (tgt := 11) (by decide +kernel : decode cX11_work 5 = .ok (.ifCond .ne 6, 3)) (by decide) ?_ ?_
  · refine q_aload_n C (by decide +kernel : decode cX11_work 11 = .ok (.aload_n 0, 1)) ?_
    refine q_get C (ci := 11) (j := 3) (C0 := RX11) (T := TX11) (N := 35) rfl iX11 giX11 (by decide) w9_12 (by decide +kernel : decode cX11_work 12 = .ok (.getfield 13, 3)) ?_
    refine q_iload_n C (by decide +kernel : decode cX11_work 15 = .ok (.iload_n 1, 1)) ?_
    refine q_iald C (by decide +kernel : decode cX11_work 16 = .ok (.iaload, 1)) ?_
    refine q_iconst C (by decide +kernel : decode cX11_work 17 = .ok (.iconst (-1), 1)) (by decide) ?_
    refine q_iceq C (tgt := 24) (by decide +kernel : decode cX11_work 18 = .ok (.if_icmp .eq 6, 3)) (by decide) ?_ ?_
    · refine q_aload_n C (by decide +kernel : decode cX11_work 24 = .ok (.aload_n 0, 1)) ?_
      refine q_get C (ci := 11) (j := 11) (C0 := RX11) (T := TX11) (N := 35) rfl iX11 giX11 (by decide) w9_9 (by decide +kernel : decode cX11_work 25 = .ok (.getfield 103, 3)) ?_
      refine q_bipush C (by decide +kernel : decode cX11_work 28 = .ok (.bipush 20, 2)) (by decide) ?_
      refine q_icne C (tgt := 36) (by decide +kernel : decode cX11_work 30 = .ok (.if_icmp .ne 6, 3)) (by decide) ?_ ?_
      · refine q_aload_n C (by decide +kernel : decode cX11_work 36 = .ok (.aload_n 0, 1)) ?_
        refine q_get C (ci := 11) (j := 12) (C0 := RX11) (T := TX11) (N := 35) rfl iX11 giX11 (by decide) w9_28 (by decide +kernel : decode cX11_work 37 = .ok (.getfield 34, 3)) ?_
        refine q_aload_n C (by decide +kernel : decode cX11_work 40 = .ok (.aload_n 0, 1)) ?_
        refine q_get C (ci := 11) (j := 11) (C0 := RX11) (T := TX11) (N := 35) rfl iX11 giX11 (by decide) w9_9 (by decide +kernel : decode cX11_work 41 = .ok (.getfield 103, 3)) ?_
        refine q_iload_n C (by decide +kernel : decode cX11_work 44 = .ok (.iload_n 1, 1)) ?_
        refine q_iast C (by decide +kernel : decode cX11_work 45 = .ok (.iastore, 1)) ?_
        refine q_aload_n C (by decide +kernel : decode cX11_work 46 = .ok (.aload_n 0, 1)) ?_
        refine q_get C (ci := 11) (j := 13) (C0 := RX11) (T := TX11) (N := 35) rfl iX11 giX11 (by decide) w9_29 (by decide +kernel : decode cX11_work 47 = .ok (.getfield 37, 3)) ?_
        refine q_aload_n C (by decide +kernel : decode cX11_work 50 = .ok (.aload_n 0, 1)) ?_
        refine q_get C (ci := 11) (j := 11) (C0 := RX11) (T := TX11) (N := 35) rfl iX11 giX11 (by decide) w9_9 (by decide +kernel : decode cX11_work 51 = .ok (.getfield 103, 3)) ?_
        refine q_aload_n C (by decide +kernel : decode cX11_work 54 = .ok (.aload_n 0, 1)) ?_
        refine q_get C (ci := 11) (j := 0) (C0 := RX11) (T := TX11) (N := 35) rfl iX11 giX11 (by decide) w9_10 (by decide +kernel : decode cX11_work 55 = .ok (.getfield 96, 3)) ?_
        refine q_iast C (by decide +kernel : decode cX11_work 58 = .ok (.iastore, 1)) ?_
        refine q_aload_n C (by decide +kernel : decode cX11_work 59 = .ok (.aload_n 0, 1)) ?_
        refine q_get C (ci := 11) (j := 29) (C0 := RX11) (T := TX11) (N := 35) rfl iX11 giX11 (by decide) w9_30 (by decide +kernel : decode cX11_work 60 = .ok (.getfield 80, 3)) ?_
        refine q_aload_n C (by decide +kernel : decode cX11_work 63 = .ok (.aload_n 0, 1)) ?_
        refine q_get C (ci := 11) (j := 11) (C0 := RX11) (T := TX11) (N := 35) rfl iX11 giX11 (by decide) w9_9 (by decide +kernel : decode cX11_work 64 = .ok (.getfield 103, 3)) ?_
        refine q_iconst C (by decide +kernel : decode cX11_work 67 = .ok (.iconst 0, 1)) (by decide) ?_
        refine q_iast C (by decide +kernel : decode cX11_work 68 = .ok (.iastore, 1)) ?_
        refine q_aload_n C (by decide +kernel : decode cX11_work 69 = .ok (.aload_n 0, 1)) ?_
        refine q_dup C (by decide +kernel : decode cX11_work 70 = .ok (.dup, 1)) ?_
        refine q_get C (ci := 11) (j := 11) (C0 := RX11) (T := TX11) (N := 35) rfl iX11 giX11 (by decide) w9_9 (by decide +kernel : decode cX11_work 71 = .ok (.getfield 103, 3)) ?_
        refine q_iconst C (by decide +kernel : decode cX11_work 74 = .ok (.iconst 1, 1)) (by decide) ?_
        refine q_iadd C (by decide +kernel : decode cX11_work 75 = .ok (.iadd, 1)) ?_
        refine q_put C (ci := 11) (j := 11) (C0 := RX11) (T := TX11) (N := 35) (ty := .int) rfl iX11 giX11 (by decide) tyX11 tyX11_ok nmX11 (by decide +kernel) rfl w9_9 (by decide +kernel : decode cX11_work 76 = .ok (.putfield 103, 3)) ?_
        refine q_aload_n C (by decide +kernel : decode cX11_work 79 = .ok (.aload_n 0, 1)) ?_
        refine q_get C (ci := 11) (j := 11) (C0 := RX11) (T := TX11) (N := 35) rfl iX11 giX11 (by decide) w9_9 (by decide +kernel : decode cX11_work 80 = .ok (.getfield 103, 3)) ?_
        refine q_iconst C (by decide +kernel : decode cX11_work 83 = .ok (.iconst 1, 1)) (by decide) ?_
        refine q_isub C (by decide +kernel : decode cX11_work 84 = .ok (.isub, 1)) ?_
        exact q_iret C rfl (by decide +kernel : decode cX11_work 85 = .ok (.ireturn, 1))
      · refine q_bipush C (by decide +kernel : decode cX11_work 33 = .ok (.bipush (-4), 2)) (by decide) ?_
        exact q_iret C rfl (by decide +kernel : decode cX11_work 35 = .ok (.ireturn, 1))
    · refine q_bipush C (by decide +kernel : decode cX11_work 21 = .ok (.bipush (-3), 2)) (by decide) ?_
      exact q_iret C rfl (by decide +kernel : decode cX11_work 23 = .ok (.ireturn, 1))
  · refine q_bipush C (by decide +kernel : decode cX11_work 8 = .ok (.bipush (-2), 2)) (by decide) ?_
    exact q_iret C rfl (by decide +kernel : decode cX11_work 10 = .ok (.ireturn, 1))
theorem u_X11_work (l : Launch) {sp : q_Sp} (H : ∀ (av : List Value) (σ : q_S) (post : Option Value → q_S → Prop), sp av σ post → k_X11_work_0 post (fun _ _ _ _ _ _ => False) (q_L0 av 2) [] σ 0 0 ∧ av.length ≤ 2 ∧ ∀ v ∈ av, v.category = 1) : q_Ct l yX11_work cX11_work 2 (some .int) rm_X11_work sp := by
  refine q_met (by decide) ?_
  intro D A p e s m args below meth c σ av post C hsp
  obtain ⟨h1, h2, h3⟩ := H av σ post hsp
  exact ⟨_, v_X11_work_0 (K := fun _ _ _ _ _ _ => False) C (fun h hh => by cases hh), h1, h2, h3⟩
theorem t_X11_work (l : Launch) : q_Ct l yX11_work cX11_work 2 (some .int) rm_X11_work s_X11_work := u_X11_work l (by
  intro av σ post h
  unfold s_X11_work at h
  split at h
  · next mr p =>
    refine ⟨?_, by simp, by simp [Value.category]⟩
    obtain ⟨ad, z, g, ⟨gp, r, hm⟩, hI, h1⟩ := h
    have hm1 := hm.a12 (z 11).toNatClampNeg p
    have hm2 := hm1.a13 (z 11).toNatClampNeg (z 0)
    have hm3 := hm2.a29 (z 11).toNatClampNeg 0
    have hm4 := hm3.p11 (z 11 + 1)
    simp only [c_push, c_null, c_iload, c_aload, c_istore, c_astore, c_iinc, c_iadd, c_isub, c_imul, c_iand, c_ineg, c_dup, c_dup2, c_pop, c_ifnull, c_ifnonnull, c_get, c_put, c_iald, c_zald, c_iast, c_zast, c_aald, c_aast, c_alen, c_new, c_newa, c_newq, c_mna, c_oinit, c_max, c_copy, c_iret, c_zret, c_aret, c_vret, q_do, q_rc, c_ifeq, c_ifne, c_iflt, c_ifge, c_ifgt, c_ifle, c_iceq, c_icne, c_iclt, c_icge, c_icgt, c_icle, c_call0, c_call1, c_call2, c_call3, c_call4, c_call5, c_call6, c_call7, q_L0, List.map_cons, List.map_nil, List.replicate, List.cons_append, List.nil_append, List.append_nil, List.length_cons, List.length_nil, List.length_set, Nat.reduceSub, Nat.reduceAdd, Nat.reduceLT, Nat.reduceLeDiff, Nat.zero_add, Nat.add_zero, Nat.sub_zero, Nat.sub_self, List.getElem?_cons_zero, List.getElem?_cons_succ, List.set_cons_zero, List.set_cons_succ, Option.toList_some, Option.toList_none, List.sum_cons, List.sum_nil, true_and, and_true, true_or, or_true, Nat.le_refl, Nat.zero_le, Value.category, Fin.isValue, Fin.val_zero, Fin.val_one, Fin.val_two, Fin.reduceFinMk, q_10, q_01, not_false_eq_true, not_true_eq_false, forall_const, true_implies, false_implies, implies_true, q_ni, q_fi, q_nb0, q_nb1, q_fb0, q_fb1, q_nor, q_nar, q_for, q_far, q_non, q_nan, q_fon, q_fan, imp_false, false_and, and_false, and_self, false_or, or_false, va_rf, refKind, k_X11_work_0, hm.rd, hm1.rd, hm2.rd, hm3.rd, hm4.rd, vpi12, vpi20, s_X11_isPerson]
    unfold F_work at h1
    unfold I1 at hI
    split at h1
    · split at h1
      · have a := h1 _ ⟨gp, r, hm⟩
        grind
      · split at h1
        · have a := h1 _ ⟨gp, r, hm⟩
          grind
        · have a := h1 _ ⟨gp, r, hm4⟩
          grind [upd]
    · have a := h1 _ ⟨gp, r, hm⟩
      grind
  · exact h.elim)
-- endBy
def endByF (g : Nat → Nat → Int32) (w a : Nat) (k : Int32) : Int32 :=
  if g 8 a = -1 then g 13 w + g 7 a else if deathF g (g 12 w).toNatClampNeg k = -1 then 1000000 else if deathF g (g 12 w).toNatClampNeg k + g 8 a < g 13 w + g 7 a then g 13 w + g 7 a else deathF g (g 12 w).toNatClampNeg k + g 8 a
def s_X11_endBy : q_Sp := fun av σ post => match av with
  | [.ref mr, .int w, .int a, .int k] => ∃ ad z g gp r, mOKx σ mr ad z g gp r ∧ (0 ≤ w ∧ w < 20) ∧ (0 ≤ a ∧ a < 6) ∧ (0 ≤ g 12 w.toNatClampNeg ∧ g 12 w.toNatClampNeg < 12) ∧ post (some (.int (endByF g w.toNatClampNeg a.toNatClampNeg k))) σ
  | _ => False
theorem w9_31 : (.code yX11_greater cX11_greater 2 (some .int) : Cond) ∈ lw_tbl := by decide +kernel
theorem w9_32 : (.static yX11_greater : Cond) ∈ lw_tbl := by decide +kernel
theorem w9_33 : (.methodLink RX11 126 yX11_greater : Cond) ∈ lw_tbl := by decide +kernel
theorem w9_34 : (.constant RX11 125 1000000 : Cond) ∈ lw_tbl := by decide +kernel
def rm_X11_endBy : Room := { frames := 1, cells := 0, slots := 0, locals := 22 }
def k_X11_endBy_68 (post : Option Value → q_S → Prop) (K : Nat → q_K) : q_K := (c_iret post)
def k_X11_endBy_0 (post : Option Value → q_S → Prop) (K : Nat → q_K) : q_K := (c_aload 0 (c_get 11 13 (c_iload 1 (c_iald (c_aload 0 (c_get 11 7 (c_iload 2 (c_iald (c_iadd (c_istore 4 (c_aload 0 (c_aload 0 (c_get 11 12 (c_iload 1 (c_iald (c_iload 3 (c_call3 (some 11) s_X11_deathAt 0 0 (c_istore 5 (c_aload 0 (c_get 11 8 (c_iload 2 (c_iald (c_push (-1) (c_icne (c_iload 5 (c_push (-1) (c_icne (c_iload 4 (c_iload 5 (c_aload 0 (c_get 11 8 (c_iload 2 (c_iald (c_iadd (c_call2 none s_X11_greater 0 0 (k_X11_endBy_68 post K))))))))) (c_push 1000000 (k_X11_endBy_68 post K))))) (c_iload 4 (k_X11_endBy_68 post K))))))))))))))))))))))))))
set_option maxRecDepth 100000 in
theorem v_X11_endBy_68 {p : Program} {l : Launch} {e : Env} {s : State} {m : MethodId} {args : Array Value} {below : List Frame} {meth : Method} {c : Code} {D : va_G} {A : Nat → Prop} {post : Option Value → q_S → Prop} {K : Nat → q_K} (C : q_C p s m args meth c cX11_endBy 6 RX11 "endBy" (some .int) A) (hK : ∀ h ∈ ([] : List Nat), q_V p l e rm_X11_endBy s m args below meth c D A 6 (MQ below (q_Qc D A post) args s rm_X11_endBy.cells rm_X11_endBy.slots A) h (K h)) : q_V p l e rm_X11_endBy s m args below meth c D A 6 (MQ below (q_Qc D A post) args s rm_X11_endBy.cells rm_X11_endBy.slots A) 68 (k_X11_endBy_68 post K) := by
  unfold k_X11_endBy_68
  exact q_iret C rfl (by decide +kernel : decode cX11_endBy 68 = .ok (.ireturn, 1))
set_option maxRecDepth 100000 in
theorem v_X11_endBy_0 {p : Program} {l : Launch} {e : Env} {s : State} {m : MethodId} {args : Array Value} {below : List Frame} {meth : Method} {c : Code} {D : va_G} {A : Nat → Prop} {post : Option Value → q_S → Prop} {K : Nat → q_K} (C : q_C p s m args meth c cX11_endBy 6 RX11 "endBy" (some .int) A) (hK : ∀ h ∈ ([] : List Nat), q_V p l e rm_X11_endBy s m args below meth c D A 6 (MQ below (q_Qc D A post) args s rm_X11_endBy.cells rm_X11_endBy.slots A) h (K h)) : q_V p l e rm_X11_endBy s m args below meth c D A 6 (MQ below (q_Qc D A post) args s rm_X11_endBy.cells rm_X11_endBy.slots A) 0 (k_X11_endBy_0 post K) := by
  unfold k_X11_endBy_0
  refine q_aload_n C (by decide +kernel : decode cX11_endBy 0 = .ok (.aload_n 0, 1)) ?_
  refine q_get C (ci := 11) (j := 13) (C0 := RX11) (T := TX11) (N := 35) rfl iX11 giX11 (by decide) w9_29 (by decide +kernel : decode cX11_endBy 1 = .ok (.getfield 37, 3)) ?_
  refine q_iload_n C (by decide +kernel : decode cX11_endBy 4 = .ok (.iload_n 1, 1)) ?_
  refine q_iald C (by decide +kernel : decode cX11_endBy 5 = .ok (.iaload, 1)) ?_
  refine q_aload_n C (by decide +kernel : decode cX11_endBy 6 = .ok (.aload_n 0, 1)) ?_
  refine q_get C (ci := 11) (j := 7) (C0 := RX11) (T := TX11) (N := 35) rfl iX11 giX11 (by decide) w9_24 (by decide +kernel : decode cX11_endBy 7 = .ok (.getfield 22, 3)) ?_
  refine q_iload_n C (by decide +kernel : decode cX11_endBy 10 = .ok (.iload_n 2, 1)) ?_
  refine q_iald C (by decide +kernel : decode cX11_endBy 11 = .ok (.iaload, 1)) ?_
  refine q_iadd C (by decide +kernel : decode cX11_endBy 12 = .ok (.iadd, 1)) ?_
  refine q_istore C (by decide +kernel : decode cX11_endBy 13 = .ok (.istore 4, 2)) ?_
  refine q_aload_n C (by decide +kernel : decode cX11_endBy 15 = .ok (.aload_n 0, 1)) ?_
  refine q_aload_n C (by decide +kernel : decode cX11_endBy 16 = .ok (.aload_n 0, 1)) ?_
  refine q_get C (ci := 11) (j := 12) (C0 := RX11) (T := TX11) (N := 35) rfl iX11 giX11 (by decide) w9_28 (by decide +kernel : decode cX11_endBy 17 = .ok (.getfield 34, 3)) ?_
  refine q_iload_n C (by decide +kernel : decode cX11_endBy 20 = .ok (.iload_n 1, 1)) ?_
  refine q_iald C (by decide +kernel : decode cX11_endBy 21 = .ok (.iaload, 1)) ?_
  refine q_iload_n C (by decide +kernel : decode cX11_endBy 22 = .ok (.iload_n 3, 1)) ?_
  refine q_call3 C (q_coV C (np := 2) (ci := 11) (rc := (RX11, TX11, 35)) (t_X11_deathAt l) w9_18 rfl rfl w9_19 w9_20 w9_21 w9_6 (by decide +kernel) (by decide +kernel : decode cX11_endBy 23 = .ok (.invokevirtual 118, 3)) (by decide)) ?_
  refine q_istore C (by decide +kernel : decode cX11_endBy 26 = .ok (.istore 5, 2)) ?_
  refine q_aload_n C (by decide +kernel : decode cX11_endBy 28 = .ok (.aload_n 0, 1)) ?_
  refine q_get C (ci := 11) (j := 8) (C0 := RX11) (T := TX11) (N := 35) rfl iX11 giX11 (by decide) w9_25 (by decide +kernel : decode cX11_endBy 29 = .ok (.getfield 25, 3)) ?_
  refine q_iload_n C (by decide +kernel : decode cX11_endBy 32 = .ok (.iload_n 2, 1)) ?_
  refine q_iald C (by decide +kernel : decode cX11_endBy 33 = .ok (.iaload, 1)) ?_
  refine q_iconst C (by decide +kernel : decode cX11_endBy 34 = .ok (.iconst (-1), 1)) (by decide) ?_
  refine q_icne C (tgt := 43) (by decide +kernel : decode cX11_endBy 35 = .ok (.if_icmp .ne 8, 3)) (by decide) ?_ ?_
  · refine q_iload C (by decide +kernel : decode cX11_endBy 43 = .ok (.iload 5, 2)) ?_
    refine q_iconst C (by decide +kernel : decode cX11_endBy 45 = .ok (.iconst (-1), 1)) (by decide) ?_
    refine q_icne C (tgt := 54) (by decide +kernel : decode cX11_endBy 46 = .ok (.if_icmp .ne 8, 3)) (by decide) ?_ ?_
    · refine q_iload C (by decide +kernel : decode cX11_endBy 54 = .ok (.iload 4, 2)) ?_
      refine q_iload C (by decide +kernel : decode cX11_endBy 56 = .ok (.iload 5, 2)) ?_
      refine q_aload_n C (by decide +kernel : decode cX11_endBy 58 = .ok (.aload_n 0, 1)) ?_
      refine q_get C (ci := 11) (j := 8) (C0 := RX11) (T := TX11) (N := 35) rfl iX11 giX11 (by decide) w9_25 (by decide +kernel : decode cX11_endBy 59 = .ok (.getfield 25, 3)) ?_
      refine q_iload_n C (by decide +kernel : decode cX11_endBy 62 = .ok (.iload_n 2, 1)) ?_
      refine q_iald C (by decide +kernel : decode cX11_endBy 63 = .ok (.iaload, 1)) ?_
      refine q_iadd C (by decide +kernel : decode cX11_endBy 64 = .ok (.iadd, 1)) ?_
      refine q_call2 C (q_coS C (np := 2) (t_X11_greater l) w9_31 w9_33 w9_32 w9_6 (by decide +kernel) (by decide +kernel : decode cX11_endBy 65 = .ok (.invokestatic 126, 3)) (by decide)) ?_
      exact v_X11_endBy_68 C hK
    · refine q_ldc C (by decide +kernel : decode cX11_endBy 49 = .ok (.ldc 125, 2)) w9_34 ?_
      refine q_goto C (tgt := 68) (by decide +kernel : decode cX11_endBy 51 = .ok (.goto 17, 3)) (by decide) ?_
      exact v_X11_endBy_68 C hK
  · refine q_iload C (by decide +kernel : decode cX11_endBy 38 = .ok (.iload 4, 2)) ?_
    refine q_goto C (tgt := 68) (by decide +kernel : decode cX11_endBy 40 = .ok (.goto 28, 3)) (by decide) ?_
    exact v_X11_endBy_68 C hK
theorem u_X11_endBy (l : Launch) {sp : q_Sp} (H : ∀ (av : List Value) (σ : q_S) (post : Option Value → q_S → Prop), sp av σ post → k_X11_endBy_0 post (fun _ _ _ _ _ _ => False) (q_L0 av 6) [] σ 0 0 ∧ av.length ≤ 6 ∧ ∀ v ∈ av, v.category = 1) : q_Ct l yX11_endBy cX11_endBy 6 (some .int) rm_X11_endBy sp := by
  refine q_met (by decide) ?_
  intro D A p e s m args below meth c σ av post C hsp
  obtain ⟨h1, h2, h3⟩ := H av σ post hsp
  exact ⟨_, v_X11_endBy_0 (K := fun _ _ _ _ _ _ => False) C (fun h hh => by cases hh), h1, h2, h3⟩
theorem t_X11_endBy (l : Launch) : q_Ct l yX11_endBy cX11_endBy 6 (some .int) rm_X11_endBy s_X11_endBy := u_X11_endBy l (by
  intro av σ post h
  unfold s_X11_endBy at h
  split at h
  · next mr w a k =>
    refine ⟨?_, by simp, by simp [Value.category]⟩
    obtain ⟨ad, z, g, gp, r, hm, hw, ha, hau, h1⟩ := h
    simp only [c_push, c_null, c_iload, c_aload, c_istore, c_astore, c_iinc, c_iadd, c_isub, c_imul, c_iand, c_ineg, c_dup, c_dup2, c_pop, c_ifnull, c_ifnonnull, c_get, c_put, c_iald, c_zald, c_iast, c_zast, c_aald, c_aast, c_alen, c_new, c_newa, c_newq, c_mna, c_oinit, c_max, c_copy, c_iret, c_zret, c_aret, c_vret, q_do, q_rc, c_ifeq, c_ifne, c_iflt, c_ifge, c_ifgt, c_ifle, c_iceq, c_icne, c_iclt, c_icge, c_icgt, c_icle, c_call0, c_call1, c_call2, c_call3, c_call4, c_call5, c_call6, c_call7, q_L0, List.map_cons, List.map_nil, List.replicate, List.cons_append, List.nil_append, List.append_nil, List.length_cons, List.length_nil, List.length_set, Nat.reduceSub, Nat.reduceAdd, Nat.reduceLT, Nat.reduceLeDiff, Nat.zero_add, Nat.add_zero, Nat.sub_zero, Nat.sub_self, List.getElem?_cons_zero, List.getElem?_cons_succ, List.set_cons_zero, List.set_cons_succ, Option.toList_some, Option.toList_none, List.sum_cons, List.sum_nil, true_and, and_true, true_or, or_true, Nat.le_refl, Nat.zero_le, Value.category, Fin.isValue, Fin.val_zero, Fin.val_one, Fin.val_two, Fin.reduceFinMk, q_10, q_01, not_false_eq_true, not_true_eq_false, forall_const, true_implies, false_implies, implies_true, q_ni, q_fi, q_nb0, q_nb1, q_fb0, q_fb1, q_nor, q_nar, q_for, q_far, q_non, q_nan, q_fon, q_fan, imp_false, false_and, and_false, and_self, false_or, or_false, va_rf, refKind, k_X11_endBy_0, k_X11_endBy_68, hm.rd, vpi6, vpi20, hw, ha]
    refine ⟨ad, z, g, gp, r, hm, hau, ?_⟩
    simp only [c_push, c_null, c_iload, c_aload, c_istore, c_astore, c_iinc, c_iadd, c_isub, c_imul, c_iand, c_ineg, c_dup, c_dup2, c_pop, c_ifnull, c_ifnonnull, c_get, c_put, c_iald, c_zald, c_iast, c_zast, c_aald, c_aast, c_alen, c_new, c_newa, c_newq, c_mna, c_oinit, c_max, c_copy, c_iret, c_zret, c_aret, c_vret, q_do, q_rc, c_ifeq, c_ifne, c_iflt, c_ifge, c_ifgt, c_ifle, c_iceq, c_icne, c_iclt, c_icge, c_icgt, c_icle, c_call0, c_call1, c_call2, c_call3, c_call4, c_call5, c_call6, c_call7, q_L0, List.map_cons, List.map_nil, List.replicate, List.cons_append, List.nil_append, List.append_nil, List.length_cons, List.length_nil, List.length_set, Nat.reduceSub, Nat.reduceAdd, Nat.reduceLT, Nat.reduceLeDiff, Nat.zero_add, Nat.add_zero, Nat.sub_zero, Nat.sub_self, List.getElem?_cons_zero, List.getElem?_cons_succ, List.set_cons_zero, List.set_cons_succ, Option.toList_some, Option.toList_none, List.sum_cons, List.sum_nil, true_and, and_true, true_or, or_true, Nat.le_refl, Nat.zero_le, Value.category, Fin.isValue, Fin.val_zero, Fin.val_one, Fin.val_two, Fin.reduceFinMk, q_10, q_01, not_false_eq_true, not_true_eq_false, forall_const, true_implies, false_implies, implies_true, q_ni, q_fi, q_nb0, q_nb1, q_fb0, q_fb1, q_nor, q_nar, q_for, q_far, q_non, q_nan, q_fon, q_fan, imp_false, false_and, and_false, and_self, false_or, or_false, va_rf, refKind, k_X11_endBy_0, k_X11_endBy_68, hm.rd, vpi6, vpi20, hw, ha, s_X11_greater]
    unfold endByF at h1
    grind
  · exact h.elim)
