-- pledgedBy, freeOf, areTwo
def plF (g : Nat → Nat → Int32) (w p : Nat) : Nat → Int32
  | 0 => 0
  | q + 1 => plF g w p q + g 20 (144 * w + 12 * p + q)
def s_X11_pledgedBy : q_Sp := fun av σ post => match av with
  | [.ref mr, .int w, .int p] => ∃ ad z g gp r, mOKx σ mr ad z g gp r ∧ (0 ≤ w ∧ w < 20) ∧ (0 ≤ p ∧ p < 12) ∧ post (some (.int (plF g w.toNatClampNeg p.toNatClampNeg 12))) σ
  | _ => False
theorem w9_62 : (.fieldLink RX11 55 (TX11 20).1 (TX11 20).2.1 (TX11 20).2.2.1 : Cond) ∈ lw_tbl := by decide +kernel
def rm_X11_pledgedBy : Room := { frames := 0, cells := 0, slots := 0, locals := 0 }
def k_X11_pledgedBy_0 (post : Option Value → q_S → Prop) (K : Nat → q_K) : q_K := (c_push 0 (c_istore 3 (c_push 0 (c_istore 4 (K 5)))))
def k_X11_pledgedBy_5 (post : Option Value → q_S → Prop) (K : Nat → q_K) : q_K := (c_iload 4 (c_push 12 (c_icge (c_iload 3 (c_iret post)) (c_iload 3 (c_aload 0 (c_get 11 20 (c_push 144 (c_iload 1 (c_imul (c_push 12 (c_iload 2 (c_imul (c_iadd (c_iload 4 (c_iadd (c_iald (c_iadd (c_istore 3 (c_iinc 4 1 (K 5))))))))))))))))))))
set_option maxRecDepth 100000 in
theorem v_X11_pledgedBy_0 {p : Program} {l : Launch} {e : Env} {s : State} {m : MethodId} {args : Array Value} {below : List Frame} {meth : Method} {c : Code} {D : va_G} {A : Nat → Prop} {post : Option Value → q_S → Prop} {K : Nat → q_K} (C : q_C p s m args meth c cX11_pledgedBy 5 RX11 "pledgedBy" (some .int) A) (hK : ∀ h ∈ ([5] : List Nat), q_V p l e rm_X11_pledgedBy s m args below meth c D A 5 (MQ below (q_Qc D A post) args s rm_X11_pledgedBy.cells rm_X11_pledgedBy.slots A) h (K h)) : q_V p l e rm_X11_pledgedBy s m args below meth c D A 5 (MQ below (q_Qc D A post) args s rm_X11_pledgedBy.cells rm_X11_pledgedBy.slots A) 0 (k_X11_pledgedBy_0 post K) := by
  unfold k_X11_pledgedBy_0
  refine q_iconst C (by decide +kernel : decode cX11_pledgedBy 0 = .ok (.iconst 0, 1)) (by decide) ?_
  refine q_istore_n C (by decide +kernel : decode cX11_pledgedBy 1 = .ok (.istore_n 3, 1)) ?_
  refine q_iconst C (by decide +kernel : decode cX11_pledgedBy 2 = .ok (.iconst 0, 1)) (by decide) ?_
  refine q_istore C (by decide +kernel : decode cX11_pledgedBy 3 = .ok (.istore 4, 2)) ?_
  exact hK 5 (by decide)
set_option maxRecDepth 100000 in
theorem v_X11_pledgedBy_5 {p : Program} {l : Launch} {e : Env} {s : State} {m : MethodId} {args : Array Value} {below : List Frame} {meth : Method} {c : Code} {D : va_G} {A : Nat → Prop} {post : Option Value → q_S → Prop} {K : Nat → q_K} (C : q_C p s m args meth c cX11_pledgedBy 5 RX11 "pledgedBy" (some .int) A) (hK : ∀ h ∈ ([5] : List Nat), q_V p l e rm_X11_pledgedBy s m args below meth c D A 5 (MQ below (q_Qc D A post) args s rm_X11_pledgedBy.cells rm_X11_pledgedBy.slots A) h (K h)) : q_V p l e rm_X11_pledgedBy s m args below meth c D A 5 (MQ below (q_Qc D A post) args s rm_X11_pledgedBy.cells rm_X11_pledgedBy.slots A) 5 (k_X11_pledgedBy_5 post K) := by
  unfold k_X11_pledgedBy_5
  refine q_iload C (by decide +kernel : decode cX11_pledgedBy 5 = .ok (.iload 4, 2)) ?_
  refine q_bipush C (by decide +kernel : decode cX11_pledgedBy 7 = .ok (.bipush 12, 2)) (by decide) ?_
  refine q_icge C (tgt := 39) (by decide +kernel : decode cX11_pledgedBy 9 = .ok (.if_icmp .ge 30, 3)) (by decide) ?_ ?_
  · refine q_iload_n C (by decide +kernel : decode cX11_pledgedBy 39 = .ok (.iload_n 3, 1)) ?_
    exact q_iret C rfl (by decide +kernel : decode cX11_pledgedBy 40 = .ok (.ireturn, 1))
  · refine q_iload_n C (by decide +kernel : decode cX11_pledgedBy 12 = .ok (.iload_n 3, 1)) ?_
    refine q_aload_n C (by decide +kernel : decode cX11_pledgedBy 13 = .ok (.aload_n 0, 1)) ?_
    refine q_get C (ci := 11) (j := 20) (C0 := RX11) (T := TX11) (N := 35) rfl iX11 giX11 (by decide) w9_62 (by decide +kernel : decode cX11_pledgedBy 14 = .ok (.getfield 55, 3)) ?_
    refine q_sipush C (by decide +kernel : decode cX11_pledgedBy 17 = .ok (.sipush 144, 3)) (by decide) ?_
    refine q_iload_n C (by decide +kernel : decode cX11_pledgedBy 20 = .ok (.iload_n 1, 1)) ?_
    refine q_imul C (by decide +kernel : decode cX11_pledgedBy 21 = .ok (.imul, 1)) ?_
    refine q_bipush C (by decide +kernel : decode cX11_pledgedBy 22 = .ok (.bipush 12, 2)) (by decide) ?_
    refine q_iload_n C (by decide +kernel : decode cX11_pledgedBy 24 = .ok (.iload_n 2, 1)) ?_
    refine q_imul C (by decide +kernel : decode cX11_pledgedBy 25 = .ok (.imul, 1)) ?_
    refine q_iadd C (by decide +kernel : decode cX11_pledgedBy 26 = .ok (.iadd, 1)) ?_
    refine q_iload C (by decide +kernel : decode cX11_pledgedBy 27 = .ok (.iload 4, 2)) ?_
    refine q_iadd C (by decide +kernel : decode cX11_pledgedBy 29 = .ok (.iadd, 1)) ?_
    refine q_iald C (by decide +kernel : decode cX11_pledgedBy 30 = .ok (.iaload, 1)) ?_
    refine q_iadd C (by decide +kernel : decode cX11_pledgedBy 31 = .ok (.iadd, 1)) ?_
    refine q_istore_n C (by decide +kernel : decode cX11_pledgedBy 32 = .ok (.istore_n 3, 1)) ?_
    refine q_iinc C (by decide +kernel : decode cX11_pledgedBy 33 = .ok (.iinc 4 1, 3)) (by decide) ?_
    refine q_goto C (tgt := 5) (by decide +kernel : decode cX11_pledgedBy 36 = .ok (.goto (-31), 3)) (by decide) ?_
    exact hK 5 (by decide)
theorem u_X11_pledgedBy (l : Launch) {sp : q_Sp} (H : ∀ (av : List Value) (σ : q_S) (post : Option Value → q_S → Prop), sp av σ post → ∃ Inv : Nat → Nat → q_K, (∀ K : Nat → q_K, (∀ (h n : Nat) (L : List (Option Value)) (st : List Value) (σ : q_S) (cr sr : Nat), Inv h n L st σ cr sr → K h L st σ cr sr) → k_X11_pledgedBy_0 post K (q_L0 av 5) [] σ 0 0) ∧ (∀ (K : Nat → q_K) (n : Nat), (∀ (h m : Nat) (L : List (Option Value)) (st : List Value) (σ : q_S) (cr sr : Nat), m < n → Inv h m L st σ cr sr → K h L st σ cr sr) → ∀ (L : List (Option Value)) (st : List Value) (σ : q_S) (cr sr : Nat), Inv 5 n L st σ cr sr → k_X11_pledgedBy_5 post K L st σ cr sr) ∧ av.length ≤ 5 ∧ ∀ v ∈ av, v.category = 1) : q_Ct l yX11_pledgedBy cX11_pledgedBy 5 (some .int) rm_X11_pledgedBy sp := by
  refine q_met (by decide) ?_
  intro D A p e s m args below meth c σ av post C hsp
  obtain ⟨Inv, h1, hh5, h2, h3⟩ := H av σ post hsp
  have hV := q_loops (p := p) (l := l) (e := e) (R := rm_X11_pledgedBy) (s := s) (m := m) (args := args) (below := below) (meth := meth) (c := c) (D := D) (A := A) (nL := 5) (Q := MQ below (q_Qc D A post) args s rm_X11_pledgedBy.cells rm_X11_pledgedBy.slots A) [5] (fun h =>  k_X11_pledgedBy_5 post) (fun K hK h hh => ?_) Inv (fun n h hh => ?_)
  · exact ⟨_, v_X11_pledgedBy_0 C hV, h1 _ (fun h n L st σ cr sr hi => ⟨n, hi⟩), h2, h3⟩
  · have e9 : h = 5 := by simpa using hh
    subst e9
    exact v_X11_pledgedBy_5 C hK
  · have e9 : h = 5 := by simpa using hh
    subst e9
    exact hh5 (fun h L st σ cr sr => ∃ m : Nat, m < n ∧ Inv h m L st σ cr sr) n (fun h m L st σ cr sr hm hi => ⟨m, hm, hi⟩)
theorem t_X11_pledgedBy (l : Launch) : q_Ct l yX11_pledgedBy cX11_pledgedBy 5 (some .int) rm_X11_pledgedBy s_X11_pledgedBy := u_X11_pledgedBy l (by
  intro av σ post h
  unfold s_X11_pledgedBy at h
  split at h
  · next mr w p =>
    obtain ⟨ad, z, g, gp, r, hm, hw, hp, h1⟩ := h
    obtain ⟨wn, hwn, rfl, e1⟩ := inR 20 hw.1 hw.2
    obtain ⟨pn, hpn, rfl, e2⟩ := inR 12 hp.1 hp.2
    rw [e1, e2] at h1
    refine ⟨fun _ n L st σ' cr sr => ∃ i : Nat, i ≤ 12 ∧ n = 12 - i ∧ σ' = σ ∧ st = [] ∧ L = [some (.ref mr), some (.int (nI wn)), some (.int (nI pn)), some (.int (plF g wn pn i)), some (.int (nI i))], ?_, ?_, by simp, by simp [Value.category]⟩
    · intro K hK
      simp only [c_push, c_null, c_iload, c_aload, c_istore, c_astore, c_iinc, c_iadd, c_isub, c_imul, c_iand, c_ineg, c_dup, c_dup2, c_pop, c_ifnull, c_ifnonnull, c_get, c_put, c_iald, c_zald, c_iast, c_zast, c_aald, c_aast, c_alen, c_new, c_newa, c_newq, c_mna, c_oinit, c_max, c_copy, c_iret, c_zret, c_aret, c_vret, q_do, q_rc, c_ifeq, c_ifne, c_iflt, c_ifge, c_ifgt, c_ifle, c_iceq, c_icne, c_iclt, c_icge, c_icgt, c_icle, c_call0, c_call1, c_call2, c_call3, c_call4, c_call5, c_call6, c_call7, q_L0, List.map_cons, List.map_nil, List.replicate, List.cons_append, List.nil_append, List.append_nil, List.length_cons, List.length_nil, List.length_set, Nat.reduceSub, Nat.reduceAdd, Nat.reduceLT, Nat.reduceLeDiff, Nat.zero_add, Nat.add_zero, Nat.sub_zero, Nat.sub_self, List.getElem?_cons_zero, List.getElem?_cons_succ, List.set_cons_zero, List.set_cons_succ, Option.toList_some, Option.toList_none, List.sum_cons, List.sum_nil, true_and, and_true, true_or, or_true, Nat.le_refl, Nat.zero_le, Value.category, Fin.isValue, Fin.val_zero, Fin.val_one, Fin.val_two, Fin.reduceFinMk, q_10, q_01, not_false_eq_true, not_true_eq_false, forall_const, true_implies, false_implies, implies_true, q_ni, q_fi, q_nb0, q_nb1, q_fb0, q_fb1, q_nor, q_nar, q_for, q_far, q_non, q_nan, q_fon, q_fan, imp_false, false_and, and_false, and_self, false_or, or_false, va_rf, refKind, k_X11_pledgedBy_0, k_X11_pledgedBy_5]
      exact hK _ 12 _ _ _ _ _ ⟨0, Nat.zero_le _, rfl, rfl, rfl, rfl⟩
    · rintro K n hK L st σ' cr sr ⟨i, hi, rfl, rfl, rfl, rfl⟩
      simp only [c_push, c_null, c_iload, c_aload, c_istore, c_astore, c_iinc, c_iadd, c_isub, c_imul, c_iand, c_ineg, c_dup, c_dup2, c_pop, c_ifnull, c_ifnonnull, c_get, c_put, c_iald, c_zald, c_iast, c_zast, c_aald, c_aast, c_alen, c_new, c_newa, c_newq, c_mna, c_oinit, c_max, c_copy, c_iret, c_zret, c_aret, c_vret, q_do, q_rc, c_ifeq, c_ifne, c_iflt, c_ifge, c_ifgt, c_ifle, c_iceq, c_icne, c_iclt, c_icge, c_icgt, c_icle, c_call0, c_call1, c_call2, c_call3, c_call4, c_call5, c_call6, c_call7, q_L0, List.map_cons, List.map_nil, List.replicate, List.cons_append, List.nil_append, List.append_nil, List.length_cons, List.length_nil, List.length_set, Nat.reduceSub, Nat.reduceAdd, Nat.reduceLT, Nat.reduceLeDiff, Nat.zero_add, Nat.add_zero, Nat.sub_zero, Nat.sub_self, List.getElem?_cons_zero, List.getElem?_cons_succ, List.set_cons_zero, List.set_cons_succ, Option.toList_some, Option.toList_none, List.sum_cons, List.sum_nil, true_and, and_true, true_or, or_true, Nat.le_refl, Nat.zero_le, Value.category, Fin.isValue, Fin.val_zero, Fin.val_one, Fin.val_two, Fin.reduceFinMk, q_10, q_01, not_false_eq_true, not_true_eq_false, forall_const, true_implies, false_implies, implies_true, q_ni, q_fi, q_nb0, q_nb1, q_fb0, q_fb1, q_nor, q_nar, q_for, q_far, q_non, q_nan, q_fon, q_fan, imp_false, false_and, and_false, and_self, false_or, or_false, va_rf, refKind, k_X11_pledgedBy_0, k_X11_pledgedBy_5, hm.rd, vpi2880]
      have E := cl2 12 (nI i) 12 i rfl rfl (by omega) (by omega)
      rw [E.1, idx20, clN (by omega)]
      refine ⟨fun c => ?_, fun c => ⟨⟨nI_low (by omega), nI_ltN (N := 2880) (by omega)⟩, hK _ (12 - (i + 1)) _ _ _ _ _ (by omega) ⟨i + 1, by omega, rfl, rfl, rfl, ?_⟩⟩⟩
      · have e : i = 12 := by omega
        subst e; exact h1
      · rw [nI_1, plF]
  · exact h.elim)
def mvF (z : Nat → Int32) : Nat := (z 14).toNatClampNeg
def freeF (z : Nat → Int32) (g : Nat → Nat → Int32) (w p : Int32) : Int32 := holdsF g w p (z 0) (mvF z) - plF g w.toNatClampNeg p.toNatClampNeg 12
def s_X11_freeOf : q_Sp := fun av σ post => match av with
  | [.ref mr, .int w, .int p] => ∃ ad z g gp r, mOKx σ mr ad z g gp r ∧ (0 ≤ w ∧ w < 20) ∧ (0 ≤ p ∧ p < 12) ∧ (0 ≤ z 14 ∧ z 14 ≤ 1000) ∧ post (some (.int (freeF z g w p))) σ
  | _ => False
theorem w9_63 : (.code yX11_holds cX11_holds 6 (some .int) : Cond) ∈ lw_tbl := by decide +kernel
theorem w9_64 : (.methodLink RX11 110 yX11_holds : Cond) ∈ lw_tbl := by decide +kernel
theorem w9_65 : (.instanceMethod yX11_holds : Cond) ∈ lw_tbl := by decide +kernel
theorem w9_66 : (.selects RX11 yX11_holds yX11_holds : Cond) ∈ lw_tbl := by decide +kernel
theorem w9_67 : (.code yX11_pledgedBy cX11_pledgedBy 5 (some .int) : Cond) ∈ lw_tbl := by decide +kernel
theorem w9_68 : (.methodLink RX11 152 yX11_pledgedBy : Cond) ∈ lw_tbl := by decide +kernel
theorem w9_69 : (.instanceMethod yX11_pledgedBy : Cond) ∈ lw_tbl := by decide +kernel
theorem w9_70 : (.selects RX11 yX11_pledgedBy yX11_pledgedBy : Cond) ∈ lw_tbl := by decide +kernel
def rm_X11_freeOf : Room := { frames := 1, cells := 0, slots := 0, locals := 25 }
def k_X11_freeOf_0 (post : Option Value → q_S → Prop) (K : Nat → q_K) : q_K := (c_aload 0 (c_iload 1 (c_iload 2 (c_aload 0 (c_get 11 0 (c_call4 (some 11) s_X11_holds 0 0 (c_aload 0 (c_iload 1 (c_iload 2 (c_call3 (some 11) s_X11_pledgedBy 0 0 (c_isub (c_iret post))))))))))))
set_option maxRecDepth 100000 in
theorem v_X11_freeOf_0 {p : Program} {l : Launch} {e : Env} {s : State} {m : MethodId} {args : Array Value} {below : List Frame} {meth : Method} {c : Code} {D : va_G} {A : Nat → Prop} {post : Option Value → q_S → Prop} {K : Nat → q_K} (C : q_C p s m args meth c cX11_freeOf 3 RX11 "freeOf" (some .int) A) (hK : ∀ h ∈ ([] : List Nat), q_V p l e rm_X11_freeOf s m args below meth c D A 3 (MQ below (q_Qc D A post) args s rm_X11_freeOf.cells rm_X11_freeOf.slots A) h (K h)) : q_V p l e rm_X11_freeOf s m args below meth c D A 3 (MQ below (q_Qc D A post) args s rm_X11_freeOf.cells rm_X11_freeOf.slots A) 0 (k_X11_freeOf_0 post K) := by
  unfold k_X11_freeOf_0
  refine q_aload_n C (by decide +kernel : decode cX11_freeOf 0 = .ok (.aload_n 0, 1)) ?_
  refine q_iload_n C (by decide +kernel : decode cX11_freeOf 1 = .ok (.iload_n 1, 1)) ?_
  refine q_iload_n C (by decide +kernel : decode cX11_freeOf 2 = .ok (.iload_n 2, 1)) ?_
  refine q_aload_n C (by decide +kernel : decode cX11_freeOf 3 = .ok (.aload_n 0, 1)) ?_
  refine q_get C (ci := 11) (j := 0) (C0 := RX11) (T := TX11) (N := 35) rfl iX11 giX11 (by decide) w9_10 (by decide +kernel : decode cX11_freeOf 4 = .ok (.getfield 96, 3)) ?_
  refine q_call4 C (q_coV C (np := 3) (ci := 11) (rc := (RX11, TX11, 35)) (t_X11_holds l) w9_63 rfl rfl w9_64 w9_65 w9_66 w9_6 (by decide +kernel) (by decide +kernel : decode cX11_freeOf 7 = .ok (.invokevirtual 110, 3)) (by decide)) ?_
  refine q_aload_n C (by decide +kernel : decode cX11_freeOf 10 = .ok (.aload_n 0, 1)) ?_
  refine q_iload_n C (by decide +kernel : decode cX11_freeOf 11 = .ok (.iload_n 1, 1)) ?_
  refine q_iload_n C (by decide +kernel : decode cX11_freeOf 12 = .ok (.iload_n 2, 1)) ?_
  refine q_call3 C (q_coV C (np := 2) (ci := 11) (rc := (RX11, TX11, 35)) (t_X11_pledgedBy l) w9_67 rfl rfl w9_68 w9_69 w9_70 w9_6 (by decide +kernel) (by decide +kernel : decode cX11_freeOf 13 = .ok (.invokevirtual 152, 3)) (by decide)) ?_
  refine q_isub C (by decide +kernel : decode cX11_freeOf 16 = .ok (.isub, 1)) ?_
  exact q_iret C rfl (by decide +kernel : decode cX11_freeOf 17 = .ok (.ireturn, 1))
theorem u_X11_freeOf (l : Launch) {sp : q_Sp} (H : ∀ (av : List Value) (σ : q_S) (post : Option Value → q_S → Prop), sp av σ post → k_X11_freeOf_0 post (fun _ _ _ _ _ _ => False) (q_L0 av 3) [] σ 0 0 ∧ av.length ≤ 3 ∧ ∀ v ∈ av, v.category = 1) : q_Ct l yX11_freeOf cX11_freeOf 3 (some .int) rm_X11_freeOf sp := by
  refine q_met (by decide) ?_
  intro D A p e s m args below meth c σ av post C hsp
  obtain ⟨h1, h2, h3⟩ := H av σ post hsp
  exact ⟨_, v_X11_freeOf_0 (K := fun _ _ _ _ _ _ => False) C (fun h hh => by cases hh), h1, h2, h3⟩
theorem t_X11_freeOf (l : Launch) : q_Ct l yX11_freeOf cX11_freeOf 3 (some .int) rm_X11_freeOf s_X11_freeOf := u_X11_freeOf l (by
  intro av σ post h
  unfold s_X11_freeOf at h
  split at h
  · next mr w p =>
    refine ⟨?_, by simp, by simp [Value.category]⟩
    obtain ⟨ad, z, g, gp, r, hm, hw, hp, hI, h1⟩ := h
    simp only [c_push, c_null, c_iload, c_aload, c_istore, c_astore, c_iinc, c_iadd, c_isub, c_imul, c_iand, c_ineg, c_dup, c_dup2, c_pop, c_ifnull, c_ifnonnull, c_get, c_put, c_iald, c_zald, c_iast, c_zast, c_aald, c_aast, c_alen, c_new, c_newa, c_newq, c_mna, c_oinit, c_max, c_copy, c_iret, c_zret, c_aret, c_vret, q_do, q_rc, c_ifeq, c_ifne, c_iflt, c_ifge, c_ifgt, c_ifle, c_iceq, c_icne, c_iclt, c_icge, c_icgt, c_icle, c_call0, c_call1, c_call2, c_call3, c_call4, c_call5, c_call6, c_call7, q_L0, List.map_cons, List.map_nil, List.replicate, List.cons_append, List.nil_append, List.append_nil, List.length_cons, List.length_nil, List.length_set, Nat.reduceSub, Nat.reduceAdd, Nat.reduceLT, Nat.reduceLeDiff, Nat.zero_add, Nat.add_zero, Nat.sub_zero, Nat.sub_self, List.getElem?_cons_zero, List.getElem?_cons_succ, List.set_cons_zero, List.set_cons_succ, Option.toList_some, Option.toList_none, List.sum_cons, List.sum_nil, true_and, and_true, true_or, or_true, Nat.le_refl, Nat.zero_le, Value.category, Fin.isValue, Fin.val_zero, Fin.val_one, Fin.val_two, Fin.reduceFinMk, q_10, q_01, not_false_eq_true, not_true_eq_false, forall_const, true_implies, false_implies, implies_true, q_ni, q_fi, q_nb0, q_nb1, q_fb0, q_fb1, q_nor, q_nar, q_for, q_far, q_non, q_nan, q_fon, q_fan, imp_false, false_and, and_false, and_self, false_or, or_false, va_rf, refKind, k_X11_freeOf_0, hm.rd]
    refine ⟨ad, z, g, gp, r, hm, hw, hI, ?_⟩
    simp only [c_push, c_null, c_iload, c_aload, c_istore, c_astore, c_iinc, c_iadd, c_isub, c_imul, c_iand, c_ineg, c_dup, c_dup2, c_pop, c_ifnull, c_ifnonnull, c_get, c_put, c_iald, c_zald, c_iast, c_zast, c_aald, c_aast, c_alen, c_new, c_newa, c_newq, c_mna, c_oinit, c_max, c_copy, c_iret, c_zret, c_aret, c_vret, q_do, q_rc, c_ifeq, c_ifne, c_iflt, c_ifge, c_ifgt, c_ifle, c_iceq, c_icne, c_iclt, c_icge, c_icgt, c_icle, c_call0, c_call1, c_call2, c_call3, c_call4, c_call5, c_call6, c_call7, q_L0, List.map_cons, List.map_nil, List.replicate, List.cons_append, List.nil_append, List.append_nil, List.length_cons, List.length_nil, List.length_set, Nat.reduceSub, Nat.reduceAdd, Nat.reduceLT, Nat.reduceLeDiff, Nat.zero_add, Nat.add_zero, Nat.sub_zero, Nat.sub_self, List.getElem?_cons_zero, List.getElem?_cons_succ, List.set_cons_zero, List.set_cons_succ, Option.toList_some, Option.toList_none, List.sum_cons, List.sum_nil, true_and, and_true, true_or, or_true, Nat.le_refl, Nat.zero_le, Value.category, Fin.isValue, Fin.val_zero, Fin.val_one, Fin.val_two, Fin.reduceFinMk, q_10, q_01, not_false_eq_true, not_true_eq_false, forall_const, true_implies, false_implies, implies_true, q_ni, q_fi, q_nb0, q_nb1, q_fb0, q_fb1, q_nor, q_nar, q_for, q_far, q_non, q_nan, q_fon, q_fan, imp_false, false_and, and_false, and_self, false_or, or_false, va_rf, refKind, hm.rd]
    refine ⟨ad, z, g, gp, r, hm, hw, hp, ?_⟩
    simp only [c_push, c_null, c_iload, c_aload, c_istore, c_astore, c_iinc, c_iadd, c_isub, c_imul, c_iand, c_ineg, c_dup, c_dup2, c_pop, c_ifnull, c_ifnonnull, c_get, c_put, c_iald, c_zald, c_iast, c_zast, c_aald, c_aast, c_alen, c_new, c_newa, c_newq, c_mna, c_oinit, c_max, c_copy, c_iret, c_zret, c_aret, c_vret, q_do, q_rc, c_ifeq, c_ifne, c_iflt, c_ifge, c_ifgt, c_ifle, c_iceq, c_icne, c_iclt, c_icge, c_icgt, c_icle, c_call0, c_call1, c_call2, c_call3, c_call4, c_call5, c_call6, c_call7, q_L0, List.map_cons, List.map_nil, List.replicate, List.cons_append, List.nil_append, List.append_nil, List.length_cons, List.length_nil, List.length_set, Nat.reduceSub, Nat.reduceAdd, Nat.reduceLT, Nat.reduceLeDiff, Nat.zero_add, Nat.add_zero, Nat.sub_zero, Nat.sub_self, List.getElem?_cons_zero, List.getElem?_cons_succ, List.set_cons_zero, List.set_cons_succ, Option.toList_some, Option.toList_none, List.sum_cons, List.sum_nil, true_and, and_true, true_or, or_true, Nat.le_refl, Nat.zero_le, Value.category, Fin.isValue, Fin.val_zero, Fin.val_one, Fin.val_two, Fin.reduceFinMk, q_10, q_01, not_false_eq_true, not_true_eq_false, forall_const, true_implies, false_implies, implies_true, q_ni, q_fi, q_nb0, q_nb1, q_fb0, q_fb1, q_nor, q_nar, q_for, q_far, q_non, q_nan, q_fon, q_fan, imp_false, false_and, and_false, and_self, false_or, or_false, va_rf, refKind]
    exact h1
  · exact h.elim)
def s_X11_areTwo : q_Sp := fun av σ post => match av with
  | [.ref mr, .int w, .int p, .int q] => (match q_fld σ mr 11 11 with
    | some (.int nw) => (match q_fld σ mr 11 1 with
      | some (.int np) => ((0 ≤ nw ∧ nw ≤ 20) ∧ (0 ≤ np ∧ np ≤ 12)) ∧ ((0 ≤ w ∧ w < nw) ∧ (0 ≤ p ∧ p < np) ∧ (0 ≤ q ∧ q < np) ∧ ¬ p = q → post (some (.int 1)) σ) ∧ (¬ ((0 ≤ w ∧ w < nw) ∧ (0 ≤ p ∧ p < np) ∧ (0 ≤ q ∧ q < np) ∧ ¬ p = q) → post (some (.int 0)) σ)
      | _ => False)
    | _ => False)
  | _ => False
theorem q_fld_oc {σ : q_S} {a ci k : Nat} {v : Value} (h : q_fld σ a ci k = some v) : q_oc σ a = some ci := by
  obtain ⟨fs, e, -⟩ := q_fld_some h
  simp only [q_oc, e]
def rm_X11_areTwo : Room := { frames := 2, cells := 0, slots := 0, locals := 43 }
def k_X11_areTwo_34 (post : Option Value → q_S → Prop) (K : Nat → q_K) : q_K := (c_zret post)
def k_X11_areTwo_33 (post : Option Value → q_S → Prop) (K : Nat → q_K) : q_K := (c_push 0 (k_X11_areTwo_34 post K))
def k_X11_areTwo_0 (post : Option Value → q_S → Prop) (K : Nat → q_K) : q_K := (c_aload 0 (c_iload 1 (c_call2 (some 11) s_X11_isWork 0 0 (c_ifeq (k_X11_areTwo_33 post K) (c_aload 0 (c_iload 2 (c_call2 (some 11) s_X11_isPerson 0 0 (c_ifeq (k_X11_areTwo_33 post K) (c_aload 0 (c_iload 3 (c_call2 (some 11) s_X11_isPerson 0 0 (c_ifeq (k_X11_areTwo_33 post K) (c_iload 2 (c_iload 3 (c_iceq (k_X11_areTwo_33 post K) (c_push 1 (k_X11_areTwo_34 post K)))))))))))))))))
set_option maxRecDepth 100000 in
theorem v_X11_areTwo_34 {p : Program} {l : Launch} {e : Env} {s : State} {m : MethodId} {args : Array Value} {below : List Frame} {meth : Method} {c : Code} {D : va_G} {A : Nat → Prop} {post : Option Value → q_S → Prop} {K : Nat → q_K} (C : q_C p s m args meth c cX11_areTwo 4 RX11 "areTwo" (some .boolean) A) (hK : ∀ h ∈ ([] : List Nat), q_V p l e rm_X11_areTwo s m args below meth c D A 4 (MQ below (q_Qc D A post) args s rm_X11_areTwo.cells rm_X11_areTwo.slots A) h (K h)) : q_V p l e rm_X11_areTwo s m args below meth c D A 4 (MQ below (q_Qc D A post) args s rm_X11_areTwo.cells rm_X11_areTwo.slots A) 34 (k_X11_areTwo_34 post K) := by
  unfold k_X11_areTwo_34
  exact q_zret C rfl (by decide +kernel : decode cX11_areTwo 34 = .ok (.ireturn, 1))
set_option maxRecDepth 100000 in
theorem v_X11_areTwo_33 {p : Program} {l : Launch} {e : Env} {s : State} {m : MethodId} {args : Array Value} {below : List Frame} {meth : Method} {c : Code} {D : va_G} {A : Nat → Prop} {post : Option Value → q_S → Prop} {K : Nat → q_K} (C : q_C p s m args meth c cX11_areTwo 4 RX11 "areTwo" (some .boolean) A) (hK : ∀ h ∈ ([] : List Nat), q_V p l e rm_X11_areTwo s m args below meth c D A 4 (MQ below (q_Qc D A post) args s rm_X11_areTwo.cells rm_X11_areTwo.slots A) h (K h)) : q_V p l e rm_X11_areTwo s m args below meth c D A 4 (MQ below (q_Qc D A post) args s rm_X11_areTwo.cells rm_X11_areTwo.slots A) 33 (k_X11_areTwo_33 post K) := by
  unfold k_X11_areTwo_33
  refine q_iconst C (by decide +kernel : decode cX11_areTwo 33 = .ok (.iconst 0, 1)) (by decide) ?_
  exact v_X11_areTwo_34 C hK
set_option maxRecDepth 100000 in
theorem v_X11_areTwo_0 {p : Program} {l : Launch} {e : Env} {s : State} {m : MethodId} {args : Array Value} {below : List Frame} {meth : Method} {c : Code} {D : va_G} {A : Nat → Prop} {post : Option Value → q_S → Prop} {K : Nat → q_K} (C : q_C p s m args meth c cX11_areTwo 4 RX11 "areTwo" (some .boolean) A) (hK : ∀ h ∈ ([] : List Nat), q_V p l e rm_X11_areTwo s m args below meth c D A 4 (MQ below (q_Qc D A post) args s rm_X11_areTwo.cells rm_X11_areTwo.slots A) h (K h)) : q_V p l e rm_X11_areTwo s m args below meth c D A 4 (MQ below (q_Qc D A post) args s rm_X11_areTwo.cells rm_X11_areTwo.slots A) 0 (k_X11_areTwo_0 post K) := by
  unfold k_X11_areTwo_0
  refine q_aload_n C (by decide +kernel : decode cX11_areTwo 0 = .ok (.aload_n 0, 1)) ?_
  refine q_iload_n C (by decide +kernel : decode cX11_areTwo 1 = .ok (.iload_n 1, 1)) ?_
  refine q_call2 C (q_coV C (np := 1) (ci := 11) (rc := (RX11, TX11, 35)) (t_X11_isWork l) w9_48 rfl rfl w9_49 w9_50 w9_51 w9_6 (by decide +kernel) (by decide +kernel : decode cX11_areTwo 2 = .ok (.invokevirtual 140, 3)) (by decide)) ?_
  refine q_ifeq C (tgt := 33) (by decide +kernel : decode cX11_areTwo 5 = .ok (.ifCond .eq 28, 3)) (by decide) ?_ ?_
  · exact v_X11_areTwo_33 C hK
  · refine q_aload_n C (by decide +kernel : decode cX11_areTwo 8 = .ok (.aload_n 0, 1)) ?_
    refine q_iload_n C (by decide +kernel : decode cX11_areTwo 9 = .ok (.iload_n 2, 1)) ?_
    refine q_call2 C (q_coV C (np := 1) (ci := 11) (rc := (RX11, TX11, 35)) (t_X11_isPerson l) w9_13 rfl rfl w9_14 w9_15 w9_16 w9_6 (by decide +kernel) (by decide +kernel : decode cX11_areTwo 10 = .ok (.invokevirtual 106, 3)) (by decide)) ?_
    refine q_ifeq C (tgt := 33) (by decide +kernel : decode cX11_areTwo 13 = .ok (.ifCond .eq 20, 3)) (by decide) ?_ ?_
    · exact v_X11_areTwo_33 C hK
    · refine q_aload_n C (by decide +kernel : decode cX11_areTwo 16 = .ok (.aload_n 0, 1)) ?_
      refine q_iload_n C (by decide +kernel : decode cX11_areTwo 17 = .ok (.iload_n 3, 1)) ?_
      refine q_call2 C (q_coV C (np := 1) (ci := 11) (rc := (RX11, TX11, 35)) (t_X11_isPerson l) w9_13 rfl rfl w9_14 w9_15 w9_16 w9_6 (by decide +kernel) (by decide +kernel : decode cX11_areTwo 18 = .ok (.invokevirtual 106, 3)) (by decide)) ?_
      refine q_ifeq C (tgt := 33) (by decide +kernel : decode cX11_areTwo 21 = .ok (.ifCond .eq 12, 3)) (by decide) ?_ ?_
      · exact v_X11_areTwo_33 C hK
      · refine q_iload_n C (by decide +kernel : decode cX11_areTwo 24 = .ok (.iload_n 2, 1)) ?_
        refine q_iload_n C (by decide +kernel : decode cX11_areTwo 25 = .ok (.iload_n 3, 1)) ?_
        refine q_iceq C (tgt := 33) (by decide +kernel : decode cX11_areTwo 26 = .ok (.if_icmp .eq 7, 3)) (by decide) ?_ ?_
        · exact v_X11_areTwo_33 C hK
        · refine q_iconst C (by decide +kernel : decode cX11_areTwo 29 = .ok (.iconst 1, 1)) (by decide) ?_
          refine q_goto C (tgt := 34) (by decide +kernel : decode cX11_areTwo 30 = .ok (.goto 4, 3)) (by decide) ?_
          exact v_X11_areTwo_34 C hK
theorem u_X11_areTwo (l : Launch) {sp : q_Sp} (H : ∀ (av : List Value) (σ : q_S) (post : Option Value → q_S → Prop), sp av σ post → k_X11_areTwo_0 post (fun _ _ _ _ _ _ => False) (q_L0 av 4) [] σ 0 0 ∧ av.length ≤ 4 ∧ ∀ v ∈ av, v.category = 1) : q_Ct l yX11_areTwo cX11_areTwo 4 (some .boolean) rm_X11_areTwo sp := by
  refine q_met (by decide) ?_
  intro D A p e s m args below meth c σ av post C hsp
  obtain ⟨h1, h2, h3⟩ := H av σ post hsp
  exact ⟨_, v_X11_areTwo_0 (K := fun _ _ _ _ _ _ => False) C (fun h hh => by cases hh), h1, h2, h3⟩
theorem t_X11_areTwo (l : Launch) : q_Ct l yX11_areTwo cX11_areTwo 4 (some .boolean) rm_X11_areTwo s_X11_areTwo := u_X11_areTwo l (by
  intro av σ post h
  unfold s_X11_areTwo at h
  split at h
  · split at h
    · next hf =>
      split at h
      · next hf2 =>
        refine ⟨?_, by simp, by simp [Value.category]⟩
        simp only [c_push, c_null, c_iload, c_aload, c_istore, c_astore, c_iinc, c_iadd, c_isub, c_imul, c_iand, c_ineg, c_dup, c_dup2, c_pop, c_ifnull, c_ifnonnull, c_get, c_put, c_iald, c_zald, c_iast, c_zast, c_aald, c_aast, c_alen, c_new, c_newa, c_newq, c_mna, c_oinit, c_max, c_copy, c_iret, c_zret, c_aret, c_vret, q_do, q_rc, c_ifeq, c_ifne, c_iflt, c_ifge, c_ifgt, c_ifle, c_iceq, c_icne, c_iclt, c_icge, c_icgt, c_icle, c_call0, c_call1, c_call2, c_call3, c_call4, c_call5, c_call6, c_call7, q_L0, List.map_cons, List.map_nil, List.replicate, List.cons_append, List.nil_append, List.append_nil, List.length_cons, List.length_nil, List.length_set, Nat.reduceSub, Nat.reduceAdd, Nat.reduceLT, Nat.reduceLeDiff, Nat.zero_add, Nat.add_zero, Nat.sub_zero, Nat.sub_self, List.getElem?_cons_zero, List.getElem?_cons_succ, List.set_cons_zero, List.set_cons_succ, Option.toList_some, Option.toList_none, List.sum_cons, List.sum_nil, true_and, and_true, true_or, or_true, Nat.le_refl, Nat.zero_le, Value.category, Fin.isValue, Fin.val_zero, Fin.val_one, Fin.val_two, Fin.reduceFinMk, q_10, q_01, not_false_eq_true, not_true_eq_false, forall_const, true_implies, false_implies, implies_true, q_ni, q_fi, q_nb0, q_nb1, q_fb0, q_fb1, q_nor, q_nar, q_for, q_far, q_non, q_nan, q_fon, q_fan, imp_false, false_and, and_false, and_self, false_or, or_false, va_rf, refKind, k_X11_areTwo_0, k_X11_areTwo_33, k_X11_areTwo_34, hf, hf2, q_fld_oc hf, s_X11_isWork, s_X11_isPerson]
        grind (splits := 40)
      · exact h.elim
    · exact h.elim
  · exact h.elim)
-- sell
abbrev isW (z : Nat → Int32) (w : Int32) : Prop := 0 ≤ w ∧ w < z 11
abbrev isP (z : Nat → Int32) (p : Int32) : Prop := 0 ≤ p ∧ p < z 1
abbrev twoF (z : Nat → Int32) (w p q : Int32) : Prop := isW z w ∧ isP z p ∧ isP z q ∧ ¬ p = q
def F_sell (z : Nat → Int32) (g : Nat → Nat → Int32) (w a b n : Int32) : Int32 × (Nat → Int32) × (Nat → Nat → Int32) :=
  if twoF z w a b ∧ 1 ≤ n ∧ n ≤ 16 then if freeF z g w a < n ∨ ¬ g 3 b.toNatClampNeg = -1 then (-3, z, g) else (1, upd z 14 (z 14 + 1), moveF z g w a b n) else (-2, z, g)
def s_X11_sell : q_Sp := fun av σ post => match av with
  | [.ref mr, .int w, .int a, .int b, .int n] => ∃ ad z g, mOK σ mr ad z g ∧ I1 z ∧ z 14 < 1000 ∧ ∀ σ', mOK σ' mr ad (F_sell z g w a b n).2.1 (F_sell z g w a b n).2.2 → post (some (.int (F_sell z g w a b n).1)) σ'
  | _ => False
theorem w9_71 : (.code yX11_areTwo cX11_areTwo 4 (some .boolean) : Cond) ∈ lw_tbl := by decide +kernel
theorem w9_72 : (.methodLink RX11 155 yX11_areTwo : Cond) ∈ lw_tbl := by decide +kernel
theorem w9_73 : (.instanceMethod yX11_areTwo : Cond) ∈ lw_tbl := by decide +kernel
theorem w9_74 : (.selects RX11 yX11_areTwo yX11_areTwo : Cond) ∈ lw_tbl := by decide +kernel
theorem w9_75 : (.code yX11_freeOf cX11_freeOf 3 (some .int) : Cond) ∈ lw_tbl := by decide +kernel
theorem w9_76 : (.methodLink RX11 158 yX11_freeOf : Cond) ∈ lw_tbl := by decide +kernel
theorem w9_77 : (.instanceMethod yX11_freeOf : Cond) ∈ lw_tbl := by decide +kernel
theorem w9_78 : (.selects RX11 yX11_freeOf yX11_freeOf : Cond) ∈ lw_tbl := by decide +kernel
theorem w9_79 : (.code yX11_move cX11_move 5 none : Cond) ∈ lw_tbl := by decide +kernel
theorem w9_80 : (.methodLink RX11 114 yX11_move : Cond) ∈ lw_tbl := by decide +kernel
theorem w9_81 : (.instanceMethod yX11_move : Cond) ∈ lw_tbl := by decide +kernel
theorem w9_82 : (.selects RX11 yX11_move yX11_move : Cond) ∈ lw_tbl := by decide +kernel
def rm_X11_sell : Room := { frames := 3, cells := 0, slots := 0, locals := 66 }
def k_X11_sell_21 (post : Option Value → q_S → Prop) (K : Nat → q_K) : q_K := (c_push (-2) (c_iret post))
def k_X11_sell_45 (post : Option Value → q_S → Prop) (K : Nat → q_K) : q_K := (c_push (-3) (c_iret post))
def k_X11_sell_0 (post : Option Value → q_S → Prop) (K : Nat → q_K) : q_K := (c_aload 0 (c_iload 1 (c_iload 2 (c_iload 3 (c_call4 (some 11) s_X11_areTwo 0 0 (c_ifeq (k_X11_sell_21 post K) (c_iload 4 (c_push 1 (c_push 16 (c_call3 none s_X11_in 0 0 (c_ifne (c_aload 0 (c_iload 1 (c_iload 2 (c_call3 (some 11) s_X11_freeOf 0 0 (c_iload 4 (c_iclt (k_X11_sell_45 post K) (c_aload 0 (c_get 11 3 (c_iload 3 (c_iald (c_push (-1) (c_iceq (c_aload 0 (c_iload 1 (c_iload 2 (c_iload 3 (c_iload 4 (c_call5 (some 11) s_X11_move 0 0 (c_push 1 (c_iret post)))))))) (k_X11_sell_45 post K))))))))))))) (k_X11_sell_21 post K))))))))))))
set_option maxRecDepth 100000 in
theorem v_X11_sell_21 {p : Program} {l : Launch} {e : Env} {s : State} {m : MethodId} {args : Array Value} {below : List Frame} {meth : Method} {c : Code} {D : va_G} {A : Nat → Prop} {post : Option Value → q_S → Prop} {K : Nat → q_K} (C : q_C p s m args meth c cX11_sell 5 RX11 "sell" (some .int) A) (hK : ∀ h ∈ ([] : List Nat), q_V p l e rm_X11_sell s m args below meth c D A 5 (MQ below (q_Qc D A post) args s rm_X11_sell.cells rm_X11_sell.slots A) h (K h)) : q_V p l e rm_X11_sell s m args below meth c D A 5 (MQ below (q_Qc D A post) args s rm_X11_sell.cells rm_X11_sell.slots A) 21 (k_X11_sell_21 post K) := by
  unfold k_X11_sell_21
  refine q_bipush C (by decide +kernel : decode cX11_sell 21 = .ok (.bipush (-2), 2)) (by decide) ?_
  exact q_iret C rfl (by decide +kernel : decode cX11_sell 23 = .ok (.ireturn, 1))
set_option maxRecDepth 100000 in
theorem v_X11_sell_45 {p : Program} {l : Launch} {e : Env} {s : State} {m : MethodId} {args : Array Value} {below : List Frame} {meth : Method} {c : Code} {D : va_G} {A : Nat → Prop} {post : Option Value → q_S → Prop} {K : Nat → q_K} (C : q_C p s m args meth c cX11_sell 5 RX11 "sell" (some .int) A) (hK : ∀ h ∈ ([] : List Nat), q_V p l e rm_X11_sell s m args below meth c D A 5 (MQ below (q_Qc D A post) args s rm_X11_sell.cells rm_X11_sell.slots A) h (K h)) : q_V p l e rm_X11_sell s m args below meth c D A 5 (MQ below (q_Qc D A post) args s rm_X11_sell.cells rm_X11_sell.slots A) 45 (k_X11_sell_45 post K) := by
  unfold k_X11_sell_45
  refine q_bipush C (by decide +kernel : decode cX11_sell 45 = .ok (.bipush (-3), 2)) (by decide) ?_
  exact q_iret C rfl (by decide +kernel : decode cX11_sell 47 = .ok (.ireturn, 1))
set_option maxRecDepth 100000 in
theorem v_X11_sell_0 {p : Program} {l : Launch} {e : Env} {s : State} {m : MethodId} {args : Array Value} {below : List Frame} {meth : Method} {c : Code} {D : va_G} {A : Nat → Prop} {post : Option Value → q_S → Prop} {K : Nat → q_K} (C : q_C p s m args meth c cX11_sell 5 RX11 "sell" (some .int) A) (hK : ∀ h ∈ ([] : List Nat), q_V p l e rm_X11_sell s m args below meth c D A 5 (MQ below (q_Qc D A post) args s rm_X11_sell.cells rm_X11_sell.slots A) h (K h)) : q_V p l e rm_X11_sell s m args below meth c D A 5 (MQ below (q_Qc D A post) args s rm_X11_sell.cells rm_X11_sell.slots A) 0 (k_X11_sell_0 post K) := by
  unfold k_X11_sell_0
  refine q_aload_n C (by decide +kernel : decode cX11_sell 0 = .ok (.aload_n 0, 1)) ?_
  refine q_iload_n C (by decide +kernel : decode cX11_sell 1 = .ok (.iload_n 1, 1)) ?_
  refine q_iload_n C (by decide +kernel : decode cX11_sell 2 = .ok (.iload_n 2, 1)) ?_
  refine q_iload_n C (by decide +kernel : decode cX11_sell 3 = .ok (.iload_n 3, 1)) ?_
  refine q_call4 C (q_coV C (np := 3) (ci := 11) (rc := (RX11, TX11, 35)) (t_X11_areTwo l) w9_71 rfl rfl w9_72 w9_73 w9_74 w9_6 (by decide +kernel) (by decide +kernel : decode cX11_sell 4 = .ok (.invokevirtual 155, 3)) (by decide)) ?_
  refine q_ifeq C (tgt := 21) (by decide +kernel : decode cX11_sell 7 = .ok (.ifCond .eq 14, 3)) (by decide) ?_ ?_
  · exact v_X11_sell_21 C hK
  · refine q_iload C (by decide +kernel : decode cX11_sell 10 = .ok (.iload 4, 2)) ?_
    refine q_iconst C (by decide +kernel : decode cX11_sell 12 = .ok (.iconst 1, 1)) (by decide) ?_
    refine q_bipush C (by decide +kernel : decode cX11_sell 13 = .ok (.bipush 16, 2)) (by decide) ?_
    refine q_call3 C (q_coS C (np := 3) (t_X11_in l) w9_5 w9_8 w9_7 w9_6 (by decide +kernel) (by decide +kernel : decode cX11_sell 15 = .ok (.invokestatic 92, 3)) (by decide)) ?_
    refine q_ifne C (tgt := 24) (by decide +kernel : decode cX11_sell 18 = .ok (.ifCond .ne 6, 3)) (by decide) ?_ ?_
    · refine q_aload_n C (by decide +kernel : decode cX11_sell 24 = .ok (.aload_n 0, 1)) ?_
      refine q_iload_n C (by decide +kernel : decode cX11_sell 25 = .ok (.iload_n 1, 1)) ?_
      refine q_iload_n C (by decide +kernel : decode cX11_sell 26 = .ok (.iload_n 2, 1)) ?_
      refine q_call3 C (q_coV C (np := 2) (ci := 11) (rc := (RX11, TX11, 35)) (t_X11_freeOf l) w9_75 rfl rfl w9_76 w9_77 w9_78 w9_6 (by decide +kernel) (by decide +kernel : decode cX11_sell 27 = .ok (.invokevirtual 158, 3)) (by decide)) ?_
      refine q_iload C (by decide +kernel : decode cX11_sell 30 = .ok (.iload 4, 2)) ?_
      refine q_iclt C (tgt := 45) (by decide +kernel : decode cX11_sell 32 = .ok (.if_icmp .lt 13, 3)) (by decide) ?_ ?_
      · exact v_X11_sell_45 C hK
      · refine q_aload_n C (by decide +kernel : decode cX11_sell 35 = .ok (.aload_n 0, 1)) ?_
        refine q_get C (ci := 11) (j := 3) (C0 := RX11) (T := TX11) (N := 35) rfl iX11 giX11 (by decide) w9_12 (by decide +kernel : decode cX11_sell 36 = .ok (.getfield 13, 3)) ?_
        refine q_iload_n C (by decide +kernel : decode cX11_sell 39 = .ok (.iload_n 3, 1)) ?_
        refine q_iald C (by decide +kernel : decode cX11_sell 40 = .ok (.iaload, 1)) ?_
        refine q_iconst C (by decide +kernel : decode cX11_sell 41 = .ok (.iconst (-1), 1)) (by decide) ?_
        refine q_iceq C (tgt := 48) (by decide +kernel : decode cX11_sell 42 = .ok (.if_icmp .eq 6, 3)) (by decide) ?_ ?_
        · refine q_aload_n C (by decide +kernel : decode cX11_sell 48 = .ok (.aload_n 0, 1)) ?_
          refine q_iload_n C (by decide +kernel : decode cX11_sell 49 = .ok (.iload_n 1, 1)) ?_
          refine q_iload_n C (by decide +kernel : decode cX11_sell 50 = .ok (.iload_n 2, 1)) ?_
          refine q_iload_n C (by decide +kernel : decode cX11_sell 51 = .ok (.iload_n 3, 1)) ?_
          refine q_iload C (by decide +kernel : decode cX11_sell 52 = .ok (.iload 4, 2)) ?_
          refine q_call5 C (q_coV C (np := 4) (ci := 11) (rc := (RX11, TX11, 35)) (t_X11_move l) w9_79 rfl rfl w9_80 w9_81 w9_82 w9_6 (by decide +kernel) (by decide +kernel : decode cX11_sell 54 = .ok (.invokevirtual 114, 3)) (by decide)) ?_
          refine q_iconst C (by decide +kernel : decode cX11_sell 57 = .ok (.iconst 1, 1)) (by decide) ?_
          exact q_iret C rfl (by decide +kernel : decode cX11_sell 58 = .ok (.ireturn, 1))
        · exact v_X11_sell_45 C hK
    · exact v_X11_sell_21 C hK
theorem u_X11_sell (l : Launch) {sp : q_Sp} (H : ∀ (av : List Value) (σ : q_S) (post : Option Value → q_S → Prop), sp av σ post → k_X11_sell_0 post (fun _ _ _ _ _ _ => False) (q_L0 av 5) [] σ 0 0 ∧ av.length ≤ 5 ∧ ∀ v ∈ av, v.category = 1) : q_Ct l yX11_sell cX11_sell 5 (some .int) rm_X11_sell sp := by
  refine q_met (by decide) ?_
  intro D A p e s m args below meth c σ av post C hsp
  obtain ⟨h1, h2, h3⟩ := H av σ post hsp
  exact ⟨_, v_X11_sell_0 (K := fun _ _ _ _ _ _ => False) C (fun h hh => by cases hh), h1, h2, h3⟩
theorem t_X11_sell (l : Launch) : q_Ct l yX11_sell cX11_sell 5 (some .int) rm_X11_sell s_X11_sell := u_X11_sell l (by
  intro av σ post h
  unfold s_X11_sell at h
  split at h
  · next mr w a b n =>
    refine ⟨?_, by simp, by simp [Value.category]⟩
    obtain ⟨ad, z, g, ⟨gp, r, hm⟩, hI, hmv, h1⟩ := h
    simp only [c_push, c_null, c_iload, c_aload, c_istore, c_astore, c_iinc, c_iadd, c_isub, c_imul, c_iand, c_ineg, c_dup, c_dup2, c_pop, c_ifnull, c_ifnonnull, c_get, c_put, c_iald, c_zald, c_iast, c_zast, c_aald, c_aast, c_alen, c_new, c_newa, c_newq, c_mna, c_oinit, c_max, c_copy, c_iret, c_zret, c_aret, c_vret, q_do, q_rc, c_ifeq, c_ifne, c_iflt, c_ifge, c_ifgt, c_ifle, c_iceq, c_icne, c_iclt, c_icge, c_icgt, c_icle, c_call0, c_call1, c_call2, c_call3, c_call4, c_call5, c_call6, c_call7, q_L0, List.map_cons, List.map_nil, List.replicate, List.cons_append, List.nil_append, List.append_nil, List.length_cons, List.length_nil, List.length_set, Nat.reduceSub, Nat.reduceAdd, Nat.reduceLT, Nat.reduceLeDiff, Nat.zero_add, Nat.add_zero, Nat.sub_zero, Nat.sub_self, List.getElem?_cons_zero, List.getElem?_cons_succ, List.set_cons_zero, List.set_cons_succ, Option.toList_some, Option.toList_none, List.sum_cons, List.sum_nil, true_and, and_true, true_or, or_true, Nat.le_refl, Nat.zero_le, Value.category, Fin.isValue, Fin.val_zero, Fin.val_one, Fin.val_two, Fin.reduceFinMk, q_10, q_01, not_false_eq_true, not_true_eq_false, forall_const, true_implies, false_implies, implies_true, q_ni, q_fi, q_nb0, q_nb1, q_fb0, q_fb1, q_nor, q_nar, q_for, q_far, q_non, q_nan, q_fon, q_fan, imp_false, false_and, and_false, and_self, false_or, or_false, va_rf, refKind, k_X11_sell_0, k_X11_sell_21, k_X11_sell_45, hm.rd, vpi12, s_X11_areTwo, s_X11_in, s_X10_isWithin]
    unfold I1 at hI
    refine ⟨⟨hI.2.2.2.1, hI.2.1⟩, fun c => ?_, fun c => ?_⟩
    · refine ⟨fun c2 => ?_, fun c2 => ?_⟩
      · refine ⟨ad, z, g, gp, r, hm, ⟨c.1.1, by grind⟩, ⟨c.2.1.1, by grind⟩, hI.2.2.2.2.1, ?_⟩
        rw [F_sell, if_pos ⟨c, c2⟩] at h1
        simp only [c_push, c_null, c_iload, c_aload, c_istore, c_astore, c_iinc, c_iadd, c_isub, c_imul, c_iand, c_ineg, c_dup, c_dup2, c_pop, c_ifnull, c_ifnonnull, c_get, c_put, c_iald, c_zald, c_iast, c_zast, c_aald, c_aast, c_alen, c_new, c_newa, c_newq, c_mna, c_oinit, c_max, c_copy, c_iret, c_zret, c_aret, c_vret, q_do, q_rc, c_ifeq, c_ifne, c_iflt, c_ifge, c_ifgt, c_ifle, c_iceq, c_icne, c_iclt, c_icge, c_icgt, c_icle, c_call0, c_call1, c_call2, c_call3, c_call4, c_call5, c_call6, c_call7, q_L0, List.map_cons, List.map_nil, List.replicate, List.cons_append, List.nil_append, List.append_nil, List.length_cons, List.length_nil, List.length_set, Nat.reduceSub, Nat.reduceAdd, Nat.reduceLT, Nat.reduceLeDiff, Nat.zero_add, Nat.add_zero, Nat.sub_zero, Nat.sub_self, List.getElem?_cons_zero, List.getElem?_cons_succ, List.set_cons_zero, List.set_cons_succ, Option.toList_some, Option.toList_none, List.sum_cons, List.sum_nil, true_and, and_true, true_or, or_true, Nat.le_refl, Nat.zero_le, Value.category, Fin.isValue, Fin.val_zero, Fin.val_one, Fin.val_two, Fin.reduceFinMk, q_10, q_01, not_false_eq_true, not_true_eq_false, forall_const, true_implies, false_implies, implies_true, q_ni, q_fi, q_nb0, q_nb1, q_fb0, q_fb1, q_nor, q_nar, q_for, q_far, q_non, q_nan, q_fon, q_fan, imp_false, false_and, and_false, and_self, false_or, or_false, va_rf, refKind, hm.rd, vpi12]
        have hbb : 0 ≤ b ∧ b < 12 := ⟨c.2.2.1.1, by grind⟩
        refine ⟨fun c3 => ?_, fun c3 => ⟨hbb, fun c4 => ?_, fun c4 => ?_⟩⟩
        · rw [if_pos (Or.inl c3)] at h1
          exact h1 _ ⟨gp, r, hm⟩
        · rw [if_neg (by grind)] at h1
          refine ⟨ad, z, g, gp, r, hm, ⟨hI.2.2.2.2.1.1, hmv⟩, fun σ' hm' => ?_⟩
          simp only [c_push, c_null, c_iload, c_aload, c_istore, c_astore, c_iinc, c_iadd, c_isub, c_imul, c_iand, c_ineg, c_dup, c_dup2, c_pop, c_ifnull, c_ifnonnull, c_get, c_put, c_iald, c_zald, c_iast, c_zast, c_aald, c_aast, c_alen, c_new, c_newa, c_newq, c_mna, c_oinit, c_max, c_copy, c_iret, c_zret, c_aret, c_vret, q_do, q_rc, c_ifeq, c_ifne, c_iflt, c_ifge, c_ifgt, c_ifle, c_iceq, c_icne, c_iclt, c_icge, c_icgt, c_icle, c_call0, c_call1, c_call2, c_call3, c_call4, c_call5, c_call6, c_call7, q_L0, List.map_cons, List.map_nil, List.replicate, List.cons_append, List.nil_append, List.append_nil, List.length_cons, List.length_nil, List.length_set, Nat.reduceSub, Nat.reduceAdd, Nat.reduceLT, Nat.reduceLeDiff, Nat.zero_add, Nat.add_zero, Nat.sub_zero, Nat.sub_self, List.getElem?_cons_zero, List.getElem?_cons_succ, List.set_cons_zero, List.set_cons_succ, Option.toList_some, Option.toList_none, List.sum_cons, List.sum_nil, true_and, and_true, true_or, or_true, Nat.le_refl, Nat.zero_le, Value.category, Fin.isValue, Fin.val_zero, Fin.val_one, Fin.val_two, Fin.reduceFinMk, q_10, q_01, not_false_eq_true, not_true_eq_false, forall_const, true_implies, false_implies, implies_true, q_ni, q_fi, q_nb0, q_nb1, q_fb0, q_fb1, q_nor, q_nar, q_for, q_far, q_non, q_nan, q_fon, q_fan, imp_false, false_and, and_false, and_self, false_or, or_false, va_rf, refKind]
          exact h1 _ ⟨gp, r, hm'⟩
        · rw [if_pos (by grind)] at h1
          exact h1 _ ⟨gp, r, hm⟩
      · rw [F_sell, if_neg (by grind)] at h1
        exact h1 _ ⟨gp, r, hm⟩
    · rw [F_sell, if_neg (by grind)] at h1
      exact h1 _ ⟨gp, r, hm⟩
  · exact h.elim)
