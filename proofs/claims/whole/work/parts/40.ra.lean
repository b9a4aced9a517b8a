-- isLicensed, receiverFrom, act of the register
theorem licB_mono (g : Nat → Nat → Int32) (w u p t : Int32) {i : Nat} (h : licB g w u p t i = true) : ∀ d : Nat, licB g w u p t (i + d) = true
  | 0 => h
  | d + 1 => by rw [show i + (d + 1) = (i + d) + 1 from rfl, licB, licB_mono g w u p t h d]; simp
def s_X10_isLicensed : q_Sp := fun av σ post => match av with
  | [.ref r, .int w, .int u, .int p, .int t] => ∃ z g, RegOK σ r z g ∧ I1 z ∧ (licB g w u p t (nlF z) = true → post (some (.int 1)) σ) ∧ (licB g w u p t (nlF z) = false → post (some (.int 0)) σ)
  | _ => False
theorem w9_376 : (.fieldLink RX10 42 (TX10 6).1 (TX10 6).2.1 (TX10 6).2.2.1 : Cond) ∈ lw_tbl := by decide +kernel
theorem w9_377 : (.code yX4_fits cX4_fits 4 (some .boolean) : Cond) ∈ lw_tbl := by decide +kernel
theorem w9_378 : (.initialized RX4 : Cond) ∈ lw_tbl := by decide +kernel
theorem w9_379 : (.methodLink RX10 217 yX4_fits : Cond) ∈ lw_tbl := by decide +kernel
theorem w9_380 : (.instanceMethod yX4_fits : Cond) ∈ lw_tbl := by decide +kernel
theorem w9_381 : (.selects RX4 yX4_fits yX4_fits : Cond) ∈ lw_tbl := by decide +kernel
theorem w9_382 : (.code yX4_coversDay cX4_coversDay 2 (some .boolean) : Cond) ∈ lw_tbl := by decide +kernel
theorem w9_383 : (.methodLink RX10 220 yX4_coversDay : Cond) ∈ lw_tbl := by decide +kernel
theorem w9_384 : (.instanceMethod yX4_coversDay : Cond) ∈ lw_tbl := by decide +kernel
theorem w9_385 : (.selects RX4 yX4_coversDay yX4_coversDay : Cond) ∈ lw_tbl := by decide +kernel
def rm_X10_isLicensed : Room := { frames := 1, cells := 0, slots := 0, locals := 23 }
def k_X10_isLicensed_0 (post : Option Value → q_S → Prop) (K : Nat → q_K) : q_K := (c_push 0 (c_istore 5 (K 3)))
def k_X10_isLicensed_59 (post : Option Value → q_S → Prop) (K : Nat → q_K) : q_K := (c_iinc 5 1 (K 3))
def k_X10_isLicensed_65 (post : Option Value → q_S → Prop) (K : Nat → q_K) : q_K := (c_push 0 (c_zret post))
def k_X10_isLicensed_3 (post : Option Value → q_S → Prop) (K : Nat → q_K) : q_K := (c_iload 5 (c_aload 0 (c_get 10 7 (c_icge (k_X10_isLicensed_65 post K) (c_iload 5 (c_aload 0 (c_get 10 6 (c_alen (c_icge (k_X10_isLicensed_65 post K) (c_aload 0 (c_get 10 6 (c_iload 5 (c_aald (c_astore 6 (c_aload 6 (c_ifnull (k_X10_isLicensed_59 post K) (c_aload 6 (c_iload 1 (c_iload 2 (c_iload 3 (c_call4 (some 4) s_X4_fits 0 0 (c_ifeq (k_X10_isLicensed_59 post K) (c_aload 6 (c_iload 4 (c_call2 (some 4) s_X4_coversDay 0 0 (c_ifeq (k_X10_isLicensed_59 post K) (c_push 1 (c_zret post))))))))))))))))))))))))))))
set_option maxRecDepth 100000 in
theorem v_X10_isLicensed_0 {p : Program} {l : Launch} {e : Env} {s : State} {m : MethodId} {args : Array Value} {below : List Frame} {meth : Method} {c : Code} {D : va_G} {A : Nat → Prop} {post : Option Value → q_S → Prop} {K : Nat → q_K} (C : q_C p s m args meth c cX10_isLicensed 7 RX10 "isLicensed" (some .boolean) A) (hK : ∀ h ∈ ([3] : List Nat), q_V p l e rm_X10_isLicensed s m args below meth c D A 7 (MQ below (q_Qc D A post) args s rm_X10_isLicensed.cells rm_X10_isLicensed.slots A) h (K h)) : q_V p l e rm_X10_isLicensed s m args below meth c D A 7 (MQ below (q_Qc D A post) args s rm_X10_isLicensed.cells rm_X10_isLicensed.slots A) 0 (k_X10_isLicensed_0 post K) := by
  unfold k_X10_isLicensed_0
  refine q_iconst C (by decide +kernel : decode cX10_isLicensed 0 = .ok (.iconst 0, 1)) (by decide) ?_
  refine q_istore C (by decide +kernel : decode cX10_isLicensed 1 = .ok (.istore 5, 2)) ?_
  exact hK 3 (by decide)
set_option maxRecDepth 100000 in
theorem v_X10_isLicensed_59 {p : Program} {l : Launch} {e : Env} {s : State} {m : MethodId} {args : Array Value} {below : List Frame} {meth : Method} {c : Code} {D : va_G} {A : Nat → Prop} {post : Option Value → q_S → Prop} {K : Nat → q_K} (C : q_C p s m args meth c cX10_isLicensed 7 RX10 "isLicensed" (some .boolean) A) (hK : ∀ h ∈ ([3] : List Nat), q_V p l e rm_X10_isLicensed s m args below meth c D A 7 (MQ below (q_Qc D A post) args s rm_X10_isLicensed.cells rm_X10_isLicensed.slots A) h (K h)) : q_V p l e rm_X10_isLicensed s m args below meth c D A 7 (MQ below (q_Qc D A post) args s rm_X10_isLicensed.cells rm_X10_isLicensed.slots A) 59 (k_X10_isLicensed_59 post K) := by
  unfold k_X10_isLicensed_59
  refine q_iinc C (by decide +kernel : decode cX10_isLicensed 59 = .ok (.iinc 5 1, 3)) (by decide) ?_
  refine q_goto C (tgt := 3) (by decide +kernel : decode cX10_isLicensed 62 = .ok (.goto (-59), 3)) (by decide) ?_
  exact hK 3 (by decide)
set_option maxRecDepth 100000 in
theorem v_X10_isLicensed_65 {p : Program} {l : Launch} {e : Env} {s : State} {m : MethodId} {args : Array Value} {below : List Frame} {meth : Method} {c : Code} {D : va_G} {A : Nat → Prop} {post : Option Value → q_S → Prop} {K : Nat → q_K} (C : q_C p s m args meth c cX10_isLicensed 7 RX10 "isLicensed" (some .boolean) A) (hK : ∀ h ∈ ([3] : List Nat), q_V p l e rm_X10_isLicensed s m args below meth c D A 7 (MQ below (q_Qc D A post) args s rm_X10_isLicensed.cells rm_X10_isLicensed.slots A) h (K h)) : q_V p l e rm_X10_isLicensed s m args below meth c D A 7 (MQ below (q_Qc D A post) args s rm_X10_isLicensed.cells rm_X10_isLicensed.slots A) 65 (k_X10_isLicensed_65 post K) := by
  unfold k_X10_isLicensed_65
  refine q_iconst C (by decide +kernel : decode cX10_isLicensed 65 = .ok (.iconst 0, 1)) (by decide) ?_
  exact q_zret C rfl (by decide +kernel : decode cX10_isLicensed 66 = .ok (.ireturn, 1))
set_option maxRecDepth 100000 in
theorem v_X10_isLicensed_3 {p : Program} {l : Launch} {e : Env} {s : State} {m : MethodId} {args : Array Value} {below : List Frame} {meth : Method} {c : Code} {D : va_G} {A : Nat → Prop} {post : Option Value → q_S → Prop} {K : Nat → q_K} (C : q_C p s m args meth c cX10_isLicensed 7 RX10 "isLicensed" (some .boolean) A) (hK : ∀ h ∈ ([3] : List Nat), q_V p l e rm_X10_isLicensed s m args below meth c D A 7 (MQ below (q_Qc D A post) args s rm_X10_isLicensed.cells rm_X10_isLicensed.slots A) h (K h)) : q_V p l e rm_X10_isLicensed s m args below meth c D A 7 (MQ below (q_Qc D A post) args s rm_X10_isLicensed.cells rm_X10_isLicensed.slots A) 3 (k_X10_isLicensed_3 post K) := by
  unfold k_X10_isLicensed_3
  refine q_iload C (by decide +kernel : decode cX10_isLicensed 3 = .ok (.iload 5, 2)) ?_
  refine q_aload_n C (by decide +kernel : decode cX10_isLicensed 5 = .ok (.aload_n 0, 1)) ?_
  refine q_get C (ci := 10) (j := 7) (C0 := RX10) (T := TX10) (N := 10) rfl iX10 giX10 (by decide) w9_322 (by decide +kernel : decode cX10_isLicensed 6 = .ok (.getfield 46, 3)) ?_
  refine q_icge C (tgt := 65) (by decide +kernel : decode cX10_isLicensed 9 = .ok (.if_icmp .ge 56, 3)) (by decide) ?_ ?_
  · exact v_X10_isLicensed_65 C hK
  · refine q_iload C (by decide +kernel : decode cX10_isLicensed 12 = .ok (.iload 5, 2)) ?_
    refine q_aload_n C (by decide +kernel : decode cX10_isLicensed 14 = .ok (.aload_n 0, 1)) ?_
    refine q_get C (ci := 10) (j := 6) (C0 := RX10) (T := TX10) (N := 10) rfl iX10 giX10 (by decide) w9_376 (by decide +kernel : decode cX10_isLicensed 15 = .ok (.getfield 42, 3)) ?_
    refine q_alen C (by decide +kernel : decode cX10_isLicensed 18 = .ok (.arraylength, 1)) ?_
    refine q_icge C (tgt := 65) (by decide +kernel : decode cX10_isLicensed 19 = .ok (.if_icmp .ge 46, 3)) (by decide) ?_ ?_
    · exact v_X10_isLicensed_65 C hK
    · refine q_aload_n C (by decide +kernel : decode cX10_isLicensed 22 = .ok (.aload_n 0, 1)) ?_
      refine q_get C (ci := 10) (j := 6) (C0 := RX10) (T := TX10) (N := 10) rfl iX10 giX10 (by decide) w9_376 (by decide +kernel : decode cX10_isLicensed 23 = .ok (.getfield 42, 3)) ?_
      refine q_iload C (by decide +kernel : decode cX10_isLicensed 26 = .ok (.iload 5, 2)) ?_
      refine q_aald C (by decide +kernel : decode cX10_isLicensed 28 = .ok (.aaload, 1)) ?_
      refine q_astore C (by decide +kernel : decode cX10_isLicensed 29 = .ok (.astore 6, 2)) ?_
      refine q_aload C (by decide +kernel : decode cX10_isLicensed 31 = .ok (.aload 6, 2)) ?_
      refine q_ifnull C (tgt := 59) (by decide +kernel : decode cX10_isLicensed 33 = .ok (.ifnull 26, 3)) (by decide) ?_ ?_
      · exact v_X10_isLicensed_59 C hK
      · refine q_aload C (by decide +kernel : decode cX10_isLicensed 36 = .ok (.aload 6, 2)) ?_
        refine q_iload_n C (by decide +kernel : decode cX10_isLicensed 38 = .ok (.iload_n 1, 1)) ?_
        refine q_iload_n C (by decide +kernel : decode cX10_isLicensed 39 = .ok (.iload_n 2, 1)) ?_
        refine q_iload_n C (by decide +kernel : decode cX10_isLicensed 40 = .ok (.iload_n 3, 1)) ?_
        refine q_call4 C (q_coV C (np := 3) (ci := 4) (rc := (RX4, TX4, 6)) (t_X4_fits l) w9_377 rfl rfl w9_379 w9_380 w9_381 w9_378 (by decide +kernel) (by decide +kernel : decode cX10_isLicensed 41 = .ok (.invokevirtual 217, 3)) (by decide)) ?_
        refine q_ifeq C (tgt := 59) (by decide +kernel : decode cX10_isLicensed 44 = .ok (.ifCond .eq 15, 3)) (by decide) ?_ ?_
        · exact v_X10_isLicensed_59 C hK
        · refine q_aload C (by decide +kernel : decode cX10_isLicensed 47 = .ok (.aload 6, 2)) ?_
          refine q_iload C (by decide +kernel : decode cX10_isLicensed 49 = .ok (.iload 4, 2)) ?_
          refine q_call2 C (q_coV C (np := 1) (ci := 4) (rc := (RX4, TX4, 6)) (t_X4_coversDay l) w9_382 rfl rfl w9_383 w9_384 w9_385 w9_378 (by decide +kernel) (by decide +kernel : decode cX10_isLicensed 51 = .ok (.invokevirtual 220, 3)) (by decide)) ?_
          refine q_ifeq C (tgt := 59) (by decide +kernel : decode cX10_isLicensed 54 = .ok (.ifCond .eq 5, 3)) (by decide) ?_ ?_
          · exact v_X10_isLicensed_59 C hK
          · refine q_iconst C (by decide +kernel : decode cX10_isLicensed 57 = .ok (.iconst 1, 1)) (by decide) ?_
            exact q_zret C rfl (by decide +kernel : decode cX10_isLicensed 58 = .ok (.ireturn, 1))
theorem u_X10_isLicensed (l : Launch) {sp : q_Sp} (H : ∀ (av : List Value) (σ : q_S) (post : Option Value → q_S → Prop), sp av σ post → ∃ Inv : Nat → Nat → q_K, (∀ K : Nat → q_K, (∀ (h n : Nat) (L : List (Option Value)) (st : List Value) (σ : q_S) (cr sr : Nat), Inv h n L st σ cr sr → K h L st σ cr sr) → k_X10_isLicensed_0 post K (q_L0 av 7) [] σ 0 0) ∧ (∀ (K : Nat → q_K) (n : Nat), (∀ (h m : Nat) (L : List (Option Value)) (st : List Value) (σ : q_S) (cr sr : Nat), m < n → Inv h m L st σ cr sr → K h L st σ cr sr) → ∀ (L : List (Option Value)) (st : List Value) (σ : q_S) (cr sr : Nat), Inv 3 n L st σ cr sr → k_X10_isLicensed_3 post K L st σ cr sr) ∧ av.length ≤ 7 ∧ ∀ v ∈ av, v.category = 1) : q_Ct l yX10_isLicensed cX10_isLicensed 7 (some .boolean) rm_X10_isLicensed sp := by
  refine q_met (by decide) ?_
  intro D A p e s m args below meth c σ av post C hsp
  obtain ⟨Inv, h1, hh3, h2, h3⟩ := H av σ post hsp
  have hV := q_loops (p := p) (l := l) (e := e) (R := rm_X10_isLicensed) (s := s) (m := m) (args := args) (below := below) (meth := meth) (c := c) (D := D) (A := A) (nL := 7) (Q := MQ below (q_Qc D A post) args s rm_X10_isLicensed.cells rm_X10_isLicensed.slots A) [3] (fun h =>  k_X10_isLicensed_3 post) (fun K hK h hh => ?_) Inv (fun n h hh => ?_)
  · exact ⟨_, v_X10_isLicensed_0 C hV, h1 _ (fun h n L st σ cr sr hi => ⟨n, hi⟩), h2, h3⟩
  · have e9 : h = 3 := by simpa using hh
    subst e9
    exact v_X10_isLicensed_3 C hK
  · have e9 : h = 3 := by simpa using hh
    subst e9
    exact hh3 (fun h L st σ cr sr => ∃ m : Nat, m < n ∧ Inv h m L st σ cr sr) n (fun h m L st σ cr sr hm hi => ⟨m, hm, hi⟩)
theorem t_X10_isLicensed (l : Launch) : q_Ct l yX10_isLicensed cX10_isLicensed 7 (some .boolean) rm_X10_isLicensed s_X10_isLicensed := u_X10_isLicensed l (by
  intro av σ post h
  unfold s_X10_isLicensed at h
  split at h
  · next r w u p t =>
    obtain ⟨z, g, hR, hI, h7, h8⟩ := h
    obtain ⟨Rg, P, AC, AR, WK, LC, CL, CM, CP, pa, aa, wa, sa, ga, la, lra, lc, lrn, hD⟩ := hR
    have e1 := hD.p1.2
    obtain ⟨l1, l2⟩ := hD.p5
    have f7 : q_fld σ r 10 7 = some (.int (z 22)) := by simp only [q_fld, e1, if_true]; rfl
    have f6 : q_fld σ r 10 6 = some (.ref LC) := by simp only [q_fld, e1, if_true]; rfl
    unfold I1 at hI
    have en : z 22 = nI (nlF z) := (nI_self hI.2.2.2.2.2.1.1).symm
    have hn : nlF z ≤ 40 := clamp_le 40 hI.2.2.2.2.2.1.1 hI.2.2.2.2.2.1.2
    rw [en] at f7
    have a2 : q_len σ LC = some 40 := by simp only [q_len, l1.2]
    refine ⟨fun _ m L st σ' cr sr => ∃ i d6, i ≤ nlF z ∧ m = nlF z - i ∧ σ' = σ ∧ st = [] ∧ licB g w u p t i = false ∧ L = [some (.ref r), some (.int w), some (.int u), some (.int p), some (.int t), some (.int (nI i)), d6], ?_, ?_, by simp, by simp [Value.category]⟩
    · intro K hK
      simp only [c_push, c_null, c_iload, c_aload, c_istore, c_astore, c_iinc, c_iadd, c_isub, c_imul, c_iand, c_ineg, c_dup, c_dup2, c_pop, c_ifnull, c_ifnonnull, c_get, c_put, c_iald, c_zald, c_iast, c_zast, c_aald, c_aast, c_alen, c_new, c_newa, c_newq, c_mna, c_oinit, c_max, c_copy, c_iret, c_zret, c_aret, c_vret, q_do, q_rc, c_ifeq, c_ifne, c_iflt, c_ifge, c_ifgt, c_ifle, c_iceq, c_icne, c_iclt, c_icge, c_icgt, c_icle, c_call0, c_call1, c_call2, c_call3, c_call4, c_call5, c_call6, c_call7, q_L0, List.map_cons, List.map_nil, List.replicate, List.cons_append, List.nil_append, List.append_nil, List.length_cons, List.length_nil, List.length_set, Nat.reduceSub, Nat.reduceAdd, Nat.reduceLT, Nat.reduceLeDiff, Nat.zero_add, Nat.add_zero, Nat.sub_zero, Nat.sub_self, List.getElem?_cons_zero, List.getElem?_cons_succ, List.set_cons_zero, List.set_cons_succ, Option.toList_some, Option.toList_none, List.sum_cons, List.sum_nil, true_and, and_true, true_or, or_true, Nat.le_refl, Nat.zero_le, Value.category, Fin.isValue, Fin.val_zero, Fin.val_one, Fin.val_two, Fin.reduceFinMk, q_10, q_01, not_false_eq_true, not_true_eq_false, forall_const, true_implies, false_implies, implies_true, q_ni, q_fi, q_nb0, q_nb1, q_fb0, q_fb1, q_nor, q_nar, q_for, q_far, q_non, q_nan, q_fon, q_fan, imp_false, false_and, and_false, and_self, false_or, or_false, va_rf, refKind, k_X10_isLicensed_0]
      exact hK _ (nlF z) _ _ _ _ _ ⟨0, none, Nat.zero_le _, rfl, rfl, rfl, rfl, rfl⟩
    · rintro K m hK L st σ' cr sr ⟨i, d6, hi, rfl, rfl, rfl, hlf, rfl⟩
      have cc := cl2 (nI i) (nI (nlF z)) _ _ rfl rfl (by omega) (by omega)
      by_cases c : i < nlF z
      · have e3 := (l2 i c).2
        have oa : q_oc σ' (lc i) = some 4 := by simp only [q_oc, e3]
        have cl : nI i < nI (nlF z) := cc.2.1.mpr c
        have cl' : ¬ nI (nlF z) ≤ nI i := by grind
        have c40 : nI i < 40 := nI_ltN (N := 40) (by omega)
        have c40' : ¬ (40 : Int32) ≤ nI i := by grind
        have c0 : (0 : Int32) ≤ nI i := nI_low (by omega)
        have q1 : q_aq σ' LC = some (.object "CopyRegister$Licence", 40, fun i => if i < nlF z then some (lc i) else none) := by simp only [q_aq, l1.2, rkO, if_true]
        have JN : ¬ licOK g w u p t i → ∀ d6, K 3 [some (.ref r), some (.int w), some (.int u), some (.int p), some (.int t), some (.int (nI i + 1)), d6] [] σ' cr sr := fun hn2 d6 =>
          hK _ (nlF z - (i + 1)) _ _ _ _ _ (by omega) ⟨i + 1, d6, by omega, rfl, rfl, rfl, by rw [licB, hlf, decide_eq_false hn2]; rfl, by rw [nI_1]⟩
        have JY : licOK g w u p t i → post (some (.int 1)) σ' := fun hy => h7 (by
          have ht : licB g w u p t (i + 1) = true := by rw [licB, decide_eq_true hy]; simp
          have := licB_mono g w u p t ht (nlF z - (i + 1))
          rw [show i + 1 + (nlF z - (i + 1)) = nlF z by omega] at this
          exact this)
        simp only [c_push, c_null, c_iload, c_aload, c_istore, c_astore, c_iinc, c_iadd, c_isub, c_imul, c_iand, c_ineg, c_dup, c_dup2, c_pop, c_ifnull, c_ifnonnull, c_get, c_put, c_iald, c_zald, c_iast, c_zast, c_aald, c_aast, c_alen, c_new, c_newa, c_newq, c_mna, c_oinit, c_max, c_copy, c_iret, c_zret, c_aret, c_vret, q_do, q_rc, c_ifeq, c_ifne, c_iflt, c_ifge, c_ifgt, c_ifle, c_iceq, c_icne, c_iclt, c_icge, c_icgt, c_icle, c_call0, c_call1, c_call2, c_call3, c_call4, c_call5, c_call6, c_call7, q_L0, List.map_cons, List.map_nil, List.replicate, List.cons_append, List.nil_append, List.append_nil, List.length_cons, List.length_nil, List.length_set, Nat.reduceSub, Nat.reduceAdd, Nat.reduceLT, Nat.reduceLeDiff, Nat.zero_add, Nat.add_zero, Nat.sub_zero, Nat.sub_self, List.getElem?_cons_zero, List.getElem?_cons_succ, List.set_cons_zero, List.set_cons_succ, Option.toList_some, Option.toList_none, List.sum_cons, List.sum_nil, true_and, and_true, true_or, or_true, Nat.le_refl, Nat.zero_le, Value.category, Fin.isValue, Fin.val_zero, Fin.val_one, Fin.val_two, Fin.reduceFinMk, q_10, q_01, not_false_eq_true, not_true_eq_false, forall_const, true_implies, false_implies, implies_true, q_ni, q_fi, q_nb0, q_nb1, q_fb0, q_fb1, q_nor, q_nar, q_for, q_far, q_non, q_nan, q_fon, q_fan, imp_false, false_and, and_false, and_self, false_or, or_false, va_rf, refKind, k_X10_isLicensed_0, k_X10_isLicensed_59, k_X10_isLicensed_65, k_X10_isLicensed_3, f7, f6, a2, q1, len40, vpi40, cl', c40, c40', c0, clN (show i < 2147483648 by omega), if_pos c, oa, s_X4_fits, e3, s_X4_coversDay]
        exact ⟨fun a => ⟨fun b => JY ⟨a.1, a.2.1, a.2.2, b⟩, fun b => JN (fun h => b h.2.2.2) _⟩, fun a => JN (fun h => a ⟨h.1, h.2.1, h.2.2.1⟩) _⟩
      · have cl : ¬ nI i < nI (nlF z) := fun h => c (cc.2.1.mp h)
        have cl' : nI (nlF z) ≤ nI i := by grind
        have e : i = nlF z := by omega
        have h9 := h8 (by rw [← e]; exact hlf)
        simp only [c_push, c_null, c_iload, c_aload, c_istore, c_astore, c_iinc, c_iadd, c_isub, c_imul, c_iand, c_ineg, c_dup, c_dup2, c_pop, c_ifnull, c_ifnonnull, c_get, c_put, c_iald, c_zald, c_iast, c_zast, c_aald, c_aast, c_alen, c_new, c_newa, c_newq, c_mna, c_oinit, c_max, c_copy, c_iret, c_zret, c_aret, c_vret, q_do, q_rc, c_ifeq, c_ifne, c_iflt, c_ifge, c_ifgt, c_ifle, c_iceq, c_icne, c_iclt, c_icge, c_icgt, c_icle, c_call0, c_call1, c_call2, c_call3, c_call4, c_call5, c_call6, c_call7, q_L0, List.map_cons, List.map_nil, List.replicate, List.cons_append, List.nil_append, List.append_nil, List.length_cons, List.length_nil, List.length_set, Nat.reduceSub, Nat.reduceAdd, Nat.reduceLT, Nat.reduceLeDiff, Nat.zero_add, Nat.add_zero, Nat.sub_zero, Nat.sub_self, List.getElem?_cons_zero, List.getElem?_cons_succ, List.set_cons_zero, List.set_cons_succ, Option.toList_some, Option.toList_none, List.sum_cons, List.sum_nil, true_and, and_true, true_or, or_true, Nat.le_refl, Nat.zero_le, Value.category, Fin.isValue, Fin.val_zero, Fin.val_one, Fin.val_two, Fin.reduceFinMk, q_10, q_01, not_false_eq_true, not_true_eq_false, forall_const, true_implies, false_implies, implies_true, q_ni, q_fi, q_nb0, q_nb1, q_fb0, q_fb1, q_nor, q_nar, q_for, q_far, q_non, q_nan, q_fon, q_fan, imp_false, false_and, and_false, and_self, false_or, or_false, va_rf, refKind, k_X10_isLicensed_0, k_X10_isLicensed_59, k_X10_isLicensed_65, k_X10_isLicensed_3, f7, f6, a2, len40, cl', h9]
  · exact h.elim)
def s_X10_receiverFrom : q_Sp := fun av σ post => match av with
  | [.ref r, .ref q] => ∃ P AC WK LC CL CP z pa hn x y d0 x2 y2, σ r = some (rootE z P AC WK LC CL CP) ∧ σ P = some (refsE "CopyRegister$Person" 12 (npF z) pa) ∧ (0 ≤ z 1 ∧ z 1 ≤ 12) ∧ σ q = some (.inr (7, [.int hn, x, y])) ∧ (0 ≤ hn ∧ hn < z 1 → σ (pa hn.toNatClampNeg) = some (.inr (7, [x2, .int d0, y2]))) ∧ ((0 ≤ hn ∧ hn < z 1) ∧ d0 = -1 → post (some (.int hn)) σ) ∧ (¬ ((0 ≤ hn ∧ hn < z 1) ∧ d0 = -1) → post (some (.int (-5))) σ)
  | _ => False
theorem w9_386 : (.methodLink RX10 75 yX7_isToldDead : Cond) ∈ lw_tbl := by decide +kernel
def rm_X10_receiverFrom : Room := { frames := 1, cells := 0, slots := 0, locals := 21 }
def k_X10_receiverFrom_29 (post : Option Value → q_S → Prop) (K : Nat → q_K) : q_K := (c_iret post)
def k_X10_receiverFrom_20 (post : Option Value → q_S → Prop) (K : Nat → q_K) : q_K := (c_push (-5) (k_X10_receiverFrom_29 post K))
def k_X10_receiverFrom_0 (post : Option Value → q_S → Prop) (K : Nat → q_K) : q_K := (c_aload 0 (c_aload 1 (c_get 7 0 (c_call2 (some 10) s_X10_personAt 0 0 (c_astore 2 (c_aload 2 (c_ifnull (k_X10_receiverFrom_20 post K) (c_aload 2 (c_call1 (some 7) s_X7_isToldDead 0 0 (c_ifeq (c_aload 1 (c_get 7 0 (k_X10_receiverFrom_29 post K))) (k_X10_receiverFrom_20 post K)))))))))))
set_option maxRecDepth 100000 in
theorem v_X10_receiverFrom_29 {p : Program} {l : Launch} {e : Env} {s : State} {m : MethodId} {args : Array Value} {below : List Frame} {meth : Method} {c : Code} {D : va_G} {A : Nat → Prop} {post : Option Value → q_S → Prop} {K : Nat → q_K} (C : q_C p s m args meth c cX10_receiverFrom 3 RX10 "receiverFrom" (some .int) A) (hK : ∀ h ∈ ([] : List Nat), q_V p l e rm_X10_receiverFrom s m args below meth c D A 3 (MQ below (q_Qc D A post) args s rm_X10_receiverFrom.cells rm_X10_receiverFrom.slots A) h (K h)) : q_V p l e rm_X10_receiverFrom s m args below meth c D A 3 (MQ below (q_Qc D A post) args s rm_X10_receiverFrom.cells rm_X10_receiverFrom.slots A) 29 (k_X10_receiverFrom_29 post K) := by
  unfold k_X10_receiverFrom_29
  exact q_iret C rfl (by decide +kernel : decode cX10_receiverFrom 29 = .ok (.ireturn, 1))
set_option maxRecDepth 100000 in
theorem v_X10_receiverFrom_20 {p : Program} {l : Launch} {e : Env} {s : State} {m : MethodId} {args : Array Value} {below : List Frame} {meth : Method} {c : Code} {D : va_G} {A : Nat → Prop} {post : Option Value → q_S → Prop} {K : Nat → q_K} (C : q_C p s m args meth c cX10_receiverFrom 3 RX10 "receiverFrom" (some .int) A) (hK : ∀ h ∈ ([] : List Nat), q_V p l e rm_X10_receiverFrom s m args below meth c D A 3 (MQ below (q_Qc D A post) args s rm_X10_receiverFrom.cells rm_X10_receiverFrom.slots A) h (K h)) : q_V p l e rm_X10_receiverFrom s m args below meth c D A 3 (MQ below (q_Qc D A post) args s rm_X10_receiverFrom.cells rm_X10_receiverFrom.slots A) 20 (k_X10_receiverFrom_20 post K) := by
  unfold k_X10_receiverFrom_20
  refine q_bipush C (by decide +kernel : decode cX10_receiverFrom 20 = .ok (.bipush (-5), 2)) (by decide) ?_
  refine q_goto C (tgt := 29) (by decide +kernel : decode cX10_receiverFrom 22 = .ok (.goto 7, 3)) (by decide) ?_
  exact v_X10_receiverFrom_29 C hK
set_option maxRecDepth 100000 in
theorem v_X10_receiverFrom_0 {p : Program} {l : Launch} {e : Env} {s : State} {m : MethodId} {args : Array Value} {below : List Frame} {meth : Method} {c : Code} {D : va_G} {A : Nat → Prop} {post : Option Value → q_S → Prop} {K : Nat → q_K} (C : q_C p s m args meth c cX10_receiverFrom 3 RX10 "receiverFrom" (some .int) A) (hK : ∀ h ∈ ([] : List Nat), q_V p l e rm_X10_receiverFrom s m args below meth c D A 3 (MQ below (q_Qc D A post) args s rm_X10_receiverFrom.cells rm_X10_receiverFrom.slots A) h (K h)) : q_V p l e rm_X10_receiverFrom s m args below meth c D A 3 (MQ below (q_Qc D A post) args s rm_X10_receiverFrom.cells rm_X10_receiverFrom.slots A) 0 (k_X10_receiverFrom_0 post K) := by
  unfold k_X10_receiverFrom_0
  refine q_aload_n C (by decide +kernel : decode cX10_receiverFrom 0 = .ok (.aload_n 0, 1)) ?_
  refine q_aload_n C (by decide +kernel : decode cX10_receiverFrom 1 = .ok (.aload_n 1, 1)) ?_
  refine q_getN C (ci := 7) (j := 0) (C0 := RX7) (T := TX7) (N := 3) rfl iX7 giX7 (by decide) (by decide +kernel) (by decide +kernel : decode cX10_receiverFrom 2 = .ok (.getfield 72, 3)) ?_
  refine q_call2 C (q_coV C (np := 1) (ci := 10) (rc := (RX10, TX10, 10)) (t_X10_personAt l) w9_316 rfl rfl w9_317 w9_318 w9_319 w9_1 (by decide +kernel) (by decide +kernel : decode cX10_receiverFrom 5 = .ok (.invokevirtual 68, 3)) (by decide)) ?_
  refine q_astore_n C (by decide +kernel : decode cX10_receiverFrom 8 = .ok (.astore_n 2, 1)) ?_
  refine q_aload_n C (by decide +kernel : decode cX10_receiverFrom 9 = .ok (.aload_n 2, 1)) ?_
  refine q_ifnull C (tgt := 20) (by decide +kernel : decode cX10_receiverFrom 10 = .ok (.ifnull 10, 3)) (by decide) ?_ ?_
  · exact v_X10_receiverFrom_20 C hK
  · refine q_aload_n C (by decide +kernel : decode cX10_receiverFrom 13 = .ok (.aload_n 2, 1)) ?_
    refine q_call1 C (q_coV C (np := 0) (ci := 7) (rc := (RX7, TX7, 3)) (t_X7_isToldDead l) w9_120 rfl rfl w9_386 w9_123 w9_124 w9_121 (by decide +kernel) (by decide +kernel : decode cX10_receiverFrom 14 = .ok (.invokevirtual 75, 3)) (by decide)) ?_
    refine q_ifeq C (tgt := 25) (by decide +kernel : decode cX10_receiverFrom 17 = .ok (.ifCond .eq 8, 3)) (by decide) ?_ ?_
    · refine q_aload_n C (by decide +kernel : decode cX10_receiverFrom 25 = .ok (.aload_n 1, 1)) ?_
      refine q_getN C (ci := 7) (j := 0) (C0 := RX7) (T := TX7) (N := 3) rfl iX7 giX7 (by decide) (by decide +kernel) (by decide +kernel : decode cX10_receiverFrom 26 = .ok (.getfield 72, 3)) ?_
      exact v_X10_receiverFrom_29 C hK
    · exact v_X10_receiverFrom_20 C hK
theorem u_X10_receiverFrom (l : Launch) {sp : q_Sp} (H : ∀ (av : List Value) (σ : q_S) (post : Option Value → q_S → Prop), sp av σ post → k_X10_receiverFrom_0 post (fun _ _ _ _ _ _ => False) (q_L0 av 3) [] σ 0 0 ∧ av.length ≤ 3 ∧ ∀ v ∈ av, v.category = 1) : q_Ct l yX10_receiverFrom cX10_receiverFrom 3 (some .int) rm_X10_receiverFrom sp := by
  refine q_met (by decide) ?_
  intro D A p e s m args below meth c σ av post C hsp
  obtain ⟨h1, h2, h3⟩ := H av σ post hsp
  exact ⟨_, v_X10_receiverFrom_0 (K := fun _ _ _ _ _ _ => False) C (fun h hh => by cases hh), h1, h2, h3⟩
theorem t_X10_receiverFrom (l : Launch) : q_Ct l yX10_receiverFrom cX10_receiverFrom 3 (some .int) rm_X10_receiverFrom s_X10_receiverFrom := u_X10_receiverFrom l (by
  intro av σ post h
  unfold s_X10_receiverFrom at h
  split at h
  · next r q =>
    refine ⟨?_, by simp, by simp [Value.category]⟩
    obtain ⟨P, AC, WK, LC, CL, CP, z, pa, hn, x, y, d0, x2, y2, e1, e2, h3, e4, e5, h7, h8⟩ := h
    have o1 : q_oc σ r = some 10 := by simp only [q_oc, e1]
    have f0 : q_fld σ q 7 0 = some (.int hn) := by simp only [q_fld, e4, if_true]; rfl
    by_cases c : 0 ≤ hn ∧ hn < z 1
    · have e6 := e5 c
      have o7 : q_oc σ (pa hn.toNatClampNeg) = some 7 := by simp only [q_oc, e6]
      simp only [c_push, c_null, c_iload, c_aload, c_istore, c_astore, c_iinc, c_iadd, c_isub, c_imul, c_iand, c_ineg, c_dup, c_dup2, c_pop, c_ifnull, c_ifnonnull, c_get, c_put, c_iald, c_zald, c_iast, c_zast, c_aald, c_aast, c_alen, c_new, c_newa, c_newq, c_mna, c_oinit, c_max, c_copy, c_iret, c_zret, c_aret, c_vret, q_do, q_rc, c_ifeq, c_ifne, c_iflt, c_ifge, c_ifgt, c_ifle, c_iceq, c_icne, c_iclt, c_icge, c_icgt, c_icle, c_call0, c_call1, c_call2, c_call3, c_call4, c_call5, c_call6, c_call7, q_L0, List.map_cons, List.map_nil, List.replicate, List.cons_append, List.nil_append, List.append_nil, List.length_cons, List.length_nil, List.length_set, Nat.reduceSub, Nat.reduceAdd, Nat.reduceLT, Nat.reduceLeDiff, Nat.zero_add, Nat.add_zero, Nat.sub_zero, Nat.sub_self, List.getElem?_cons_zero, List.getElem?_cons_succ, List.set_cons_zero, List.set_cons_succ, Option.toList_some, Option.toList_none, List.sum_cons, List.sum_nil, true_and, and_true, true_or, or_true, Nat.le_refl, Nat.zero_le, Value.category, Fin.isValue, Fin.val_zero, Fin.val_one, Fin.val_two, Fin.reduceFinMk, q_10, q_01, not_false_eq_true, not_true_eq_false, forall_const, true_implies, false_implies, implies_true, q_ni, q_fi, q_nb0, q_nb1, q_fb0, q_fb1, q_nor, q_nar, q_for, q_far, q_non, q_nan, q_fon, q_fan, imp_false, false_and, and_false, and_self, false_or, or_false, va_rf, refKind, k_X10_receiverFrom_0, k_X10_receiverFrom_20, k_X10_receiverFrom_29, o1, f0, pAt e1 e2 h3, c, o7, s_X7_isToldDead, e6]
      exact ⟨fun c2 => h7 ⟨c, c2⟩, fun c2 => h8 (fun h => c2 h.2)⟩
    · have h9 := h8 (fun h => c h.1)
      simp only [c_push, c_null, c_iload, c_aload, c_istore, c_astore, c_iinc, c_iadd, c_isub, c_imul, c_iand, c_ineg, c_dup, c_dup2, c_pop, c_ifnull, c_ifnonnull, c_get, c_put, c_iald, c_zald, c_iast, c_zast, c_aald, c_aast, c_alen, c_new, c_newa, c_newq, c_mna, c_oinit, c_max, c_copy, c_iret, c_zret, c_aret, c_vret, q_do, q_rc, c_ifeq, c_ifne, c_iflt, c_ifge, c_ifgt, c_ifle, c_iceq, c_icne, c_iclt, c_icge, c_icgt, c_icle, c_call0, c_call1, c_call2, c_call3, c_call4, c_call5, c_call6, c_call7, q_L0, List.map_cons, List.map_nil, List.replicate, List.cons_append, List.nil_append, List.append_nil, List.length_cons, List.length_nil, List.length_set, Nat.reduceSub, Nat.reduceAdd, Nat.reduceLT, Nat.reduceLeDiff, Nat.zero_add, Nat.add_zero, Nat.sub_zero, Nat.sub_self, List.getElem?_cons_zero, List.getElem?_cons_succ, List.set_cons_zero, List.set_cons_succ, Option.toList_some, Option.toList_none, List.sum_cons, List.sum_nil, true_and, and_true, true_or, or_true, Nat.le_refl, Nat.zero_le, Value.category, Fin.isValue, Fin.val_zero, Fin.val_one, Fin.val_two, Fin.reduceFinMk, q_10, q_01, not_false_eq_true, not_true_eq_false, forall_const, true_implies, false_implies, implies_true, q_ni, q_fi, q_nb0, q_nb1, q_fb0, q_fb1, q_nor, q_nar, q_for, q_far, q_non, q_nan, q_fon, q_fan, imp_false, false_and, and_false, and_self, false_or, or_false, va_rf, refKind, k_X10_receiverFrom_0, k_X10_receiverFrom_20, k_X10_receiverFrom_29, o1, f0, pAt e1 e2 h3, c, h9]
  · exact h.elim)
def s_X10_act : q_Sp := fun av σ post => match av with
  | [.ref r, .int d, .int f, .int li, .int v, .int c] => ∃ z g, RegOK σ r z g ∧ I1 z ∧ ∀ σ', RegOK σ' r (F_act z g d f li v c).2.1 (F_act z g d f li v c).2.2 → post (some (.int (F_act z g d f li v c).1)) σ'
  | _ => False
theorem act_last {z : Nat → Int32} {g : Nat → Nat → Int32} {d : Int32} (h : 0 ≤ z 5 ∧ z 5 ≤ 6) : (0 < z 5 → g 6 (z 5 - 1).toNatClampNeg < d) ↔ (0 < naF z → g 6 (naF z - 1) < d) := by
  have en : z 5 = nI (naF z) := (nI_self h.1).symm
  have hn : naF z ≤ 6 := clamp_le 6 h.1 h.2
  rcases hh : naF z with _ | n
  · rw [en, hh]
    exact ⟨fun _ h => absurd h (by decide), fun _ h => absurd h (by decide)⟩
  · rw [hh] at en
    have e2 : z 5 - 1 = nI n := by rw [en, ← nI_1]; grind
    rw [e2, clN (by omega), en]
    have := (cl2 0 (nI (n + 1)) 0 (n + 1) rfl rfl (by omega) (by omega)).2.1
    rw [this]
    exact Iff.rfl
theorem naF_s {z : Nat → Int32} (h : 0 ≤ z 5 ∧ z 5 < 6) : naF (upd z 5 (z 5 + 1)) = naF z + 1 := by
  have e := nI_self h.1
  have h2 := clamp_lt 6 h.1 h.2
  unfold naF
  show (z 5 + 1).toNatClampNeg = _
  rw [← e, nI_1, clN (by omega), clN (by omega)]
theorem w9_387 : (.code yX1_allEarlierThan cX1_allEarlierThan 3 (some .boolean) : Cond) ∈ lw_tbl := by decide +kernel
theorem w9_388 : (.methodLink RX10 111 yX1_allEarlierThan : Cond) ∈ lw_tbl := by decide +kernel
theorem w9_389 : (.instanceMethod yX1_allEarlierThan : Cond) ∈ lw_tbl := by decide +kernel
theorem w9_390 : (.selects RX1 yX1_allEarlierThan yX1_allEarlierThan : Cond) ∈ lw_tbl := by decide +kernel
theorem w9_391 : (.classLink RX10 114 RX0 : Cond) ∈ lw_tbl := by decide +kernel
theorem w9_392 : (.instantiable RX0 5 : Cond) ∈ lw_tbl := by decide +kernel
theorem w9_393 : (.code yX0_init cX0_init 6 none : Cond) ∈ lw_tbl := by decide +kernel
theorem w9_394 : (.methodLink RX10 116 yX0_init : Cond) ∈ lw_tbl := by decide +kernel
theorem w9_395 : (.instanceMethod yX0_init : Cond) ∈ lw_tbl := by decide +kernel
theorem w9_396 : (.code yX1_append cX1_append 2 (some .int) : Cond) ∈ lw_tbl := by decide +kernel
theorem w9_397 : (.methodLink RX10 119 yX1_append : Cond) ∈ lw_tbl := by decide +kernel
theorem w9_398 : (.instanceMethod yX1_append : Cond) ∈ lw_tbl := by decide +kernel
theorem w9_399 : (.selects RX1 yX1_append yX1_append : Cond) ∈ lw_tbl := by decide +kernel
def rm_X10_act : Room := { frames := 2, cells := 1, slots := 5, locals := 45 }
def k_X10_act_68 (post : Option Value → q_S → Prop) (K : Nat → q_K) : q_K := (c_push (-2) (c_iret post))
def k_X10_act_0 (post : Option Value → q_S → Prop) (K : Nat → q_K) : q_K := (c_iload 1 (c_aload 0 (c_get 10 0 (c_push 3000 (c_call3 none s_X10_isWithin 0 0 (c_ifeq (k_X10_act_68 post K) (c_aload 0 (c_get 10 3 (c_iload 1 (c_call2 (some 1) s_X1_allEarlierThan 0 0 (c_ifeq (k_X10_act_68 post K) (c_iload 2 (c_push 0 (c_push 2000 (c_call3 none s_X10_isWithin 0 0 (c_ifeq (k_X10_act_68 post K) (c_iload 3 (c_push (-1) (c_push 2000 (c_call3 none s_X10_isWithin 0 0 (c_ifeq (k_X10_act_68 post K) (c_iload 4 (c_push 0 (c_push 2 (c_call3 none s_X10_isWithin 0 0 (c_ifeq (k_X10_act_68 post K) (c_iload 5 (c_push 1 (c_push 16 (c_call3 none s_X10_isWithin 0 0 (c_ifne (c_aload 0 (c_get 10 3 (c_new 0 5 [.int 0, .int 0, .int 0, .int 0, .int 0] (c_dup (c_iload 1 (c_iload 2 (c_iload 3 (c_iload 4 (c_iload 5 (c_call6 (some 0) s_X0_init 0 0 (c_call2 (some 1) s_X1_append 0 0 (c_iret post)))))))))))) (k_X10_act_68 post K))))))))))))))))))))))))))))))))
set_option maxRecDepth 100000 in
theorem v_X10_act_68 {p : Program} {l : Launch} {e : Env} {s : State} {m : MethodId} {args : Array Value} {below : List Frame} {meth : Method} {c : Code} {D : va_G} {A : Nat → Prop} {post : Option Value → q_S → Prop} {K : Nat → q_K} (C : q_C p s m args meth c cX10_act 6 RX10 "act" (some .int) A) (hK : ∀ h ∈ ([] : List Nat), q_V p l e rm_X10_act s m args below meth c D A 6 (MQ below (q_Qc D A post) args s rm_X10_act.cells rm_X10_act.slots A) h (K h)) : q_V p l e rm_X10_act s m args below meth c D A 6 (MQ below (q_Qc D A post) args s rm_X10_act.cells rm_X10_act.slots A) 68 (k_X10_act_68 post K) := by
  unfold k_X10_act_68
  refine q_bipush C (by decide +kernel : decode cX10_act 68 = .ok (.bipush (-2), 2)) (by decide) ?_
  exact q_iret C rfl (by decide +kernel : decode cX10_act 70 = .ok (.ireturn, 1))
set_option maxRecDepth 100000 in
theorem v_X10_act_0 {p : Program} {l : Launch} {e : Env} {s : State} {m : MethodId} {args : Array Value} {below : List Frame} {meth : Method} {c : Code} {D : va_G} {A : Nat → Prop} {post : Option Value → q_S → Prop} {K : Nat → q_K} (C : q_C p s m args meth c cX10_act 6 RX10 "act" (some .int) A) (hK : ∀ h ∈ ([] : List Nat), q_V p l e rm_X10_act s m args below meth c D A 6 (MQ below (q_Qc D A post) args s rm_X10_act.cells rm_X10_act.slots A) h (K h)) : q_V p l e rm_X10_act s m args below meth c D A 6 (MQ below (q_Qc D A post) args s rm_X10_act.cells rm_X10_act.slots A) 0 (k_X10_act_0 post K) := by
  unfold k_X10_act_0
  refine q_iload_n C (by decide +kernel : decode cX10_act 0 = .ok (.iload_n 1, 1)) ?_
  refine q_aload_n C (by decide +kernel : decode cX10_act 1 = .ok (.aload_n 0, 1)) ?_
  refine q_get C (ci := 10) (j := 0) (C0 := RX10) (T := TX10) (N := 10) rfl iX10 giX10 (by decide) w9_320 (by decide +kernel : decode cX10_act 2 = .ok (.getfield 9, 3)) ?_
  refine q_sipush C (by decide +kernel : decode cX10_act 5 = .ok (.sipush 3000, 3)) (by decide) ?_
  refine q_call3 C (q_coS C (np := 3) (t_X10_isWithin l) w9_0 w9_3 w9_2 w9_1 (by decide +kernel) (by decide +kernel : decode cX10_act 8 = .ok (.invokestatic 63, 3)) (by decide)) ?_
  refine q_ifeq C (tgt := 68) (by decide +kernel : decode cX10_act 11 = .ok (.ifCond .eq 57, 3)) (by decide) ?_ ?_
  · exact v_X10_act_68 C hK
  · refine q_aload_n C (by decide +kernel : decode cX10_act 14 = .ok (.aload_n 0, 1)) ?_
    refine q_get C (ci := 10) (j := 3) (C0 := RX10) (T := TX10) (N := 10) rfl iX10 giX10 (by decide) w9_321 (by decide +kernel : decode cX10_act 15 = .ok (.getfield 27, 3)) ?_
    refine q_iload_n C (by decide +kernel : decode cX10_act 18 = .ok (.iload_n 1, 1)) ?_
    refine q_call2 C (q_coV C (np := 1) (ci := 1) (rc := (RX1, TX1, 2)) (t_X1_allEarlierThan l) w9_387 rfl rfl w9_388 w9_389 w9_390 w9_255 (by decide +kernel) (by decide +kernel : decode cX10_act 19 = .ok (.invokevirtual 111, 3)) (by decide)) ?_
    refine q_ifeq C (tgt := 68) (by decide +kernel : decode cX10_act 22 = .ok (.ifCond .eq 46, 3)) (by decide) ?_ ?_
    · exact v_X10_act_68 C hK
    · refine q_iload_n C (by decide +kernel : decode cX10_act 25 = .ok (.iload_n 2, 1)) ?_
      refine q_iconst C (by decide +kernel : decode cX10_act 26 = .ok (.iconst 0, 1)) (by decide) ?_
      refine q_sipush C (by decide +kernel : decode cX10_act 27 = .ok (.sipush 2000, 3)) (by decide) ?_
      refine q_call3 C (q_coS C (np := 3) (t_X10_isWithin l) w9_0 w9_3 w9_2 w9_1 (by decide +kernel) (by decide +kernel : decode cX10_act 30 = .ok (.invokestatic 63, 3)) (by decide)) ?_
      refine q_ifeq C (tgt := 68) (by decide +kernel : decode cX10_act 33 = .ok (.ifCond .eq 35, 3)) (by decide) ?_ ?_
      · exact v_X10_act_68 C hK
      · refine q_iload_n C (by decide +kernel : decode cX10_act 36 = .ok (.iload_n 3, 1)) ?_
        refine q_iconst C (by decide +kernel : decode cX10_act 37 = .ok (.iconst (-1), 1)) (by decide) ?_
        refine q_sipush C (by decide +kernel : decode cX10_act 38 = .ok (.sipush 2000, 3)) (by decide) ?_
        refine q_call3 C (q_coS C (np := 3) (t_X10_isWithin l) w9_0 w9_3 w9_2 w9_1 (by decide +kernel) (by decide +kernel : decode cX10_act 41 = .ok (.invokestatic 63, 3)) (by decide)) ?_
        refine q_ifeq C (tgt := 68) (by decide +kernel : decode cX10_act 44 = .ok (.ifCond .eq 24, 3)) (by decide) ?_ ?_
        · exact v_X10_act_68 C hK
        · refine q_iload C (by decide +kernel : decode cX10_act 47 = .ok (.iload 4, 2)) ?_
          refine q_iconst C (by decide +kernel : decode cX10_act 49 = .ok (.iconst 0, 1)) (by decide) ?_
          refine q_iconst C (by decide +kernel : decode cX10_act 50 = .ok (.iconst 2, 1)) (by decide) ?_
          refine q_call3 C (q_coS C (np := 3) (t_X10_isWithin l) w9_0 w9_3 w9_2 w9_1 (by decide +kernel) (by decide +kernel : decode cX10_act 51 = .ok (.invokestatic 63, 3)) (by decide)) ?_
          refine q_ifeq C (tgt := 68) (by decide +kernel : decode cX10_act 54 = .ok (.ifCond .eq 14, 3)) (by decide) ?_ ?_
          · exact v_X10_act_68 C hK
          · refine q_iload C (by decide +kernel : decode cX10_act 57 = .ok (.iload 5, 2)) ?_
            refine q_iconst C (by decide +kernel : decode cX10_act 59 = .ok (.iconst 1, 1)) (by decide) ?_
            refine q_bipush C (by decide +kernel : decode cX10_act 60 = .ok (.bipush 16, 2)) (by decide) ?_
            refine q_call3 C (q_coS C (np := 3) (t_X10_isWithin l) w9_0 w9_3 w9_2 w9_1 (by decide +kernel) (by decide +kernel : decode cX10_act 62 = .ok (.invokestatic 63, 3)) (by decide)) ?_
            refine q_ifne C (tgt := 71) (by decide +kernel : decode cX10_act 65 = .ok (.ifCond .ne 6, 3)) (by decide) ?_ ?_
            · refine q_aload_n C (by decide +kernel : decode cX10_act 71 = .ok (.aload_n 0, 1)) ?_
              refine q_get C (ci := 10) (j := 3) (C0 := RX10) (T := TX10) (N := 10) rfl iX10 giX10 (by decide) w9_321 (by decide +kernel : decode cX10_act 72 = .ok (.getfield 27, 3)) ?_
              refine q_new C (ci := 0) (C0 := RX0) (T := TX0) (N := 5) (fs := [.int 0, .int 0, .int 0, .int 0, .int 0]) rfl iX0 giX0 tyX0 tyX0_ok w9_391 w9_392 w9_264 dvX0 (by decide +kernel : decode cX10_act 75 = .ok (.new 114, 3)) ?_
              refine q_dup C (by decide +kernel : decode cX10_act 78 = .ok (.dup, 1)) ?_
              refine q_iload_n C (by decide +kernel : decode cX10_act 79 = .ok (.iload_n 1, 1)) ?_
              refine q_iload_n C (by decide +kernel : decode cX10_act 80 = .ok (.iload_n 2, 1)) ?_
              refine q_iload_n C (by decide +kernel : decode cX10_act 81 = .ok (.iload_n 3, 1)) ?_
              refine q_iload C (by decide +kernel : decode cX10_act 82 = .ok (.iload 4, 2)) ?_
              refine q_iload C (by decide +kernel : decode cX10_act 84 = .ok (.iload 5, 2)) ?_
              refine q_call6 C (q_coI C (np := 5) (ci := 0) (t_X0_init l) w9_393 rfl w9_394 w9_395 w9_264 (by decide +kernel) (by decide +kernel : decode cX10_act 86 = .ok (.invokespecial 116, 3)) (by decide)) ?_
              refine q_call2 C (q_coV C (np := 1) (ci := 1) (rc := (RX1, TX1, 2)) (t_X1_append l) w9_396 rfl rfl w9_397 w9_398 w9_399 w9_255 (by decide +kernel) (by decide +kernel : decode cX10_act 89 = .ok (.invokevirtual 119, 3)) (by decide)) ?_
              exact q_iret C rfl (by decide +kernel : decode cX10_act 92 = .ok (.ireturn, 1))
            · exact v_X10_act_68 C hK
theorem u_X10_act (l : Launch) {sp : q_Sp} (H : ∀ (av : List Value) (σ : q_S) (post : Option Value → q_S → Prop), sp av σ post → k_X10_act_0 post (fun _ _ _ _ _ _ => False) (q_L0 av 6) [] σ 1 5 ∧ av.length ≤ 6 ∧ ∀ v ∈ av, v.category = 1) : q_Ct l yX10_act cX10_act 6 (some .int) rm_X10_act sp := by
  refine q_met (by decide) ?_
  intro D A p e s m args below meth c σ av post C hsp
  obtain ⟨h1, h2, h3⟩ := H av σ post hsp
  exact ⟨_, v_X10_act_0 (K := fun _ _ _ _ _ _ => False) C (fun h hh => by cases hh), h1, h2, h3⟩
theorem t_X10_act (l : Launch) : q_Ct l yX10_act cX10_act 6 (some .int) rm_X10_act s_X10_act := u_X10_act l (by
  intro av σ post h
  unfold s_X10_act at h
  split at h
  · next r d f li v c =>
    refine ⟨?_, by simp, by simp [Value.category]⟩
    obtain ⟨z, g, hR, hI, h1⟩ := h
    have hR0 := hR
    obtain ⟨Rg, P, AC, AR, WK, LC, CL, CM, CP, pa, aa, wa, sa, ga, la, lra, lc, lrn, hD⟩ := hR
    have e1 := hD.p1.2
    have hA := hD.p3
    obtain ⟨a1, a2, a3, a4⟩ := hD.p3
    have f0 : q_fld σ r 10 0 = some (.int (z 0)) := by simp only [q_fld, e1, if_true]; rfl
    have f3 : q_fld σ r 10 3 = some (.ref AC) := by simp only [q_fld, e1, if_true]; rfl
    have o1 : q_oc σ AC = some 1 := by simp only [q_oc, a1.2]
    have h20 := hI.n20
    have hI5 := hI.2.2.1
    unfold F_act at h1
    by_cases c0 : z 0 ≤ d ∧ d ≤ 3000
    · simp only [c_push, c_null, c_iload, c_aload, c_istore, c_astore, c_iinc, c_iadd, c_isub, c_imul, c_iand, c_ineg, c_dup, c_dup2, c_pop, c_ifnull, c_ifnonnull, c_get, c_put, c_iald, c_zald, c_iast, c_zast, c_aald, c_aast, c_alen, c_new, c_newa, c_newq, c_mna, c_oinit, c_max, c_copy, c_iret, c_zret, c_aret, c_vret, q_do, q_rc, c_ifeq, c_ifne, c_iflt, c_ifge, c_ifgt, c_ifle, c_iceq, c_icne, c_iclt, c_icge, c_icgt, c_icle, c_call0, c_call1, c_call2, c_call3, c_call4, c_call5, c_call6, c_call7, q_L0, List.map_cons, List.map_nil, List.replicate, List.cons_append, List.nil_append, List.append_nil, List.length_cons, List.length_nil, List.length_set, Nat.reduceSub, Nat.reduceAdd, Nat.reduceLT, Nat.reduceLeDiff, Nat.zero_add, Nat.add_zero, Nat.sub_zero, Nat.sub_self, List.getElem?_cons_zero, List.getElem?_cons_succ, List.set_cons_zero, List.set_cons_succ, Option.toList_some, Option.toList_none, List.sum_cons, List.sum_nil, true_and, and_true, true_or, or_true, Nat.le_refl, Nat.zero_le, Value.category, Fin.isValue, Fin.val_zero, Fin.val_one, Fin.val_two, Fin.reduceFinMk, q_10, q_01, not_false_eq_true, not_true_eq_false, forall_const, true_implies, false_implies, implies_true, q_ni, q_fi, q_nb0, q_nb1, q_fb0, q_fb1, q_nor, q_nar, q_for, q_far, q_non, q_nan, q_fon, q_fan, imp_false, false_and, and_false, and_self, false_or, or_false, va_rf, refKind, k_X10_act_0, k_X10_act_68, f0, f3, o1, s_X10_isWithin, c0]
      refine ⟨_, _, _, _, _, hA, fun c1 => ?_, fun c1 => ?_⟩ <;> simp only [c_push, c_null, c_iload, c_aload, c_istore, c_astore, c_iinc, c_iadd, c_isub, c_imul, c_iand, c_ineg, c_dup, c_dup2, c_pop, c_ifnull, c_ifnonnull, c_get, c_put, c_iald, c_zald, c_iast, c_zast, c_aald, c_aast, c_alen, c_new, c_newa, c_newq, c_mna, c_oinit, c_max, c_copy, c_iret, c_zret, c_aret, c_vret, q_do, q_rc, c_ifeq, c_ifne, c_iflt, c_ifge, c_ifgt, c_ifle, c_iceq, c_icne, c_iclt, c_icge, c_icgt, c_icle, c_call0, c_call1, c_call2, c_call3, c_call4, c_call5, c_call6, c_call7, q_L0, List.map_cons, List.map_nil, List.replicate, List.cons_append, List.nil_append, List.append_nil, List.length_cons, List.length_nil, List.length_set, Nat.reduceSub, Nat.reduceAdd, Nat.reduceLT, Nat.reduceLeDiff, Nat.zero_add, Nat.add_zero, Nat.sub_zero, Nat.sub_self, List.getElem?_cons_zero, List.getElem?_cons_succ, List.set_cons_zero, List.set_cons_succ, Option.toList_some, Option.toList_none, List.sum_cons, List.sum_nil, true_and, and_true, true_or, or_true, Nat.le_refl, Nat.zero_le, Value.category, Fin.isValue, Fin.val_zero, Fin.val_one, Fin.val_two, Fin.reduceFinMk, q_10, q_01, not_false_eq_true, not_true_eq_false, forall_const, true_implies, false_implies, implies_true, q_ni, q_fi, q_nb0, q_nb1, q_fb0, q_fb1, q_nor, q_nar, q_for, q_far, q_non, q_nan, q_fon, q_fan, imp_false, false_and, and_false, and_self, false_or, or_false, va_rf, refKind, f0, f3, o1, s_X10_isWithin]
      · by_cases c2 : (0 ≤ f ∧ f ≤ 2000) ∧ (-1 ≤ li ∧ li ≤ 2000) ∧ (0 ≤ v ∧ v ≤ 2) ∧ (1 ≤ c ∧ c ≤ 16)
        · rw [if_pos ⟨c0, (act_last hI5).mpr c1, c2⟩] at h1
          refine ⟨fun _ => ⟨fun _ => ⟨fun _ => ⟨fun _ => ?_, fun h => absurd c2.2.2.2 h⟩, fun h => absurd c2.2.2.1 h⟩, fun h => absurd c2.2.1 h⟩, fun h => absurd c2.1 h⟩
          intro q hq
          have hq2 : ∀ a e, σ a = some e → a ≠ q := fun a e he e9 => by rw [e9, hq] at he; cases he
          have hrq := hq2 _ _ e1
          have hAq := hq2 _ _ a1.2
          have hBq := hq2 _ _ a2.2
          simp only [c_push, c_null, c_iload, c_aload, c_istore, c_astore, c_iinc, c_iadd, c_isub, c_imul, c_iand, c_ineg, c_dup, c_dup2, c_pop, c_ifnull, c_ifnonnull, c_get, c_put, c_iald, c_zald, c_iast, c_zast, c_aald, c_aast, c_alen, c_new, c_newa, c_newq, c_mna, c_oinit, c_max, c_copy, c_iret, c_zret, c_aret, c_vret, q_do, q_rc, c_ifeq, c_ifne, c_iflt, c_ifge, c_ifgt, c_ifle, c_iceq, c_icne, c_iclt, c_icge, c_icgt, c_icle, c_call0, c_call1, c_call2, c_call3, c_call4, c_call5, c_call6, c_call7, q_L0, List.map_cons, List.map_nil, List.replicate, List.cons_append, List.nil_append, List.append_nil, List.length_cons, List.length_nil, List.length_set, Nat.reduceSub, Nat.reduceAdd, Nat.reduceLT, Nat.reduceLeDiff, Nat.zero_add, Nat.add_zero, Nat.sub_zero, Nat.sub_self, List.getElem?_cons_zero, List.getElem?_cons_succ, List.set_cons_zero, List.set_cons_succ, Option.toList_some, Option.toList_none, List.sum_cons, List.sum_nil, true_and, and_true, true_or, or_true, Nat.le_refl, Nat.zero_le, Value.category, Fin.isValue, Fin.val_zero, Fin.val_one, Fin.val_two, Fin.reduceFinMk, q_10, q_01, not_false_eq_true, not_true_eq_false, forall_const, true_implies, false_implies, implies_true, q_ni, q_fi, q_nb0, q_nb1, q_fb0, q_fb1, q_nor, q_nar, q_for, q_far, q_non, q_nan, q_fon, q_fan, imp_false, false_and, and_false, and_self, false_or, or_false, va_rf, refKind, q_fld, q_fset, q_oc, q_ai, q_aq, q_len, q_up_s, q_up_up, if_true, s_X0_init, q_up_n hrq, q_up_n hAq, e1, a1.2]
          refine ⟨AR, aa, naF z, _, by rw [q_up_n hAq]; exact a1.2, by rw [q_up_n hBq]; exact a2.2, a4, q_up_s, fun c6 => ?_, fun c6 => ?_⟩
          · have e5 : z 5 = 6 := by rw [← nI_self hI5.1]; show nI (naF z) = _; rw [c6]; rfl
            rw [if_pos e5] at h1
            refine h1 _ (hD.put (pa' := pa) (aa' := aa) (wa' := wa) (sa' := sa) (ga' := ga) (la' := la) (lra' := lra) (lc' := lc) (lrn' := lrn) (z' := z) (g' := g) (fun t => False) (fun t a => False) (fun t t' a h => h.elim) (fun a e ha he => ⟨fun t ht => ht.elim, by rw [q_up_n (hq2 a e he)]; exact he⟩) (fun k hk => hk.elim) (fun k hk h => h))
          · have e5 : ¬ z 5 = 6 := fun e => by
              have : naF z = 6 := by unfold naF; rw [e]; rfl
              omega
            rw [if_neg e5] at h1
            dsimp only at h1
            have en : nI (naF z) = z 5 := nI_self hI5.1
            rw [en]
            have e6 : (z 5).toNatClampNeg = naF z := rfl
            rw [e6] at h1
            have hna := naF_s (z := z) ⟨hI5.1, by grind⟩
            refine h1 _ (hD.put (pa' := pa) (aa' := va_up aa (naF z) q) (wa' := wa) (sa' := sa) (ga' := ga) (la' := la) (lra' := lra) (lc' := lc) (lrn' := lrn) (z' := upd z 5 (z 5 + 1)) (g' := gup (gup (gup (gup (gup g 6 (naF z) d) 7 (naF z) f) 8 (naF z) li) 9 (naF z) v) 10 (naF z) c) (fun t => t = 3) (fun t a => (Rg 3 a ∧ σ a ≠ none) ∨ a = q) ?_ ?_ ?_ ?_)
            · rintro t t' a h2 h3 - -
              rw [h2, h3]
            · intro a e ha he
              refine ⟨?_, ?_⟩
              · rintro t ht (h3 | h3)
                · exact ha 3 rfl h3.1
                · exact hq2 a e he h3
              · rw [q_up_n (fun e9 => ha 3 rfl (by rw [e9]; exact a1.1)), q_up_n (fun e9 => ha 3 rfl (by rw [e9]; exact a2.1)), q_up_n (hq2 a e he)]; exact he
            · intro k hk
              subst hk
              show AcD _ _ AC AR _ _ (naF (upd z 5 (z 5 + 1)))
              rw [hna]
              refine ⟨⟨Or.inl ⟨a1.1, by rw [a1.2]; exact fun h => by cases h⟩, q_up_s⟩, ⟨Or.inl ⟨a2.1, by rw [a2.2]; exact fun h => by cases h⟩, by rw [q_up_n (ne_ao a2.2 a1.2), q_up_s]⟩, fun i hi => ?_, by omega⟩
              by_cases e : i = naF z
              · subst e
                rw [va_up_s]
                refine ⟨Or.inr rfl, ?_⟩
                rw [q_up_n hAq.symm, q_up_n hBq.symm, q_up_s]
                simp only [gup, upd, if_true, Nat.reduceEqDiff, if_false]
              · have k1 := a3 i (by omega)
                rw [va_up_n e]
                refine ⟨Or.inl ⟨k1.1, by rw [k1.2]; exact fun h => by cases h⟩, ?_⟩
                rw [q_up_n (fun e9 => by have k2 := k1.2; rw [e9, a1.2] at k2; cases k2), q_up_n (ne_ao a2.2 k1.2).symm, q_up_n (hq2 _ _ k1.2)]
                simp only [gup, upd, e, if_true, Nat.reduceEqDiff, if_false]
                exact k1.2
            · intro k hk h
              exact h.cong (fun _ h => h) (fun _ h => h) (fun e => absurd e hk) (fun _ h => h) (fun _ h => h) (fun _ h => h) (fun i _ hi => ⟨hi, fun h => h.cong (Int32.le_refl _) rfl rfl rfl rfl rfl rfl rfl rfl rfl⟩) (fun i _ hi => ⟨hi, fun h => h⟩) (fun i _ hi => ⟨hi, fun h => h⟩) h20 h20
        · rw [if_neg (fun h => c2 h.2.2)] at h1
          have h2 := h1 _ hR0
          exact ⟨fun d1 => ⟨fun d2 => ⟨fun d3 => ⟨fun d4 => absurd ⟨d1, d2, d3, d4⟩ c2, fun _ => h2⟩, fun _ => h2⟩, fun _ => h2⟩, fun _ => h2⟩
      · rw [if_neg (fun h => c1 ((act_last hI5).mp h.2.1))] at h1
        exact h1 _ hR0
    · rw [if_neg (fun h => c0 h.1)] at h1
      have h2 := h1 _ hR0
      simp only [c_push, c_null, c_iload, c_aload, c_istore, c_astore, c_iinc, c_iadd, c_isub, c_imul, c_iand, c_ineg, c_dup, c_dup2, c_pop, c_ifnull, c_ifnonnull, c_get, c_put, c_iald, c_zald, c_iast, c_zast, c_aald, c_aast, c_alen, c_new, c_newa, c_newq, c_mna, c_oinit, c_max, c_copy, c_iret, c_zret, c_aret, c_vret, q_do, q_rc, c_ifeq, c_ifne, c_iflt, c_ifge, c_ifgt, c_ifle, c_iceq, c_icne, c_iclt, c_icge, c_icgt, c_icle, c_call0, c_call1, c_call2, c_call3, c_call4, c_call5, c_call6, c_call7, q_L0, List.map_cons, List.map_nil, List.replicate, List.cons_append, List.nil_append, List.append_nil, List.length_cons, List.length_nil, List.length_set, Nat.reduceSub, Nat.reduceAdd, Nat.reduceLT, Nat.reduceLeDiff, Nat.zero_add, Nat.add_zero, Nat.sub_zero, Nat.sub_self, List.getElem?_cons_zero, List.getElem?_cons_succ, List.set_cons_zero, List.set_cons_succ, Option.toList_some, Option.toList_none, List.sum_cons, List.sum_nil, true_and, and_true, true_or, or_true, Nat.le_refl, Nat.zero_le, Value.category, Fin.isValue, Fin.val_zero, Fin.val_one, Fin.val_two, Fin.reduceFinMk, q_10, q_01, not_false_eq_true, not_true_eq_false, forall_const, true_implies, false_implies, implies_true, q_ni, q_fi, q_nb0, q_nb1, q_fb0, q_fb1, q_nor, q_nar, q_for, q_far, q_non, q_nan, q_fon, q_fan, imp_false, false_and, and_false, and_self, false_or, or_false, va_rf, refKind, k_X10_act_0, k_X10_act_68, f0, f3, o1, s_X10_isWithin, c0, h2]
  · exact h.elim)
