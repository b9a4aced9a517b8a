-- isAgreed, license, may
def agF (z : Nat → Int32) (g : Nat → Nat → Int32) (w : Int32) : Nat → Int32
  | 0 => 0
  | p + 1 => agF z g w p + (if g 21 (12 * w.toNatClampNeg + p) = 0 then 0 else holdsF g w (nI p) (z 0) (mvF z))
def consF (z : Nat → Int32) (g : Nat → Nat → Int32) (on : Int32) : Int32 := if actF g on (naF z) = -1 then 16 else g 10 (actF g on (naF z)).toNatClampNeg
abbrev agreedF (z : Nat → Int32) (g : Nat → Nat → Int32) (w : Int32) : Prop := consF z g (z 0) ≤ agF z g w (z 1).toNatClampNeg
def s_X11_isAgreed : q_Sp := fun av σ post => match av with
  | [.ref mr, .int w] => ∃ ad z g gp r, mOKx σ mr ad z g gp r ∧ (0 ≤ w ∧ w < 20) ∧ I1 z ∧ (agreedF z g w → post (some (.int 1)) σ) ∧ (¬ agreedF z g w → post (some (.int 0)) σ)
  | _ => False
def rm_X11_isAgreed : Room := { frames := 1, cells := 0, slots := 0, locals := 25 }
def k_X11_isAgreed_0 (post : Option Value → q_S → Prop) (K : Nat → q_K) : q_K := (c_push 0 (c_istore 2 (c_push 0 (c_istore 3 (K 4)))))
def k_X11_isAgreed_41 (post : Option Value → q_S → Prop) (K : Nat → q_K) : q_K := (c_iadd (c_istore 2 (c_iinc 3 1 (K 4))))
def k_X11_isAgreed_83 (post : Option Value → q_S → Prop) (K : Nat → q_K) : q_K := (c_zret post)
def k_X11_isAgreed_75 (post : Option Value → q_S → Prop) (K : Nat → q_K) : q_K := (c_iclt (c_push 0 (k_X11_isAgreed_83 post K)) (c_push 1 (k_X11_isAgreed_83 post K)))
def k_X11_isAgreed_4 (post : Option Value → q_S → Prop) (K : Nat → q_K) : q_K := (c_iload 3 (c_aload 0 (c_get 11 1 (c_icge (c_aload 0 (c_aload 0 (c_get 11 0 (c_call2 (some 11) s_X11_actAt 0 0 (c_istore 3 (c_iload 2 (c_iload 3 (c_push (-1) (c_icne (c_aload 0 (c_get 11 10 (c_iload 3 (c_iald (k_X11_isAgreed_75 post K))))) (c_push 16 (k_X11_isAgreed_75 post K))))))))))) (c_iload 2 (c_aload 0 (c_get 11 21 (c_push 12 (c_iload 1 (c_imul (c_iload 3 (c_iadd (c_zald (c_ifeq (c_push 0 (k_X11_isAgreed_41 post K)) (c_aload 0 (c_iload 1 (c_iload 3 (c_aload 0 (c_get 11 0 (c_call4 (some 11) s_X11_holds 0 0 (k_X11_isAgreed_41 post K)))))))))))))))))))))
set_option maxRecDepth 100000 in
theorem v_X11_isAgreed_0 {p : Program} {l : Launch} {e : Env} {s : State} {m : MethodId} {args : Array Value} {below : List Frame} {meth : Method} {c : Code} {D : va_G} {A : Nat → Prop} {post : Option Value → q_S → Prop} {K : Nat → q_K} (C : q_C p s m args meth c cX11_isAgreed 4 RX11 "isAgreed" (some .boolean) A) (hK : ∀ h ∈ ([4] : List Nat), q_V p l e rm_X11_isAgreed s m args below meth c D A 4 (MQ below (q_Qc D A post) args s rm_X11_isAgreed.cells rm_X11_isAgreed.slots A) h (K h)) : q_V p l e rm_X11_isAgreed s m args below meth c D A 4 (MQ below (q_Qc D A post) args s rm_X11_isAgreed.cells rm_X11_isAgreed.slots A) 0 (k_X11_isAgreed_0 post K) := by
  unfold k_X11_isAgreed_0
  refine q_iconst C (by decide +kernel : decode cX11_isAgreed 0 = .ok (.iconst 0, 1)) (by decide) ?_
  refine q_istore_n C (by decide +kernel : decode cX11_isAgreed 1 = .ok (.istore_n 2, 1)) ?_
  refine q_iconst C (by decide +kernel : decode cX11_isAgreed 2 = .ok (.iconst 0, 1)) (by decide) ?_
  refine q_istore_n C (by decide +kernel : decode cX11_isAgreed 3 = .ok (.istore_n 3, 1)) ?_
  exact hK 4 (by decide)
set_option maxRecDepth 100000 in
theorem v_X11_isAgreed_41 {p : Program} {l : Launch} {e : Env} {s : State} {m : MethodId} {args : Array Value} {below : List Frame} {meth : Method} {c : Code} {D : va_G} {A : Nat → Prop} {post : Option Value → q_S → Prop} {K : Nat → q_K} (C : q_C p s m args meth c cX11_isAgreed 4 RX11 "isAgreed" (some .boolean) A) (hK : ∀ h ∈ ([4] : List Nat), q_V p l e rm_X11_isAgreed s m args below meth c D A 4 (MQ below (q_Qc D A post) args s rm_X11_isAgreed.cells rm_X11_isAgreed.slots A) h (K h)) : q_V p l e rm_X11_isAgreed s m args below meth c D A 4 (MQ below (q_Qc D A post) args s rm_X11_isAgreed.cells rm_X11_isAgreed.slots A) 41 (k_X11_isAgreed_41 post K) := by
  unfold k_X11_isAgreed_41
  refine q_iadd C (by decide +kernel : decode cX11_isAgreed 41 = .ok (.iadd, 1)) ?_
  refine q_istore_n C (by decide +kernel : decode cX11_isAgreed 42 = .ok (.istore_n 2, 1)) ?_
  refine q_iinc C (by decide +kernel : decode cX11_isAgreed 43 = .ok (.iinc 3 1, 3)) (by decide) ?_
  refine q_goto C (tgt := 4) (by decide +kernel : decode cX11_isAgreed 46 = .ok (.goto (-42), 3)) (by decide) ?_
  exact hK 4 (by decide)
set_option maxRecDepth 100000 in
theorem v_X11_isAgreed_83 {p : Program} {l : Launch} {e : Env} {s : State} {m : MethodId} {args : Array Value} {below : List Frame} {meth : Method} {c : Code} {D : va_G} {A : Nat → Prop} {post : Option Value → q_S → Prop} {K : Nat → q_K} (C : q_C p s m args meth c cX11_isAgreed 4 RX11 "isAgreed" (some .boolean) A) (hK : ∀ h ∈ ([4] : List Nat), q_V p l e rm_X11_isAgreed s m args below meth c D A 4 (MQ below (q_Qc D A post) args s rm_X11_isAgreed.cells rm_X11_isAgreed.slots A) h (K h)) : q_V p l e rm_X11_isAgreed s m args below meth c D A 4 (MQ below (q_Qc D A post) args s rm_X11_isAgreed.cells rm_X11_isAgreed.slots A) 83 (k_X11_isAgreed_83 post K) := by
  unfold k_X11_isAgreed_83
  exact q_zret C rfl (by decide +kernel : decode cX11_isAgreed 83 = .ok (.ireturn, 1))
set_option maxRecDepth 100000 in
theorem v_X11_isAgreed_75 {p : Program} {l : Launch} {e : Env} {s : State} {m : MethodId} {args : Array Value} {below : List Frame} {meth : Method} {c : Code} {D : va_G} {A : Nat → Prop} {post : Option Value → q_S → Prop} {K : Nat → q_K} (C : q_C p s m args meth c cX11_isAgreed 4 RX11 "isAgreed" (some .boolean) A) (hK : ∀ h ∈ ([4] : List Nat), q_V p l e rm_X11_isAgreed s m args below meth c D A 4 (MQ below (q_Qc D A post) args s rm_X11_isAgreed.cells rm_X11_isAgreed.slots A) h (K h)) : q_V p l e rm_X11_isAgreed s m args below meth c D A 4 (MQ below (q_Qc D A post) args s rm_X11_isAgreed.cells rm_X11_isAgreed.slots A) 75 (k_X11_isAgreed_75 post K) := by
  unfold k_X11_isAgreed_75
  refine q_iclt C (tgt := 82) (by decide +kernel : decode cX11_isAgreed 75 = .ok (.if_icmp .lt 7, 3)) (by decide) ?_ ?_
  · refine q_iconst C (by decide +kernel : decode cX11_isAgreed 82 = .ok (.iconst 0, 1)) (by decide) ?_
    exact v_X11_isAgreed_83 C hK
  · refine q_iconst C (by decide +kernel : decode cX11_isAgreed 78 = .ok (.iconst 1, 1)) (by decide) ?_
    refine q_goto C (tgt := 83) (by decide +kernel : decode cX11_isAgreed 79 = .ok (.goto 4, 3)) (by decide) ?_
    exact v_X11_isAgreed_83 C hK
set_option maxRecDepth 100000 in
theorem v_X11_isAgreed_4 {p : Program} {l : Launch} {e : Env} {s : State} {m : MethodId} {args : Array Value} {below : List Frame} {meth : Method} {c : Code} {D : va_G} {A : Nat → Prop} {post : Option Value → q_S → Prop} {K : Nat → q_K} (C : q_C p s m args meth c cX11_isAgreed 4 RX11 "isAgreed" (some .boolean) A) (hK : ∀ h ∈ ([4] : List Nat), q_V p l e rm_X11_isAgreed s m args below meth c D A 4 (MQ below (q_Qc D A post) args s rm_X11_isAgreed.cells rm_X11_isAgreed.slots A) h (K h)) : q_V p l e rm_X11_isAgreed s m args below meth c D A 4 (MQ below (q_Qc D A post) args s rm_X11_isAgreed.cells rm_X11_isAgreed.slots A) 4 (k_X11_isAgreed_4 post K) := by
  unfold k_X11_isAgreed_4
  refine q_iload_n C (by decide +kernel : decode cX11_isAgreed 4 = .ok (.iload_n 3, 1)) ?_
  refine q_aload_n C (by decide +kernel : decode cX11_isAgreed 5 = .ok (.aload_n 0, 1)) ?_
  refine q_get C (ci := 11) (j := 1) (C0 := RX11) (T := TX11) (N := 35) rfl iX11 giX11 (by decide) w9_4 (by decide +kernel : decode cX11_isAgreed 6 = .ok (.getfield 100, 3)) ?_
  refine q_icge C (tgt := 49) (by decide +kernel : decode cX11_isAgreed 9 = .ok (.if_icmp .ge 40, 3)) (by decide) ?_ ?_
  · refine q_aload_n C (by decide +kernel : decode cX11_isAgreed 49 = .ok (.aload_n 0, 1)) ?_
    refine q_aload_n C (by decide +kernel : decode cX11_isAgreed 50 = .ok (.aload_n 0, 1)) ?_
    refine q_get C (ci := 11) (j := 0) (C0 := RX11) (T := TX11) (N := 35) rfl iX11 giX11 (by decide) w9_10 (by decide +kernel : decode cX11_isAgreed 51 = .ok (.getfield 96, 3)) ?_
    refine q_call2 C (q_coV C (np := 1) (ci := 11) (rc := (RX11, TX11, 35)) (t_X11_actAt l) w9_35 rfl rfl w9_36 w9_37 w9_38 w9_6 (by decide +kernel) (by decide +kernel : decode cX11_isAgreed 54 = .ok (.invokevirtual 129, 3)) (by decide)) ?_
    refine q_istore_n C (by decide +kernel : decode cX11_isAgreed 57 = .ok (.istore_n 3, 1)) ?_
    refine q_iload_n C (by decide +kernel : decode cX11_isAgreed 58 = .ok (.iload_n 2, 1)) ?_
    refine q_iload_n C (by decide +kernel : decode cX11_isAgreed 59 = .ok (.iload_n 3, 1)) ?_
    refine q_iconst C (by decide +kernel : decode cX11_isAgreed 60 = .ok (.iconst (-1), 1)) (by decide) ?_
    refine q_icne C (tgt := 69) (by decide +kernel : decode cX11_isAgreed 61 = .ok (.if_icmp .ne 8, 3)) (by decide) ?_ ?_
    · refine q_aload_n C (by decide +kernel : decode cX11_isAgreed 69 = .ok (.aload_n 0, 1)) ?_
      refine q_get C (ci := 11) (j := 10) (C0 := RX11) (T := TX11) (N := 35) rfl iX11 giX11 (by decide) w9_27 (by decide +kernel : decode cX11_isAgreed 70 = .ok (.getfield 31, 3)) ?_
      refine q_iload_n C (by decide +kernel : decode cX11_isAgreed 73 = .ok (.iload_n 3, 1)) ?_
      refine q_iald C (by decide +kernel : decode cX11_isAgreed 74 = .ok (.iaload, 1)) ?_
      exact v_X11_isAgreed_75 C hK
    · refine q_bipush C (by decide +kernel : decode cX11_isAgreed 64 = .ok (.bipush 16, 2)) (by decide) ?_
      refine q_goto C (tgt := 75) (by decide +kernel : decode cX11_isAgreed 66 = .ok (.goto 9, 3)) (by decide) ?_
      exact v_X11_isAgreed_75 C hK
  · refine q_iload_n C (by decide +kernel : decode cX11_isAgreed 12 = .ok (.iload_n 2, 1)) ?_
    refine q_aload_n C (by decide +kernel : decode cX11_isAgreed 13 = .ok (.aload_n 0, 1)) ?_
    refine q_get C (ci := 11) (j := 21) (C0 := RX11) (T := TX11) (N := 35) rfl iX11 giX11 (by decide) w9_83 (by decide +kernel : decode cX11_isAgreed 14 = .ok (.getfield 58, 3)) ?_
    refine q_bipush C (by decide +kernel : decode cX11_isAgreed 17 = .ok (.bipush 12, 2)) (by decide) ?_
    refine q_iload_n C (by decide +kernel : decode cX11_isAgreed 19 = .ok (.iload_n 1, 1)) ?_
    refine q_imul C (by decide +kernel : decode cX11_isAgreed 20 = .ok (.imul, 1)) ?_
    refine q_iload_n C (by decide +kernel : decode cX11_isAgreed 21 = .ok (.iload_n 3, 1)) ?_
    refine q_iadd C (by decide +kernel : decode cX11_isAgreed 22 = .ok (.iadd, 1)) ?_
    refine q_zald C (by decide +kernel : decode cX11_isAgreed 23 = .ok (.baload, 1)) ?_
    refine q_ifeq C (tgt := 40) (by decide +kernel : decode cX11_isAgreed 24 = .ok (.ifCond .eq 16, 3)) (by decide) ?_ ?_
    · refine q_iconst C (by decide +kernel : decode cX11_isAgreed 40 = .ok (.iconst 0, 1)) (by decide) ?_
      exact v_X11_isAgreed_41 C hK
    · refine q_aload_n C (by decide +kernel : decode cX11_isAgreed 27 = .ok (.aload_n 0, 1)) ?_
      refine q_iload_n C (by decide +kernel : decode cX11_isAgreed 28 = .ok (.iload_n 1, 1)) ?_
      refine q_iload_n C (by decide +kernel : decode cX11_isAgreed 29 = .ok (.iload_n 3, 1)) ?_
      refine q_aload_n C (by decide +kernel : decode cX11_isAgreed 30 = .ok (.aload_n 0, 1)) ?_
      refine q_get C (ci := 11) (j := 0) (C0 := RX11) (T := TX11) (N := 35) rfl iX11 giX11 (by decide) w9_10 (by decide +kernel : decode cX11_isAgreed 31 = .ok (.getfield 96, 3)) ?_
      refine q_call4 C (q_coV C (np := 3) (ci := 11) (rc := (RX11, TX11, 35)) (t_X11_holds l) w9_63 rfl rfl w9_64 w9_65 w9_66 w9_6 (by decide +kernel) (by decide +kernel : decode cX11_isAgreed 34 = .ok (.invokevirtual 110, 3)) (by decide)) ?_
      refine q_goto C (tgt := 41) (by decide +kernel : decode cX11_isAgreed 37 = .ok (.goto 4, 3)) (by decide) ?_
      exact v_X11_isAgreed_41 C hK
theorem u_X11_isAgreed (l : Launch) {sp : q_Sp} (H : ∀ (av : List Value) (σ : q_S) (post : Option Value → q_S → Prop), sp av σ post → ∃ Inv : Nat → Nat → q_K, (∀ K : Nat → q_K, (∀ (h n : Nat) (L : List (Option Value)) (st : List Value) (σ : q_S) (cr sr : Nat), Inv h n L st σ cr sr → K h L st σ cr sr) → k_X11_isAgreed_0 post K (q_L0 av 4) [] σ 0 0) ∧ (∀ (K : Nat → q_K) (n : Nat), (∀ (h m : Nat) (L : List (Option Value)) (st : List Value) (σ : q_S) (cr sr : Nat), m < n → Inv h m L st σ cr sr → K h L st σ cr sr) → ∀ (L : List (Option Value)) (st : List Value) (σ : q_S) (cr sr : Nat), Inv 4 n L st σ cr sr → k_X11_isAgreed_4 post K L st σ cr sr) ∧ av.length ≤ 4 ∧ ∀ v ∈ av, v.category = 1) : q_Ct l yX11_isAgreed cX11_isAgreed 4 (some .boolean) rm_X11_isAgreed sp := by
  refine q_met (by decide) ?_
  intro D A p e s m args below meth c σ av post C hsp
  obtain ⟨Inv, h1, hh4, h2, h3⟩ := H av σ post hsp
  have hV := q_loops (p := p) (l := l) (e := e) (R := rm_X11_isAgreed) (s := s) (m := m) (args := args) (below := below) (meth := meth) (c := c) (D := D) (A := A) (nL := 4) (Q := MQ below (q_Qc D A post) args s rm_X11_isAgreed.cells rm_X11_isAgreed.slots A) [4] (fun h =>  k_X11_isAgreed_4 post) (fun K hK h hh => ?_) Inv (fun n h hh => ?_)
  · exact ⟨_, v_X11_isAgreed_0 C hV, h1 _ (fun h n L st σ cr sr hi => ⟨n, hi⟩), h2, h3⟩
  · have e9 : h = 4 := by simpa using hh
    subst e9
    exact v_X11_isAgreed_4 C hK
  · have e9 : h = 4 := by simpa using hh
    subst e9
    exact hh4 (fun h L st σ cr sr => ∃ m : Nat, m < n ∧ Inv h m L st σ cr sr) n (fun h m L st σ cr sr hm hi => ⟨m, hm, hi⟩)
theorem t_X11_isAgreed (l : Launch) : q_Ct l yX11_isAgreed cX11_isAgreed 4 (some .boolean) rm_X11_isAgreed s_X11_isAgreed := u_X11_isAgreed l (by
  intro av σ post h
  unfold s_X11_isAgreed at h
  split at h
  · next mr w =>
    obtain ⟨ad, z, g, gp, r, hm, hw, hI, h1, h2⟩ := h
    unfold I1 at hI
    have ez := nI_self hI.2.1.1
    unfold agreedF at h1 h2
    generalize hna : (z 1).toNatClampNeg = na at h1 h2 ez
    have hna6 : na ≤ 12 := hna ▸ clamp_le 12 hI.2.1.1 hI.2.1.2
    obtain ⟨wn, hwn, e0, e1⟩ := inR 20 hw.1 hw.2
    refine ⟨fun _ n L st σ' cr sr => ∃ i : Nat, ∃ d0 : Option Value, i ≤ na ∧ n = na - i ∧ σ' = σ ∧ st = [] ∧ L = [some (.ref mr), some (.int w), some (.int (agF z g w i)), some (.int (nI i))], ?_, ?_, by simp, by simp [Value.category]⟩
    · intro K hK
      simp only [c_push, c_null, c_iload, c_aload, c_istore, c_astore, c_iinc, c_iadd, c_isub, c_imul, c_iand, c_ineg, c_dup, c_dup2, c_pop, c_ifnull, c_ifnonnull, c_get, c_put, c_iald, c_zald, c_iast, c_zast, c_aald, c_aast, c_alen, c_new, c_newa, c_newq, c_mna, c_oinit, c_max, c_copy, c_iret, c_zret, c_aret, c_vret, q_do, q_rc, c_ifeq, c_ifne, c_iflt, c_ifge, c_ifgt, c_ifle, c_iceq, c_icne, c_iclt, c_icge, c_icgt, c_icle, c_call0, c_call1, c_call2, c_call3, c_call4, c_call5, c_call6, c_call7, q_L0, List.map_cons, List.map_nil, List.replicate, List.cons_append, List.nil_append, List.append_nil, List.length_cons, List.length_nil, List.length_set, Nat.reduceSub, Nat.reduceAdd, Nat.reduceLT, Nat.reduceLeDiff, Nat.zero_add, Nat.add_zero, Nat.sub_zero, Nat.sub_self, List.getElem?_cons_zero, List.getElem?_cons_succ, List.set_cons_zero, List.set_cons_succ, Option.toList_some, Option.toList_none, List.sum_cons, List.sum_nil, true_and, and_true, true_or, or_true, Nat.le_refl, Nat.zero_le, Value.category, Fin.isValue, Fin.val_zero, Fin.val_one, Fin.val_two, Fin.reduceFinMk, q_10, q_01, not_false_eq_true, not_true_eq_false, forall_const, true_implies, false_implies, implies_true, q_ni, q_fi, q_nb0, q_nb1, q_fb0, q_fb1, q_nor, q_nar, q_for, q_far, q_non, q_nan, q_fon, q_fan, imp_false, false_and, and_false, and_self, false_or, or_false, va_rf, refKind, k_X11_isAgreed_0, k_X11_isAgreed_41, k_X11_isAgreed_75, k_X11_isAgreed_83, k_X11_isAgreed_4]
      exact hK _ na _ _ _ _ _ ⟨0, none, Nat.zero_le _, rfl, rfl, rfl, rfl⟩
    · rintro K n hK L st σ' cr sr ⟨i, d0, hi, rfl, rfl, rfl, rfl⟩
      have hix : i < 12 → (12 * w + nI i).toNatClampNeg = 12 * w.toNatClampNeg + i ∧ 0 ≤ 12 * w + nI i ∧ 12 * w + nI i < 240 := fun h => by
        rw [e1, e0, idx21]
        exact ⟨clN (by omega), nI_low (by omega), nI_ltN (N := 240) (by omega)⟩
      simp only [c_push, c_null, c_iload, c_aload, c_istore, c_astore, c_iinc, c_iadd, c_isub, c_imul, c_iand, c_ineg, c_dup, c_dup2, c_pop, c_ifnull, c_ifnonnull, c_get, c_put, c_iald, c_zald, c_iast, c_zast, c_aald, c_aast, c_alen, c_new, c_newa, c_newq, c_mna, c_oinit, c_max, c_copy, c_iret, c_zret, c_aret, c_vret, q_do, q_rc, c_ifeq, c_ifne, c_iflt, c_ifge, c_ifgt, c_ifle, c_iceq, c_icne, c_iclt, c_icge, c_icgt, c_icle, c_call0, c_call1, c_call2, c_call3, c_call4, c_call5, c_call6, c_call7, q_L0, List.map_cons, List.map_nil, List.replicate, List.cons_append, List.nil_append, List.append_nil, List.length_cons, List.length_nil, List.length_set, Nat.reduceSub, Nat.reduceAdd, Nat.reduceLT, Nat.reduceLeDiff, Nat.zero_add, Nat.add_zero, Nat.sub_zero, Nat.sub_self, List.getElem?_cons_zero, List.getElem?_cons_succ, List.set_cons_zero, List.set_cons_succ, Option.toList_some, Option.toList_none, List.sum_cons, List.sum_nil, true_and, and_true, true_or, or_true, Nat.le_refl, Nat.zero_le, Value.category, Fin.isValue, Fin.val_zero, Fin.val_one, Fin.val_two, Fin.reduceFinMk, q_10, q_01, not_false_eq_true, not_true_eq_false, forall_const, true_implies, false_implies, implies_true, q_ni, q_fi, q_nb0, q_nb1, q_fb0, q_fb1, q_nor, q_nar, q_for, q_far, q_non, q_nan, q_fon, q_fan, imp_false, false_and, and_false, and_self, false_or, or_false, va_rf, refKind, k_X11_isAgreed_0, k_X11_isAgreed_41, k_X11_isAgreed_75, k_X11_isAgreed_83, k_X11_isAgreed_4, hm.rd, vpi240]
      rw [← ez]
      have E := cl2 (nI na) (nI i) na i rfl rfl (by omega) (by omega)
      rw [E.1]
      refine ⟨fun c => ?_, fun c => ?_⟩
      · have e : i = na := by omega
        subst e
        refine ⟨ad, z, g, gp, r, hm, hI.2.2.1, ?_⟩
        simp only [c_push, c_null, c_iload, c_aload, c_istore, c_astore, c_iinc, c_iadd, c_isub, c_imul, c_iand, c_ineg, c_dup, c_dup2, c_pop, c_ifnull, c_ifnonnull, c_get, c_put, c_iald, c_zald, c_iast, c_zast, c_aald, c_aast, c_alen, c_new, c_newa, c_newq, c_mna, c_oinit, c_max, c_copy, c_iret, c_zret, c_aret, c_vret, q_do, q_rc, c_ifeq, c_ifne, c_iflt, c_ifge, c_ifgt, c_ifle, c_iceq, c_icne, c_iclt, c_icge, c_icgt, c_icle, c_call0, c_call1, c_call2, c_call3, c_call4, c_call5, c_call6, c_call7, q_L0, List.map_cons, List.map_nil, List.replicate, List.cons_append, List.nil_append, List.append_nil, List.length_cons, List.length_nil, List.length_set, Nat.reduceSub, Nat.reduceAdd, Nat.reduceLT, Nat.reduceLeDiff, Nat.zero_add, Nat.add_zero, Nat.sub_zero, Nat.sub_self, List.getElem?_cons_zero, List.getElem?_cons_succ, List.set_cons_zero, List.set_cons_succ, Option.toList_some, Option.toList_none, List.sum_cons, List.sum_nil, true_and, and_true, true_or, or_true, Nat.le_refl, Nat.zero_le, Value.category, Fin.isValue, Fin.val_zero, Fin.val_one, Fin.val_two, Fin.reduceFinMk, q_10, q_01, not_false_eq_true, not_true_eq_false, forall_const, true_implies, false_implies, implies_true, q_ni, q_fi, q_nb0, q_nb1, q_fb0, q_fb1, q_nor, q_nar, q_for, q_far, q_non, q_nan, q_fon, q_fan, imp_false, false_and, and_false, and_self, false_or, or_false, va_rf, refKind, hm.rd, vpi6]
        have hc := actF_cases g (z 0) (naF z)
        unfold consF at h1 h2
        unfold naF at h1 h2 hc
        have hna2 : (z 5).toNatClampNeg ≤ 6 := clamp_le 6 hI.2.2.1.1 hI.2.2.1.2
        refine ⟨fun c2 => ?_, fun c2 => ?_⟩
        · rw [if_neg c2] at h1 h2
          have hr : 0 ≤ actF g (z 0) (z 5).toNatClampNeg ∧ actF g (z 0) (z 5).toNatClampNeg < 6 := by
            rcases hc with h | ⟨j, h, e⟩
            · exact absurd h c2
            · rw [e]; exact ⟨nI_low (by omega), nI_ltN (N := 6) (by omega)⟩
          clear hK hm
          grind
        · rw [if_pos c2] at h1 h2
          clear hK hm
          grind
      · have hx := hix (by omega)
        simp only [c_push, c_null, c_iload, c_aload, c_istore, c_astore, c_iinc, c_iadd, c_isub, c_imul, c_iand, c_ineg, c_dup, c_dup2, c_pop, c_ifnull, c_ifnonnull, c_get, c_put, c_iald, c_zald, c_iast, c_zast, c_aald, c_aast, c_alen, c_new, c_newa, c_newq, c_mna, c_oinit, c_max, c_copy, c_iret, c_zret, c_aret, c_vret, q_do, q_rc, c_ifeq, c_ifne, c_iflt, c_ifge, c_ifgt, c_ifle, c_iceq, c_icne, c_iclt, c_icge, c_icgt, c_icle, c_call0, c_call1, c_call2, c_call3, c_call4, c_call5, c_call6, c_call7, q_L0, List.map_cons, List.map_nil, List.replicate, List.cons_append, List.nil_append, List.append_nil, List.length_cons, List.length_nil, List.length_set, Nat.reduceSub, Nat.reduceAdd, Nat.reduceLT, Nat.reduceLeDiff, Nat.zero_add, Nat.add_zero, Nat.sub_zero, Nat.sub_self, List.getElem?_cons_zero, List.getElem?_cons_succ, List.set_cons_zero, List.set_cons_succ, Option.toList_some, Option.toList_none, List.sum_cons, List.sum_nil, true_and, and_true, true_or, or_true, Nat.le_refl, Nat.zero_le, Value.category, Fin.isValue, Fin.val_zero, Fin.val_one, Fin.val_two, Fin.reduceFinMk, q_10, q_01, not_false_eq_true, not_true_eq_false, forall_const, true_implies, false_implies, implies_true, q_ni, q_fi, q_nb0, q_nb1, q_fb0, q_fb1, q_nor, q_nar, q_for, q_far, q_non, q_nan, q_fon, q_fan, imp_false, false_and, and_false, and_self, false_or, or_false, va_rf, refKind, hx]
        refine ⟨fun c2 => ?_, fun c2 => ?_⟩
        all_goals try (refine ⟨ad, z, g, gp, r, hm, hw, hI.2.2.2.2.1, ?_⟩)
        all_goals try simp only [c_push, c_null, c_iload, c_aload, c_istore, c_astore, c_iinc, c_iadd, c_isub, c_imul, c_iand, c_ineg, c_dup, c_dup2, c_pop, c_ifnull, c_ifnonnull, c_get, c_put, c_iald, c_zald, c_iast, c_zast, c_aald, c_aast, c_alen, c_new, c_newa, c_newq, c_mna, c_oinit, c_max, c_copy, c_iret, c_zret, c_aret, c_vret, q_do, q_rc, c_ifeq, c_ifne, c_iflt, c_ifge, c_ifgt, c_ifle, c_iceq, c_icne, c_iclt, c_icge, c_icgt, c_icle, c_call0, c_call1, c_call2, c_call3, c_call4, c_call5, c_call6, c_call7, q_L0, List.map_cons, List.map_nil, List.replicate, List.cons_append, List.nil_append, List.append_nil, List.length_cons, List.length_nil, List.length_set, Nat.reduceSub, Nat.reduceAdd, Nat.reduceLT, Nat.reduceLeDiff, Nat.zero_add, Nat.add_zero, Nat.sub_zero, Nat.sub_self, List.getElem?_cons_zero, List.getElem?_cons_succ, List.set_cons_zero, List.set_cons_succ, Option.toList_some, Option.toList_none, List.sum_cons, List.sum_nil, true_and, and_true, true_or, or_true, Nat.le_refl, Nat.zero_le, Value.category, Fin.isValue, Fin.val_zero, Fin.val_one, Fin.val_two, Fin.reduceFinMk, q_10, q_01, not_false_eq_true, not_true_eq_false, forall_const, true_implies, false_implies, implies_true, q_ni, q_fi, q_nb0, q_nb1, q_fb0, q_fb1, q_nor, q_nar, q_for, q_far, q_non, q_nan, q_fon, q_fan, imp_false, false_and, and_false, and_self, false_or, or_false, va_rf, refKind]
        all_goals refine hK _ (na - (i + 1)) _ _ _ _ _ (by omega) ⟨i + 1, none, by omega, rfl, rfl, rfl, ?_⟩
        all_goals rw [nI_1, agF]
        · first | rw [if_neg c2] | rw [if_pos c2]
        · first | rw [if_neg c2] | rw [if_pos c2]
          rfl
  · exact h.elim)
def licF (z : Nat → Int32) (g : Nat → Nat → Int32) (w u p a b : Int32) : Nat → Nat → Int32 := gup (gup (gup (gup (gup (gup g 23 (z 22).toNatClampNeg w) 24 (z 22).toNatClampNeg u) 25 (z 22).toNatClampNeg p) 26 (z 22).toNatClampNeg a) 27 (z 22).toNatClampNeg b) 28 (z 22).toNatClampNeg (z 0)
def F_license (z : Nat → Int32) (g : Nat → Nat → Int32) (w u p a b : Int32) : Int32 × (Nat → Int32) × (Nat → Nat → Int32) :=
  if isW z w ∧ (0 ≤ u ∧ u ≤ 3) ∧ isP z p ∧ (0 ≤ a ∧ a ≤ 3000) ∧ a ≤ b ∧ b ≤ 3000 then
    if HR z g w.toNatClampNeg (z 0) (z 0) ∧ agreedF z g w then if z 22 = 40 then (-4, z, g) else (z 22, upd z 22 (z 22 + 1), licF z g w u p a b) else (-3, z, g)
  else (-2, z, g)
def s_X11_license : q_Sp := fun av σ post => match av with
  | [.ref mr, .int w, .int u, .int p, .int a, .int b] => ∃ ad z g, mOK σ mr ad z g ∧ I1 z ∧ AU z g ∧ ∀ σ', mOK σ' mr ad (F_license z g w u p a b).2.1 (F_license z g w u p a b).2.2 → post (some (.int (F_license z g w u p a b).1)) σ'
  | _ => False
theorem w9_88 : (.code yX11_isAgreed cX11_isAgreed 4 (some .boolean) : Cond) ∈ lw_tbl := by decide +kernel
theorem w9_89 : (.methodLink RX11 161 yX11_isAgreed : Cond) ∈ lw_tbl := by decide +kernel
theorem w9_90 : (.instanceMethod yX11_isAgreed : Cond) ∈ lw_tbl := by decide +kernel
theorem w9_91 : (.selects RX11 yX11_isAgreed yX11_isAgreed : Cond) ∈ lw_tbl := by decide +kernel
theorem w9_92 : (.fieldLink RX11 62 (TX11 23).1 (TX11 23).2.1 (TX11 23).2.2.1 : Cond) ∈ lw_tbl := by decide +kernel
theorem w9_93 : (.fieldLink RX11 65 (TX11 24).1 (TX11 24).2.1 (TX11 24).2.2.1 : Cond) ∈ lw_tbl := by decide +kernel
theorem w9_94 : (.fieldLink RX11 68 (TX11 25).1 (TX11 25).2.1 (TX11 25).2.2.1 : Cond) ∈ lw_tbl := by decide +kernel
theorem w9_95 : (.fieldLink RX11 71 (TX11 26).1 (TX11 26).2.1 (TX11 26).2.2.1 : Cond) ∈ lw_tbl := by decide +kernel
theorem w9_96 : (.fieldLink RX11 74 (TX11 27).1 (TX11 27).2.1 (TX11 27).2.2.1 : Cond) ∈ lw_tbl := by decide +kernel
theorem w9_97 : (.fieldLink RX11 77 (TX11 28).1 (TX11 28).2.1 (TX11 28).2.2.1 : Cond) ∈ lw_tbl := by decide +kernel
def rm_X11_license : Room := { frames := 4, cells := 0, slots := 0, locals := 97 }
def k_X11_license_50 (post : Option Value → q_S → Prop) (K : Nat → q_K) : q_K := (c_push (-2) (c_iret post))
def k_X11_license_77 (post : Option Value → q_S → Prop) (K : Nat → q_K) : q_K := (c_push (-3) (c_iret post))
def k_X11_license_80 (post : Option Value → q_S → Prop) (K : Nat → q_K) : q_K := (c_aload 0 (c_get 11 22 (c_push 40 (c_icne (c_aload 0 (c_get 11 23 (c_aload 0 (c_get 11 22 (c_iload 1 (c_iast (c_aload 0 (c_get 11 24 (c_aload 0 (c_get 11 22 (c_iload 2 (c_iast (c_aload 0 (c_get 11 25 (c_aload 0 (c_get 11 22 (c_iload 3 (c_iast (c_aload 0 (c_get 11 26 (c_aload 0 (c_get 11 22 (c_iload 4 (c_iast (c_aload 0 (c_get 11 27 (c_aload 0 (c_get 11 22 (c_iload 5 (c_iast (c_aload 0 (c_get 11 28 (c_aload 0 (c_get 11 22 (c_aload 0 (c_get 11 0 (c_iast (c_aload 0 (c_dup (c_get 11 22 (c_push 1 (c_iadd (c_put 11 22 (.int) (c_aload 0 (c_get 11 22 (c_push 1 (c_isub (c_iret post)))))))))))))))))))))))))))))))))))))))))))))))) (c_push (-4) (c_iret post))))))
def k_X11_license_0 (post : Option Value → q_S → Prop) (K : Nat → q_K) : q_K := (c_aload 0 (c_iload 1 (c_call2 (some 11) s_X11_isWork 0 0 (c_ifeq (k_X11_license_50 post K) (c_iload 2 (c_push 0 (c_push 3 (c_call3 none s_X11_in 0 0 (c_ifeq (k_X11_license_50 post K) (c_aload 0 (c_iload 3 (c_call2 (some 11) s_X11_isPerson 0 0 (c_ifeq (k_X11_license_50 post K) (c_iload 4 (c_push 0 (c_push 3000 (c_call3 none s_X11_in 0 0 (c_ifeq (k_X11_license_50 post K) (c_iload 5 (c_iload 4 (c_push 3000 (c_call3 none s_X11_in 0 0 (c_ifne (c_aload 0 (c_iload 1 (c_aload 0 (c_get 11 0 (c_aload 0 (c_get 11 0 (c_call4 (some 11) s_X11_hasRight 0 0 (c_ifeq (k_X11_license_77 post K) (c_aload 0 (c_iload 1 (c_call2 (some 11) s_X11_isAgreed 0 0 (c_ifne (k_X11_license_80 post K) (k_X11_license_77 post K))))))))))))) (k_X11_license_50 post K))))))))))))))))))))))))
set_option maxRecDepth 100000 in
theorem v_X11_license_50 {p : Program} {l : Launch} {e : Env} {s : State} {m : MethodId} {args : Array Value} {below : List Frame} {meth : Method} {c : Code} {D : va_G} {A : Nat → Prop} {post : Option Value → q_S → Prop} {K : Nat → q_K} (C : q_C p s m args meth c cX11_license 6 RX11 "license" (some .int) A) (hK : ∀ h ∈ ([] : List Nat), q_V p l e rm_X11_license s m args below meth c D A 6 (MQ below (q_Qc D A post) args s rm_X11_license.cells rm_X11_license.slots A) h (K h)) : q_V p l e rm_X11_license s m args below meth c D A 6 (MQ below (q_Qc D A post) args s rm_X11_license.cells rm_X11_license.slots A) 50 (k_X11_license_50 post K) := by
  unfold k_X11_license_50
  refine q_bipush C (by decide +kernel : decode cX11_license 50 = .ok (.bipush (-2), 2)) (by decide) ?_
  exact q_iret C rfl (by decide +kernel : decode cX11_license 52 = .ok (.ireturn, 1))
set_option maxRecDepth 100000 in
theorem v_X11_license_77 {p : Program} {l : Launch} {e : Env} {s : State} {m : MethodId} {args : Array Value} {below : List Frame} {meth : Method} {c : Code} {D : va_G} {A : Nat → Prop} {post : Option Value → q_S → Prop} {K : Nat → q_K} (C : q_C p s m args meth c cX11_license 6 RX11 "license" (some .int) A) (hK : ∀ h ∈ ([] : List Nat), q_V p l e rm_X11_license s m args below meth c D A 6 (MQ below (q_Qc D A post) args s rm_X11_license.cells rm_X11_license.slots A) h (K h)) : q_V p l e rm_X11_license s m args below meth c D A 6 (MQ below (q_Qc D A post) args s rm_X11_license.cells rm_X11_license.slots A) 77 (k_X11_license_77 post K) := by
  unfold k_X11_license_77
  refine q_bipush C (by decide +kernel : decode cX11_license 77 = .ok (.bipush (-3), 2)) (by decide) ?_
  exact q_iret C rfl (by decide +kernel : decode cX11_license 79 = .ok (.ireturn, 1))
set_option maxRecDepth 100000 in
theorem v_X11_license_80 {p : Program} {l : Launch} {e : Env} {s : State} {m : MethodId} {args : Array Value} {below : List Frame} {meth : Method} {c : Code} {D : va_G} {A : Nat → Prop} {post : Option Value → q_S → Prop} {K : Nat → q_K} (C : q_C p s m args meth c cX11_license 6 RX11 "license" (some .int) A) (hK : ∀ h ∈ ([] : List Nat), q_V p l e rm_X11_license s m args below meth c D A 6 (MQ below (q_Qc D A post) args s rm_X11_license.cells rm_X11_license.slots A) h (K h)) : q_V p l e rm_X11_license s m args below meth c D A 6 (MQ below (q_Qc D A post) args s rm_X11_license.cells rm_X11_license.slots A) 80 (k_X11_license_80 post K) := by
  unfold k_X11_license_80
  refine q_aload_n C (by decide +kernel : decode cX11_license 80 = .ok (.aload_n 0, 1)) ?_
  refine q_get C (ci := 11) (j := 22) (C0 := RX11) (T := TX11) (N := 35) rfl iX11 giX11 (by decide) w9_87 (by decide +kernel : decode cX11_license 81 = .ok (.getfield 164, 3)) ?_
  refine q_bipush C (by decide +kernel : decode cX11_license 84 = .ok (.bipush 40, 2)) (by decide) ?_
  refine q_icne C (tgt := 92) (by decide +kernel : decode cX11_license 86 = .ok (.if_icmp .ne 6, 3)) (by decide) ?_ ?_
  · refine q_aload_n C (by decide +kernel : decode cX11_license 92 = .ok (.aload_n 0, 1)) ?_
    refine q_get C (ci := 11) (j := 23) (C0 := RX11) (T := TX11) (N := 35) rfl iX11 giX11 (by decide) w9_92 (by decide +kernel : decode cX11_license 93 = .ok (.getfield 62, 3)) ?_
    refine q_aload_n C (by decide +kernel : decode cX11_license 96 = .ok (.aload_n 0, 1)) ?_
    refine q_get C (ci := 11) (j := 22) (C0 := RX11) (T := TX11) (N := 35) rfl iX11 giX11 (by decide) w9_87 (by decide +kernel : decode cX11_license 97 = .ok (.getfield 164, 3)) ?_
    refine q_iload_n C (by decide +kernel : decode cX11_license 100 = .ok (.iload_n 1, 1)) ?_
    refine q_iast C (by decide +kernel : decode cX11_license 101 = .ok (.iastore, 1)) ?_
    refine q_aload_n C (by decide +kernel : decode cX11_license 102 = .ok (.aload_n 0, 1)) ?_
    refine q_get C (ci := 11) (j := 24) (C0 := RX11) (T := TX11) (N := 35) rfl iX11 giX11 (by decide) w9_93 (by decide +kernel : decode cX11_license 103 = .ok (.getfield 65, 3)) ?_
    refine q_aload_n C (by decide +kernel : decode cX11_license 106 = .ok (.aload_n 0, 1)) ?_
    refine q_get C (ci := 11) (j := 22) (C0 := RX11) (T := TX11) (N := 35) rfl iX11 giX11 (by decide) w9_87 (by decide +kernel : decode cX11_license 107 = .ok (.getfield 164, 3)) ?_
    refine q_iload_n C (by decide +kernel : decode cX11_license 110 = .ok (.iload_n 2, 1)) ?_
    refine q_iast C (by decide +kernel : decode cX11_license 111 = .ok (.iastore, 1)) ?_
    refine q_aload_n C (by decide +kernel : decode cX11_license 112 = .ok (.aload_n 0, 1)) ?_
    refine q_get C (ci := 11) (j := 25) (C0 := RX11) (T := TX11) (N := 35) rfl iX11 giX11 (by decide) w9_94 (by decide +kernel : decode cX11_license 113 = .ok (.getfield 68, 3)) ?_
    refine q_aload_n C (by decide +kernel : decode cX11_license 116 = .ok (.aload_n 0, 1)) ?_
    refine q_get C (ci := 11) (j := 22) (C0 := RX11) (T := TX11) (N := 35) rfl iX11 giX11 (by decide) w9_87 (by decide +kernel : decode cX11_license 117 = .ok (.getfield 164, 3)) ?_
    refine q_iload_n C (by decide +kernel : decode cX11_license 120 = .ok (.iload_n 3, 1)) ?_
    refine q_iast C (by decide +kernel : decode cX11_license 121 = .ok (.iastore, 1)) ?_
    refine q_aload_n C (by decide +kernel : decode cX11_license 122 = .ok (.aload_n 0, 1)) ?_
    refine q_get C (ci := 11) (j := 26) (C0 := RX11) (T := TX11) (N := 35) rfl iX11 giX11 (by decide) w9_95 (by decide +kernel : decode cX11_license 123 = .ok (.getfield 71, 3)) ?_
    refine q_aload_n C (by decide +kernel : decode cX11_license 126 = .ok (.aload_n 0, 1)) ?_
    refine q_get C (ci := 11) (j := 22) (C0 := RX11) (T := TX11) (N := 35) rfl iX11 giX11 (by decide) w9_87 (by decide +kernel : decode cX11_license 127 = .ok (.getfield 164, 3)) ?_
    refine q_iload C (by decide +kernel : decode cX11_license 130 = .ok (.iload 4, 2)) ?_
    refine q_iast C (by decide +kernel : decode cX11_license 132 = .ok (.iastore, 1)) ?_
    refine q_aload_n C (by decide +kernel : decode cX11_license 133 = .ok (.aload_n 0, 1)) ?_
    refine q_get C (ci := 11) (j := 27) (C0 := RX11) (T := TX11) (N := 35) rfl iX11 giX11 (by decide) w9_96 (by decide +kernel : decode cX11_license 134 = .ok (.getfield 74, 3)) ?_
    refine q_aload_n C (by decide +kernel : decode cX11_license 137 = .ok (.aload_n 0, 1)) ?_
    refine q_get C (ci := 11) (j := 22) (C0 := RX11) (T := TX11) (N := 35) rfl iX11 giX11 (by decide) w9_87 (by decide +kernel : decode cX11_license 138 = .ok (.getfield 164, 3)) ?_
    refine q_iload C (by decide +kernel : decode cX11_license 141 = .ok (.iload 5, 2)) ?_
    refine q_iast C (by decide +kernel : decode cX11_license 143 = .ok (.iastore, 1)) ?_
    refine q_aload_n C (by decide +kernel : decode cX11_license 144 = .ok (.aload_n 0, 1)) ?_
    refine q_get C (ci := 11) (j := 28) (C0 := RX11) (T := TX11) (N := 35) rfl iX11 giX11 (by decide) w9_97 (by decide +kernel : decode cX11_license 145 = .ok (.getfield 77, 3)) ?_
    refine q_aload_n C (by decide +kernel : decode cX11_license 148 = .ok (.aload_n 0, 1)) ?_
    refine q_get C (ci := 11) (j := 22) (C0 := RX11) (T := TX11) (N := 35) rfl iX11 giX11 (by decide) w9_87 (by decide +kernel : decode cX11_license 149 = .ok (.getfield 164, 3)) ?_
    refine q_aload_n C (by decide +kernel : decode cX11_license 152 = .ok (.aload_n 0, 1)) ?_
    refine q_get C (ci := 11) (j := 0) (C0 := RX11) (T := TX11) (N := 35) rfl iX11 giX11 (by decide) w9_10 (by decide +kernel : decode cX11_license 153 = .ok (.getfield 96, 3)) ?_
    refine q_iast C (by decide +kernel : decode cX11_license 156 = .ok (.iastore, 1)) ?_
    refine q_aload_n C (by decide +kernel : decode cX11_license 157 = .ok (.aload_n 0, 1)) ?_
    refine q_dup C (by decide +kernel : decode cX11_license 158 = .ok (.dup, 1)) ?_
    refine q_get C (ci := 11) (j := 22) (C0 := RX11) (T := TX11) (N := 35) rfl iX11 giX11 (by decide) w9_87 (by decide +kernel : decode cX11_license 159 = .ok (.getfield 164, 3)) ?_
    refine q_iconst C (by decide +kernel : decode cX11_license 162 = .ok (.iconst 1, 1)) (by decide) ?_
    refine q_iadd C (by decide +kernel : decode cX11_license 163 = .ok (.iadd, 1)) ?_
    refine q_put C (ci := 11) (j := 22) (C0 := RX11) (T := TX11) (N := 35) (ty := .int) rfl iX11 giX11 (by decide) tyX11 tyX11_ok nmX11 (by decide +kernel) rfl w9_87 (by decide +kernel : decode cX11_license 164 = .ok (.putfield 164, 3)) ?_
    refine q_aload_n C (by decide +kernel : decode cX11_license 167 = .ok (.aload_n 0, 1)) ?_
    refine q_get C (ci := 11) (j := 22) (C0 := RX11) (T := TX11) (N := 35) rfl iX11 giX11 (by decide) w9_87 (by decide +kernel : decode cX11_license 168 = .ok (.getfield 164, 3)) ?_
    refine q_iconst C (by decide +kernel : decode cX11_license 171 = .ok (.iconst 1, 1)) (by decide) ?_
    refine q_isub C (by decide +kernel : decode cX11_license 172 = .ok (.isub, 1)) ?_
    exact q_iret C rfl (by decide +kernel : decode cX11_license 173 = .ok (.ireturn, 1))
  · refine q_bipush C (by decide +kernel : decode cX11_license 89 = .ok (.bipush (-4), 2)) (by decide) ?_
    exact q_iret C rfl (by decide +kernel : decode cX11_license 91 = .ok (.ireturn, 1))
set_option maxRecDepth 100000 in
theorem v_X11_license_0 {p : Program} {l : Launch} {e : Env} {s : State} {m : MethodId} {args : Array Value} {below : List Frame} {meth : Method} {c : Code} {D : va_G} {A : Nat → Prop} {post : Option Value → q_S → Prop} {K : Nat → q_K} (C : q_C p s m args meth c cX11_license 6 RX11 "license" (some .int) A) (hK : ∀ h ∈ ([] : List Nat), q_V p l e rm_X11_license s m args below meth c D A 6 (MQ below (q_Qc D A post) args s rm_X11_license.cells rm_X11_license.slots A) h (K h)) : q_V p l e rm_X11_license s m args below meth c D A 6 (MQ below (q_Qc D A post) args s rm_X11_license.cells rm_X11_license.slots A) 0 (k_X11_license_0 post K) := by
  unfold k_X11_license_0
  refine q_aload_n C (by decide +kernel : decode cX11_license 0 = .ok (.aload_n 0, 1)) ?_
  refine q_iload_n C (by decide +kernel : decode cX11_license 1 = .ok (.iload_n 1, 1)) ?_
  refine q_call2 C (q_coV C (np := 1) (ci := 11) (rc := (RX11, TX11, 35)) (t_X11_isWork l) w9_48 rfl rfl w9_49 w9_50 w9_51 w9_6 (by decide +kernel) (by decide +kernel : decode cX11_license 2 = .ok (.invokevirtual 140, 3)) (by decide)) ?_
  refine q_ifeq C (tgt := 50) (by decide +kernel : decode cX11_license 5 = .ok (.ifCond .eq 45, 3)) (by decide) ?_ ?_
  · exact v_X11_license_50 C hK
  · refine q_iload_n C (by decide +kernel : decode cX11_license 8 = .ok (.iload_n 2, 1)) ?_
    refine q_iconst C (by decide +kernel : decode cX11_license 9 = .ok (.iconst 0, 1)) (by decide) ?_
    refine q_iconst C (by decide +kernel : decode cX11_license 10 = .ok (.iconst 3, 1)) (by decide) ?_
    refine q_call3 C (q_coS C (np := 3) (t_X11_in l) w9_5 w9_8 w9_7 w9_6 (by decide +kernel) (by decide +kernel : decode cX11_license 11 = .ok (.invokestatic 92, 3)) (by decide)) ?_
    refine q_ifeq C (tgt := 50) (by decide +kernel : decode cX11_license 14 = .ok (.ifCond .eq 36, 3)) (by decide) ?_ ?_
    · exact v_X11_license_50 C hK
    · refine q_aload_n C (by decide +kernel : decode cX11_license 17 = .ok (.aload_n 0, 1)) ?_
      refine q_iload_n C (by decide +kernel : decode cX11_license 18 = .ok (.iload_n 3, 1)) ?_
      refine q_call2 C (q_coV C (np := 1) (ci := 11) (rc := (RX11, TX11, 35)) (t_X11_isPerson l) w9_13 rfl rfl w9_14 w9_15 w9_16 w9_6 (by decide +kernel) (by decide +kernel : decode cX11_license 19 = .ok (.invokevirtual 106, 3)) (by decide)) ?_
      refine q_ifeq C (tgt := 50) (by decide +kernel : decode cX11_license 22 = .ok (.ifCond .eq 28, 3)) (by decide) ?_ ?_
      · exact v_X11_license_50 C hK
      · refine q_iload C (by decide +kernel : decode cX11_license 25 = .ok (.iload 4, 2)) ?_
        refine q_iconst C (by decide +kernel : decode cX11_license 27 = .ok (.iconst 0, 1)) (by decide) ?_
        refine q_sipush C (by decide +kernel : decode cX11_license 28 = .ok (.sipush 3000, 3)) (by decide) ?_
        refine q_call3 C (q_coS C (np := 3) (t_X11_in l) w9_5 w9_8 w9_7 w9_6 (by decide +kernel) (by decide +kernel : decode cX11_license 31 = .ok (.invokestatic 92, 3)) (by decide)) ?_
        refine q_ifeq C (tgt := 50) (by decide +kernel : decode cX11_license 34 = .ok (.ifCond .eq 16, 3)) (by decide) ?_ ?_
        · exact v_X11_license_50 C hK
        · refine q_iload C (by decide +kernel : decode cX11_license 37 = .ok (.iload 5, 2)) ?_
          refine q_iload C (by decide +kernel : decode cX11_license 39 = .ok (.iload 4, 2)) ?_
          refine q_sipush C (by decide +kernel : decode cX11_license 41 = .ok (.sipush 3000, 3)) (by decide) ?_
          refine q_call3 C (q_coS C (np := 3) (t_X11_in l) w9_5 w9_8 w9_7 w9_6 (by decide +kernel) (by decide +kernel : decode cX11_license 44 = .ok (.invokestatic 92, 3)) (by decide)) ?_
          refine q_ifne C (tgt := 53) (by decide +kernel : decode cX11_license 47 = .ok (.ifCond .ne 6, 3)) (by decide) ?_ ?_
          · refine q_aload_n C (by decide +kernel : decode cX11_license 53 = .ok (.aload_n 0, 1)) ?_
            refine q_iload_n C (by decide +kernel : decode cX11_license 54 = .ok (.iload_n 1, 1)) ?_
            refine q_aload_n C (by decide +kernel : decode cX11_license 55 = .ok (.aload_n 0, 1)) ?_
            refine q_get C (ci := 11) (j := 0) (C0 := RX11) (T := TX11) (N := 35) rfl iX11 giX11 (by decide) w9_10 (by decide +kernel : decode cX11_license 56 = .ok (.getfield 96, 3)) ?_
            refine q_aload_n C (by decide +kernel : decode cX11_license 59 = .ok (.aload_n 0, 1)) ?_
            refine q_get C (ci := 11) (j := 0) (C0 := RX11) (T := TX11) (N := 35) rfl iX11 giX11 (by decide) w9_10 (by decide +kernel : decode cX11_license 60 = .ok (.getfield 96, 3)) ?_
            refine q_call4 C (q_coV C (np := 3) (ci := 11) (rc := (RX11, TX11, 35)) (t_X11_hasRight l) w9_52 rfl rfl w9_53 w9_54 w9_55 w9_6 (by decide +kernel) (by decide +kernel : decode cX11_license 63 = .ok (.invokevirtual 146, 3)) (by decide)) ?_
            refine q_ifeq C (tgt := 77) (by decide +kernel : decode cX11_license 66 = .ok (.ifCond .eq 11, 3)) (by decide) ?_ ?_
            · exact v_X11_license_77 C hK
            · refine q_aload_n C (by decide +kernel : decode cX11_license 69 = .ok (.aload_n 0, 1)) ?_
              refine q_iload_n C (by decide +kernel : decode cX11_license 70 = .ok (.iload_n 1, 1)) ?_
              refine q_call2 C (q_coV C (np := 1) (ci := 11) (rc := (RX11, TX11, 35)) (t_X11_isAgreed l) w9_88 rfl rfl w9_89 w9_90 w9_91 w9_6 (by decide +kernel) (by decide +kernel : decode cX11_license 71 = .ok (.invokevirtual 161, 3)) (by decide)) ?_
              refine q_ifne C (tgt := 80) (by decide +kernel : decode cX11_license 74 = .ok (.ifCond .ne 6, 3)) (by decide) ?_ ?_
              · exact v_X11_license_80 C hK
              · exact v_X11_license_77 C hK
          · exact v_X11_license_50 C hK
theorem u_X11_license (l : Launch) {sp : q_Sp} (H : ∀ (av : List Value) (σ : q_S) (post : Option Value → q_S → Prop), sp av σ post → k_X11_license_0 post (fun _ _ _ _ _ _ => False) (q_L0 av 6) [] σ 0 0 ∧ av.length ≤ 6 ∧ ∀ v ∈ av, v.category = 1) : q_Ct l yX11_license cX11_license 6 (some .int) rm_X11_license sp := by
  refine q_met (by decide) ?_
  intro D A p e s m args below meth c σ av post C hsp
  obtain ⟨h1, h2, h3⟩ := H av σ post hsp
  exact ⟨_, v_X11_license_0 (K := fun _ _ _ _ _ _ => False) C (fun h hh => by cases hh), h1, h2, h3⟩
theorem t_X11_license (l : Launch) : q_Ct l yX11_license cX11_license 6 (some .int) rm_X11_license s_X11_license := u_X11_license l (by
  intro av σ post h
  unfold s_X11_license at h
  split at h
  · next mr w u p a b =>
    refine ⟨?_, by simp, by simp [Value.category]⟩
    obtain ⟨ad, z, g, ⟨gp, r, hm⟩, hI, hA, h1⟩ := h
    have hI0 := hI
    unfold I1 at hI
    have JB : ¬ (isW z w ∧ (0 ≤ u ∧ u ≤ 3) ∧ isP z p ∧ (0 ≤ a ∧ a ≤ 3000) ∧ a ≤ b ∧ b ≤ 3000) → post (some (.int (-2))) σ := fun c => by
      rw [F_license, if_neg c] at h1
      exact h1 _ ⟨gp, r, hm⟩
    have JN : (isW z w ∧ (0 ≤ u ∧ u ≤ 3) ∧ isP z p ∧ (0 ≤ a ∧ a ≤ 3000) ∧ a ≤ b ∧ b ≤ 3000) → ¬ (HR z g w.toNatClampNeg (z 0) (z 0) ∧ agreedF z g w) → ∀ σ' gp', mOKx σ' mr ad z g gp' r → post (some (.int (-3))) σ' := fun c c2 σ' gp' hm' => by
      rw [F_license, if_pos c, if_neg c2] at h1
      exact h1 _ ⟨gp', r, hm'⟩
    have J80 : (isW z w ∧ (0 ≤ u ∧ u ≤ 3) ∧ isP z p ∧ (0 ≤ a ∧ a ≤ 3000) ∧ a ≤ b ∧ b ≤ 3000) → (HR z g w.toNatClampNeg (z 0) (z 0) ∧ agreedF z g w) → ∀ σ' gp', mOKx σ' mr ad z g gp' r → k_X11_license_80 post (fun _ _ _ _ _ _ => False) [some (.ref mr), some (.int w), some (.int u), some (.int p), some (.int a), some (.int b)] [] σ' 0 0 := fun c c2 σ' gp' hm' => by
      rw [F_license, if_pos c, if_pos c2] at h1
      have hm1 := hm'.a23 (z 22).toNatClampNeg w
      have hm2 := hm1.a24 (z 22).toNatClampNeg u
      have hm3 := hm2.a25 (z 22).toNatClampNeg p
      have hm4 := hm3.a26 (z 22).toNatClampNeg a
      have hm5 := hm4.a27 (z 22).toNatClampNeg b
      have hm6 := hm5.a28 (z 22).toNatClampNeg (z 0)
      have hm7 := hm6.p22 (z 22 + 1)
      simp only [c_push, c_null, c_iload, c_aload, c_istore, c_astore, c_iinc, c_iadd, c_isub, c_imul, c_iand, c_ineg, c_dup, c_dup2, c_pop, c_ifnull, c_ifnonnull, c_get, c_put, c_iald, c_zald, c_iast, c_zast, c_aald, c_aast, c_alen, c_new, c_newa, c_newq, c_mna, c_oinit, c_max, c_copy, c_iret, c_zret, c_aret, c_vret, q_do, q_rc, c_ifeq, c_ifne, c_iflt, c_ifge, c_ifgt, c_ifle, c_iceq, c_icne, c_iclt, c_icge, c_icgt, c_icle, c_call0, c_call1, c_call2, c_call3, c_call4, c_call5, c_call6, c_call7, q_L0, List.map_cons, List.map_nil, List.replicate, List.cons_append, List.nil_append, List.append_nil, List.length_cons, List.length_nil, List.length_set, Nat.reduceSub, Nat.reduceAdd, Nat.reduceLT, Nat.reduceLeDiff, Nat.zero_add, Nat.add_zero, Nat.sub_zero, Nat.sub_self, List.getElem?_cons_zero, List.getElem?_cons_succ, List.set_cons_zero, List.set_cons_succ, Option.toList_some, Option.toList_none, List.sum_cons, List.sum_nil, true_and, and_true, true_or, or_true, Nat.le_refl, Nat.zero_le, Value.category, Fin.isValue, Fin.val_zero, Fin.val_one, Fin.val_two, Fin.reduceFinMk, q_10, q_01, not_false_eq_true, not_true_eq_false, forall_const, true_implies, false_implies, implies_true, q_ni, q_fi, q_nb0, q_nb1, q_fb0, q_fb1, q_nor, q_nar, q_for, q_far, q_non, q_nan, q_fon, q_fan, imp_false, false_and, and_false, and_self, false_or, or_false, va_rf, refKind, k_X11_license_80, hm'.rd, hm1.rd, hm2.rd, hm3.rd, hm4.rd, hm5.rd, hm6.rd, hm7.rd, vpi40]
      refine ⟨fun c3 => ?_, fun c3 => ?_⟩
      · rw [if_neg c3] at h1
        have h2 := h1 _ ⟨gp', r, hm7⟩
        have cx : 0 ≤ z 22 ∧ z 22 < 40 := by grind
        have e : upd z 22 (z 22 + 1) 22 - 1 = z 22 := by simp only [upd, if_true]; grind
        rw [e]
        exact ⟨cx, cx, cx, cx, cx, cx, h2⟩
      · rw [if_pos c3] at h1
        exact h1 _ ⟨gp', r, hm'⟩
    clear h1
    simp only [c_push, c_null, c_iload, c_aload, c_istore, c_astore, c_iinc, c_iadd, c_isub, c_imul, c_iand, c_ineg, c_dup, c_dup2, c_pop, c_ifnull, c_ifnonnull, c_get, c_put, c_iald, c_zald, c_iast, c_zast, c_aald, c_aast, c_alen, c_new, c_newa, c_newq, c_mna, c_oinit, c_max, c_copy, c_iret, c_zret, c_aret, c_vret, q_do, q_rc, c_ifeq, c_ifne, c_iflt, c_ifge, c_ifgt, c_ifle, c_iceq, c_icne, c_iclt, c_icge, c_icgt, c_icle, c_call0, c_call1, c_call2, c_call3, c_call4, c_call5, c_call6, c_call7, q_L0, List.map_cons, List.map_nil, List.replicate, List.cons_append, List.nil_append, List.append_nil, List.length_cons, List.length_nil, List.length_set, Nat.reduceSub, Nat.reduceAdd, Nat.reduceLT, Nat.reduceLeDiff, Nat.zero_add, Nat.add_zero, Nat.sub_zero, Nat.sub_self, List.getElem?_cons_zero, List.getElem?_cons_succ, List.set_cons_zero, List.set_cons_succ, Option.toList_some, Option.toList_none, List.sum_cons, List.sum_nil, true_and, and_true, true_or, or_true, Nat.le_refl, Nat.zero_le, Value.category, Fin.isValue, Fin.val_zero, Fin.val_one, Fin.val_two, Fin.reduceFinMk, q_10, q_01, not_false_eq_true, not_true_eq_false, forall_const, true_implies, false_implies, implies_true, q_ni, q_fi, q_nb0, q_nb1, q_fb0, q_fb1, q_nor, q_nar, q_for, q_far, q_non, q_nan, q_fon, q_fan, imp_false, false_and, and_false, and_self, false_or, or_false, va_rf, refKind, k_X11_license_0, k_X11_license_50, k_X11_license_77, hm.rd, s_X11_isWork, s_X11_isPerson, s_X11_in, s_X10_isWithin]
    refine ⟨hI.2.2.2.1, fun c1 => ⟨fun c2 => ⟨hI.2.1, fun c3 => ⟨fun c4 => ⟨fun c5 => ?_, fun c => JB (by grind)⟩, fun c => JB (by grind)⟩, fun c => JB (by grind)⟩, fun c => JB (by grind)⟩, fun c => JB (by grind)⟩
    have cc : (isW z w ∧ (0 ≤ u ∧ u ≤ 3) ∧ isP z p ∧ (0 ≤ a ∧ a ≤ 3000) ∧ a ≤ b ∧ b ≤ 3000) := ⟨c1, c2, c3, c4, c5.1, c5.2⟩
    have cw : 0 ≤ w ∧ w < 20 := ⟨c1.1, by grind⟩
    refine ⟨ad, z, g, gp, r, hm, cw, hI.2.2.1, hA.at c1.1 c1.2 cw.2, fun σ' gp' hm' => ⟨fun c6 => ?_, fun c6 => ?_⟩⟩
    · simp only [c_push, c_null, c_iload, c_aload, c_istore, c_astore, c_iinc, c_iadd, c_isub, c_imul, c_iand, c_ineg, c_dup, c_dup2, c_pop, c_ifnull, c_ifnonnull, c_get, c_put, c_iald, c_zald, c_iast, c_zast, c_aald, c_aast, c_alen, c_new, c_newa, c_newq, c_mna, c_oinit, c_max, c_copy, c_iret, c_zret, c_aret, c_vret, q_do, q_rc, c_ifeq, c_ifne, c_iflt, c_ifge, c_ifgt, c_ifle, c_iceq, c_icne, c_iclt, c_icge, c_icgt, c_icle, c_call0, c_call1, c_call2, c_call3, c_call4, c_call5, c_call6, c_call7, q_L0, List.map_cons, List.map_nil, List.replicate, List.cons_append, List.nil_append, List.append_nil, List.length_cons, List.length_nil, List.length_set, Nat.reduceSub, Nat.reduceAdd, Nat.reduceLT, Nat.reduceLeDiff, Nat.zero_add, Nat.add_zero, Nat.sub_zero, Nat.sub_self, List.getElem?_cons_zero, List.getElem?_cons_succ, List.set_cons_zero, List.set_cons_succ, Option.toList_some, Option.toList_none, List.sum_cons, List.sum_nil, true_and, and_true, true_or, or_true, Nat.le_refl, Nat.zero_le, Value.category, Fin.isValue, Fin.val_zero, Fin.val_one, Fin.val_two, Fin.reduceFinMk, q_10, q_01, not_false_eq_true, not_true_eq_false, forall_const, true_implies, false_implies, implies_true, q_ni, q_fi, q_nb0, q_nb1, q_fb0, q_fb1, q_nor, q_nar, q_for, q_far, q_non, q_nan, q_fon, q_fan, imp_false, false_and, and_false, and_self, false_or, or_false, va_rf, refKind, hm'.rd]
      refine ⟨ad, z, g, gp', r, hm', cw, hI0, fun c7 => ?_, fun c7 => ?_⟩
      · simp only [c_push, c_null, c_iload, c_aload, c_istore, c_astore, c_iinc, c_iadd, c_isub, c_imul, c_iand, c_ineg, c_dup, c_dup2, c_pop, c_ifnull, c_ifnonnull, c_get, c_put, c_iald, c_zald, c_iast, c_zast, c_aald, c_aast, c_alen, c_new, c_newa, c_newq, c_mna, c_oinit, c_max, c_copy, c_iret, c_zret, c_aret, c_vret, q_do, q_rc, c_ifeq, c_ifne, c_iflt, c_ifge, c_ifgt, c_ifle, c_iceq, c_icne, c_iclt, c_icge, c_icgt, c_icle, c_call0, c_call1, c_call2, c_call3, c_call4, c_call5, c_call6, c_call7, q_L0, List.map_cons, List.map_nil, List.replicate, List.cons_append, List.nil_append, List.append_nil, List.length_cons, List.length_nil, List.length_set, Nat.reduceSub, Nat.reduceAdd, Nat.reduceLT, Nat.reduceLeDiff, Nat.zero_add, Nat.add_zero, Nat.sub_zero, Nat.sub_self, List.getElem?_cons_zero, List.getElem?_cons_succ, List.set_cons_zero, List.set_cons_succ, Option.toList_some, Option.toList_none, List.sum_cons, List.sum_nil, true_and, and_true, true_or, or_true, Nat.le_refl, Nat.zero_le, Value.category, Fin.isValue, Fin.val_zero, Fin.val_one, Fin.val_two, Fin.reduceFinMk, q_10, q_01, not_false_eq_true, not_true_eq_false, forall_const, true_implies, false_implies, implies_true, q_ni, q_fi, q_nb0, q_nb1, q_fb0, q_fb1, q_nor, q_nar, q_for, q_far, q_non, q_nan, q_fon, q_fan, imp_false, false_and, and_false, and_self, false_or, or_false, va_rf, refKind]
        exact J80 cc ⟨c6, c7⟩ _ _ hm'
      · simp only [c_push, c_null, c_iload, c_aload, c_istore, c_astore, c_iinc, c_iadd, c_isub, c_imul, c_iand, c_ineg, c_dup, c_dup2, c_pop, c_ifnull, c_ifnonnull, c_get, c_put, c_iald, c_zald, c_iast, c_zast, c_aald, c_aast, c_alen, c_new, c_newa, c_newq, c_mna, c_oinit, c_max, c_copy, c_iret, c_zret, c_aret, c_vret, q_do, q_rc, c_ifeq, c_ifne, c_iflt, c_ifge, c_ifgt, c_ifle, c_iceq, c_icne, c_iclt, c_icge, c_icgt, c_icle, c_call0, c_call1, c_call2, c_call3, c_call4, c_call5, c_call6, c_call7, q_L0, List.map_cons, List.map_nil, List.replicate, List.cons_append, List.nil_append, List.append_nil, List.length_cons, List.length_nil, List.length_set, Nat.reduceSub, Nat.reduceAdd, Nat.reduceLT, Nat.reduceLeDiff, Nat.zero_add, Nat.add_zero, Nat.sub_zero, Nat.sub_self, List.getElem?_cons_zero, List.getElem?_cons_succ, List.set_cons_zero, List.set_cons_succ, Option.toList_some, Option.toList_none, List.sum_cons, List.sum_nil, true_and, and_true, true_or, or_true, Nat.le_refl, Nat.zero_le, Value.category, Fin.isValue, Fin.val_zero, Fin.val_one, Fin.val_two, Fin.reduceFinMk, q_10, q_01, not_false_eq_true, not_true_eq_false, forall_const, true_implies, false_implies, implies_true, q_ni, q_fi, q_nb0, q_nb1, q_fb0, q_fb1, q_nor, q_nar, q_for, q_far, q_non, q_nan, q_fon, q_fan, imp_false, false_and, and_false, and_self, false_or, or_false, va_rf, refKind]
        exact JN cc (fun h => c7 h.2) _ _ hm'
    · simp only [c_push, c_null, c_iload, c_aload, c_istore, c_astore, c_iinc, c_iadd, c_isub, c_imul, c_iand, c_ineg, c_dup, c_dup2, c_pop, c_ifnull, c_ifnonnull, c_get, c_put, c_iald, c_zald, c_iast, c_zast, c_aald, c_aast, c_alen, c_new, c_newa, c_newq, c_mna, c_oinit, c_max, c_copy, c_iret, c_zret, c_aret, c_vret, q_do, q_rc, c_ifeq, c_ifne, c_iflt, c_ifge, c_ifgt, c_ifle, c_iceq, c_icne, c_iclt, c_icge, c_icgt, c_icle, c_call0, c_call1, c_call2, c_call3, c_call4, c_call5, c_call6, c_call7, q_L0, List.map_cons, List.map_nil, List.replicate, List.cons_append, List.nil_append, List.append_nil, List.length_cons, List.length_nil, List.length_set, Nat.reduceSub, Nat.reduceAdd, Nat.reduceLT, Nat.reduceLeDiff, Nat.zero_add, Nat.add_zero, Nat.sub_zero, Nat.sub_self, List.getElem?_cons_zero, List.getElem?_cons_succ, List.set_cons_zero, List.set_cons_succ, Option.toList_some, Option.toList_none, List.sum_cons, List.sum_nil, true_and, and_true, true_or, or_true, Nat.le_refl, Nat.zero_le, Value.category, Fin.isValue, Fin.val_zero, Fin.val_one, Fin.val_two, Fin.reduceFinMk, q_10, q_01, not_false_eq_true, not_true_eq_false, forall_const, true_implies, false_implies, implies_true, q_ni, q_fi, q_nb0, q_nb1, q_fb0, q_fb1, q_nor, q_nar, q_for, q_far, q_non, q_nan, q_fon, q_fan, imp_false, false_and, and_false, and_self, false_or, or_false, va_rf, refKind]
      exact JN cc (fun h => c6 h.1) _ _ hm'
  · exact h.elim)
abbrev licOK (g : Nat → Nat → Int32) (w u p t : Int32) (l : Nat) : Prop := g 23 l = w ∧ g 24 l = u ∧ g 25 l = p ∧ g 28 l ≤ t ∧ g 26 l ≤ t ∧ t ≤ g 27 l
def licB (g : Nat → Nat → Int32) (w u p t : Int32) : Nat → Bool
  | 0 => false
  | n + 1 => licB g w u p t n || decide (licOK g w u p t n)
abbrev mayB0 (z : Nat → Int32) (g : Nat → Nat → Int32) (w p t k : Int32) : Prop := ¬ HR z g w.toNatClampNeg t k ∨ 8 ≤ holdsF g w p t (mvF z)
def mayB (z : Nat → Int32) (g : Nat → Nat → Int32) (w u p t k : Int32) (i : Nat) : Int32 := if mayB0 z g w p t k ∨ licB g w u p t i = true then 1 else 0
theorem mayB01 (z : Nat → Int32) (g : Nat → Nat → Int32) (w u p t k : Int32) (i : Nat) : mayB z g w u p t k i = 0 ∨ mayB z g w u p t k i = 1 := by unfold mayB; split <;> simp
theorem mayB_s (z : Nat → Int32) (g : Nat → Nat → Int32) (w u p t k : Int32) (i : Nat) : mayB z g w u p t k (i + 1) = if mayB z g w u p t k i = 1 ∨ licOK g w u p t i then 1 else 0 := by
  unfold mayB
  rw [licB]
  by_cases c : licOK g w u p t i <;> by_cases c2 : mayB0 z g w p t k <;> cases c3 : licB g w u p t i <;> simp [c, c2]
abbrev mayC (z : Nat → Int32) (g : Nat → Nat → Int32) (w u p t k : Int32) : Prop := isW z w ∧ (0 ≤ u ∧ u ≤ 3) ∧ isP z p ∧ (g 13 w.toNatClampNeg ≤ t ∧ t ≤ z 0) ∧ g 13 w.toNatClampNeg ≤ k ∧ k ≤ 3000
def F_may (z : Nat → Int32) (g : Nat → Nat → Int32) (w u p t k : Int32) : Int32 := if mayC z g w u p t k then mayB z g w u p t k (z 22).toNatClampNeg else -2
def s_X11_may : q_Sp := fun av σ post => match av with
  | [.ref mr, .int w, .int u, .int p, .int t, .int k] => ∃ ad z g, mOK σ mr ad z g ∧ I1 z ∧ AU z g ∧ ∀ σ', mOK σ' mr ad z g → post (some (.int (F_may z g w u p t k))) σ'
  | _ => False
def rm_X11_may : Room := { frames := 4, cells := 0, slots := 0, locals := 97 }
def k_X11_may_60 (post : Option Value → q_S → Prop) (K : Nat → q_K) : q_K := (c_push (-2) (c_iret post))
def k_X11_may_93 (post : Option Value → q_S → Prop) (K : Nat → q_K) : q_K := (c_istore 6 (c_push 0 (c_istore 7 (K 98))))
def k_X11_may_88 (post : Option Value → q_S → Prop) (K : Nat → q_K) : q_K := (c_push 1 (k_X11_may_93 post K))
def k_X11_may_63 (post : Option Value → q_S → Prop) (K : Nat → q_K) : q_K := (c_aload 0 (c_iload 1 (c_iload 4 (c_iload 5 (c_call4 (some 11) s_X11_hasRight 0 0 (c_ifeq (k_X11_may_88 post K) (c_aload 0 (c_iload 1 (c_iload 3 (c_iload 4 (c_call4 (some 11) s_X11_holds 0 0 (c_push 8 (c_iclt (c_push 0 (k_X11_may_93 post K)) (k_X11_may_88 post K))))))))))))))
def k_X11_may_0 (post : Option Value → q_S → Prop) (K : Nat → q_K) : q_K := (c_aload 0 (c_iload 1 (c_call2 (some 11) s_X11_isWork 0 0 (c_ifeq (k_X11_may_60 post K) (c_iload 2 (c_push 0 (c_push 3 (c_call3 none s_X11_in 0 0 (c_ifeq (k_X11_may_60 post K) (c_aload 0 (c_iload 3 (c_call2 (some 11) s_X11_isPerson 0 0 (c_ifeq (k_X11_may_60 post K) (c_iload 4 (c_aload 0 (c_get 11 13 (c_iload 1 (c_iald (c_aload 0 (c_get 11 0 (c_call3 none s_X11_in 0 0 (c_ifeq (k_X11_may_60 post K) (c_iload 5 (c_aload 0 (c_get 11 13 (c_iload 1 (c_iald (c_push 3000 (c_call3 none s_X11_in 0 0 (c_ifne (k_X11_may_63 post K) (k_X11_may_60 post K)))))))))))))))))))))))))))))))
def k_X11_may_184 (post : Option Value → q_S → Prop) (K : Nat → q_K) : q_K := (c_istore 6 (c_iinc 7 1 (K 98)))
def k_X11_may_179 (post : Option Value → q_S → Prop) (K : Nat → q_K) : q_K := (c_push 1 (k_X11_may_184 post K))
def k_X11_may_183 (post : Option Value → q_S → Prop) (K : Nat → q_K) : q_K := (c_push 0 (k_X11_may_184 post K))
def k_X11_may_202 (post : Option Value → q_S → Prop) (K : Nat → q_K) : q_K := (c_iret post)
def k_X11_may_98 (post : Option Value → q_S → Prop) (K : Nat → q_K) : q_K := (c_iload 7 (c_aload 0 (c_get 11 22 (c_icge (c_iload 6 (c_ifeq (c_push 0 (k_X11_may_202 post K)) (c_push 1 (k_X11_may_202 post K)))) (c_iload 6 (c_ifne (k_X11_may_179 post K) (c_aload 0 (c_get 11 23 (c_iload 7 (c_iald (c_iload 1 (c_icne (k_X11_may_183 post K) (c_aload 0 (c_get 11 24 (c_iload 7 (c_iald (c_iload 2 (c_icne (k_X11_may_183 post K) (c_aload 0 (c_get 11 25 (c_iload 7 (c_iald (c_iload 3 (c_icne (k_X11_may_183 post K) (c_aload 0 (c_get 11 28 (c_iload 7 (c_iald (c_iload 4 (c_icgt (k_X11_may_183 post K) (c_iload 4 (c_aload 0 (c_get 11 26 (c_iload 7 (c_iald (c_aload 0 (c_get 11 27 (c_iload 7 (c_iald (c_call3 none s_X11_in 0 0 (c_ifeq (k_X11_may_183 post K) (k_X11_may_179 post K))))))))))))))))))))))))))))))))))))))))))
set_option maxRecDepth 100000 in
theorem v_X11_may_60 {p : Program} {l : Launch} {e : Env} {s : State} {m : MethodId} {args : Array Value} {below : List Frame} {meth : Method} {c : Code} {D : va_G} {A : Nat → Prop} {post : Option Value → q_S → Prop} {K : Nat → q_K} (C : q_C p s m args meth c cX11_may 8 RX11 "may" (some .int) A) (hK : ∀ h ∈ ([98] : List Nat), q_V p l e rm_X11_may s m args below meth c D A 8 (MQ below (q_Qc D A post) args s rm_X11_may.cells rm_X11_may.slots A) h (K h)) : q_V p l e rm_X11_may s m args below meth c D A 8 (MQ below (q_Qc D A post) args s rm_X11_may.cells rm_X11_may.slots A) 60 (k_X11_may_60 post K) := by
  unfold k_X11_may_60
  refine q_bipush C (by decide +kernel : decode cX11_may 60 = .ok (.bipush (-2), 2)) (by decide) ?_
  exact q_iret C rfl (by decide +kernel : decode cX11_may 62 = .ok (.ireturn, 1))
set_option maxRecDepth 100000 in
theorem v_X11_may_93 {p : Program} {l : Launch} {e : Env} {s : State} {m : MethodId} {args : Array Value} {below : List Frame} {meth : Method} {c : Code} {D : va_G} {A : Nat → Prop} {post : Option Value → q_S → Prop} {K : Nat → q_K} (C : q_C p s m args meth c cX11_may 8 RX11 "may" (some .int) A) (hK : ∀ h ∈ ([98] : List Nat), q_V p l e rm_X11_may s m args below meth c D A 8 (MQ below (q_Qc D A post) args s rm_X11_may.cells rm_X11_may.slots A) h (K h)) : q_V p l e rm_X11_may s m args below meth c D A 8 (MQ below (q_Qc D A post) args s rm_X11_may.cells rm_X11_may.slots A) 93 (k_X11_may_93 post K) := by
  unfold k_X11_may_93
  refine q_istore C (by decide +kernel : decode cX11_may 93 = .ok (.istore 6, 2)) ?_
  refine q_iconst C (by decide +kernel : decode cX11_may 95 = .ok (.iconst 0, 1)) (by decide) ?_
  refine q_istore C (by decide +kernel : decode cX11_may 96 = .ok (.istore 7, 2)) ?_
  exact hK 98 (by decide)
set_option maxRecDepth 100000 in
theorem v_X11_may_88 {p : Program} {l : Launch} {e : Env} {s : State} {m : MethodId} {args : Array Value} {below : List Frame} {meth : Method} {c : Code} {D : va_G} {A : Nat → Prop} {post : Option Value → q_S → Prop} {K : Nat → q_K} (C : q_C p s m args meth c cX11_may 8 RX11 "may" (some .int) A) (hK : ∀ h ∈ ([98] : List Nat), q_V p l e rm_X11_may s m args below meth c D A 8 (MQ below (q_Qc D A post) args s rm_X11_may.cells rm_X11_may.slots A) h (K h)) : q_V p l e rm_X11_may s m args below meth c D A 8 (MQ below (q_Qc D A post) args s rm_X11_may.cells rm_X11_may.slots A) 88 (k_X11_may_88 post K) := by
  unfold k_X11_may_88
  refine q_iconst C (by decide +kernel : decode cX11_may 88 = .ok (.iconst 1, 1)) (by decide) ?_
  refine q_goto C (tgt := 93) (by decide +kernel : decode cX11_may 89 = .ok (.goto 4, 3)) (by decide) ?_
  exact v_X11_may_93 C hK
set_option maxRecDepth 100000 in
theorem v_X11_may_63 {p : Program} {l : Launch} {e : Env} {s : State} {m : MethodId} {args : Array Value} {below : List Frame} {meth : Method} {c : Code} {D : va_G} {A : Nat → Prop} {post : Option Value → q_S → Prop} {K : Nat → q_K} (C : q_C p s m args meth c cX11_may 8 RX11 "may" (some .int) A) (hK : ∀ h ∈ ([98] : List Nat), q_V p l e rm_X11_may s m args below meth c D A 8 (MQ below (q_Qc D A post) args s rm_X11_may.cells rm_X11_may.slots A) h (K h)) : q_V p l e rm_X11_may s m args below meth c D A 8 (MQ below (q_Qc D A post) args s rm_X11_may.cells rm_X11_may.slots A) 63 (k_X11_may_63 post K) := by
  unfold k_X11_may_63
  refine q_aload_n C (by decide +kernel : decode cX11_may 63 = .ok (.aload_n 0, 1)) ?_
  refine q_iload_n C (by decide +kernel : decode cX11_may 64 = .ok (.iload_n 1, 1)) ?_
  refine q_iload C (by decide +kernel : decode cX11_may 65 = .ok (.iload 4, 2)) ?_
  refine q_iload C (by decide +kernel : decode cX11_may 67 = .ok (.iload 5, 2)) ?_
  refine q_call4 C (q_coV C (np := 3) (ci := 11) (rc := (RX11, TX11, 35)) (t_X11_hasRight l) w9_52 rfl rfl w9_53 w9_54 w9_55 w9_6 (by decide +kernel) (by decide +kernel : decode cX11_may 69 = .ok (.invokevirtual 146, 3)) (by decide)) ?_
  refine q_ifeq C (tgt := 88) (by decide +kernel : decode cX11_may 72 = .ok (.ifCond .eq 16, 3)) (by decide) ?_ ?_
  · exact v_X11_may_88 C hK
  · refine q_aload_n C (by decide +kernel : decode cX11_may 75 = .ok (.aload_n 0, 1)) ?_
    refine q_iload_n C (by decide +kernel : decode cX11_may 76 = .ok (.iload_n 1, 1)) ?_
    refine q_iload_n C (by decide +kernel : decode cX11_may 77 = .ok (.iload_n 3, 1)) ?_
    refine q_iload C (by decide +kernel : decode cX11_may 78 = .ok (.iload 4, 2)) ?_
    refine q_call4 C (q_coV C (np := 3) (ci := 11) (rc := (RX11, TX11, 35)) (t_X11_holds l) w9_63 rfl rfl w9_64 w9_65 w9_66 w9_6 (by decide +kernel) (by decide +kernel : decode cX11_may 80 = .ok (.invokevirtual 110, 3)) (by decide)) ?_
    refine q_bipush C (by decide +kernel : decode cX11_may 83 = .ok (.bipush 8, 2)) (by decide) ?_
    refine q_iclt C (tgt := 92) (by decide +kernel : decode cX11_may 85 = .ok (.if_icmp .lt 7, 3)) (by decide) ?_ ?_
    · refine q_iconst C (by decide +kernel : decode cX11_may 92 = .ok (.iconst 0, 1)) (by decide) ?_
      exact v_X11_may_93 C hK
    · exact v_X11_may_88 C hK
set_option maxRecDepth 100000 in
theorem v_X11_may_0 {p : Program} {l : Launch} {e : Env} {s : State} {m : MethodId} {args : Array Value} {below : List Frame} {meth : Method} {c : Code} {D : va_G} {A : Nat → Prop} {post : Option Value → q_S → Prop} {K : Nat → q_K} (C : q_C p s m args meth c cX11_may 8 RX11 "may" (some .int) A) (hK : ∀ h ∈ ([98] : List Nat), q_V p l e rm_X11_may s m args below meth c D A 8 (MQ below (q_Qc D A post) args s rm_X11_may.cells rm_X11_may.slots A) h (K h)) : q_V p l e rm_X11_may s m args below meth c D A 8 (MQ below (q_Qc D A post) args s rm_X11_may.cells rm_X11_may.slots A) 0 (k_X11_may_0 post K) := by
  unfold k_X11_may_0
  refine q_aload_n C (by decide +kernel : decode cX11_may 0 = .ok (.aload_n 0, 1)) ?_
  refine q_iload_n C (by decide +kernel : decode cX11_may 1 = .ok (.iload_n 1, 1)) ?_
  refine q_call2 C (q_coV C (np := 1) (ci := 11) (rc := (RX11, TX11, 35)) (t_X11_isWork l) w9_48 rfl rfl w9_49 w9_50 w9_51 w9_6 (by decide +kernel) (by decide +kernel : decode cX11_may 2 = .ok (.invokevirtual 140, 3)) (by decide)) ?_
  refine q_ifeq C (tgt := 60) (by decide +kernel : decode cX11_may 5 = .ok (.ifCond .eq 55, 3)) (by decide) ?_ ?_
  · exact v_X11_may_60 C hK
  · refine q_iload_n C (by decide +kernel : decode cX11_may 8 = .ok (.iload_n 2, 1)) ?_
    refine q_iconst C (by decide +kernel : decode cX11_may 9 = .ok (.iconst 0, 1)) (by decide) ?_
    refine q_iconst C (by decide +kernel : decode cX11_may 10 = .ok (.iconst 3, 1)) (by decide) ?_
    refine q_call3 C (q_coS C (np := 3) (t_X11_in l) w9_5 w9_8 w9_7 w9_6 (by decide +kernel) (by decide +kernel : decode cX11_may 11 = .ok (.invokestatic 92, 3)) (by decide)) ?_
    refine q_ifeq C (tgt := 60) (by decide +kernel : decode cX11_may 14 = .ok (.ifCond .eq 46, 3)) (by decide) ?_ ?_
    · exact v_X11_may_60 C hK
    · refine q_aload_n C (by decide +kernel : decode cX11_may 17 = .ok (.aload_n 0, 1)) ?_
      refine q_iload_n C (by decide +kernel : decode cX11_may 18 = .ok (.iload_n 3, 1)) ?_
      refine q_call2 C (q_coV C (np := 1) (ci := 11) (rc := (RX11, TX11, 35)) (t_X11_isPerson l) w9_13 rfl rfl w9_14 w9_15 w9_16 w9_6 (by decide +kernel) (by decide +kernel : decode cX11_may 19 = .ok (.invokevirtual 106, 3)) (by decide)) ?_
      refine q_ifeq C (tgt := 60) (by decide +kernel : decode cX11_may 22 = .ok (.ifCond .eq 38, 3)) (by decide) ?_ ?_
      · exact v_X11_may_60 C hK
      · refine q_iload C (by decide +kernel : decode cX11_may 25 = .ok (.iload 4, 2)) ?_
        refine q_aload_n C (by decide +kernel : decode cX11_may 27 = .ok (.aload_n 0, 1)) ?_
        refine q_get C (ci := 11) (j := 13) (C0 := RX11) (T := TX11) (N := 35) rfl iX11 giX11 (by decide) w9_29 (by decide +kernel : decode cX11_may 28 = .ok (.getfield 37, 3)) ?_
        refine q_iload_n C (by decide +kernel : decode cX11_may 31 = .ok (.iload_n 1, 1)) ?_
        refine q_iald C (by decide +kernel : decode cX11_may 32 = .ok (.iaload, 1)) ?_
        refine q_aload_n C (by decide +kernel : decode cX11_may 33 = .ok (.aload_n 0, 1)) ?_
        refine q_get C (ci := 11) (j := 0) (C0 := RX11) (T := TX11) (N := 35) rfl iX11 giX11 (by decide) w9_10 (by decide +kernel : decode cX11_may 34 = .ok (.getfield 96, 3)) ?_
        refine q_call3 C (q_coS C (np := 3) (t_X11_in l) w9_5 w9_8 w9_7 w9_6 (by decide +kernel) (by decide +kernel : decode cX11_may 37 = .ok (.invokestatic 92, 3)) (by decide)) ?_
        refine q_ifeq C (tgt := 60) (by decide +kernel : decode cX11_may 40 = .ok (.ifCond .eq 20, 3)) (by decide) ?_ ?_
        · exact v_X11_may_60 C hK
        · refine q_iload C (by decide +kernel : decode cX11_may 43 = .ok (.iload 5, 2)) ?_
          refine q_aload_n C (by decide +kernel : decode cX11_may 45 = .ok (.aload_n 0, 1)) ?_
          refine q_get C (ci := 11) (j := 13) (C0 := RX11) (T := TX11) (N := 35) rfl iX11 giX11 (by decide) w9_29 (by decide +kernel : decode cX11_may 46 = .ok (.getfield 37, 3)) ?_
          refine q_iload_n C (by decide +kernel : decode cX11_may 49 = .ok (.iload_n 1, 1)) ?_
          refine q_iald C (by decide +kernel : decode cX11_may 50 = .ok (.iaload, 1)) ?_
          refine q_sipush C (by decide +kernel : decode cX11_may 51 = .ok (.sipush 3000, 3)) (by decide) ?_
          refine q_call3 C (q_coS C (np := 3) (t_X11_in l) w9_5 w9_8 w9_7 w9_6 (by decide +kernel) (by decide +kernel : decode cX11_may 54 = .ok (.invokestatic 92, 3)) (by decide)) ?_
          refine q_ifne C (tgt := 63) (by decide +kernel : decode cX11_may 57 = .ok (.ifCond .ne 6, 3)) (by decide) ?_ ?_
          · exact v_X11_may_63 C hK
          · exact v_X11_may_60 C hK
set_option maxRecDepth 100000 in
theorem v_X11_may_184 {p : Program} {l : Launch} {e : Env} {s : State} {m : MethodId} {args : Array Value} {below : List Frame} {meth : Method} {c : Code} {D : va_G} {A : Nat → Prop} {post : Option Value → q_S → Prop} {K : Nat → q_K} (C : q_C p s m args meth c cX11_may 8 RX11 "may" (some .int) A) (hK : ∀ h ∈ ([98] : List Nat), q_V p l e rm_X11_may s m args below meth c D A 8 (MQ below (q_Qc D A post) args s rm_X11_may.cells rm_X11_may.slots A) h (K h)) : q_V p l e rm_X11_may s m args below meth c D A 8 (MQ below (q_Qc D A post) args s rm_X11_may.cells rm_X11_may.slots A) 184 (k_X11_may_184 post K) := by
  unfold k_X11_may_184
  refine q_istore C (by decide +kernel : decode cX11_may 184 = .ok (.istore 6, 2)) ?_
  refine q_iinc C (by decide +kernel : decode cX11_may 186 = .ok (.iinc 7 1, 3)) (by decide) ?_
  refine q_goto C (tgt := 98) (by decide +kernel : decode cX11_may 189 = .ok (.goto (-91), 3)) (by decide) ?_
  exact hK 98 (by decide)
set_option maxRecDepth 100000 in
theorem v_X11_may_179 {p : Program} {l : Launch} {e : Env} {s : State} {m : MethodId} {args : Array Value} {below : List Frame} {meth : Method} {c : Code} {D : va_G} {A : Nat → Prop} {post : Option Value → q_S → Prop} {K : Nat → q_K} (C : q_C p s m args meth c cX11_may 8 RX11 "may" (some .int) A) (hK : ∀ h ∈ ([98] : List Nat), q_V p l e rm_X11_may s m args below meth c D A 8 (MQ below (q_Qc D A post) args s rm_X11_may.cells rm_X11_may.slots A) h (K h)) : q_V p l e rm_X11_may s m args below meth c D A 8 (MQ below (q_Qc D A post) args s rm_X11_may.cells rm_X11_may.slots A) 179 (k_X11_may_179 post K) := by
  unfold k_X11_may_179
  refine q_iconst C (by decide +kernel : decode cX11_may 179 = .ok (.iconst 1, 1)) (by decide) ?_
  refine q_goto C (tgt := 184) (by decide +kernel : decode cX11_may 180 = .ok (.goto 4, 3)) (by decide) ?_
  exact v_X11_may_184 C hK
set_option maxRecDepth 100000 in
theorem v_X11_may_183 {p : Program} {l : Launch} {e : Env} {s : State} {m : MethodId} {args : Array Value} {below : List Frame} {meth : Method} {c : Code} {D : va_G} {A : Nat → Prop} {post : Option Value → q_S → Prop} {K : Nat → q_K} (C : q_C p s m args meth c cX11_may 8 RX11 "may" (some .int) A) (hK : ∀ h ∈ ([98] : List Nat), q_V p l e rm_X11_may s m args below meth c D A 8 (MQ below (q_Qc D A post) args s rm_X11_may.cells rm_X11_may.slots A) h (K h)) : q_V p l e rm_X11_may s m args below meth c D A 8 (MQ below (q_Qc D A post) args s rm_X11_may.cells rm_X11_may.slots A) 183 (k_X11_may_183 post K) := by
  unfold k_X11_may_183
  refine q_iconst C (by decide +kernel : decode cX11_may 183 = .ok (.iconst 0, 1)) (by decide) ?_
  exact v_X11_may_184 C hK
set_option maxRecDepth 100000 in
theorem v_X11_may_202 {p : Program} {l : Launch} {e : Env} {s : State} {m : MethodId} {args : Array Value} {below : List Frame} {meth : Method} {c : Code} {D : va_G} {A : Nat → Prop} {post : Option Value → q_S → Prop} {K : Nat → q_K} (C : q_C p s m args meth c cX11_may 8 RX11 "may" (some .int) A) (hK : ∀ h ∈ ([98] : List Nat), q_V p l e rm_X11_may s m args below meth c D A 8 (MQ below (q_Qc D A post) args s rm_X11_may.cells rm_X11_may.slots A) h (K h)) : q_V p l e rm_X11_may s m args below meth c D A 8 (MQ below (q_Qc D A post) args s rm_X11_may.cells rm_X11_may.slots A) 202 (k_X11_may_202 post K) := by
  unfold k_X11_may_202
  exact q_iret C rfl (by decide +kernel : decode cX11_may 202 = .ok (.ireturn, 1))
set_option maxRecDepth 100000 in
theorem v_X11_may_98 {p : Program} {l : Launch} {e : Env} {s : State} {m : MethodId} {args : Array Value} {below : List Frame} {meth : Method} {c : Code} {D : va_G} {A : Nat → Prop} {post : Option Value → q_S → Prop} {K : Nat → q_K} (C : q_C p s m args meth c cX11_may 8 RX11 "may" (some .int) A) (hK : ∀ h ∈ ([98] : List Nat), q_V p l e rm_X11_may s m args below meth c D A 8 (MQ below (q_Qc D A post) args s rm_X11_may.cells rm_X11_may.slots A) h (K h)) : q_V p l e rm_X11_may s m args below meth c D A 8 (MQ below (q_Qc D A post) args s rm_X11_may.cells rm_X11_may.slots A) 98 (k_X11_may_98 post K) := by
  unfold k_X11_may_98
  refine q_iload C (by decide +kernel : decode cX11_may 98 = .ok (.iload 7, 2)) ?_
  refine q_aload_n C (by decide +kernel : decode cX11_may 100 = .ok (.aload_n 0, 1)) ?_
  refine q_get C (ci := 11) (j := 22) (C0 := RX11) (T := TX11) (N := 35) rfl iX11 giX11 (by decide) w9_87 (by decide +kernel : decode cX11_may 101 = .ok (.getfield 164, 3)) ?_
  refine q_icge C (tgt := 192) (by decide +kernel : decode cX11_may 104 = .ok (.if_icmp .ge 88, 3)) (by decide) ?_ ?_
  · refine q_iload C (by decide +kernel : decode cX11_may 192 = .ok (.iload 6, 2)) ?_
    refine q_ifeq C (tgt := 201) (by decide +kernel : decode cX11_may 194 = .ok (.ifCond .eq 7, 3)) (by decide) ?_ ?_
    · refine q_iconst C (by decide +kernel : decode cX11_may 201 = .ok (.iconst 0, 1)) (by decide) ?_
      exact v_X11_may_202 C hK
    · refine q_iconst C (by decide +kernel : decode cX11_may 197 = .ok (.iconst 1, 1)) (by decide) ?_
      refine q_goto C (tgt := 202) (by decide +kernel : decode cX11_may 198 = .ok (.goto 4, 3)) (by decide) ?_
      exact v_X11_may_202 C hK
  · refine q_iload C (by decide +kernel : decode cX11_may 107 = .ok (.iload 6, 2)) ?_
    refine q_ifne C (tgt := 179) (by decide +kernel : decode cX11_may 109 = .ok (.ifCond .ne 70, 3)) (by decide) ?_ ?_
    · exact v_X11_may_179 C hK
    · refine q_aload_n C (by decide +kernel : decode cX11_may 112 = .ok (.aload_n 0, 1)) ?_
      refine q_get C (ci := 11) (j := 23) (C0 := RX11) (T := TX11) (N := 35) rfl iX11 giX11 (by decide) w9_92 (by decide +kernel : decode cX11_may 113 = .ok (.getfield 62, 3)) ?_
      refine q_iload C (by decide +kernel : decode cX11_may 116 = .ok (.iload 7, 2)) ?_
      refine q_iald C (by decide +kernel : decode cX11_may 118 = .ok (.iaload, 1)) ?_
      refine q_iload_n C (by decide +kernel : decode cX11_may 119 = .ok (.iload_n 1, 1)) ?_
      refine q_icne C (tgt := 183) (by decide +kernel : decode cX11_may 120 = .ok (.if_icmp .ne 63, 3)) (by decide) ?_ ?_
      · exact v_X11_may_183 C hK
      · refine q_aload_n C (by decide +kernel : decode cX11_may 123 = .ok (.aload_n 0, 1)) ?_
        refine q_get C (ci := 11) (j := 24) (C0 := RX11) (T := TX11) (N := 35) rfl iX11 giX11 (by decide) w9_93 (by decide +kernel : decode cX11_may 124 = .ok (.getfield 65, 3)) ?_
        refine q_iload C (by decide +kernel : decode cX11_may 127 = .ok (.iload 7, 2)) ?_
        refine q_iald C (by decide +kernel : decode cX11_may 129 = .ok (.iaload, 1)) ?_
        refine q_iload_n C (by decide +kernel : decode cX11_may 130 = .ok (.iload_n 2, 1)) ?_
        refine q_icne C (tgt := 183) (by decide +kernel : decode cX11_may 131 = .ok (.if_icmp .ne 52, 3)) (by decide) ?_ ?_
        · exact v_X11_may_183 C hK
        · refine q_aload_n C (by decide +kernel : decode cX11_may 134 = .ok (.aload_n 0, 1)) ?_
          refine q_get C (ci := 11) (j := 25) (C0 := RX11) (T := TX11) (N := 35) rfl iX11 giX11 (by decide) w9_94 (by decide +kernel : decode cX11_may 135 = .ok (.getfield 68, 3)) ?_
          refine q_iload C (by decide +kernel : decode cX11_may 138 = .ok (.iload 7, 2)) ?_
          refine q_iald C (by decide +kernel : decode cX11_may 140 = .ok (.iaload, 1)) ?_
          refine q_iload_n C (by decide +kernel : decode cX11_may 141 = .ok (.iload_n 3, 1)) ?_
          refine q_icne C (tgt := 183) (by decide +kernel : decode cX11_may 142 = .ok (.if_icmp .ne 41, 3)) (by decide) ?_ ?_
          · exact v_X11_may_183 C hK
          · refine q_aload_n C (by decide +kernel : decode cX11_may 145 = .ok (.aload_n 0, 1)) ?_
            refine q_get C (ci := 11) (j := 28) (C0 := RX11) (T := TX11) (N := 35) rfl iX11 giX11 (by decide) w9_97 (by decide +kernel : decode cX11_may 146 = .ok (.getfield 77, 3)) ?_
            refine q_iload C (by decide +kernel : decode cX11_may 149 = .ok (.iload 7, 2)) ?_
            refine q_iald C (by decide +kernel : decode cX11_may 151 = .ok (.iaload, 1)) ?_
            refine q_iload C (by decide +kernel : decode cX11_may 152 = .ok (.iload 4, 2)) ?_
            refine q_icgt C (tgt := 183) (by decide +kernel : decode cX11_may 154 = .ok (.if_icmp .gt 29, 3)) (by decide) ?_ ?_
            · exact v_X11_may_183 C hK
            · refine q_iload C (by decide +kernel : decode cX11_may 157 = .ok (.iload 4, 2)) ?_
              refine q_aload_n C (by decide +kernel : decode cX11_may 159 = .ok (.aload_n 0, 1)) ?_
              refine q_get C (ci := 11) (j := 26) (C0 := RX11) (T := TX11) (N := 35) rfl iX11 giX11 (by decide) w9_95 (by decide +kernel : decode cX11_may 160 = .ok (.getfield 71, 3)) ?_
              refine q_iload C (by decide +kernel : decode cX11_may 163 = .ok (.iload 7, 2)) ?_
              refine q_iald C (by decide +kernel : decode cX11_may 165 = .ok (.iaload, 1)) ?_
              refine q_aload_n C (by decide +kernel : decode cX11_may 166 = .ok (.aload_n 0, 1)) ?_
              refine q_get C (ci := 11) (j := 27) (C0 := RX11) (T := TX11) (N := 35) rfl iX11 giX11 (by decide) w9_96 (by decide +kernel : decode cX11_may 167 = .ok (.getfield 74, 3)) ?_
              refine q_iload C (by decide +kernel : decode cX11_may 170 = .ok (.iload 7, 2)) ?_
              refine q_iald C (by decide +kernel : decode cX11_may 172 = .ok (.iaload, 1)) ?_
              refine q_call3 C (q_coS C (np := 3) (t_X11_in l) w9_5 w9_8 w9_7 w9_6 (by decide +kernel) (by decide +kernel : decode cX11_may 173 = .ok (.invokestatic 92, 3)) (by decide)) ?_
              refine q_ifeq C (tgt := 183) (by decide +kernel : decode cX11_may 176 = .ok (.ifCond .eq 7, 3)) (by decide) ?_ ?_
              · exact v_X11_may_183 C hK
              · exact v_X11_may_179 C hK
theorem u_X11_may (l : Launch) {sp : q_Sp} (H : ∀ (av : List Value) (σ : q_S) (post : Option Value → q_S → Prop), sp av σ post → ∃ Inv : Nat → Nat → q_K, (∀ K : Nat → q_K, (∀ (h n : Nat) (L : List (Option Value)) (st : List Value) (σ : q_S) (cr sr : Nat), Inv h n L st σ cr sr → K h L st σ cr sr) → k_X11_may_0 post K (q_L0 av 8) [] σ 0 0) ∧ (∀ (K : Nat → q_K) (n : Nat), (∀ (h m : Nat) (L : List (Option Value)) (st : List Value) (σ : q_S) (cr sr : Nat), m < n → Inv h m L st σ cr sr → K h L st σ cr sr) → ∀ (L : List (Option Value)) (st : List Value) (σ : q_S) (cr sr : Nat), Inv 98 n L st σ cr sr → k_X11_may_98 post K L st σ cr sr) ∧ av.length ≤ 8 ∧ ∀ v ∈ av, v.category = 1) : q_Ct l yX11_may cX11_may 8 (some .int) rm_X11_may sp := by
  refine q_met (by decide) ?_
  intro D A p e s m args below meth c σ av post C hsp
  obtain ⟨Inv, h1, hh98, h2, h3⟩ := H av σ post hsp
  have hV := q_loops (p := p) (l := l) (e := e) (R := rm_X11_may) (s := s) (m := m) (args := args) (below := below) (meth := meth) (c := c) (D := D) (A := A) (nL := 8) (Q := MQ below (q_Qc D A post) args s rm_X11_may.cells rm_X11_may.slots A) [98] (fun h =>  k_X11_may_98 post) (fun K hK h hh => ?_) Inv (fun n h hh => ?_)
  · exact ⟨_, v_X11_may_0 C hV, h1 _ (fun h n L st σ cr sr hi => ⟨n, hi⟩), h2, h3⟩
  · have e9 : h = 98 := by simpa using hh
    subst e9
    exact v_X11_may_98 C hK
  · have e9 : h = 98 := by simpa using hh
    subst e9
    exact hh98 (fun h L st σ cr sr => ∃ m : Nat, m < n ∧ Inv h m L st σ cr sr) n (fun h m L st σ cr sr hm hi => ⟨m, hm, hi⟩)
theorem t_X11_may (l : Launch) : q_Ct l yX11_may cX11_may 8 (some .int) rm_X11_may s_X11_may := u_X11_may l (by
  intro av σ post h
  unfold s_X11_may at h
  split at h
  · next mr w u p t k =>
    obtain ⟨ad, z, g, ⟨gp, r, hm⟩, hI, hA, h1⟩ := h
    unfold I1 at hI
    have ez := nI_self hI.2.2.2.2.2.1.1
    unfold F_may at h1
    generalize hna : (z 22).toNatClampNeg = na at h1 ez
    have hna6 : na ≤ 40 := hna ▸ clamp_le 40 hI.2.2.2.2.2.1.1 hI.2.2.2.2.2.1.2
    refine ⟨fun _ n L st σ' cr sr => ∃ (i : Nat) (gp' : Int32), mayC z g w u p t k ∧ i ≤ na ∧ n = na - i ∧ mOKx σ' mr ad z g gp' r ∧ st = [] ∧ L = [some (.ref mr), some (.int w), some (.int u), some (.int p), some (.int t), some (.int k), some (.int (mayB z g w u p t k i)), some (.int (nI i))], ?_, ?_, by simp, by simp [Value.category]⟩
    · intro K hK
      have JB : ¬ mayC z g w u p t k → post (some (.int (-2))) σ := fun c => by
        rw [if_neg c] at h1
        exact h1 _ ⟨gp, r, hm⟩
      have J93 : mayC z g w u p t k → ∀ (b : Int32) (σ' : q_S) (gp' : Int32), mOKx σ' mr ad z g gp' r → b = (if mayB0 z g w p t k then 1 else 0) → k_X11_may_93 post K [some (.ref mr), some (.int w), some (.int u), some (.int p), some (.int t), some (.int k), none, none] [.int b] σ' 0 0 := fun c b σ' gp' hm' hb => by
        simp only [c_push, c_null, c_iload, c_aload, c_istore, c_astore, c_iinc, c_iadd, c_isub, c_imul, c_iand, c_ineg, c_dup, c_dup2, c_pop, c_ifnull, c_ifnonnull, c_get, c_put, c_iald, c_zald, c_iast, c_zast, c_aald, c_aast, c_alen, c_new, c_newa, c_newq, c_mna, c_oinit, c_max, c_copy, c_iret, c_zret, c_aret, c_vret, q_do, q_rc, c_ifeq, c_ifne, c_iflt, c_ifge, c_ifgt, c_ifle, c_iceq, c_icne, c_iclt, c_icge, c_icgt, c_icle, c_call0, c_call1, c_call2, c_call3, c_call4, c_call5, c_call6, c_call7, q_L0, List.map_cons, List.map_nil, List.replicate, List.cons_append, List.nil_append, List.append_nil, List.length_cons, List.length_nil, List.length_set, Nat.reduceSub, Nat.reduceAdd, Nat.reduceLT, Nat.reduceLeDiff, Nat.zero_add, Nat.add_zero, Nat.sub_zero, Nat.sub_self, List.getElem?_cons_zero, List.getElem?_cons_succ, List.set_cons_zero, List.set_cons_succ, Option.toList_some, Option.toList_none, List.sum_cons, List.sum_nil, true_and, and_true, true_or, or_true, Nat.le_refl, Nat.zero_le, Value.category, Fin.isValue, Fin.val_zero, Fin.val_one, Fin.val_two, Fin.reduceFinMk, q_10, q_01, not_false_eq_true, not_true_eq_false, forall_const, true_implies, false_implies, implies_true, q_ni, q_fi, q_nb0, q_nb1, q_fb0, q_fb1, q_nor, q_nar, q_for, q_far, q_non, q_nan, q_fon, q_fan, imp_false, false_and, and_false, and_self, false_or, or_false, va_rf, refKind, k_X11_may_93]
        exact hK _ na _ _ _ _ _ ⟨0, gp', c, Nat.zero_le _, rfl, hm', rfl, by rw [hb, mayB, licB]; simp; rfl⟩
      have J63 : mayC z g w u p t k → k_X11_may_63 post K [some (.ref mr), some (.int w), some (.int u), some (.int p), some (.int t), some (.int k), none, none] [] σ 0 0 := fun c => by
        have cw : 0 ≤ w ∧ w < 20 := ⟨c.1.1, by grind⟩
        simp only [c_push, c_null, c_iload, c_aload, c_istore, c_astore, c_iinc, c_iadd, c_isub, c_imul, c_iand, c_ineg, c_dup, c_dup2, c_pop, c_ifnull, c_ifnonnull, c_get, c_put, c_iald, c_zald, c_iast, c_zast, c_aald, c_aast, c_alen, c_new, c_newa, c_newq, c_mna, c_oinit, c_max, c_copy, c_iret, c_zret, c_aret, c_vret, q_do, q_rc, c_ifeq, c_ifne, c_iflt, c_ifge, c_ifgt, c_ifle, c_iceq, c_icne, c_iclt, c_icge, c_icgt, c_icle, c_call0, c_call1, c_call2, c_call3, c_call4, c_call5, c_call6, c_call7, q_L0, List.map_cons, List.map_nil, List.replicate, List.cons_append, List.nil_append, List.append_nil, List.length_cons, List.length_nil, List.length_set, Nat.reduceSub, Nat.reduceAdd, Nat.reduceLT, Nat.reduceLeDiff, Nat.zero_add, Nat.add_zero, Nat.sub_zero, Nat.sub_self, List.getElem?_cons_zero, List.getElem?_cons_succ, List.set_cons_zero, List.set_cons_succ, Option.toList_some, Option.toList_none, List.sum_cons, List.sum_nil, true_and, and_true, true_or, or_true, Nat.le_refl, Nat.zero_le, Value.category, Fin.isValue, Fin.val_zero, Fin.val_one, Fin.val_two, Fin.reduceFinMk, q_10, q_01, not_false_eq_true, not_true_eq_false, forall_const, true_implies, false_implies, implies_true, q_ni, q_fi, q_nb0, q_nb1, q_fb0, q_fb1, q_nor, q_nar, q_for, q_far, q_non, q_nan, q_fon, q_fan, imp_false, false_and, and_false, and_self, false_or, or_false, va_rf, refKind, k_X11_may_63, k_X11_may_88, hm.rd]
        refine ⟨ad, z, g, gp, r, hm, cw, hI.2.2.1, hA.at c.1.1 c.1.2 cw.2, fun σ' gp' hm' => ⟨fun c6 => ?_, fun c6 => ?_⟩⟩
        · simp only [c_push, c_null, c_iload, c_aload, c_istore, c_astore, c_iinc, c_iadd, c_isub, c_imul, c_iand, c_ineg, c_dup, c_dup2, c_pop, c_ifnull, c_ifnonnull, c_get, c_put, c_iald, c_zald, c_iast, c_zast, c_aald, c_aast, c_alen, c_new, c_newa, c_newq, c_mna, c_oinit, c_max, c_copy, c_iret, c_zret, c_aret, c_vret, q_do, q_rc, c_ifeq, c_ifne, c_iflt, c_ifge, c_ifgt, c_ifle, c_iceq, c_icne, c_iclt, c_icge, c_icgt, c_icle, c_call0, c_call1, c_call2, c_call3, c_call4, c_call5, c_call6, c_call7, q_L0, List.map_cons, List.map_nil, List.replicate, List.cons_append, List.nil_append, List.append_nil, List.length_cons, List.length_nil, List.length_set, Nat.reduceSub, Nat.reduceAdd, Nat.reduceLT, Nat.reduceLeDiff, Nat.zero_add, Nat.add_zero, Nat.sub_zero, Nat.sub_self, List.getElem?_cons_zero, List.getElem?_cons_succ, List.set_cons_zero, List.set_cons_succ, Option.toList_some, Option.toList_none, List.sum_cons, List.sum_nil, true_and, and_true, true_or, or_true, Nat.le_refl, Nat.zero_le, Value.category, Fin.isValue, Fin.val_zero, Fin.val_one, Fin.val_two, Fin.reduceFinMk, q_10, q_01, not_false_eq_true, not_true_eq_false, forall_const, true_implies, false_implies, implies_true, q_ni, q_fi, q_nb0, q_nb1, q_fb0, q_fb1, q_nor, q_nar, q_for, q_far, q_non, q_nan, q_fon, q_fan, imp_false, false_and, and_false, and_self, false_or, or_false, va_rf, refKind, hm'.rd]
          refine ⟨ad, z, g, gp', r, hm', cw, hI.2.2.2.2.1, ?_⟩
          simp only [c_push, c_null, c_iload, c_aload, c_istore, c_astore, c_iinc, c_iadd, c_isub, c_imul, c_iand, c_ineg, c_dup, c_dup2, c_pop, c_ifnull, c_ifnonnull, c_get, c_put, c_iald, c_zald, c_iast, c_zast, c_aald, c_aast, c_alen, c_new, c_newa, c_newq, c_mna, c_oinit, c_max, c_copy, c_iret, c_zret, c_aret, c_vret, q_do, q_rc, c_ifeq, c_ifne, c_iflt, c_ifge, c_ifgt, c_ifle, c_iceq, c_icne, c_iclt, c_icge, c_icgt, c_icle, c_call0, c_call1, c_call2, c_call3, c_call4, c_call5, c_call6, c_call7, q_L0, List.map_cons, List.map_nil, List.replicate, List.cons_append, List.nil_append, List.append_nil, List.length_cons, List.length_nil, List.length_set, Nat.reduceSub, Nat.reduceAdd, Nat.reduceLT, Nat.reduceLeDiff, Nat.zero_add, Nat.add_zero, Nat.sub_zero, Nat.sub_self, List.getElem?_cons_zero, List.getElem?_cons_succ, List.set_cons_zero, List.set_cons_succ, Option.toList_some, Option.toList_none, List.sum_cons, List.sum_nil, true_and, and_true, true_or, or_true, Nat.le_refl, Nat.zero_le, Value.category, Fin.isValue, Fin.val_zero, Fin.val_one, Fin.val_two, Fin.reduceFinMk, q_10, q_01, not_false_eq_true, not_true_eq_false, forall_const, true_implies, false_implies, implies_true, q_ni, q_fi, q_nb0, q_nb1, q_fb0, q_fb1, q_nor, q_nar, q_for, q_far, q_non, q_nan, q_fon, q_fan, imp_false, false_and, and_false, and_self, false_or, or_false, va_rf, refKind]
          refine ⟨fun c7 => J93 c 0 _ _ hm' ?_, fun c7 => J93 c 1 _ _ hm' ?_⟩
          · rw [if_neg]; unfold mayB0 mvF; grind
          · rw [if_pos]; unfold mayB0 mvF; grind
        · simp only [c_push, c_null, c_iload, c_aload, c_istore, c_astore, c_iinc, c_iadd, c_isub, c_imul, c_iand, c_ineg, c_dup, c_dup2, c_pop, c_ifnull, c_ifnonnull, c_get, c_put, c_iald, c_zald, c_iast, c_zast, c_aald, c_aast, c_alen, c_new, c_newa, c_newq, c_mna, c_oinit, c_max, c_copy, c_iret, c_zret, c_aret, c_vret, q_do, q_rc, c_ifeq, c_ifne, c_iflt, c_ifge, c_ifgt, c_ifle, c_iceq, c_icne, c_iclt, c_icge, c_icgt, c_icle, c_call0, c_call1, c_call2, c_call3, c_call4, c_call5, c_call6, c_call7, q_L0, List.map_cons, List.map_nil, List.replicate, List.cons_append, List.nil_append, List.append_nil, List.length_cons, List.length_nil, List.length_set, Nat.reduceSub, Nat.reduceAdd, Nat.reduceLT, Nat.reduceLeDiff, Nat.zero_add, Nat.add_zero, Nat.sub_zero, Nat.sub_self, List.getElem?_cons_zero, List.getElem?_cons_succ, List.set_cons_zero, List.set_cons_succ, Option.toList_some, Option.toList_none, List.sum_cons, List.sum_nil, true_and, and_true, true_or, or_true, Nat.le_refl, Nat.zero_le, Value.category, Fin.isValue, Fin.val_zero, Fin.val_one, Fin.val_two, Fin.reduceFinMk, q_10, q_01, not_false_eq_true, not_true_eq_false, forall_const, true_implies, false_implies, implies_true, q_ni, q_fi, q_nb0, q_nb1, q_fb0, q_fb1, q_nor, q_nar, q_for, q_far, q_non, q_nan, q_fon, q_fan, imp_false, false_and, and_false, and_self, false_or, or_false, va_rf, refKind]
          exact J93 c 1 _ _ hm' (by rw [if_pos (Or.inl c6)])
      clear h1
      simp only [c_push, c_null, c_iload, c_aload, c_istore, c_astore, c_iinc, c_iadd, c_isub, c_imul, c_iand, c_ineg, c_dup, c_dup2, c_pop, c_ifnull, c_ifnonnull, c_get, c_put, c_iald, c_zald, c_iast, c_zast, c_aald, c_aast, c_alen, c_new, c_newa, c_newq, c_mna, c_oinit, c_max, c_copy, c_iret, c_zret, c_aret, c_vret, q_do, q_rc, c_ifeq, c_ifne, c_iflt, c_ifge, c_ifgt, c_ifle, c_iceq, c_icne, c_iclt, c_icge, c_icgt, c_icle, c_call0, c_call1, c_call2, c_call3, c_call4, c_call5, c_call6, c_call7, q_L0, List.map_cons, List.map_nil, List.replicate, List.cons_append, List.nil_append, List.append_nil, List.length_cons, List.length_nil, List.length_set, Nat.reduceSub, Nat.reduceAdd, Nat.reduceLT, Nat.reduceLeDiff, Nat.zero_add, Nat.add_zero, Nat.sub_zero, Nat.sub_self, List.getElem?_cons_zero, List.getElem?_cons_succ, List.set_cons_zero, List.set_cons_succ, Option.toList_some, Option.toList_none, List.sum_cons, List.sum_nil, true_and, and_true, true_or, or_true, Nat.le_refl, Nat.zero_le, Value.category, Fin.isValue, Fin.val_zero, Fin.val_one, Fin.val_two, Fin.reduceFinMk, q_10, q_01, not_false_eq_true, not_true_eq_false, forall_const, true_implies, false_implies, implies_true, q_ni, q_fi, q_nb0, q_nb1, q_fb0, q_fb1, q_nor, q_nar, q_for, q_far, q_non, q_nan, q_fon, q_fan, imp_false, false_and, and_false, and_self, false_or, or_false, va_rf, refKind, k_X11_may_0, k_X11_may_60, hm.rd, s_X11_isWork, s_X11_isPerson, s_X11_in, s_X10_isWithin, vpi20]
      refine ⟨hI.2.2.2.1, fun c1 => ⟨fun c2 => ⟨hI.2.1, fun c3 => ⟨⟨c1.1, by grind⟩, fun c4 => ⟨⟨c1.1, by grind⟩, fun c5 => ?_, fun c => JB (by grind)⟩, fun c => JB (by grind)⟩, fun c => JB (by grind)⟩, fun c => JB (by grind)⟩, fun c => JB (by grind)⟩
      exact J63 ⟨c1, c2, c3, c4, c5⟩
    · rintro K n hK L st σ' cr sr ⟨i, gp', hc, hi, rfl, hm', rfl, rfl⟩
      rw [if_pos hc] at h1
      have hb01 := mayB01 z g w u p t k i
      have J184 : i < na → ∀ b : Int32, b = mayB z g w u p t k (i + 1) → k_X11_may_184 post K [some (.ref mr), some (.int w), some (.int u), some (.int p), some (.int t), some (.int k), some (.int (mayB z g w u p t k i)), some (.int (nI i))] [.int b] σ' cr sr := fun hlt b hb => by
        simp only [c_push, c_null, c_iload, c_aload, c_istore, c_astore, c_iinc, c_iadd, c_isub, c_imul, c_iand, c_ineg, c_dup, c_dup2, c_pop, c_ifnull, c_ifnonnull, c_get, c_put, c_iald, c_zald, c_iast, c_zast, c_aald, c_aast, c_alen, c_new, c_newa, c_newq, c_mna, c_oinit, c_max, c_copy, c_iret, c_zret, c_aret, c_vret, q_do, q_rc, c_ifeq, c_ifne, c_iflt, c_ifge, c_ifgt, c_ifle, c_iceq, c_icne, c_iclt, c_icge, c_icgt, c_icle, c_call0, c_call1, c_call2, c_call3, c_call4, c_call5, c_call6, c_call7, q_L0, List.map_cons, List.map_nil, List.replicate, List.cons_append, List.nil_append, List.append_nil, List.length_cons, List.length_nil, List.length_set, Nat.reduceSub, Nat.reduceAdd, Nat.reduceLT, Nat.reduceLeDiff, Nat.zero_add, Nat.add_zero, Nat.sub_zero, Nat.sub_self, List.getElem?_cons_zero, List.getElem?_cons_succ, List.set_cons_zero, List.set_cons_succ, Option.toList_some, Option.toList_none, List.sum_cons, List.sum_nil, true_and, and_true, true_or, or_true, Nat.le_refl, Nat.zero_le, Value.category, Fin.isValue, Fin.val_zero, Fin.val_one, Fin.val_two, Fin.reduceFinMk, q_10, q_01, not_false_eq_true, not_true_eq_false, forall_const, true_implies, false_implies, implies_true, q_ni, q_fi, q_nb0, q_nb1, q_fb0, q_fb1, q_nor, q_nar, q_for, q_far, q_non, q_nan, q_fon, q_fan, imp_false, false_and, and_false, and_self, false_or, or_false, va_rf, refKind, k_X11_may_184]
        exact hK _ (na - (i + 1)) _ _ _ _ _ (by omega) ⟨i + 1, gp', hc, by omega, rfl, hm', rfl, by rw [nI_1, hb]⟩
      rw [mayB_s] at J184
      simp only [c_push, c_null, c_iload, c_aload, c_istore, c_astore, c_iinc, c_iadd, c_isub, c_imul, c_iand, c_ineg, c_dup, c_dup2, c_pop, c_ifnull, c_ifnonnull, c_get, c_put, c_iald, c_zald, c_iast, c_zast, c_aald, c_aast, c_alen, c_new, c_newa, c_newq, c_mna, c_oinit, c_max, c_copy, c_iret, c_zret, c_aret, c_vret, q_do, q_rc, c_ifeq, c_ifne, c_iflt, c_ifge, c_ifgt, c_ifle, c_iceq, c_icne, c_iclt, c_icge, c_icgt, c_icle, c_call0, c_call1, c_call2, c_call3, c_call4, c_call5, c_call6, c_call7, q_L0, List.map_cons, List.map_nil, List.replicate, List.cons_append, List.nil_append, List.append_nil, List.length_cons, List.length_nil, List.length_set, Nat.reduceSub, Nat.reduceAdd, Nat.reduceLT, Nat.reduceLeDiff, Nat.zero_add, Nat.add_zero, Nat.sub_zero, Nat.sub_self, List.getElem?_cons_zero, List.getElem?_cons_succ, List.set_cons_zero, List.set_cons_succ, Option.toList_some, Option.toList_none, List.sum_cons, List.sum_nil, true_and, and_true, true_or, or_true, Nat.le_refl, Nat.zero_le, Value.category, Fin.isValue, Fin.val_zero, Fin.val_one, Fin.val_two, Fin.reduceFinMk, q_10, q_01, not_false_eq_true, not_true_eq_false, forall_const, true_implies, false_implies, implies_true, q_ni, q_fi, q_nb0, q_nb1, q_fb0, q_fb1, q_nor, q_nar, q_for, q_far, q_non, q_nan, q_fon, q_fan, imp_false, false_and, and_false, and_self, false_or, or_false, va_rf, refKind, k_X11_may_98, k_X11_may_179, k_X11_may_183, k_X11_may_202, hm'.rd, vpi40, s_X11_in, s_X10_isWithin]
      rw [← ez]
      have E := cl2 (nI na) (nI i) na i rfl rfl (by omega) (by omega)
      rw [E.1, clN (by omega)]
      refine ⟨fun c => ?_, fun c => ?_⟩
      · have e : i = na := by omega
        subst e
        have h2 := h1 _ ⟨gp', r, hm'⟩
        clear hK h1 hm hm' J184
        grind
      · replace J184 := J184 (by omega)
        have hlo : 0 ≤ nI i := nI_low (by omega)
        have hhi : nI i < 40 := nI_ltN (N := 40) (by omega)
        clear hK h1 hm hm' E
        grind (splits := 40)
  · exact h.elim)
