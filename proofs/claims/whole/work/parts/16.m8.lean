-- lines: the longest row in both
def likB (g : Nat → Nat → Int32) (a b i j : Nat) : Bool := decide (g 30 (20 * a + i) = g 30 (20 * b + j) ∧ g 32 (g 30 (20 * a + i)).toNatClampNeg = 0)
def RN (lk : Nat → Nat → Bool) (la lb i j : Nat) : Nat :=
  if h : i < la ∧ j < lb then (if lk i j then max (max (RN lk la lb (i + 1) j) (RN lk la lb i (j + 1))) (1 + RN lk la lb (i + 1) (j + 1)) else max (RN lk la lb (i + 1) j) (RN lk la lb i (j + 1))) else 0
termination_by (la - i) + (lb - j)
decreasing_by all_goals omega
theorem RN_out {lk : Nat → Nat → Bool} {la lb i j : Nat} (h : ¬ (i < la ∧ j < lb)) : RN lk la lb i j = 0 := by rw [RN, dif_neg h]
theorem RN_in {lk : Nat → Nat → Bool} {la lb i j : Nat} (h : i < la ∧ j < lb) : RN lk la lb i j = if lk i j then max (max (RN lk la lb (i + 1) j) (RN lk la lb i (j + 1))) (1 + RN lk la lb (i + 1) (j + 1)) else max (RN lk la lb (i + 1) j) (RN lk la lb i (j + 1)) := by rw [RN, dif_pos h]
theorem RN_le (lk : Nat → Nat → Bool) (la lb : Nat) : ∀ (m i j : Nat), (la - i) + (lb - j) ≤ m → RN lk la lb i j ≤ la - i := by
  intro m
  induction m with
  | zero =>
    intro i j h
    rw [RN_out (by omega)]; omega
  | succ m ih =>
    intro i j h
    by_cases c : i < la ∧ j < lb
    · rw [RN_in c]
      have h1 := ih (i + 1) j (by omega)
      have h2 := ih i (j + 1) (by omega)
      have h3 := ih (i + 1) (j + 1) (by omega)
      split <;> omega
    · rw [RN_out c]; omega
theorem mxN {a b : Nat} (ha : a < 2147483648) (hb : b < 2147483648) : (if nI b < nI a then nI a else nI b) = nI (max a b) := by
  have E := cl2 (nI b) (nI a) b a rfl rfl hb ha
  by_cases c : b < a
  · rw [if_pos (E.2.1.mpr c), Nat.max_eq_left (by omega)]
  · rw [if_neg (fun h => c (E.2.1.mp h)), Nat.max_eq_right (by omega)]
abbrev lmN (g : Nat → Nat → Int32) (w : Nat) : Nat := (g 29 w).toNatClampNeg
abbrev RNg (g : Nat → Nat → Int32) (a b i j : Nat) : Nat := RN (likB g a b) (lmN g a) (lmN g b) i j
def LV (z : Nat → Int32) (g : Nat → Nat → Int32) : Prop := ∀ w i : Nat, nI w < z 11 → w < 20 → i < lmN g w → 1 ≤ g 30 (20 * w + i) ∧ g 30 (20 * w + i) ≤ 999
def s_X11_areLike : q_Sp := fun av σ post => match av with
  | [.ref mr, .int a, .int i, .int b, .int j] => ∃ ad z g gp r, mOKx σ mr ad z g gp r ∧ (0 ≤ a ∧ a < 20) ∧ (0 ≤ b ∧ b < 20) ∧ (0 ≤ i ∧ i < 20) ∧ (0 ≤ j ∧ j < 20) ∧ (0 ≤ g 30 (20 * a.toNatClampNeg + i.toNatClampNeg) ∧ g 30 (20 * a.toNatClampNeg + i.toNatClampNeg) ≤ 999) ∧ (likB g a.toNatClampNeg b.toNatClampNeg i.toNatClampNeg j.toNatClampNeg = true → post (some (.int 1)) σ) ∧ (likB g a.toNatClampNeg b.toNatClampNeg i.toNatClampNeg j.toNatClampNeg = false → post (some (.int 0)) σ)
  | _ => False
theorem at30 {a i : Int32} (ha : 0 ≤ a ∧ a < 20) (hi : 0 ≤ i ∧ i < 20) : (0 ≤ 20 * a + i ∧ 20 * a + i < 400) ∧ (20 * a + i).toNatClampNeg = 20 * a.toNatClampNeg + i.toNatClampNeg := by
  obtain ⟨an, han, rfl, e1⟩ := inR 20 ha.1 ha.2
  obtain ⟨jn, hin, rfl, e2⟩ := inR 20 hi.1 hi.2
  rw [idx30, e1, e2]
  exact ⟨⟨nI_low (by omega), nI_ltN (N := 400) (by omega)⟩, clN (by omega)⟩
def rm_X11_areLike : Room := { frames := 0, cells := 0, slots := 0, locals := 0 }
def k_X11_areLike_45 (post : Option Value → q_S → Prop) (K : Nat → q_K) : q_K := (c_zret post)
def k_X11_areLike_44 (post : Option Value → q_S → Prop) (K : Nat → q_K) : q_K := (c_push 0 (k_X11_areLike_45 post K))
def k_X11_areLike_0 (post : Option Value → q_S → Prop) (K : Nat → q_K) : q_K := (c_aload 0 (c_get 11 30 (c_push 20 (c_iload 1 (c_imul (c_iload 2 (c_iadd (c_iald (c_istore 5 (c_iload 5 (c_aload 0 (c_get 11 30 (c_push 20 (c_iload 3 (c_imul (c_iload 4 (c_iadd (c_iald (c_icne (k_X11_areLike_44 post K) (c_aload 0 (c_get 11 32 (c_iload 5 (c_zald (c_ifne (k_X11_areLike_44 post K) (c_push 1 (k_X11_areLike_45 post K))))))))))))))))))))))))))
set_option maxRecDepth 100000 in
theorem v_X11_areLike_45 {p : Program} {l : Launch} {e : Env} {s : State} {m : MethodId} {args : Array Value} {below : List Frame} {meth : Method} {c : Code} {D : va_G} {A : Nat → Prop} {post : Option Value → q_S → Prop} {K : Nat → q_K} (C : q_C p s m args meth c cX11_areLike 6 RX11 "areLike" (some .boolean) A) (hK : ∀ h ∈ ([] : List Nat), q_V p l e rm_X11_areLike s m args below meth c D A 6 (MQ below (q_Qc D A post) args s rm_X11_areLike.cells rm_X11_areLike.slots A) h (K h)) : q_V p l e rm_X11_areLike s m args below meth c D A 6 (MQ below (q_Qc D A post) args s rm_X11_areLike.cells rm_X11_areLike.slots A) 45 (k_X11_areLike_45 post K) := by
  unfold k_X11_areLike_45
  exact q_zret C rfl (by decide +kernel : decode cX11_areLike 45 = .ok (.ireturn, 1))
set_option maxRecDepth 100000 in
theorem v_X11_areLike_44 {p : Program} {l : Launch} {e : Env} {s : State} {m : MethodId} {args : Array Value} {below : List Frame} {meth : Method} {c : Code} {D : va_G} {A : Nat → Prop} {post : Option Value → q_S → Prop} {K : Nat → q_K} (C : q_C p s m args meth c cX11_areLike 6 RX11 "areLike" (some .boolean) A) (hK : ∀ h ∈ ([] : List Nat), q_V p l e rm_X11_areLike s m args below meth c D A 6 (MQ below (q_Qc D A post) args s rm_X11_areLike.cells rm_X11_areLike.slots A) h (K h)) : q_V p l e rm_X11_areLike s m args below meth c D A 6 (MQ below (q_Qc D A post) args s rm_X11_areLike.cells rm_X11_areLike.slots A) 44 (k_X11_areLike_44 post K) := by
  unfold k_X11_areLike_44
  refine q_iconst C (by decide +kernel : decode cX11_areLike 44 = .ok (.iconst 0, 1)) (by decide) ?_
  exact v_X11_areLike_45 C hK
set_option maxRecDepth 100000 in
theorem v_X11_areLike_0 {p : Program} {l : Launch} {e : Env} {s : State} {m : MethodId} {args : Array Value} {below : List Frame} {meth : Method} {c : Code} {D : va_G} {A : Nat → Prop} {post : Option Value → q_S → Prop} {K : Nat → q_K} (C : q_C p s m args meth c cX11_areLike 6 RX11 "areLike" (some .boolean) A) (hK : ∀ h ∈ ([] : List Nat), q_V p l e rm_X11_areLike s m args below meth c D A 6 (MQ below (q_Qc D A post) args s rm_X11_areLike.cells rm_X11_areLike.slots A) h (K h)) : q_V p l e rm_X11_areLike s m args below meth c D A 6 (MQ below (q_Qc D A post) args s rm_X11_areLike.cells rm_X11_areLike.slots A) 0 (k_X11_areLike_0 post K) := by
  unfold k_X11_areLike_0
  refine q_aload_n C (by decide +kernel : decode cX11_areLike 0 = .ok (.aload_n 0, 1)) ?_
  refine q_get C (ci := 11) (j := 30) (C0 := RX11) (T := TX11) (N := 35) rfl iX11 giX11 (by decide) w9_84 (by decide +kernel : decode cX11_areLike 1 = .ok (.getfield 83, 3)) ?_
  refine q_bipush C (by decide +kernel : decode cX11_areLike 4 = .ok (.bipush 20, 2)) (by decide) ?_
  refine q_iload_n C (by decide +kernel : decode cX11_areLike 6 = .ok (.iload_n 1, 1)) ?_
  refine q_imul C (by decide +kernel : decode cX11_areLike 7 = .ok (.imul, 1)) ?_
  refine q_iload_n C (by decide +kernel : decode cX11_areLike 8 = .ok (.iload_n 2, 1)) ?_
  refine q_iadd C (by decide +kernel : decode cX11_areLike 9 = .ok (.iadd, 1)) ?_
  refine q_iald C (by decide +kernel : decode cX11_areLike 10 = .ok (.iaload, 1)) ?_
  refine q_istore C (by decide +kernel : decode cX11_areLike 11 = .ok (.istore 5, 2)) ?_
  refine q_iload C (by decide +kernel : decode cX11_areLike 13 = .ok (.iload 5, 2)) ?_
  refine q_aload_n C (by decide +kernel : decode cX11_areLike 15 = .ok (.aload_n 0, 1)) ?_
  refine q_get C (ci := 11) (j := 30) (C0 := RX11) (T := TX11) (N := 35) rfl iX11 giX11 (by decide) w9_84 (by decide +kernel : decode cX11_areLike 16 = .ok (.getfield 83, 3)) ?_
  refine q_bipush C (by decide +kernel : decode cX11_areLike 19 = .ok (.bipush 20, 2)) (by decide) ?_
  refine q_iload_n C (by decide +kernel : decode cX11_areLike 21 = .ok (.iload_n 3, 1)) ?_
  refine q_imul C (by decide +kernel : decode cX11_areLike 22 = .ok (.imul, 1)) ?_
  refine q_iload C (by decide +kernel : decode cX11_areLike 23 = .ok (.iload 4, 2)) ?_
  refine q_iadd C (by decide +kernel : decode cX11_areLike 25 = .ok (.iadd, 1)) ?_
  refine q_iald C (by decide +kernel : decode cX11_areLike 26 = .ok (.iaload, 1)) ?_
  refine q_icne C (tgt := 44) (by decide +kernel : decode cX11_areLike 27 = .ok (.if_icmp .ne 17, 3)) (by decide) ?_ ?_
  · exact v_X11_areLike_44 C hK
  · refine q_aload_n C (by decide +kernel : decode cX11_areLike 30 = .ok (.aload_n 0, 1)) ?_
    refine q_get C (ci := 11) (j := 32) (C0 := RX11) (T := TX11) (N := 35) rfl iX11 giX11 (by decide) w9_85 (by decide +kernel : decode cX11_areLike 31 = .ok (.getfield 86, 3)) ?_
    refine q_iload C (by decide +kernel : decode cX11_areLike 34 = .ok (.iload 5, 2)) ?_
    refine q_zald C (by decide +kernel : decode cX11_areLike 36 = .ok (.baload, 1)) ?_
    refine q_ifne C (tgt := 44) (by decide +kernel : decode cX11_areLike 37 = .ok (.ifCond .ne 7, 3)) (by decide) ?_ ?_
    · exact v_X11_areLike_44 C hK
    · refine q_iconst C (by decide +kernel : decode cX11_areLike 40 = .ok (.iconst 1, 1)) (by decide) ?_
      refine q_goto C (tgt := 45) (by decide +kernel : decode cX11_areLike 41 = .ok (.goto 4, 3)) (by decide) ?_
      exact v_X11_areLike_45 C hK
theorem u_X11_areLike (l : Launch) {sp : q_Sp} (H : ∀ (av : List Value) (σ : q_S) (post : Option Value → q_S → Prop), sp av σ post → k_X11_areLike_0 post (fun _ _ _ _ _ _ => False) (q_L0 av 6) [] σ 0 0 ∧ av.length ≤ 6 ∧ ∀ v ∈ av, v.category = 1) : q_Ct l yX11_areLike cX11_areLike 6 (some .boolean) rm_X11_areLike sp := by
  refine q_met (by decide) ?_
  intro D A p e s m args below meth c σ av post C hsp
  obtain ⟨h1, h2, h3⟩ := H av σ post hsp
  exact ⟨_, v_X11_areLike_0 (K := fun _ _ _ _ _ _ => False) C (fun h hh => by cases hh), h1, h2, h3⟩
theorem t_X11_areLike (l : Launch) : q_Ct l yX11_areLike cX11_areLike 6 (some .boolean) rm_X11_areLike s_X11_areLike := u_X11_areLike l (by
  intro av σ post h
  unfold s_X11_areLike at h
  split at h
  · next mr a i b j =>
    refine ⟨?_, by simp, by simp [Value.category]⟩
    obtain ⟨ad, z, g, gp, r, hm, ha, hb, hi, hj, hx, h1, h2⟩ := h
    have e1 := at30 ha hi
    have e2 := at30 hb hj
    simp only [c_push, c_null, c_iload, c_aload, c_istore, c_astore, c_iinc, c_iadd, c_isub, c_imul, c_iand, c_ineg, c_dup, c_dup2, c_pop, c_ifnull, c_ifnonnull, c_get, c_put, c_iald, c_zald, c_iast, c_zast, c_aald, c_aast, c_alen, c_new, c_newa, c_newq, c_mna, c_oinit, c_max, c_copy, c_iret, c_zret, c_aret, c_vret, q_do, q_rc, c_ifeq, c_ifne, c_iflt, c_ifge, c_ifgt, c_ifle, c_iceq, c_icne, c_iclt, c_icge, c_icgt, c_icle, c_call0, c_call1, c_call2, c_call3, c_call4, c_call5, c_call6, c_call7, q_L0, List.map_cons, List.map_nil, List.replicate, List.cons_append, List.nil_append, List.append_nil, List.length_cons, List.length_nil, List.length_set, Nat.reduceSub, Nat.reduceAdd, Nat.reduceLT, Nat.reduceLeDiff, Nat.zero_add, Nat.add_zero, Nat.sub_zero, Nat.sub_self, List.getElem?_cons_zero, List.getElem?_cons_succ, List.set_cons_zero, List.set_cons_succ, Option.toList_some, Option.toList_none, List.sum_cons, List.sum_nil, true_and, and_true, true_or, or_true, Nat.le_refl, Nat.zero_le, Value.category, Fin.isValue, Fin.val_zero, Fin.val_one, Fin.val_two, Fin.reduceFinMk, q_10, q_01, not_false_eq_true, not_true_eq_false, forall_const, true_implies, false_implies, implies_true, q_ni, q_fi, q_nb0, q_nb1, q_fb0, q_fb1, q_nor, q_nar, q_for, q_far, q_non, q_nan, q_fon, q_fan, imp_false, false_and, and_false, and_self, false_or, or_false, va_rf, refKind, k_X11_areLike_0, k_X11_areLike_44, k_X11_areLike_45, hm.rd, vpi400, vpi1000, e1, e2]
    unfold likB at h1 h2
    simp only [decide_eq_true_eq, decide_eq_false_iff_not] at h1 h2
    clear hm
    grind
  · exact h.elim)
-- layRest
def tabOK (r : Nat → Int32) (g : Nat → Nat → Int32) (a b : Nat) (P : Nat → Nat → Prop) : Prop := ∀ i j : Nat, i ≤ lmN g a → j ≤ lmN g b → P i j → r (21 * i + j) = nI (RNg g a b i j)
theorem idx34 (i j : Nat) : (21 : Int32) * nI i + nI j = nI (21 * i + j) := by
  rw [show (21 : Int32) = nI 21 from rfl, pk_mul, nI_add]
def s_X11_layRest : q_Sp := fun av σ post => match av with
  | [.ref mr, .int a, .int b] => ∃ ad z g gp r, mOKx σ mr ad z g gp r ∧ I1 z ∧ isW z a ∧ isW z b ∧ LM z g ∧ LV z g ∧ ∀ σ' r', mOKx σ' mr ad z g gp r' → tabOK r' g a.toNatClampNeg b.toNatClampNeg (fun _ _ => True) → post none σ'
  | _ => False
theorem nI_mm (x : Int32) : x + -1 = x - 1 := (Int32.sub_eq_add_neg x 1).symm
theorem w9_98 : (.code yX11_areLike cX11_areLike 6 (some .boolean) : Cond) ∈ lw_tbl := by decide +kernel
theorem w9_99 : (.methodLink RX11 170 yX11_areLike : Cond) ∈ lw_tbl := by decide +kernel
theorem w9_100 : (.instanceMethod yX11_areLike : Cond) ∈ lw_tbl := by decide +kernel
theorem w9_101 : (.selects RX11 yX11_areLike yX11_areLike : Cond) ∈ lw_tbl := by decide +kernel
theorem w9_102 : (.fieldLink RX11 89 (TX11 34).1 (TX11 34).2.1 (TX11 34).2.2.1 : Cond) ∈ lw_tbl := by decide +kernel
def rm_X11_layRest : Room := { frames := 1, cells := 0, slots := 0, locals := 25 }
def k_X11_layRest_0 (post : Option Value → q_S → Prop) (K : Nat → q_K) : q_K := (c_aload 0 (c_get 11 29 (c_iload 1 (c_iald (c_istore 3 (K 7))))))
def k_X11_layRest_123 (post : Option Value → q_S → Prop) (K : Nat → q_K) : q_K := (c_aload 0 (c_get 11 34 (c_push 21 (c_iload 3 (c_imul (c_iload 4 (c_iadd (c_iload 5 (c_iast (c_iinc 4 (-1) (K 19)))))))))))
def k_X11_layRest_121 (post : Option Value → q_S → Prop) (K : Nat → q_K) : q_K := (c_istore 5 (k_X11_layRest_123 post K))
def k_X11_layRest_81 (post : Option Value → q_S → Prop) (K : Nat → q_K) : q_K := (c_aload 0 (c_iload 1 (c_iload 3 (c_iload 2 (c_iload 4 (c_call5 (some 11) s_X11_areLike 0 0 (c_ifeq (c_iload 5 (k_X11_layRest_121 post K)) (c_iload 5 (c_push 1 (c_aload 0 (c_get 11 34 (c_push 21 (c_iload 3 (c_push 1 (c_iadd (c_imul (c_iload 4 (c_iadd (c_push 1 (c_iadd (c_iald (c_iadd (c_call2 none s_X11_greater 0 0 (k_X11_layRest_121 post K))))))))))))))))))))))))
def k_X11_layRest_7 (post : Option Value → q_S → Prop) (K : Nat → q_K) : q_K := (c_iload 3 (c_iflt (c_vret post) (c_aload 0 (c_get 11 29 (c_iload 2 (c_iald (c_istore 4 (K 19))))))))
def k_X11_layRest_19 (post : Option Value → q_S → Prop) (K : Nat → q_K) : q_K := (c_iload 4 (c_iflt (c_iinc 3 (-1) (K 7)) (c_push 0 (c_istore 5 (c_iload 3 (c_aload 0 (c_get 11 29 (c_iload 1 (c_iald (c_icge (k_X11_layRest_123 post K) (c_iload 4 (c_aload 0 (c_get 11 29 (c_iload 2 (c_iald (c_icge (k_X11_layRest_123 post K) (c_aload 0 (c_get 11 34 (c_push 21 (c_iload 3 (c_push 1 (c_iadd (c_imul (c_iload 4 (c_iadd (c_iald (c_aload 0 (c_get 11 34 (c_push 21 (c_iload 3 (c_imul (c_iload 4 (c_iadd (c_push 1 (c_iadd (c_iald (c_call2 none s_X11_greater 0 0 (c_istore 5 (k_X11_layRest_81 post K)))))))))))))))))))))))))))))))))))))))
set_option maxRecDepth 100000 in
theorem v_X11_layRest_0 {p : Program} {l : Launch} {e : Env} {s : State} {m : MethodId} {args : Array Value} {below : List Frame} {meth : Method} {c : Code} {D : va_G} {A : Nat → Prop} {post : Option Value → q_S → Prop} {K : Nat → q_K} (C : q_C p s m args meth c cX11_layRest 6 RX11 "layRest" none A) (hK : ∀ h ∈ ([7, 19] : List Nat), q_V p l e rm_X11_layRest s m args below meth c D A 6 (MQ below (q_Qc D A post) args s rm_X11_layRest.cells rm_X11_layRest.slots A) h (K h)) : q_V p l e rm_X11_layRest s m args below meth c D A 6 (MQ below (q_Qc D A post) args s rm_X11_layRest.cells rm_X11_layRest.slots A) 0 (k_X11_layRest_0 post K) := by
  unfold k_X11_layRest_0
  refine q_aload_n C (by decide +kernel : decode cX11_layRest 0 = .ok (.aload_n 0, 1)) ?_
  refine q_get C (ci := 11) (j := 29) (C0 := RX11) (T := TX11) (N := 35) rfl iX11 giX11 (by decide) w9_30 (by decide +kernel : decode cX11_layRest 1 = .ok (.getfield 80, 3)) ?_
  refine q_iload_n C (by decide +kernel : decode cX11_layRest 4 = .ok (.iload_n 1, 1)) ?_
  refine q_iald C (by decide +kernel : decode cX11_layRest 5 = .ok (.iaload, 1)) ?_
  refine q_istore_n C (by decide +kernel : decode cX11_layRest 6 = .ok (.istore_n 3, 1)) ?_
  exact hK 7 (by decide)
set_option maxRecDepth 100000 in
theorem v_X11_layRest_123 {p : Program} {l : Launch} {e : Env} {s : State} {m : MethodId} {args : Array Value} {below : List Frame} {meth : Method} {c : Code} {D : va_G} {A : Nat → Prop} {post : Option Value → q_S → Prop} {K : Nat → q_K} (C : q_C p s m args meth c cX11_layRest 6 RX11 "layRest" none A) (hK : ∀ h ∈ ([7, 19] : List Nat), q_V p l e rm_X11_layRest s m args below meth c D A 6 (MQ below (q_Qc D A post) args s rm_X11_layRest.cells rm_X11_layRest.slots A) h (K h)) : q_V p l e rm_X11_layRest s m args below meth c D A 6 (MQ below (q_Qc D A post) args s rm_X11_layRest.cells rm_X11_layRest.slots A) 123 (k_X11_layRest_123 post K) := by
  unfold k_X11_layRest_123
  refine q_aload_n C (by decide +kernel : decode cX11_layRest 123 = .ok (.aload_n 0, 1)) ?_
  refine q_get C (ci := 11) (j := 34) (C0 := RX11) (T := TX11) (N := 35) rfl iX11 giX11 (by decide) w9_102 (by decide +kernel : decode cX11_layRest 124 = .ok (.getfield 89, 3)) ?_
  refine q_bipush C (by decide +kernel : decode cX11_layRest 127 = .ok (.bipush 21, 2)) (by decide) ?_
  refine q_iload_n C (by decide +kernel : decode cX11_layRest 129 = .ok (.iload_n 3, 1)) ?_
  refine q_imul C (by decide +kernel : decode cX11_layRest 130 = .ok (.imul, 1)) ?_
  refine q_iload C (by decide +kernel : decode cX11_layRest 131 = .ok (.iload 4, 2)) ?_
  refine q_iadd C (by decide +kernel : decode cX11_layRest 133 = .ok (.iadd, 1)) ?_
  refine q_iload C (by decide +kernel : decode cX11_layRest 134 = .ok (.iload 5, 2)) ?_
  refine q_iast C (by decide +kernel : decode cX11_layRest 136 = .ok (.iastore, 1)) ?_
  refine q_iinc C (by decide +kernel : decode cX11_layRest 137 = .ok (.iinc 4 (-1), 3)) (by decide) ?_
  refine q_goto C (tgt := 19) (by decide +kernel : decode cX11_layRest 140 = .ok (.goto (-121), 3)) (by decide) ?_
  exact hK 19 (by decide)
set_option maxRecDepth 100000 in
theorem v_X11_layRest_121 {p : Program} {l : Launch} {e : Env} {s : State} {m : MethodId} {args : Array Value} {below : List Frame} {meth : Method} {c : Code} {D : va_G} {A : Nat → Prop} {post : Option Value → q_S → Prop} {K : Nat → q_K} (C : q_C p s m args meth c cX11_layRest 6 RX11 "layRest" none A) (hK : ∀ h ∈ ([7, 19] : List Nat), q_V p l e rm_X11_layRest s m args below meth c D A 6 (MQ below (q_Qc D A post) args s rm_X11_layRest.cells rm_X11_layRest.slots A) h (K h)) : q_V p l e rm_X11_layRest s m args below meth c D A 6 (MQ below (q_Qc D A post) args s rm_X11_layRest.cells rm_X11_layRest.slots A) 121 (k_X11_layRest_121 post K) := by
  unfold k_X11_layRest_121
  refine q_istore C (by decide +kernel : decode cX11_layRest 121 = .ok (.istore 5, 2)) ?_
  exact v_X11_layRest_123 C hK
set_option maxRecDepth 100000 in
theorem v_X11_layRest_81 {p : Program} {l : Launch} {e : Env} {s : State} {m : MethodId} {args : Array Value} {below : List Frame} {meth : Method} {c : Code} {D : va_G} {A : Nat → Prop} {post : Option Value → q_S → Prop} {K : Nat → q_K} (C : q_C p s m args meth c cX11_layRest 6 RX11 "layRest" none A) (hK : ∀ h ∈ ([7, 19] : List Nat), q_V p l e rm_X11_layRest s m args below meth c D A 6 (MQ below (q_Qc D A post) args s rm_X11_layRest.cells rm_X11_layRest.slots A) h (K h)) : q_V p l e rm_X11_layRest s m args below meth c D A 6 (MQ below (q_Qc D A post) args s rm_X11_layRest.cells rm_X11_layRest.slots A) 81 (k_X11_layRest_81 post K) := by
  unfold k_X11_layRest_81
  refine q_aload_n C (by decide +kernel : decode cX11_layRest 81 = .ok (.aload_n 0, 1)) ?_
  refine q_iload_n C (by decide +kernel : decode cX11_layRest 82 = .ok (.iload_n 1, 1)) ?_
  refine q_iload_n C (by decide +kernel : decode cX11_layRest 83 = .ok (.iload_n 3, 1)) ?_
  refine q_iload_n C (by decide +kernel : decode cX11_layRest 84 = .ok (.iload_n 2, 1)) ?_
  refine q_iload C (by decide +kernel : decode cX11_layRest 85 = .ok (.iload 4, 2)) ?_
  refine q_call5 C (q_coV C (np := 4) (ci := 11) (rc := (RX11, TX11, 35)) (t_X11_areLike l) w9_98 rfl rfl w9_99 w9_100 w9_101 w9_6 (by decide +kernel) (by decide +kernel : decode cX11_layRest 87 = .ok (.invokevirtual 170, 3)) (by decide)) ?_
  refine q_ifeq C (tgt := 119) (by decide +kernel : decode cX11_layRest 90 = .ok (.ifCond .eq 29, 3)) (by decide) ?_ ?_
  · refine q_iload C (by decide +kernel : decode cX11_layRest 119 = .ok (.iload 5, 2)) ?_
    exact v_X11_layRest_121 C hK
  · refine q_iload C (by decide +kernel : decode cX11_layRest 93 = .ok (.iload 5, 2)) ?_
    refine q_iconst C (by decide +kernel : decode cX11_layRest 95 = .ok (.iconst 1, 1)) (by decide) ?_
    refine q_aload_n C (by decide +kernel : decode cX11_layRest 96 = .ok (.aload_n 0, 1)) ?_
    refine q_get C (ci := 11) (j := 34) (C0 := RX11) (T := TX11) (N := 35) rfl iX11 giX11 (by decide) w9_102 (by decide +kernel : decode cX11_layRest 97 = .ok (.getfield 89, 3)) ?_
    refine q_bipush C (by decide +kernel : decode cX11_layRest 100 = .ok (.bipush 21, 2)) (by decide) ?_
    refine q_iload_n C (by decide +kernel : decode cX11_layRest 102 = .ok (.iload_n 3, 1)) ?_
    refine q_iconst C (by decide +kernel : decode cX11_layRest 103 = .ok (.iconst 1, 1)) (by decide) ?_
    refine q_iadd C (by decide +kernel : decode cX11_layRest 104 = .ok (.iadd, 1)) ?_
    refine q_imul C (by decide +kernel : decode cX11_layRest 105 = .ok (.imul, 1)) ?_
    refine q_iload C (by decide +kernel : decode cX11_layRest 106 = .ok (.iload 4, 2)) ?_
    refine q_iadd C (by decide +kernel : decode cX11_layRest 108 = .ok (.iadd, 1)) ?_
    refine q_iconst C (by decide +kernel : decode cX11_layRest 109 = .ok (.iconst 1, 1)) (by decide) ?_
    refine q_iadd C (by decide +kernel : decode cX11_layRest 110 = .ok (.iadd, 1)) ?_
    refine q_iald C (by decide +kernel : decode cX11_layRest 111 = .ok (.iaload, 1)) ?_
    refine q_iadd C (by decide +kernel : decode cX11_layRest 112 = .ok (.iadd, 1)) ?_
    refine q_call2 C (q_coS C (np := 2) (t_X11_greater l) w9_31 w9_33 w9_32 w9_6 (by decide +kernel) (by decide +kernel : decode cX11_layRest 113 = .ok (.invokestatic 126, 3)) (by decide)) ?_
    refine q_goto C (tgt := 121) (by decide +kernel : decode cX11_layRest 116 = .ok (.goto 5, 3)) (by decide) ?_
    exact v_X11_layRest_121 C hK
set_option maxRecDepth 100000 in
theorem v_X11_layRest_7 {p : Program} {l : Launch} {e : Env} {s : State} {m : MethodId} {args : Array Value} {below : List Frame} {meth : Method} {c : Code} {D : va_G} {A : Nat → Prop} {post : Option Value → q_S → Prop} {K : Nat → q_K} (C : q_C p s m args meth c cX11_layRest 6 RX11 "layRest" none A) (hK : ∀ h ∈ ([7, 19] : List Nat), q_V p l e rm_X11_layRest s m args below meth c D A 6 (MQ below (q_Qc D A post) args s rm_X11_layRest.cells rm_X11_layRest.slots A) h (K h)) : q_V p l e rm_X11_layRest s m args below meth c D A 6 (MQ below (q_Qc D A post) args s rm_X11_layRest.cells rm_X11_layRest.slots A) 7 (k_X11_layRest_7 post K) := by
  unfold k_X11_layRest_7
  refine q_iload_n C (by decide +kernel : decode cX11_layRest 7 = .ok (.iload_n 3, 1)) ?_
  refine q_iflt C (tgt := 149) (by decide +kernel : decode cX11_layRest 8 = .ok (.ifCond .lt 141, 3)) (by decide) ?_ ?_
  · exact q_vret C rfl (by decide +kernel : decode cX11_layRest 149 = .ok (.return_, 1))
  · refine q_aload_n C (by decide +kernel : decode cX11_layRest 11 = .ok (.aload_n 0, 1)) ?_
    refine q_get C (ci := 11) (j := 29) (C0 := RX11) (T := TX11) (N := 35) rfl iX11 giX11 (by decide) w9_30 (by decide +kernel : decode cX11_layRest 12 = .ok (.getfield 80, 3)) ?_
    refine q_iload_n C (by decide +kernel : decode cX11_layRest 15 = .ok (.iload_n 2, 1)) ?_
    refine q_iald C (by decide +kernel : decode cX11_layRest 16 = .ok (.iaload, 1)) ?_
    refine q_istore C (by decide +kernel : decode cX11_layRest 17 = .ok (.istore 4, 2)) ?_
    exact hK 19 (by decide)
set_option maxRecDepth 100000 in
theorem v_X11_layRest_19 {p : Program} {l : Launch} {e : Env} {s : State} {m : MethodId} {args : Array Value} {below : List Frame} {meth : Method} {c : Code} {D : va_G} {A : Nat → Prop} {post : Option Value → q_S → Prop} {K : Nat → q_K} (C : q_C p s m args meth c cX11_layRest 6 RX11 "layRest" none A) (hK : ∀ h ∈ ([7, 19] : List Nat), q_V p l e rm_X11_layRest s m args below meth c D A 6 (MQ below (q_Qc D A post) args s rm_X11_layRest.cells rm_X11_layRest.slots A) h (K h)) : q_V p l e rm_X11_layRest s m args below meth c D A 6 (MQ below (q_Qc D A post) args s rm_X11_layRest.cells rm_X11_layRest.slots A) 19 (k_X11_layRest_19 post K) := by
  unfold k_X11_layRest_19
  refine q_iload C (by decide +kernel : decode cX11_layRest 19 = .ok (.iload 4, 2)) ?_
  refine q_iflt C (tgt := 143) (by decide +kernel : decode cX11_layRest 21 = .ok (.ifCond .lt 122, 3)) (by decide) ?_ ?_
  · refine q_iinc C (by decide +kernel : decode cX11_layRest 143 = .ok (.iinc 3 (-1), 3)) (by decide) ?_
    refine q_goto C (tgt := 7) (by decide +kernel : decode cX11_layRest 146 = .ok (.goto (-139), 3)) (by decide) ?_
    exact hK 7 (by decide)
  · refine q_iconst C (by decide +kernel : decode cX11_layRest 24 = .ok (.iconst 0, 1)) (by decide) ?_
    refine q_istore C (by decide +kernel : decode cX11_layRest 25 = .ok (.istore 5, 2)) ?_
    refine q_iload_n C (by decide +kernel : decode cX11_layRest 27 = .ok (.iload_n 3, 1)) ?_
    refine q_aload_n C (by decide +kernel : decode cX11_layRest 28 = .ok (.aload_n 0, 1)) ?_
    refine q_get C (ci := 11) (j := 29) (C0 := RX11) (T := TX11) (N := 35) rfl iX11 giX11 (by decide) w9_30 (by decide +kernel : decode cX11_layRest 29 = .ok (.getfield 80, 3)) ?_
    refine q_iload_n C (by decide +kernel : decode cX11_layRest 32 = .ok (.iload_n 1, 1)) ?_
    refine q_iald C (by decide +kernel : decode cX11_layRest 33 = .ok (.iaload, 1)) ?_
    refine q_icge C (tgt := 123) (by decide +kernel : decode cX11_layRest 34 = .ok (.if_icmp .ge 89, 3)) (by decide) ?_ ?_
    · exact v_X11_layRest_123 C hK
    · refine q_iload C (by decide +kernel : decode cX11_layRest 37 = .ok (.iload 4, 2)) ?_
      refine q_aload_n C (by decide +kernel : decode cX11_layRest 39 = .ok (.aload_n 0, 1)) ?_
      refine q_get C (ci := 11) (j := 29) (C0 := RX11) (T := TX11) (N := 35) rfl iX11 giX11 (by decide) w9_30 (by decide +kernel : decode cX11_layRest 40 = .ok (.getfield 80, 3)) ?_
      refine q_iload_n C (by decide +kernel : decode cX11_layRest 43 = .ok (.iload_n 2, 1)) ?_
      refine q_iald C (by decide +kernel : decode cX11_layRest 44 = .ok (.iaload, 1)) ?_
      refine q_icge C (tgt := 123) (by decide +kernel : decode cX11_layRest 45 = .ok (.if_icmp .ge 78, 3)) (by decide) ?_ ?_
      · exact v_X11_layRest_123 C hK
      · refine q_aload_n C (by decide +kernel : decode cX11_layRest 48 = .ok (.aload_n 0, 1)) ?_
        refine q_get C (ci := 11) (j := 34) (C0 := RX11) (T := TX11) (N := 35) rfl iX11 giX11 (by decide) w9_102 (by decide +kernel : decode cX11_layRest 49 = .ok (.getfield 89, 3)) ?_
        refine q_bipush C (by decide +kernel : decode cX11_layRest 52 = .ok (.bipush 21, 2)) (by decide) ?_
        refine q_iload_n C (by decide +kernel : decode cX11_layRest 54 = .ok (.iload_n 3, 1)) ?_
        refine q_iconst C (by decide +kernel : decode cX11_layRest 55 = .ok (.iconst 1, 1)) (by decide) ?_
        refine q_iadd C (by decide +kernel : decode cX11_layRest 56 = .ok (.iadd, 1)) ?_
        refine q_imul C (by decide +kernel : decode cX11_layRest 57 = .ok (.imul, 1)) ?_
        refine q_iload C (by decide +kernel : decode cX11_layRest 58 = .ok (.iload 4, 2)) ?_
        refine q_iadd C (by decide +kernel : decode cX11_layRest 60 = .ok (.iadd, 1)) ?_
        refine q_iald C (by decide +kernel : decode cX11_layRest 61 = .ok (.iaload, 1)) ?_
        refine q_aload_n C (by decide +kernel : decode cX11_layRest 62 = .ok (.aload_n 0, 1)) ?_
        refine q_get C (ci := 11) (j := 34) (C0 := RX11) (T := TX11) (N := 35) rfl iX11 giX11 (by decide) w9_102 (by decide +kernel : decode cX11_layRest 63 = .ok (.getfield 89, 3)) ?_
        refine q_bipush C (by decide +kernel : decode cX11_layRest 66 = .ok (.bipush 21, 2)) (by decide) ?_
        refine q_iload_n C (by decide +kernel : decode cX11_layRest 68 = .ok (.iload_n 3, 1)) ?_
        refine q_imul C (by decide +kernel : decode cX11_layRest 69 = .ok (.imul, 1)) ?_
        refine q_iload C (by decide +kernel : decode cX11_layRest 70 = .ok (.iload 4, 2)) ?_
        refine q_iadd C (by decide +kernel : decode cX11_layRest 72 = .ok (.iadd, 1)) ?_
        refine q_iconst C (by decide +kernel : decode cX11_layRest 73 = .ok (.iconst 1, 1)) (by decide) ?_
        refine q_iadd C (by decide +kernel : decode cX11_layRest 74 = .ok (.iadd, 1)) ?_
        refine q_iald C (by decide +kernel : decode cX11_layRest 75 = .ok (.iaload, 1)) ?_
        refine q_call2 C (q_coS C (np := 2) (t_X11_greater l) w9_31 w9_33 w9_32 w9_6 (by decide +kernel) (by decide +kernel : decode cX11_layRest 76 = .ok (.invokestatic 126, 3)) (by decide)) ?_
        refine q_istore C (by decide +kernel : decode cX11_layRest 79 = .ok (.istore 5, 2)) ?_
        exact v_X11_layRest_81 C hK
theorem u_X11_layRest (l : Launch) {sp : q_Sp} (H : ∀ (av : List Value) (σ : q_S) (post : Option Value → q_S → Prop), sp av σ post → ∃ Inv : Nat → Nat → q_K, (∀ K : Nat → q_K, (∀ (h n : Nat) (L : List (Option Value)) (st : List Value) (σ : q_S) (cr sr : Nat), Inv h n L st σ cr sr → K h L st σ cr sr) → k_X11_layRest_0 post K (q_L0 av 6) [] σ 0 0) ∧ (∀ (K : Nat → q_K) (n : Nat), (∀ (h m : Nat) (L : List (Option Value)) (st : List Value) (σ : q_S) (cr sr : Nat), m < n → Inv h m L st σ cr sr → K h L st σ cr sr) → ∀ (L : List (Option Value)) (st : List Value) (σ : q_S) (cr sr : Nat), Inv 7 n L st σ cr sr → k_X11_layRest_7 post K L st σ cr sr) ∧ (∀ (K : Nat → q_K) (n : Nat), (∀ (h m : Nat) (L : List (Option Value)) (st : List Value) (σ : q_S) (cr sr : Nat), m < n → Inv h m L st σ cr sr → K h L st σ cr sr) → ∀ (L : List (Option Value)) (st : List Value) (σ : q_S) (cr sr : Nat), Inv 19 n L st σ cr sr → k_X11_layRest_19 post K L st σ cr sr) ∧ av.length ≤ 6 ∧ ∀ v ∈ av, v.category = 1) : q_Ct l yX11_layRest cX11_layRest 6 none rm_X11_layRest sp := by
  refine q_met (by decide) ?_
  intro D A p e s m args below meth c σ av post C hsp
  obtain ⟨Inv, h1, hh7, hh19, h2, h3⟩ := H av σ post hsp
  have hV := q_loops (p := p) (l := l) (e := e) (R := rm_X11_layRest) (s := s) (m := m) (args := args) (below := below) (meth := meth) (c := c) (D := D) (A := A) (nL := 6) (Q := MQ below (q_Qc D A post) args s rm_X11_layRest.cells rm_X11_layRest.slots A) [7, 19] (fun h => if h = 7 then k_X11_layRest_7 post else k_X11_layRest_19 post) (fun K hK h hh => ?_) Inv (fun n h hh => ?_)
  · exact ⟨_, v_X11_layRest_0 C hV, h1 _ (fun h n L st σ cr sr hi => ⟨n, hi⟩), h2, h3⟩
  · rcases (by simpa using hh : h = 7 ∨ h = 19) with rfl | rfl
    · exact v_X11_layRest_7 C hK
    · exact v_X11_layRest_19 C hK
  · rcases (by simpa using hh : h = 7 ∨ h = 19) with rfl | rfl
    · exact hh7 (fun h L st σ cr sr => ∃ m : Nat, m < n ∧ Inv h m L st σ cr sr) n (fun h m L st σ cr sr hm hi => ⟨m, hm, hi⟩)
    · exact hh19 (fun h L st σ cr sr => ∃ m : Nat, m < n ∧ Inv h m L st σ cr sr) n (fun h m L st σ cr sr hm hi => ⟨m, hm, hi⟩)
theorem t_X11_layRest (l : Launch) : q_Ct l yX11_layRest cX11_layRest 6 none rm_X11_layRest s_X11_layRest := u_X11_layRest l (by
  intro av σ post h
  unfold s_X11_layRest at h
  split at h
  · next mr a b =>
    obtain ⟨ad, z, g, gp, r, hm, hI, ha, hb, hLM, hLV, h1⟩ := h
    unfold I1 at hI
    have ha2 : 0 ≤ a ∧ a < 20 := ⟨ha.1, by grind⟩
    have hb2 : 0 ≤ b ∧ b < 20 := ⟨hb.1, by grind⟩
    have hla := hLM.at ha.1 ha.2 ha2.2
    have hlb := hLM.at hb.1 hb.2 hb2.2
    have hLVa := fun i h => hLV a.toNatClampNeg i (by rw [nI_self ha.1]; exact ha.2) (clamp_lt 20 ha2.1 ha2.2) h
    have hala := clamp_lt 20 ha2.1 ha2.2
    have halb := clamp_lt 20 hb2.1 hb2.2
    generalize hae : a.toNatClampNeg = an at *
    generalize hbe : b.toNatClampNeg = bn at *
    have ela := nI_self hla.1
    have elb := nI_self hlb.1
    have hA20 : lmN g an ≤ 20 := clamp_le 20 hla.1 hla.2
    have hB20 : lmN g bn ≤ 20 := clamp_le 20 hlb.1 hlb.2
    refine ⟨fun h n L st σ' cr sr => ∃ (r' : Nat → Int32), mOKx σ' mr ad z g gp r' ∧ st = [] ∧
      ((h = 7 ∧ ∃ (s : Nat) (d1 d2 : Option Value), s ≤ lmN g an + 1 ∧ n = s * 50 + 49 ∧ L = [some (.ref mr), some (.int a), some (.int b), some (.int (nI s - 1)), d1, d2] ∧ tabOK r' g an bn (fun i _ => s ≤ i)) ∨
       (h = 19 ∧ ∃ (s u : Nat) (d2 : Option Value), s ≤ lmN g an ∧ u ≤ lmN g bn + 1 ∧ n = (s + 1) * 50 + u ∧ L = [some (.ref mr), some (.int a), some (.int b), some (.int (nI s)), some (.int (nI u - 1)), d2] ∧ tabOK r' g an bn (fun i j => s + 1 ≤ i ∨ (i = s ∧ u ≤ j)))), ?_, ?_, ?_, by simp, by simp [Value.category]⟩
    · intro K hK
      simp only [c_push, c_null, c_iload, c_aload, c_istore, c_astore, c_iinc, c_iadd, c_isub, c_imul, c_iand, c_ineg, c_dup, c_dup2, c_pop, c_ifnull, c_ifnonnull, c_get, c_put, c_iald, c_zald, c_iast, c_zast, c_aald, c_aast, c_alen, c_new, c_newa, c_newq, c_mna, c_oinit, c_max, c_copy, c_iret, c_zret, c_aret, c_vret, q_do, q_rc, c_ifeq, c_ifne, c_iflt, c_ifge, c_ifgt, c_ifle, c_iceq, c_icne, c_iclt, c_icge, c_icgt, c_icle, c_call0, c_call1, c_call2, c_call3, c_call4, c_call5, c_call6, c_call7, q_L0, List.map_cons, List.map_nil, List.replicate, List.cons_append, List.nil_append, List.append_nil, List.length_cons, List.length_nil, List.length_set, Nat.reduceSub, Nat.reduceAdd, Nat.reduceLT, Nat.reduceLeDiff, Nat.zero_add, Nat.add_zero, Nat.sub_zero, Nat.sub_self, List.getElem?_cons_zero, List.getElem?_cons_succ, List.set_cons_zero, List.set_cons_succ, Option.toList_some, Option.toList_none, List.sum_cons, List.sum_nil, true_and, and_true, true_or, or_true, Nat.le_refl, Nat.zero_le, Value.category, Fin.isValue, Fin.val_zero, Fin.val_one, Fin.val_two, Fin.reduceFinMk, q_10, q_01, not_false_eq_true, not_true_eq_false, forall_const, true_implies, false_implies, implies_true, q_ni, q_fi, q_nb0, q_nb1, q_fb0, q_fb1, q_nor, q_nar, q_for, q_far, q_non, q_nan, q_fon, q_fan, imp_false, false_and, and_false, and_self, false_or, or_false, va_rf, refKind, k_X11_layRest_0, hm.rd, vpi20, ha2, hae]
      refine hK 7 ((lmN g an + 1) * 50 + 49) _ _ _ _ _ ⟨r, hm, rfl, Or.inl ⟨rfl, lmN g an + 1, none, none, Nat.le_refl _, rfl, ?_, fun i j hi hj hs => by omega⟩⟩
      rw [nI_pred, ela]
    · rintro K n hK L st σ' cr sr ⟨r', hm', rfl, ⟨-, s, d1, d2, hs, rfl, rfl, hT⟩ | ⟨h9, -⟩⟩
      · simp only [c_push, c_null, c_iload, c_aload, c_istore, c_astore, c_iinc, c_iadd, c_isub, c_imul, c_iand, c_ineg, c_dup, c_dup2, c_pop, c_ifnull, c_ifnonnull, c_get, c_put, c_iald, c_zald, c_iast, c_zast, c_aald, c_aast, c_alen, c_new, c_newa, c_newq, c_mna, c_oinit, c_max, c_copy, c_iret, c_zret, c_aret, c_vret, q_do, q_rc, c_ifeq, c_ifne, c_iflt, c_ifge, c_ifgt, c_ifle, c_iceq, c_icne, c_iclt, c_icge, c_icgt, c_icle, c_call0, c_call1, c_call2, c_call3, c_call4, c_call5, c_call6, c_call7, q_L0, List.map_cons, List.map_nil, List.replicate, List.cons_append, List.nil_append, List.append_nil, List.length_cons, List.length_nil, List.length_set, Nat.reduceSub, Nat.reduceAdd, Nat.reduceLT, Nat.reduceLeDiff, Nat.zero_add, Nat.add_zero, Nat.sub_zero, Nat.sub_self, List.getElem?_cons_zero, List.getElem?_cons_succ, List.set_cons_zero, List.set_cons_succ, Option.toList_some, Option.toList_none, List.sum_cons, List.sum_nil, true_and, and_true, true_or, or_true, Nat.le_refl, Nat.zero_le, Value.category, Fin.isValue, Fin.val_zero, Fin.val_one, Fin.val_two, Fin.reduceFinMk, q_10, q_01, not_false_eq_true, not_true_eq_false, forall_const, true_implies, false_implies, implies_true, q_ni, q_fi, q_nb0, q_nb1, q_fb0, q_fb1, q_nor, q_nar, q_for, q_far, q_non, q_nan, q_fon, q_fan, imp_false, false_and, and_false, and_self, false_or, or_false, va_rf, refKind, k_X11_layRest_7, hm'.rd, vpi20, hb2, hbe]
        refine ⟨fun c => ?_, fun c => ?_⟩
        · have e : s = 0 := by
            rcases s with _ | s
            · rfl
            · rw [nI_pred] at c; exact absurd c (nI_pos (by omega))
          subst e
          exact h1 _ r' hm' (fun i j hi hj _ => hT i j hi hj (Nat.zero_le _))
        · rcases s with _ | s
          · exact absurd (by decide) c
          · rw [nI_pred]
            refine hK 19 ((s + 1) * 50 + (lmN g bn + 1)) _ _ _ _ _ (by omega) ⟨r', hm', rfl, Or.inr ⟨rfl, s, lmN g bn + 1, d2, by omega, Nat.le_refl _, rfl, ?_, fun i j hi hj hs => ?_⟩⟩
            · rw [nI_pred, elb]
            · exact hT i j hi hj (by omega)
      · exact absurd h9 (by decide)
    · rintro K n hK L st σ' cr sr ⟨r', hm', rfl, ⟨h9, -⟩ | ⟨-, s, u, d2, hs, hu, rfl, rfl, hT⟩⟩
      · exact absurd h9 (by decide)
      · rcases u with _ | u
        · simp only [c_push, c_null, c_iload, c_aload, c_istore, c_astore, c_iinc, c_iadd, c_isub, c_imul, c_iand, c_ineg, c_dup, c_dup2, c_pop, c_ifnull, c_ifnonnull, c_get, c_put, c_iald, c_zald, c_iast, c_zast, c_aald, c_aast, c_alen, c_new, c_newa, c_newq, c_mna, c_oinit, c_max, c_copy, c_iret, c_zret, c_aret, c_vret, q_do, q_rc, c_ifeq, c_ifne, c_iflt, c_ifge, c_ifgt, c_ifle, c_iceq, c_icne, c_iclt, c_icge, c_icgt, c_icle, c_call0, c_call1, c_call2, c_call3, c_call4, c_call5, c_call6, c_call7, q_L0, List.map_cons, List.map_nil, List.replicate, List.cons_append, List.nil_append, List.append_nil, List.length_cons, List.length_nil, List.length_set, Nat.reduceSub, Nat.reduceAdd, Nat.reduceLT, Nat.reduceLeDiff, Nat.zero_add, Nat.add_zero, Nat.sub_zero, Nat.sub_self, List.getElem?_cons_zero, List.getElem?_cons_succ, List.set_cons_zero, List.set_cons_succ, Option.toList_some, Option.toList_none, List.sum_cons, List.sum_nil, true_and, and_true, true_or, or_true, Nat.le_refl, Nat.zero_le, Value.category, Fin.isValue, Fin.val_zero, Fin.val_one, Fin.val_two, Fin.reduceFinMk, q_10, q_01, not_false_eq_true, not_true_eq_false, forall_const, true_implies, false_implies, implies_true, q_ni, q_fi, q_nb0, q_nb1, q_fb0, q_fb1, q_nor, q_nar, q_for, q_far, q_non, q_nan, q_fon, q_fan, imp_false, false_and, and_false, and_self, false_or, or_false, va_rf, refKind, k_X11_layRest_19]
          refine ⟨fun _ => hK 7 (s * 50 + 49) _ _ _ _ _ (by omega) ⟨r', hm', rfl, Or.inl ⟨rfl, s, some (.int (nI 0 - 1)), d2, by omega, rfl, ?_, fun i j hi hj h9 => hT i j hi hj (by omega)⟩⟩, fun c => absurd (by decide) c⟩
          rw [nI_mm (nI s)]
        · rw [nI_pred]
          have hs20 : s ≤ 20 := by omega
          have hu20 : u ≤ 20 := by omega
          have hRle : ∀ i j, RNg g an bn i j ≤ lmN g an - i := fun i j => RN_le (likB g an bn) (lmN g an) (lmN g bn) _ i j (Nat.le_refl _)
          have J123 : ∀ v : Int32, v = nI (RNg g an bn s u) → k_X11_layRest_123 post K [some (.ref mr), some (.int a), some (.int b), some (.int (nI s)), some (.int (nI u)), some (.int v)] [] σ' cr sr := fun v hv => by
            have b0 : 0 ≤ nI (21 * s + u) ∧ nI (21 * s + u) < 441 := ⟨nI_low (by omega), nI_ltN (N := 441) (by omega)⟩
            have c0 : (nI (21 * s + u)).toNatClampNeg = 21 * s + u := clN (by omega)
            simp only [c_push, c_null, c_iload, c_aload, c_istore, c_astore, c_iinc, c_iadd, c_isub, c_imul, c_iand, c_ineg, c_dup, c_dup2, c_pop, c_ifnull, c_ifnonnull, c_get, c_put, c_iald, c_zald, c_iast, c_zast, c_aald, c_aast, c_alen, c_new, c_newa, c_newq, c_mna, c_oinit, c_max, c_copy, c_iret, c_zret, c_aret, c_vret, q_do, q_rc, c_ifeq, c_ifne, c_iflt, c_ifge, c_ifgt, c_ifle, c_iceq, c_icne, c_iclt, c_icge, c_icgt, c_icle, c_call0, c_call1, c_call2, c_call3, c_call4, c_call5, c_call6, c_call7, q_L0, List.map_cons, List.map_nil, List.replicate, List.cons_append, List.nil_append, List.append_nil, List.length_cons, List.length_nil, List.length_set, Nat.reduceSub, Nat.reduceAdd, Nat.reduceLT, Nat.reduceLeDiff, Nat.zero_add, Nat.add_zero, Nat.sub_zero, Nat.sub_self, List.getElem?_cons_zero, List.getElem?_cons_succ, List.set_cons_zero, List.set_cons_succ, Option.toList_some, Option.toList_none, List.sum_cons, List.sum_nil, true_and, and_true, true_or, or_true, Nat.le_refl, Nat.zero_le, Value.category, Fin.isValue, Fin.val_zero, Fin.val_one, Fin.val_two, Fin.reduceFinMk, q_10, q_01, not_false_eq_true, not_true_eq_false, forall_const, true_implies, false_implies, implies_true, q_ni, q_fi, q_nb0, q_nb1, q_fb0, q_fb1, q_nor, q_nar, q_for, q_far, q_non, q_nan, q_fon, q_fan, imp_false, false_and, and_false, and_self, false_or, or_false, va_rf, refKind, k_X11_layRest_123, hm'.rd, idx34, vpi441, b0, c0]
            refine hK 19 ((s + 1) * 50 + u) _ _ _ _ _ (by omega) ⟨_, hm'.a34 _, rfl, Or.inr ⟨rfl, s, u, some (.int v), hs, by omega, rfl, by rw [nI_mm (nI u)], fun i j hi hj h9 => ?_⟩⟩
            unfold upd
            by_cases e : 21 * i + j = 21 * s + u
            · rw [if_pos e]
              have e1 : i = s ∧ j = u := by omega
              rw [e1.1, e1.2]; exact hv
            · rw [if_neg e]
              exact hT i j hi hj (by omega)
          have x1 : (21 : Int32) * (nI s + 1) + nI u = nI (21 * (s + 1) + u) := by rw [nI_1, idx34]
          have x2 : (21 : Int32) * nI s + nI u + 1 = nI (21 * s + (u + 1)) := by rw [idx34, nI_1]; rfl
          have x3 : (21 : Int32) * (nI s + 1) + nI u + 1 = nI (21 * (s + 1) + (u + 1)) := by rw [nI_1, idx34, nI_1]; rfl
          simp only [c_push, c_null, c_iload, c_aload, c_istore, c_astore, c_iinc, c_iadd, c_isub, c_imul, c_iand, c_ineg, c_dup, c_dup2, c_pop, c_ifnull, c_ifnonnull, c_get, c_put, c_iald, c_zald, c_iast, c_zast, c_aald, c_aast, c_alen, c_new, c_newa, c_newq, c_mna, c_oinit, c_max, c_copy, c_iret, c_zret, c_aret, c_vret, q_do, q_rc, c_ifeq, c_ifne, c_iflt, c_ifge, c_ifgt, c_ifle, c_iceq, c_icne, c_iclt, c_icge, c_icgt, c_icle, c_call0, c_call1, c_call2, c_call3, c_call4, c_call5, c_call6, c_call7, q_L0, List.map_cons, List.map_nil, List.replicate, List.cons_append, List.nil_append, List.append_nil, List.length_cons, List.length_nil, List.length_set, Nat.reduceSub, Nat.reduceAdd, Nat.reduceLT, Nat.reduceLeDiff, Nat.zero_add, Nat.add_zero, Nat.sub_zero, Nat.sub_self, List.getElem?_cons_zero, List.getElem?_cons_succ, List.set_cons_zero, List.set_cons_succ, Option.toList_some, Option.toList_none, List.sum_cons, List.sum_nil, true_and, and_true, true_or, or_true, Nat.le_refl, Nat.zero_le, Value.category, Fin.isValue, Fin.val_zero, Fin.val_one, Fin.val_two, Fin.reduceFinMk, q_10, q_01, not_false_eq_true, not_true_eq_false, forall_const, true_implies, false_implies, implies_true, q_ni, q_fi, q_nb0, q_nb1, q_fb0, q_fb1, q_nor, q_nar, q_for, q_far, q_non, q_nan, q_fon, q_fan, imp_false, false_and, and_false, and_self, false_or, or_false, va_rf, refKind, k_X11_layRest_19, k_X11_layRest_121, hm'.rd, vpi20, ha2, hb2, hae, hbe]
          refine ⟨fun c => absurd c (nI_pos (by omega)), fun _ => ?_⟩
          rw [← ela, ← elb, (cl2 (nI (lmN g an)) (nI s) _ _ rfl rfl (by omega) (by omega)).1, (cl2 (nI (lmN g bn)) (nI u) _ _ rfl rfl (by omega) (by omega)).1]
          refine ⟨fun c => J123 0 (by rw [RNg, RN_out (by omega)]; rfl), fun c => ⟨fun c2 => J123 0 (by rw [RNg, RN_out (by omega)]; rfl), fun c2 => ?_⟩⟩
          have b1 : 0 ≤ nI (21 * (s + 1) + u) ∧ nI (21 * (s + 1) + u) < 441 := ⟨nI_low (by omega), nI_ltN (N := 441) (by omega)⟩
          have b2 : 0 ≤ nI (21 * s + (u + 1)) ∧ nI (21 * s + (u + 1)) < 441 := ⟨nI_low (by omega), nI_ltN (N := 441) (by omega)⟩
          have b3 : 0 ≤ nI (21 * (s + 1) + (u + 1)) ∧ nI (21 * (s + 1) + (u + 1)) < 441 := ⟨nI_low (by omega), nI_ltN (N := 441) (by omega)⟩
          have c1 : (nI (21 * (s + 1) + u)).toNatClampNeg = 21 * (s + 1) + u := clN (by omega)
          have c3 : (nI (21 * s + (u + 1))).toNatClampNeg = 21 * s + (u + 1) := clN (by omega)
          have c4 : (nI (21 * (s + 1) + (u + 1))).toNatClampNeg = 21 * (s + 1) + (u + 1) := clN (by omega)
          have t1 := hT (s + 1) u (by omega) (by omega) (Or.inl (by omega))
          have t2 := hT s (u + 1) (by omega) (by omega) (Or.inr ⟨rfl, by omega⟩)
          have t3 := hT (s + 1) (u + 1) (by omega) (by omega) (Or.inl (by omega))
          have l1 := hRle (s + 1) u
          have l2 := hRle s (u + 1)
          have l3 := hRle (s + 1) (u + 1)
          have JB : ∀ v : Int32, v = nI (max (RNg g an bn (s + 1) u) (RNg g an bn s (u + 1))) → k_X11_layRest_81 post K [some (.ref mr), some (.int a), some (.int b), some (.int (nI s)), some (.int (nI u)), some (.int v)] [] σ' cr sr := fun v hv => by
            simp only [c_push, c_null, c_iload, c_aload, c_istore, c_astore, c_iinc, c_iadd, c_isub, c_imul, c_iand, c_ineg, c_dup, c_dup2, c_pop, c_ifnull, c_ifnonnull, c_get, c_put, c_iald, c_zald, c_iast, c_zast, c_aald, c_aast, c_alen, c_new, c_newa, c_newq, c_mna, c_oinit, c_max, c_copy, c_iret, c_zret, c_aret, c_vret, q_do, q_rc, c_ifeq, c_ifne, c_iflt, c_ifge, c_ifgt, c_ifle, c_iceq, c_icne, c_iclt, c_icge, c_icgt, c_icle, c_call0, c_call1, c_call2, c_call3, c_call4, c_call5, c_call6, c_call7, q_L0, List.map_cons, List.map_nil, List.replicate, List.cons_append, List.nil_append, List.append_nil, List.length_cons, List.length_nil, List.length_set, Nat.reduceSub, Nat.reduceAdd, Nat.reduceLT, Nat.reduceLeDiff, Nat.zero_add, Nat.add_zero, Nat.sub_zero, Nat.sub_self, List.getElem?_cons_zero, List.getElem?_cons_succ, List.set_cons_zero, List.set_cons_succ, Option.toList_some, Option.toList_none, List.sum_cons, List.sum_nil, true_and, and_true, true_or, or_true, Nat.le_refl, Nat.zero_le, Value.category, Fin.isValue, Fin.val_zero, Fin.val_one, Fin.val_two, Fin.reduceFinMk, q_10, q_01, not_false_eq_true, not_true_eq_false, forall_const, true_implies, false_implies, implies_true, q_ni, q_fi, q_nb0, q_nb1, q_fb0, q_fb1, q_nor, q_nar, q_for, q_far, q_non, q_nan, q_fon, q_fan, imp_false, false_and, and_false, and_self, false_or, or_false, va_rf, refKind, k_X11_layRest_81, hm'.rd]
            refine ⟨ad, z, g, gp, r', hm', ha2, hb2, ⟨nI_low (by omega), nI_ltN (N := 20) (by omega)⟩, ⟨nI_low (by omega), nI_ltN (N := 20) (by omega)⟩, ?_, ?_, ?_⟩
            · rw [hae, clN (by omega)]
              have := hLVa s (by omega)
              grind
            · rw [hae, hbe, clN (by omega), clN (by omega)]
              intro c9
              simp only [c_push, c_null, c_iload, c_aload, c_istore, c_astore, c_iinc, c_iadd, c_isub, c_imul, c_iand, c_ineg, c_dup, c_dup2, c_pop, c_ifnull, c_ifnonnull, c_get, c_put, c_iald, c_zald, c_iast, c_zast, c_aald, c_aast, c_alen, c_new, c_newa, c_newq, c_mna, c_oinit, c_max, c_copy, c_iret, c_zret, c_aret, c_vret, q_do, q_rc, c_ifeq, c_ifne, c_iflt, c_ifge, c_ifgt, c_ifle, c_iceq, c_icne, c_iclt, c_icge, c_icgt, c_icle, c_call0, c_call1, c_call2, c_call3, c_call4, c_call5, c_call6, c_call7, q_L0, List.map_cons, List.map_nil, List.replicate, List.cons_append, List.nil_append, List.append_nil, List.length_cons, List.length_nil, List.length_set, Nat.reduceSub, Nat.reduceAdd, Nat.reduceLT, Nat.reduceLeDiff, Nat.zero_add, Nat.add_zero, Nat.sub_zero, Nat.sub_self, List.getElem?_cons_zero, List.getElem?_cons_succ, List.set_cons_zero, List.set_cons_succ, Option.toList_some, Option.toList_none, List.sum_cons, List.sum_nil, true_and, and_true, true_or, or_true, Nat.le_refl, Nat.zero_le, Value.category, Fin.isValue, Fin.val_zero, Fin.val_one, Fin.val_two, Fin.reduceFinMk, q_10, q_01, not_false_eq_true, not_true_eq_false, forall_const, true_implies, false_implies, implies_true, q_ni, q_fi, q_nb0, q_nb1, q_fb0, q_fb1, q_nor, q_nar, q_for, q_far, q_non, q_nan, q_fon, q_fan, imp_false, false_and, and_false, and_self, false_or, or_false, va_rf, refKind, k_X11_layRest_121, hm'.rd, x3, vpi441, b3, c4, t3, s_X11_greater]
              have hR : RNg g an bn s u = if likB g an bn s u then max (max (RNg g an bn (s + 1) u) (RNg g an bn s (u + 1))) (1 + RNg g an bn (s + 1) (u + 1)) else max (RNg g an bn (s + 1) u) (RNg g an bn s (u + 1)) := RN_in (lk := likB g an bn) (la := lmN g an) (lb := lmN g bn) (i := s) (j := u) ⟨by omega, by omega⟩
              rw [if_pos c9] at hR
              have e1 : (1 : Int32) + nI (RNg g an bn (s + 1) (u + 1)) = nI (1 + RNg g an bn (s + 1) (u + 1)) := by rw [← nI_add]; rfl
              have hM := mxN (a := max (RNg g an bn (s + 1) u) (RNg g an bn s (u + 1))) (b := 1 + RNg g an bn (s + 1) (u + 1)) (by omega) (by omega)
              rw [e1, hv]
              refine ⟨fun cc => J123 _ ?_, fun cc => J123 _ ?_⟩
              · rw [hR, ← hM, if_pos cc]
              · rw [hR, ← hM, if_neg cc]
            · rw [hae, hbe, clN (by omega), clN (by omega)]
              intro c9
              simp only [c_push, c_null, c_iload, c_aload, c_istore, c_astore, c_iinc, c_iadd, c_isub, c_imul, c_iand, c_ineg, c_dup, c_dup2, c_pop, c_ifnull, c_ifnonnull, c_get, c_put, c_iald, c_zald, c_iast, c_zast, c_aald, c_aast, c_alen, c_new, c_newa, c_newq, c_mna, c_oinit, c_max, c_copy, c_iret, c_zret, c_aret, c_vret, q_do, q_rc, c_ifeq, c_ifne, c_iflt, c_ifge, c_ifgt, c_ifle, c_iceq, c_icne, c_iclt, c_icge, c_icgt, c_icle, c_call0, c_call1, c_call2, c_call3, c_call4, c_call5, c_call6, c_call7, q_L0, List.map_cons, List.map_nil, List.replicate, List.cons_append, List.nil_append, List.append_nil, List.length_cons, List.length_nil, List.length_set, Nat.reduceSub, Nat.reduceAdd, Nat.reduceLT, Nat.reduceLeDiff, Nat.zero_add, Nat.add_zero, Nat.sub_zero, Nat.sub_self, List.getElem?_cons_zero, List.getElem?_cons_succ, List.set_cons_zero, List.set_cons_succ, Option.toList_some, Option.toList_none, List.sum_cons, List.sum_nil, true_and, and_true, true_or, or_true, Nat.le_refl, Nat.zero_le, Value.category, Fin.isValue, Fin.val_zero, Fin.val_one, Fin.val_two, Fin.reduceFinMk, q_10, q_01, not_false_eq_true, not_true_eq_false, forall_const, true_implies, false_implies, implies_true, q_ni, q_fi, q_nb0, q_nb1, q_fb0, q_fb1, q_nor, q_nar, q_for, q_far, q_non, q_nan, q_fon, q_fan, imp_false, false_and, and_false, and_self, false_or, or_false, va_rf, refKind, k_X11_layRest_121]
              have hR : RNg g an bn s u = if likB g an bn s u then max (max (RNg g an bn (s + 1) u) (RNg g an bn s (u + 1))) (1 + RNg g an bn (s + 1) (u + 1)) else max (RNg g an bn (s + 1) u) (RNg g an bn s (u + 1)) := RN_in (lk := likB g an bn) (la := lmN g an) (lb := lmN g bn) (i := s) (j := u) ⟨by omega, by omega⟩
              rw [if_neg (by rw [c9]; decide)] at hR
              exact J123 _ (by rw [hR]; exact hv)
          simp only [c_push, c_null, c_iload, c_aload, c_istore, c_astore, c_iinc, c_iadd, c_isub, c_imul, c_iand, c_ineg, c_dup, c_dup2, c_pop, c_ifnull, c_ifnonnull, c_get, c_put, c_iald, c_zald, c_iast, c_zast, c_aald, c_aast, c_alen, c_new, c_newa, c_newq, c_mna, c_oinit, c_max, c_copy, c_iret, c_zret, c_aret, c_vret, q_do, q_rc, c_ifeq, c_ifne, c_iflt, c_ifge, c_ifgt, c_ifle, c_iceq, c_icne, c_iclt, c_icge, c_icgt, c_icle, c_call0, c_call1, c_call2, c_call3, c_call4, c_call5, c_call6, c_call7, q_L0, List.map_cons, List.map_nil, List.replicate, List.cons_append, List.nil_append, List.append_nil, List.length_cons, List.length_nil, List.length_set, Nat.reduceSub, Nat.reduceAdd, Nat.reduceLT, Nat.reduceLeDiff, Nat.zero_add, Nat.add_zero, Nat.sub_zero, Nat.sub_self, List.getElem?_cons_zero, List.getElem?_cons_succ, List.set_cons_zero, List.set_cons_succ, Option.toList_some, Option.toList_none, List.sum_cons, List.sum_nil, true_and, and_true, true_or, or_true, Nat.le_refl, Nat.zero_le, Value.category, Fin.isValue, Fin.val_zero, Fin.val_one, Fin.val_two, Fin.reduceFinMk, q_10, q_01, not_false_eq_true, not_true_eq_false, forall_const, true_implies, false_implies, implies_true, q_ni, q_fi, q_nb0, q_nb1, q_fb0, q_fb1, q_nor, q_nar, q_for, q_far, q_non, q_nan, q_fon, q_fan, imp_false, false_and, and_false, and_self, false_or, or_false, va_rf, refKind, x1, x2, vpi441, b1, b2, c1, c3, t1, t2, s_X11_greater]
          have hM := mxN (a := RNg g an bn (s + 1) u) (b := RNg g an bn s (u + 1)) (by omega) (by omega)
          refine ⟨fun cc => JB _ ?_, fun cc => JB _ ?_⟩
          · rw [← hM, if_pos cc]
          · rw [← hM, if_neg cc]
  · exact h.elim)
