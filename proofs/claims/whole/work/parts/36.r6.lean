-- alike, pair, copied of the register
theorem RN_cong {lk lk' : Nat → Nat → Bool} {la lb : Nat} (h : ∀ i j, i < la → j < lb → lk i j = lk' i j) : ∀ (m i j : Nat), (la - i) + (lb - j) ≤ m → RN lk la lb i j = RN lk' la lb i j := by
  intro m
  induction m with
  | zero => intro i j hm; rw [RN_out (by omega), RN_out (by omega)]
  | succ m ih =>
    intro i j hm
    by_cases c : i < la ∧ j < lb
    · rw [RN_in (lk := lk) c, RN_in (lk := lk') c, h i j c.1 c.2, ih (i + 1) j (by omega), ih i (j + 1) (by omega), ih (i + 1) (j + 1) (by omega)]
    · rw [RN_out c, RN_out c]
theorem fj_cong {P Q : Nat → Bool} {lb : Nat} (h : ∀ j, j < lb → P j = Q j) : ∀ (m s : Nat), lb - s ≤ m → fj P lb s = fj Q lb s := by
  intro m
  induction m with
  | zero => intro s hm; rw [fj, if_neg (by omega), fj, if_neg (by omega)]
  | succ m ih =>
    intro s hm
    rw [fj]
    conv => rhs; rw [fj]
    by_cases c : s < lb
    · rw [if_pos c, if_pos c, h s c, ih (s + 1) (by omega)]
    · rw [if_neg c, if_neg c]
theorem PW_cong {lk lk' : Nat → Nat → Bool} {la lb : Nat} (h : ∀ i j, i < la → j < lb → lk i j = lk' i j) : ∀ (d i s m k : Nat), la - i ≤ d → PW lk la lb i s m k = PW lk' la lb i s m k := by
  intro d
  induction d with
  | zero => intro i s m k hd; rw [PW, if_neg (by omega), PW, if_neg (by omega)]
  | succ d ih =>
    intro i s m k hd
    rw [PW]
    conv => rhs; rw [PW]
    by_cases c : i < la
    · rw [if_pos c, if_pos c, fj_cong (fun j hj => h i j c hj) _ s (Nat.le_refl _)]
      cases fj (lk' i) lb s with
      | none => exact ih _ _ _ _ (by omega)
      | some j =>
        dsimp only
        rw [RN_cong h _ (i + 1) (j + 1) (Nat.le_refl _), ih _ _ _ _ (by omega), ih _ _ _ _ (by omega)]
    · rw [if_neg c, if_neg c]
section RGC
variable {σ : q_S} {Rg : Nat → Nat → Prop} {r P AC AR WK LC CL CM CP : Nat} {pa aa wa sa ga la lra lc : Nat → Nat} {lrn : Nat → Int32} {z : Nat → Int32} {g : Nat → Nat → Int32}
theorem RegD.lnF (h : RegD σ Rg r P AC AR WK LC CL CM CP pa aa wa sa ga la lra lc lrn z g) (hI : I1 z) (hLM : LM z g) {a : Int32} (ha : isW z a) : ∃ f, LnF σ (Rg 7) (la a.toNatClampNeg) (lra a.toNatClampNeg) f (lmN g a.toNatClampNeg) ∧ ∀ j, j < lmN g a.toNatClampNeg → f j = g 30 (20 * a.toNatClampNeg + j) := by
  have h20 := hI.n20
  have hlt : a.toNatClampNeg < nwF z := ltN ha.1 ha.2
  obtain ⟨k1, f, k2, k3⟩ := h.ln hlt h20
  have hI2 := hI
  unfold I1 at hI
  have hl := hLM.at ha.1 ha.2 (by grind)
  have e := nI_self hl.1
  refine ⟨f, ⟨⟨fun h9 => ?_, ?_⟩, ⟨fun h9 => ?_, k2.2⟩, clamp_le 20 hl.1 hl.2⟩, k3⟩
  · have := h.1 _ _ _ h9 k1.1; omega
  · rw [e]; exact k1.2
  · have := h.1 _ _ _ h9 k2.1; omega
theorem RegD.cmF (h : RegD σ Rg r P AC AR WK LC CL CM CP pa aa wa sa ga la lra lc lrn z g) : ∃ c, CmF σ (Rg 7) CL CM (.int (z 31)) c ∧ ∀ x, x < 1000 → c x = g 32 x := by
  obtain ⟨k1, f, k2, k3⟩ := h.p6
  refine ⟨f, ⟨⟨fun h9 => ?_, k1.2⟩, fun h9 => ?_, k2.2⟩, k3⟩
  · have := h.1 _ _ _ h9 k1.1; omega
  · have := h.1 _ _ _ h9 k2.1; omega
theorem RegD.put7 (h : RegD σ Rg r P AC AR WK LC CL CM CP pa aa wa sa ga la lra lc lrn z g) {σ' : q_S} {T : Nat → Nat → Int32} (hG : GrP σ' (Rg 7) CP T) (hf : q_fm σ (Rg 7) σ' (Rg 7)) : RegOK σ' r z g := h.put1 (lrn' := lrn) 7 hf ⟨T, hG⟩ (fun _ _ h => h)
end RGC
theorem lk_eq {g : Nat → Nat → Int32} {z : Nat → Int32} {a b : Nat} {fa fb c : Nat → Int32} (ha : ∀ j, j < lmN g a → fa j = g 30 (20 * a + j)) (hb : ∀ j, j < lmN g b → fb j = g 30 (20 * b + j)) (hc : ∀ x, x < 1000 → c x = g 32 x) (hV : ∀ i, i < lmN g a → 1 ≤ g 30 (20 * a + i) ∧ g 30 (20 * a + i) ≤ 999) : ∀ i j, i < lmN g a → j < lmN g b → lkc fa fb c i j = likB g a b i j := by
  intro i j hi hj
  unfold lkc likB
  have hv := hV i hi
  have h1 : (0 ≤ g 30 (20 * a + i) ∧ g 30 (20 * a + i) < 1000) := by grind
  have h2 := hc _ (clamp_lt 1000 h1.1 h1.2)
  rw [ha i hi, hb j hj]
  unfold comC
  rw [h2]
  by_cases c1 : g 30 (20 * a + i) = g 30 (20 * b + j) <;> by_cases c2 : g 32 (g 30 (20 * a + i)).toNatClampNeg = 0
  · rw [decide_eq_true ⟨fun h => h.2 c2, c1⟩, decide_eq_true ⟨c1, c2⟩]
  · rw [decide_eq_false (fun h => h.1 ⟨h1, c2⟩), decide_eq_false (fun h => c2 h.2)]
  · rw [decide_eq_false (fun h => c1 h.2), decide_eq_false (fun h => c1 h.1)]
  · rw [decide_eq_false (fun h => c1 h.2), decide_eq_false (fun h => c1 h.1)]
theorem own_eq {g : Nat → Nat → Int32} {a : Nat} {fa c : Nat → Int32} (ha : ∀ j, j < lmN g a → fa j = g 30 (20 * a + j)) (hc : ∀ x, x < 1000 → c x = g 32 x) (hV : ∀ i, i < lmN g a → 1 ≤ g 30 (20 * a + i) ∧ g 30 (20 * a + i) ≤ 999) : ∀ n, n ≤ lmN g a → ownC fa c n = ownF g a n
  | 0, _ => rfl
  | n + 1, hn => by
    have hv := hV n (by omega)
    have h1 : (0 ≤ g 30 (20 * a + n) ∧ g 30 (20 * a + n) < 1000) := by grind
    have h2 := hc _ (clamp_lt 1000 h1.1 h1.2)
    rw [ownC, ownF, own_eq ha hc hV n (by omega), ha n (by omega), h2]
    congr 1
    by_cases c2 : g 32 (g 30 (20 * a + n)).toNatClampNeg = 0
    · rw [if_neg (fun h => h.2 c2), if_pos c2]
    · rw [if_pos ⟨h1, c2⟩, if_neg c2]
def s_X10_alike : q_Sp := fun av σ post => match av with
  | [.ref r, .int a, .int b] => ∃ z g, RegOK σ r z g ∧ I1 z ∧ LM z g ∧ LV z g ∧ ∀ σ', RegOK σ' r z g → post (some (.int (F_alike z g a b))) σ'
  | _ => False
theorem w9_337 : (.code yX10_workAt cX10_workAt 2 (some (.object "CopyRegister$Work")) : Cond) ∈ lw_tbl := by decide +kernel
theorem w9_338 : (.methodLink RX10 87 yX10_workAt : Cond) ∈ lw_tbl := by decide +kernel
theorem w9_339 : (.instanceMethod yX10_workAt : Cond) ∈ lw_tbl := by decide +kernel
theorem w9_340 : (.selects RX10 yX10_workAt yX10_workAt : Cond) ∈ lw_tbl := by decide +kernel
theorem w9_341 : (.fieldLink RX10 59 (TX10 9).1 (TX10 9).2.1 (TX10 9).2.2.1 : Cond) ∈ lw_tbl := by decide +kernel
theorem w9_342 : (.methodLink RX10 201 yX3_measure : Cond) ∈ lw_tbl := by decide +kernel
def rm_X10_alike : Room := { frames := 4, cells := 0, slots := 0, locals := 93 }
def k_X10_alike_22 (post : Option Value → q_S → Prop) (K : Nat → q_K) : q_K := (c_push (-2) (c_iret post))
def k_X10_alike_0 (post : Option Value → q_S → Prop) (K : Nat → q_K) : q_K := (c_aload 0 (c_iload 1 (c_call2 (some 10) s_X10_workAt 0 0 (c_astore 3 (c_aload 0 (c_iload 2 (c_call2 (some 10) s_X10_workAt 0 0 (c_astore 4 (c_aload 3 (c_ifnull (k_X10_alike_22 post K) (c_aload 4 (c_ifnonnull (c_aload 0 (c_get 10 9 (c_aload 3 (c_get 9 4 (c_aload 4 (c_get 9 4 (c_aload 0 (c_get 10 8 (c_call4 (some 3) s_X3_measure 0 0 (c_iret post)))))))))) (k_X10_alike_22 post K)))))))))))))
set_option maxRecDepth 100000 in
theorem v_X10_alike_22 {p : Program} {l : Launch} {e : Env} {s : State} {m : MethodId} {args : Array Value} {below : List Frame} {meth : Method} {c : Code} {D : va_G} {A : Nat → Prop} {post : Option Value → q_S → Prop} {K : Nat → q_K} (C : q_C p s m args meth c cX10_alike 5 RX10 "alike" (some .int) A) (hK : ∀ h ∈ ([] : List Nat), q_V p l e rm_X10_alike s m args below meth c D A 5 (MQ below (q_Qc D A post) args s rm_X10_alike.cells rm_X10_alike.slots A) h (K h)) : q_V p l e rm_X10_alike s m args below meth c D A 5 (MQ below (q_Qc D A post) args s rm_X10_alike.cells rm_X10_alike.slots A) 22 (k_X10_alike_22 post K) := by
  unfold k_X10_alike_22
  refine q_bipush C (by decide +kernel : decode cX10_alike 22 = .ok (.bipush (-2), 2)) (by decide) ?_
  exact q_iret C rfl (by decide +kernel : decode cX10_alike 24 = .ok (.ireturn, 1))
set_option maxRecDepth 100000 in
theorem v_X10_alike_0 {p : Program} {l : Launch} {e : Env} {s : State} {m : MethodId} {args : Array Value} {below : List Frame} {meth : Method} {c : Code} {D : va_G} {A : Nat → Prop} {post : Option Value → q_S → Prop} {K : Nat → q_K} (C : q_C p s m args meth c cX10_alike 5 RX10 "alike" (some .int) A) (hK : ∀ h ∈ ([] : List Nat), q_V p l e rm_X10_alike s m args below meth c D A 5 (MQ below (q_Qc D A post) args s rm_X10_alike.cells rm_X10_alike.slots A) h (K h)) : q_V p l e rm_X10_alike s m args below meth c D A 5 (MQ below (q_Qc D A post) args s rm_X10_alike.cells rm_X10_alike.slots A) 0 (k_X10_alike_0 post K) := by
  unfold k_X10_alike_0
  refine q_aload_n C (by decide +kernel : decode cX10_alike 0 = .ok (.aload_n 0, 1)) ?_
  refine q_iload_n C (by decide +kernel : decode cX10_alike 1 = .ok (.iload_n 1, 1)) ?_
  refine q_call2 C (q_coV C (np := 1) (ci := 10) (rc := (RX10, TX10, 10)) (t_X10_workAt l) w9_337 rfl rfl w9_338 w9_339 w9_340 w9_1 (by decide +kernel) (by decide +kernel : decode cX10_alike 2 = .ok (.invokevirtual 87, 3)) (by decide)) ?_
  refine q_astore_n C (by decide +kernel : decode cX10_alike 5 = .ok (.astore_n 3, 1)) ?_
  refine q_aload_n C (by decide +kernel : decode cX10_alike 6 = .ok (.aload_n 0, 1)) ?_
  refine q_iload_n C (by decide +kernel : decode cX10_alike 7 = .ok (.iload_n 2, 1)) ?_
  refine q_call2 C (q_coV C (np := 1) (ci := 10) (rc := (RX10, TX10, 10)) (t_X10_workAt l) w9_337 rfl rfl w9_338 w9_339 w9_340 w9_1 (by decide +kernel) (by decide +kernel : decode cX10_alike 8 = .ok (.invokevirtual 87, 3)) (by decide)) ?_
  refine q_astore C (by decide +kernel : decode cX10_alike 11 = .ok (.astore 4, 2)) ?_
  refine q_aload_n C (by decide +kernel : decode cX10_alike 13 = .ok (.aload_n 3, 1)) ?_
  refine q_ifnull C (tgt := 22) (by decide +kernel : decode cX10_alike 14 = .ok (.ifnull 8, 3)) (by decide) ?_ ?_
  · exact v_X10_alike_22 C hK
  · refine q_aload C (by decide +kernel : decode cX10_alike 17 = .ok (.aload 4, 2)) ?_
    refine q_ifnonnull C (tgt := 25) (by decide +kernel : decode cX10_alike 19 = .ok (.ifnonnull 6, 3)) (by decide) ?_ ?_
    · refine q_aload_n C (by decide +kernel : decode cX10_alike 25 = .ok (.aload_n 0, 1)) ?_
      refine q_get C (ci := 10) (j := 9) (C0 := RX10) (T := TX10) (N := 10) rfl iX10 giX10 (by decide) w9_341 (by decide +kernel : decode cX10_alike 26 = .ok (.getfield 59, 3)) ?_
      refine q_aload_n C (by decide +kernel : decode cX10_alike 29 = .ok (.aload_n 3, 1)) ?_
      refine q_getN C (ci := 9) (j := 4) (C0 := RX9) (T := TX9) (N := 5) rfl iX9 giX9 (by decide) (by decide +kernel) (by decide +kernel : decode cX10_alike 30 = .ok (.getfield 189, 3)) ?_
      refine q_aload C (by decide +kernel : decode cX10_alike 33 = .ok (.aload 4, 2)) ?_
      refine q_getN C (ci := 9) (j := 4) (C0 := RX9) (T := TX9) (N := 5) rfl iX9 giX9 (by decide) (by decide +kernel) (by decide +kernel : decode cX10_alike 35 = .ok (.getfield 189, 3)) ?_
      refine q_aload_n C (by decide +kernel : decode cX10_alike 38 = .ok (.aload_n 0, 1)) ?_
      refine q_get C (ci := 10) (j := 8) (C0 := RX10) (T := TX10) (N := 10) rfl iX10 giX10 (by decide) w9_323 (by decide +kernel : decode cX10_alike 39 = .ok (.getfield 52, 3)) ?_
      refine q_call4 C (q_coV C (np := 3) (ci := 3) (rc := (RX3, TX3, 1)) (t_X3_measure l) w9_242 rfl rfl w9_342 w9_244 w9_245 w9_223 (by decide +kernel) (by decide +kernel : decode cX10_alike 42 = .ok (.invokevirtual 201, 3)) (by decide)) ?_
      exact q_iret C rfl (by decide +kernel : decode cX10_alike 45 = .ok (.ireturn, 1))
    · exact v_X10_alike_22 C hK
theorem u_X10_alike (l : Launch) {sp : q_Sp} (H : ∀ (av : List Value) (σ : q_S) (post : Option Value → q_S → Prop), sp av σ post → k_X10_alike_0 post (fun _ _ _ _ _ _ => False) (q_L0 av 5) [] σ 0 0 ∧ av.length ≤ 5 ∧ ∀ v ∈ av, v.category = 1) : q_Ct l yX10_alike cX10_alike 5 (some .int) rm_X10_alike sp := by
  refine q_met (by decide) ?_
  intro D A p e s m args below meth c σ av post C hsp
  obtain ⟨h1, h2, h3⟩ := H av σ post hsp
  exact ⟨_, v_X10_alike_0 (K := fun _ _ _ _ _ _ => False) C (fun h hh => by cases hh), h1, h2, h3⟩
theorem t_X10_alike (l : Launch) : q_Ct l yX10_alike cX10_alike 5 (some .int) rm_X10_alike s_X10_alike := u_X10_alike l (by
  intro av σ post h
  unfold s_X10_alike at h
  split at h
  · next r a b =>
    refine ⟨?_, by simp, by simp [Value.category]⟩
    obtain ⟨z, g, hR, hI, hLM, hLV, h1⟩ := h
    have hR0 := hR
    obtain ⟨Rg, P, AC, AR, WK, LC, CL, CM, CP, pa, aa, wa, sa, ga, la, lra, lc, lrn, hD⟩ := hR
    have e1 := hD.p1.2
    have e4 := hD.p4.1.2
    have o1 : q_oc σ r = some 10 := by simp only [q_oc, e1]
    have hI2 := hI
    unfold I1 at hI
    unfold F_alike at h1
    by_cases c : isW z a ∧ isW z b
    · rw [if_pos c] at h1
      obtain ⟨fa, hA, hfa⟩ := hD.lnF hI2 hLM c.1
      obtain ⟨fb, hB, hfb⟩ := hD.lnF hI2 hLM c.2
      obtain ⟨cc, hC, hcc⟩ := hD.cmF
      obtain ⟨T, hG⟩ := hD.p7
      have hla := ltN c.1.1 c.1.2
      have hlb := ltN c.2.1 c.2.2
      have w1 := (hD.p4.2 _ hla).2
      have w2 := (hD.p4.2 _ hlb).2
      have g1 : q_fld σ (wa a.toNatClampNeg) 9 4 = some (.ref (la a.toNatClampNeg)) := by simp only [q_fld, w1, if_true]; rfl
      have g2 : q_fld σ (wa b.toNatClampNeg) 9 4 = some (.ref (la b.toNatClampNeg)) := by simp only [q_fld, w2, if_true]; rfl
      have f8 : q_fld σ r 10 8 = some (.ref CL) := by simp only [q_fld, e1, if_true]; rfl
      have f9 : q_fld σ r 10 9 = some (.ref CP) := by simp only [q_fld, e1, if_true]; rfl
      have o7 : q_oc σ CP = some 3 := by obtain ⟨_, _, h1, -⟩ := hG; simp only [q_oc, h1.2]
      have hV := fun i h => hLV a.toNatClampNeg i (by rw [nI_self c.1.1]; exact c.1.2) (by have := hI2.n20; unfold nwF at this; omega) h
      have hlk := lk_eq (z := z) hfa hfb hcc hV
      simp only [c_push, c_null, c_iload, c_aload, c_istore, c_astore, c_iinc, c_iadd, c_isub, c_imul, c_iand, c_ineg, c_dup, c_dup2, c_pop, c_ifnull, c_ifnonnull, c_get, c_put, c_iald, c_zald, c_iast, c_zast, c_aald, c_aast, c_alen, c_new, c_newa, c_newq, c_mna, c_oinit, c_max, c_copy, c_iret, c_zret, c_aret, c_vret, q_do, q_rc, c_ifeq, c_ifne, c_iflt, c_ifge, c_ifgt, c_ifle, c_iceq, c_icne, c_iclt, c_icge, c_icgt, c_icle, c_call0, c_call1, c_call2, c_call3, c_call4, c_call5, c_call6, c_call7, q_L0, List.map_cons, List.map_nil, List.replicate, List.cons_append, List.nil_append, List.append_nil, List.length_cons, List.length_nil, List.length_set, Nat.reduceSub, Nat.reduceAdd, Nat.reduceLT, Nat.reduceLeDiff, Nat.zero_add, Nat.add_zero, Nat.sub_zero, Nat.sub_self, List.getElem?_cons_zero, List.getElem?_cons_succ, List.set_cons_zero, List.set_cons_succ, Option.toList_some, Option.toList_none, List.sum_cons, List.sum_nil, true_and, and_true, true_or, or_true, Nat.le_refl, Nat.zero_le, Value.category, Fin.isValue, Fin.val_zero, Fin.val_one, Fin.val_two, Fin.reduceFinMk, q_10, q_01, not_false_eq_true, not_true_eq_false, forall_const, true_implies, false_implies, implies_true, q_ni, q_fi, q_nb0, q_nb1, q_fb0, q_fb1, q_nor, q_nar, q_for, q_far, q_non, q_nan, q_fon, q_fan, imp_false, false_and, and_false, and_self, false_or, or_false, va_rf, refKind, k_X10_alike_0, k_X10_alike_22, o1, wAt e1 e4 hI.2.2.2.1, c.1, c.2, g1, g2, f8, f9, o7]
      refine ⟨_, T, _, fa, _, _, fb, _, _, _, cc, hG, hA, hB, hC, fun σ' T' hG' hf hT => ?_⟩
      rw [RN_cong hlk _ 0 0 (Nat.le_refl _)]
      simp only [c_push, c_null, c_iload, c_aload, c_istore, c_astore, c_iinc, c_iadd, c_isub, c_imul, c_iand, c_ineg, c_dup, c_dup2, c_pop, c_ifnull, c_ifnonnull, c_get, c_put, c_iald, c_zald, c_iast, c_zast, c_aald, c_aast, c_alen, c_new, c_newa, c_newq, c_mna, c_oinit, c_max, c_copy, c_iret, c_zret, c_aret, c_vret, q_do, q_rc, c_ifeq, c_ifne, c_iflt, c_ifge, c_ifgt, c_ifle, c_iceq, c_icne, c_iclt, c_icge, c_icgt, c_icle, c_call0, c_call1, c_call2, c_call3, c_call4, c_call5, c_call6, c_call7, q_L0, List.map_cons, List.map_nil, List.replicate, List.cons_append, List.nil_append, List.append_nil, List.length_cons, List.length_nil, List.length_set, Nat.reduceSub, Nat.reduceAdd, Nat.reduceLT, Nat.reduceLeDiff, Nat.zero_add, Nat.add_zero, Nat.sub_zero, Nat.sub_self, List.getElem?_cons_zero, List.getElem?_cons_succ, List.set_cons_zero, List.set_cons_succ, Option.toList_some, Option.toList_none, List.sum_cons, List.sum_nil, true_and, and_true, true_or, or_true, Nat.le_refl, Nat.zero_le, Value.category, Fin.isValue, Fin.val_zero, Fin.val_one, Fin.val_two, Fin.reduceFinMk, q_10, q_01, not_false_eq_true, not_true_eq_false, forall_const, true_implies, false_implies, implies_true, q_ni, q_fi, q_nb0, q_nb1, q_fb0, q_fb1, q_nor, q_nar, q_for, q_far, q_non, q_nan, q_fon, q_fan, imp_false, false_and, and_false, and_self, false_or, or_false, va_rf, refKind]
      exact h1 _ (hD.put7 hG' hf)
    · rw [if_neg c] at h1
      have h2 := h1 _ hR0
      simp only [c_push, c_null, c_iload, c_aload, c_istore, c_astore, c_iinc, c_iadd, c_isub, c_imul, c_iand, c_ineg, c_dup, c_dup2, c_pop, c_ifnull, c_ifnonnull, c_get, c_put, c_iald, c_zald, c_iast, c_zast, c_aald, c_aast, c_alen, c_new, c_newa, c_newq, c_mna, c_oinit, c_max, c_copy, c_iret, c_zret, c_aret, c_vret, q_do, q_rc, c_ifeq, c_ifne, c_iflt, c_ifge, c_ifgt, c_ifle, c_iceq, c_icne, c_iclt, c_icge, c_icgt, c_icle, c_call0, c_call1, c_call2, c_call3, c_call4, c_call5, c_call6, c_call7, q_L0, List.map_cons, List.map_nil, List.replicate, List.cons_append, List.nil_append, List.append_nil, List.length_cons, List.length_nil, List.length_set, Nat.reduceSub, Nat.reduceAdd, Nat.reduceLT, Nat.reduceLeDiff, Nat.zero_add, Nat.add_zero, Nat.sub_zero, Nat.sub_self, List.getElem?_cons_zero, List.getElem?_cons_succ, List.set_cons_zero, List.set_cons_succ, Option.toList_some, Option.toList_none, List.sum_cons, List.sum_nil, true_and, and_true, true_or, or_true, Nat.le_refl, Nat.zero_le, Value.category, Fin.isValue, Fin.val_zero, Fin.val_one, Fin.val_two, Fin.reduceFinMk, q_10, q_01, not_false_eq_true, not_true_eq_false, forall_const, true_implies, false_implies, implies_true, q_ni, q_fi, q_nb0, q_nb1, q_fb0, q_fb1, q_nor, q_nar, q_for, q_far, q_non, q_nan, q_fon, q_fan, imp_false, false_and, and_false, and_self, false_or, or_false, va_rf, refKind, k_X10_alike_0, k_X10_alike_22, o1, wAt e1 e4 hI.2.2.2.1]
      clear h1
      refine ⟨fun c1 => ⟨fun c2 => absurd ⟨c1, c2⟩ c, fun c2 => h2⟩, fun c1 => ⟨fun c2 => h2, fun c2 => h2⟩⟩
  · exact h.elim)
