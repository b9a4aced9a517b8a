-- agree, line of the register
def AGv (z : Nat → Int32) (g : Nat → Nat → Int32) : Prop := ∀ w p, w < nwF z → p < 12 → g 21 (12 * w + p) = 0 ∨ g 21 (12 * w + p) = 1
theorem LnP.cong {σ : q_S} {R : Nat → Prop} {la lra i : Nat} {g g' : Nat → Nat → Int32} (h : LnP σ R la lra i g) (h1 : g' 29 i = g 29 i) (h2 : ∀ j, j < lmN g i → g' 30 (20 * i + j) = g 30 (20 * i + j)) : LnP σ R la lra i g' := by
  obtain ⟨k1, f, k2, k3⟩ := h
  refine ⟨by rw [h1]; exact k1, f, k2, fun j hj => ?_⟩
  unfold lmN at hj
  rw [h1] at hj
  rw [h2 j hj]; exact k3 j hj
section RGP
variable {σ σ' : q_S} {Rg : Nat → Nat → Prop} {r P AC AR WK LC CL CM CP : Nat} {pa aa wa sa ga la lra lc : Nat → Nat} {lrn : Nat → Int32} {z : Nat → Int32} {g : Nat → Nat → Int32}
theorem Part.s2 {R : Nat → Prop} {i : Nat} (hi : i < nwF z) (h20 : nwF z ≤ 20) (h : AgP σ R (ga i) i g) : Part (200 + i) σ R r P AC AR WK LC CL CM CP pa aa wa sa ga la lra lc lrn z g := by
  unfold Part
  rw [if_neg (by omega), if_neg (by omega), if_neg (by omega), if_neg (by omega), if_neg (by omega), if_neg (by omega), if_neg (by omega), if_neg (by omega), if_pos (by omega), show 200 + i - 200 = i by omega]
  exact h
theorem Part.s3 {R : Nat → Prop} {i : Nat} (hi : i < nwF z) (h20 : nwF z ≤ 20) (h : LnP σ R (la i) (lra i) i g) : Part (300 + i) σ R r P AC AR WK LC CL CM CP pa aa wa sa ga la lra lc lrn z g := by
  unfold Part
  rw [if_neg (by omega), if_neg (by omega), if_neg (by omega), if_neg (by omega), if_neg (by omega), if_neg (by omega), if_neg (by omega), if_neg (by omega), if_neg (by omega), if_pos (by omega), show 300 + i - 300 = i by omega]
  exact h
theorem Part.s1 {R : Nat → Prop} {i : Nat} (hi : i < nwF z) (h20 : nwF z ≤ 20) (h : ShP σ R (sa i) i z g) : Part (100 + i) σ R r P AC AR WK LC CL CM CP pa aa wa sa ga la lra lc lrn z g := by
  unfold Part
  rw [if_neg (by omega), if_neg (by omega), if_neg (by omega), if_neg (by omega), if_neg (by omega), if_neg (by omega), if_neg (by omega), if_pos (by omega), show 100 + i - 100 = i by omega]
  exact h
end RGP
def s_X10_agree : q_Sp := fun av σ post => match av with
  | [.ref r, .int w, .int p, .int on] => ∃ z g, RegOK σ r z g ∧ I1 z ∧ AGv z g ∧ (on = 0 ∨ on = 1) ∧ ∀ σ', RegOK σ' r z (F_agree z g w p on).2 → post (some (.int (F_agree z g w p on).1)) σ'
  | _ => False
theorem w9_352 : (.code yX9_setAgreeing cX9_setAgreeing 4 (some .boolean) : Cond) ∈ lw_tbl := by decide +kernel
theorem w9_353 : (.initialized RX9 : Cond) ∈ lw_tbl := by decide +kernel
theorem w9_354 : (.methodLink RX10 171 yX9_setAgreeing : Cond) ∈ lw_tbl := by decide +kernel
theorem w9_355 : (.instanceMethod yX9_setAgreeing : Cond) ∈ lw_tbl := by decide +kernel
theorem w9_356 : (.selects RX9 yX9_setAgreeing yX9_setAgreeing : Cond) ∈ lw_tbl := by decide +kernel
def rm_X10_agree : Room := { frames := 1, cells := 0, slots := 0, locals := 23 }
def k_X10_agree_20 (post : Option Value → q_S → Prop) (K : Nat → q_K) : q_K := (c_push (-2) (c_iret post))
def k_X10_agree_0 (post : Option Value → q_S → Prop) (K : Nat → q_K) : q_K := (c_aload 0 (c_iload 1 (c_call2 (some 10) s_X10_workAt 0 0 (c_astore 4 (c_aload 4 (c_ifnull (k_X10_agree_20 post K) (c_aload 0 (c_iload 2 (c_call2 (some 10) s_X10_personAt 0 0 (c_ifnonnull (c_aload 4 (c_iload 2 (c_iload 3 (c_call3 (some 9) s_X9_setAgreeing 0 0 (c_call1 none s_X10_oneIf 0 0 (c_iret post)))))) (k_X10_agree_20 post K)))))))))))
set_option maxRecDepth 100000 in
theorem v_X10_agree_20 {p : Program} {l : Launch} {e : Env} {s : State} {m : MethodId} {args : Array Value} {below : List Frame} {meth : Method} {c : Code} {D : va_G} {A : Nat → Prop} {post : Option Value → q_S → Prop} {K : Nat → q_K} (C : q_C p s m args meth c cX10_agree 5 RX10 "agree" (some .int) A) (hK : ∀ h ∈ ([] : List Nat), q_V p l e rm_X10_agree s m args below meth c D A 5 (MQ below (q_Qc D A post) args s rm_X10_agree.cells rm_X10_agree.slots A) h (K h)) : q_V p l e rm_X10_agree s m args below meth c D A 5 (MQ below (q_Qc D A post) args s rm_X10_agree.cells rm_X10_agree.slots A) 20 (k_X10_agree_20 post K) := by
  unfold k_X10_agree_20
  refine q_bipush C (by decide +kernel : decode cX10_agree 20 = .ok (.bipush (-2), 2)) (by decide) ?_
  exact q_iret C rfl (by decide +kernel : decode cX10_agree 22 = .ok (.ireturn, 1))
set_option maxRecDepth 100000 in
theorem v_X10_agree_0 {p : Program} {l : Launch} {e : Env} {s : State} {m : MethodId} {args : Array Value} {below : List Frame} {meth : Method} {c : Code} {D : va_G} {A : Nat → Prop} {post : Option Value → q_S → Prop} {K : Nat → q_K} (C : q_C p s m args meth c cX10_agree 5 RX10 "agree" (some .int) A) (hK : ∀ h ∈ ([] : List Nat), q_V p l e rm_X10_agree s m args below meth c D A 5 (MQ below (q_Qc D A post) args s rm_X10_agree.cells rm_X10_agree.slots A) h (K h)) : q_V p l e rm_X10_agree s m args below meth c D A 5 (MQ below (q_Qc D A post) args s rm_X10_agree.cells rm_X10_agree.slots A) 0 (k_X10_agree_0 post K) := by
  unfold k_X10_agree_0
  refine q_aload_n C (by decide +kernel : decode cX10_agree 0 = .ok (.aload_n 0, 1)) ?_
  refine q_iload_n C (by decide +kernel : decode cX10_agree 1 = .ok (.iload_n 1, 1)) ?_
  refine q_call2 C (q_coV C (np := 1) (ci := 10) (rc := (RX10, TX10, 10)) (t_X10_workAt l) w9_337 rfl rfl w9_338 w9_339 w9_340 w9_1 (by decide +kernel) (by decide +kernel : decode cX10_agree 2 = .ok (.invokevirtual 87, 3)) (by decide)) ?_
  refine q_astore C (by decide +kernel : decode cX10_agree 5 = .ok (.astore 4, 2)) ?_
  refine q_aload C (by decide +kernel : decode cX10_agree 7 = .ok (.aload 4, 2)) ?_
  refine q_ifnull C (tgt := 20) (by decide +kernel : decode cX10_agree 9 = .ok (.ifnull 11, 3)) (by decide) ?_ ?_
  · exact v_X10_agree_20 C hK
  · refine q_aload_n C (by decide +kernel : decode cX10_agree 12 = .ok (.aload_n 0, 1)) ?_
    refine q_iload_n C (by decide +kernel : decode cX10_agree 13 = .ok (.iload_n 2, 1)) ?_
    refine q_call2 C (q_coV C (np := 1) (ci := 10) (rc := (RX10, TX10, 10)) (t_X10_personAt l) w9_316 rfl rfl w9_317 w9_318 w9_319 w9_1 (by decide +kernel) (by decide +kernel : decode cX10_agree 14 = .ok (.invokevirtual 68, 3)) (by decide)) ?_
    refine q_ifnonnull C (tgt := 23) (by decide +kernel : decode cX10_agree 17 = .ok (.ifnonnull 6, 3)) (by decide) ?_ ?_
    · refine q_aload C (by decide +kernel : decode cX10_agree 23 = .ok (.aload 4, 2)) ?_
      refine q_iload_n C (by decide +kernel : decode cX10_agree 25 = .ok (.iload_n 2, 1)) ?_
      refine q_iload_n C (by decide +kernel : decode cX10_agree 26 = .ok (.iload_n 3, 1)) ?_
      refine q_call3 C (q_coV C (np := 2) (ci := 9) (rc := (RX9, TX9, 5)) (t_X9_setAgreeing l) w9_352 rfl rfl w9_354 w9_355 w9_356 w9_353 (by decide +kernel) (by decide +kernel : decode cX10_agree 27 = .ok (.invokevirtual 171, 3)) (by decide)) ?_
      refine q_call1 C (q_coS C (np := 1) (t_X10_oneIf l) w9_158 w9_351 w9_159 w9_1 (by decide +kernel) (by decide +kernel : decode cX10_agree 30 = .ok (.invokestatic 139, 3)) (by decide)) ?_
      exact q_iret C rfl (by decide +kernel : decode cX10_agree 33 = .ok (.ireturn, 1))
    · exact v_X10_agree_20 C hK
theorem u_X10_agree (l : Launch) {sp : q_Sp} (H : ∀ (av : List Value) (σ : q_S) (post : Option Value → q_S → Prop), sp av σ post → k_X10_agree_0 post (fun _ _ _ _ _ _ => False) (q_L0 av 5) [] σ 0 0 ∧ av.length ≤ 5 ∧ ∀ v ∈ av, v.category = 1) : q_Ct l yX10_agree cX10_agree 5 (some .int) rm_X10_agree sp := by
  refine q_met (by decide) ?_
  intro D A p e s m args below meth c σ av post C hsp
  obtain ⟨h1, h2, h3⟩ := H av σ post hsp
  exact ⟨_, v_X10_agree_0 (K := fun _ _ _ _ _ _ => False) C (fun h hh => by cases hh), h1, h2, h3⟩
theorem t_X10_agree (l : Launch) : q_Ct l yX10_agree cX10_agree 5 (some .int) rm_X10_agree s_X10_agree := u_X10_agree l (by
  intro av σ post h
  unfold s_X10_agree at h
  split at h
  · next r w p on =>
    refine ⟨?_, by simp, by simp [Value.category]⟩
    obtain ⟨z, g, hR, hI, hAG, hon, h1⟩ := h
    have hR0 := hR
    obtain ⟨Rg, P, AC, AR, WK, LC, CL, CM, CP, pa, aa, wa, sa, ga, la, lra, lc, lrn, hD⟩ := hR
    have e1 := hD.p1.2
    have e2 := hD.p2.1.2
    have e4 := hD.p4.1.2
    have o1 : q_oc σ r = some 10 := by simp only [q_oc, e1]
    have h20 := hI.n20
    unfold I1 at hI
    unfold F_agree at h1
    by_cases c : isW z w ∧ isP z p
    · rw [if_pos c] at h1
      dsimp only at h1
      have hlw : w.toNatClampNeg < nwF z := ltN c.1.1 c.1.2
      have hp2 : 0 ≤ p ∧ p < 12 := ⟨c.2.1, by grind⟩
      have hpn := clamp_lt 12 hp2.1 hp2.2
      have w1 := (hD.p4.2 _ hlw).2
      obtain ⟨f, k1, k2⟩ := hD.ag hlw h20
      have o9 : q_oc σ (wa w.toNatClampNeg) = some 9 := by simp only [q_oc, w1]
      have ef := k2 _ hpn
      have hag := hAG _ _ hlw hpn
      simp only [c_push, c_null, c_iload, c_aload, c_istore, c_astore, c_iinc, c_iadd, c_isub, c_imul, c_iand, c_ineg, c_dup, c_dup2, c_pop, c_ifnull, c_ifnonnull, c_get, c_put, c_iald, c_zald, c_iast, c_zast, c_aald, c_aast, c_alen, c_new, c_newa, c_newq, c_mna, c_oinit, c_max, c_copy, c_iret, c_zret, c_aret, c_vret, q_do, q_rc, c_ifeq, c_ifne, c_iflt, c_ifge, c_ifgt, c_ifle, c_iceq, c_icne, c_iclt, c_icge, c_icgt, c_icle, c_call0, c_call1, c_call2, c_call3, c_call4, c_call5, c_call6, c_call7, q_L0, List.map_cons, List.map_nil, List.replicate, List.cons_append, List.nil_append, List.append_nil, List.length_cons, List.length_nil, List.length_set, Nat.reduceSub, Nat.reduceAdd, Nat.reduceLT, Nat.reduceLeDiff, Nat.zero_add, Nat.add_zero, Nat.sub_zero, Nat.sub_self, List.getElem?_cons_zero, List.getElem?_cons_succ, List.set_cons_zero, List.set_cons_succ, Option.toList_some, Option.toList_none, List.sum_cons, List.sum_nil, true_and, and_true, true_or, or_true, Nat.le_refl, Nat.zero_le, Value.category, Fin.isValue, Fin.val_zero, Fin.val_one, Fin.val_two, Fin.reduceFinMk, q_10, q_01, not_false_eq_true, not_true_eq_false, forall_const, true_implies, false_implies, implies_true, q_ni, q_fi, q_nb0, q_nb1, q_fb0, q_fb1, q_nor, q_nar, q_for, q_far, q_non, q_nan, q_fon, q_fan, imp_false, false_and, and_false, and_self, false_or, or_false, va_rf, refKind, k_X10_agree_0, k_X10_agree_20, o1, o9, wAt e1 e4 hI.2.2.2.1, pAt e1 e2 hI.2.1, c.1, c.2, s_X9_setAgreeing, w1, k1.2, s_X10_oneIf]
      rw [ef]
      refine ⟨hp2.2, hon, hag, ?_⟩
      have a := h1 _ (hD.put1 (lrn' := lrn) (σ' := q_up σ (ga w.toNatClampNeg) (.inl (.boolean, 12, .inl (upd f p.toNatClampNeg on)))) (200 + w.toNatClampNeg) (q_fm.up k1.1) (Part.s2 hlw h20 ⟨_, ⟨k1.1, q_up_s⟩, fun q hq => by
          rw [gup_s]
          unfold upd i21
          by_cases e : q = p.toNatClampNeg
          · rw [if_pos e, if_pos (by omega)]
          · rw [if_neg e, if_neg (by omega)]; exact k2 q hq⟩)
        (fun k hk h => h.cong (fun _ h => h) (fun _ h => h) (fun _ h => h) (fun _ h => h) (fun _ h => h) (fun _ h => h) (fun i _ hi => ⟨hi, fun h => h.cong (Int32.le_refl _) rfl rfl rfl rfl rfl rfl rfl rfl rfl⟩) (fun i e hi => ⟨hi, fun h => by
            obtain ⟨f2, j1, j2⟩ := h
            refine ⟨f2, j1, fun q hq => ?_⟩
            rw [gup_s, if_neg (by unfold i21; omega)]; exact j2 q hq⟩) (fun i _ hi => ⟨hi, fun h => h⟩) h20 h20))
      clear h1
      exact ⟨fun c9 => by rw [if_pos c9] at a; exact a, fun c9 => by rw [if_neg c9] at a; exact a⟩
    · rw [if_neg c] at h1
      have h2 := h1 _ hR0
      clear h1
      by_cases ca : 0 ≤ w ∧ w < z 11
      · have cb : ¬ (0 ≤ p ∧ p < z 1) := fun h => c ⟨ca, h⟩
        simp only [c_push, c_null, c_iload, c_aload, c_istore, c_astore, c_iinc, c_iadd, c_isub, c_imul, c_iand, c_ineg, c_dup, c_dup2, c_pop, c_ifnull, c_ifnonnull, c_get, c_put, c_iald, c_zald, c_iast, c_zast, c_aald, c_aast, c_alen, c_new, c_newa, c_newq, c_mna, c_oinit, c_max, c_copy, c_iret, c_zret, c_aret, c_vret, q_do, q_rc, c_ifeq, c_ifne, c_iflt, c_ifge, c_ifgt, c_ifle, c_iceq, c_icne, c_iclt, c_icge, c_icgt, c_icle, c_call0, c_call1, c_call2, c_call3, c_call4, c_call5, c_call6, c_call7, q_L0, List.map_cons, List.map_nil, List.replicate, List.cons_append, List.nil_append, List.append_nil, List.length_cons, List.length_nil, List.length_set, Nat.reduceSub, Nat.reduceAdd, Nat.reduceLT, Nat.reduceLeDiff, Nat.zero_add, Nat.add_zero, Nat.sub_zero, Nat.sub_self, List.getElem?_cons_zero, List.getElem?_cons_succ, List.set_cons_zero, List.set_cons_succ, Option.toList_some, Option.toList_none, List.sum_cons, List.sum_nil, true_and, and_true, true_or, or_true, Nat.le_refl, Nat.zero_le, Value.category, Fin.isValue, Fin.val_zero, Fin.val_one, Fin.val_two, Fin.reduceFinMk, q_10, q_01, not_false_eq_true, not_true_eq_false, forall_const, true_implies, false_implies, implies_true, q_ni, q_fi, q_nb0, q_nb1, q_fb0, q_fb1, q_nor, q_nar, q_for, q_far, q_non, q_nan, q_fon, q_fan, imp_false, false_and, and_false, and_self, false_or, or_false, va_rf, refKind, k_X10_agree_0, k_X10_agree_20, o1, wAt e1 e4 hI.2.2.2.1, pAt e1 e2 hI.2.1, ca, cb, h2]
      · simp only [c_push, c_null, c_iload, c_aload, c_istore, c_astore, c_iinc, c_iadd, c_isub, c_imul, c_iand, c_ineg, c_dup, c_dup2, c_pop, c_ifnull, c_ifnonnull, c_get, c_put, c_iald, c_zald, c_iast, c_zast, c_aald, c_aast, c_alen, c_new, c_newa, c_newq, c_mna, c_oinit, c_max, c_copy, c_iret, c_zret, c_aret, c_vret, q_do, q_rc, c_ifeq, c_ifne, c_iflt, c_ifge, c_ifgt, c_ifle, c_iceq, c_icne, c_iclt, c_icge, c_icgt, c_icle, c_call0, c_call1, c_call2, c_call3, c_call4, c_call5, c_call6, c_call7, q_L0, List.map_cons, List.map_nil, List.replicate, List.cons_append, List.nil_append, List.append_nil, List.length_cons, List.length_nil, List.length_set, Nat.reduceSub, Nat.reduceAdd, Nat.reduceLT, Nat.reduceLeDiff, Nat.zero_add, Nat.add_zero, Nat.sub_zero, Nat.sub_self, List.getElem?_cons_zero, List.getElem?_cons_succ, List.set_cons_zero, List.set_cons_succ, Option.toList_some, Option.toList_none, List.sum_cons, List.sum_nil, true_and, and_true, true_or, or_true, Nat.le_refl, Nat.zero_le, Value.category, Fin.isValue, Fin.val_zero, Fin.val_one, Fin.val_two, Fin.reduceFinMk, q_10, q_01, not_false_eq_true, not_true_eq_false, forall_const, true_implies, false_implies, implies_true, q_ni, q_fi, q_nb0, q_nb1, q_fb0, q_fb1, q_nor, q_nar, q_for, q_far, q_non, q_nan, q_fon, q_fan, imp_false, false_and, and_false, and_self, false_or, or_false, va_rf, refKind, k_X10_agree_0, k_X10_agree_20, o1, wAt e1 e4 hI.2.2.2.1, pAt e1 e2 hI.2.1, ca, h2]
  · exact h.elim)
def s_X10_line : q_Sp := fun av σ post => match av with
  | [.ref r, .int w, .int x] => ∃ z g, RegOK σ r z g ∧ I1 z ∧ LM z g ∧ ∀ σ', RegOK σ' r z (F_line z g w x).2 → post (some (.int (F_line z g w x).1)) σ'
  | _ => False
theorem w9_357 : (.code yX5_append cX5_append 2 (some .int) : Cond) ∈ lw_tbl := by decide +kernel
theorem w9_358 : (.methodLink RX10 193 yX5_append : Cond) ∈ lw_tbl := by decide +kernel
theorem w9_359 : (.instanceMethod yX5_append : Cond) ∈ lw_tbl := by decide +kernel
theorem w9_360 : (.selects RX5 yX5_append yX5_append : Cond) ∈ lw_tbl := by decide +kernel
def rm_X10_line : Room := { frames := 1, cells := 0, slots := 0, locals := 22 }
def k_X10_line_21 (post : Option Value → q_S → Prop) (K : Nat → q_K) : q_K := (c_push (-2) (c_iret post))
def k_X10_line_0 (post : Option Value → q_S → Prop) (K : Nat → q_K) : q_K := (c_aload 0 (c_iload 1 (c_call2 (some 10) s_X10_workAt 0 0 (c_astore 3 (c_aload 3 (c_ifnull (k_X10_line_21 post K) (c_iload 2 (c_push 1 (c_push 999 (c_call3 none s_X10_isWithin 0 0 (c_ifne (c_aload 3 (c_get 9 4 (c_iload 2 (c_call2 (some 5) s_X5_append 0 0 (c_iret post))))) (k_X10_line_21 post K))))))))))))
set_option maxRecDepth 100000 in
theorem v_X10_line_21 {p : Program} {l : Launch} {e : Env} {s : State} {m : MethodId} {args : Array Value} {below : List Frame} {meth : Method} {c : Code} {D : va_G} {A : Nat → Prop} {post : Option Value → q_S → Prop} {K : Nat → q_K} (C : q_C p s m args meth c cX10_line 4 RX10 "line" (some .int) A) (hK : ∀ h ∈ ([] : List Nat), q_V p l e rm_X10_line s m args below meth c D A 4 (MQ below (q_Qc D A post) args s rm_X10_line.cells rm_X10_line.slots A) h (K h)) : q_V p l e rm_X10_line s m args below meth c D A 4 (MQ below (q_Qc D A post) args s rm_X10_line.cells rm_X10_line.slots A) 21 (k_X10_line_21 post K) := by
  unfold k_X10_line_21
  refine q_bipush C (by decide +kernel : decode cX10_line 21 = .ok (.bipush (-2), 2)) (by decide) ?_
  exact q_iret C rfl (by decide +kernel : decode cX10_line 23 = .ok (.ireturn, 1))
set_option maxRecDepth 100000 in
theorem v_X10_line_0 {p : Program} {l : Launch} {e : Env} {s : State} {m : MethodId} {args : Array Value} {below : List Frame} {meth : Method} {c : Code} {D : va_G} {A : Nat → Prop} {post : Option Value → q_S → Prop} {K : Nat → q_K} (C : q_C p s m args meth c cX10_line 4 RX10 "line" (some .int) A) (hK : ∀ h ∈ ([] : List Nat), q_V p l e rm_X10_line s m args below meth c D A 4 (MQ below (q_Qc D A post) args s rm_X10_line.cells rm_X10_line.slots A) h (K h)) : q_V p l e rm_X10_line s m args below meth c D A 4 (MQ below (q_Qc D A post) args s rm_X10_line.cells rm_X10_line.slots A) 0 (k_X10_line_0 post K) := by
  unfold k_X10_line_0
  refine q_aload_n C (by decide +kernel : decode cX10_line 0 = .ok (.aload_n 0, 1)) ?_
  refine q_iload_n C (by decide +kernel : decode cX10_line 1 = .ok (.iload_n 1, 1)) ?_
  refine q_call2 C (q_coV C (np := 1) (ci := 10) (rc := (RX10, TX10, 10)) (t_X10_workAt l) w9_337 rfl rfl w9_338 w9_339 w9_340 w9_1 (by decide +kernel) (by decide +kernel : decode cX10_line 2 = .ok (.invokevirtual 87, 3)) (by decide)) ?_
  refine q_astore_n C (by decide +kernel : decode cX10_line 5 = .ok (.astore_n 3, 1)) ?_
  refine q_aload_n C (by decide +kernel : decode cX10_line 6 = .ok (.aload_n 3, 1)) ?_
  refine q_ifnull C (tgt := 21) (by decide +kernel : decode cX10_line 7 = .ok (.ifnull 14, 3)) (by decide) ?_ ?_
  · exact v_X10_line_21 C hK
  · refine q_iload_n C (by decide +kernel : decode cX10_line 10 = .ok (.iload_n 2, 1)) ?_
    refine q_iconst C (by decide +kernel : decode cX10_line 11 = .ok (.iconst 1, 1)) (by decide) ?_
    refine q_sipush C (by decide +kernel : decode cX10_line 12 = .ok (.sipush 999, 3)) (by decide) ?_
    refine q_call3 C (q_coS C (np := 3) (t_X10_isWithin l) w9_0 w9_3 w9_2 w9_1 (by decide +kernel) (by decide +kernel : decode cX10_line 15 = .ok (.invokestatic 63, 3)) (by decide)) ?_
    refine q_ifne C (tgt := 24) (by decide +kernel : decode cX10_line 18 = .ok (.ifCond .ne 6, 3)) (by decide) ?_ ?_
    · refine q_aload_n C (by decide +kernel : decode cX10_line 24 = .ok (.aload_n 3, 1)) ?_
      refine q_getN C (ci := 9) (j := 4) (C0 := RX9) (T := TX9) (N := 5) rfl iX9 giX9 (by decide) (by decide +kernel) (by decide +kernel : decode cX10_line 25 = .ok (.getfield 189, 3)) ?_
      refine q_iload_n C (by decide +kernel : decode cX10_line 28 = .ok (.iload_n 2, 1)) ?_
      refine q_call2 C (q_coV C (np := 1) (ci := 5) (rc := (RX5, TX5, 2)) (t_X5_append l) w9_357 rfl rfl w9_358 w9_359 w9_360 w9_151 (by decide +kernel) (by decide +kernel : decode cX10_line 29 = .ok (.invokevirtual 193, 3)) (by decide)) ?_
      exact q_iret C rfl (by decide +kernel : decode cX10_line 32 = .ok (.ireturn, 1))
    · exact v_X10_line_21 C hK
theorem u_X10_line (l : Launch) {sp : q_Sp} (H : ∀ (av : List Value) (σ : q_S) (post : Option Value → q_S → Prop), sp av σ post → k_X10_line_0 post (fun _ _ _ _ _ _ => False) (q_L0 av 4) [] σ 0 0 ∧ av.length ≤ 4 ∧ ∀ v ∈ av, v.category = 1) : q_Ct l yX10_line cX10_line 4 (some .int) rm_X10_line sp := by
  refine q_met (by decide) ?_
  intro D A p e s m args below meth c σ av post C hsp
  obtain ⟨h1, h2, h3⟩ := H av σ post hsp
  exact ⟨_, v_X10_line_0 (K := fun _ _ _ _ _ _ => False) C (fun h hh => by cases hh), h1, h2, h3⟩
theorem t_X10_line (l : Launch) : q_Ct l yX10_line cX10_line 4 (some .int) rm_X10_line s_X10_line := u_X10_line l (by
  intro av σ post h
  unfold s_X10_line at h
  split at h
  · next r w x =>
    refine ⟨?_, by simp, by simp [Value.category]⟩
    obtain ⟨z, g, hR, hI, hLM, h1⟩ := h
    have hR0 := hR
    obtain ⟨Rg, P, AC, AR, WK, LC, CL, CM, CP, pa, aa, wa, sa, ga, la, lra, lc, lrn, hD⟩ := hR
    have e1 := hD.p1.2
    have e4 := hD.p4.1.2
    have o1 : q_oc σ r = some 10 := by simp only [q_oc, e1]
    have h20 := hI.n20
    unfold I1 at hI
    unfold F_line at h1
    by_cases c : isW z w ∧ 1 ≤ x ∧ x ≤ 999
    · rw [if_pos c] at h1
      have hlw : w.toNatClampNeg < nwF z := ltN c.1.1 c.1.2
      have w1 := (hD.p4.2 _ hlw).2
      have hl := hLM.at c.1.1 c.1.2 (by grind)
      have hl20 := clamp_le 20 hl.1 hl.2
      obtain ⟨k1, f, k2, k3⟩ := hD.ln hlw h20
      have g1 : q_fld σ (wa w.toNatClampNeg) 9 4 = some (.ref (la w.toNatClampNeg)) := by simp only [q_fld, w1, if_true]; rfl
      have o5 : q_oc σ (la w.toNatClampNeg) = some 5 := by simp only [q_oc, k1.2]
      simp only [c_push, c_null, c_iload, c_aload, c_istore, c_astore, c_iinc, c_iadd, c_isub, c_imul, c_iand, c_ineg, c_dup, c_dup2, c_pop, c_ifnull, c_ifnonnull, c_get, c_put, c_iald, c_zald, c_iast, c_zast, c_aald, c_aast, c_alen, c_new, c_newa, c_newq, c_mna, c_oinit, c_max, c_copy, c_iret, c_zret, c_aret, c_vret, q_do, q_rc, c_ifeq, c_ifne, c_iflt, c_ifge, c_ifgt, c_ifle, c_iceq, c_icne, c_iclt, c_icge, c_icgt, c_icle, c_call0, c_call1, c_call2, c_call3, c_call4, c_call5, c_call6, c_call7, q_L0, List.map_cons, List.map_nil, List.replicate, List.cons_append, List.nil_append, List.append_nil, List.length_cons, List.length_nil, List.length_set, Nat.reduceSub, Nat.reduceAdd, Nat.reduceLT, Nat.reduceLeDiff, Nat.zero_add, Nat.add_zero, Nat.sub_zero, Nat.sub_self, List.getElem?_cons_zero, List.getElem?_cons_succ, List.set_cons_zero, List.set_cons_succ, Option.toList_some, Option.toList_none, List.sum_cons, List.sum_nil, true_and, and_true, true_or, or_true, Nat.le_refl, Nat.zero_le, Value.category, Fin.isValue, Fin.val_zero, Fin.val_one, Fin.val_two, Fin.reduceFinMk, q_10, q_01, not_false_eq_true, not_true_eq_false, forall_const, true_implies, false_implies, implies_true, q_ni, q_fi, q_nb0, q_nb1, q_fb0, q_fb1, q_nor, q_nar, q_for, q_far, q_non, q_nan, q_fon, q_fan, imp_false, false_and, and_false, and_self, false_or, or_false, va_rf, refKind, k_X10_line_0, k_X10_line_21, o1, o5, g1, wAt e1 e4 hI.2.2.2.1, c.1, c.2, s_X10_isWithin, s_X5_append, k1.2, k2.2]
      refine ⟨hl, fun c3 => ?_, fun c3 => ?_⟩
      · rw [if_pos c3] at h1
        exact h1 _ hR0
      · rw [if_neg c3] at h1
        dsimp only at h1
        have hlt : (g 29 w.toNatClampNeg).toNatClampNeg < 20 := clamp_lt 20 hl.1 (by grind)
        have en : (g 29 w.toNatClampNeg + 1).toNatClampNeg = (g 29 w.toNatClampNeg).toNatClampNeg + 1 := by
          have e := nI_self hl.1
          rw [← e, nI_1, clN (by omega), clN (by omega)]
        refine h1 _ (hD.put1 (lrn' := lrn) (300 + w.toNatClampNeg) ((q_fm.up k2.1).trans (q_fm.up k1.1)) (Part.s3 hlw h20 ⟨⟨k1.1, by rw [q_up_s, gup_s, if_pos rfl]⟩, _, ⟨k2.1, by rw [q_up_n (ne_ao k2.2 k1.2), q_up_s]⟩, fun j hj => ?_⟩)
          (fun k hk h => h.cong (fun _ h => h) (fun _ h => h) (fun _ h => h) (fun _ h => h) (fun _ h => h) (fun _ h => h) (fun i _ hi => ⟨hi, fun h => h.cong (Int32.le_refl _) rfl rfl rfl rfl rfl rfl rfl rfl rfl⟩) (fun i _ hi => ⟨hi, fun h => h⟩) (fun i e hi => ⟨hi, fun h => h.cong (by rw [gup_s, if_neg (by omega), gup_n (by decide)]) (fun j hj => ?_)⟩) h20 h20))
        · unfold lmN at hj
          rw [gup_s, if_pos rfl, en] at hj
          rw [gup_n (by decide), gup_s]
          unfold upd
          by_cases e : j = (g 29 w.toNatClampNeg).toNatClampNeg
          · rw [if_pos e, if_pos (by omega)]
          · rw [if_neg e, if_neg (by omega)]; exact k3 j (by unfold lmN; omega)
        · have hli := hLM i (by
            have := nI_self hI.2.2.2.1.1
            rw [← this]
            exact (cl2 _ _ _ _ rfl rfl (by omega) (by unfold nwF at h20; omega)).2.1.mpr hi) (by omega)
          have hli2 := clamp_le 20 hli.1 hli.2
          rw [gup_n (by decide), gup_s, if_neg]
          intro e9
          unfold lmN at hj
          omega
    · rw [if_neg c] at h1
      have h2 := h1 _ hR0
      clear h1
      by_cases ca : 0 ≤ w ∧ w < z 11
      · have cb : ¬ (1 ≤ x ∧ x ≤ 999) := fun h => c ⟨ca, h⟩
        simp only [c_push, c_null, c_iload, c_aload, c_istore, c_astore, c_iinc, c_iadd, c_isub, c_imul, c_iand, c_ineg, c_dup, c_dup2, c_pop, c_ifnull, c_ifnonnull, c_get, c_put, c_iald, c_zald, c_iast, c_zast, c_aald, c_aast, c_alen, c_new, c_newa, c_newq, c_mna, c_oinit, c_max, c_copy, c_iret, c_zret, c_aret, c_vret, q_do, q_rc, c_ifeq, c_ifne, c_iflt, c_ifge, c_ifgt, c_ifle, c_iceq, c_icne, c_iclt, c_icge, c_icgt, c_icle, c_call0, c_call1, c_call2, c_call3, c_call4, c_call5, c_call6, c_call7, q_L0, List.map_cons, List.map_nil, List.replicate, List.cons_append, List.nil_append, List.append_nil, List.length_cons, List.length_nil, List.length_set, Nat.reduceSub, Nat.reduceAdd, Nat.reduceLT, Nat.reduceLeDiff, Nat.zero_add, Nat.add_zero, Nat.sub_zero, Nat.sub_self, List.getElem?_cons_zero, List.getElem?_cons_succ, List.set_cons_zero, List.set_cons_succ, Option.toList_some, Option.toList_none, List.sum_cons, List.sum_nil, true_and, and_true, true_or, or_true, Nat.le_refl, Nat.zero_le, Value.category, Fin.isValue, Fin.val_zero, Fin.val_one, Fin.val_two, Fin.reduceFinMk, q_10, q_01, not_false_eq_true, not_true_eq_false, forall_const, true_implies, false_implies, implies_true, q_ni, q_fi, q_nb0, q_nb1, q_fb0, q_fb1, q_nor, q_nar, q_for, q_far, q_non, q_nan, q_fon, q_fan, imp_false, false_and, and_false, and_self, false_or, or_false, va_rf, refKind, k_X10_line_0, k_X10_line_21, o1, wAt e1 e4 hI.2.2.2.1, s_X10_isWithin, ca, cb, h2]
      · simp only [c_push, c_null, c_iload, c_aload, c_istore, c_astore, c_iinc, c_iadd, c_isub, c_imul, c_iand, c_ineg, c_dup, c_dup2, c_pop, c_ifnull, c_ifnonnull, c_get, c_put, c_iald, c_zald, c_iast, c_zast, c_aald, c_aast, c_alen, c_new, c_newa, c_newq, c_mna, c_oinit, c_max, c_copy, c_iret, c_zret, c_aret, c_vret, q_do, q_rc, c_ifeq, c_ifne, c_iflt, c_ifge, c_ifgt, c_ifle, c_iceq, c_icne, c_iclt, c_icge, c_icgt, c_icle, c_call0, c_call1, c_call2, c_call3, c_call4, c_call5, c_call6, c_call7, q_L0, List.map_cons, List.map_nil, List.replicate, List.cons_append, List.nil_append, List.append_nil, List.length_cons, List.length_nil, List.length_set, Nat.reduceSub, Nat.reduceAdd, Nat.reduceLT, Nat.reduceLeDiff, Nat.zero_add, Nat.add_zero, Nat.sub_zero, Nat.sub_self, List.getElem?_cons_zero, List.getElem?_cons_succ, List.set_cons_zero, List.set_cons_succ, Option.toList_some, Option.toList_none, List.sum_cons, List.sum_nil, true_and, and_true, true_or, or_true, Nat.le_refl, Nat.zero_le, Value.category, Fin.isValue, Fin.val_zero, Fin.val_one, Fin.val_two, Fin.reduceFinMk, q_10, q_01, not_false_eq_true, not_true_eq_false, forall_const, true_implies, false_implies, implies_true, q_ni, q_fi, q_nb0, q_nb1, q_fb0, q_fb1, q_nor, q_nar, q_for, q_far, q_non, q_nan, q_fon, q_fan, imp_false, false_and, and_false, and_self, false_or, or_false, va_rf, refKind, k_X10_line_0, k_X10_line_21, o1, wAt e1 e4 hI.2.2.2.1, s_X10_isWithin, ca, h2]
  · exact h.elim)
