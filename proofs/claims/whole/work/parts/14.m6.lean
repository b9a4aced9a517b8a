-- pledge, redeem, held, agree
abbrev i20 (w p q : Int32) : Nat := 144 * w.toNatClampNeg + 12 * p.toNatClampNeg + q.toNatClampNeg
abbrev i21 (w p : Int32) : Nat := 12 * w.toNatClampNeg + p.toNatClampNeg
theorem at20 {w p q : Int32} (hw : 0 ≤ w ∧ w < 20) (hp : 0 ≤ p ∧ p < 12) (hq : 0 ≤ q ∧ q < 12) : (0 ≤ 144 * w + 12 * p + q ∧ 144 * w + 12 * p + q < 2880) ∧ (144 * w + 12 * p + q).toNatClampNeg = i20 w p q := by
  obtain ⟨wn, hwn, rfl, e1⟩ := inR 20 hw.1 hw.2
  obtain ⟨pn, hpn, rfl, e2⟩ := inR 12 hp.1 hp.2
  obtain ⟨qn, hqn, rfl, e3⟩ := inR 12 hq.1 hq.2
  rw [idx20]
  unfold i20
  rw [e1, e2, e3]
  exact ⟨⟨nI_low (by omega), nI_ltN (N := 2880) (by omega)⟩, clN (by omega)⟩
theorem at21 {w p : Int32} (hw : 0 ≤ w ∧ w < 20) (hp : 0 ≤ p ∧ p < 12) : (0 ≤ 12 * w + p ∧ 12 * w + p < 240) ∧ (12 * w + p).toNatClampNeg = i21 w p := by
  obtain ⟨wn, hwn, rfl, e1⟩ := inR 20 hw.1 hw.2
  obtain ⟨pn, hpn, rfl, e2⟩ := inR 12 hp.1 hp.2
  rw [idx21]
  unfold i21
  rw [e1, e2]
  exact ⟨⟨nI_low (by omega), nI_ltN (N := 240) (by omega)⟩, clN (by omega)⟩
def F_pledge (z : Nat → Int32) (g : Nat → Nat → Int32) (w a b n : Int32) : Int32 × (Nat → Nat → Int32) :=
  if twoF z w a b ∧ 1 ≤ n ∧ n ≤ 16 then if freeF z g w a < n then (-3, g) else (plF (gup g 20 (i20 w a b) (g 20 (i20 w a b) + n)) w.toNatClampNeg a.toNatClampNeg 12, gup g 20 (i20 w a b) (g 20 (i20 w a b) + n)) else (-2, g)
def s_X11_pledge : q_Sp := fun av σ post => match av with
  | [.ref mr, .int w, .int a, .int b, .int n] => ∃ ad z g, mOK σ mr ad z g ∧ I1 z ∧ ∀ σ', mOK σ' mr ad z (F_pledge z g w a b n).2 → post (some (.int (F_pledge z g w a b n).1)) σ'
  | _ => False
def rm_X11_pledge : Room := { frames := 3, cells := 0, slots := 0, locals := 66 }
def k_X11_pledge_21 (post : Option Value → q_S → Prop) (K : Nat → q_K) : q_K := (c_push (-2) (c_iret post))
def k_X11_pledge_0 (post : Option Value → q_S → Prop) (K : Nat → q_K) : q_K := (c_aload 0 (c_iload 1 (c_iload 2 (c_iload 3 (c_call4 (some 11) s_X11_areTwo 0 0 (c_ifeq (k_X11_pledge_21 post K) (c_iload 4 (c_push 1 (c_push 16 (c_call3 none s_X11_in 0 0 (c_ifne (c_aload 0 (c_iload 1 (c_iload 2 (c_call3 (some 11) s_X11_freeOf 0 0 (c_iload 4 (c_icge (c_aload 0 (c_get 11 20 (c_push 144 (c_iload 1 (c_imul (c_push 12 (c_iload 2 (c_imul (c_iadd (c_iload 3 (c_iadd (c_dup2 (c_iald (c_iload 4 (c_iadd (c_iast (c_aload 0 (c_iload 1 (c_iload 2 (c_call3 (some 11) s_X11_pledgedBy 0 0 (c_iret post))))))))))))))))))))) (c_push (-3) (c_iret post)))))))) (k_X11_pledge_21 post K))))))))))))
set_option maxRecDepth 100000 in
theorem v_X11_pledge_21 {p : Program} {l : Launch} {e : Env} {s : State} {m : MethodId} {args : Array Value} {below : List Frame} {meth : Method} {c : Code} {D : va_G} {A : Nat → Prop} {post : Option Value → q_S → Prop} {K : Nat → q_K} (C : q_C p s m args meth c cX11_pledge 5 RX11 "pledge" (some .int) A) (hK : ∀ h ∈ ([] : List Nat), q_V p l e rm_X11_pledge s m args below meth c D A 5 (MQ below (q_Qc D A post) args s rm_X11_pledge.cells rm_X11_pledge.slots A) h (K h)) : q_V p l e rm_X11_pledge s m args below meth c D A 5 (MQ below (q_Qc D A post) args s rm_X11_pledge.cells rm_X11_pledge.slots A) 21 (k_X11_pledge_21 post K) := by
  unfold k_X11_pledge_21
  refine q_bipush C (by decide +kernel : decode cX11_pledge 21 = .ok (.bipush (-2), 2)) (by decide) ?_
  exact q_iret C rfl (by decide +kernel : decode cX11_pledge 23 = .ok (.ireturn, 1))
set_option maxRecDepth 100000 in
theorem v_X11_pledge_0 {p : Program} {l : Launch} {e : Env} {s : State} {m : MethodId} {args : Array Value} {below : List Frame} {meth : Method} {c : Code} {D : va_G} {A : Nat → Prop} {post : Option Value → q_S → Prop} {K : Nat → q_K} (C : q_C p s m args meth c cX11_pledge 5 RX11 "pledge" (some .int) A) (hK : ∀ h ∈ ([] : List Nat), q_V p l e rm_X11_pledge s m args below meth c D A 5 (MQ below (q_Qc D A post) args s rm_X11_pledge.cells rm_X11_pledge.slots A) h (K h)) : q_V p l e rm_X11_pledge s m args below meth c D A 5 (MQ below (q_Qc D A post) args s rm_X11_pledge.cells rm_X11_pledge.slots A) 0 (k_X11_pledge_0 post K) := by
  unfold k_X11_pledge_0
  refine q_aload_n C (by decide +kernel : decode cX11_pledge 0 = .ok (.aload_n 0, 1)) ?_
  refine q_iload_n C (by decide +kernel : decode cX11_pledge 1 = .ok (.iload_n 1, 1)) ?_
  refine q_iload_n C (by decide +kernel : decode cX11_pledge 2 = .ok (.iload_n 2, 1)) ?_
  refine q_iload_n C (by decide +kernel : decode cX11_pledge 3 = .ok (.iload_n 3, 1)) ?_
  refine q_call4 C (q_coV C (np := 3) (ci := 11) (rc := (RX11, TX11, 35)) (t_X11_areTwo l) w9_71 rfl rfl w9_72 w9_73 w9_74 w9_6 (by decide +kernel) (by decide +kernel : decode cX11_pledge 4 = .ok (.invokevirtual 155, 3)) (by decide)) ?_
  refine q_ifeq C (tgt := 21) (by decide +kernel : decode cX11_pledge 7 = .ok (.ifCond .eq 14, 3)) (by decide) ?_ ?_
  · exact v_X11_pledge_21 C hK
  · refine q_iload C (by decide +kernel : decode cX11_pledge 10 = .ok (.iload 4, 2)) ?_
    refine q_iconst C (by decide +kernel : decode cX11_pledge 12 = .ok (.iconst 1, 1)) (by decide) ?_
    refine q_bipush C (by decide +kernel : decode cX11_pledge 13 = .ok (.bipush 16, 2)) (by decide) ?_
    refine q_call3 C (q_coS C (np := 3) (t_X11_in l) w9_5 w9_8 w9_7 w9_6 (by decide +kernel) (by decide +kernel : decode cX11_pledge 15 = .ok (.invokestatic 92, 3)) (by decide)) ?_
    refine q_ifne C (tgt := 24) (by decide +kernel : decode cX11_pledge 18 = .ok (.ifCond .ne 6, 3)) (by decide) ?_ ?_
    · refine q_aload_n C (by decide +kernel : decode cX11_pledge 24 = .ok (.aload_n 0, 1)) ?_
      refine q_iload_n C (by decide +kernel : decode cX11_pledge 25 = .ok (.iload_n 1, 1)) ?_
      refine q_iload_n C (by decide +kernel : decode cX11_pledge 26 = .ok (.iload_n 2, 1)) ?_
      refine q_call3 C (q_coV C (np := 2) (ci := 11) (rc := (RX11, TX11, 35)) (t_X11_freeOf l) w9_75 rfl rfl w9_76 w9_77 w9_78 w9_6 (by decide +kernel) (by decide +kernel : decode cX11_pledge 27 = .ok (.invokevirtual 158, 3)) (by decide)) ?_
      refine q_iload C (by decide +kernel : decode cX11_pledge 30 = .ok (.iload 4, 2)) ?_
      refine q_icge C (tgt := 38) (by decide +kernel : decode cX11_pledge 32 = .ok (.if_icmp .ge 6, 3)) (by decide) ?_ ?_
      · refine q_aload_n C (by decide +kernel : decode cX11_pledge 38 = .ok (.aload_n 0, 1)) ?_
        refine q_get C (ci := 11) (j := 20) (C0 := RX11) (T := TX11) (N := 35) rfl iX11 giX11 (by decide) w9_62 (by decide +kernel : decode cX11_pledge 39 = .ok (.getfield 55, 3)) ?_
        refine q_sipush C (by decide +kernel : decode cX11_pledge 42 = .ok (.sipush 144, 3)) (by decide) ?_
        refine q_iload_n C (by decide +kernel : decode cX11_pledge 45 = .ok (.iload_n 1, 1)) ?_
        refine q_imul C (by decide +kernel : decode cX11_pledge 46 = .ok (.imul, 1)) ?_
        refine q_bipush C (by decide +kernel : decode cX11_pledge 47 = .ok (.bipush 12, 2)) (by decide) ?_
        refine q_iload_n C (by decide +kernel : decode cX11_pledge 49 = .ok (.iload_n 2, 1)) ?_
        refine q_imul C (by decide +kernel : decode cX11_pledge 50 = .ok (.imul, 1)) ?_
        refine q_iadd C (by decide +kernel : decode cX11_pledge 51 = .ok (.iadd, 1)) ?_
        refine q_iload_n C (by decide +kernel : decode cX11_pledge 52 = .ok (.iload_n 3, 1)) ?_
        refine q_iadd C (by decide +kernel : decode cX11_pledge 53 = .ok (.iadd, 1)) ?_
        refine q_dup2 C (by decide +kernel : decode cX11_pledge 54 = .ok (.dup2, 1)) ?_
        refine q_iald C (by decide +kernel : decode cX11_pledge 55 = .ok (.iaload, 1)) ?_
        refine q_iload C (by decide +kernel : decode cX11_pledge 56 = .ok (.iload 4, 2)) ?_
        refine q_iadd C (by decide +kernel : decode cX11_pledge 58 = .ok (.iadd, 1)) ?_
        refine q_iast C (by decide +kernel : decode cX11_pledge 59 = .ok (.iastore, 1)) ?_
        refine q_aload_n C (by decide +kernel : decode cX11_pledge 60 = .ok (.aload_n 0, 1)) ?_
        refine q_iload_n C (by decide +kernel : decode cX11_pledge 61 = .ok (.iload_n 1, 1)) ?_
        refine q_iload_n C (by decide +kernel : decode cX11_pledge 62 = .ok (.iload_n 2, 1)) ?_
        refine q_call3 C (q_coV C (np := 2) (ci := 11) (rc := (RX11, TX11, 35)) (t_X11_pledgedBy l) w9_67 rfl rfl w9_68 w9_69 w9_70 w9_6 (by decide +kernel) (by decide +kernel : decode cX11_pledge 63 = .ok (.invokevirtual 152, 3)) (by decide)) ?_
        exact q_iret C rfl (by decide +kernel : decode cX11_pledge 66 = .ok (.ireturn, 1))
      · refine q_bipush C (by decide +kernel : decode cX11_pledge 35 = .ok (.bipush (-3), 2)) (by decide) ?_
        exact q_iret C rfl (by decide +kernel : decode cX11_pledge 37 = .ok (.ireturn, 1))
    · exact v_X11_pledge_21 C hK
theorem u_X11_pledge (l : Launch) {sp : q_Sp} (H : ∀ (av : List Value) (σ : q_S) (post : Option Value → q_S → Prop), sp av σ post → k_X11_pledge_0 post (fun _ _ _ _ _ _ => False) (q_L0 av 5) [] σ 0 0 ∧ av.length ≤ 5 ∧ ∀ v ∈ av, v.category = 1) : q_Ct l yX11_pledge cX11_pledge 5 (some .int) rm_X11_pledge sp := by
  refine q_met (by decide) ?_
  intro D A p e s m args below meth c σ av post C hsp
  obtain ⟨h1, h2, h3⟩ := H av σ post hsp
  exact ⟨_, v_X11_pledge_0 (K := fun _ _ _ _ _ _ => False) C (fun h hh => by cases hh), h1, h2, h3⟩
theorem t_X11_pledge (l : Launch) : q_Ct l yX11_pledge cX11_pledge 5 (some .int) rm_X11_pledge s_X11_pledge := u_X11_pledge l (by
  intro av σ post h
  unfold s_X11_pledge at h
  split at h
  · next mr w a b n =>
    refine ⟨?_, by simp, by simp [Value.category]⟩
    obtain ⟨ad, z, g, ⟨gp, r, hm⟩, hI, h1⟩ := h
    simp only [c_push, c_null, c_iload, c_aload, c_istore, c_astore, c_iinc, c_iadd, c_isub, c_imul, c_iand, c_ineg, c_dup, c_dup2, c_pop, c_ifnull, c_ifnonnull, c_get, c_put, c_iald, c_zald, c_iast, c_zast, c_aald, c_aast, c_alen, c_new, c_newa, c_newq, c_mna, c_oinit, c_max, c_copy, c_iret, c_zret, c_aret, c_vret, q_do, q_rc, c_ifeq, c_ifne, c_iflt, c_ifge, c_ifgt, c_ifle, c_iceq, c_icne, c_iclt, c_icge, c_icgt, c_icle, c_call0, c_call1, c_call2, c_call3, c_call4, c_call5, c_call6, c_call7, q_L0, List.map_cons, List.map_nil, List.replicate, List.cons_append, List.nil_append, List.append_nil, List.length_cons, List.length_nil, List.length_set, Nat.reduceSub, Nat.reduceAdd, Nat.reduceLT, Nat.reduceLeDiff, Nat.zero_add, Nat.add_zero, Nat.sub_zero, Nat.sub_self, List.getElem?_cons_zero, List.getElem?_cons_succ, List.set_cons_zero, List.set_cons_succ, Option.toList_some, Option.toList_none, List.sum_cons, List.sum_nil, true_and, and_true, true_or, or_true, Nat.le_refl, Nat.zero_le, Value.category, Fin.isValue, Fin.val_zero, Fin.val_one, Fin.val_two, Fin.reduceFinMk, q_10, q_01, not_false_eq_true, not_true_eq_false, forall_const, true_implies, false_implies, implies_true, q_ni, q_fi, q_nb0, q_nb1, q_fb0, q_fb1, q_nor, q_nar, q_for, q_far, q_non, q_nan, q_fon, q_fan, imp_false, false_and, and_false, and_self, false_or, or_false, va_rf, refKind, k_X11_pledge_0, k_X11_pledge_21, hm.rd, s_X11_areTwo, s_X11_in, s_X10_isWithin]
    unfold I1 at hI
    refine ⟨⟨hI.2.2.2.1, hI.2.1⟩, fun c => ?_, fun c => ?_⟩
    · refine ⟨fun c2 => ?_, fun c2 => ?_⟩
      · have cw : 0 ≤ w ∧ w < 20 := ⟨c.1.1, by grind⟩
        have ca : 0 ≤ a ∧ a < 12 := ⟨c.2.1.1, by grind⟩
        have cb : 0 ≤ b ∧ b < 12 := ⟨c.2.2.1.1, by grind⟩
        refine ⟨ad, z, g, gp, r, hm, cw, ca, hI.2.2.2.2.1, ?_⟩
        rw [F_pledge, if_pos ⟨c, c2⟩] at h1
        have hx := at20 cw ca cb
        have hm1 := hm.a20 (i20 w a b) (g 20 (i20 w a b) + n)
        simp only [c_push, c_null, c_iload, c_aload, c_istore, c_astore, c_iinc, c_iadd, c_isub, c_imul, c_iand, c_ineg, c_dup, c_dup2, c_pop, c_ifnull, c_ifnonnull, c_get, c_put, c_iald, c_zald, c_iast, c_zast, c_aald, c_aast, c_alen, c_new, c_newa, c_newq, c_mna, c_oinit, c_max, c_copy, c_iret, c_zret, c_aret, c_vret, q_do, q_rc, c_ifeq, c_ifne, c_iflt, c_ifge, c_ifgt, c_ifle, c_iceq, c_icne, c_iclt, c_icge, c_icgt, c_icle, c_call0, c_call1, c_call2, c_call3, c_call4, c_call5, c_call6, c_call7, q_L0, List.map_cons, List.map_nil, List.replicate, List.cons_append, List.nil_append, List.append_nil, List.length_cons, List.length_nil, List.length_set, Nat.reduceSub, Nat.reduceAdd, Nat.reduceLT, Nat.reduceLeDiff, Nat.zero_add, Nat.add_zero, Nat.sub_zero, Nat.sub_self, List.getElem?_cons_zero, List.getElem?_cons_succ, List.set_cons_zero, List.set_cons_succ, Option.toList_some, Option.toList_none, List.sum_cons, List.sum_nil, true_and, and_true, true_or, or_true, Nat.le_refl, Nat.zero_le, Value.category, Fin.isValue, Fin.val_zero, Fin.val_one, Fin.val_two, Fin.reduceFinMk, q_10, q_01, not_false_eq_true, not_true_eq_false, forall_const, true_implies, false_implies, implies_true, q_ni, q_fi, q_nb0, q_nb1, q_fb0, q_fb1, q_nor, q_nar, q_for, q_far, q_non, q_nan, q_fon, q_fan, imp_false, false_and, and_false, and_self, false_or, or_false, va_rf, refKind, hm.rd, vpi2880, hx, hm1.rd]
        refine ⟨fun c3 => ⟨ad, z, _, gp, r, hm1, cw, ca, ?_⟩, fun c3 => ?_⟩
        · rw [if_neg (by grind)] at h1
          simp only [c_push, c_null, c_iload, c_aload, c_istore, c_astore, c_iinc, c_iadd, c_isub, c_imul, c_iand, c_ineg, c_dup, c_dup2, c_pop, c_ifnull, c_ifnonnull, c_get, c_put, c_iald, c_zald, c_iast, c_zast, c_aald, c_aast, c_alen, c_new, c_newa, c_newq, c_mna, c_oinit, c_max, c_copy, c_iret, c_zret, c_aret, c_vret, q_do, q_rc, c_ifeq, c_ifne, c_iflt, c_ifge, c_ifgt, c_ifle, c_iceq, c_icne, c_iclt, c_icge, c_icgt, c_icle, c_call0, c_call1, c_call2, c_call3, c_call4, c_call5, c_call6, c_call7, q_L0, List.map_cons, List.map_nil, List.replicate, List.cons_append, List.nil_append, List.append_nil, List.length_cons, List.length_nil, List.length_set, Nat.reduceSub, Nat.reduceAdd, Nat.reduceLT, Nat.reduceLeDiff, Nat.zero_add, Nat.add_zero, Nat.sub_zero, Nat.sub_self, List.getElem?_cons_zero, List.getElem?_cons_succ, List.set_cons_zero, List.set_cons_succ, Option.toList_some, Option.toList_none, List.sum_cons, List.sum_nil, true_and, and_true, true_or, or_true, Nat.le_refl, Nat.zero_le, Value.category, Fin.isValue, Fin.val_zero, Fin.val_one, Fin.val_two, Fin.reduceFinMk, q_10, q_01, not_false_eq_true, not_true_eq_false, forall_const, true_implies, false_implies, implies_true, q_ni, q_fi, q_nb0, q_nb1, q_fb0, q_fb1, q_nor, q_nar, q_for, q_far, q_non, q_nan, q_fon, q_fan, imp_false, false_and, and_false, and_self, false_or, or_false, va_rf, refKind]
          exact h1 _ ⟨gp, r, hm1⟩
        · rw [if_pos (by grind)] at h1
          exact h1 _ ⟨gp, r, hm⟩
      · rw [F_pledge, if_neg (by grind)] at h1
        exact h1 _ ⟨gp, r, hm⟩
    · rw [F_pledge, if_neg (by grind)] at h1
      exact h1 _ ⟨gp, r, hm⟩
  · exact h.elim)
def F_redeem (z : Nat → Int32) (g : Nat → Nat → Int32) (w a b : Int32) : Int32 × (Nat → Nat → Int32) :=
  if twoF z w a b then (if g 20 (i20 w a b) = 0 then -3 else g 20 (i20 w a b), gup g 20 (i20 w a b) 0) else (-2, g)
def s_X11_redeem : q_Sp := fun av σ post => match av with
  | [.ref mr, .int w, .int a, .int b] => ∃ ad z g, mOK σ mr ad z g ∧ I1 z ∧ ∀ σ', mOK σ' mr ad z (F_redeem z g w a b).2 → post (some (.int (F_redeem z g w a b).1)) σ'
  | _ => False
def rm_X11_redeem : Room := { frames := 3, cells := 0, slots := 0, locals := 66 }
def k_X11_redeem_56 (post : Option Value → q_S → Prop) (K : Nat → q_K) : q_K := (c_iret post)
def k_X11_redeem_0 (post : Option Value → q_S → Prop) (K : Nat → q_K) : q_K := (c_aload 0 (c_iload 1 (c_iload 2 (c_iload 3 (c_call4 (some 11) s_X11_areTwo 0 0 (c_ifne (c_push 144 (c_iload 1 (c_imul (c_push 12 (c_iload 2 (c_imul (c_iadd (c_iload 3 (c_iadd (c_istore 4 (c_aload 0 (c_get 11 20 (c_iload 4 (c_iald (c_istore 5 (c_aload 0 (c_get 11 20 (c_iload 4 (c_push 0 (c_iast (c_iload 5 (c_ifne (c_iload 5 (k_X11_redeem_56 post K)) (c_push (-3) (k_X11_redeem_56 post K)))))))))))))))))))))))) (c_push (-2) (c_iret post))))))))
set_option maxRecDepth 100000 in
theorem v_X11_redeem_56 {p : Program} {l : Launch} {e : Env} {s : State} {m : MethodId} {args : Array Value} {below : List Frame} {meth : Method} {c : Code} {D : va_G} {A : Nat → Prop} {post : Option Value → q_S → Prop} {K : Nat → q_K} (C : q_C p s m args meth c cX11_redeem 6 RX11 "redeem" (some .int) A) (hK : ∀ h ∈ ([] : List Nat), q_V p l e rm_X11_redeem s m args below meth c D A 6 (MQ below (q_Qc D A post) args s rm_X11_redeem.cells rm_X11_redeem.slots A) h (K h)) : q_V p l e rm_X11_redeem s m args below meth c D A 6 (MQ below (q_Qc D A post) args s rm_X11_redeem.cells rm_X11_redeem.slots A) 56 (k_X11_redeem_56 post K) := by
  unfold k_X11_redeem_56
  exact q_iret C rfl (by decide +kernel : decode cX11_redeem 56 = .ok (.ireturn, 1))
set_option maxRecDepth 100000 in
theorem v_X11_redeem_0 {p : Program} {l : Launch} {e : Env} {s : State} {m : MethodId} {args : Array Value} {below : List Frame} {meth : Method} {c : Code} {D : va_G} {A : Nat → Prop} {post : Option Value → q_S → Prop} {K : Nat → q_K} (C : q_C p s m args meth c cX11_redeem 6 RX11 "redeem" (some .int) A) (hK : ∀ h ∈ ([] : List Nat), q_V p l e rm_X11_redeem s m args below meth c D A 6 (MQ below (q_Qc D A post) args s rm_X11_redeem.cells rm_X11_redeem.slots A) h (K h)) : q_V p l e rm_X11_redeem s m args below meth c D A 6 (MQ below (q_Qc D A post) args s rm_X11_redeem.cells rm_X11_redeem.slots A) 0 (k_X11_redeem_0 post K) := by
  unfold k_X11_redeem_0
  refine q_aload_n C (by decide +kernel : decode cX11_redeem 0 = .ok (.aload_n 0, 1)) ?_
  refine q_iload_n C (by decide +kernel : decode cX11_redeem 1 = .ok (.iload_n 1, 1)) ?_
  refine q_iload_n C (by decide +kernel : decode cX11_redeem 2 = .ok (.iload_n 2, 1)) ?_
  refine q_iload_n C (by decide +kernel : decode cX11_redeem 3 = .ok (.iload_n 3, 1)) ?_
  refine q_call4 C (q_coV C (np := 3) (ci := 11) (rc := (RX11, TX11, 35)) (t_X11_areTwo l) w9_71 rfl rfl w9_72 w9_73 w9_74 w9_6 (by decide +kernel) (by decide +kernel : decode cX11_redeem 4 = .ok (.invokevirtual 155, 3)) (by decide)) ?_
  refine q_ifne C (tgt := 13) (by decide +kernel : decode cX11_redeem 7 = .ok (.ifCond .ne 6, 3)) (by decide) ?_ ?_
  · refine q_sipush C (by decide +kernel : decode cX11_redeem 13 = .ok (.sipush 144, 3)) (by decide) ?_
    refine q_iload_n C (by decide +kernel : decode cX11_redeem 16 = .ok (.iload_n 1, 1)) ?_
    refine q_imul C (by decide +kernel : decode cX11_redeem 17 = .ok (.imul, 1)) ?_
    refine q_bipush C (by decide +kernel : decode cX11_redeem 18 = .ok (.bipush 12, 2)) (by decide) ?_
    refine q_iload_n C (by decide +kernel : decode cX11_redeem 20 = .ok (.iload_n 2, 1)) ?_
    refine q_imul C (by decide +kernel : decode cX11_redeem 21 = .ok (.imul, 1)) ?_
    refine q_iadd C (by decide +kernel : decode cX11_redeem 22 = .ok (.iadd, 1)) ?_
    refine q_iload_n C (by decide +kernel : decode cX11_redeem 23 = .ok (.iload_n 3, 1)) ?_
    refine q_iadd C (by decide +kernel : decode cX11_redeem 24 = .ok (.iadd, 1)) ?_
    refine q_istore C (by decide +kernel : decode cX11_redeem 25 = .ok (.istore 4, 2)) ?_
    refine q_aload_n C (by decide +kernel : decode cX11_redeem 27 = .ok (.aload_n 0, 1)) ?_
    refine q_get C (ci := 11) (j := 20) (C0 := RX11) (T := TX11) (N := 35) rfl iX11 giX11 (by decide) w9_62 (by decide +kernel : decode cX11_redeem 28 = .ok (.getfield 55, 3)) ?_
    refine q_iload C (by decide +kernel : decode cX11_redeem 31 = .ok (.iload 4, 2)) ?_
    refine q_iald C (by decide +kernel : decode cX11_redeem 33 = .ok (.iaload, 1)) ?_
    refine q_istore C (by decide +kernel : decode cX11_redeem 34 = .ok (.istore 5, 2)) ?_
    refine q_aload_n C (by decide +kernel : decode cX11_redeem 36 = .ok (.aload_n 0, 1)) ?_
    refine q_get C (ci := 11) (j := 20) (C0 := RX11) (T := TX11) (N := 35) rfl iX11 giX11 (by decide) w9_62 (by decide +kernel : decode cX11_redeem 37 = .ok (.getfield 55, 3)) ?_
    refine q_iload C (by decide +kernel : decode cX11_redeem 40 = .ok (.iload 4, 2)) ?_
    refine q_iconst C (by decide +kernel : decode cX11_redeem 42 = .ok (.iconst 0, 1)) (by decide) ?_
    refine q_iast C (by decide +kernel : decode cX11_redeem 43 = .ok (.iastore, 1)) ?_
    refine q_iload C (by decide +kernel : decode cX11_redeem 44 = .ok (.iload 5, 2)) ?_
    refine q_ifne C (tgt := 54) (by decide +kernel : decode cX11_redeem 46 = .ok (.ifCond .ne 8, 3)) (by decide) ?_ ?_
    · refine q_iload C (by decide +kernel : decode cX11_redeem 54 = .ok (.iload 5, 2)) ?_
      exact v_X11_redeem_56 C hK
    · refine q_bipush C (by decide +kernel : decode cX11_redeem 49 = .ok (.bipush (-3), 2)) (by decide) ?_
      refine q_goto C (tgt := 56) (by decide +kernel : decode cX11_redeem 51 = .ok (.goto 5, 3)) (by decide) ?_
      exact v_X11_redeem_56 C hK
  · refine q_bipush C (by decide +kernel : decode cX11_redeem 10 = .ok (.bipush (-2), 2)) (by decide) ?_
    exact q_iret C rfl (by decide +kernel : decode cX11_redeem 12 = .ok (.ireturn, 1))
theorem u_X11_redeem (l : Launch) {sp : q_Sp} (H : ∀ (av : List Value) (σ : q_S) (post : Option Value → q_S → Prop), sp av σ post → k_X11_redeem_0 post (fun _ _ _ _ _ _ => False) (q_L0 av 6) [] σ 0 0 ∧ av.length ≤ 6 ∧ ∀ v ∈ av, v.category = 1) : q_Ct l yX11_redeem cX11_redeem 6 (some .int) rm_X11_redeem sp := by
  refine q_met (by decide) ?_
  intro D A p e s m args below meth c σ av post C hsp
  obtain ⟨h1, h2, h3⟩ := H av σ post hsp
  exact ⟨_, v_X11_redeem_0 (K := fun _ _ _ _ _ _ => False) C (fun h hh => by cases hh), h1, h2, h3⟩
theorem t_X11_redeem (l : Launch) : q_Ct l yX11_redeem cX11_redeem 6 (some .int) rm_X11_redeem s_X11_redeem := u_X11_redeem l (by
  intro av σ post h
  unfold s_X11_redeem at h
  split at h
  · next mr w a b =>
    refine ⟨?_, by simp, by simp [Value.category]⟩
    obtain ⟨ad, z, g, ⟨gp, r, hm⟩, hI, h1⟩ := h
    simp only [c_push, c_null, c_iload, c_aload, c_istore, c_astore, c_iinc, c_iadd, c_isub, c_imul, c_iand, c_ineg, c_dup, c_dup2, c_pop, c_ifnull, c_ifnonnull, c_get, c_put, c_iald, c_zald, c_iast, c_zast, c_aald, c_aast, c_alen, c_new, c_newa, c_newq, c_mna, c_oinit, c_max, c_copy, c_iret, c_zret, c_aret, c_vret, q_do, q_rc, c_ifeq, c_ifne, c_iflt, c_ifge, c_ifgt, c_ifle, c_iceq, c_icne, c_iclt, c_icge, c_icgt, c_icle, c_call0, c_call1, c_call2, c_call3, c_call4, c_call5, c_call6, c_call7, q_L0, List.map_cons, List.map_nil, List.replicate, List.cons_append, List.nil_append, List.append_nil, List.length_cons, List.length_nil, List.length_set, Nat.reduceSub, Nat.reduceAdd, Nat.reduceLT, Nat.reduceLeDiff, Nat.zero_add, Nat.add_zero, Nat.sub_zero, Nat.sub_self, List.getElem?_cons_zero, List.getElem?_cons_succ, List.set_cons_zero, List.set_cons_succ, Option.toList_some, Option.toList_none, List.sum_cons, List.sum_nil, true_and, and_true, true_or, or_true, Nat.le_refl, Nat.zero_le, Value.category, Fin.isValue, Fin.val_zero, Fin.val_one, Fin.val_two, Fin.reduceFinMk, q_10, q_01, not_false_eq_true, not_true_eq_false, forall_const, true_implies, false_implies, implies_true, q_ni, q_fi, q_nb0, q_nb1, q_fb0, q_fb1, q_nor, q_nar, q_for, q_far, q_non, q_nan, q_fon, q_fan, imp_false, false_and, and_false, and_self, false_or, or_false, va_rf, refKind, k_X11_redeem_0, k_X11_redeem_56, hm.rd, s_X11_areTwo]
    unfold I1 at hI
    refine ⟨⟨hI.2.2.2.1, hI.2.1⟩, fun c => ?_, fun c => ?_⟩
    · have cw : 0 ≤ w ∧ w < 20 := ⟨c.1.1, by grind⟩
      have ca : 0 ≤ a ∧ a < 12 := ⟨c.2.1.1, by grind⟩
      have cb : 0 ≤ b ∧ b < 12 := ⟨c.2.2.1.1, by grind⟩
      have hx := at20 cw ca cb
      have hm1 := hm.a20 (i20 w a b) 0
      simp only [c_push, c_null, c_iload, c_aload, c_istore, c_astore, c_iinc, c_iadd, c_isub, c_imul, c_iand, c_ineg, c_dup, c_dup2, c_pop, c_ifnull, c_ifnonnull, c_get, c_put, c_iald, c_zald, c_iast, c_zast, c_aald, c_aast, c_alen, c_new, c_newa, c_newq, c_mna, c_oinit, c_max, c_copy, c_iret, c_zret, c_aret, c_vret, q_do, q_rc, c_ifeq, c_ifne, c_iflt, c_ifge, c_ifgt, c_ifle, c_iceq, c_icne, c_iclt, c_icge, c_icgt, c_icle, c_call0, c_call1, c_call2, c_call3, c_call4, c_call5, c_call6, c_call7, q_L0, List.map_cons, List.map_nil, List.replicate, List.cons_append, List.nil_append, List.append_nil, List.length_cons, List.length_nil, List.length_set, Nat.reduceSub, Nat.reduceAdd, Nat.reduceLT, Nat.reduceLeDiff, Nat.zero_add, Nat.add_zero, Nat.sub_zero, Nat.sub_self, List.getElem?_cons_zero, List.getElem?_cons_succ, List.set_cons_zero, List.set_cons_succ, Option.toList_some, Option.toList_none, List.sum_cons, List.sum_nil, true_and, and_true, true_or, or_true, Nat.le_refl, Nat.zero_le, Value.category, Fin.isValue, Fin.val_zero, Fin.val_one, Fin.val_two, Fin.reduceFinMk, q_10, q_01, not_false_eq_true, not_true_eq_false, forall_const, true_implies, false_implies, implies_true, q_ni, q_fi, q_nb0, q_nb1, q_fb0, q_fb1, q_nor, q_nar, q_for, q_far, q_non, q_nan, q_fon, q_fan, imp_false, false_and, and_false, and_self, false_or, or_false, va_rf, refKind, vpi2880, hx]
      rw [F_redeem, if_pos c] at h1
      have h2 := h1 _ ⟨gp, r, hm1⟩
      clear h1
      grind
    · rw [F_redeem, if_neg (by grind)] at h1
      exact h1 _ ⟨gp, r, hm⟩
  · exact h.elim)
def F_held (z : Nat → Int32) (g : Nat → Nat → Int32) (w p t : Int32) : Int32 :=
  if isW z w ∧ (p = -5 ∨ isP z p) ∧ g 13 w.toNatClampNeg ≤ t ∧ t ≤ z 0 then holdsF g w (if p = -5 then 12 else p) t (mvF z) else -2
def s_X11_held : q_Sp := fun av σ post => match av with
  | [.ref mr, .int w, .int p, .int t] => ∃ ad z g, mOK σ mr ad z g ∧ I1 z ∧ ∀ σ', mOK σ' mr ad z g → post (some (.int (F_held z g w p t))) σ'
  | _ => False
def rm_X11_held : Room := { frames := 2, cells := 0, slots := 0, locals := 43 }
def k_X11_held_39 (post : Option Value → q_S → Prop) (K : Nat → q_K) : q_K := (c_push (-2) (c_iret post))
def k_X11_held_56 (post : Option Value → q_S → Prop) (K : Nat → q_K) : q_K := (c_iload 3 (c_call4 (some 11) s_X11_holds 0 0 (c_iret post)))
def k_X11_held_22 (post : Option Value → q_S → Prop) (K : Nat → q_K) : q_K := (c_iload 3 (c_aload 0 (c_get 11 13 (c_iload 1 (c_iald (c_aload 0 (c_get 11 0 (c_call3 none s_X11_in 0 0 (c_ifne (c_aload 0 (c_iload 1 (c_iload 2 (c_push (-5) (c_icne (c_iload 2 (k_X11_held_56 post K)) (c_push 12 (k_X11_held_56 post K))))))) (k_X11_held_39 post K))))))))))
def k_X11_held_0 (post : Option Value → q_S → Prop) (K : Nat → q_K) : q_K := (c_aload 0 (c_iload 1 (c_call2 (some 11) s_X11_isWork 0 0 (c_ifeq (k_X11_held_39 post K) (c_iload 2 (c_push (-5) (c_iceq (k_X11_held_22 post K) (c_aload 0 (c_iload 2 (c_call2 (some 11) s_X11_isPerson 0 0 (c_ifeq (k_X11_held_39 post K) (k_X11_held_22 post K))))))))))))
set_option maxRecDepth 100000 in
theorem v_X11_held_39 {p : Program} {l : Launch} {e : Env} {s : State} {m : MethodId} {args : Array Value} {below : List Frame} {meth : Method} {c : Code} {D : va_G} {A : Nat → Prop} {post : Option Value → q_S → Prop} {K : Nat → q_K} (C : q_C p s m args meth c cX11_held 4 RX11 "held" (some .int) A) (hK : ∀ h ∈ ([] : List Nat), q_V p l e rm_X11_held s m args below meth c D A 4 (MQ below (q_Qc D A post) args s rm_X11_held.cells rm_X11_held.slots A) h (K h)) : q_V p l e rm_X11_held s m args below meth c D A 4 (MQ below (q_Qc D A post) args s rm_X11_held.cells rm_X11_held.slots A) 39 (k_X11_held_39 post K) := by
  unfold k_X11_held_39
  refine q_bipush C (by decide +kernel : decode cX11_held 39 = .ok (.bipush (-2), 2)) (by decide) ?_
  exact q_iret C rfl (by decide +kernel : decode cX11_held 41 = .ok (.ireturn, 1))
set_option maxRecDepth 100000 in
theorem v_X11_held_56 {p : Program} {l : Launch} {e : Env} {s : State} {m : MethodId} {args : Array Value} {below : List Frame} {meth : Method} {c : Code} {D : va_G} {A : Nat → Prop} {post : Option Value → q_S → Prop} {K : Nat → q_K} (C : q_C p s m args meth c cX11_held 4 RX11 "held" (some .int) A) (hK : ∀ h ∈ ([] : List Nat), q_V p l e rm_X11_held s m args below meth c D A 4 (MQ below (q_Qc D A post) args s rm_X11_held.cells rm_X11_held.slots A) h (K h)) : q_V p l e rm_X11_held s m args below meth c D A 4 (MQ below (q_Qc D A post) args s rm_X11_held.cells rm_X11_held.slots A) 56 (k_X11_held_56 post K) := by
  unfold k_X11_held_56
  refine q_iload_n C (by decide +kernel : decode cX11_held 56 = .ok (.iload_n 3, 1)) ?_
  refine q_call4 C (q_coV C (np := 3) (ci := 11) (rc := (RX11, TX11, 35)) (t_X11_holds l) w9_63 rfl rfl w9_64 w9_65 w9_66 w9_6 (by decide +kernel) (by decide +kernel : decode cX11_held 57 = .ok (.invokevirtual 110, 3)) (by decide)) ?_
  exact q_iret C rfl (by decide +kernel : decode cX11_held 60 = .ok (.ireturn, 1))
set_option maxRecDepth 100000 in
theorem v_X11_held_22 {p : Program} {l : Launch} {e : Env} {s : State} {m : MethodId} {args : Array Value} {below : List Frame} {meth : Method} {c : Code} {D : va_G} {A : Nat → Prop} {post : Option Value → q_S → Prop} {K : Nat → q_K} (C : q_C p s m args meth c cX11_held 4 RX11 "held" (some .int) A) (hK : ∀ h ∈ ([] : List Nat), q_V p l e rm_X11_held s m args below meth c D A 4 (MQ below (q_Qc D A post) args s rm_X11_held.cells rm_X11_held.slots A) h (K h)) : q_V p l e rm_X11_held s m args below meth c D A 4 (MQ below (q_Qc D A post) args s rm_X11_held.cells rm_X11_held.slots A) 22 (k_X11_held_22 post K) := by
  unfold k_X11_held_22
  refine q_iload_n C (by decide +kernel : decode cX11_held 22 = .ok (.iload_n 3, 1)) ?_
  refine q_aload_n C (by decide +kernel : decode cX11_held 23 = .ok (.aload_n 0, 1)) ?_
  refine q_get C (ci := 11) (j := 13) (C0 := RX11) (T := TX11) (N := 35) rfl iX11 giX11 (by decide) w9_29 (by decide +kernel : decode cX11_held 24 = .ok (.getfield 37, 3)) ?_
  refine q_iload_n C (by decide +kernel : decode cX11_held 27 = .ok (.iload_n 1, 1)) ?_
  refine q_iald C (by decide +kernel : decode cX11_held 28 = .ok (.iaload, 1)) ?_
  refine q_aload_n C (by decide +kernel : decode cX11_held 29 = .ok (.aload_n 0, 1)) ?_
  refine q_get C (ci := 11) (j := 0) (C0 := RX11) (T := TX11) (N := 35) rfl iX11 giX11 (by decide) w9_10 (by decide +kernel : decode cX11_held 30 = .ok (.getfield 96, 3)) ?_
  refine q_call3 C (q_coS C (np := 3) (t_X11_in l) w9_5 w9_8 w9_7 w9_6 (by decide +kernel) (by decide +kernel : decode cX11_held 33 = .ok (.invokestatic 92, 3)) (by decide)) ?_
  refine q_ifne C (tgt := 42) (by decide +kernel : decode cX11_held 36 = .ok (.ifCond .ne 6, 3)) (by decide) ?_ ?_
  · refine q_aload_n C (by decide +kernel : decode cX11_held 42 = .ok (.aload_n 0, 1)) ?_
    refine q_iload_n C (by decide +kernel : decode cX11_held 43 = .ok (.iload_n 1, 1)) ?_
    refine q_iload_n C (by decide +kernel : decode cX11_held 44 = .ok (.iload_n 2, 1)) ?_
    refine q_bipush C (by decide +kernel : decode cX11_held 45 = .ok (.bipush (-5), 2)) (by decide) ?_
    refine q_icne C (tgt := 55) (by decide +kernel : decode cX11_held 47 = .ok (.if_icmp .ne 8, 3)) (by decide) ?_ ?_
    · refine q_iload_n C (by decide +kernel : decode cX11_held 55 = .ok (.iload_n 2, 1)) ?_
      exact v_X11_held_56 C hK
    · refine q_bipush C (by decide +kernel : decode cX11_held 50 = .ok (.bipush 12, 2)) (by decide) ?_
      refine q_goto C (tgt := 56) (by decide +kernel : decode cX11_held 52 = .ok (.goto 4, 3)) (by decide) ?_
      exact v_X11_held_56 C hK
  · exact v_X11_held_39 C hK
set_option maxRecDepth 100000 in
theorem v_X11_held_0 {p : Program} {l : Launch} {e : Env} {s : State} {m : MethodId} {args : Array Value} {below : List Frame} {meth : Method} {c : Code} {D : va_G} {A : Nat → Prop} {post : Option Value → q_S → Prop} {K : Nat → q_K} (C : q_C p s m args meth c cX11_held 4 RX11 "held" (some .int) A) (hK : ∀ h ∈ ([] : List Nat), q_V p l e rm_X11_held s m args below meth c D A 4 (MQ below (q_Qc D A post) args s rm_X11_held.cells rm_X11_held.slots A) h (K h)) : q_V p l e rm_X11_held s m args below meth c D A 4 (MQ below (q_Qc D A post) args s rm_X11_held.cells rm_X11_held.slots A) 0 (k_X11_held_0 post K) := by
  unfold k_X11_held_0
  refine q_aload_n C (by decide +kernel : decode cX11_held 0 = .ok (.aload_n 0, 1)) ?_
  refine q_iload_n C (by decide +kernel : decode cX11_held 1 = .ok (.iload_n 1, 1)) ?_
  refine q_call2 C (q_coV C (np := 1) (ci := 11) (rc := (RX11, TX11, 35)) (t_X11_isWork l) w9_48 rfl rfl w9_49 w9_50 w9_51 w9_6 (by decide +kernel) (by decide +kernel : decode cX11_held 2 = .ok (.invokevirtual 140, 3)) (by decide)) ?_
  refine q_ifeq C (tgt := 39) (by decide +kernel : decode cX11_held 5 = .ok (.ifCond .eq 34, 3)) (by decide) ?_ ?_
  · exact v_X11_held_39 C hK
  · refine q_iload_n C (by decide +kernel : decode cX11_held 8 = .ok (.iload_n 2, 1)) ?_
    refine q_bipush C (by decide +kernel : decode cX11_held 9 = .ok (.bipush (-5), 2)) (by decide) ?_
    refine q_iceq C (tgt := 22) (by decide +kernel : decode cX11_held 11 = .ok (.if_icmp .eq 11, 3)) (by decide) ?_ ?_
    · exact v_X11_held_22 C hK
    · refine q_aload_n C (by decide +kernel : decode cX11_held 14 = .ok (.aload_n 0, 1)) ?_
      refine q_iload_n C (by decide +kernel : decode cX11_held 15 = .ok (.iload_n 2, 1)) ?_
      refine q_call2 C (q_coV C (np := 1) (ci := 11) (rc := (RX11, TX11, 35)) (t_X11_isPerson l) w9_13 rfl rfl w9_14 w9_15 w9_16 w9_6 (by decide +kernel) (by decide +kernel : decode cX11_held 16 = .ok (.invokevirtual 106, 3)) (by decide)) ?_
      refine q_ifeq C (tgt := 39) (by decide +kernel : decode cX11_held 19 = .ok (.ifCond .eq 20, 3)) (by decide) ?_ ?_
      · exact v_X11_held_39 C hK
      · exact v_X11_held_22 C hK
theorem u_X11_held (l : Launch) {sp : q_Sp} (H : ∀ (av : List Value) (σ : q_S) (post : Option Value → q_S → Prop), sp av σ post → k_X11_held_0 post (fun _ _ _ _ _ _ => False) (q_L0 av 4) [] σ 0 0 ∧ av.length ≤ 4 ∧ ∀ v ∈ av, v.category = 1) : q_Ct l yX11_held cX11_held 4 (some .int) rm_X11_held sp := by
  refine q_met (by decide) ?_
  intro D A p e s m args below meth c σ av post C hsp
  obtain ⟨h1, h2, h3⟩ := H av σ post hsp
  exact ⟨_, v_X11_held_0 (K := fun _ _ _ _ _ _ => False) C (fun h hh => by cases hh), h1, h2, h3⟩
theorem t_X11_held (l : Launch) : q_Ct l yX11_held cX11_held 4 (some .int) rm_X11_held s_X11_held := u_X11_held l (by
  intro av σ post h
  unfold s_X11_held at h
  split at h
  · next mr w p t =>
    refine ⟨?_, by simp, by simp [Value.category]⟩
    obtain ⟨ad, z, g, ⟨gp, r, hm⟩, hI, h1⟩ := h
    have h2 := h1 _ ⟨gp, r, hm⟩
    unfold I1 at hI
    have J : ∀ x : Int32, isW z w → post (some (.int (holdsF g w x t (mvF z)))) σ → s_X11_holds [.ref mr, .int w, .int x, .int t] σ (fun r9 σ9 => c_iret post [] (r9.toList ++ []) σ9 0 0) := fun x cw hp => ⟨ad, z, g, gp, r, hm, ⟨cw.1, by grind⟩, hI.2.2.2.2.1, hp⟩
    simp only [c_push, c_null, c_iload, c_aload, c_istore, c_astore, c_iinc, c_iadd, c_isub, c_imul, c_iand, c_ineg, c_dup, c_dup2, c_pop, c_ifnull, c_ifnonnull, c_get, c_put, c_iald, c_zald, c_iast, c_zast, c_aald, c_aast, c_alen, c_new, c_newa, c_newq, c_mna, c_oinit, c_max, c_copy, c_iret, c_zret, c_aret, c_vret, q_do, q_rc, c_ifeq, c_ifne, c_iflt, c_ifge, c_ifgt, c_ifle, c_iceq, c_icne, c_iclt, c_icge, c_icgt, c_icle, c_call0, c_call1, c_call2, c_call3, c_call4, c_call5, c_call6, c_call7, q_L0, List.map_cons, List.map_nil, List.replicate, List.cons_append, List.nil_append, List.append_nil, List.length_cons, List.length_nil, List.length_set, Nat.reduceSub, Nat.reduceAdd, Nat.reduceLT, Nat.reduceLeDiff, Nat.zero_add, Nat.add_zero, Nat.sub_zero, Nat.sub_self, List.getElem?_cons_zero, List.getElem?_cons_succ, List.set_cons_zero, List.set_cons_succ, Option.toList_some, Option.toList_none, List.sum_cons, List.sum_nil, true_and, and_true, true_or, or_true, Nat.le_refl, Nat.zero_le, Value.category, Fin.isValue, Fin.val_zero, Fin.val_one, Fin.val_two, Fin.reduceFinMk, q_10, q_01, not_false_eq_true, not_true_eq_false, forall_const, true_implies, false_implies, implies_true, q_ni, q_fi, q_nb0, q_nb1, q_fb0, q_fb1, q_nor, q_nar, q_for, q_far, q_non, q_nan, q_fon, q_fan, imp_false, false_and, and_false, and_self, false_or, or_false, va_rf, refKind, k_X11_held_0, k_X11_held_22, k_X11_held_39, k_X11_held_56, hm.rd, vpi20, s_X11_isWork, s_X11_isPerson, s_X11_in, s_X10_isWithin]
    simp only [c_push, c_null, c_iload, c_aload, c_istore, c_astore, c_iinc, c_iadd, c_isub, c_imul, c_iand, c_ineg, c_dup, c_dup2, c_pop, c_ifnull, c_ifnonnull, c_get, c_put, c_iald, c_zald, c_iast, c_zast, c_aald, c_aast, c_alen, c_new, c_newa, c_newq, c_mna, c_oinit, c_max, c_copy, c_iret, c_zret, c_aret, c_vret, q_do, q_rc, c_ifeq, c_ifne, c_iflt, c_ifge, c_ifgt, c_ifle, c_iceq, c_icne, c_iclt, c_icge, c_icgt, c_icle, c_call0, c_call1, c_call2, c_call3, c_call4, c_call5, c_call6, c_call7, q_L0, List.map_cons, List.map_nil, List.replicate, List.cons_append, List.nil_append, List.append_nil, List.length_cons, List.length_nil, List.length_set, Nat.reduceSub, Nat.reduceAdd, Nat.reduceLT, Nat.reduceLeDiff, Nat.zero_add, Nat.add_zero, Nat.sub_zero, Nat.sub_self, List.getElem?_cons_zero, List.getElem?_cons_succ, List.set_cons_zero, List.set_cons_succ, Option.toList_some, Option.toList_none, List.sum_cons, List.sum_nil, true_and, and_true, true_or, or_true, Nat.le_refl, Nat.zero_le, Value.category, Fin.isValue, Fin.val_zero, Fin.val_one, Fin.val_two, Fin.reduceFinMk, q_10, q_01, not_false_eq_true, not_true_eq_false, forall_const, true_implies, false_implies, implies_true, q_ni, q_fi, q_nb0, q_nb1, q_fb0, q_fb1, q_nor, q_nar, q_for, q_far, q_non, q_nan, q_fon, q_fan, imp_false, false_and, and_false, and_self, false_or, or_false, va_rf, refKind] at J
    unfold F_held at h2
    clear h1
    grind (splits := 40)
  · exact h.elim)
def F_agree (z : Nat → Int32) (g : Nat → Nat → Int32) (w p on : Int32) : Int32 × (Nat → Nat → Int32) :=
  if isW z w ∧ isP z p then (if g 21 (i21 w p) = 0 then 0 else 1, gup g 21 (i21 w p) on) else (-2, g)
theorem nar01 {x : Int32} (h : x = 0 ∨ x = 1) : vp_nar .boolean x = x := by rcases h with rfl | rfl <;> decide
def s_X11_agree : q_Sp := fun av σ post => match av with
  | [.ref mr, .int w, .int p, .int on] => ∃ ad z g, mOK σ mr ad z g ∧ I1 z ∧ (on = 0 ∨ on = 1) ∧ ∀ σ', mOK σ' mr ad z (F_agree z g w p on).2 → post (some (.int (F_agree z g w p on).1)) σ'
  | _ => False
theorem w9_83 : (.fieldLink RX11 58 (TX11 21).1 (TX11 21).2.1 (TX11 21).2.2.1 : Cond) ∈ lw_tbl := by decide +kernel
def rm_X11_agree : Room := { frames := 2, cells := 0, slots := 0, locals := 43 }
def k_X11_agree_16 (post : Option Value → q_S → Prop) (K : Nat → q_K) : q_K := (c_push (-2) (c_iret post))
def k_X11_agree_38 (post : Option Value → q_S → Prop) (K : Nat → q_K) : q_K := (c_istore 4 (c_aload 0 (c_get 11 21 (c_push 12 (c_iload 1 (c_imul (c_iload 2 (c_iadd (c_iload 3 (c_zast (c_iload 4 (c_iret post))))))))))))
def k_X11_agree_0 (post : Option Value → q_S → Prop) (K : Nat → q_K) : q_K := (c_aload 0 (c_iload 1 (c_call2 (some 11) s_X11_isWork 0 0 (c_ifeq (k_X11_agree_16 post K) (c_aload 0 (c_iload 2 (c_call2 (some 11) s_X11_isPerson 0 0 (c_ifne (c_aload 0 (c_get 11 21 (c_push 12 (c_iload 1 (c_imul (c_iload 2 (c_iadd (c_zald (c_ifeq (c_push 0 (k_X11_agree_38 post K)) (c_push 1 (k_X11_agree_38 post K))))))))))) (k_X11_agree_16 post K)))))))))
set_option maxRecDepth 100000 in
theorem v_X11_agree_16 {p : Program} {l : Launch} {e : Env} {s : State} {m : MethodId} {args : Array Value} {below : List Frame} {meth : Method} {c : Code} {D : va_G} {A : Nat → Prop} {post : Option Value → q_S → Prop} {K : Nat → q_K} (C : q_C p s m args meth c cX11_agree 5 RX11 "agree" (some .int) A) (hK : ∀ h ∈ ([] : List Nat), q_V p l e rm_X11_agree s m args below meth c D A 5 (MQ below (q_Qc D A post) args s rm_X11_agree.cells rm_X11_agree.slots A) h (K h)) : q_V p l e rm_X11_agree s m args below meth c D A 5 (MQ below (q_Qc D A post) args s rm_X11_agree.cells rm_X11_agree.slots A) 16 (k_X11_agree_16 post K) := by
  unfold k_X11_agree_16
  refine q_bipush C (by decide +kernel : decode cX11_agree 16 = .ok (.bipush (-2), 2)) (by decide) ?_
  exact q_iret C rfl (by decide +kernel : decode cX11_agree 18 = .ok (.ireturn, 1))
set_option maxRecDepth 100000 in
theorem v_X11_agree_38 {p : Program} {l : Launch} {e : Env} {s : State} {m : MethodId} {args : Array Value} {below : List Frame} {meth : Method} {c : Code} {D : va_G} {A : Nat → Prop} {post : Option Value → q_S → Prop} {K : Nat → q_K} (C : q_C p s m args meth c cX11_agree 5 RX11 "agree" (some .int) A) (hK : ∀ h ∈ ([] : List Nat), q_V p l e rm_X11_agree s m args below meth c D A 5 (MQ below (q_Qc D A post) args s rm_X11_agree.cells rm_X11_agree.slots A) h (K h)) : q_V p l e rm_X11_agree s m args below meth c D A 5 (MQ below (q_Qc D A post) args s rm_X11_agree.cells rm_X11_agree.slots A) 38 (k_X11_agree_38 post K) := by
  unfold k_X11_agree_38
  refine q_istore C (by decide +kernel : decode cX11_agree 38 = .ok (.istore 4, 2)) ?_
  refine q_aload_n C (by decide +kernel : decode cX11_agree 40 = .ok (.aload_n 0, 1)) ?_
  refine q_get C (ci := 11) (j := 21) (C0 := RX11) (T := TX11) (N := 35) rfl iX11 giX11 (by decide) w9_83 (by decide +kernel : decode cX11_agree 41 = .ok (.getfield 58, 3)) ?_
  refine q_bipush C (by decide +kernel : decode cX11_agree 44 = .ok (.bipush 12, 2)) (by decide) ?_
  refine q_iload_n C (by decide +kernel : decode cX11_agree 46 = .ok (.iload_n 1, 1)) ?_
  refine q_imul C (by decide +kernel : decode cX11_agree 47 = .ok (.imul, 1)) ?_
  refine q_iload_n C (by decide +kernel : decode cX11_agree 48 = .ok (.iload_n 2, 1)) ?_
  refine q_iadd C (by decide +kernel : decode cX11_agree 49 = .ok (.iadd, 1)) ?_
  refine q_iload_n C (by decide +kernel : decode cX11_agree 50 = .ok (.iload_n 3, 1)) ?_
  refine q_zast C (by decide +kernel : decode cX11_agree 51 = .ok (.bastore, 1)) ?_
  refine q_iload C (by decide +kernel : decode cX11_agree 52 = .ok (.iload 4, 2)) ?_
  exact q_iret C rfl (by decide +kernel : decode cX11_agree 54 = .ok (.ireturn, 1))
set_option maxRecDepth 100000 in
theorem v_X11_agree_0 {p : Program} {l : Launch} {e : Env} {s : State} {m : MethodId} {args : Array Value} {below : List Frame} {meth : Method} {c : Code} {D : va_G} {A : Nat → Prop} {post : Option Value → q_S → Prop} {K : Nat → q_K} (C : q_C p s m args meth c cX11_agree 5 RX11 "agree" (some .int) A) (hK : ∀ h ∈ ([] : List Nat), q_V p l e rm_X11_agree s m args below meth c D A 5 (MQ below (q_Qc D A post) args s rm_X11_agree.cells rm_X11_agree.slots A) h (K h)) : q_V p l e rm_X11_agree s m args below meth c D A 5 (MQ below (q_Qc D A post) args s rm_X11_agree.cells rm_X11_agree.slots A) 0 (k_X11_agree_0 post K) := by
  unfold k_X11_agree_0
  refine q_aload_n C (by decide +kernel : decode cX11_agree 0 = .ok (.aload_n 0, 1)) ?_
  refine q_iload_n C (by decide +kernel : decode cX11_agree 1 = .ok (.iload_n 1, 1)) ?_
  refine q_call2 C (q_coV C (np := 1) (ci := 11) (rc := (RX11, TX11, 35)) (t_X11_isWork l) w9_48 rfl rfl w9_49 w9_50 w9_51 w9_6 (by decide +kernel) (by decide +kernel : decode cX11_agree 2 = .ok (.invokevirtual 140, 3)) (by decide)) ?_
  refine q_ifeq C (tgt := 16) (by decide +kernel : decode cX11_agree 5 = .ok (.ifCond .eq 11, 3)) (by decide) ?_ ?_
  · exact v_X11_agree_16 C hK
  · refine q_aload_n C (by decide +kernel : decode cX11_agree 8 = .ok (.aload_n 0, 1)) ?_
    refine q_iload_n C (by decide +kernel : decode cX11_agree 9 = .ok (.iload_n 2, 1)) ?_
    refine q_call2 C (q_coV C (np := 1) (ci := 11) (rc := (RX11, TX11, 35)) (t_X11_isPerson l) w9_13 rfl rfl w9_14 w9_15 w9_16 w9_6 (by decide +kernel) (by decide +kernel : decode cX11_agree 10 = .ok (.invokevirtual 106, 3)) (by decide)) ?_
    refine q_ifne C (tgt := 19) (by decide +kernel : decode cX11_agree 13 = .ok (.ifCond .ne 6, 3)) (by decide) ?_ ?_
    · refine q_aload_n C (by decide +kernel : decode cX11_agree 19 = .ok (.aload_n 0, 1)) ?_
      refine q_get C (ci := 11) (j := 21) (C0 := RX11) (T := TX11) (N := 35) rfl iX11 giX11 (by decide) w9_83 (by decide +kernel : decode cX11_agree 20 = .ok (.getfield 58, 3)) ?_
      refine q_bipush C (by decide +kernel : decode cX11_agree 23 = .ok (.bipush 12, 2)) (by decide) ?_
      refine q_iload_n C (by decide +kernel : decode cX11_agree 25 = .ok (.iload_n 1, 1)) ?_
      refine q_imul C (by decide +kernel : decode cX11_agree 26 = .ok (.imul, 1)) ?_
      refine q_iload_n C (by decide +kernel : decode cX11_agree 27 = .ok (.iload_n 2, 1)) ?_
      refine q_iadd C (by decide +kernel : decode cX11_agree 28 = .ok (.iadd, 1)) ?_
      refine q_zald C (by decide +kernel : decode cX11_agree 29 = .ok (.baload, 1)) ?_
      refine q_ifeq C (tgt := 37) (by decide +kernel : decode cX11_agree 30 = .ok (.ifCond .eq 7, 3)) (by decide) ?_ ?_
      · refine q_iconst C (by decide +kernel : decode cX11_agree 37 = .ok (.iconst 0, 1)) (by decide) ?_
        exact v_X11_agree_38 C hK
      · refine q_iconst C (by decide +kernel : decode cX11_agree 33 = .ok (.iconst 1, 1)) (by decide) ?_
        refine q_goto C (tgt := 38) (by decide +kernel : decode cX11_agree 34 = .ok (.goto 4, 3)) (by decide) ?_
        exact v_X11_agree_38 C hK
    · exact v_X11_agree_16 C hK
theorem u_X11_agree (l : Launch) {sp : q_Sp} (H : ∀ (av : List Value) (σ : q_S) (post : Option Value → q_S → Prop), sp av σ post → k_X11_agree_0 post (fun _ _ _ _ _ _ => False) (q_L0 av 5) [] σ 0 0 ∧ av.length ≤ 5 ∧ ∀ v ∈ av, v.category = 1) : q_Ct l yX11_agree cX11_agree 5 (some .int) rm_X11_agree sp := by
  refine q_met (by decide) ?_
  intro D A p e s m args below meth c σ av post C hsp
  obtain ⟨h1, h2, h3⟩ := H av σ post hsp
  exact ⟨_, v_X11_agree_0 (K := fun _ _ _ _ _ _ => False) C (fun h hh => by cases hh), h1, h2, h3⟩
theorem t_X11_agree (l : Launch) : q_Ct l yX11_agree cX11_agree 5 (some .int) rm_X11_agree s_X11_agree := u_X11_agree l (by
  intro av σ post h
  unfold s_X11_agree at h
  split at h
  · next mr w p on =>
    refine ⟨?_, by simp, by simp [Value.category]⟩
    obtain ⟨ad, z, g, ⟨gp, r, hm⟩, hI, hon, h1⟩ := h
    simp only [c_push, c_null, c_iload, c_aload, c_istore, c_astore, c_iinc, c_iadd, c_isub, c_imul, c_iand, c_ineg, c_dup, c_dup2, c_pop, c_ifnull, c_ifnonnull, c_get, c_put, c_iald, c_zald, c_iast, c_zast, c_aald, c_aast, c_alen, c_new, c_newa, c_newq, c_mna, c_oinit, c_max, c_copy, c_iret, c_zret, c_aret, c_vret, q_do, q_rc, c_ifeq, c_ifne, c_iflt, c_ifge, c_ifgt, c_ifle, c_iceq, c_icne, c_iclt, c_icge, c_icgt, c_icle, c_call0, c_call1, c_call2, c_call3, c_call4, c_call5, c_call6, c_call7, q_L0, List.map_cons, List.map_nil, List.replicate, List.cons_append, List.nil_append, List.append_nil, List.length_cons, List.length_nil, List.length_set, Nat.reduceSub, Nat.reduceAdd, Nat.reduceLT, Nat.reduceLeDiff, Nat.zero_add, Nat.add_zero, Nat.sub_zero, Nat.sub_self, List.getElem?_cons_zero, List.getElem?_cons_succ, List.set_cons_zero, List.set_cons_succ, Option.toList_some, Option.toList_none, List.sum_cons, List.sum_nil, true_and, and_true, true_or, or_true, Nat.le_refl, Nat.zero_le, Value.category, Fin.isValue, Fin.val_zero, Fin.val_one, Fin.val_two, Fin.reduceFinMk, q_10, q_01, not_false_eq_true, not_true_eq_false, forall_const, true_implies, false_implies, implies_true, q_ni, q_fi, q_nb0, q_nb1, q_fb0, q_fb1, q_nor, q_nar, q_for, q_far, q_non, q_nan, q_fon, q_fan, imp_false, false_and, and_false, and_self, false_or, or_false, va_rf, refKind, k_X11_agree_0, k_X11_agree_16, k_X11_agree_38, hm.rd, s_X11_isWork, s_X11_isPerson, nar01 hon]
    unfold I1 at hI
    refine ⟨hI.2.2.2.1, fun c => ⟨hI.2.1, fun c2 => ?_, fun c2 => ?_⟩, fun c => ?_⟩
    · have cw : 0 ≤ w ∧ w < 20 := ⟨c.1, by grind⟩
      have ca : 0 ≤ p ∧ p < 12 := ⟨c2.1, by grind⟩
      have hx := at21 cw ca
      have hm1 := hm.a21 (i21 w p) on
      simp only [c_push, c_null, c_iload, c_aload, c_istore, c_astore, c_iinc, c_iadd, c_isub, c_imul, c_iand, c_ineg, c_dup, c_dup2, c_pop, c_ifnull, c_ifnonnull, c_get, c_put, c_iald, c_zald, c_iast, c_zast, c_aald, c_aast, c_alen, c_new, c_newa, c_newq, c_mna, c_oinit, c_max, c_copy, c_iret, c_zret, c_aret, c_vret, q_do, q_rc, c_ifeq, c_ifne, c_iflt, c_ifge, c_ifgt, c_ifle, c_iceq, c_icne, c_iclt, c_icge, c_icgt, c_icle, c_call0, c_call1, c_call2, c_call3, c_call4, c_call5, c_call6, c_call7, q_L0, List.map_cons, List.map_nil, List.replicate, List.cons_append, List.nil_append, List.append_nil, List.length_cons, List.length_nil, List.length_set, Nat.reduceSub, Nat.reduceAdd, Nat.reduceLT, Nat.reduceLeDiff, Nat.zero_add, Nat.add_zero, Nat.sub_zero, Nat.sub_self, List.getElem?_cons_zero, List.getElem?_cons_succ, List.set_cons_zero, List.set_cons_succ, Option.toList_some, Option.toList_none, List.sum_cons, List.sum_nil, true_and, and_true, true_or, or_true, Nat.le_refl, Nat.zero_le, Value.category, Fin.isValue, Fin.val_zero, Fin.val_one, Fin.val_two, Fin.reduceFinMk, q_10, q_01, not_false_eq_true, not_true_eq_false, forall_const, true_implies, false_implies, implies_true, q_ni, q_fi, q_nb0, q_nb1, q_fb0, q_fb1, q_nor, q_nar, q_for, q_far, q_non, q_nan, q_fon, q_fan, imp_false, false_and, and_false, and_self, false_or, or_false, va_rf, refKind, vpi240, hx]
      rw [F_agree, if_pos ⟨c, c2⟩] at h1
      have h2 := h1 _ ⟨gp, r, hm1⟩
      clear h1
      grind
    · rw [F_agree, if_neg (by grind)] at h1
      exact h1 _ ⟨gp, r, hm⟩
    · rw [F_agree, if_neg (by grind)] at h1
      exact h1 _ ⟨gp, r, hm⟩
  · exact h.elim)
-- line, common, count
abbrev i30 (w : Int32) (i : Nat) : Nat := 20 * w.toNatClampNeg + i
def F_line (z : Nat → Int32) (g : Nat → Nat → Int32) (w x : Int32) : Int32 × (Nat → Nat → Int32) :=
  if isW z w ∧ 1 ≤ x ∧ x ≤ 999 then if g 29 w.toNatClampNeg = 20 then (-4, g) else (g 29 w.toNatClampNeg + 1, gup (gup g 30 (20 * w.toNatClampNeg + (g 29 w.toNatClampNeg).toNatClampNeg) x) 29 w.toNatClampNeg (g 29 w.toNatClampNeg + 1)) else (-2, g)
def LM (z : Nat → Int32) (g : Nat → Nat → Int32) : Prop := ∀ w : Nat, nI w < z 11 → w < 20 → 0 ≤ g 29 w ∧ g 29 w ≤ 20
theorem LM.at {z : Nat → Int32} {g : Nat → Nat → Int32} (h : LM z g) {w : Int32} (h0 : 0 ≤ w) (h1 : w < z 11) (h2 : w < 20) : 0 ≤ g 29 w.toNatClampNeg ∧ g 29 w.toNatClampNeg ≤ 20 := h _ (by rw [nI_self h0]; exact h1) (clamp_lt 20 h0 h2)
def s_X11_line : q_Sp := fun av σ post => match av with
  | [.ref mr, .int w, .int x] => ∃ ad z g, mOK σ mr ad z g ∧ I1 z ∧ LM z g ∧ ∀ σ', mOK σ' mr ad z (F_line z g w x).2 → post (some (.int (F_line z g w x).1)) σ'
  | _ => False
theorem w9_84 : (.fieldLink RX11 83 (TX11 30).1 (TX11 30).2.1 (TX11 30).2.2.1 : Cond) ∈ lw_tbl := by decide +kernel
def rm_X11_line : Room := { frames := 2, cells := 0, slots := 0, locals := 43 }
def k_X11_line_19 (post : Option Value → q_S → Prop) (K : Nat → q_K) : q_K := (c_push (-2) (c_iret post))
def k_X11_line_0 (post : Option Value → q_S → Prop) (K : Nat → q_K) : q_K := (c_aload 0 (c_iload 1 (c_call2 (some 11) s_X11_isWork 0 0 (c_ifeq (k_X11_line_19 post K) (c_iload 2 (c_push 1 (c_push 999 (c_call3 none s_X11_in 0 0 (c_ifne (c_aload 0 (c_get 11 29 (c_iload 1 (c_iald (c_push 20 (c_icne (c_aload 0 (c_get 11 30 (c_push 20 (c_iload 1 (c_imul (c_aload 0 (c_get 11 29 (c_iload 1 (c_iald (c_iadd (c_iload 2 (c_iast (c_aload 0 (c_get 11 29 (c_iload 1 (c_dup2 (c_iald (c_push 1 (c_iadd (c_iast (c_aload 0 (c_get 11 29 (c_iload 1 (c_iald (c_iret post))))))))))))))))))))))))) (c_push (-4) (c_iret post)))))))) (k_X11_line_19 post K))))))))))
set_option maxRecDepth 100000 in
theorem v_X11_line_19 {p : Program} {l : Launch} {e : Env} {s : State} {m : MethodId} {args : Array Value} {below : List Frame} {meth : Method} {c : Code} {D : va_G} {A : Nat → Prop} {post : Option Value → q_S → Prop} {K : Nat → q_K} (C : q_C p s m args meth c cX11_line 3 RX11 "line" (some .int) A) (hK : ∀ h ∈ ([] : List Nat), q_V p l e rm_X11_line s m args below meth c D A 3 (MQ below (q_Qc D A post) args s rm_X11_line.cells rm_X11_line.slots A) h (K h)) : q_V p l e rm_X11_line s m args below meth c D A 3 (MQ below (q_Qc D A post) args s rm_X11_line.cells rm_X11_line.slots A) 19 (k_X11_line_19 post K) := by
  unfold k_X11_line_19
  refine q_bipush C (by decide +kernel : decode cX11_line 19 = .ok (.bipush (-2), 2)) (by decide) ?_
  exact q_iret C rfl (by decide +kernel : decode cX11_line 21 = .ok (.ireturn, 1))
set_option maxRecDepth 100000 in
theorem v_X11_line_0 {p : Program} {l : Launch} {e : Env} {s : State} {m : MethodId} {args : Array Value} {below : List Frame} {meth : Method} {c : Code} {D : va_G} {A : Nat → Prop} {post : Option Value → q_S → Prop} {K : Nat → q_K} (C : q_C p s m args meth c cX11_line 3 RX11 "line" (some .int) A) (hK : ∀ h ∈ ([] : List Nat), q_V p l e rm_X11_line s m args below meth c D A 3 (MQ below (q_Qc D A post) args s rm_X11_line.cells rm_X11_line.slots A) h (K h)) : q_V p l e rm_X11_line s m args below meth c D A 3 (MQ below (q_Qc D A post) args s rm_X11_line.cells rm_X11_line.slots A) 0 (k_X11_line_0 post K) := by
  unfold k_X11_line_0
  refine q_aload_n C (by decide +kernel : decode cX11_line 0 = .ok (.aload_n 0, 1)) ?_
  refine q_iload_n C (by decide +kernel : decode cX11_line 1 = .ok (.iload_n 1, 1)) ?_
  refine q_call2 C (q_coV C (np := 1) (ci := 11) (rc := (RX11, TX11, 35)) (t_X11_isWork l) w9_48 rfl rfl w9_49 w9_50 w9_51 w9_6 (by decide +kernel) (by decide +kernel : decode cX11_line 2 = .ok (.invokevirtual 140, 3)) (by decide)) ?_
  refine q_ifeq C (tgt := 19) (by decide +kernel : decode cX11_line 5 = .ok (.ifCond .eq 14, 3)) (by decide) ?_ ?_
  · exact v_X11_line_19 C hK
  · refine q_iload_n C (by decide +kernel : decode cX11_line 8 = .ok (.iload_n 2, 1)) ?_
    refine q_iconst C (by decide +kernel : decode cX11_line 9 = .ok (.iconst 1, 1)) (by decide) ?_
    refine q_sipush C (by decide +kernel : decode cX11_line 10 = .ok (.sipush 999, 3)) (by decide) ?_
    refine q_call3 C (q_coS C (np := 3) (t_X11_in l) w9_5 w9_8 w9_7 w9_6 (by decide +kernel) (by decide +kernel : decode cX11_line 13 = .ok (.invokestatic 92, 3)) (by decide)) ?_
    refine q_ifne C (tgt := 22) (by decide +kernel : decode cX11_line 16 = .ok (.ifCond .ne 6, 3)) (by decide) ?_ ?_
    · refine q_aload_n C (by decide +kernel : decode cX11_line 22 = .ok (.aload_n 0, 1)) ?_
      refine q_get C (ci := 11) (j := 29) (C0 := RX11) (T := TX11) (N := 35) rfl iX11 giX11 (by decide) w9_30 (by decide +kernel : decode cX11_line 23 = .ok (.getfield 80, 3)) ?_
      refine q_iload_n C (by decide +kernel : decode cX11_line 26 = .ok (.iload_n 1, 1)) ?_
      refine q_iald C (by decide +kernel : decode cX11_line 27 = .ok (.iaload, 1)) ?_
      refine q_bipush C (by decide +kernel : decode cX11_line 28 = .ok (.bipush 20, 2)) (by decide) ?_
      refine q_icne C (tgt := 36) (by decide +kernel : decode cX11_line 30 = .ok (.if_icmp .ne 6, 3)) (by decide) ?_ ?_
      · refine q_aload_n C (by decide +kernel : decode cX11_line 36 = .ok (.aload_n 0, 1)) ?_
        refine q_get C (ci := 11) (j := 30) (C0 := RX11) (T := TX11) (N := 35) rfl iX11 giX11 (by decide) w9_84 (by decide +kernel : decode cX11_line 37 = .ok (.getfield 83, 3)) ?_
        refine q_bipush C (by decide +kernel : decode cX11_line 40 = .ok (.bipush 20, 2)) (by decide) ?_
        refine q_iload_n C (by decide +kernel : decode cX11_line 42 = .ok (.iload_n 1, 1)) ?_
        refine q_imul C (by decide +kernel : decode cX11_line 43 = .ok (.imul, 1)) ?_
        refine q_aload_n C (by decide +kernel : decode cX11_line 44 = .ok (.aload_n 0, 1)) ?_
        refine q_get C (ci := 11) (j := 29) (C0 := RX11) (T := TX11) (N := 35) rfl iX11 giX11 (by decide) w9_30 (by decide +kernel : decode cX11_line 45 = .ok (.getfield 80, 3)) ?_
        refine q_iload_n C (by decide +kernel : decode cX11_line 48 = .ok (.iload_n 1, 1)) ?_
        refine q_iald C (by decide +kernel : decode cX11_line 49 = .ok (.iaload, 1)) ?_
        refine q_iadd C (by decide +kernel : decode cX11_line 50 = .ok (.iadd, 1)) ?_
        refine q_iload_n C (by decide +kernel : decode cX11_line 51 = .ok (.iload_n 2, 1)) ?_
        refine q_iast C (by decide +kernel : decode cX11_line 52 = .ok (.iastore, 1)) ?_
        refine q_aload_n C (by decide +kernel : decode cX11_line 53 = .ok (.aload_n 0, 1)) ?_
        refine q_get C (ci := 11) (j := 29) (C0 := RX11) (T := TX11) (N := 35) rfl iX11 giX11 (by decide) w9_30 (by decide +kernel : decode cX11_line 54 = .ok (.getfield 80, 3)) ?_
        refine q_iload_n C (by decide +kernel : decode cX11_line 57 = .ok (.iload_n 1, 1)) ?_
        refine q_dup2 C (by decide +kernel : decode cX11_line 58 = .ok (.dup2, 1)) ?_
        refine q_iald C (by decide +kernel : decode cX11_line 59 = .ok (.iaload, 1)) ?_
        refine q_iconst C (by decide +kernel : decode cX11_line 60 = .ok (.iconst 1, 1)) (by decide) ?_
        refine q_iadd C (by decide +kernel : decode cX11_line 61 = .ok (.iadd, 1)) ?_
        refine q_iast C (by decide +kernel : decode cX11_line 62 = .ok (.iastore, 1)) ?_
        refine q_aload_n C (by decide +kernel : decode cX11_line 63 = .ok (.aload_n 0, 1)) ?_
        refine q_get C (ci := 11) (j := 29) (C0 := RX11) (T := TX11) (N := 35) rfl iX11 giX11 (by decide) w9_30 (by decide +kernel : decode cX11_line 64 = .ok (.getfield 80, 3)) ?_
        refine q_iload_n C (by decide +kernel : decode cX11_line 67 = .ok (.iload_n 1, 1)) ?_
        refine q_iald C (by decide +kernel : decode cX11_line 68 = .ok (.iaload, 1)) ?_
        exact q_iret C rfl (by decide +kernel : decode cX11_line 69 = .ok (.ireturn, 1))
      · refine q_bipush C (by decide +kernel : decode cX11_line 33 = .ok (.bipush (-4), 2)) (by decide) ?_
        exact q_iret C rfl (by decide +kernel : decode cX11_line 35 = .ok (.ireturn, 1))
    · exact v_X11_line_19 C hK
theorem u_X11_line (l : Launch) {sp : q_Sp} (H : ∀ (av : List Value) (σ : q_S) (post : Option Value → q_S → Prop), sp av σ post → k_X11_line_0 post (fun _ _ _ _ _ _ => False) (q_L0 av 3) [] σ 0 0 ∧ av.length ≤ 3 ∧ ∀ v ∈ av, v.category = 1) : q_Ct l yX11_line cX11_line 3 (some .int) rm_X11_line sp := by
  refine q_met (by decide) ?_
  intro D A p e s m args below meth c σ av post C hsp
  obtain ⟨h1, h2, h3⟩ := H av σ post hsp
  exact ⟨_, v_X11_line_0 (K := fun _ _ _ _ _ _ => False) C (fun h hh => by cases hh), h1, h2, h3⟩
theorem t_X11_line (l : Launch) : q_Ct l yX11_line cX11_line 3 (some .int) rm_X11_line s_X11_line := u_X11_line l (by
  intro av σ post h
  unfold s_X11_line at h
  split at h
  · next mr w x =>
    refine ⟨?_, by simp, by simp [Value.category]⟩
    obtain ⟨ad, z, g, ⟨gp, r, hm⟩, hI, hLM, h1⟩ := h
    simp only [c_push, c_null, c_iload, c_aload, c_istore, c_astore, c_iinc, c_iadd, c_isub, c_imul, c_iand, c_ineg, c_dup, c_dup2, c_pop, c_ifnull, c_ifnonnull, c_get, c_put, c_iald, c_zald, c_iast, c_zast, c_aald, c_aast, c_alen, c_new, c_newa, c_newq, c_mna, c_oinit, c_max, c_copy, c_iret, c_zret, c_aret, c_vret, q_do, q_rc, c_ifeq, c_ifne, c_iflt, c_ifge, c_ifgt, c_ifle, c_iceq, c_icne, c_iclt, c_icge, c_icgt, c_icle, c_call0, c_call1, c_call2, c_call3, c_call4, c_call5, c_call6, c_call7, q_L0, List.map_cons, List.map_nil, List.replicate, List.cons_append, List.nil_append, List.append_nil, List.length_cons, List.length_nil, List.length_set, Nat.reduceSub, Nat.reduceAdd, Nat.reduceLT, Nat.reduceLeDiff, Nat.zero_add, Nat.add_zero, Nat.sub_zero, Nat.sub_self, List.getElem?_cons_zero, List.getElem?_cons_succ, List.set_cons_zero, List.set_cons_succ, Option.toList_some, Option.toList_none, List.sum_cons, List.sum_nil, true_and, and_true, true_or, or_true, Nat.le_refl, Nat.zero_le, Value.category, Fin.isValue, Fin.val_zero, Fin.val_one, Fin.val_two, Fin.reduceFinMk, q_10, q_01, not_false_eq_true, not_true_eq_false, forall_const, true_implies, false_implies, implies_true, q_ni, q_fi, q_nb0, q_nb1, q_fb0, q_fb1, q_nor, q_nar, q_for, q_far, q_non, q_nan, q_fon, q_fan, imp_false, false_and, and_false, and_self, false_or, or_false, va_rf, refKind, k_X11_line_0, k_X11_line_19, hm.rd, s_X11_isWork, s_X11_in, s_X10_isWithin, vpi20]
    unfold I1 at hI
    refine ⟨hI.2.2.2.1, fun c => ⟨fun c2 => ?_, fun c2 => ?_⟩, fun c => ?_⟩
    · have cw : 0 ≤ w ∧ w < 20 := ⟨c.1, by grind⟩
      have hl := hLM.at c.1 c.2 cw.2
      rw [F_line, if_pos ⟨c, c2⟩] at h1
      refine ⟨cw, fun c3 => ?_, fun c3 => ?_⟩
      · rw [if_neg c3] at h1
        have hl2 : g 29 w.toNatClampNeg < 20 := by grind
        obtain ⟨wn, hwn, e0, e1⟩ := inR 20 cw.1 cw.2
        obtain ⟨ln, hln, f0, f1⟩ := inR 20 hl.1 hl2
        have hm1 := hm.a30 (20 * w.toNatClampNeg + (g 29 w.toNatClampNeg).toNatClampNeg) x
        have hm2 := hm1.a29 w.toNatClampNeg (g 29 w.toNatClampNeg + 1)
        have hx : (0 ≤ 20 * w + g 29 w.toNatClampNeg ∧ 20 * w + g 29 w.toNatClampNeg < 400) ∧ (20 * w + g 29 w.toNatClampNeg).toNatClampNeg = 20 * w.toNatClampNeg + (g 29 w.toNatClampNeg).toNatClampNeg := by
          rw [f1, f0, e1, e0, idx30]
          exact ⟨⟨nI_low (by omega), nI_ltN (N := 400) (by omega)⟩, clN (by omega)⟩
        have e8 : ∀ (i : Nat) (v : Int32), gup g 30 i v 29 = g 29 := fun _ _ => rfl
        have hm1rd := hm1.rd
        simp only [e8] at hm2 hm1rd
        simp only [c_push, c_null, c_iload, c_aload, c_istore, c_astore, c_iinc, c_iadd, c_isub, c_imul, c_iand, c_ineg, c_dup, c_dup2, c_pop, c_ifnull, c_ifnonnull, c_get, c_put, c_iald, c_zald, c_iast, c_zast, c_aald, c_aast, c_alen, c_new, c_newa, c_newq, c_mna, c_oinit, c_max, c_copy, c_iret, c_zret, c_aret, c_vret, q_do, q_rc, c_ifeq, c_ifne, c_iflt, c_ifge, c_ifgt, c_ifle, c_iceq, c_icne, c_iclt, c_icge, c_icgt, c_icle, c_call0, c_call1, c_call2, c_call3, c_call4, c_call5, c_call6, c_call7, q_L0, List.map_cons, List.map_nil, List.replicate, List.cons_append, List.nil_append, List.append_nil, List.length_cons, List.length_nil, List.length_set, Nat.reduceSub, Nat.reduceAdd, Nat.reduceLT, Nat.reduceLeDiff, Nat.zero_add, Nat.add_zero, Nat.sub_zero, Nat.sub_self, List.getElem?_cons_zero, List.getElem?_cons_succ, List.set_cons_zero, List.set_cons_succ, Option.toList_some, Option.toList_none, List.sum_cons, List.sum_nil, true_and, and_true, true_or, or_true, Nat.le_refl, Nat.zero_le, Value.category, Fin.isValue, Fin.val_zero, Fin.val_one, Fin.val_two, Fin.reduceFinMk, q_10, q_01, not_false_eq_true, not_true_eq_false, forall_const, true_implies, false_implies, implies_true, q_ni, q_fi, q_nb0, q_nb1, q_fb0, q_fb1, q_nor, q_nar, q_for, q_far, q_non, q_nan, q_fon, q_fan, imp_false, false_and, and_false, and_self, false_or, or_false, va_rf, refKind, hm.rd, vpi400, vpi20, hx, hm1rd, hm2.rd, cw]
        have h2 := h1 _ ⟨gp, r, hm2⟩
        have e9 : gup (gup g 30 (20 * w.toNatClampNeg + (g 29 w.toNatClampNeg).toNatClampNeg) x) 29 w.toNatClampNeg (g 29 w.toNatClampNeg + 1) 29 w.toNatClampNeg = g 29 w.toNatClampNeg + 1 := by simp [gup, upd]
        rw [e9]
        exact h2
      · rw [if_pos c3] at h1
        exact h1 _ ⟨gp, r, hm⟩
    · rw [F_line, if_neg (by grind)] at h1
      exact h1 _ ⟨gp, r, hm⟩
    · rw [F_line, if_neg (by grind)] at h1
      exact h1 _ ⟨gp, r, hm⟩
  · exact h.elim)
def F_common (z : Nat → Int32) (g : Nat → Nat → Int32) (x on : Int32) : Int32 × (Nat → Int32) × (Nat → Nat → Int32) :=
  if 1 ≤ x ∧ x ≤ 999 then if on = 1 ∧ g 32 x.toNatClampNeg = 0 ∧ z 31 = 20 then (-4, z, g) else (if g 32 x.toNatClampNeg = 0 then 0 else 1, upd z 31 (z 31 + (on - (if g 32 x.toNatClampNeg = 0 then 0 else 1))), gup g 32 x.toNatClampNeg on) else (-2, z, g)
def s_X11_common : q_Sp := fun av σ post => match av with
  | [.ref mr, .int x, .int on] => ∃ ad z g, mOK σ mr ad z g ∧ I1 z ∧ (on = 0 ∨ on = 1) ∧ ∀ σ', mOK σ' mr ad (F_common z g x on).2.1 (F_common z g x on).2.2 → post (some (.int (F_common z g x on).1)) σ'
  | _ => False
theorem w9_85 : (.fieldLink RX11 86 (TX11 32).1 (TX11 32).2.1 (TX11 32).2.2.1 : Cond) ∈ lw_tbl := by decide +kernel
theorem w9_86 : (.fieldLink RX11 167 (TX11 31).1 (TX11 31).2.1 (TX11 31).2.2.1 : Cond) ∈ lw_tbl := by decide +kernel
def rm_X11_common : Room := { frames := 1, cells := 0, slots := 0, locals := 22 }
def k_X11_common_63 (post : Option Value → q_S → Prop) (K : Nat → q_K) : q_K := (c_iload 3 (c_isub (c_iadd (c_put 11 31 (.int) (c_aload 0 (c_get 11 32 (c_iload 1 (c_iload 2 (c_zast (c_iload 3 (c_iret post)))))))))))
def k_X11_common_49 (post : Option Value → q_S → Prop) (K : Nat → q_K) : q_K := (c_aload 0 (c_dup (c_get 11 31 (c_iload 2 (c_ifeq (c_push 0 (k_X11_common_63 post K)) (c_push 1 (k_X11_common_63 post K)))))))
def k_X11_common_28 (post : Option Value → q_S → Prop) (K : Nat → q_K) : q_K := (c_istore 3 (c_iload 2 (c_ifeq (k_X11_common_49 post K) (c_iload 3 (c_ifne (k_X11_common_49 post K) (c_aload 0 (c_get 11 31 (c_push 20 (c_icne (k_X11_common_49 post K) (c_push (-4) (c_iret post)))))))))))
def k_X11_common_0 (post : Option Value → q_S → Prop) (K : Nat → q_K) : q_K := (c_iload 1 (c_push 1 (c_push 999 (c_call3 none s_X11_in 0 0 (c_ifne (c_aload 0 (c_get 11 32 (c_iload 1 (c_zald (c_ifeq (c_push 0 (k_X11_common_28 post K)) (c_push 1 (k_X11_common_28 post K))))))) (c_push (-2) (c_iret post)))))))
set_option maxRecDepth 100000 in
theorem v_X11_common_63 {p : Program} {l : Launch} {e : Env} {s : State} {m : MethodId} {args : Array Value} {below : List Frame} {meth : Method} {c : Code} {D : va_G} {A : Nat → Prop} {post : Option Value → q_S → Prop} {K : Nat → q_K} (C : q_C p s m args meth c cX11_common 4 RX11 "common" (some .int) A) (hK : ∀ h ∈ ([] : List Nat), q_V p l e rm_X11_common s m args below meth c D A 4 (MQ below (q_Qc D A post) args s rm_X11_common.cells rm_X11_common.slots A) h (K h)) : q_V p l e rm_X11_common s m args below meth c D A 4 (MQ below (q_Qc D A post) args s rm_X11_common.cells rm_X11_common.slots A) 63 (k_X11_common_63 post K) := by
  unfold k_X11_common_63
  refine q_iload_n C (by decide +kernel : decode cX11_common 63 = .ok (.iload_n 3, 1)) ?_
  refine q_isub C (by decide +kernel : decode cX11_common 64 = .ok (.isub, 1)) ?_
  refine q_iadd C (by decide +kernel : decode cX11_common 65 = .ok (.iadd, 1)) ?_
  refine q_put C (ci := 11) (j := 31) (C0 := RX11) (T := TX11) (N := 35) (ty := .int) rfl iX11 giX11 (by decide) tyX11 tyX11_ok nmX11 (by decide +kernel) rfl w9_86 (by decide +kernel : decode cX11_common 66 = .ok (.putfield 167, 3)) ?_
  refine q_aload_n C (by decide +kernel : decode cX11_common 69 = .ok (.aload_n 0, 1)) ?_
  refine q_get C (ci := 11) (j := 32) (C0 := RX11) (T := TX11) (N := 35) rfl iX11 giX11 (by decide) w9_85 (by decide +kernel : decode cX11_common 70 = .ok (.getfield 86, 3)) ?_
  refine q_iload_n C (by decide +kernel : decode cX11_common 73 = .ok (.iload_n 1, 1)) ?_
  refine q_iload_n C (by decide +kernel : decode cX11_common 74 = .ok (.iload_n 2, 1)) ?_
  refine q_zast C (by decide +kernel : decode cX11_common 75 = .ok (.bastore, 1)) ?_
  refine q_iload_n C (by decide +kernel : decode cX11_common 76 = .ok (.iload_n 3, 1)) ?_
  exact q_iret C rfl (by decide +kernel : decode cX11_common 77 = .ok (.ireturn, 1))
set_option maxRecDepth 100000 in
theorem v_X11_common_49 {p : Program} {l : Launch} {e : Env} {s : State} {m : MethodId} {args : Array Value} {below : List Frame} {meth : Method} {c : Code} {D : va_G} {A : Nat → Prop} {post : Option Value → q_S → Prop} {K : Nat → q_K} (C : q_C p s m args meth c cX11_common 4 RX11 "common" (some .int) A) (hK : ∀ h ∈ ([] : List Nat), q_V p l e rm_X11_common s m args below meth c D A 4 (MQ below (q_Qc D A post) args s rm_X11_common.cells rm_X11_common.slots A) h (K h)) : q_V p l e rm_X11_common s m args below meth c D A 4 (MQ below (q_Qc D A post) args s rm_X11_common.cells rm_X11_common.slots A) 49 (k_X11_common_49 post K) := by
  unfold k_X11_common_49
  refine q_aload_n C (by decide +kernel : decode cX11_common 49 = .ok (.aload_n 0, 1)) ?_
  refine q_dup C (by decide +kernel : decode cX11_common 50 = .ok (.dup, 1)) ?_
  refine q_get C (ci := 11) (j := 31) (C0 := RX11) (T := TX11) (N := 35) rfl iX11 giX11 (by decide) w9_86 (by decide +kernel : decode cX11_common 51 = .ok (.getfield 167, 3)) ?_
  refine q_iload_n C (by decide +kernel : decode cX11_common 54 = .ok (.iload_n 2, 1)) ?_
  refine q_ifeq C (tgt := 62) (by decide +kernel : decode cX11_common 55 = .ok (.ifCond .eq 7, 3)) (by decide) ?_ ?_
  · refine q_iconst C (by decide +kernel : decode cX11_common 62 = .ok (.iconst 0, 1)) (by decide) ?_
    exact v_X11_common_63 C hK
  · refine q_iconst C (by decide +kernel : decode cX11_common 58 = .ok (.iconst 1, 1)) (by decide) ?_
    refine q_goto C (tgt := 63) (by decide +kernel : decode cX11_common 59 = .ok (.goto 4, 3)) (by decide) ?_
    exact v_X11_common_63 C hK
set_option maxRecDepth 100000 in
theorem v_X11_common_28 {p : Program} {l : Launch} {e : Env} {s : State} {m : MethodId} {args : Array Value} {below : List Frame} {meth : Method} {c : Code} {D : va_G} {A : Nat → Prop} {post : Option Value → q_S → Prop} {K : Nat → q_K} (C : q_C p s m args meth c cX11_common 4 RX11 "common" (some .int) A) (hK : ∀ h ∈ ([] : List Nat), q_V p l e rm_X11_common s m args below meth c D A 4 (MQ below (q_Qc D A post) args s rm_X11_common.cells rm_X11_common.slots A) h (K h)) : q_V p l e rm_X11_common s m args below meth c D A 4 (MQ below (q_Qc D A post) args s rm_X11_common.cells rm_X11_common.slots A) 28 (k_X11_common_28 post K) := by
  unfold k_X11_common_28
  refine q_istore_n C (by decide +kernel : decode cX11_common 28 = .ok (.istore_n 3, 1)) ?_
  refine q_iload_n C (by decide +kernel : decode cX11_common 29 = .ok (.iload_n 2, 1)) ?_
  refine q_ifeq C (tgt := 49) (by decide +kernel : decode cX11_common 30 = .ok (.ifCond .eq 19, 3)) (by decide) ?_ ?_
  · exact v_X11_common_49 C hK
  · refine q_iload_n C (by decide +kernel : decode cX11_common 33 = .ok (.iload_n 3, 1)) ?_
    refine q_ifne C (tgt := 49) (by decide +kernel : decode cX11_common 34 = .ok (.ifCond .ne 15, 3)) (by decide) ?_ ?_
    · exact v_X11_common_49 C hK
    · refine q_aload_n C (by decide +kernel : decode cX11_common 37 = .ok (.aload_n 0, 1)) ?_
      refine q_get C (ci := 11) (j := 31) (C0 := RX11) (T := TX11) (N := 35) rfl iX11 giX11 (by decide) w9_86 (by decide +kernel : decode cX11_common 38 = .ok (.getfield 167, 3)) ?_
      refine q_bipush C (by decide +kernel : decode cX11_common 41 = .ok (.bipush 20, 2)) (by decide) ?_
      refine q_icne C (tgt := 49) (by decide +kernel : decode cX11_common 43 = .ok (.if_icmp .ne 6, 3)) (by decide) ?_ ?_
      · exact v_X11_common_49 C hK
      · refine q_bipush C (by decide +kernel : decode cX11_common 46 = .ok (.bipush (-4), 2)) (by decide) ?_
        exact q_iret C rfl (by decide +kernel : decode cX11_common 48 = .ok (.ireturn, 1))
set_option maxRecDepth 100000 in
theorem v_X11_common_0 {p : Program} {l : Launch} {e : Env} {s : State} {m : MethodId} {args : Array Value} {below : List Frame} {meth : Method} {c : Code} {D : va_G} {A : Nat → Prop} {post : Option Value → q_S → Prop} {K : Nat → q_K} (C : q_C p s m args meth c cX11_common 4 RX11 "common" (some .int) A) (hK : ∀ h ∈ ([] : List Nat), q_V p l e rm_X11_common s m args below meth c D A 4 (MQ below (q_Qc D A post) args s rm_X11_common.cells rm_X11_common.slots A) h (K h)) : q_V p l e rm_X11_common s m args below meth c D A 4 (MQ below (q_Qc D A post) args s rm_X11_common.cells rm_X11_common.slots A) 0 (k_X11_common_0 post K) := by
  unfold k_X11_common_0
  refine q_iload_n C (by decide +kernel : decode cX11_common 0 = .ok (.iload_n 1, 1)) ?_
  refine q_iconst C (by decide +kernel : decode cX11_common 1 = .ok (.iconst 1, 1)) (by decide) ?_
  refine q_sipush C (by decide +kernel : decode cX11_common 2 = .ok (.sipush 999, 3)) (by decide) ?_
  refine q_call3 C (q_coS C (np := 3) (t_X11_in l) w9_5 w9_8 w9_7 w9_6 (by decide +kernel) (by decide +kernel : decode cX11_common 5 = .ok (.invokestatic 92, 3)) (by decide)) ?_
  refine q_ifne C (tgt := 14) (by decide +kernel : decode cX11_common 8 = .ok (.ifCond .ne 6, 3)) (by decide) ?_ ?_
  · refine q_aload_n C (by decide +kernel : decode cX11_common 14 = .ok (.aload_n 0, 1)) ?_
    refine q_get C (ci := 11) (j := 32) (C0 := RX11) (T := TX11) (N := 35) rfl iX11 giX11 (by decide) w9_85 (by decide +kernel : decode cX11_common 15 = .ok (.getfield 86, 3)) ?_
    refine q_iload_n C (by decide +kernel : decode cX11_common 18 = .ok (.iload_n 1, 1)) ?_
    refine q_zald C (by decide +kernel : decode cX11_common 19 = .ok (.baload, 1)) ?_
    refine q_ifeq C (tgt := 27) (by decide +kernel : decode cX11_common 20 = .ok (.ifCond .eq 7, 3)) (by decide) ?_ ?_
    · refine q_iconst C (by decide +kernel : decode cX11_common 27 = .ok (.iconst 0, 1)) (by decide) ?_
      exact v_X11_common_28 C hK
    · refine q_iconst C (by decide +kernel : decode cX11_common 23 = .ok (.iconst 1, 1)) (by decide) ?_
      refine q_goto C (tgt := 28) (by decide +kernel : decode cX11_common 24 = .ok (.goto 4, 3)) (by decide) ?_
      exact v_X11_common_28 C hK
  · refine q_bipush C (by decide +kernel : decode cX11_common 11 = .ok (.bipush (-2), 2)) (by decide) ?_
    exact q_iret C rfl (by decide +kernel : decode cX11_common 13 = .ok (.ireturn, 1))
theorem u_X11_common (l : Launch) {sp : q_Sp} (H : ∀ (av : List Value) (σ : q_S) (post : Option Value → q_S → Prop), sp av σ post → k_X11_common_0 post (fun _ _ _ _ _ _ => False) (q_L0 av 4) [] σ 0 0 ∧ av.length ≤ 4 ∧ ∀ v ∈ av, v.category = 1) : q_Ct l yX11_common cX11_common 4 (some .int) rm_X11_common sp := by
  refine q_met (by decide) ?_
  intro D A p e s m args below meth c σ av post C hsp
  obtain ⟨h1, h2, h3⟩ := H av σ post hsp
  exact ⟨_, v_X11_common_0 (K := fun _ _ _ _ _ _ => False) C (fun h hh => by cases hh), h1, h2, h3⟩
theorem t_X11_common (l : Launch) : q_Ct l yX11_common cX11_common 4 (some .int) rm_X11_common s_X11_common := u_X11_common l (by
  intro av σ post h
  unfold s_X11_common at h
  split at h
  · next mr x on =>
    refine ⟨?_, by simp, by simp [Value.category]⟩
    obtain ⟨ad, z, g, ⟨gp, r, hm⟩, hI, hon, h1⟩ := h
    have P := fun v => hm.p31 v
    have Q : ∀ v, _ := fun v => (hm.p31 v).a32 x.toNatClampNeg on
    have Prd := fun v => (hm.p31 v).rd
    simp only [c_push, c_null, c_iload, c_aload, c_istore, c_astore, c_iinc, c_iadd, c_isub, c_imul, c_iand, c_ineg, c_dup, c_dup2, c_pop, c_ifnull, c_ifnonnull, c_get, c_put, c_iald, c_zald, c_iast, c_zast, c_aald, c_aast, c_alen, c_new, c_newa, c_newq, c_mna, c_oinit, c_max, c_copy, c_iret, c_zret, c_aret, c_vret, q_do, q_rc, c_ifeq, c_ifne, c_iflt, c_ifge, c_ifgt, c_ifle, c_iceq, c_icne, c_iclt, c_icge, c_icgt, c_icle, c_call0, c_call1, c_call2, c_call3, c_call4, c_call5, c_call6, c_call7, q_L0, List.map_cons, List.map_nil, List.replicate, List.cons_append, List.nil_append, List.append_nil, List.length_cons, List.length_nil, List.length_set, Nat.reduceSub, Nat.reduceAdd, Nat.reduceLT, Nat.reduceLeDiff, Nat.zero_add, Nat.add_zero, Nat.sub_zero, Nat.sub_self, List.getElem?_cons_zero, List.getElem?_cons_succ, List.set_cons_zero, List.set_cons_succ, Option.toList_some, Option.toList_none, List.sum_cons, List.sum_nil, true_and, and_true, true_or, or_true, Nat.le_refl, Nat.zero_le, Value.category, Fin.isValue, Fin.val_zero, Fin.val_one, Fin.val_two, Fin.reduceFinMk, q_10, q_01, not_false_eq_true, not_true_eq_false, forall_const, true_implies, false_implies, implies_true, q_ni, q_fi, q_nb0, q_nb1, q_fb0, q_fb1, q_nor, q_nar, q_for, q_far, q_non, q_nan, q_fon, q_fan, imp_false, false_and, and_false, and_self, false_or, or_false, va_rf, refKind, k_X11_common_0, k_X11_common_28, k_X11_common_49, k_X11_common_63, hm.rd, Prd, s_X11_in, s_X10_isWithin, nar01 hon, vpi1000]
    by_cases c1 : 1 ≤ x ∧ x ≤ 999
    · rw [F_common, if_pos c1] at h1
      have cx : 0 ≤ x ∧ x < 1000 := by grind
      by_cases c2 : on = 1 ∧ g 32 x.toNatClampNeg = 0 ∧ z 31 = 20
      · rw [if_pos c2] at h1
        have a := h1 _ ⟨gp, r, hm⟩
        clear h1 P Q Prd hm
        grind (splits := 40)
      · rw [if_neg c2] at h1
        have a := h1 _ ⟨gp, r, Q _⟩
        clear h1 P Q Prd hm
        rcases hon with rfl | rfl <;> by_cases c3 : g 32 x.toNatClampNeg = 0 <;> simp only [c3, if_true, if_false] at a <;> grind (splits := 40)
    · rw [F_common, if_neg c1] at h1
      have a := h1 _ ⟨gp, r, hm⟩
      clear h1 P Q Prd hm
      grind (splits := 40)
  · exact h.elim)
theorem ofI {x : Int32} {n : Nat} (h : x.toInt = 0 + (n : Int)) (hn : n < 2147483648) : x = nI n := Int32.toInt_inj.mp (by rw [nI_toInt hn]; omega)
def F_count (z : Nat → Int32) (x : Int32) : Int32 := if x = 0 then z 0 else if x = 1 then z 1 else if x = 2 then z 5 else if x = 3 then z 11 else if x = 4 then z 22 else if x = 5 then z 31 else -2
def s_X11_count : q_Sp := fun av σ post => match av with
  | [.ref mr, .int x] => ∃ ad z g, mOK σ mr ad z g ∧ ∀ σ', mOK σ' mr ad z g → post (some (.int (F_count z x))) σ'
  | _ => False
theorem w9_87 : (.fieldLink RX11 164 (TX11 22).1 (TX11 22).2.1 (TX11 22).2.2.1 : Cond) ∈ lw_tbl := by decide +kernel
def rm_X11_count : Room := { frames := 0, cells := 0, slots := 0, locals := 0 }
def k_X11_count_0 (post : Option Value → q_S → Prop) (K : Nat → q_K) : q_K := (c_iload 1 (c_tsw 0 [(c_aload 0 (c_get 11 0 (c_iret post))), (c_aload 0 (c_get 11 1 (c_iret post))), (c_aload 0 (c_get 11 5 (c_iret post))), (c_aload 0 (c_get 11 11 (c_iret post))), (c_aload 0 (c_get 11 22 (c_iret post))), (c_aload 0 (c_get 11 31 (c_iret post)))] (c_push (-2) (c_iret post))))
set_option maxRecDepth 100000 in
theorem v_X11_count_0 {p : Program} {l : Launch} {e : Env} {s : State} {m : MethodId} {args : Array Value} {below : List Frame} {meth : Method} {c : Code} {D : va_G} {A : Nat → Prop} {post : Option Value → q_S → Prop} {K : Nat → q_K} (C : q_C p s m args meth c cX11_count 2 RX11 "count" (some .int) A) (hK : ∀ h ∈ ([] : List Nat), q_V p l e rm_X11_count s m args below meth c D A 2 (MQ below (q_Qc D A post) args s rm_X11_count.cells rm_X11_count.slots A) h (K h)) : q_V p l e rm_X11_count s m args below meth c D A 2 (MQ below (q_Qc D A post) args s rm_X11_count.cells rm_X11_count.slots A) 0 (k_X11_count_0 post K) := by
  unfold k_X11_count_0
  refine q_iload_n C (by decide +kernel : decode cX11_count 0 = .ok (.iload_n 1, 1)) ?_
  refine q_tsw C (tgt := 70) (by decide +kernel : decode cX11_count 1 = .ok (.tableswitch 69 0 5 #[39, 44, 49, 54, 59, 64], 39)) (by rfl) (by decide) ?_ (fun i ki hi => ?_)
  · refine q_bipush C (by decide +kernel : decode cX11_count 70 = .ok (.bipush (-2), 2)) (by decide) ?_
    exact q_iret C rfl (by decide +kernel : decode cX11_count 72 = .ok (.ireturn, 1))
  · match i, hi with
    | 0, hi =>
      cases hi
      refine ⟨39, 40, by decide, by decide, ?_⟩
      refine q_aload_n C (by decide +kernel : decode cX11_count 40 = .ok (.aload_n 0, 1)) ?_
      refine q_get C (ci := 11) (j := 0) (C0 := RX11) (T := TX11) (N := 35) rfl iX11 giX11 (by decide) w9_10 (by decide +kernel : decode cX11_count 41 = .ok (.getfield 96, 3)) ?_
      exact q_iret C rfl (by decide +kernel : decode cX11_count 44 = .ok (.ireturn, 1))
    | 1, hi =>
      cases hi
      refine ⟨44, 45, by decide, by decide, ?_⟩
      refine q_aload_n C (by decide +kernel : decode cX11_count 45 = .ok (.aload_n 0, 1)) ?_
      refine q_get C (ci := 11) (j := 1) (C0 := RX11) (T := TX11) (N := 35) rfl iX11 giX11 (by decide) w9_4 (by decide +kernel : decode cX11_count 46 = .ok (.getfield 100, 3)) ?_
      exact q_iret C rfl (by decide +kernel : decode cX11_count 49 = .ok (.ireturn, 1))
    | 2, hi =>
      cases hi
      refine ⟨49, 50, by decide, by decide, ?_⟩
      refine q_aload_n C (by decide +kernel : decode cX11_count 50 = .ok (.aload_n 0, 1)) ?_
      refine q_get C (ci := 11) (j := 5) (C0 := RX11) (T := TX11) (N := 35) rfl iX11 giX11 (by decide) w9_22 (by decide +kernel : decode cX11_count 51 = .ok (.getfield 122, 3)) ?_
      exact q_iret C rfl (by decide +kernel : decode cX11_count 54 = .ok (.ireturn, 1))
    | 3, hi =>
      cases hi
      refine ⟨54, 55, by decide, by decide, ?_⟩
      refine q_aload_n C (by decide +kernel : decode cX11_count 55 = .ok (.aload_n 0, 1)) ?_
      refine q_get C (ci := 11) (j := 11) (C0 := RX11) (T := TX11) (N := 35) rfl iX11 giX11 (by decide) w9_9 (by decide +kernel : decode cX11_count 56 = .ok (.getfield 103, 3)) ?_
      exact q_iret C rfl (by decide +kernel : decode cX11_count 59 = .ok (.ireturn, 1))
    | 4, hi =>
      cases hi
      refine ⟨59, 60, by decide, by decide, ?_⟩
      refine q_aload_n C (by decide +kernel : decode cX11_count 60 = .ok (.aload_n 0, 1)) ?_
      refine q_get C (ci := 11) (j := 22) (C0 := RX11) (T := TX11) (N := 35) rfl iX11 giX11 (by decide) w9_87 (by decide +kernel : decode cX11_count 61 = .ok (.getfield 164, 3)) ?_
      exact q_iret C rfl (by decide +kernel : decode cX11_count 64 = .ok (.ireturn, 1))
    | 5, hi =>
      cases hi
      refine ⟨64, 65, by decide, by decide, ?_⟩
      refine q_aload_n C (by decide +kernel : decode cX11_count 65 = .ok (.aload_n 0, 1)) ?_
      refine q_get C (ci := 11) (j := 31) (C0 := RX11) (T := TX11) (N := 35) rfl iX11 giX11 (by decide) w9_86 (by decide +kernel : decode cX11_count 66 = .ok (.getfield 167, 3)) ?_
      exact q_iret C rfl (by decide +kernel : decode cX11_count 69 = .ok (.ireturn, 1))
    | i + 6, hi => simp at hi
theorem u_X11_count (l : Launch) {sp : q_Sp} (H : ∀ (av : List Value) (σ : q_S) (post : Option Value → q_S → Prop), sp av σ post → k_X11_count_0 post (fun _ _ _ _ _ _ => False) (q_L0 av 2) [] σ 0 0 ∧ av.length ≤ 2 ∧ ∀ v ∈ av, v.category = 1) : q_Ct l yX11_count cX11_count 2 (some .int) rm_X11_count sp := by
  refine q_met (by decide) ?_
  intro D A p e s m args below meth c σ av post C hsp
  obtain ⟨h1, h2, h3⟩ := H av σ post hsp
  exact ⟨_, v_X11_count_0 (K := fun _ _ _ _ _ _ => False) C (fun h hh => by cases hh), h1, h2, h3⟩
theorem t_X11_count (l : Launch) : q_Ct l yX11_count cX11_count 2 (some .int) rm_X11_count s_X11_count := u_X11_count l (by
  intro av σ post h
  unfold s_X11_count at h
  split at h
  · next mr x =>
    refine ⟨?_, by simp, by simp [Value.category]⟩
    obtain ⟨ad, z, g, ⟨gp, r, hm⟩, h1⟩ := h
    have h2 := h1 _ ⟨gp, r, hm⟩
    simp only [c_push, c_null, c_iload, c_aload, c_istore, c_astore, c_iinc, c_iadd, c_isub, c_imul, c_iand, c_ineg, c_dup, c_dup2, c_pop, c_ifnull, c_ifnonnull, c_get, c_put, c_iald, c_zald, c_iast, c_zast, c_aald, c_aast, c_alen, c_new, c_newa, c_newq, c_mna, c_oinit, c_max, c_copy, c_iret, c_zret, c_aret, c_vret, q_do, q_rc, c_ifeq, c_ifne, c_iflt, c_ifge, c_ifgt, c_ifle, c_iceq, c_icne, c_iclt, c_icge, c_icgt, c_icle, c_call0, c_call1, c_call2, c_call3, c_call4, c_call5, c_call6, c_call7, q_L0, List.map_cons, List.map_nil, List.replicate, List.cons_append, List.nil_append, List.append_nil, List.length_cons, List.length_nil, List.length_set, Nat.reduceSub, Nat.reduceAdd, Nat.reduceLT, Nat.reduceLeDiff, Nat.zero_add, Nat.add_zero, Nat.sub_zero, Nat.sub_self, List.getElem?_cons_zero, List.getElem?_cons_succ, List.set_cons_zero, List.set_cons_succ, Option.toList_some, Option.toList_none, List.sum_cons, List.sum_nil, true_and, and_true, true_or, or_true, Nat.le_refl, Nat.zero_le, Value.category, Fin.isValue, Fin.val_zero, Fin.val_one, Fin.val_two, Fin.reduceFinMk, q_10, q_01, not_false_eq_true, not_true_eq_false, forall_const, true_implies, false_implies, implies_true, q_ni, q_fi, q_nb0, q_nb1, q_fb0, q_fb1, q_nor, q_nar, q_for, q_far, q_non, q_nan, q_fon, q_fan, imp_false, false_and, and_false, and_self, false_or, or_false, va_rf, refKind, k_X11_count_0, hm.rd, c_tsw]
    refine ⟨fun i ki hi hx => ?_, fun c => ?_⟩
    · rcases i with _ | _ | _ | _ | _ | _ | i
      all_goals first
        | (cases hi
           have e := ofI hx (by decide)
           subst e
           simp only [c_push, c_null, c_iload, c_aload, c_istore, c_astore, c_iinc, c_iadd, c_isub, c_imul, c_iand, c_ineg, c_dup, c_dup2, c_pop, c_ifnull, c_ifnonnull, c_get, c_put, c_iald, c_zald, c_iast, c_zast, c_aald, c_aast, c_alen, c_new, c_newa, c_newq, c_mna, c_oinit, c_max, c_copy, c_iret, c_zret, c_aret, c_vret, q_do, q_rc, c_ifeq, c_ifne, c_iflt, c_ifge, c_ifgt, c_ifle, c_iceq, c_icne, c_iclt, c_icge, c_icgt, c_icle, c_call0, c_call1, c_call2, c_call3, c_call4, c_call5, c_call6, c_call7, q_L0, List.map_cons, List.map_nil, List.replicate, List.cons_append, List.nil_append, List.append_nil, List.length_cons, List.length_nil, List.length_set, Nat.reduceSub, Nat.reduceAdd, Nat.reduceLT, Nat.reduceLeDiff, Nat.zero_add, Nat.add_zero, Nat.sub_zero, Nat.sub_self, List.getElem?_cons_zero, List.getElem?_cons_succ, List.set_cons_zero, List.set_cons_succ, Option.toList_some, Option.toList_none, List.sum_cons, List.sum_nil, true_and, and_true, true_or, or_true, Nat.le_refl, Nat.zero_le, Value.category, Fin.isValue, Fin.val_zero, Fin.val_one, Fin.val_two, Fin.reduceFinMk, q_10, q_01, not_false_eq_true, not_true_eq_false, forall_const, true_implies, false_implies, implies_true, q_ni, q_fi, q_nb0, q_nb1, q_fb0, q_fb1, q_nor, q_nar, q_for, q_far, q_non, q_nan, q_fon, q_fan, imp_false, false_and, and_false, and_self, false_or, or_false, va_rf, refKind, hm.rd]
           exact h2)
        | (simp at hi)
    · have n0 : ∀ i : Nat, i < 6 → x ≠ nI i := fun i hi e => by
        rw [e, nI_toInt (by omega)] at c
        omega
      rw [F_count, if_neg (show ¬ x = 0 from n0 0 (by decide)), if_neg (show ¬ x = 1 from n0 1 (by decide)), if_neg (show ¬ x = 2 from n0 2 (by decide)), if_neg (show ¬ x = 3 from n0 3 (by decide)), if_neg (show ¬ x = 4 from n0 4 (by decide)), if_neg (show ¬ x = 5 from n0 5 (by decide))] at h2
      exact h2
  · exact h.elim)
