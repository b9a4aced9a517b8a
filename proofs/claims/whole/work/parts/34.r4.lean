-- person
theorem va_up_s {α : Type} {f : Nat → α} {k : Nat} {v : α} : va_up f k v k = v := by unfold va_up; rw [if_pos rfl]
theorem va_up_n {α : Type} {f : Nat → α} {k j : Nat} {v : α} (h : j ≠ k) : va_up f k v j = f j := by unfold va_up; rw [if_neg h]
theorem gup_n {g : Nat → Nat → Int32} {k i j : Nat} {v : Int32} (h : j ≠ k) : gup g k i v j = g j := by unfold gup; rw [if_neg h]
theorem gup_s {g : Nat → Nat → Int32} {k i j : Nat} {v : Int32} : gup g k i v k j = if j = i then v else g k j := by unfold gup upd; rw [if_pos rfl]
theorem npF_s {z : Nat → Int32} (h : 0 ≤ z 1 ∧ z 1 < 12) : npF (upd z 1 (z 1 + 1)) = npF z + 1 := by
  have e := nI_self h.1
  have h2 := clamp_lt 12 h.1 h.2
  unfold npF
  show (z 1 + 1).toNatClampNeg = _
  rw [← e, nI_1, clN (by omega), clN (by omega)]
def AU2 (z : Nat → Int32) (g : Nat → Nat → Int32) : Prop := ∀ w, w < nwF z → 0 ≤ g 12 w ∧ g 12 w < z 1
theorem holdsF_cong {g g' : Nat → Nat → Int32} (h12 : g' 12 = g 12) (h15 : g' 15 = g 15) (h16 : g' 16 = g 16) (h17 : g' 17 = g 17) (h18 : g' 18 = g 18) (h19 : g' 19 = g 19) (w p t : Int32) : ∀ n, holdsF g' w p t n = holdsF g w p t n
  | 0 => by rw [holdsF, holdsF, h12]
  | n + 1 => by rw [holdsF, holdsF, h15, h16, h17, h18, h19, holdsF_cong h12 h15 h16 h17 h18 h19 w p t n]
theorem ShP.cong {σ : q_S} {R : Nat → Prop} {s i : Nat} {z z' : Nat → Int32} {g g' : Nat → Nat → Int32} (h : ShP σ R s i z g) (h0 : z 0 ≤ z' 0) (h14 : z' 14 = z 14) (h12 : g' 12 = g 12) (h13 : g' 13 = g 13) (h15 : g' 15 = g 15) (h16 : g' 16 = g 16) (h17 : g' 17 = g 17) (h18 : g' 18 = g 18) (h19 : g' 19 = g 19) (h20 : g' 20 = g 20) : ShP σ R s i z' g' := by
  obtain ⟨pgs, h1, ⟨x, t, e, hx⟩, h3, h4⟩ := h
  refine ⟨pgs, by rw [h20]; exact h1, ⟨x, t, e, Int32.le_trans hx h0⟩, h3, fun t p ht hp => ?_⟩
  rw [h13] at ht
  rw [holdsF_cong h12 h15 h16 h17 h18 h19, h4 t p ht hp]
  unfold mvF
  rw [h14]
def s_X10_person : q_Sp := fun av σ post => match av with
  | [.ref r] => ∃ z g, RegOK σ r z g ∧ I1 z ∧ AU2 z g ∧ ∀ σ', RegOK σ' r (F_person z g).2.1 (F_person z g).2.2 → post (some (.int (F_person z g).1)) σ'
  | _ => False
theorem w9_324 : (.classLink RX10 15 RX7 : Cond) ∈ lw_tbl := by decide +kernel
theorem w9_325 : (.instantiable RX7 3 : Cond) ∈ lw_tbl := by decide +kernel
theorem w9_326 : (.code yX7_init cX7_init 1 none : Cond) ∈ lw_tbl := by decide +kernel
theorem w9_327 : (.methodLink RX10 67 yX7_init : Cond) ∈ lw_tbl := by decide +kernel
theorem w9_328 : (.instanceMethod yX7_init : Cond) ∈ lw_tbl := by decide +kernel
def rm_X10_person : Room := { frames := 2, cells := 1, slots := 3, locals := 40 }
def k_X10_person_0 (post : Option Value → q_S → Prop) (K : Nat → q_K) : q_K := (c_aload 0 (c_get 10 2 (c_push 12 (c_iclt (c_aload 0 (c_get 10 1 (c_aload 0 (c_get 10 2 (c_new 7 3 [.int 0, .int 0, .int 0] (c_dup (c_call1 (some 7) s_X7_init 0 0 (c_aast 7 (c_aload 0 (c_dup (c_get 10 2 (c_push 1 (c_iadd (c_put 10 2 (.int) (c_aload 0 (c_get 10 2 (c_push 1 (c_isub (c_iret post))))))))))))))))))) (c_push (-4) (c_iret post))))))
set_option maxRecDepth 100000 in
theorem v_X10_person_0 {p : Program} {l : Launch} {e : Env} {s : State} {m : MethodId} {args : Array Value} {below : List Frame} {meth : Method} {c : Code} {D : va_G} {A : Nat → Prop} {post : Option Value → q_S → Prop} {K : Nat → q_K} (C : q_C p s m args meth c cX10_person 1 RX10 "person" (some .int) A) (hK : ∀ h ∈ ([] : List Nat), q_V p l e rm_X10_person s m args below meth c D A 1 (MQ below (q_Qc D A post) args s rm_X10_person.cells rm_X10_person.slots A) h (K h)) : q_V p l e rm_X10_person s m args below meth c D A 1 (MQ below (q_Qc D A post) args s rm_X10_person.cells rm_X10_person.slots A) 0 (k_X10_person_0 post K) := by
  unfold k_X10_person_0
  refine q_aload_n C (by decide +kernel : decode cX10_person 0 = .ok (.aload_n 0, 1)) ?_
  refine q_get C (ci := 10) (j := 2) (C0 := RX10) (T := TX10) (N := 10) rfl iX10 giX10 (by decide) w9_312 (by decide +kernel : decode cX10_person 1 = .ok (.getfield 21, 3)) ?_
  refine q_bipush C (by decide +kernel : decode cX10_person 4 = .ok (.bipush 12, 2)) (by decide) ?_
  refine q_iclt C (tgt := 12) (by decide +kernel : decode cX10_person 6 = .ok (.if_icmp .lt 6, 3)) (by decide) ?_ ?_
  · refine q_aload_n C (by decide +kernel : decode cX10_person 12 = .ok (.aload_n 0, 1)) ?_
    refine q_get C (ci := 10) (j := 1) (C0 := RX10) (T := TX10) (N := 10) rfl iX10 giX10 (by decide) w9_313 (by decide +kernel : decode cX10_person 13 = .ok (.getfield 17, 3)) ?_
    refine q_aload_n C (by decide +kernel : decode cX10_person 16 = .ok (.aload_n 0, 1)) ?_
    refine q_get C (ci := 10) (j := 2) (C0 := RX10) (T := TX10) (N := 10) rfl iX10 giX10 (by decide) w9_312 (by decide +kernel : decode cX10_person 17 = .ok (.getfield 21, 3)) ?_
    refine q_new C (ci := 7) (C0 := RX7) (T := TX7) (N := 3) (fs := [.int 0, .int 0, .int 0]) rfl iX7 giX7 tyX7 tyX7_ok w9_324 w9_325 w9_121 dvX7 (by decide +kernel : decode cX10_person 20 = .ok (.new 15, 3)) ?_
    refine q_dup C (by decide +kernel : decode cX10_person 23 = .ok (.dup, 1)) ?_
    refine q_call1 C (q_coI C (np := 0) (ci := 7) (t_X7_init l) w9_326 rfl w9_327 w9_328 w9_121 (by decide +kernel) (by decide +kernel : decode cX10_person 24 = .ok (.invokespecial 67, 3)) (by decide)) ?_
    refine q_aast C (ci := 7) rfl (by decide +kernel : decode cX10_person 27 = .ok (.aastore, 1)) ?_
    refine q_aload_n C (by decide +kernel : decode cX10_person 28 = .ok (.aload_n 0, 1)) ?_
    refine q_dup C (by decide +kernel : decode cX10_person 29 = .ok (.dup, 1)) ?_
    refine q_get C (ci := 10) (j := 2) (C0 := RX10) (T := TX10) (N := 10) rfl iX10 giX10 (by decide) w9_312 (by decide +kernel : decode cX10_person 30 = .ok (.getfield 21, 3)) ?_
    refine q_iconst C (by decide +kernel : decode cX10_person 33 = .ok (.iconst 1, 1)) (by decide) ?_
    refine q_iadd C (by decide +kernel : decode cX10_person 34 = .ok (.iadd, 1)) ?_
    refine q_put C (ci := 10) (j := 2) (C0 := RX10) (T := TX10) (N := 10) (ty := .int) rfl iX10 giX10 (by decide) tyX10 tyX10_ok nmX10 (by decide +kernel) rfl w9_312 (by decide +kernel : decode cX10_person 35 = .ok (.putfield 21, 3)) ?_
    refine q_aload_n C (by decide +kernel : decode cX10_person 38 = .ok (.aload_n 0, 1)) ?_
    refine q_get C (ci := 10) (j := 2) (C0 := RX10) (T := TX10) (N := 10) rfl iX10 giX10 (by decide) w9_312 (by decide +kernel : decode cX10_person 39 = .ok (.getfield 21, 3)) ?_
    refine q_iconst C (by decide +kernel : decode cX10_person 42 = .ok (.iconst 1, 1)) (by decide) ?_
    refine q_isub C (by decide +kernel : decode cX10_person 43 = .ok (.isub, 1)) ?_
    exact q_iret C rfl (by decide +kernel : decode cX10_person 44 = .ok (.ireturn, 1))
  · refine q_bipush C (by decide +kernel : decode cX10_person 9 = .ok (.bipush (-4), 2)) (by decide) ?_
    exact q_iret C rfl (by decide +kernel : decode cX10_person 11 = .ok (.ireturn, 1))
theorem u_X10_person (l : Launch) {sp : q_Sp} (H : ∀ (av : List Value) (σ : q_S) (post : Option Value → q_S → Prop), sp av σ post → k_X10_person_0 post (fun _ _ _ _ _ _ => False) (q_L0 av 1) [] σ 1 3 ∧ av.length ≤ 1 ∧ ∀ v ∈ av, v.category = 1) : q_Ct l yX10_person cX10_person 1 (some .int) rm_X10_person sp := by
  refine q_met (by decide) ?_
  intro D A p e s m args below meth c σ av post C hsp
  obtain ⟨h1, h2, h3⟩ := H av σ post hsp
  exact ⟨_, v_X10_person_0 (K := fun _ _ _ _ _ _ => False) C (fun h hh => by cases hh), h1, h2, h3⟩
theorem t_X10_person (l : Launch) : q_Ct l yX10_person cX10_person 1 (some .int) rm_X10_person s_X10_person := u_X10_person l (by
  intro av σ post h
  unfold s_X10_person at h
  split at h
  · next r =>
    refine ⟨?_, by simp, by simp [Value.category]⟩
    obtain ⟨z, g, hR, hI, hAU, h1⟩ := h
    have hR0 := hR
    obtain ⟨Rg, P, AC, AR, WK, LC, CL, CM, CP, pa, aa, wa, sa, ga, la, lra, lc, lrn, hD⟩ := hR
    have e1 := hD.p1.2
    have e2 := hD.p2.1.2
    have h20 := hI.n20
    have hI2 := hI
    unfold I1 at hI
    unfold F_person at h1
    have hne := ne_ao e2 e1
    simp only [c_push, c_null, c_iload, c_aload, c_istore, c_astore, c_iinc, c_iadd, c_isub, c_imul, c_iand, c_ineg, c_dup, c_dup2, c_pop, c_ifnull, c_ifnonnull, c_get, c_put, c_iald, c_zald, c_iast, c_zast, c_aald, c_aast, c_alen, c_new, c_newa, c_newq, c_mna, c_oinit, c_max, c_copy, c_iret, c_zret, c_aret, c_vret, q_do, q_rc, c_ifeq, c_ifne, c_iflt, c_ifge, c_ifgt, c_ifle, c_iceq, c_icne, c_iclt, c_icge, c_icgt, c_icle, c_call0, c_call1, c_call2, c_call3, c_call4, c_call5, c_call6, c_call7, q_L0, List.map_cons, List.map_nil, List.replicate, List.cons_append, List.nil_append, List.append_nil, List.length_cons, List.length_nil, List.length_set, Nat.reduceSub, Nat.reduceAdd, Nat.reduceLT, Nat.reduceLeDiff, Nat.zero_add, Nat.add_zero, Nat.sub_zero, Nat.sub_self, List.getElem?_cons_zero, List.getElem?_cons_succ, List.set_cons_zero, List.set_cons_succ, Option.toList_some, Option.toList_none, List.sum_cons, List.sum_nil, true_and, and_true, true_or, or_true, Nat.le_refl, Nat.zero_le, Value.category, Fin.isValue, Fin.val_zero, Fin.val_one, Fin.val_two, Fin.reduceFinMk, q_10, q_01, not_false_eq_true, not_true_eq_false, forall_const, true_implies, false_implies, implies_true, q_ni, q_fi, q_nb0, q_nb1, q_fb0, q_fb1, q_nor, q_nar, q_for, q_far, q_non, q_nan, q_fon, q_fan, imp_false, false_and, and_false, and_self, false_or, or_false, va_rf, refKind, k_X10_person_0, q_fld, q_fset, q_oc, q_ai, q_aq, q_len, q_up_s, q_up_up, if_true, e1, e2]
    by_cases c12 : z 1 = 12
    · rw [if_pos c12] at h1
      have a := h1 _ hR0
      clear h1
      exact ⟨fun c => absurd c (by grind), fun _ => a⟩
    · rw [if_neg c12] at h1
      refine ⟨fun c => ?_, fun c => absurd (by grind) c⟩
      intro q hq
      have hrq : r ≠ q := fun e => by rw [← e, e1] at hq; cases hq
      have hPq : P ≠ q := fun e => by rw [← e, e2] at hq; cases hq
      have hru := refs_up 12 (npF z) pa q "CopyRegister$Person"
      have en : q_nm 7 = "CopyRegister$Person" := rfl
      have e5 : (z 1).toNatClampNeg = npF z := rfl
      simp only [c_push, c_null, c_iload, c_aload, c_istore, c_astore, c_iinc, c_iadd, c_isub, c_imul, c_iand, c_ineg, c_dup, c_dup2, c_pop, c_ifnull, c_ifnonnull, c_get, c_put, c_iald, c_zald, c_iast, c_zast, c_aald, c_aast, c_alen, c_new, c_newa, c_newq, c_mna, c_oinit, c_max, c_copy, c_iret, c_zret, c_aret, c_vret, q_do, q_rc, c_ifeq, c_ifne, c_iflt, c_ifge, c_ifgt, c_ifle, c_iceq, c_icne, c_iclt, c_icge, c_icgt, c_icle, c_call0, c_call1, c_call2, c_call3, c_call4, c_call5, c_call6, c_call7, q_L0, List.map_cons, List.map_nil, List.replicate, List.cons_append, List.nil_append, List.append_nil, List.length_cons, List.length_nil, List.length_set, Nat.reduceSub, Nat.reduceAdd, Nat.reduceLT, Nat.reduceLeDiff, Nat.zero_add, Nat.add_zero, Nat.sub_zero, Nat.sub_self, List.getElem?_cons_zero, List.getElem?_cons_succ, List.set_cons_zero, List.set_cons_succ, Option.toList_some, Option.toList_none, List.sum_cons, List.sum_nil, true_and, and_true, true_or, or_true, Nat.le_refl, Nat.zero_le, Value.category, Fin.isValue, Fin.val_zero, Fin.val_one, Fin.val_two, Fin.reduceFinMk, q_10, q_01, not_false_eq_true, not_true_eq_false, forall_const, true_implies, false_implies, implies_true, q_ni, q_fi, q_nb0, q_nb1, q_fb0, q_fb1, q_nor, q_nar, q_for, q_far, q_non, q_nan, q_fon, q_fan, imp_false, false_and, and_false, and_self, false_or, or_false, va_rf, refKind, q_fld, q_fset, q_oc, q_ai, q_aq, q_len, q_up_s, q_up_up, if_true, s_X7_init, q_up_n hPq, q_up_n hrq, e1, e2, vpi12, en, e5, hru, q_up_n hne.symm, q_up_n hne]
      refine ⟨by grind, ?_⟩
      have e3 : z 1 + 1 - 1 = z 1 := by grind
      rw [e3]
      have hq2 : ∀ a e, σ a = some e → a ≠ q := fun a e he e9 => by rw [e9, hq] at he; cases he
      have hnp := npF_s ⟨hI.2.1.1, c⟩
      refine h1 _ (hD.put (pa' := va_up pa (npF z) q) (aa' := aa) (wa' := wa) (sa' := sa) (ga' := ga) (la' := la) (lra' := lra) (lc' := lc) (lrn' := va_up lrn (npF z) (-1)) (z' := upd z 1 (z 1 + 1)) (g' := gup (gup g 2 (npF z) (-1)) 3 (npF z) (-1)) (fun t => t = 1 ∨ t = 2) (fun t a => (Rg t a ∧ σ a ≠ none) ∨ (t = 2 ∧ a = q)) ?_ ?_ ?_ ?_)
      · rintro t t' a - - (h3 | h3) (h4 | h4)
        · exact hD.1 _ _ _ h3.1 h4.1
        · exact absurd (by rw [h4.2]; exact hq) h3.2
        · exact absurd (by rw [h3.2]; exact hq) h4.2
        · rw [h3.1, h4.1]
      · intro a e ha he
        refine ⟨?_, ?_⟩
        · rintro t ht (h3 | h3)
          · exact ha t ht h3.1
          · exact hq2 a e he h3.2
        · rw [q_up_n (fun e9 => ha 1 (Or.inl rfl) (by rw [e9]; exact hD.p1.1)), q_up_n (fun e9 => ha 2 (Or.inr rfl) (by rw [e9]; exact hD.p2.1.1)), q_up_n (hq2 a e he)]; exact he
      · rintro k (rfl | rfl)
        · exact ⟨Or.inl ⟨hD.p1.1, by rw [e1]; exact fun h => by cases h⟩, q_up_s⟩
        · show PersP _ _ P _ _ _ (npF (upd z 1 (z 1 + 1)))
          rw [hnp]
          refine ⟨⟨Or.inl ⟨hD.p2.1.1, by rw [e2]; exact fun h => by cases h⟩, by rw [q_up_n hne, q_up_s]⟩, fun i hi => ?_, fun i j hi hj e => ?_, fun i hi h9 => ?_⟩
          · by_cases e : i = npF z
            · subst e
              rw [va_up_s, va_up_s, gup_s, gup_n (by decide), gup_s, if_pos rfl, if_pos rfl]
              exact ⟨Or.inr ⟨rfl, rfl⟩, by rw [q_up_n hrq.symm, q_up_n hPq.symm, q_up_s]⟩
            · have k1 := hD.p2.2.1 i (by omega)
              rw [va_up_n e, va_up_n e, gup_s, gup_n (by decide), gup_s, if_neg e, if_neg e]
              refine ⟨Or.inl ⟨k1.1, by rw [k1.2]; exact fun h => by cases h⟩, ?_⟩
              rw [q_up_n (fun e9 => by have k2 := k1.2; rw [e9, e1] at k2; cases k2), q_up_n (ne_ao e2 k1.2).symm, q_up_n (hq2 _ _ k1.2)]
              exact k1.2
          · by_cases c1 : i = npF z <;> by_cases c2 : j = npF z
            · rw [c1, c2]
            · rw [c1, va_up_s, va_up_n c2] at e
              exact absurd e.symm (hq2 _ _ (hD.p2.2.1 j (by omega)).2)
            · rw [c2, va_up_s, va_up_n c1] at e
              exact absurd e (hq2 _ _ (hD.p2.2.1 i (by omega)).2)
            · rw [va_up_n c1, va_up_n c2] at e
              exact hD.p2.2.2.1 i j (by omega) (by omega) e
          · by_cases e : i = npF z
            · subst e
              rw [gup_s, if_pos rfl] at h9
              exact absurd rfl h9
            · rw [gup_s, if_neg e, gup_n (by decide)] at h9
              rw [va_up_n e, gup_n (by decide), gup_n (by decide)]
              exact hD.p2.2.2.2 i (by omega) h9
      · intro k hk h
        refine h.cong (fun e => absurd (Or.inl e) hk) (fun e => absurd (Or.inr e) hk) (fun _ h => h) (fun _ h => ⟨h.1, fun i hi => ?_⟩) (fun _ h => h) (fun _ h => h) (fun i _ hi => ⟨hi, fun h => h.cong (Int32.le_refl _) rfl rfl rfl rfl rfl rfl rfl rfl rfl⟩) (fun i _ hi => ⟨hi, fun h => h⟩) (fun i _ hi => ⟨hi, fun h => h⟩) h20 h20
        have k1 := h.2 i hi
        have k2 := hAU i hi
        have e : va_up pa (npF z) q (g 12 i).toNatClampNeg = pa (g 12 i).toNatClampNeg := va_up_n (Nat.ne_of_lt (ltN k2.1 k2.2))
        show hv σ (Rg k) (wa i) (.inr (9, [.ref (va_up pa (npF z) q (g 12 i).toNatClampNeg), .int (g 13 i), .ref (sa i), .ref (ga i), .ref (la i)]))
        rw [e]
        exact k1
  · exact h.elim)
