-- held, pledge, redeem of the register
def EN (z : Nat → Int32) (g : Nat → Nat → Int32) : Prop := ∀ w, w < nwF z → 0 ≤ g 13 w ∧ g 13 w ≤ z 0
theorem plM_eq (g : Nat → Nat → Int32) (i p : Nat) : ∀ n, plM (fun p q => g 20 (144 * i + 12 * p + q)) p n = plF g i p n
  | 0 => rfl
  | n + 1 => by rw [plM, plF, plM_eq g i p n]
theorem plM_cong {M M' : Nat → Nat → Int32} {p : Nat} (hp : p < 12) (e : ∀ p q, p < 12 → q < 12 → M p q = M' p q) : ∀ n, n ≤ 12 → plM M p n = plM M' p n
  | 0, _ => rfl
  | n + 1, h => by rw [plM, plM, plM_cong hp e n (by omega), e p n hp (by omega)]
theorem PlP.cM {σ : q_S} {R : Nat → Prop} {pl : Nat} {M M' : Nat → Nat → Int32} (h : PlP σ R pl M) (e : ∀ p q, p < 12 → q < 12 → M p q = M' p q) : PlP σ R pl M' := by
  obtain ⟨pr, h1, h2, h3⟩ := h
  exact ⟨pr, h1, fun p hp => (by obtain ⟨f, k1, k2⟩ := h2 p hp; exact ⟨f, k1, fun q hq => by rw [k2 q hq, e p q hp hq]⟩), h3⟩
theorem ShC.cM {σ : q_S} {R : Nat → Prop} {s : Nat} {M M' : Nat → Nat → Int32} {pgs : List pgT} (h : ShC σ R s M pgs) (e : ∀ p q, p < 12 → q < 12 → M p q = M' p q) : ShC σ R s M' pgs := by
  obtain ⟨v, pl, h1, h2, h3, h4⟩ := h
  exact ⟨v, pl, h1, h2, h3.cM e, h4⟩
theorem ShC.oc {σ : q_S} {R : Nat → Prop} {s : Nat} {M : Nat → Nat → Int32} {pgs : List pgT} (h : ShC σ R s M pgs) : q_oc σ s = some 8 := by obtain ⟨v, pl, h1, -⟩ := h; simp only [q_oc, h1.2]
theorem ShP.hd {σ : q_S} {R : Nat → Prop} {s i : Nat} {z : Nat → Int32} {g : Nat → Nat → Int32} (h : ShP σ R s i z g) (hi : g 13 i ≤ z 0) : ∃ x t, ShC σ R s (fun p q => g 20 (144 * i + 12 * p + q)) (x :: t) ∧ PgR z g i (x :: t) ∧ ∀ p, 0 ≤ plcF p ∧ plcF p < 13 → shF x.2.2.2 p = holdsF g (nI i) (plcF p) (z 0) (mvF z) := by
  obtain ⟨pgs, h1, h2⟩ := h
  have h2' := h2
  obtain ⟨⟨x, t, rfl, hx⟩, h3, h4⟩ := h2
  refine ⟨x, t, h1, h2', fun p hp => ?_⟩
  have := h4 (z 0) p hi hp
  rw [pvF, if_pos hx] at this
  exact this
theorem plc {p : Int32} (h : 0 ≤ p ∧ p < 12) : plcF p = p ∧ 0 ≤ plcF p ∧ plcF p < 13 := by
  have e : plcF p = p := by unfold plcF; rw [if_neg (by grind)]
  rw [e]
  grind
theorem tAt {σ : q_S} {r P AC WK LC CL CP : Nat} {z : Nat → Int32} {pa : Nat → Nat} (h1 : σ r = some (rootE z P AC WK LC CL CP)) (h2 : σ P = some (refsE "CopyRegister$Person" 12 (npF z) pa)) (h3 : 0 ≤ z 1 ∧ z 1 ≤ 12) (a b : Int32) (post : Option Value → q_S → Prop) : s_X10_areTwoPersons [.ref r, .int a, .int b] σ post = ((¬ a = b ∧ (0 ≤ a ∧ a < z 1) ∧ (0 ≤ b ∧ b < z 1) → post (some (.int 1)) σ) ∧ (¬ (¬ a = b ∧ (0 ≤ a ∧ a < z 1) ∧ (0 ≤ b ∧ b < z 1)) → post (some (.int 0)) σ)) := by
  refine propext ⟨fun h => ?_, fun h => ⟨P, AC, WK, LC, CL, CP, z, pa, h1, h2, h3, h.1, h.2⟩⟩
  obtain ⟨P', AC', WK', LC', CL', CP', z', pa', e1, e2, hn, h7, h8⟩ := h
  rw [h1] at e1
  have e3 := Option.some.inj e1
  unfold rootE at e3
  simp only [Sum.inr.injEq, Prod.mk.injEq, List.cons.injEq, Value.ref.injEq, Value.int.injEq, true_and] at e3
  obtain ⟨-, -, e, -⟩ := e3
  rw [e]
  exact ⟨h7, h8⟩
theorem gup20 (g : Nat → Nat → Int32) (i a b : Nat) (v : Int32) (ha : a < 12) (hb : b < 12) : ∀ p q, p < 12 → q < 12 → M2 (fun p q => g 20 (144 * i + 12 * p + q)) a b v p q = gup g 20 (144 * i + 12 * a + b) v 20 (144 * i + 12 * p + q) := by
  intro p q hp hq
  rw [gup_s]
  unfold M2
  by_cases e : p = a ∧ q = b
  · rw [if_pos e, if_pos (by omega)]
  · rw [if_neg e, if_neg (by omega)]
theorem holdsF_20 (g : Nat → Nat → Int32) (i : Nat) (v : Int32) (w p t : Int32) (n : Nat) : holdsF (gup g 20 i v) w p t n = holdsF g w p t n := holdsF_cong (g' := gup g 20 i v) (g := g) rfl rfl rfl rfl rfl rfl w p t n
section RGQ
variable {σ σ' : q_S} {Rg : Nat → Nat → Prop} {r P AC AR WK LC CL CM CP : Nat} {pa aa wa sa ga la lra lc : Nat → Nat} {lrn : Nat → Int32} {z : Nat → Int32} {g : Nat → Nat → Int32}
theorem RegD.shput (hD : RegD σ Rg r P AC AR WK LC CL CM CP pa aa wa sa ga la lra lc lrn z g) (h20 : nwF z ≤ 20) {i : Nat} (hi : i < nwF z) {a b : Nat} (ha : a < 12) (hb : b < 12) {v : Int32} {pgs : List pgT} {R' : Nat → Prop} (hS : ShC σ' R' (sa i) (M2 (fun p q => g 20 (144 * i + 12 * p + q)) a b v) pgs) (hP : PgR z g i pgs) (hf : q_fm σ (Rg (100 + i)) σ' R') : RegOK σ' r z (gup g 20 (144 * i + 12 * a + b) v) := by
  refine hD.put1 (lrn' := lrn) (100 + i) hf (Part.s1 hi h20 ⟨pgs, hS.cM (gup20 g i a b v ha hb), ?_⟩) (fun k hk h => h.cong (fun _ h => h) (fun _ h => h) (fun _ h => h) (fun _ h => h) (fun _ h => h) (fun _ h => h) (fun j e hj => ⟨hj, fun h => ?_⟩) (fun i _ hi => ⟨hi, fun h => h⟩) (fun i _ hi => ⟨hi, fun h => h⟩) h20 h20)
  · obtain ⟨h1, h2, h3⟩ := hP
    refine ⟨h1, h2, fun t p ht hp => ?_⟩
    exact (h3 t p ht hp).trans (holdsF_20 g _ v _ _ _ _).symm
  · obtain ⟨pgs, h1, h2, h3, h4⟩ := h
    refine ⟨pgs, h1.cM (fun p q hp hq => ?_), h2, h3, fun t p ht hp => ?_⟩
    · rw [gup_s, if_neg (by omega)]
    · exact (h4 t p ht hp).trans (holdsF_20 g _ v _ _ _ _).symm
end RGQ
def s_X10_held : q_Sp := fun av σ post => match av with
  | [.ref r, .int w, .int p, .int t] => ∃ z g, RegOK σ r z g ∧ I1 z ∧ ∀ σ', RegOK σ' r z g → post (some (.int (F_held z g w p t))) σ'
  | _ => False
theorem w9_361 : (.code yX8_ownedOn cX8_ownedOn 4 (some .int) : Cond) ∈ lw_tbl := by decide +kernel
theorem w9_362 : (.methodLink RX10 168 yX8_ownedOn : Cond) ∈ lw_tbl := by decide +kernel
theorem w9_363 : (.instanceMethod yX8_ownedOn : Cond) ∈ lw_tbl := by decide +kernel
theorem w9_364 : (.selects RX8 yX8_ownedOn yX8_ownedOn : Cond) ∈ lw_tbl := by decide +kernel
def rm_X10_held : Room := { frames := 3, cells := 0, slots := 0, locals := 65 }
def k_X10_held_42 (post : Option Value → q_S → Prop) (K : Nat → q_K) : q_K := (c_push (-2) (c_iret post))
def k_X10_held_26 (post : Option Value → q_S → Prop) (K : Nat → q_K) : q_K := (c_iload 3 (c_aload 4 (c_get 9 1 (c_aload 0 (c_get 10 0 (c_call3 none s_X10_isWithin 0 0 (c_ifne (c_aload 4 (c_get 9 2 (c_iload 2 (c_iload 3 (c_call3 (some 8) s_X8_ownedOn 0 0 (c_iret post)))))) (k_X10_held_42 post K))))))))
def k_X10_held_0 (post : Option Value → q_S → Prop) (K : Nat → q_K) : q_K := (c_aload 0 (c_iload 1 (c_call2 (some 10) s_X10_workAt 0 0 (c_astore 4 (c_aload 4 (c_ifnull (k_X10_held_42 post K) (c_iload 2 (c_push (-5) (c_iceq (k_X10_held_26 post K) (c_aload 0 (c_iload 2 (c_call2 (some 10) s_X10_personAt 0 0 (c_ifnull (k_X10_held_42 post K) (k_X10_held_26 post K))))))))))))))
set_option maxRecDepth 100000 in
theorem v_X10_held_42 {p : Program} {l : Launch} {e : Env} {s : State} {m : MethodId} {args : Array Value} {below : List Frame} {meth : Method} {c : Code} {D : va_G} {A : Nat → Prop} {post : Option Value → q_S → Prop} {K : Nat → q_K} (C : q_C p s m args meth c cX10_held 5 RX10 "held" (some .int) A) (hK : ∀ h ∈ ([] : List Nat), q_V p l e rm_X10_held s m args below meth c D A 5 (MQ below (q_Qc D A post) args s rm_X10_held.cells rm_X10_held.slots A) h (K h)) : q_V p l e rm_X10_held s m args below meth c D A 5 (MQ below (q_Qc D A post) args s rm_X10_held.cells rm_X10_held.slots A) 42 (k_X10_held_42 post K) := by
  unfold k_X10_held_42
  refine q_bipush C (by decide +kernel : decode cX10_held 42 = .ok (.bipush (-2), 2)) (by decide) ?_
  exact q_iret C rfl (by decide +kernel : decode cX10_held 44 = .ok (.ireturn, 1))
set_option maxRecDepth 100000 in
theorem v_X10_held_26 {p : Program} {l : Launch} {e : Env} {s : State} {m : MethodId} {args : Array Value} {below : List Frame} {meth : Method} {c : Code} {D : va_G} {A : Nat → Prop} {post : Option Value → q_S → Prop} {K : Nat → q_K} (C : q_C p s m args meth c cX10_held 5 RX10 "held" (some .int) A) (hK : ∀ h ∈ ([] : List Nat), q_V p l e rm_X10_held s m args below meth c D A 5 (MQ below (q_Qc D A post) args s rm_X10_held.cells rm_X10_held.slots A) h (K h)) : q_V p l e rm_X10_held s m args below meth c D A 5 (MQ below (q_Qc D A post) args s rm_X10_held.cells rm_X10_held.slots A) 26 (k_X10_held_26 post K) := by
  unfold k_X10_held_26
  refine q_iload_n C (by decide +kernel : decode cX10_held 26 = .ok (.iload_n 3, 1)) ?_
  refine q_aload C (by decide +kernel : decode cX10_held 27 = .ok (.aload 4, 2)) ?_
  refine q_getN C (ci := 9) (j := 1) (C0 := RX9) (T := TX9) (N := 5) rfl iX9 giX9 (by decide) (by decide +kernel) (by decide +kernel : decode cX10_held 29 = .ok (.getfield 165, 3)) ?_
  refine q_aload_n C (by decide +kernel : decode cX10_held 32 = .ok (.aload_n 0, 1)) ?_
  refine q_get C (ci := 10) (j := 0) (C0 := RX10) (T := TX10) (N := 10) rfl iX10 giX10 (by decide) w9_320 (by decide +kernel : decode cX10_held 33 = .ok (.getfield 9, 3)) ?_
  refine q_call3 C (q_coS C (np := 3) (t_X10_isWithin l) w9_0 w9_3 w9_2 w9_1 (by decide +kernel) (by decide +kernel : decode cX10_held 36 = .ok (.invokestatic 63, 3)) (by decide)) ?_
  refine q_ifne C (tgt := 45) (by decide +kernel : decode cX10_held 39 = .ok (.ifCond .ne 6, 3)) (by decide) ?_ ?_
  · refine q_aload C (by decide +kernel : decode cX10_held 45 = .ok (.aload 4, 2)) ?_
    refine q_getN C (ci := 9) (j := 2) (C0 := RX9) (T := TX9) (N := 5) rfl iX9 giX9 (by decide) (by decide +kernel) (by decide +kernel : decode cX10_held 47 = .ok (.getfield 91, 3)) ?_
    refine q_iload_n C (by decide +kernel : decode cX10_held 50 = .ok (.iload_n 2, 1)) ?_
    refine q_iload_n C (by decide +kernel : decode cX10_held 51 = .ok (.iload_n 3, 1)) ?_
    refine q_call3 C (q_coV C (np := 2) (ci := 8) (rc := (RX8, TX8, 2)) (t_X8_ownedOn l) w9_361 rfl rfl w9_362 w9_363 w9_364 w9_183 (by decide +kernel) (by decide +kernel : decode cX10_held 52 = .ok (.invokevirtual 168, 3)) (by decide)) ?_
    exact q_iret C rfl (by decide +kernel : decode cX10_held 55 = .ok (.ireturn, 1))
  · exact v_X10_held_42 C hK
set_option maxRecDepth 100000 in
theorem v_X10_held_0 {p : Program} {l : Launch} {e : Env} {s : State} {m : MethodId} {args : Array Value} {below : List Frame} {meth : Method} {c : Code} {D : va_G} {A : Nat → Prop} {post : Option Value → q_S → Prop} {K : Nat → q_K} (C : q_C p s m args meth c cX10_held 5 RX10 "held" (some .int) A) (hK : ∀ h ∈ ([] : List Nat), q_V p l e rm_X10_held s m args below meth c D A 5 (MQ below (q_Qc D A post) args s rm_X10_held.cells rm_X10_held.slots A) h (K h)) : q_V p l e rm_X10_held s m args below meth c D A 5 (MQ below (q_Qc D A post) args s rm_X10_held.cells rm_X10_held.slots A) 0 (k_X10_held_0 post K) := by
  unfold k_X10_held_0
  refine q_aload_n C (by decide +kernel : decode cX10_held 0 = .ok (.aload_n 0, 1)) ?_
  refine q_iload_n C (by decide +kernel : decode cX10_held 1 = .ok (.iload_n 1, 1)) ?_
  refine q_call2 C (q_coV C (np := 1) (ci := 10) (rc := (RX10, TX10, 10)) (t_X10_workAt l) w9_337 rfl rfl w9_338 w9_339 w9_340 w9_1 (by decide +kernel) (by decide +kernel : decode cX10_held 2 = .ok (.invokevirtual 87, 3)) (by decide)) ?_
  refine q_astore C (by decide +kernel : decode cX10_held 5 = .ok (.astore 4, 2)) ?_
  refine q_aload C (by decide +kernel : decode cX10_held 7 = .ok (.aload 4, 2)) ?_
  refine q_ifnull C (tgt := 42) (by decide +kernel : decode cX10_held 9 = .ok (.ifnull 33, 3)) (by decide) ?_ ?_
  · exact v_X10_held_42 C hK
  · refine q_iload_n C (by decide +kernel : decode cX10_held 12 = .ok (.iload_n 2, 1)) ?_
    refine q_bipush C (by decide +kernel : decode cX10_held 13 = .ok (.bipush (-5), 2)) (by decide) ?_
    refine q_iceq C (tgt := 26) (by decide +kernel : decode cX10_held 15 = .ok (.if_icmp .eq 11, 3)) (by decide) ?_ ?_
    · exact v_X10_held_26 C hK
    · refine q_aload_n C (by decide +kernel : decode cX10_held 18 = .ok (.aload_n 0, 1)) ?_
      refine q_iload_n C (by decide +kernel : decode cX10_held 19 = .ok (.iload_n 2, 1)) ?_
      refine q_call2 C (q_coV C (np := 1) (ci := 10) (rc := (RX10, TX10, 10)) (t_X10_personAt l) w9_316 rfl rfl w9_317 w9_318 w9_319 w9_1 (by decide +kernel) (by decide +kernel : decode cX10_held 20 = .ok (.invokevirtual 68, 3)) (by decide)) ?_
      refine q_ifnull C (tgt := 42) (by decide +kernel : decode cX10_held 23 = .ok (.ifnull 19, 3)) (by decide) ?_ ?_
      · exact v_X10_held_42 C hK
      · exact v_X10_held_26 C hK
theorem u_X10_held (l : Launch) {sp : q_Sp} (H : ∀ (av : List Value) (σ : q_S) (post : Option Value → q_S → Prop), sp av σ post → k_X10_held_0 post (fun _ _ _ _ _ _ => False) (q_L0 av 5) [] σ 0 0 ∧ av.length ≤ 5 ∧ ∀ v ∈ av, v.category = 1) : q_Ct l yX10_held cX10_held 5 (some .int) rm_X10_held sp := by
  refine q_met (by decide) ?_
  intro D A p e s m args below meth c σ av post C hsp
  obtain ⟨h1, h2, h3⟩ := H av σ post hsp
  exact ⟨_, v_X10_held_0 (K := fun _ _ _ _ _ _ => False) C (fun h hh => by cases hh), h1, h2, h3⟩
theorem t_X10_held (l : Launch) : q_Ct l yX10_held cX10_held 5 (some .int) rm_X10_held s_X10_held := u_X10_held l (by
  intro av σ post h
  unfold s_X10_held at h
  split at h
  · next r w p t =>
    refine ⟨?_, by simp, by simp [Value.category]⟩
    obtain ⟨z, g, hR, hI, h1⟩ := h
    have h2 := h1 _ hR
    clear h1
    obtain ⟨Rg, P, AC, AR, WK, LC, CL, CM, CP, pa, aa, wa, sa, ga, la, lra, lc, lrn, hD⟩ := hR
    have e1 := hD.p1.2
    have e2 := hD.p2.1.2
    have e4 := hD.p4.1.2
    have o1 : q_oc σ r = some 10 := by simp only [q_oc, e1]
    have f0 : q_fld σ r 10 0 = some (.int (z 0)) := by simp only [q_fld, e1, if_true]; rfl
    have h20 := hI.n20
    unfold I1 at hI
    unfold F_held at h2
    by_cases ca : 0 ≤ w ∧ w < z 11
    · have hlw : w.toNatClampNeg < nwF z := ltN ca.1 ca.2
      have w1 := (hD.p4.2 _ hlw).2
      have g1 : q_fld σ (wa w.toNatClampNeg) 9 1 = some (.int (g 13 w.toNatClampNeg)) := by simp only [q_fld, w1, if_true]; rfl
      have g2 : q_fld σ (wa w.toNatClampNeg) 9 2 = some (.ref (sa w.toNatClampNeg)) := by simp only [q_fld, w1, if_true]; rfl
      obtain ⟨pgs, hS, hP⟩ := hD.sh hlw h20
      have os := hS.oc
      by_cases c : (p = -5 ∨ isP z p) ∧ g 13 w.toNatClampNeg ≤ t ∧ t ≤ z 0
      · rw [if_pos ⟨ca, c⟩] at h2
        have hpl : 0 ≤ plcF p ∧ plcF p < 13 := by unfold plcF; grind
        have e := hP.2.2 t p c.2.1 hpl
        rw [nI_self ca.1] at e
        unfold plcF at e
        rw [← e] at h2
        have J : s_X8_ownedOn [.ref (sa w.toNatClampNeg), .int p, .int t] σ (fun r9 σ9 => c_iret post [] (r9.toList ++ []) σ9 0 0) := by
          refine ⟨_, _, pgs, hS, ?_⟩
          simp only [c_push, c_null, c_iload, c_aload, c_istore, c_astore, c_iinc, c_iadd, c_isub, c_imul, c_iand, c_ineg, c_dup, c_dup2, c_pop, c_ifnull, c_ifnonnull, c_get, c_put, c_iald, c_zald, c_iast, c_zast, c_aald, c_aast, c_alen, c_new, c_newa, c_newq, c_mna, c_oinit, c_max, c_copy, c_iret, c_zret, c_aret, c_vret, q_do, q_rc, c_ifeq, c_ifne, c_iflt, c_ifge, c_ifgt, c_ifle, c_iceq, c_icne, c_iclt, c_icge, c_icgt, c_icle, c_call0, c_call1, c_call2, c_call3, c_call4, c_call5, c_call6, c_call7, q_L0, List.map_cons, List.map_nil, List.replicate, List.cons_append, List.nil_append, List.append_nil, List.length_cons, List.length_nil, List.length_set, Nat.reduceSub, Nat.reduceAdd, Nat.reduceLT, Nat.reduceLeDiff, Nat.zero_add, Nat.add_zero, Nat.sub_zero, Nat.sub_self, List.getElem?_cons_zero, List.getElem?_cons_succ, List.set_cons_zero, List.set_cons_succ, Option.toList_some, Option.toList_none, List.sum_cons, List.sum_nil, true_and, and_true, true_or, or_true, Nat.le_refl, Nat.zero_le, Value.category, Fin.isValue, Fin.val_zero, Fin.val_one, Fin.val_two, Fin.reduceFinMk, q_10, q_01, not_false_eq_true, not_true_eq_false, forall_const, true_implies, false_implies, implies_true, q_ni, q_fi, q_nb0, q_nb1, q_fb0, q_fb1, q_nor, q_nar, q_for, q_far, q_non, q_nan, q_fon, q_fan, imp_false, false_and, and_false, and_self, false_or, or_false, va_rf, refKind]
          exact h2
        simp only [c_push, c_null, c_iload, c_aload, c_istore, c_astore, c_iinc, c_iadd, c_isub, c_imul, c_iand, c_ineg, c_dup, c_dup2, c_pop, c_ifnull, c_ifnonnull, c_get, c_put, c_iald, c_zald, c_iast, c_zast, c_aald, c_aast, c_alen, c_new, c_newa, c_newq, c_mna, c_oinit, c_max, c_copy, c_iret, c_zret, c_aret, c_vret, q_do, q_rc, c_ifeq, c_ifne, c_iflt, c_ifge, c_ifgt, c_ifle, c_iceq, c_icne, c_iclt, c_icge, c_icgt, c_icle, c_call0, c_call1, c_call2, c_call3, c_call4, c_call5, c_call6, c_call7, q_L0, List.map_cons, List.map_nil, List.replicate, List.cons_append, List.nil_append, List.append_nil, List.length_cons, List.length_nil, List.length_set, Nat.reduceSub, Nat.reduceAdd, Nat.reduceLT, Nat.reduceLeDiff, Nat.zero_add, Nat.add_zero, Nat.sub_zero, Nat.sub_self, List.getElem?_cons_zero, List.getElem?_cons_succ, List.set_cons_zero, List.set_cons_succ, Option.toList_some, Option.toList_none, List.sum_cons, List.sum_nil, true_and, and_true, true_or, or_true, Nat.le_refl, Nat.zero_le, Value.category, Fin.isValue, Fin.val_zero, Fin.val_one, Fin.val_two, Fin.reduceFinMk, q_10, q_01, not_false_eq_true, not_true_eq_false, forall_const, true_implies, false_implies, implies_true, q_ni, q_fi, q_nb0, q_nb1, q_fb0, q_fb1, q_nor, q_nar, q_for, q_far, q_non, q_nan, q_fon, q_fan, imp_false, false_and, and_false, and_self, false_or, or_false, va_rf, refKind] at J
        simp only [c_push, c_null, c_iload, c_aload, c_istore, c_astore, c_iinc, c_iadd, c_isub, c_imul, c_iand, c_ineg, c_dup, c_dup2, c_pop, c_ifnull, c_ifnonnull, c_get, c_put, c_iald, c_zald, c_iast, c_zast, c_aald, c_aast, c_alen, c_new, c_newa, c_newq, c_mna, c_oinit, c_max, c_copy, c_iret, c_zret, c_aret, c_vret, q_do, q_rc, c_ifeq, c_ifne, c_iflt, c_ifge, c_ifgt, c_ifle, c_iceq, c_icne, c_iclt, c_icge, c_icgt, c_icle, c_call0, c_call1, c_call2, c_call3, c_call4, c_call5, c_call6, c_call7, q_L0, List.map_cons, List.map_nil, List.replicate, List.cons_append, List.nil_append, List.append_nil, List.length_cons, List.length_nil, List.length_set, Nat.reduceSub, Nat.reduceAdd, Nat.reduceLT, Nat.reduceLeDiff, Nat.zero_add, Nat.add_zero, Nat.sub_zero, Nat.sub_self, List.getElem?_cons_zero, List.getElem?_cons_succ, List.set_cons_zero, List.set_cons_succ, Option.toList_some, Option.toList_none, List.sum_cons, List.sum_nil, true_and, and_true, true_or, or_true, Nat.le_refl, Nat.zero_le, Value.category, Fin.isValue, Fin.val_zero, Fin.val_one, Fin.val_two, Fin.reduceFinMk, q_10, q_01, not_false_eq_true, not_true_eq_false, forall_const, true_implies, false_implies, implies_true, q_ni, q_fi, q_nb0, q_nb1, q_fb0, q_fb1, q_nor, q_nar, q_for, q_far, q_non, q_nan, q_fon, q_fan, imp_false, false_and, and_false, and_self, false_or, or_false, va_rf, refKind, k_X10_held_0, k_X10_held_26, k_X10_held_42, o1, f0, wAt e1 e4 hI.2.2.2.1, pAt e1 e2 hI.2.1, ca, g1, g2, os, s_X10_isWithin, c.2, J]
        rcases c.1 with c9 | c9
        · simp [c9]
        · simp [c9.1, c9.2]
      · rw [if_neg (fun h => c h.2)] at h2
        by_cases cp : p = -5
        · have ct : ¬ (g 13 w.toNatClampNeg ≤ t ∧ t ≤ z 0) := fun h => c ⟨Or.inl cp, h⟩
          simp only [c_push, c_null, c_iload, c_aload, c_istore, c_astore, c_iinc, c_iadd, c_isub, c_imul, c_iand, c_ineg, c_dup, c_dup2, c_pop, c_ifnull, c_ifnonnull, c_get, c_put, c_iald, c_zald, c_iast, c_zast, c_aald, c_aast, c_alen, c_new, c_newa, c_newq, c_mna, c_oinit, c_max, c_copy, c_iret, c_zret, c_aret, c_vret, q_do, q_rc, c_ifeq, c_ifne, c_iflt, c_ifge, c_ifgt, c_ifle, c_iceq, c_icne, c_iclt, c_icge, c_icgt, c_icle, c_call0, c_call1, c_call2, c_call3, c_call4, c_call5, c_call6, c_call7, q_L0, List.map_cons, List.map_nil, List.replicate, List.cons_append, List.nil_append, List.append_nil, List.length_cons, List.length_nil, List.length_set, Nat.reduceSub, Nat.reduceAdd, Nat.reduceLT, Nat.reduceLeDiff, Nat.zero_add, Nat.add_zero, Nat.sub_zero, Nat.sub_self, List.getElem?_cons_zero, List.getElem?_cons_succ, List.set_cons_zero, List.set_cons_succ, Option.toList_some, Option.toList_none, List.sum_cons, List.sum_nil, true_and, and_true, true_or, or_true, Nat.le_refl, Nat.zero_le, Value.category, Fin.isValue, Fin.val_zero, Fin.val_one, Fin.val_two, Fin.reduceFinMk, q_10, q_01, not_false_eq_true, not_true_eq_false, forall_const, true_implies, false_implies, implies_true, q_ni, q_fi, q_nb0, q_nb1, q_fb0, q_fb1, q_nor, q_nar, q_for, q_far, q_non, q_nan, q_fon, q_fan, imp_false, false_and, and_false, and_self, false_or, or_false, va_rf, refKind, k_X10_held_0, k_X10_held_26, k_X10_held_42, o1, f0, wAt e1 e4 hI.2.2.2.1, pAt e1 e2 hI.2.1, ca, g1, g2, os, s_X10_isWithin, ct, cp, h2]
        · by_cases cq : 0 ≤ p ∧ p < z 1
          · have ct : ¬ (g 13 w.toNatClampNeg ≤ t ∧ t ≤ z 0) := fun h => c ⟨Or.inr cq, h⟩
            simp only [c_push, c_null, c_iload, c_aload, c_istore, c_astore, c_iinc, c_iadd, c_isub, c_imul, c_iand, c_ineg, c_dup, c_dup2, c_pop, c_ifnull, c_ifnonnull, c_get, c_put, c_iald, c_zald, c_iast, c_zast, c_aald, c_aast, c_alen, c_new, c_newa, c_newq, c_mna, c_oinit, c_max, c_copy, c_iret, c_zret, c_aret, c_vret, q_do, q_rc, c_ifeq, c_ifne, c_iflt, c_ifge, c_ifgt, c_ifle, c_iceq, c_icne, c_iclt, c_icge, c_icgt, c_icle, c_call0, c_call1, c_call2, c_call3, c_call4, c_call5, c_call6, c_call7, q_L0, List.map_cons, List.map_nil, List.replicate, List.cons_append, List.nil_append, List.append_nil, List.length_cons, List.length_nil, List.length_set, Nat.reduceSub, Nat.reduceAdd, Nat.reduceLT, Nat.reduceLeDiff, Nat.zero_add, Nat.add_zero, Nat.sub_zero, Nat.sub_self, List.getElem?_cons_zero, List.getElem?_cons_succ, List.set_cons_zero, List.set_cons_succ, Option.toList_some, Option.toList_none, List.sum_cons, List.sum_nil, true_and, and_true, true_or, or_true, Nat.le_refl, Nat.zero_le, Value.category, Fin.isValue, Fin.val_zero, Fin.val_one, Fin.val_two, Fin.reduceFinMk, q_10, q_01, not_false_eq_true, not_true_eq_false, forall_const, true_implies, false_implies, implies_true, q_ni, q_fi, q_nb0, q_nb1, q_fb0, q_fb1, q_nor, q_nar, q_for, q_far, q_non, q_nan, q_fon, q_fan, imp_false, false_and, and_false, and_self, false_or, or_false, va_rf, refKind, k_X10_held_0, k_X10_held_26, k_X10_held_42, o1, f0, wAt e1 e4 hI.2.2.2.1, pAt e1 e2 hI.2.1, ca, g1, g2, os, s_X10_isWithin, ct, cp, cq, h2]
          · simp only [c_push, c_null, c_iload, c_aload, c_istore, c_astore, c_iinc, c_iadd, c_isub, c_imul, c_iand, c_ineg, c_dup, c_dup2, c_pop, c_ifnull, c_ifnonnull, c_get, c_put, c_iald, c_zald, c_iast, c_zast, c_aald, c_aast, c_alen, c_new, c_newa, c_newq, c_mna, c_oinit, c_max, c_copy, c_iret, c_zret, c_aret, c_vret, q_do, q_rc, c_ifeq, c_ifne, c_iflt, c_ifge, c_ifgt, c_ifle, c_iceq, c_icne, c_iclt, c_icge, c_icgt, c_icle, c_call0, c_call1, c_call2, c_call3, c_call4, c_call5, c_call6, c_call7, q_L0, List.map_cons, List.map_nil, List.replicate, List.cons_append, List.nil_append, List.append_nil, List.length_cons, List.length_nil, List.length_set, Nat.reduceSub, Nat.reduceAdd, Nat.reduceLT, Nat.reduceLeDiff, Nat.zero_add, Nat.add_zero, Nat.sub_zero, Nat.sub_self, List.getElem?_cons_zero, List.getElem?_cons_succ, List.set_cons_zero, List.set_cons_succ, Option.toList_some, Option.toList_none, List.sum_cons, List.sum_nil, true_and, and_true, true_or, or_true, Nat.le_refl, Nat.zero_le, Value.category, Fin.isValue, Fin.val_zero, Fin.val_one, Fin.val_two, Fin.reduceFinMk, q_10, q_01, not_false_eq_true, not_true_eq_false, forall_const, true_implies, false_implies, implies_true, q_ni, q_fi, q_nb0, q_nb1, q_fb0, q_fb1, q_nor, q_nar, q_for, q_far, q_non, q_nan, q_fon, q_fan, imp_false, false_and, and_false, and_self, false_or, or_false, va_rf, refKind, k_X10_held_0, k_X10_held_26, k_X10_held_42, o1, f0, wAt e1 e4 hI.2.2.2.1, pAt e1 e2 hI.2.1, ca, g1, g2, os, s_X10_isWithin, cp, cq, h2]
    · rw [if_neg (fun h => ca h.1)] at h2
      simp only [c_push, c_null, c_iload, c_aload, c_istore, c_astore, c_iinc, c_iadd, c_isub, c_imul, c_iand, c_ineg, c_dup, c_dup2, c_pop, c_ifnull, c_ifnonnull, c_get, c_put, c_iald, c_zald, c_iast, c_zast, c_aald, c_aast, c_alen, c_new, c_newa, c_newq, c_mna, c_oinit, c_max, c_copy, c_iret, c_zret, c_aret, c_vret, q_do, q_rc, c_ifeq, c_ifne, c_iflt, c_ifge, c_ifgt, c_ifle, c_iceq, c_icne, c_iclt, c_icge, c_icgt, c_icle, c_call0, c_call1, c_call2, c_call3, c_call4, c_call5, c_call6, c_call7, q_L0, List.map_cons, List.map_nil, List.replicate, List.cons_append, List.nil_append, List.append_nil, List.length_cons, List.length_nil, List.length_set, Nat.reduceSub, Nat.reduceAdd, Nat.reduceLT, Nat.reduceLeDiff, Nat.zero_add, Nat.add_zero, Nat.sub_zero, Nat.sub_self, List.getElem?_cons_zero, List.getElem?_cons_succ, List.set_cons_zero, List.set_cons_succ, Option.toList_some, Option.toList_none, List.sum_cons, List.sum_nil, true_and, and_true, true_or, or_true, Nat.le_refl, Nat.zero_le, Value.category, Fin.isValue, Fin.val_zero, Fin.val_one, Fin.val_two, Fin.reduceFinMk, q_10, q_01, not_false_eq_true, not_true_eq_false, forall_const, true_implies, false_implies, implies_true, q_ni, q_fi, q_nb0, q_nb1, q_fb0, q_fb1, q_nor, q_nar, q_for, q_far, q_non, q_nan, q_fon, q_fan, imp_false, false_and, and_false, and_self, false_or, or_false, va_rf, refKind, k_X10_held_0, k_X10_held_26, k_X10_held_42, o1, f0, wAt e1 e4 hI.2.2.2.1, ca, h2]
  · exact h.elim)
def s_X10_pledge : q_Sp := fun av σ post => match av with
  | [.ref r, .int w, .int a, .int b, .int n] => ∃ z g, RegOK σ r z g ∧ I1 z ∧ EN z g ∧ ∀ σ', RegOK σ' r z (F_pledge z g w a b n).2 → post (some (.int (F_pledge z g w a b n).1)) σ'
  | _ => False
theorem w9_365 : (.code yX10_areTwoPersons cX10_areTwoPersons 3 (some .boolean) : Cond) ∈ lw_tbl := by decide +kernel
theorem w9_366 : (.methodLink RX10 143 yX10_areTwoPersons : Cond) ∈ lw_tbl := by decide +kernel
theorem w9_367 : (.instanceMethod yX10_areTwoPersons : Cond) ∈ lw_tbl := by decide +kernel
theorem w9_368 : (.selects RX10 yX10_areTwoPersons yX10_areTwoPersons : Cond) ∈ lw_tbl := by decide +kernel
theorem w9_369 : (.code yX8_freeOf cX8_freeOf 2 (some .int) : Cond) ∈ lw_tbl := by decide +kernel
theorem w9_370 : (.methodLink RX10 147 yX8_freeOf : Cond) ∈ lw_tbl := by decide +kernel
theorem w9_371 : (.instanceMethod yX8_freeOf : Cond) ∈ lw_tbl := by decide +kernel
theorem w9_372 : (.selects RX8 yX8_freeOf yX8_freeOf : Cond) ∈ lw_tbl := by decide +kernel
theorem w9_373 : (.methodLink RX10 155 yX8_addPledge : Cond) ∈ lw_tbl := by decide +kernel
theorem w9_374 : (.methodLink RX10 158 yX8_pledgedBy : Cond) ∈ lw_tbl := by decide +kernel
def rm_X10_pledge : Room := { frames := 5, cells := 0, slots := 0, locals := 109 }
def k_X10_pledge_32 (post : Option Value → q_S → Prop) (K : Nat → q_K) : q_K := (c_push (-2) (c_iret post))
def k_X10_pledge_0 (post : Option Value → q_S → Prop) (K : Nat → q_K) : q_K := (c_aload 0 (c_iload 1 (c_call2 (some 10) s_X10_workAt 0 0 (c_astore 5 (c_aload 5 (c_ifnull (k_X10_pledge_32 post K) (c_aload 0 (c_iload 2 (c_iload 3 (c_call3 (some 10) s_X10_areTwoPersons 0 0 (c_ifeq (k_X10_pledge_32 post K) (c_iload 4 (c_push 1 (c_push 16 (c_call3 none s_X10_isWithin 0 0 (c_ifne (c_aload 5 (c_get 9 2 (c_iload 2 (c_call2 (some 8) s_X8_freeOf 0 0 (c_iload 4 (c_icge (c_aload 5 (c_get 9 2 (c_iload 2 (c_iload 3 (c_iload 4 (c_call4 (some 8) s_X8_addPledge 0 0 (c_aload 5 (c_get 9 2 (c_iload 2 (c_call2 (some 8) s_X8_pledgedBy 0 0 (c_iret post))))))))))) (c_push (-3) (c_iret post)))))))) (k_X10_pledge_32 post K)))))))))))))))))
set_option maxRecDepth 100000 in
theorem v_X10_pledge_32 {p : Program} {l : Launch} {e : Env} {s : State} {m : MethodId} {args : Array Value} {below : List Frame} {meth : Method} {c : Code} {D : va_G} {A : Nat → Prop} {post : Option Value → q_S → Prop} {K : Nat → q_K} (C : q_C p s m args meth c cX10_pledge 6 RX10 "pledge" (some .int) A) (hK : ∀ h ∈ ([] : List Nat), q_V p l e rm_X10_pledge s m args below meth c D A 6 (MQ below (q_Qc D A post) args s rm_X10_pledge.cells rm_X10_pledge.slots A) h (K h)) : q_V p l e rm_X10_pledge s m args below meth c D A 6 (MQ below (q_Qc D A post) args s rm_X10_pledge.cells rm_X10_pledge.slots A) 32 (k_X10_pledge_32 post K) := by
  unfold k_X10_pledge_32
  refine q_bipush C (by decide +kernel : decode cX10_pledge 32 = .ok (.bipush (-2), 2)) (by decide) ?_
  exact q_iret C rfl (by decide +kernel : decode cX10_pledge 34 = .ok (.ireturn, 1))
set_option maxRecDepth 100000 in
theorem v_X10_pledge_0 {p : Program} {l : Launch} {e : Env} {s : State} {m : MethodId} {args : Array Value} {below : List Frame} {meth : Method} {c : Code} {D : va_G} {A : Nat → Prop} {post : Option Value → q_S → Prop} {K : Nat → q_K} (C : q_C p s m args meth c cX10_pledge 6 RX10 "pledge" (some .int) A) (hK : ∀ h ∈ ([] : List Nat), q_V p l e rm_X10_pledge s m args below meth c D A 6 (MQ below (q_Qc D A post) args s rm_X10_pledge.cells rm_X10_pledge.slots A) h (K h)) : q_V p l e rm_X10_pledge s m args below meth c D A 6 (MQ below (q_Qc D A post) args s rm_X10_pledge.cells rm_X10_pledge.slots A) 0 (k_X10_pledge_0 post K) := by
  unfold k_X10_pledge_0
  refine q_aload_n C (by decide +kernel : decode cX10_pledge 0 = .ok (.aload_n 0, 1)) ?_
  refine q_iload_n C (by decide +kernel : decode cX10_pledge 1 = .ok (.iload_n 1, 1)) ?_
  refine q_call2 C (q_coV C (np := 1) (ci := 10) (rc := (RX10, TX10, 10)) (t_X10_workAt l) w9_337 rfl rfl w9_338 w9_339 w9_340 w9_1 (by decide +kernel) (by decide +kernel : decode cX10_pledge 2 = .ok (.invokevirtual 87, 3)) (by decide)) ?_
  refine q_astore C (by decide +kernel : decode cX10_pledge 5 = .ok (.astore 5, 2)) ?_
  refine q_aload C (by decide +kernel : decode cX10_pledge 7 = .ok (.aload 5, 2)) ?_
  refine q_ifnull C (tgt := 32) (by decide +kernel : decode cX10_pledge 9 = .ok (.ifnull 23, 3)) (by decide) ?_ ?_
  · exact v_X10_pledge_32 C hK
  · refine q_aload_n C (by decide +kernel : decode cX10_pledge 12 = .ok (.aload_n 0, 1)) ?_
    refine q_iload_n C (by decide +kernel : decode cX10_pledge 13 = .ok (.iload_n 2, 1)) ?_
    refine q_iload_n C (by decide +kernel : decode cX10_pledge 14 = .ok (.iload_n 3, 1)) ?_
    refine q_call3 C (q_coV C (np := 2) (ci := 10) (rc := (RX10, TX10, 10)) (t_X10_areTwoPersons l) w9_365 rfl rfl w9_366 w9_367 w9_368 w9_1 (by decide +kernel) (by decide +kernel : decode cX10_pledge 15 = .ok (.invokevirtual 143, 3)) (by decide)) ?_
    refine q_ifeq C (tgt := 32) (by decide +kernel : decode cX10_pledge 18 = .ok (.ifCond .eq 14, 3)) (by decide) ?_ ?_
    · exact v_X10_pledge_32 C hK
    · refine q_iload C (by decide +kernel : decode cX10_pledge 21 = .ok (.iload 4, 2)) ?_
      refine q_iconst C (by decide +kernel : decode cX10_pledge 23 = .ok (.iconst 1, 1)) (by decide) ?_
      refine q_bipush C (by decide +kernel : decode cX10_pledge 24 = .ok (.bipush 16, 2)) (by decide) ?_
      refine q_call3 C (q_coS C (np := 3) (t_X10_isWithin l) w9_0 w9_3 w9_2 w9_1 (by decide +kernel) (by decide +kernel : decode cX10_pledge 26 = .ok (.invokestatic 63, 3)) (by decide)) ?_
      refine q_ifne C (tgt := 35) (by decide +kernel : decode cX10_pledge 29 = .ok (.ifCond .ne 6, 3)) (by decide) ?_ ?_
      · refine q_aload C (by decide +kernel : decode cX10_pledge 35 = .ok (.aload 5, 2)) ?_
        refine q_getN C (ci := 9) (j := 2) (C0 := RX9) (T := TX9) (N := 5) rfl iX9 giX9 (by decide) (by decide +kernel) (by decide +kernel : decode cX10_pledge 37 = .ok (.getfield 91, 3)) ?_
        refine q_iload_n C (by decide +kernel : decode cX10_pledge 40 = .ok (.iload_n 2, 1)) ?_
        refine q_call2 C (q_coV C (np := 1) (ci := 8) (rc := (RX8, TX8, 2)) (t_X8_freeOf l) w9_369 rfl rfl w9_370 w9_371 w9_372 w9_183 (by decide +kernel) (by decide +kernel : decode cX10_pledge 41 = .ok (.invokevirtual 147, 3)) (by decide)) ?_
        refine q_iload C (by decide +kernel : decode cX10_pledge 44 = .ok (.iload 4, 2)) ?_
        refine q_icge C (tgt := 52) (by decide +kernel : decode cX10_pledge 46 = .ok (.if_icmp .ge 6, 3)) (by decide) ?_ ?_
        · refine q_aload C (by decide +kernel : decode cX10_pledge 52 = .ok (.aload 5, 2)) ?_
          refine q_getN C (ci := 9) (j := 2) (C0 := RX9) (T := TX9) (N := 5) rfl iX9 giX9 (by decide) (by decide +kernel) (by decide +kernel : decode cX10_pledge 54 = .ok (.getfield 91, 3)) ?_
          refine q_iload_n C (by decide +kernel : decode cX10_pledge 57 = .ok (.iload_n 2, 1)) ?_
          refine q_iload_n C (by decide +kernel : decode cX10_pledge 58 = .ok (.iload_n 3, 1)) ?_
          refine q_iload C (by decide +kernel : decode cX10_pledge 59 = .ok (.iload 4, 2)) ?_
          refine q_call4 C (q_coV C (np := 3) (ci := 8) (rc := (RX8, TX8, 2)) (t_X8_addPledge l) w9_199 rfl rfl w9_373 w9_201 w9_202 w9_183 (by decide +kernel) (by decide +kernel : decode cX10_pledge 61 = .ok (.invokevirtual 155, 3)) (by decide)) ?_
          refine q_aload C (by decide +kernel : decode cX10_pledge 64 = .ok (.aload 5, 2)) ?_
          refine q_getN C (ci := 9) (j := 2) (C0 := RX9) (T := TX9) (N := 5) rfl iX9 giX9 (by decide) (by decide +kernel) (by decide +kernel : decode cX10_pledge 66 = .ok (.getfield 91, 3)) ?_
          refine q_iload_n C (by decide +kernel : decode cX10_pledge 69 = .ok (.iload_n 2, 1)) ?_
          refine q_call2 C (q_coV C (np := 1) (ci := 8) (rc := (RX8, TX8, 2)) (t_X8_pledgedBy l) w9_195 rfl rfl w9_374 w9_197 w9_198 w9_183 (by decide +kernel) (by decide +kernel : decode cX10_pledge 70 = .ok (.invokevirtual 158, 3)) (by decide)) ?_
          exact q_iret C rfl (by decide +kernel : decode cX10_pledge 73 = .ok (.ireturn, 1))
        · refine q_bipush C (by decide +kernel : decode cX10_pledge 49 = .ok (.bipush (-3), 2)) (by decide) ?_
          exact q_iret C rfl (by decide +kernel : decode cX10_pledge 51 = .ok (.ireturn, 1))
      · exact v_X10_pledge_32 C hK
theorem u_X10_pledge (l : Launch) {sp : q_Sp} (H : ∀ (av : List Value) (σ : q_S) (post : Option Value → q_S → Prop), sp av σ post → k_X10_pledge_0 post (fun _ _ _ _ _ _ => False) (q_L0 av 6) [] σ 0 0 ∧ av.length ≤ 6 ∧ ∀ v ∈ av, v.category = 1) : q_Ct l yX10_pledge cX10_pledge 6 (some .int) rm_X10_pledge sp := by
  refine q_met (by decide) ?_
  intro D A p e s m args below meth c σ av post C hsp
  obtain ⟨h1, h2, h3⟩ := H av σ post hsp
  exact ⟨_, v_X10_pledge_0 (K := fun _ _ _ _ _ _ => False) C (fun h hh => by cases hh), h1, h2, h3⟩
theorem t_X10_pledge (l : Launch) : q_Ct l yX10_pledge cX10_pledge 6 (some .int) rm_X10_pledge s_X10_pledge := u_X10_pledge l (by
  intro av σ post h
  unfold s_X10_pledge at h
  split at h
  · next r w a b n =>
    refine ⟨?_, by simp, by simp [Value.category]⟩
    obtain ⟨z, g, hR, hI, hEN, h1⟩ := h
    have hR0 := hR
    obtain ⟨Rg, P, AC, AR, WK, LC, CL, CM, CP, pa, aa, wa, sa, ga, la, lra, lc, lrn, hD⟩ := hR
    have e1 := hD.p1.2
    have e2 := hD.p2.1.2
    have e4 := hD.p4.1.2
    have o1 : q_oc σ r = some 10 := by simp only [q_oc, e1]
    have h20 := hI.n20
    unfold I1 at hI
    unfold F_pledge at h1
    by_cases c : twoF z w a b ∧ 1 ≤ n ∧ n ≤ 16
    · rw [if_pos c] at h1
      have ca : 0 ≤ w ∧ w < z 11 := c.1.1
      have hlw : w.toNatClampNeg < nwF z := ltN ca.1 ca.2
      have ct : ¬ a = b ∧ (0 ≤ a ∧ a < z 1) ∧ (0 ≤ b ∧ b < z 1) := ⟨c.1.2.2.2, c.1.2.1, c.1.2.2.1⟩
      have ha11 : 0 ≤ a ∧ a ≤ 11 := by grind
      have hb11 : 0 ≤ b ∧ b ≤ 11 := by grind
      have ha : a.toNatClampNeg < 12 := clamp_lt 12 ha11.1 (by grind)
      have hb : b.toNatClampNeg < 12 := clamp_lt 12 hb11.1 (by grind)
      have w1 := (hD.p4.2 _ hlw).2
      have g2 : q_fld σ (wa w.toNatClampNeg) 9 2 = some (.ref (sa w.toNatClampNeg)) := by simp only [q_fld, w1, if_true]; rfl
      obtain ⟨x, t, hS, hP, hx⟩ := (hD.sh hlw h20).hd (hEN _ hlw).2
      have os := hS.oc
      have hpc := plc (p := a) (by grind)
      have hx2 := hx a hpc.2
      rw [hpc.1, nI_self ca.1] at hx2
      simp only [c_push, c_null, c_iload, c_aload, c_istore, c_astore, c_iinc, c_iadd, c_isub, c_imul, c_iand, c_ineg, c_dup, c_dup2, c_pop, c_ifnull, c_ifnonnull, c_get, c_put, c_iald, c_zald, c_iast, c_zast, c_aald, c_aast, c_alen, c_new, c_newa, c_newq, c_mna, c_oinit, c_max, c_copy, c_iret, c_zret, c_aret, c_vret, q_do, q_rc, c_ifeq, c_ifne, c_iflt, c_ifge, c_ifgt, c_ifle, c_iceq, c_icne, c_iclt, c_icge, c_icgt, c_icle, c_call0, c_call1, c_call2, c_call3, c_call4, c_call5, c_call6, c_call7, q_L0, List.map_cons, List.map_nil, List.replicate, List.cons_append, List.nil_append, List.append_nil, List.length_cons, List.length_nil, List.length_set, Nat.reduceSub, Nat.reduceAdd, Nat.reduceLT, Nat.reduceLeDiff, Nat.zero_add, Nat.add_zero, Nat.sub_zero, Nat.sub_self, List.getElem?_cons_zero, List.getElem?_cons_succ, List.set_cons_zero, List.set_cons_succ, Option.toList_some, Option.toList_none, List.sum_cons, List.sum_nil, true_and, and_true, true_or, or_true, Nat.le_refl, Nat.zero_le, Value.category, Fin.isValue, Fin.val_zero, Fin.val_one, Fin.val_two, Fin.reduceFinMk, q_10, q_01, not_false_eq_true, not_true_eq_false, forall_const, true_implies, false_implies, implies_true, q_ni, q_fi, q_nb0, q_nb1, q_fb0, q_fb1, q_nor, q_nar, q_for, q_far, q_non, q_nan, q_fon, q_fan, imp_false, false_and, and_false, and_self, false_or, or_false, va_rf, refKind, k_X10_pledge_0, k_X10_pledge_32, o1, wAt e1 e4 hI.2.2.2.1, tAt e1 e2 hI.2.1, ca, ct, g2, os, s_X10_isWithin, c.2]
      refine ⟨_, _, x, t, hS, ha11, ?_⟩
      rw [hx2, plM_eq]
      have ef : holdsF g w a (z 0) (mvF z) - plF g w.toNatClampNeg a.toNatClampNeg 12 = freeF z g w a := rfl
      rw [ef]
      by_cases cf : freeF z g w a < n
      · rw [if_pos cf] at h1
        have h2 := h1 _ hR0
        exact ⟨fun h => absurd cf (by grind), fun _ => h2⟩
      · rw [if_neg cf] at h1
        dsimp only at h1
        refine ⟨fun _ => ?_, fun h => absurd h (by grind)⟩
        simp only [c_push, c_null, c_iload, c_aload, c_istore, c_astore, c_iinc, c_iadd, c_isub, c_imul, c_iand, c_ineg, c_dup, c_dup2, c_pop, c_ifnull, c_ifnonnull, c_get, c_put, c_iald, c_zald, c_iast, c_zast, c_aald, c_aast, c_alen, c_new, c_newa, c_newq, c_mna, c_oinit, c_max, c_copy, c_iret, c_zret, c_aret, c_vret, q_do, q_rc, c_ifeq, c_ifne, c_iflt, c_ifge, c_ifgt, c_ifle, c_iceq, c_icne, c_iclt, c_icge, c_icgt, c_icle, c_call0, c_call1, c_call2, c_call3, c_call4, c_call5, c_call6, c_call7, q_L0, List.map_cons, List.map_nil, List.replicate, List.cons_append, List.nil_append, List.append_nil, List.length_cons, List.length_nil, List.length_set, Nat.reduceSub, Nat.reduceAdd, Nat.reduceLT, Nat.reduceLeDiff, Nat.zero_add, Nat.add_zero, Nat.sub_zero, Nat.sub_self, List.getElem?_cons_zero, List.getElem?_cons_succ, List.set_cons_zero, List.set_cons_succ, Option.toList_some, Option.toList_none, List.sum_cons, List.sum_nil, true_and, and_true, true_or, or_true, Nat.le_refl, Nat.zero_le, Value.category, Fin.isValue, Fin.val_zero, Fin.val_one, Fin.val_two, Fin.reduceFinMk, q_10, q_01, not_false_eq_true, not_true_eq_false, forall_const, true_implies, false_implies, implies_true, q_ni, q_fi, q_nb0, q_nb1, q_fb0, q_fb1, q_nor, q_nar, q_for, q_far, q_non, q_nan, q_fon, q_fan, imp_false, false_and, and_false, and_self, false_or, or_false, va_rf, refKind, g2, os]
        refine ⟨_, _, _, hS, ⟨ha11, hb11⟩, fun σ' hS' hf => ?_⟩
        have w4 : ¬ Rg (100 + w.toNatClampNeg) (wa w.toNatClampNeg) := fun h9 => by have := hD.1 _ _ _ h9 (hD.p4.2 _ hlw).1; omega
        have w1' := (hf _ _ w4 w1).2
        have g2' : q_fld σ' (wa w.toNatClampNeg) 9 2 = some (.ref (sa w.toNatClampNeg)) := by simp only [q_fld, w1', if_true]; rfl
        have os' := hS'.oc
        simp only [c_push, c_null, c_iload, c_aload, c_istore, c_astore, c_iinc, c_iadd, c_isub, c_imul, c_iand, c_ineg, c_dup, c_dup2, c_pop, c_ifnull, c_ifnonnull, c_get, c_put, c_iald, c_zald, c_iast, c_zast, c_aald, c_aast, c_alen, c_new, c_newa, c_newq, c_mna, c_oinit, c_max, c_copy, c_iret, c_zret, c_aret, c_vret, q_do, q_rc, c_ifeq, c_ifne, c_iflt, c_ifge, c_ifgt, c_ifle, c_iceq, c_icne, c_iclt, c_icge, c_icgt, c_icle, c_call0, c_call1, c_call2, c_call3, c_call4, c_call5, c_call6, c_call7, q_L0, List.map_cons, List.map_nil, List.replicate, List.cons_append, List.nil_append, List.append_nil, List.length_cons, List.length_nil, List.length_set, Nat.reduceSub, Nat.reduceAdd, Nat.reduceLT, Nat.reduceLeDiff, Nat.zero_add, Nat.add_zero, Nat.sub_zero, Nat.sub_self, List.getElem?_cons_zero, List.getElem?_cons_succ, List.set_cons_zero, List.set_cons_succ, Option.toList_some, Option.toList_none, List.sum_cons, List.sum_nil, true_and, and_true, true_or, or_true, Nat.le_refl, Nat.zero_le, Value.category, Fin.isValue, Fin.val_zero, Fin.val_one, Fin.val_two, Fin.reduceFinMk, q_10, q_01, not_false_eq_true, not_true_eq_false, forall_const, true_implies, false_implies, implies_true, q_ni, q_fi, q_nb0, q_nb1, q_fb0, q_fb1, q_nor, q_nar, q_for, q_far, q_non, q_nan, q_fon, q_fan, imp_false, false_and, and_false, and_self, false_or, or_false, va_rf, refKind, g2', os']
        refine ⟨_, _, _, hS', ha11, ?_⟩
        have h2 := h1 _ (hD.shput h20 hlw ha hb hS' hP hf)
        rw [plM_cong ha (gup20 g w.toNatClampNeg a.toNatClampNeg b.toNatClampNeg _ ha hb) 12 (Nat.le_refl _), plM_eq]
        exact h2
    · rw [if_neg c] at h1
      have h2 := h1 _ hR0
      clear h1
      by_cases ca : 0 ≤ w ∧ w < z 11
      · by_cases ct : ¬ a = b ∧ (0 ≤ a ∧ a < z 1) ∧ (0 ≤ b ∧ b < z 1)
        · have cn : ¬ (1 ≤ n ∧ n ≤ 16) := fun h => c ⟨⟨ca, ct.2.1, ct.2.2, ct.1⟩, h⟩
          simp only [c_push, c_null, c_iload, c_aload, c_istore, c_astore, c_iinc, c_iadd, c_isub, c_imul, c_iand, c_ineg, c_dup, c_dup2, c_pop, c_ifnull, c_ifnonnull, c_get, c_put, c_iald, c_zald, c_iast, c_zast, c_aald, c_aast, c_alen, c_new, c_newa, c_newq, c_mna, c_oinit, c_max, c_copy, c_iret, c_zret, c_aret, c_vret, q_do, q_rc, c_ifeq, c_ifne, c_iflt, c_ifge, c_ifgt, c_ifle, c_iceq, c_icne, c_iclt, c_icge, c_icgt, c_icle, c_call0, c_call1, c_call2, c_call3, c_call4, c_call5, c_call6, c_call7, q_L0, List.map_cons, List.map_nil, List.replicate, List.cons_append, List.nil_append, List.append_nil, List.length_cons, List.length_nil, List.length_set, Nat.reduceSub, Nat.reduceAdd, Nat.reduceLT, Nat.reduceLeDiff, Nat.zero_add, Nat.add_zero, Nat.sub_zero, Nat.sub_self, List.getElem?_cons_zero, List.getElem?_cons_succ, List.set_cons_zero, List.set_cons_succ, Option.toList_some, Option.toList_none, List.sum_cons, List.sum_nil, true_and, and_true, true_or, or_true, Nat.le_refl, Nat.zero_le, Value.category, Fin.isValue, Fin.val_zero, Fin.val_one, Fin.val_two, Fin.reduceFinMk, q_10, q_01, not_false_eq_true, not_true_eq_false, forall_const, true_implies, false_implies, implies_true, q_ni, q_fi, q_nb0, q_nb1, q_fb0, q_fb1, q_nor, q_nar, q_for, q_far, q_non, q_nan, q_fon, q_fan, imp_false, false_and, and_false, and_self, false_or, or_false, va_rf, refKind, k_X10_pledge_0, k_X10_pledge_32, o1, wAt e1 e4 hI.2.2.2.1, tAt e1 e2 hI.2.1, ca, ct, s_X10_isWithin, cn, h2]
        · simp only [c_push, c_null, c_iload, c_aload, c_istore, c_astore, c_iinc, c_iadd, c_isub, c_imul, c_iand, c_ineg, c_dup, c_dup2, c_pop, c_ifnull, c_ifnonnull, c_get, c_put, c_iald, c_zald, c_iast, c_zast, c_aald, c_aast, c_alen, c_new, c_newa, c_newq, c_mna, c_oinit, c_max, c_copy, c_iret, c_zret, c_aret, c_vret, q_do, q_rc, c_ifeq, c_ifne, c_iflt, c_ifge, c_ifgt, c_ifle, c_iceq, c_icne, c_iclt, c_icge, c_icgt, c_icle, c_call0, c_call1, c_call2, c_call3, c_call4, c_call5, c_call6, c_call7, q_L0, List.map_cons, List.map_nil, List.replicate, List.cons_append, List.nil_append, List.append_nil, List.length_cons, List.length_nil, List.length_set, Nat.reduceSub, Nat.reduceAdd, Nat.reduceLT, Nat.reduceLeDiff, Nat.zero_add, Nat.add_zero, Nat.sub_zero, Nat.sub_self, List.getElem?_cons_zero, List.getElem?_cons_succ, List.set_cons_zero, List.set_cons_succ, Option.toList_some, Option.toList_none, List.sum_cons, List.sum_nil, true_and, and_true, true_or, or_true, Nat.le_refl, Nat.zero_le, Value.category, Fin.isValue, Fin.val_zero, Fin.val_one, Fin.val_two, Fin.reduceFinMk, q_10, q_01, not_false_eq_true, not_true_eq_false, forall_const, true_implies, false_implies, implies_true, q_ni, q_fi, q_nb0, q_nb1, q_fb0, q_fb1, q_nor, q_nar, q_for, q_far, q_non, q_nan, q_fon, q_fan, imp_false, false_and, and_false, and_self, false_or, or_false, va_rf, refKind, k_X10_pledge_0, k_X10_pledge_32, o1, wAt e1 e4 hI.2.2.2.1, tAt e1 e2 hI.2.1, ca, s_X10_isWithin, h2]
          exact fun h => absurd h ct
      · simp only [c_push, c_null, c_iload, c_aload, c_istore, c_astore, c_iinc, c_iadd, c_isub, c_imul, c_iand, c_ineg, c_dup, c_dup2, c_pop, c_ifnull, c_ifnonnull, c_get, c_put, c_iald, c_zald, c_iast, c_zast, c_aald, c_aast, c_alen, c_new, c_newa, c_newq, c_mna, c_oinit, c_max, c_copy, c_iret, c_zret, c_aret, c_vret, q_do, q_rc, c_ifeq, c_ifne, c_iflt, c_ifge, c_ifgt, c_ifle, c_iceq, c_icne, c_iclt, c_icge, c_icgt, c_icle, c_call0, c_call1, c_call2, c_call3, c_call4, c_call5, c_call6, c_call7, q_L0, List.map_cons, List.map_nil, List.replicate, List.cons_append, List.nil_append, List.append_nil, List.length_cons, List.length_nil, List.length_set, Nat.reduceSub, Nat.reduceAdd, Nat.reduceLT, Nat.reduceLeDiff, Nat.zero_add, Nat.add_zero, Nat.sub_zero, Nat.sub_self, List.getElem?_cons_zero, List.getElem?_cons_succ, List.set_cons_zero, List.set_cons_succ, Option.toList_some, Option.toList_none, List.sum_cons, List.sum_nil, true_and, and_true, true_or, or_true, Nat.le_refl, Nat.zero_le, Value.category, Fin.isValue, Fin.val_zero, Fin.val_one, Fin.val_two, Fin.reduceFinMk, q_10, q_01, not_false_eq_true, not_true_eq_false, forall_const, true_implies, false_implies, implies_true, q_ni, q_fi, q_nb0, q_nb1, q_fb0, q_fb1, q_nor, q_nar, q_for, q_far, q_non, q_nan, q_fon, q_fan, imp_false, false_and, and_false, and_self, false_or, or_false, va_rf, refKind, k_X10_pledge_0, k_X10_pledge_32, o1, wAt e1 e4 hI.2.2.2.1, tAt e1 e2 hI.2.1, ca, s_X10_isWithin, h2]
  · exact h.elim)
def s_X10_redeem : q_Sp := fun av σ post => match av with
  | [.ref r, .int w, .int a, .int b] => ∃ z g, RegOK σ r z g ∧ I1 z ∧ ∀ σ', RegOK σ' r z (F_redeem z g w a b).2 → post (some (.int (F_redeem z g w a b).1)) σ'
  | _ => False
theorem w9_375 : (.methodLink RX10 161 yX8_dropPledge : Cond) ∈ lw_tbl := by decide +kernel
def rm_X10_redeem : Room := { frames := 4, cells := 0, slots := 0, locals := 89 }
def k_X10_redeem_21 (post : Option Value → q_S → Prop) (K : Nat → q_K) : q_K := (c_push (-2) (c_iret post))
def k_X10_redeem_48 (post : Option Value → q_S → Prop) (K : Nat → q_K) : q_K := (c_iret post)
def k_X10_redeem_0 (post : Option Value → q_S → Prop) (K : Nat → q_K) : q_K := (c_aload 0 (c_iload 1 (c_call2 (some 10) s_X10_workAt 0 0 (c_astore 4 (c_aload 4 (c_ifnull (k_X10_redeem_21 post K) (c_aload 0 (c_iload 2 (c_iload 3 (c_call3 (some 10) s_X10_areTwoPersons 0 0 (c_ifne (c_aload 4 (c_get 9 2 (c_iload 2 (c_iload 3 (c_call3 (some 8) s_X8_dropPledge 0 0 (c_istore 5 (c_iload 5 (c_ifne (c_iload 5 (k_X10_redeem_48 post K)) (c_push (-3) (k_X10_redeem_48 post K)))))))))) (k_X10_redeem_21 post K))))))))))))
set_option maxRecDepth 100000 in
theorem v_X10_redeem_21 {p : Program} {l : Launch} {e : Env} {s : State} {m : MethodId} {args : Array Value} {below : List Frame} {meth : Method} {c : Code} {D : va_G} {A : Nat → Prop} {post : Option Value → q_S → Prop} {K : Nat → q_K} (C : q_C p s m args meth c cX10_redeem 6 RX10 "redeem" (some .int) A) (hK : ∀ h ∈ ([] : List Nat), q_V p l e rm_X10_redeem s m args below meth c D A 6 (MQ below (q_Qc D A post) args s rm_X10_redeem.cells rm_X10_redeem.slots A) h (K h)) : q_V p l e rm_X10_redeem s m args below meth c D A 6 (MQ below (q_Qc D A post) args s rm_X10_redeem.cells rm_X10_redeem.slots A) 21 (k_X10_redeem_21 post K) := by
  unfold k_X10_redeem_21
  refine q_bipush C (by decide +kernel : decode cX10_redeem 21 = .ok (.bipush (-2), 2)) (by decide) ?_
  exact q_iret C rfl (by decide +kernel : decode cX10_redeem 23 = .ok (.ireturn, 1))
set_option maxRecDepth 100000 in
theorem v_X10_redeem_48 {p : Program} {l : Launch} {e : Env} {s : State} {m : MethodId} {args : Array Value} {below : List Frame} {meth : Method} {c : Code} {D : va_G} {A : Nat → Prop} {post : Option Value → q_S → Prop} {K : Nat → q_K} (C : q_C p s m args meth c cX10_redeem 6 RX10 "redeem" (some .int) A) (hK : ∀ h ∈ ([] : List Nat), q_V p l e rm_X10_redeem s m args below meth c D A 6 (MQ below (q_Qc D A post) args s rm_X10_redeem.cells rm_X10_redeem.slots A) h (K h)) : q_V p l e rm_X10_redeem s m args below meth c D A 6 (MQ below (q_Qc D A post) args s rm_X10_redeem.cells rm_X10_redeem.slots A) 48 (k_X10_redeem_48 post K) := by
  unfold k_X10_redeem_48
  exact q_iret C rfl (by decide +kernel : decode cX10_redeem 48 = .ok (.ireturn, 1))
set_option maxRecDepth 100000 in
theorem v_X10_redeem_0 {p : Program} {l : Launch} {e : Env} {s : State} {m : MethodId} {args : Array Value} {below : List Frame} {meth : Method} {c : Code} {D : va_G} {A : Nat → Prop} {post : Option Value → q_S → Prop} {K : Nat → q_K} (C : q_C p s m args meth c cX10_redeem 6 RX10 "redeem" (some .int) A) (hK : ∀ h ∈ ([] : List Nat), q_V p l e rm_X10_redeem s m args below meth c D A 6 (MQ below (q_Qc D A post) args s rm_X10_redeem.cells rm_X10_redeem.slots A) h (K h)) : q_V p l e rm_X10_redeem s m args below meth c D A 6 (MQ below (q_Qc D A post) args s rm_X10_redeem.cells rm_X10_redeem.slots A) 0 (k_X10_redeem_0 post K) := by
  unfold k_X10_redeem_0
  refine q_aload_n C (by decide +kernel : decode cX10_redeem 0 = .ok (.aload_n 0, 1)) ?_
  refine q_iload_n C (by decide +kernel : decode cX10_redeem 1 = .ok (.iload_n 1, 1)) ?_
  refine q_call2 C (q_coV C (np := 1) (ci := 10) (rc := (RX10, TX10, 10)) (t_X10_workAt l) w9_337 rfl rfl w9_338 w9_339 w9_340 w9_1 (by decide +kernel) (by decide +kernel : decode cX10_redeem 2 = .ok (.invokevirtual 87, 3)) (by decide)) ?_
  refine q_astore C (by decide +kernel : decode cX10_redeem 5 = .ok (.astore 4, 2)) ?_
  refine q_aload C (by decide +kernel : decode cX10_redeem 7 = .ok (.aload 4, 2)) ?_
  refine q_ifnull C (tgt := 21) (by decide +kernel : decode cX10_redeem 9 = .ok (.ifnull 12, 3)) (by decide) ?_ ?_
  · exact v_X10_redeem_21 C hK
  · refine q_aload_n C (by decide +kernel : decode cX10_redeem 12 = .ok (.aload_n 0, 1)) ?_
    refine q_iload_n C (by decide +kernel : decode cX10_redeem 13 = .ok (.iload_n 2, 1)) ?_
    refine q_iload_n C (by decide +kernel : decode cX10_redeem 14 = .ok (.iload_n 3, 1)) ?_
    refine q_call3 C (q_coV C (np := 2) (ci := 10) (rc := (RX10, TX10, 10)) (t_X10_areTwoPersons l) w9_365 rfl rfl w9_366 w9_367 w9_368 w9_1 (by decide +kernel) (by decide +kernel : decode cX10_redeem 15 = .ok (.invokevirtual 143, 3)) (by decide)) ?_
    refine q_ifne C (tgt := 24) (by decide +kernel : decode cX10_redeem 18 = .ok (.ifCond .ne 6, 3)) (by decide) ?_ ?_
    · refine q_aload C (by decide +kernel : decode cX10_redeem 24 = .ok (.aload 4, 2)) ?_
      refine q_getN C (ci := 9) (j := 2) (C0 := RX9) (T := TX9) (N := 5) rfl iX9 giX9 (by decide) (by decide +kernel) (by decide +kernel : decode cX10_redeem 26 = .ok (.getfield 91, 3)) ?_
      refine q_iload_n C (by decide +kernel : decode cX10_redeem 29 = .ok (.iload_n 2, 1)) ?_
      refine q_iload_n C (by decide +kernel : decode cX10_redeem 30 = .ok (.iload_n 3, 1)) ?_
      refine q_call3 C (q_coV C (np := 2) (ci := 8) (rc := (RX8, TX8, 2)) (t_X8_dropPledge l) w9_216 rfl rfl w9_375 w9_218 w9_219 w9_183 (by decide +kernel) (by decide +kernel : decode cX10_redeem 31 = .ok (.invokevirtual 161, 3)) (by decide)) ?_
      refine q_istore C (by decide +kernel : decode cX10_redeem 34 = .ok (.istore 5, 2)) ?_
      refine q_iload C (by decide +kernel : decode cX10_redeem 36 = .ok (.iload 5, 2)) ?_
      refine q_ifne C (tgt := 46) (by decide +kernel : decode cX10_redeem 38 = .ok (.ifCond .ne 8, 3)) (by decide) ?_ ?_
      · refine q_iload C (by decide +kernel : decode cX10_redeem 46 = .ok (.iload 5, 2)) ?_
        exact v_X10_redeem_48 C hK
      · refine q_bipush C (by decide +kernel : decode cX10_redeem 41 = .ok (.bipush (-3), 2)) (by decide) ?_
        refine q_goto C (tgt := 48) (by decide +kernel : decode cX10_redeem 43 = .ok (.goto 5, 3)) (by decide) ?_
        exact v_X10_redeem_48 C hK
    · exact v_X10_redeem_21 C hK
theorem u_X10_redeem (l : Launch) {sp : q_Sp} (H : ∀ (av : List Value) (σ : q_S) (post : Option Value → q_S → Prop), sp av σ post → k_X10_redeem_0 post (fun _ _ _ _ _ _ => False) (q_L0 av 6) [] σ 0 0 ∧ av.length ≤ 6 ∧ ∀ v ∈ av, v.category = 1) : q_Ct l yX10_redeem cX10_redeem 6 (some .int) rm_X10_redeem sp := by
  refine q_met (by decide) ?_
  intro D A p e s m args below meth c σ av post C hsp
  obtain ⟨h1, h2, h3⟩ := H av σ post hsp
  exact ⟨_, v_X10_redeem_0 (K := fun _ _ _ _ _ _ => False) C (fun h hh => by cases hh), h1, h2, h3⟩
theorem t_X10_redeem (l : Launch) : q_Ct l yX10_redeem cX10_redeem 6 (some .int) rm_X10_redeem s_X10_redeem := u_X10_redeem l (by
  intro av σ post h
  unfold s_X10_redeem at h
  split at h
  · next r w a b =>
    refine ⟨?_, by simp, by simp [Value.category]⟩
    obtain ⟨z, g, hR, hI, h1⟩ := h
    have hR0 := hR
    obtain ⟨Rg, P, AC, AR, WK, LC, CL, CM, CP, pa, aa, wa, sa, ga, la, lra, lc, lrn, hD⟩ := hR
    have e1 := hD.p1.2
    have e2 := hD.p2.1.2
    have e4 := hD.p4.1.2
    have o1 : q_oc σ r = some 10 := by simp only [q_oc, e1]
    have h20 := hI.n20
    unfold I1 at hI
    unfold F_redeem at h1
    by_cases c : twoF z w a b
    · rw [if_pos c] at h1
      dsimp only at h1
      have ca : 0 ≤ w ∧ w < z 11 := c.1
      have hlw : w.toNatClampNeg < nwF z := ltN ca.1 ca.2
      have ct : ¬ a = b ∧ (0 ≤ a ∧ a < z 1) ∧ (0 ≤ b ∧ b < z 1) := ⟨c.2.2.2, c.2.1, c.2.2.1⟩
      have ha11 : 0 ≤ a ∧ a ≤ 11 := by grind
      have hb11 : 0 ≤ b ∧ b ≤ 11 := by grind
      have ha : a.toNatClampNeg < 12 := clamp_lt 12 ha11.1 (by grind)
      have hb : b.toNatClampNeg < 12 := clamp_lt 12 hb11.1 (by grind)
      have w1 := (hD.p4.2 _ hlw).2
      have g2 : q_fld σ (wa w.toNatClampNeg) 9 2 = some (.ref (sa w.toNatClampNeg)) := by simp only [q_fld, w1, if_true]; rfl
      obtain ⟨pgs, hS, hP⟩ := hD.sh hlw h20
      have os := hS.oc
      simp only [c_push, c_null, c_iload, c_aload, c_istore, c_astore, c_iinc, c_iadd, c_isub, c_imul, c_iand, c_ineg, c_dup, c_dup2, c_pop, c_ifnull, c_ifnonnull, c_get, c_put, c_iald, c_zald, c_iast, c_zast, c_aald, c_aast, c_alen, c_new, c_newa, c_newq, c_mna, c_oinit, c_max, c_copy, c_iret, c_zret, c_aret, c_vret, q_do, q_rc, c_ifeq, c_ifne, c_iflt, c_ifge, c_ifgt, c_ifle, c_iceq, c_icne, c_iclt, c_icge, c_icgt, c_icle, c_call0, c_call1, c_call2, c_call3, c_call4, c_call5, c_call6, c_call7, q_L0, List.map_cons, List.map_nil, List.replicate, List.cons_append, List.nil_append, List.append_nil, List.length_cons, List.length_nil, List.length_set, Nat.reduceSub, Nat.reduceAdd, Nat.reduceLT, Nat.reduceLeDiff, Nat.zero_add, Nat.add_zero, Nat.sub_zero, Nat.sub_self, List.getElem?_cons_zero, List.getElem?_cons_succ, List.set_cons_zero, List.set_cons_succ, Option.toList_some, Option.toList_none, List.sum_cons, List.sum_nil, true_and, and_true, true_or, or_true, Nat.le_refl, Nat.zero_le, Value.category, Fin.isValue, Fin.val_zero, Fin.val_one, Fin.val_two, Fin.reduceFinMk, q_10, q_01, not_false_eq_true, not_true_eq_false, forall_const, true_implies, false_implies, implies_true, q_ni, q_fi, q_nb0, q_nb1, q_fb0, q_fb1, q_nor, q_nar, q_for, q_far, q_non, q_nan, q_fon, q_fan, imp_false, false_and, and_false, and_self, false_or, or_false, va_rf, refKind, k_X10_redeem_0, k_X10_redeem_21, k_X10_redeem_48, o1, wAt e1 e4 hI.2.2.2.1, tAt e1 e2 hI.2.1, ca, ct, g2, os]
      refine ⟨_, _, _, hS, ⟨ha11, hb11⟩, fun σ' hS' hf => ?_⟩
      have h2 := h1 _ (hD.shput h20 hlw ha hb hS' hP hf)
      simp only [c_push, c_null, c_iload, c_aload, c_istore, c_astore, c_iinc, c_iadd, c_isub, c_imul, c_iand, c_ineg, c_dup, c_dup2, c_pop, c_ifnull, c_ifnonnull, c_get, c_put, c_iald, c_zald, c_iast, c_zast, c_aald, c_aast, c_alen, c_new, c_newa, c_newq, c_mna, c_oinit, c_max, c_copy, c_iret, c_zret, c_aret, c_vret, q_do, q_rc, c_ifeq, c_ifne, c_iflt, c_ifge, c_ifgt, c_ifle, c_iceq, c_icne, c_iclt, c_icge, c_icgt, c_icle, c_call0, c_call1, c_call2, c_call3, c_call4, c_call5, c_call6, c_call7, q_L0, List.map_cons, List.map_nil, List.replicate, List.cons_append, List.nil_append, List.append_nil, List.length_cons, List.length_nil, List.length_set, Nat.reduceSub, Nat.reduceAdd, Nat.reduceLT, Nat.reduceLeDiff, Nat.zero_add, Nat.add_zero, Nat.sub_zero, Nat.sub_self, List.getElem?_cons_zero, List.getElem?_cons_succ, List.set_cons_zero, List.set_cons_succ, Option.toList_some, Option.toList_none, List.sum_cons, List.sum_nil, true_and, and_true, true_or, or_true, Nat.le_refl, Nat.zero_le, Value.category, Fin.isValue, Fin.val_zero, Fin.val_one, Fin.val_two, Fin.reduceFinMk, q_10, q_01, not_false_eq_true, not_true_eq_false, forall_const, true_implies, false_implies, implies_true, q_ni, q_fi, q_nb0, q_nb1, q_fb0, q_fb1, q_nor, q_nar, q_for, q_far, q_non, q_nan, q_fon, q_fan, imp_false, false_and, and_false, and_self, false_or, or_false, va_rf, refKind]
      exact ⟨fun c9 => by rw [if_neg c9] at h2; exact h2, fun c9 => by rw [if_pos c9] at h2; exact h2⟩
    · rw [if_neg c] at h1
      have h2 := h1 _ hR0
      clear h1
      by_cases ca : 0 ≤ w ∧ w < z 11
      · have ct : ¬ (¬ a = b ∧ (0 ≤ a ∧ a < z 1) ∧ (0 ≤ b ∧ b < z 1)) := fun h => c ⟨ca, h.2.1, h.2.2, h.1⟩
        simp only [c_push, c_null, c_iload, c_aload, c_istore, c_astore, c_iinc, c_iadd, c_isub, c_imul, c_iand, c_ineg, c_dup, c_dup2, c_pop, c_ifnull, c_ifnonnull, c_get, c_put, c_iald, c_zald, c_iast, c_zast, c_aald, c_aast, c_alen, c_new, c_newa, c_newq, c_mna, c_oinit, c_max, c_copy, c_iret, c_zret, c_aret, c_vret, q_do, q_rc, c_ifeq, c_ifne, c_iflt, c_ifge, c_ifgt, c_ifle, c_iceq, c_icne, c_iclt, c_icge, c_icgt, c_icle, c_call0, c_call1, c_call2, c_call3, c_call4, c_call5, c_call6, c_call7, q_L0, List.map_cons, List.map_nil, List.replicate, List.cons_append, List.nil_append, List.append_nil, List.length_cons, List.length_nil, List.length_set, Nat.reduceSub, Nat.reduceAdd, Nat.reduceLT, Nat.reduceLeDiff, Nat.zero_add, Nat.add_zero, Nat.sub_zero, Nat.sub_self, List.getElem?_cons_zero, List.getElem?_cons_succ, List.set_cons_zero, List.set_cons_succ, Option.toList_some, Option.toList_none, List.sum_cons, List.sum_nil, true_and, and_true, true_or, or_true, Nat.le_refl, Nat.zero_le, Value.category, Fin.isValue, Fin.val_zero, Fin.val_one, Fin.val_two, Fin.reduceFinMk, q_10, q_01, not_false_eq_true, not_true_eq_false, forall_const, true_implies, false_implies, implies_true, q_ni, q_fi, q_nb0, q_nb1, q_fb0, q_fb1, q_nor, q_nar, q_for, q_far, q_non, q_nan, q_fon, q_fan, imp_false, false_and, and_false, and_self, false_or, or_false, va_rf, refKind, k_X10_redeem_0, k_X10_redeem_21, k_X10_redeem_48, o1, wAt e1 e4 hI.2.2.2.1, tAt e1 e2 hI.2.1, ca, h2]
        exact fun h => absurd h ct
      · simp only [c_push, c_null, c_iload, c_aload, c_istore, c_astore, c_iinc, c_iadd, c_isub, c_imul, c_iand, c_ineg, c_dup, c_dup2, c_pop, c_ifnull, c_ifnonnull, c_get, c_put, c_iald, c_zald, c_iast, c_zast, c_aald, c_aast, c_alen, c_new, c_newa, c_newq, c_mna, c_oinit, c_max, c_copy, c_iret, c_zret, c_aret, c_vret, q_do, q_rc, c_ifeq, c_ifne, c_iflt, c_ifge, c_ifgt, c_ifle, c_iceq, c_icne, c_iclt, c_icge, c_icgt, c_icle, c_call0, c_call1, c_call2, c_call3, c_call4, c_call5, c_call6, c_call7, q_L0, List.map_cons, List.map_nil, List.replicate, List.cons_append, List.nil_append, List.append_nil, List.length_cons, List.length_nil, List.length_set, Nat.reduceSub, Nat.reduceAdd, Nat.reduceLT, Nat.reduceLeDiff, Nat.zero_add, Nat.add_zero, Nat.sub_zero, Nat.sub_self, List.getElem?_cons_zero, List.getElem?_cons_succ, List.set_cons_zero, List.set_cons_succ, Option.toList_some, Option.toList_none, List.sum_cons, List.sum_nil, true_and, and_true, true_or, or_true, Nat.le_refl, Nat.zero_le, Value.category, Fin.isValue, Fin.val_zero, Fin.val_one, Fin.val_two, Fin.reduceFinMk, q_10, q_01, not_false_eq_true, not_true_eq_false, forall_const, true_implies, false_implies, implies_true, q_ni, q_fi, q_nb0, q_nb1, q_fb0, q_fb1, q_nor, q_nar, q_for, q_far, q_non, q_nan, q_fon, q_fan, imp_false, false_and, and_false, and_self, false_or, or_false, va_rf, refKind, k_X10_redeem_0, k_X10_redeem_21, k_X10_redeem_48, o1, wAt e1 e4 hI.2.2.2.1, tAt e1 e2 hI.2.1, ca, h2]
  · exact h.elim)
