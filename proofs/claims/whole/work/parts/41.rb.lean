-- END by the class and by the reference
def AB (z : Nat → Int32) (g : Nat → Nat → Int32) : Prop := ∀ n, n < naF z → (0 ≤ g 6 n ∧ g 6 n ≤ 3000) ∧ (0 ≤ g 7 n ∧ g 7 n ≤ 2000) ∧ (-1 ≤ g 8 n ∧ g 8 n ≤ 2000)
def DB (z : Nat → Int32) (g : Nat → Nat → Int32) : Prop := ∀ p, p < npF z → g 3 p = -1 ∨ 0 ≤ g 3 p ∧ g 3 p ≤ 3000
def toC (x : Int32) : Int32 := if x = 1000000 then 2147483647 else x
def okE (x : Int32) : Prop := 0 ≤ x ∧ x ≤ 5000 ∨ x = 1000000
theorem endBy_rel {g : Nat → Nat → Int32} {w a : Nat} {k lr : Int32} (he : 0 ≤ g 13 w ∧ g 13 w ≤ 3000) (ha : (0 ≤ g 6 a ∧ g 6 a ≤ 3000) ∧ (0 ≤ g 7 a ∧ g 7 a ≤ 2000) ∧ (-1 ≤ g 8 a ∧ g 8 a ≤ 2000)) (hd : g 3 (g 12 w).toNatClampNeg = -1 ∨ 0 ≤ g 3 (g 12 w).toNatClampNeg ∧ g 3 (g 12 w).toNatClampNeg ≤ 3000) (hl : ¬ g 3 (g 12 w).toNatClampNeg = -1 → lr = g 4 (g 12 w).toNatClampNeg) : okE (endByF g w a k) ∧ cEnd (g 6 a) (g 7 a) (g 8 a) (g 13 w) (g 3 (g 12 w).toNatClampNeg) lr k = toC (endByF g w a k) := by
  unfold okE cEnd toC endByF deathF
  generalize g 13 w = e at *
  generalize g 6 a = d at *
  generalize g 7 a = f at *
  generalize g 8 a = li at *
  generalize g 3 (g 12 w).toNatClampNeg = dd at *
  generalize g 4 (g 12 w).toNatClampNeg = l4 at *
  grind
theorem end_step (x y e d v en k t : Int32) (hy : y = 0 ∨ y = 1) (hx : okE x) (he : okE e) (hd : 0 ≤ d ∧ d ≤ 3000) (ht : t ≤ 3000) : okE (if en < d ∧ d ≤ k ∧ (v = 2 ∨ v = 1 ∧ d ≤ x) then (mxF x e, if y ≠ 0 ∨ x < t ∧ t < d then 1 else 0) else (x, y)).1 ∧ (if cCh (fun i _ => if i = 6 then d else v) en k (toC x) 0 then (if toC x < toC e then toC e else toC x) else toC x) = toC (if en < d ∧ d ≤ k ∧ (v = 2 ∨ v = 1 ∧ d ≤ x) then (mxF x e, if y ≠ 0 ∨ x < t ∧ t < d then (1 : Int32) else 0) else (x, y)).1 ∧ ((¬ y = 0 ∨ ((en < d ∧ d ≤ k) ∧ v = 2 ∧ toC x < t ∧ t < d)) ↔ ¬ (if en < d ∧ d ≤ k ∧ (v = 2 ∨ v = 1 ∧ d ≤ x) then (mxF x e, if y ≠ 0 ∨ x < t ∧ t < d then (1 : Int32) else 0) else (x, y)).2 = 0) := by
  have e1 : (d ≤ toC x ↔ d ≤ x) ∧ (toC x < t ↔ x < t) := by unfold toC; unfold okE at hx; grind
  have e2 : (toC x < toC e ↔ x < e) ∧ okE (mxF x e) ∧ toC (mxF x e) = if x < e then toC e else toC x := by unfold toC okE mxF; unfold okE at hx he; grind
  have e3 : cCh (fun i _ => if i = 6 then d else v) en k (toC x) 0 ↔ (en < d ∧ d ≤ k ∧ (v = 2 ∨ v = 1 ∧ d ≤ x)) := by
    unfold cCh
    simp only [if_true, Nat.reduceEqDiff, if_false, e1.1]
    exact ⟨fun h => ⟨h.1.1, h.1.2, h.2⟩, fun h => ⟨⟨h.1, h.2.1⟩, h.2.2⟩⟩
  by_cases c : en < d ∧ d ≤ k ∧ (v = 2 ∨ v = 1 ∧ d ≤ x)
  · rw [if_pos (e3.mpr c)]
    simp only [if_pos c, e1.2]
    refine ⟨e2.2.1, ?_, ?_⟩
    · rw [e2.2.2]
      by_cases c2 : x < e
      · rw [if_pos c2, if_pos (e2.1.mpr c2)]
      · rw [if_neg c2, if_neg (fun h => c2 (e2.1.mp h))]
    · by_cases c3 : y ≠ 0 ∨ x < t ∧ t < d
      · simp only [if_pos c3]
        clear e1 e2 e3
        grind
      · simp only [if_neg c3]
        clear e1 e2 e3
        grind
  · rw [if_neg (fun h => c (e3.mp h))]
    simp only [if_neg c, e1.2]
    refine ⟨hx, trivial, ?_⟩
    clear e1 e2 e3
    grind
theorem end_rel {g : Nat → Nat → Int32} {w na : Nat} {k lr t : Int32} (he : 0 ≤ g 13 w ∧ g 13 w ≤ 3000) (ha : ∀ a, a < na → (0 ≤ g 6 a ∧ g 6 a ≤ 3000) ∧ (0 ≤ g 7 a ∧ g 7 a ≤ 2000) ∧ (-1 ≤ g 8 a ∧ g 8 a ≤ 2000)) (hd : g 3 (g 12 w).toNatClampNeg = -1 ∨ 0 ≤ g 3 (g 12 w).toNatClampNeg ∧ g 3 (g 12 w).toNatClampNeg ≤ 3000) (hl : ¬ g 3 (g 12 w).toNatClampNeg = -1 → lr = g 4 (g 12 w).toNatClampNeg) (hna : na ≤ 6) (ht : t ≤ 3000) : ∀ n, n ≤ na → okE (endF g w k t na n).1 ∧ ceF g (g 13 w) (g 3 (g 12 w).toNatClampNeg) lr k na n = toC (endF g w k t na n).1 ∧ (lfB g (g 13 w) (g 3 (g 12 w).toNatClampNeg) lr t k na n = true ↔ ¬ (endF g w k t na n).2 = 0) := by
  intro n
  induction n with
  | zero =>
    intro _
    refine ⟨?_, ?_, ?_⟩
    · rw [endF, firstF]
      rcases actF_cases g (g 13 w) na with e | ⟨i, hi, e⟩
      · rw [if_pos e]; exact Or.inl ⟨he.1, by dsimp only; grind⟩
      · rw [if_neg (by rw [e]; exact nI_m1 (by omega)), e, clN (by omega)]
        exact (endBy_rel he (ha i hi) hd hl).1
    · rw [endF, ceF, firstF, cfF]
      rcases actF_cases g (g 13 w) na with e | ⟨i, hi, e⟩
      · rw [if_pos e, if_pos e]; unfold toC; dsimp only; grind
      · rw [if_neg (by rw [e]; exact nI_m1 (by omega)), if_neg (by rw [e]; exact nI_m1 (by omega)), e, clN (by omega)]
        exact (endBy_rel he (ha i hi) hd hl).2
    · rw [endF, lfB]; simp
  | succ n ih =>
    intro hn
    obtain ⟨i1, i2, i3⟩ := ih (by omega)
    have b := endBy_rel (k := k) he (ha n (by omega)) hd hl
    have a1 := (ha n (by omega)).1
    rw [endF, ceF, lfB, i2, b.2]
    have S := end_step (endF g w k t na n).1 (endF g w k t na n).2 (endByF g w n k) (g 6 n) (g 9 n) (g 13 w) k t (endF_gap g w k t na n) i1 b.1 a1 ht
    refine ⟨S.1, S.2.1, ?_⟩
    rw [Bool.or_eq_true, i3, decide_eq_true_iff]
    exact S.2.2
section RGR
variable {σ σ' : q_S} {Rg : Nat → Nat → Prop} {r P AC AR WK LC CL CM CP : Nat} {pa aa wa sa ga la lra lc : Nat → Nat} {lrn : Nat → Int32} {z : Nat → Int32} {g : Nat → Nat → Int32}
theorem RegD.wk (hD : RegD σ Rg r P AC AR WK LC CL CM CP pa aa wa sa ga la lra lc lrn z g) (hAU : AU2 z g) {i : Nat} (hi : i < nwF z) : ∃ lr, WkF σ (wa i) (g 13 i) (g 3 (g 12 i).toNatClampNeg) lr ∧ (¬ g 3 (g 12 i).toNatClampNeg = -1 → lr = g 4 (g 12 i).toNatClampNeg) := by
  have k := hAU i hi
  have hp := ltN k.1 k.2
  exact ⟨lrn (g 12 i).toNatClampNeg, ⟨_, _, _, _, _, (hD.p4.2 i hi).2, (hD.p2.2.1 _ hp).2⟩, hD.p2.2.2.2 _ hp⟩
end RGR
theorem prC_rel {z : Nat → Int32} {g : Nat → Nat → Int32} {w : Nat} {k lr t : Int32} (hI : I1 z) (hEN : EN z g) (hAB : AB z g) (hDB : DB z g) (hAU : AU2 z g) (hw : w < nwF z) (hl : ¬ g 3 (g 12 w).toNatClampNeg = -1 → lr = g 4 (g 12 w).toNatClampNeg) (ht : t ≤ 3000) : (prC g (g 13 w) (g 3 (g 12 w).toNatClampNeg) lr t k (naF z) ↔ HR z g w t k) ∧ okE (EF z g w k t).1 ∧ ceF g (g 13 w) (g 3 (g 12 w).toNatClampNeg) lr k (naF z) (naF z) = toC (EF z g w k t).1 := by
  have k1 := hAU w hw
  have hp := ltN k1.1 k1.2
  have hna : naF z ≤ 6 := clamp_le 6 hI.2.2.1.1 hI.2.2.1.2
  have he := hEN w hw
  have hz := hI.1.2
  obtain ⟨r1, r2, r3⟩ := end_rel (k := k) (t := t) ⟨he.1, by grind⟩ hAB (hDB _ hp) hl hna ht (naF z) (Nat.le_refl _)
  refine ⟨?_, r1, r2⟩
  unfold prC HR EF
  rw [r2]
  have e : (lfB g (g 13 w) (g 3 (g 12 w).toNatClampNeg) lr t k (naF z) (naF z) = false) ↔ (endF g w k t (naF z) (naF z)).2 = 0 := by
    cases hh : lfB g (g 13 w) (g 3 (g 12 w).toNatClampNeg) lr t k (naF z) (naF z)
    · rw [hh] at r3
      simp only [Bool.false_eq_true, false_iff, Classical.not_not] at r3
      simp [r3]
    · rw [hh] at r3
      have := r3.mp rfl
      simp [this]
  rw [e]
  have e2 : t ≤ toC (endF g w k t (naF z) (naF z)).1 ↔ t ≤ (endF g w k t (naF z) (naF z)).1 := by
    unfold okE at r1
    unfold toC
    generalize (endF g w k t (naF z) (naF z)).1 = x at *
    clear r2 r3 e
    grind
  rw [e2]
-- end, inRight, may of the register
def s_X10_end : q_Sp := fun av σ post => match av with
  | [.ref r, .int w, .int k] => ∃ z g, RegOK σ r z g ∧ I1 z ∧ EN z g ∧ AB z g ∧ DB z g ∧ AU2 z g ∧ ∀ σ', RegOK σ' r z g → post (some (.int (F_end z g w k))) σ'
  | _ => False
theorem w9_400 : (.code yX10_isDayOf cX10_isDayOf 2 (some .boolean) : Cond) ∈ lw_tbl := by decide +kernel
theorem w9_401 : (.static yX10_isDayOf : Cond) ∈ lw_tbl := by decide +kernel
theorem w9_402 : (.methodLink RX10 126 yX10_isDayOf : Cond) ∈ lw_tbl := by decide +kernel
theorem w9_403 : (.methodLink RX10 130 yX1_endKnownAt : Cond) ∈ lw_tbl := by decide +kernel
theorem w9_404 : (.constant RX10 134 2147483647 : Cond) ∈ lw_tbl := by decide +kernel
def rm_X10_end : Room := { frames := 5, cells := 0, slots := 0, locals := 113 }
def k_X10_end_18 (post : Option Value → q_S → Prop) (K : Nat → q_K) : q_K := (c_push (-2) (c_iret post))
def k_X10_end_45 (post : Option Value → q_S → Prop) (K : Nat → q_K) : q_K := (c_iret post)
def k_X10_end_0 (post : Option Value → q_S → Prop) (K : Nat → q_K) : q_K := (c_aload 0 (c_iload 1 (c_call2 (some 10) s_X10_workAt 0 0 (c_astore 3 (c_aload 3 (c_ifnull (k_X10_end_18 post K) (c_aload 3 (c_iload 2 (c_call2 none s_X10_isDayOf 0 0 (c_ifne (c_aload 0 (c_get 10 3 (c_aload 3 (c_iload 2 (c_call3 (some 1) s_X1_endKnownAt 0 0 (c_istore 4 (c_iload 4 (c_push 2147483647 (c_icne (c_iload 4 (k_X10_end_45 post K)) (c_push (-1) (k_X10_end_45 post K))))))))))) (k_X10_end_18 post K)))))))))))
set_option maxRecDepth 100000 in
theorem v_X10_end_18 {p : Program} {l : Launch} {e : Env} {s : State} {m : MethodId} {args : Array Value} {below : List Frame} {meth : Method} {c : Code} {D : va_G} {A : Nat → Prop} {post : Option Value → q_S → Prop} {K : Nat → q_K} (C : q_C p s m args meth c cX10_end 5 RX10 "end" (some .int) A) (hK : ∀ h ∈ ([] : List Nat), q_V p l e rm_X10_end s m args below meth c D A 5 (MQ below (q_Qc D A post) args s rm_X10_end.cells rm_X10_end.slots A) h (K h)) : q_V p l e rm_X10_end s m args below meth c D A 5 (MQ below (q_Qc D A post) args s rm_X10_end.cells rm_X10_end.slots A) 18 (k_X10_end_18 post K) := by
  unfold k_X10_end_18
  refine q_bipush C (by decide +kernel : decode cX10_end 18 = .ok (.bipush (-2), 2)) (by decide) ?_
  exact q_iret C rfl (by decide +kernel : decode cX10_end 20 = .ok (.ireturn, 1))
set_option maxRecDepth 100000 in
theorem v_X10_end_45 {p : Program} {l : Launch} {e : Env} {s : State} {m : MethodId} {args : Array Value} {below : List Frame} {meth : Method} {c : Code} {D : va_G} {A : Nat → Prop} {post : Option Value → q_S → Prop} {K : Nat → q_K} (C : q_C p s m args meth c cX10_end 5 RX10 "end" (some .int) A) (hK : ∀ h ∈ ([] : List Nat), q_V p l e rm_X10_end s m args below meth c D A 5 (MQ below (q_Qc D A post) args s rm_X10_end.cells rm_X10_end.slots A) h (K h)) : q_V p l e rm_X10_end s m args below meth c D A 5 (MQ below (q_Qc D A post) args s rm_X10_end.cells rm_X10_end.slots A) 45 (k_X10_end_45 post K) := by
  unfold k_X10_end_45
  exact q_iret C rfl (by decide +kernel : decode cX10_end 45 = .ok (.ireturn, 1))
set_option maxRecDepth 100000 in
theorem v_X10_end_0 {p : Program} {l : Launch} {e : Env} {s : State} {m : MethodId} {args : Array Value} {below : List Frame} {meth : Method} {c : Code} {D : va_G} {A : Nat → Prop} {post : Option Value → q_S → Prop} {K : Nat → q_K} (C : q_C p s m args meth c cX10_end 5 RX10 "end" (some .int) A) (hK : ∀ h ∈ ([] : List Nat), q_V p l e rm_X10_end s m args below meth c D A 5 (MQ below (q_Qc D A post) args s rm_X10_end.cells rm_X10_end.slots A) h (K h)) : q_V p l e rm_X10_end s m args below meth c D A 5 (MQ below (q_Qc D A post) args s rm_X10_end.cells rm_X10_end.slots A) 0 (k_X10_end_0 post K) := by
  unfold k_X10_end_0
  refine q_aload_n C (by decide +kernel : decode cX10_end 0 = .ok (.aload_n 0, 1)) ?_
  refine q_iload_n C (by decide +kernel : decode cX10_end 1 = .ok (.iload_n 1, 1)) ?_
  refine q_call2 C (q_coV C (np := 1) (ci := 10) (rc := (RX10, TX10, 10)) (t_X10_workAt l) w9_337 rfl rfl w9_338 w9_339 w9_340 w9_1 (by decide +kernel) (by decide +kernel : decode cX10_end 2 = .ok (.invokevirtual 87, 3)) (by decide)) ?_
  refine q_astore_n C (by decide +kernel : decode cX10_end 5 = .ok (.astore_n 3, 1)) ?_
  refine q_aload_n C (by decide +kernel : decode cX10_end 6 = .ok (.aload_n 3, 1)) ?_
  refine q_ifnull C (tgt := 18) (by decide +kernel : decode cX10_end 7 = .ok (.ifnull 11, 3)) (by decide) ?_ ?_
  · exact v_X10_end_18 C hK
  · refine q_aload_n C (by decide +kernel : decode cX10_end 10 = .ok (.aload_n 3, 1)) ?_
    refine q_iload_n C (by decide +kernel : decode cX10_end 11 = .ok (.iload_n 2, 1)) ?_
    refine q_call2 C (q_coS C (np := 2) (t_X10_isDayOf l) w9_400 w9_402 w9_401 w9_1 (by decide +kernel) (by decide +kernel : decode cX10_end 12 = .ok (.invokestatic 126, 3)) (by decide)) ?_
    refine q_ifne C (tgt := 21) (by decide +kernel : decode cX10_end 15 = .ok (.ifCond .ne 6, 3)) (by decide) ?_ ?_
    · refine q_aload_n C (by decide +kernel : decode cX10_end 21 = .ok (.aload_n 0, 1)) ?_
      refine q_get C (ci := 10) (j := 3) (C0 := RX10) (T := TX10) (N := 10) rfl iX10 giX10 (by decide) w9_321 (by decide +kernel : decode cX10_end 22 = .ok (.getfield 27, 3)) ?_
      refine q_aload_n C (by decide +kernel : decode cX10_end 25 = .ok (.aload_n 3, 1)) ?_
      refine q_iload_n C (by decide +kernel : decode cX10_end 26 = .ok (.iload_n 2, 1)) ?_
      refine q_call3 C (q_coV C (np := 2) (ci := 1) (rc := (RX1, TX1, 2)) (t_X1_endKnownAt l) w9_285 rfl rfl w9_403 w9_287 w9_288 w9_255 (by decide +kernel) (by decide +kernel : decode cX10_end 27 = .ok (.invokevirtual 130, 3)) (by decide)) ?_
      refine q_istore C (by decide +kernel : decode cX10_end 30 = .ok (.istore 4, 2)) ?_
      refine q_iload C (by decide +kernel : decode cX10_end 32 = .ok (.iload 4, 2)) ?_
      refine q_ldc C (by decide +kernel : decode cX10_end 34 = .ok (.ldc 134, 2)) w9_404 ?_
      refine q_icne C (tgt := 43) (by decide +kernel : decode cX10_end 36 = .ok (.if_icmp .ne 7, 3)) (by decide) ?_ ?_
      · refine q_iload C (by decide +kernel : decode cX10_end 43 = .ok (.iload 4, 2)) ?_
        exact v_X10_end_45 C hK
      · refine q_iconst C (by decide +kernel : decode cX10_end 39 = .ok (.iconst (-1), 1)) (by decide) ?_
        refine q_goto C (tgt := 45) (by decide +kernel : decode cX10_end 40 = .ok (.goto 5, 3)) (by decide) ?_
        exact v_X10_end_45 C hK
    · exact v_X10_end_18 C hK
theorem u_X10_end (l : Launch) {sp : q_Sp} (H : ∀ (av : List Value) (σ : q_S) (post : Option Value → q_S → Prop), sp av σ post → k_X10_end_0 post (fun _ _ _ _ _ _ => False) (q_L0 av 5) [] σ 0 0 ∧ av.length ≤ 5 ∧ ∀ v ∈ av, v.category = 1) : q_Ct l yX10_end cX10_end 5 (some .int) rm_X10_end sp := by
  refine q_met (by decide) ?_
  intro D A p e s m args below meth c σ av post C hsp
  obtain ⟨h1, h2, h3⟩ := H av σ post hsp
  exact ⟨_, v_X10_end_0 (K := fun _ _ _ _ _ _ => False) C (fun h hh => by cases hh), h1, h2, h3⟩
theorem t_X10_end (l : Launch) : q_Ct l yX10_end cX10_end 5 (some .int) rm_X10_end s_X10_end := u_X10_end l (by
  intro av σ post h
  unfold s_X10_end at h
  split at h
  · next r w k =>
    refine ⟨?_, by simp, by simp [Value.category]⟩
    obtain ⟨z, g, hR, hI, hEN, hAB, hDB, hAU, h1⟩ := h
    have h2 := h1 _ hR
    clear h1
    obtain ⟨Rg, P, AC, AR, WK, LC, CL, CM, CP, pa, aa, wa, sa, ga, la, lra, lc, lrn, hD⟩ := hR
    have e1 := hD.p1.2
    have e4 := hD.p4.1.2
    have o1 : q_oc σ r = some 10 := by simp only [q_oc, e1]
    have f3 : q_fld σ r 10 3 = some (.ref AC) := by simp only [q_fld, e1, if_true]; rfl
    have o3 : q_oc σ AC = some 1 := by simp only [q_oc, hD.p3.1.2]
    have h20 := hI.n20
    unfold F_end at h2
    by_cases ca : 0 ≤ w ∧ w < z 11
    · have hlw : w.toNatClampNeg < nwF z := ltN ca.1 ca.2
      have w1 := (hD.p4.2 _ hlw).2
      obtain ⟨lr, hW, hl⟩ := hD.wk hAU hlw
      by_cases ck : g 13 w.toNatClampNeg ≤ k ∧ k ≤ 3000
      · rw [if_pos ⟨ca, ck⟩] at h2
        obtain ⟨-, r1, r2⟩ := prC_rel (k := k) (t := 0) hI hEN hAB hDB hAU hlw hl (by decide)
        simp only [c_push, c_null, c_iload, c_aload, c_istore, c_astore, c_iinc, c_iadd, c_isub, c_imul, c_iand, c_ineg, c_dup, c_dup2, c_pop, c_ifnull, c_ifnonnull, c_get, c_put, c_iald, c_zald, c_iast, c_zast, c_aald, c_aast, c_alen, c_new, c_newa, c_newq, c_mna, c_oinit, c_max, c_copy, c_iret, c_zret, c_aret, c_vret, q_do, q_rc, c_ifeq, c_ifne, c_iflt, c_ifge, c_ifgt, c_ifle, c_iceq, c_icne, c_iclt, c_icge, c_icgt, c_icle, c_call0, c_call1, c_call2, c_call3, c_call4, c_call5, c_call6, c_call7, q_L0, List.map_cons, List.map_nil, List.replicate, List.cons_append, List.nil_append, List.append_nil, List.length_cons, List.length_nil, List.length_set, Nat.reduceSub, Nat.reduceAdd, Nat.reduceLT, Nat.reduceLeDiff, Nat.zero_add, Nat.add_zero, Nat.sub_zero, Nat.sub_self, List.getElem?_cons_zero, List.getElem?_cons_succ, List.set_cons_zero, List.set_cons_succ, Option.toList_some, Option.toList_none, List.sum_cons, List.sum_nil, true_and, and_true, true_or, or_true, Nat.le_refl, Nat.zero_le, Value.category, Fin.isValue, Fin.val_zero, Fin.val_one, Fin.val_two, Fin.reduceFinMk, q_10, q_01, not_false_eq_true, not_true_eq_false, forall_const, true_implies, false_implies, implies_true, q_ni, q_fi, q_nb0, q_nb1, q_fb0, q_fb1, q_nor, q_nar, q_for, q_far, q_non, q_nan, q_fon, q_fan, imp_false, false_and, and_false, and_self, false_or, or_false, va_rf, refKind, k_X10_end_0, k_X10_end_18, k_X10_end_45, o1, f3, o3, wAt e1 e4 hI.2.2.2.1, ca, ck, s_X10_isDayOf, w1]
        refine ⟨_, _, _, _, _, _, _, _, hD.p3, hW, ?_⟩
        rw [r2]
        simp only [c_push, c_null, c_iload, c_aload, c_istore, c_astore, c_iinc, c_iadd, c_isub, c_imul, c_iand, c_ineg, c_dup, c_dup2, c_pop, c_ifnull, c_ifnonnull, c_get, c_put, c_iald, c_zald, c_iast, c_zast, c_aald, c_aast, c_alen, c_new, c_newa, c_newq, c_mna, c_oinit, c_max, c_copy, c_iret, c_zret, c_aret, c_vret, q_do, q_rc, c_ifeq, c_ifne, c_iflt, c_ifge, c_ifgt, c_ifle, c_iceq, c_icne, c_iclt, c_icge, c_icgt, c_icle, c_call0, c_call1, c_call2, c_call3, c_call4, c_call5, c_call6, c_call7, q_L0, List.map_cons, List.map_nil, List.replicate, List.cons_append, List.nil_append, List.append_nil, List.length_cons, List.length_nil, List.length_set, Nat.reduceSub, Nat.reduceAdd, Nat.reduceLT, Nat.reduceLeDiff, Nat.zero_add, Nat.add_zero, Nat.sub_zero, Nat.sub_self, List.getElem?_cons_zero, List.getElem?_cons_succ, List.set_cons_zero, List.set_cons_succ, Option.toList_some, Option.toList_none, List.sum_cons, List.sum_nil, true_and, and_true, true_or, or_true, Nat.le_refl, Nat.zero_le, Value.category, Fin.isValue, Fin.val_zero, Fin.val_one, Fin.val_two, Fin.reduceFinMk, q_10, q_01, not_false_eq_true, not_true_eq_false, forall_const, true_implies, false_implies, implies_true, q_ni, q_fi, q_nb0, q_nb1, q_fb0, q_fb1, q_nor, q_nar, q_for, q_far, q_non, q_nan, q_fon, q_fan, imp_false, false_and, and_false, and_self, false_or, or_false, va_rf, refKind]
        unfold okE at r1
        unfold toC
        generalize (EF z g w.toNatClampNeg k 0).1 = x at *
        clear r2
        by_cases cx : x = 1000000
        · rw [if_pos cx] at h2 ⊢
          exact ⟨fun c => absurd rfl c, fun _ => h2⟩
        · rw [if_neg cx] at h2 ⊢
          exact ⟨fun _ => h2, fun c => by grind⟩
      · rw [if_neg (fun h => ck h.2)] at h2
        simp only [c_push, c_null, c_iload, c_aload, c_istore, c_astore, c_iinc, c_iadd, c_isub, c_imul, c_iand, c_ineg, c_dup, c_dup2, c_pop, c_ifnull, c_ifnonnull, c_get, c_put, c_iald, c_zald, c_iast, c_zast, c_aald, c_aast, c_alen, c_new, c_newa, c_newq, c_mna, c_oinit, c_max, c_copy, c_iret, c_zret, c_aret, c_vret, q_do, q_rc, c_ifeq, c_ifne, c_iflt, c_ifge, c_ifgt, c_ifle, c_iceq, c_icne, c_iclt, c_icge, c_icgt, c_icle, c_call0, c_call1, c_call2, c_call3, c_call4, c_call5, c_call6, c_call7, q_L0, List.map_cons, List.map_nil, List.replicate, List.cons_append, List.nil_append, List.append_nil, List.length_cons, List.length_nil, List.length_set, Nat.reduceSub, Nat.reduceAdd, Nat.reduceLT, Nat.reduceLeDiff, Nat.zero_add, Nat.add_zero, Nat.sub_zero, Nat.sub_self, List.getElem?_cons_zero, List.getElem?_cons_succ, List.set_cons_zero, List.set_cons_succ, Option.toList_some, Option.toList_none, List.sum_cons, List.sum_nil, true_and, and_true, true_or, or_true, Nat.le_refl, Nat.zero_le, Value.category, Fin.isValue, Fin.val_zero, Fin.val_one, Fin.val_two, Fin.reduceFinMk, q_10, q_01, not_false_eq_true, not_true_eq_false, forall_const, true_implies, false_implies, implies_true, q_ni, q_fi, q_nb0, q_nb1, q_fb0, q_fb1, q_nor, q_nar, q_for, q_far, q_non, q_nan, q_fon, q_fan, imp_false, false_and, and_false, and_self, false_or, or_false, va_rf, refKind, k_X10_end_0, k_X10_end_18, k_X10_end_45, o1, f3, o3, wAt e1 e4 hI.2.2.2.1, ca, ck, s_X10_isDayOf, w1, h2]
    · rw [if_neg (fun h => ca h.1)] at h2
      simp only [c_push, c_null, c_iload, c_aload, c_istore, c_astore, c_iinc, c_iadd, c_isub, c_imul, c_iand, c_ineg, c_dup, c_dup2, c_pop, c_ifnull, c_ifnonnull, c_get, c_put, c_iald, c_zald, c_iast, c_zast, c_aald, c_aast, c_alen, c_new, c_newa, c_newq, c_mna, c_oinit, c_max, c_copy, c_iret, c_zret, c_aret, c_vret, q_do, q_rc, c_ifeq, c_ifne, c_iflt, c_ifge, c_ifgt, c_ifle, c_iceq, c_icne, c_iclt, c_icge, c_icgt, c_icle, c_call0, c_call1, c_call2, c_call3, c_call4, c_call5, c_call6, c_call7, q_L0, List.map_cons, List.map_nil, List.replicate, List.cons_append, List.nil_append, List.append_nil, List.length_cons, List.length_nil, List.length_set, Nat.reduceSub, Nat.reduceAdd, Nat.reduceLT, Nat.reduceLeDiff, Nat.zero_add, Nat.add_zero, Nat.sub_zero, Nat.sub_self, List.getElem?_cons_zero, List.getElem?_cons_succ, List.set_cons_zero, List.set_cons_succ, Option.toList_some, Option.toList_none, List.sum_cons, List.sum_nil, true_and, and_true, true_or, or_true, Nat.le_refl, Nat.zero_le, Value.category, Fin.isValue, Fin.val_zero, Fin.val_one, Fin.val_two, Fin.reduceFinMk, q_10, q_01, not_false_eq_true, not_true_eq_false, forall_const, true_implies, false_implies, implies_true, q_ni, q_fi, q_nb0, q_nb1, q_fb0, q_fb1, q_nor, q_nar, q_for, q_far, q_non, q_nan, q_fon, q_fan, imp_false, false_and, and_false, and_self, false_or, or_false, va_rf, refKind, k_X10_end_0, k_X10_end_18, k_X10_end_45, o1, f3, o3, wAt e1 e4 hI.2.2.2.1, ca, h2]
  · exact h.elim)
def s_X10_inRight : q_Sp := fun av σ post => match av with
  | [.ref r, .int w, .int t, .int k] => ∃ z g, RegOK σ r z g ∧ I1 z ∧ EN z g ∧ AB z g ∧ DB z g ∧ AU2 z g ∧ ∀ σ', RegOK σ' r z g → post (some (.int (F_inRight z g w t k))) σ'
  | _ => False
theorem w9_405 : (.code yX1_protect cX1_protect 4 (some .boolean) : Cond) ∈ lw_tbl := by decide +kernel
theorem w9_406 : (.methodLink RX10 135 yX1_protect : Cond) ∈ lw_tbl := by decide +kernel
theorem w9_407 : (.instanceMethod yX1_protect : Cond) ∈ lw_tbl := by decide +kernel
theorem w9_408 : (.selects RX1 yX1_protect yX1_protect : Cond) ∈ lw_tbl := by decide +kernel
def rm_X10_inRight : Room := { frames := 6, cells := 0, slots := 0, locals := 139 }
def k_X10_inRight_28 (post : Option Value → q_S → Prop) (K : Nat → q_K) : q_K := (c_push (-2) (c_iret post))
def k_X10_inRight_0 (post : Option Value → q_S → Prop) (K : Nat → q_K) : q_K := (c_aload 0 (c_iload 1 (c_call2 (some 10) s_X10_workAt 0 0 (c_astore 4 (c_aload 4 (c_ifnull (k_X10_inRight_28 post K) (c_iload 2 (c_call1 none s_X10_isDay 0 0 (c_ifeq (k_X10_inRight_28 post K) (c_aload 4 (c_iload 3 (c_call2 none s_X10_isDayOf 0 0 (c_ifne (c_aload 0 (c_get 10 3 (c_aload 4 (c_iload 2 (c_iload 3 (c_call4 (some 1) s_X1_protect 0 0 (c_call1 none s_X10_oneIf 0 0 (c_iret post)))))))) (k_X10_inRight_28 post K))))))))))))))
set_option maxRecDepth 100000 in
theorem v_X10_inRight_28 {p : Program} {l : Launch} {e : Env} {s : State} {m : MethodId} {args : Array Value} {below : List Frame} {meth : Method} {c : Code} {D : va_G} {A : Nat → Prop} {post : Option Value → q_S → Prop} {K : Nat → q_K} (C : q_C p s m args meth c cX10_inRight 5 RX10 "inRight" (some .int) A) (hK : ∀ h ∈ ([] : List Nat), q_V p l e rm_X10_inRight s m args below meth c D A 5 (MQ below (q_Qc D A post) args s rm_X10_inRight.cells rm_X10_inRight.slots A) h (K h)) : q_V p l e rm_X10_inRight s m args below meth c D A 5 (MQ below (q_Qc D A post) args s rm_X10_inRight.cells rm_X10_inRight.slots A) 28 (k_X10_inRight_28 post K) := by
  unfold k_X10_inRight_28
  refine q_bipush C (by decide +kernel : decode cX10_inRight 28 = .ok (.bipush (-2), 2)) (by decide) ?_
  exact q_iret C rfl (by decide +kernel : decode cX10_inRight 30 = .ok (.ireturn, 1))
set_option maxRecDepth 100000 in
theorem v_X10_inRight_0 {p : Program} {l : Launch} {e : Env} {s : State} {m : MethodId} {args : Array Value} {below : List Frame} {meth : Method} {c : Code} {D : va_G} {A : Nat → Prop} {post : Option Value → q_S → Prop} {K : Nat → q_K} (C : q_C p s m args meth c cX10_inRight 5 RX10 "inRight" (some .int) A) (hK : ∀ h ∈ ([] : List Nat), q_V p l e rm_X10_inRight s m args below meth c D A 5 (MQ below (q_Qc D A post) args s rm_X10_inRight.cells rm_X10_inRight.slots A) h (K h)) : q_V p l e rm_X10_inRight s m args below meth c D A 5 (MQ below (q_Qc D A post) args s rm_X10_inRight.cells rm_X10_inRight.slots A) 0 (k_X10_inRight_0 post K) := by
  unfold k_X10_inRight_0
  refine q_aload_n C (by decide +kernel : decode cX10_inRight 0 = .ok (.aload_n 0, 1)) ?_
  refine q_iload_n C (by decide +kernel : decode cX10_inRight 1 = .ok (.iload_n 1, 1)) ?_
  refine q_call2 C (q_coV C (np := 1) (ci := 10) (rc := (RX10, TX10, 10)) (t_X10_workAt l) w9_337 rfl rfl w9_338 w9_339 w9_340 w9_1 (by decide +kernel) (by decide +kernel : decode cX10_inRight 2 = .ok (.invokevirtual 87, 3)) (by decide)) ?_
  refine q_astore C (by decide +kernel : decode cX10_inRight 5 = .ok (.astore 4, 2)) ?_
  refine q_aload C (by decide +kernel : decode cX10_inRight 7 = .ok (.aload 4, 2)) ?_
  refine q_ifnull C (tgt := 28) (by decide +kernel : decode cX10_inRight 9 = .ok (.ifnull 19, 3)) (by decide) ?_ ?_
  · exact v_X10_inRight_28 C hK
  · refine q_iload_n C (by decide +kernel : decode cX10_inRight 12 = .ok (.iload_n 2, 1)) ?_
    refine q_call1 C (q_coS C (np := 1) (t_X10_isDay l) w9_329 w9_331 w9_330 w9_1 (by decide +kernel) (by decide +kernel : decode cX10_inRight 13 = .ok (.invokestatic 101, 3)) (by decide)) ?_
    refine q_ifeq C (tgt := 28) (by decide +kernel : decode cX10_inRight 16 = .ok (.ifCond .eq 12, 3)) (by decide) ?_ ?_
    · exact v_X10_inRight_28 C hK
    · refine q_aload C (by decide +kernel : decode cX10_inRight 19 = .ok (.aload 4, 2)) ?_
      refine q_iload_n C (by decide +kernel : decode cX10_inRight 21 = .ok (.iload_n 3, 1)) ?_
      refine q_call2 C (q_coS C (np := 2) (t_X10_isDayOf l) w9_400 w9_402 w9_401 w9_1 (by decide +kernel) (by decide +kernel : decode cX10_inRight 22 = .ok (.invokestatic 126, 3)) (by decide)) ?_
      refine q_ifne C (tgt := 31) (by decide +kernel : decode cX10_inRight 25 = .ok (.ifCond .ne 6, 3)) (by decide) ?_ ?_
      · refine q_aload_n C (by decide +kernel : decode cX10_inRight 31 = .ok (.aload_n 0, 1)) ?_
        refine q_get C (ci := 10) (j := 3) (C0 := RX10) (T := TX10) (N := 10) rfl iX10 giX10 (by decide) w9_321 (by decide +kernel : decode cX10_inRight 32 = .ok (.getfield 27, 3)) ?_
        refine q_aload C (by decide +kernel : decode cX10_inRight 35 = .ok (.aload 4, 2)) ?_
        refine q_iload_n C (by decide +kernel : decode cX10_inRight 37 = .ok (.iload_n 2, 1)) ?_
        refine q_iload_n C (by decide +kernel : decode cX10_inRight 38 = .ok (.iload_n 3, 1)) ?_
        refine q_call4 C (q_coV C (np := 3) (ci := 1) (rc := (RX1, TX1, 2)) (t_X1_protect l) w9_405 rfl rfl w9_406 w9_407 w9_408 w9_255 (by decide +kernel) (by decide +kernel : decode cX10_inRight 39 = .ok (.invokevirtual 135, 3)) (by decide)) ?_
        refine q_call1 C (q_coS C (np := 1) (t_X10_oneIf l) w9_158 w9_351 w9_159 w9_1 (by decide +kernel) (by decide +kernel : decode cX10_inRight 42 = .ok (.invokestatic 139, 3)) (by decide)) ?_
        exact q_iret C rfl (by decide +kernel : decode cX10_inRight 45 = .ok (.ireturn, 1))
      · exact v_X10_inRight_28 C hK
theorem u_X10_inRight (l : Launch) {sp : q_Sp} (H : ∀ (av : List Value) (σ : q_S) (post : Option Value → q_S → Prop), sp av σ post → k_X10_inRight_0 post (fun _ _ _ _ _ _ => False) (q_L0 av 5) [] σ 0 0 ∧ av.length ≤ 5 ∧ ∀ v ∈ av, v.category = 1) : q_Ct l yX10_inRight cX10_inRight 5 (some .int) rm_X10_inRight sp := by
  refine q_met (by decide) ?_
  intro D A p e s m args below meth c σ av post C hsp
  obtain ⟨h1, h2, h3⟩ := H av σ post hsp
  exact ⟨_, v_X10_inRight_0 (K := fun _ _ _ _ _ _ => False) C (fun h hh => by cases hh), h1, h2, h3⟩
theorem t_X10_inRight (l : Launch) : q_Ct l yX10_inRight cX10_inRight 5 (some .int) rm_X10_inRight s_X10_inRight := u_X10_inRight l (by
  intro av σ post h
  unfold s_X10_inRight at h
  split at h
  · next r w t k =>
    refine ⟨?_, by simp, by simp [Value.category]⟩
    obtain ⟨z, g, hR, hI, hEN, hAB, hDB, hAU, h1⟩ := h
    have h2 := h1 _ hR
    clear h1
    obtain ⟨Rg, P, AC, AR, WK, LC, CL, CM, CP, pa, aa, wa, sa, ga, la, lra, lc, lrn, hD⟩ := hR
    have e1 := hD.p1.2
    have e4 := hD.p4.1.2
    have o1 : q_oc σ r = some 10 := by simp only [q_oc, e1]
    have f3 : q_fld σ r 10 3 = some (.ref AC) := by simp only [q_fld, e1, if_true]; rfl
    have o3 : q_oc σ AC = some 1 := by simp only [q_oc, hD.p3.1.2]
    have h20 := hI.n20
    unfold F_inRight at h2
    by_cases ca : 0 ≤ w ∧ w < z 11
    · have hlw : w.toNatClampNeg < nwF z := ltN ca.1 ca.2
      have w1 := (hD.p4.2 _ hlw).2
      obtain ⟨lr, hW, hl⟩ := hD.wk hAU hlw
      by_cases ct : 0 ≤ t ∧ t ≤ 3000
      · by_cases ck : g 13 w.toNatClampNeg ≤ k ∧ k ≤ 3000
        · rw [if_pos ⟨ca, ct, ck⟩] at h2
          obtain ⟨r1, -⟩ := prC_rel (k := k) (t := t) hI hEN hAB hDB hAU hlw hl ct.2
          simp only [c_push, c_null, c_iload, c_aload, c_istore, c_astore, c_iinc, c_iadd, c_isub, c_imul, c_iand, c_ineg, c_dup, c_dup2, c_pop, c_ifnull, c_ifnonnull, c_get, c_put, c_iald, c_zald, c_iast, c_zast, c_aald, c_aast, c_alen, c_new, c_newa, c_newq, c_mna, c_oinit, c_max, c_copy, c_iret, c_zret, c_aret, c_vret, q_do, q_rc, c_ifeq, c_ifne, c_iflt, c_ifge, c_ifgt, c_ifle, c_iceq, c_icne, c_iclt, c_icge, c_icgt, c_icle, c_call0, c_call1, c_call2, c_call3, c_call4, c_call5, c_call6, c_call7, q_L0, List.map_cons, List.map_nil, List.replicate, List.cons_append, List.nil_append, List.append_nil, List.length_cons, List.length_nil, List.length_set, Nat.reduceSub, Nat.reduceAdd, Nat.reduceLT, Nat.reduceLeDiff, Nat.zero_add, Nat.add_zero, Nat.sub_zero, Nat.sub_self, List.getElem?_cons_zero, List.getElem?_cons_succ, List.set_cons_zero, List.set_cons_succ, Option.toList_some, Option.toList_none, List.sum_cons, List.sum_nil, true_and, and_true, true_or, or_true, Nat.le_refl, Nat.zero_le, Value.category, Fin.isValue, Fin.val_zero, Fin.val_one, Fin.val_two, Fin.reduceFinMk, q_10, q_01, not_false_eq_true, not_true_eq_false, forall_const, true_implies, false_implies, implies_true, q_ni, q_fi, q_nb0, q_nb1, q_fb0, q_fb1, q_nor, q_nar, q_for, q_far, q_non, q_nan, q_fon, q_fan, imp_false, false_and, and_false, and_self, false_or, or_false, va_rf, refKind, k_X10_inRight_0, k_X10_inRight_28, o1, f3, o3, wAt e1 e4 hI.2.2.2.1, ca, ct, ck, s_X10_isDayOf, s_X10_isDay, w1]
          refine ⟨_, _, _, _, _, _, _, _, hD.p3, hW, fun c => ?_, fun c => ?_⟩
          · rw [if_pos (r1.mp c)] at h2
            simp only [c_push, c_null, c_iload, c_aload, c_istore, c_astore, c_iinc, c_iadd, c_isub, c_imul, c_iand, c_ineg, c_dup, c_dup2, c_pop, c_ifnull, c_ifnonnull, c_get, c_put, c_iald, c_zald, c_iast, c_zast, c_aald, c_aast, c_alen, c_new, c_newa, c_newq, c_mna, c_oinit, c_max, c_copy, c_iret, c_zret, c_aret, c_vret, q_do, q_rc, c_ifeq, c_ifne, c_iflt, c_ifge, c_ifgt, c_ifle, c_iceq, c_icne, c_iclt, c_icge, c_icgt, c_icle, c_call0, c_call1, c_call2, c_call3, c_call4, c_call5, c_call6, c_call7, q_L0, List.map_cons, List.map_nil, List.replicate, List.cons_append, List.nil_append, List.append_nil, List.length_cons, List.length_nil, List.length_set, Nat.reduceSub, Nat.reduceAdd, Nat.reduceLT, Nat.reduceLeDiff, Nat.zero_add, Nat.add_zero, Nat.sub_zero, Nat.sub_self, List.getElem?_cons_zero, List.getElem?_cons_succ, List.set_cons_zero, List.set_cons_succ, Option.toList_some, Option.toList_none, List.sum_cons, List.sum_nil, true_and, and_true, true_or, or_true, Nat.le_refl, Nat.zero_le, Value.category, Fin.isValue, Fin.val_zero, Fin.val_one, Fin.val_two, Fin.reduceFinMk, q_10, q_01, not_false_eq_true, not_true_eq_false, forall_const, true_implies, false_implies, implies_true, q_ni, q_fi, q_nb0, q_nb1, q_fb0, q_fb1, q_nor, q_nar, q_for, q_far, q_non, q_nan, q_fon, q_fan, imp_false, false_and, and_false, and_self, false_or, or_false, va_rf, refKind, s_X10_oneIf]
            exact h2
          · rw [if_neg (fun h => c (r1.mpr h))] at h2
            simp only [c_push, c_null, c_iload, c_aload, c_istore, c_astore, c_iinc, c_iadd, c_isub, c_imul, c_iand, c_ineg, c_dup, c_dup2, c_pop, c_ifnull, c_ifnonnull, c_get, c_put, c_iald, c_zald, c_iast, c_zast, c_aald, c_aast, c_alen, c_new, c_newa, c_newq, c_mna, c_oinit, c_max, c_copy, c_iret, c_zret, c_aret, c_vret, q_do, q_rc, c_ifeq, c_ifne, c_iflt, c_ifge, c_ifgt, c_ifle, c_iceq, c_icne, c_iclt, c_icge, c_icgt, c_icle, c_call0, c_call1, c_call2, c_call3, c_call4, c_call5, c_call6, c_call7, q_L0, List.map_cons, List.map_nil, List.replicate, List.cons_append, List.nil_append, List.append_nil, List.length_cons, List.length_nil, List.length_set, Nat.reduceSub, Nat.reduceAdd, Nat.reduceLT, Nat.reduceLeDiff, Nat.zero_add, Nat.add_zero, Nat.sub_zero, Nat.sub_self, List.getElem?_cons_zero, List.getElem?_cons_succ, List.set_cons_zero, List.set_cons_succ, Option.toList_some, Option.toList_none, List.sum_cons, List.sum_nil, true_and, and_true, true_or, or_true, Nat.le_refl, Nat.zero_le, Value.category, Fin.isValue, Fin.val_zero, Fin.val_one, Fin.val_two, Fin.reduceFinMk, q_10, q_01, not_false_eq_true, not_true_eq_false, forall_const, true_implies, false_implies, implies_true, q_ni, q_fi, q_nb0, q_nb1, q_fb0, q_fb1, q_nor, q_nar, q_for, q_far, q_non, q_nan, q_fon, q_fan, imp_false, false_and, and_false, and_self, false_or, or_false, va_rf, refKind, s_X10_oneIf]
            exact h2
        · rw [if_neg (fun h => ck h.2.2)] at h2
          simp only [c_push, c_null, c_iload, c_aload, c_istore, c_astore, c_iinc, c_iadd, c_isub, c_imul, c_iand, c_ineg, c_dup, c_dup2, c_pop, c_ifnull, c_ifnonnull, c_get, c_put, c_iald, c_zald, c_iast, c_zast, c_aald, c_aast, c_alen, c_new, c_newa, c_newq, c_mna, c_oinit, c_max, c_copy, c_iret, c_zret, c_aret, c_vret, q_do, q_rc, c_ifeq, c_ifne, c_iflt, c_ifge, c_ifgt, c_ifle, c_iceq, c_icne, c_iclt, c_icge, c_icgt, c_icle, c_call0, c_call1, c_call2, c_call3, c_call4, c_call5, c_call6, c_call7, q_L0, List.map_cons, List.map_nil, List.replicate, List.cons_append, List.nil_append, List.append_nil, List.length_cons, List.length_nil, List.length_set, Nat.reduceSub, Nat.reduceAdd, Nat.reduceLT, Nat.reduceLeDiff, Nat.zero_add, Nat.add_zero, Nat.sub_zero, Nat.sub_self, List.getElem?_cons_zero, List.getElem?_cons_succ, List.set_cons_zero, List.set_cons_succ, Option.toList_some, Option.toList_none, List.sum_cons, List.sum_nil, true_and, and_true, true_or, or_true, Nat.le_refl, Nat.zero_le, Value.category, Fin.isValue, Fin.val_zero, Fin.val_one, Fin.val_two, Fin.reduceFinMk, q_10, q_01, not_false_eq_true, not_true_eq_false, forall_const, true_implies, false_implies, implies_true, q_ni, q_fi, q_nb0, q_nb1, q_fb0, q_fb1, q_nor, q_nar, q_for, q_far, q_non, q_nan, q_fon, q_fan, imp_false, false_and, and_false, and_self, false_or, or_false, va_rf, refKind, k_X10_inRight_0, k_X10_inRight_28, o1, f3, o3, wAt e1 e4 hI.2.2.2.1, ca, ct, ck, s_X10_isDayOf, s_X10_isDay, w1, h2]
      · rw [if_neg (fun h => ct h.2.1)] at h2
        simp only [c_push, c_null, c_iload, c_aload, c_istore, c_astore, c_iinc, c_iadd, c_isub, c_imul, c_iand, c_ineg, c_dup, c_dup2, c_pop, c_ifnull, c_ifnonnull, c_get, c_put, c_iald, c_zald, c_iast, c_zast, c_aald, c_aast, c_alen, c_new, c_newa, c_newq, c_mna, c_oinit, c_max, c_copy, c_iret, c_zret, c_aret, c_vret, q_do, q_rc, c_ifeq, c_ifne, c_iflt, c_ifge, c_ifgt, c_ifle, c_iceq, c_icne, c_iclt, c_icge, c_icgt, c_icle, c_call0, c_call1, c_call2, c_call3, c_call4, c_call5, c_call6, c_call7, q_L0, List.map_cons, List.map_nil, List.replicate, List.cons_append, List.nil_append, List.append_nil, List.length_cons, List.length_nil, List.length_set, Nat.reduceSub, Nat.reduceAdd, Nat.reduceLT, Nat.reduceLeDiff, Nat.zero_add, Nat.add_zero, Nat.sub_zero, Nat.sub_self, List.getElem?_cons_zero, List.getElem?_cons_succ, List.set_cons_zero, List.set_cons_succ, Option.toList_some, Option.toList_none, List.sum_cons, List.sum_nil, true_and, and_true, true_or, or_true, Nat.le_refl, Nat.zero_le, Value.category, Fin.isValue, Fin.val_zero, Fin.val_one, Fin.val_two, Fin.reduceFinMk, q_10, q_01, not_false_eq_true, not_true_eq_false, forall_const, true_implies, false_implies, implies_true, q_ni, q_fi, q_nb0, q_nb1, q_fb0, q_fb1, q_nor, q_nar, q_for, q_far, q_non, q_nan, q_fon, q_fan, imp_false, false_and, and_false, and_self, false_or, or_false, va_rf, refKind, k_X10_inRight_0, k_X10_inRight_28, o1, f3, o3, wAt e1 e4 hI.2.2.2.1, ca, ct, s_X10_isDayOf, s_X10_isDay, w1, h2]
    · rw [if_neg (fun h => ca h.1)] at h2
      simp only [c_push, c_null, c_iload, c_aload, c_istore, c_astore, c_iinc, c_iadd, c_isub, c_imul, c_iand, c_ineg, c_dup, c_dup2, c_pop, c_ifnull, c_ifnonnull, c_get, c_put, c_iald, c_zald, c_iast, c_zast, c_aald, c_aast, c_alen, c_new, c_newa, c_newq, c_mna, c_oinit, c_max, c_copy, c_iret, c_zret, c_aret, c_vret, q_do, q_rc, c_ifeq, c_ifne, c_iflt, c_ifge, c_ifgt, c_ifle, c_iceq, c_icne, c_iclt, c_icge, c_icgt, c_icle, c_call0, c_call1, c_call2, c_call3, c_call4, c_call5, c_call6, c_call7, q_L0, List.map_cons, List.map_nil, List.replicate, List.cons_append, List.nil_append, List.append_nil, List.length_cons, List.length_nil, List.length_set, Nat.reduceSub, Nat.reduceAdd, Nat.reduceLT, Nat.reduceLeDiff, Nat.zero_add, Nat.add_zero, Nat.sub_zero, Nat.sub_self, List.getElem?_cons_zero, List.getElem?_cons_succ, List.set_cons_zero, List.set_cons_succ, Option.toList_some, Option.toList_none, List.sum_cons, List.sum_nil, true_and, and_true, true_or, or_true, Nat.le_refl, Nat.zero_le, Value.category, Fin.isValue, Fin.val_zero, Fin.val_one, Fin.val_two, Fin.reduceFinMk, q_10, q_01, not_false_eq_true, not_true_eq_false, forall_const, true_implies, false_implies, implies_true, q_ni, q_fi, q_nb0, q_nb1, q_fb0, q_fb1, q_nor, q_nar, q_for, q_far, q_non, q_nan, q_fon, q_fan, imp_false, false_and, and_false, and_self, false_or, or_false, va_rf, refKind, k_X10_inRight_0, k_X10_inRight_28, o1, f3, o3, wAt e1 e4 hI.2.2.2.1, ca, s_X10_isDay, h2]
  · exact h.elim)
def s_X10_may : q_Sp := fun av σ post => match av with
  | [.ref r, .int w, .int u, .int p, .int t, .int k] => ∃ z g, RegOK σ r z g ∧ I1 z ∧ EN z g ∧ AB z g ∧ DB z g ∧ AU2 z g ∧ ∀ σ', RegOK σ' r z g → post (some (.int (F_may z g w u p t k))) σ'
  | _ => False
theorem w9_409 : (.code yX10_isLicensed cX10_isLicensed 7 (some .boolean) : Cond) ∈ lw_tbl := by decide +kernel
theorem w9_410 : (.methodLink RX10 185 yX10_isLicensed : Cond) ∈ lw_tbl := by decide +kernel
theorem w9_411 : (.instanceMethod yX10_isLicensed : Cond) ∈ lw_tbl := by decide +kernel
theorem w9_412 : (.selects RX10 yX10_isLicensed yX10_isLicensed : Cond) ∈ lw_tbl := by decide +kernel
def rm_X10_may : Room := { frames := 6, cells := 0, slots := 0, locals := 139 }
def k_X10_may_56 (post : Option Value → q_S → Prop) (K : Nat → q_K) : q_K := (c_push (-2) (c_iret post))
def k_X10_may_108 (post : Option Value → q_S → Prop) (K : Nat → q_K) : q_K := (c_call1 none s_X10_oneIf 0 0 (c_iret post))
def k_X10_may_103 (post : Option Value → q_S → Prop) (K : Nat → q_K) : q_K := (c_push 1 (k_X10_may_108 post K))
def k_X10_may_0 (post : Option Value → q_S → Prop) (K : Nat → q_K) : q_K := (c_aload 0 (c_iload 1 (c_call2 (some 10) s_X10_workAt 0 0 (c_astore 6 (c_aload 6 (c_ifnull (k_X10_may_56 post K) (c_iload 2 (c_push 0 (c_push 3 (c_call3 none s_X10_isWithin 0 0 (c_ifeq (k_X10_may_56 post K) (c_aload 0 (c_iload 3 (c_call2 (some 10) s_X10_personAt 0 0 (c_ifnull (k_X10_may_56 post K) (c_iload 4 (c_aload 6 (c_get 9 1 (c_aload 0 (c_get 10 0 (c_call3 none s_X10_isWithin 0 0 (c_ifeq (k_X10_may_56 post K) (c_aload 6 (c_iload 5 (c_call2 none s_X10_isDayOf 0 0 (c_ifne (c_aload 0 (c_get 10 3 (c_aload 6 (c_iload 4 (c_iload 5 (c_call4 (some 1) s_X1_protect 0 0 (c_ifeq (k_X10_may_103 post K) (c_aload 6 (c_get 9 2 (c_iload 3 (c_iload 4 (c_call3 (some 8) s_X8_ownedOn 0 0 (c_push 8 (c_icge (k_X10_may_103 post K) (c_aload 0 (c_iload 1 (c_iload 2 (c_iload 3 (c_iload 4 (c_call5 (some 10) s_X10_isLicensed 0 0 (c_ifeq (c_push 0 (k_X10_may_108 post K)) (k_X10_may_103 post K)))))))))))))))))))))) (k_X10_may_56 post K)))))))))))))))))))))))))))
set_option maxRecDepth 100000 in
theorem v_X10_may_56 {p : Program} {l : Launch} {e : Env} {s : State} {m : MethodId} {args : Array Value} {below : List Frame} {meth : Method} {c : Code} {D : va_G} {A : Nat → Prop} {post : Option Value → q_S → Prop} {K : Nat → q_K} (C : q_C p s m args meth c cX10_may 7 RX10 "may" (some .int) A) (hK : ∀ h ∈ ([] : List Nat), q_V p l e rm_X10_may s m args below meth c D A 7 (MQ below (q_Qc D A post) args s rm_X10_may.cells rm_X10_may.slots A) h (K h)) : q_V p l e rm_X10_may s m args below meth c D A 7 (MQ below (q_Qc D A post) args s rm_X10_may.cells rm_X10_may.slots A) 56 (k_X10_may_56 post K) := by
  unfold k_X10_may_56
  refine q_bipush C (by decide +kernel : decode cX10_may 56 = .ok (.bipush (-2), 2)) (by decide) ?_
  exact q_iret C rfl (by decide +kernel : decode cX10_may 58 = .ok (.ireturn, 1))
set_option maxRecDepth 100000 in
theorem v_X10_may_108 {p : Program} {l : Launch} {e : Env} {s : State} {m : MethodId} {args : Array Value} {below : List Frame} {meth : Method} {c : Code} {D : va_G} {A : Nat → Prop} {post : Option Value → q_S → Prop} {K : Nat → q_K} (C : q_C p s m args meth c cX10_may 7 RX10 "may" (some .int) A) (hK : ∀ h ∈ ([] : List Nat), q_V p l e rm_X10_may s m args below meth c D A 7 (MQ below (q_Qc D A post) args s rm_X10_may.cells rm_X10_may.slots A) h (K h)) : q_V p l e rm_X10_may s m args below meth c D A 7 (MQ below (q_Qc D A post) args s rm_X10_may.cells rm_X10_may.slots A) 108 (k_X10_may_108 post K) := by
  unfold k_X10_may_108
  refine q_call1 C (q_coS C (np := 1) (t_X10_oneIf l) w9_158 w9_351 w9_159 w9_1 (by decide +kernel) (by decide +kernel : decode cX10_may 108 = .ok (.invokestatic 139, 3)) (by decide)) ?_
  exact q_iret C rfl (by decide +kernel : decode cX10_may 111 = .ok (.ireturn, 1))
set_option maxRecDepth 100000 in
theorem v_X10_may_103 {p : Program} {l : Launch} {e : Env} {s : State} {m : MethodId} {args : Array Value} {below : List Frame} {meth : Method} {c : Code} {D : va_G} {A : Nat → Prop} {post : Option Value → q_S → Prop} {K : Nat → q_K} (C : q_C p s m args meth c cX10_may 7 RX10 "may" (some .int) A) (hK : ∀ h ∈ ([] : List Nat), q_V p l e rm_X10_may s m args below meth c D A 7 (MQ below (q_Qc D A post) args s rm_X10_may.cells rm_X10_may.slots A) h (K h)) : q_V p l e rm_X10_may s m args below meth c D A 7 (MQ below (q_Qc D A post) args s rm_X10_may.cells rm_X10_may.slots A) 103 (k_X10_may_103 post K) := by
  unfold k_X10_may_103
  refine q_iconst C (by decide +kernel : decode cX10_may 103 = .ok (.iconst 1, 1)) (by decide) ?_
  refine q_goto C (tgt := 108) (by decide +kernel : decode cX10_may 104 = .ok (.goto 4, 3)) (by decide) ?_
  exact v_X10_may_108 C hK
set_option maxRecDepth 100000 in
theorem v_X10_may_0 {p : Program} {l : Launch} {e : Env} {s : State} {m : MethodId} {args : Array Value} {below : List Frame} {meth : Method} {c : Code} {D : va_G} {A : Nat → Prop} {post : Option Value → q_S → Prop} {K : Nat → q_K} (C : q_C p s m args meth c cX10_may 7 RX10 "may" (some .int) A) (hK : ∀ h ∈ ([] : List Nat), q_V p l e rm_X10_may s m args below meth c D A 7 (MQ below (q_Qc D A post) args s rm_X10_may.cells rm_X10_may.slots A) h (K h)) : q_V p l e rm_X10_may s m args below meth c D A 7 (MQ below (q_Qc D A post) args s rm_X10_may.cells rm_X10_may.slots A) 0 (k_X10_may_0 post K) := by
  unfold k_X10_may_0
  refine q_aload_n C (by decide +kernel : decode cX10_may 0 = .ok (.aload_n 0, 1)) ?_
  refine q_iload_n C (by decide +kernel : decode cX10_may 1 = .ok (.iload_n 1, 1)) ?_
  refine q_call2 C (q_coV C (np := 1) (ci := 10) (rc := (RX10, TX10, 10)) (t_X10_workAt l) w9_337 rfl rfl w9_338 w9_339 w9_340 w9_1 (by decide +kernel) (by decide +kernel : decode cX10_may 2 = .ok (.invokevirtual 87, 3)) (by decide)) ?_
  refine q_astore C (by decide +kernel : decode cX10_may 5 = .ok (.astore 6, 2)) ?_
  refine q_aload C (by decide +kernel : decode cX10_may 7 = .ok (.aload 6, 2)) ?_
  refine q_ifnull C (tgt := 56) (by decide +kernel : decode cX10_may 9 = .ok (.ifnull 47, 3)) (by decide) ?_ ?_
  · exact v_X10_may_56 C hK
  · refine q_iload_n C (by decide +kernel : decode cX10_may 12 = .ok (.iload_n 2, 1)) ?_
    refine q_iconst C (by decide +kernel : decode cX10_may 13 = .ok (.iconst 0, 1)) (by decide) ?_
    refine q_iconst C (by decide +kernel : decode cX10_may 14 = .ok (.iconst 3, 1)) (by decide) ?_
    refine q_call3 C (q_coS C (np := 3) (t_X10_isWithin l) w9_0 w9_3 w9_2 w9_1 (by decide +kernel) (by decide +kernel : decode cX10_may 15 = .ok (.invokestatic 63, 3)) (by decide)) ?_
    refine q_ifeq C (tgt := 56) (by decide +kernel : decode cX10_may 18 = .ok (.ifCond .eq 38, 3)) (by decide) ?_ ?_
    · exact v_X10_may_56 C hK
    · refine q_aload_n C (by decide +kernel : decode cX10_may 21 = .ok (.aload_n 0, 1)) ?_
      refine q_iload_n C (by decide +kernel : decode cX10_may 22 = .ok (.iload_n 3, 1)) ?_
      refine q_call2 C (q_coV C (np := 1) (ci := 10) (rc := (RX10, TX10, 10)) (t_X10_personAt l) w9_316 rfl rfl w9_317 w9_318 w9_319 w9_1 (by decide +kernel) (by decide +kernel : decode cX10_may 23 = .ok (.invokevirtual 68, 3)) (by decide)) ?_
      refine q_ifnull C (tgt := 56) (by decide +kernel : decode cX10_may 26 = .ok (.ifnull 30, 3)) (by decide) ?_ ?_
      · exact v_X10_may_56 C hK
      · refine q_iload C (by decide +kernel : decode cX10_may 29 = .ok (.iload 4, 2)) ?_
        refine q_aload C (by decide +kernel : decode cX10_may 31 = .ok (.aload 6, 2)) ?_
        refine q_getN C (ci := 9) (j := 1) (C0 := RX9) (T := TX9) (N := 5) rfl iX9 giX9 (by decide) (by decide +kernel) (by decide +kernel : decode cX10_may 33 = .ok (.getfield 165, 3)) ?_
        refine q_aload_n C (by decide +kernel : decode cX10_may 36 = .ok (.aload_n 0, 1)) ?_
        refine q_get C (ci := 10) (j := 0) (C0 := RX10) (T := TX10) (N := 10) rfl iX10 giX10 (by decide) w9_320 (by decide +kernel : decode cX10_may 37 = .ok (.getfield 9, 3)) ?_
        refine q_call3 C (q_coS C (np := 3) (t_X10_isWithin l) w9_0 w9_3 w9_2 w9_1 (by decide +kernel) (by decide +kernel : decode cX10_may 40 = .ok (.invokestatic 63, 3)) (by decide)) ?_
        refine q_ifeq C (tgt := 56) (by decide +kernel : decode cX10_may 43 = .ok (.ifCond .eq 13, 3)) (by decide) ?_ ?_
        · exact v_X10_may_56 C hK
        · refine q_aload C (by decide +kernel : decode cX10_may 46 = .ok (.aload 6, 2)) ?_
          refine q_iload C (by decide +kernel : decode cX10_may 48 = .ok (.iload 5, 2)) ?_
          refine q_call2 C (q_coS C (np := 2) (t_X10_isDayOf l) w9_400 w9_402 w9_401 w9_1 (by decide +kernel) (by decide +kernel : decode cX10_may 50 = .ok (.invokestatic 126, 3)) (by decide)) ?_
          refine q_ifne C (tgt := 59) (by decide +kernel : decode cX10_may 53 = .ok (.ifCond .ne 6, 3)) (by decide) ?_ ?_
          · refine q_aload_n C (by decide +kernel : decode cX10_may 59 = .ok (.aload_n 0, 1)) ?_
            refine q_get C (ci := 10) (j := 3) (C0 := RX10) (T := TX10) (N := 10) rfl iX10 giX10 (by decide) w9_321 (by decide +kernel : decode cX10_may 60 = .ok (.getfield 27, 3)) ?_
            refine q_aload C (by decide +kernel : decode cX10_may 63 = .ok (.aload 6, 2)) ?_
            refine q_iload C (by decide +kernel : decode cX10_may 65 = .ok (.iload 4, 2)) ?_
            refine q_iload C (by decide +kernel : decode cX10_may 67 = .ok (.iload 5, 2)) ?_
            refine q_call4 C (q_coV C (np := 3) (ci := 1) (rc := (RX1, TX1, 2)) (t_X1_protect l) w9_405 rfl rfl w9_406 w9_407 w9_408 w9_255 (by decide +kernel) (by decide +kernel : decode cX10_may 69 = .ok (.invokevirtual 135, 3)) (by decide)) ?_
            refine q_ifeq C (tgt := 103) (by decide +kernel : decode cX10_may 72 = .ok (.ifCond .eq 31, 3)) (by decide) ?_ ?_
            · exact v_X10_may_103 C hK
            · refine q_aload C (by decide +kernel : decode cX10_may 75 = .ok (.aload 6, 2)) ?_
              refine q_getN C (ci := 9) (j := 2) (C0 := RX9) (T := TX9) (N := 5) rfl iX9 giX9 (by decide) (by decide +kernel) (by decide +kernel : decode cX10_may 77 = .ok (.getfield 91, 3)) ?_
              refine q_iload_n C (by decide +kernel : decode cX10_may 80 = .ok (.iload_n 3, 1)) ?_
              refine q_iload C (by decide +kernel : decode cX10_may 81 = .ok (.iload 4, 2)) ?_
              refine q_call3 C (q_coV C (np := 2) (ci := 8) (rc := (RX8, TX8, 2)) (t_X8_ownedOn l) w9_361 rfl rfl w9_362 w9_363 w9_364 w9_183 (by decide +kernel) (by decide +kernel : decode cX10_may 83 = .ok (.invokevirtual 168, 3)) (by decide)) ?_
              refine q_bipush C (by decide +kernel : decode cX10_may 86 = .ok (.bipush 8, 2)) (by decide) ?_
              refine q_icge C (tgt := 103) (by decide +kernel : decode cX10_may 88 = .ok (.if_icmp .ge 15, 3)) (by decide) ?_ ?_
              · exact v_X10_may_103 C hK
              · refine q_aload_n C (by decide +kernel : decode cX10_may 91 = .ok (.aload_n 0, 1)) ?_
                refine q_iload_n C (by decide +kernel : decode cX10_may 92 = .ok (.iload_n 1, 1)) ?_
                refine q_iload_n C (by decide +kernel : decode cX10_may 93 = .ok (.iload_n 2, 1)) ?_
                refine q_iload_n C (by decide +kernel : decode cX10_may 94 = .ok (.iload_n 3, 1)) ?_
                refine q_iload C (by decide +kernel : decode cX10_may 95 = .ok (.iload 4, 2)) ?_
                refine q_call5 C (q_coV C (np := 4) (ci := 10) (rc := (RX10, TX10, 10)) (t_X10_isLicensed l) w9_409 rfl rfl w9_410 w9_411 w9_412 w9_1 (by decide +kernel) (by decide +kernel : decode cX10_may 97 = .ok (.invokevirtual 185, 3)) (by decide)) ?_
                refine q_ifeq C (tgt := 107) (by decide +kernel : decode cX10_may 100 = .ok (.ifCond .eq 7, 3)) (by decide) ?_ ?_
                · refine q_iconst C (by decide +kernel : decode cX10_may 107 = .ok (.iconst 0, 1)) (by decide) ?_
                  exact v_X10_may_108 C hK
                · exact v_X10_may_103 C hK
          · exact v_X10_may_56 C hK
theorem u_X10_may (l : Launch) {sp : q_Sp} (H : ∀ (av : List Value) (σ : q_S) (post : Option Value → q_S → Prop), sp av σ post → k_X10_may_0 post (fun _ _ _ _ _ _ => False) (q_L0 av 7) [] σ 0 0 ∧ av.length ≤ 7 ∧ ∀ v ∈ av, v.category = 1) : q_Ct l yX10_may cX10_may 7 (some .int) rm_X10_may sp := by
  refine q_met (by decide) ?_
  intro D A p e s m args below meth c σ av post C hsp
  obtain ⟨h1, h2, h3⟩ := H av σ post hsp
  exact ⟨_, v_X10_may_0 (K := fun _ _ _ _ _ _ => False) C (fun h hh => by cases hh), h1, h2, h3⟩
theorem t_X10_may (l : Launch) : q_Ct l yX10_may cX10_may 7 (some .int) rm_X10_may s_X10_may := u_X10_may l (by
  intro av σ post h
  unfold s_X10_may at h
  split at h
  · next r w u p t k =>
    refine ⟨?_, by simp, by simp [Value.category]⟩
    obtain ⟨z, g, hR, hI, hEN, hAB, hDB, hAU, h1⟩ := h
    have h2 := h1 _ hR
    have hR0 := hR
    clear h1
    obtain ⟨Rg, P, AC, AR, WK, LC, CL, CM, CP, pa, aa, wa, sa, ga, la, lra, lc, lrn, hD⟩ := hR
    have e1 := hD.p1.2
    have e2 := hD.p2.1.2
    have e4 := hD.p4.1.2
    have o1 : q_oc σ r = some 10 := by simp only [q_oc, e1]
    have f0 : q_fld σ r 10 0 = some (.int (z 0)) := by simp only [q_fld, e1, if_true]; rfl
    have f3 : q_fld σ r 10 3 = some (.ref AC) := by simp only [q_fld, e1, if_true]; rfl
    have o3 : q_oc σ AC = some 1 := by simp only [q_oc, hD.p3.1.2]
    have h20 := hI.n20
    unfold F_may at h2
    by_cases ca : 0 ≤ w ∧ w < z 11
    · have hlw : w.toNatClampNeg < nwF z := ltN ca.1 ca.2
      have w1 := (hD.p4.2 _ hlw).2
      obtain ⟨lr, hW, hl⟩ := hD.wk hAU hlw
      have g1 : q_fld σ (wa w.toNatClampNeg) 9 1 = some (.int (g 13 w.toNatClampNeg)) := by simp only [q_fld, w1, if_true]; rfl
      have g2 : q_fld σ (wa w.toNatClampNeg) 9 2 = some (.ref (sa w.toNatClampNeg)) := by simp only [q_fld, w1, if_true]; rfl
      obtain ⟨pgs, hS, hP⟩ := hD.sh hlw h20
      have os := hS.oc
      by_cases cu : 0 ≤ u ∧ u ≤ 3
      · by_cases cp : 0 ≤ p ∧ p < z 1
        · by_cases ct : g 13 w.toNatClampNeg ≤ t ∧ t ≤ z 0
          · by_cases ck : g 13 w.toNatClampNeg ≤ k ∧ k ≤ 3000
            · rw [if_pos ⟨ca, cu, cp, ct, ck⟩] at h2
              have hz := hI.1.2
              obtain ⟨r1, -⟩ := prC_rel (k := k) (t := t) hI hEN hAB hDB hAU hlw hl (by grind)
              have hpc := plc (p := p) ⟨cp.1, by have := hI.2.1.2; grind⟩
              have e := hP.2.2 t p ct.1 hpc.2
              rw [nI_self ca.1, hpc.1] at e
              simp only [c_push, c_null, c_iload, c_aload, c_istore, c_astore, c_iinc, c_iadd, c_isub, c_imul, c_iand, c_ineg, c_dup, c_dup2, c_pop, c_ifnull, c_ifnonnull, c_get, c_put, c_iald, c_zald, c_iast, c_zast, c_aald, c_aast, c_alen, c_new, c_newa, c_newq, c_mna, c_oinit, c_max, c_copy, c_iret, c_zret, c_aret, c_vret, q_do, q_rc, c_ifeq, c_ifne, c_iflt, c_ifge, c_ifgt, c_ifle, c_iceq, c_icne, c_iclt, c_icge, c_icgt, c_icle, c_call0, c_call1, c_call2, c_call3, c_call4, c_call5, c_call6, c_call7, q_L0, List.map_cons, List.map_nil, List.replicate, List.cons_append, List.nil_append, List.append_nil, List.length_cons, List.length_nil, List.length_set, Nat.reduceSub, Nat.reduceAdd, Nat.reduceLT, Nat.reduceLeDiff, Nat.zero_add, Nat.add_zero, Nat.sub_zero, Nat.sub_self, List.getElem?_cons_zero, List.getElem?_cons_succ, List.set_cons_zero, List.set_cons_succ, Option.toList_some, Option.toList_none, List.sum_cons, List.sum_nil, true_and, and_true, true_or, or_true, Nat.le_refl, Nat.zero_le, Value.category, Fin.isValue, Fin.val_zero, Fin.val_one, Fin.val_two, Fin.reduceFinMk, q_10, q_01, not_false_eq_true, not_true_eq_false, forall_const, true_implies, false_implies, implies_true, q_ni, q_fi, q_nb0, q_nb1, q_fb0, q_fb1, q_nor, q_nar, q_for, q_far, q_non, q_nan, q_fon, q_fan, imp_false, false_and, and_false, and_self, false_or, or_false, va_rf, refKind, k_X10_may_0, k_X10_may_56, k_X10_may_103, k_X10_may_108, o1, f0, f3, o3, os, g1, g2, wAt e1 e4 hI.2.2.2.1, pAt e1 e2 hI.2.1, ca, cu, cp, ct, ck, s_X10_isWithin, s_X10_isDayOf, w1]
              refine ⟨_, _, _, _, _, _, _, _, hD.p3, hW, fun c => ?_, fun c => ?_⟩
              · simp only [c_push, c_null, c_iload, c_aload, c_istore, c_astore, c_iinc, c_iadd, c_isub, c_imul, c_iand, c_ineg, c_dup, c_dup2, c_pop, c_ifnull, c_ifnonnull, c_get, c_put, c_iald, c_zald, c_iast, c_zast, c_aald, c_aast, c_alen, c_new, c_newa, c_newq, c_mna, c_oinit, c_max, c_copy, c_iret, c_zret, c_aret, c_vret, q_do, q_rc, c_ifeq, c_ifne, c_iflt, c_ifge, c_ifgt, c_ifle, c_iceq, c_icne, c_iclt, c_icge, c_icgt, c_icle, c_call0, c_call1, c_call2, c_call3, c_call4, c_call5, c_call6, c_call7, q_L0, List.map_cons, List.map_nil, List.replicate, List.cons_append, List.nil_append, List.append_nil, List.length_cons, List.length_nil, List.length_set, Nat.reduceSub, Nat.reduceAdd, Nat.reduceLT, Nat.reduceLeDiff, Nat.zero_add, Nat.add_zero, Nat.sub_zero, Nat.sub_self, List.getElem?_cons_zero, List.getElem?_cons_succ, List.set_cons_zero, List.set_cons_succ, Option.toList_some, Option.toList_none, List.sum_cons, List.sum_nil, true_and, and_true, true_or, or_true, Nat.le_refl, Nat.zero_le, Value.category, Fin.isValue, Fin.val_zero, Fin.val_one, Fin.val_two, Fin.reduceFinMk, q_10, q_01, not_false_eq_true, not_true_eq_false, forall_const, true_implies, false_implies, implies_true, q_ni, q_fi, q_nb0, q_nb1, q_fb0, q_fb1, q_nor, q_nar, q_for, q_far, q_non, q_nan, q_fon, q_fan, imp_false, false_and, and_false, and_self, false_or, or_false, va_rf, refKind, g2, os, o1, s_X10_oneIf]
                refine ⟨_, _, _, hS, ?_⟩
                rw [e]
                simp only [c_push, c_null, c_iload, c_aload, c_istore, c_astore, c_iinc, c_iadd, c_isub, c_imul, c_iand, c_ineg, c_dup, c_dup2, c_pop, c_ifnull, c_ifnonnull, c_get, c_put, c_iald, c_zald, c_iast, c_zast, c_aald, c_aast, c_alen, c_new, c_newa, c_newq, c_mna, c_oinit, c_max, c_copy, c_iret, c_zret, c_aret, c_vret, q_do, q_rc, c_ifeq, c_ifne, c_iflt, c_ifge, c_ifgt, c_ifle, c_iceq, c_icne, c_iclt, c_icge, c_icgt, c_icle, c_call0, c_call1, c_call2, c_call3, c_call4, c_call5, c_call6, c_call7, q_L0, List.map_cons, List.map_nil, List.replicate, List.cons_append, List.nil_append, List.append_nil, List.length_cons, List.length_nil, List.length_set, Nat.reduceSub, Nat.reduceAdd, Nat.reduceLT, Nat.reduceLeDiff, Nat.zero_add, Nat.add_zero, Nat.sub_zero, Nat.sub_self, List.getElem?_cons_zero, List.getElem?_cons_succ, List.set_cons_zero, List.set_cons_succ, Option.toList_some, Option.toList_none, List.sum_cons, List.sum_nil, true_and, and_true, true_or, or_true, Nat.le_refl, Nat.zero_le, Value.category, Fin.isValue, Fin.val_zero, Fin.val_one, Fin.val_two, Fin.reduceFinMk, q_10, q_01, not_false_eq_true, not_true_eq_false, forall_const, true_implies, false_implies, implies_true, q_ni, q_fi, q_nb0, q_nb1, q_fb0, q_fb1, q_nor, q_nar, q_for, q_far, q_non, q_nan, q_fon, q_fan, imp_false, false_and, and_false, and_self, false_or, or_false, va_rf, refKind, g2, os, o1, s_X10_oneIf]
                unfold mayB mayB0 at h2
                by_cases c8 : 8 ≤ holdsF g w p t (mvF z)
                · rw [if_pos (Or.inl (Or.inr c8))] at h2
                  first
                    | exact ⟨fun _ => h2, fun h => absurd c8 (by grind)⟩
                    | exact ⟨fun h => absurd c8 (by grind), fun _ => h2⟩
                    | (simp only [c8]; simp [h2])
                · refine ⟨fun h => absurd h c8, fun _ => ⟨z, g, hR0, hI, fun c9 => ?_, fun c9 => ?_⟩⟩ <;> simp only [c_push, c_null, c_iload, c_aload, c_istore, c_astore, c_iinc, c_iadd, c_isub, c_imul, c_iand, c_ineg, c_dup, c_dup2, c_pop, c_ifnull, c_ifnonnull, c_get, c_put, c_iald, c_zald, c_iast, c_zast, c_aald, c_aast, c_alen, c_new, c_newa, c_newq, c_mna, c_oinit, c_max, c_copy, c_iret, c_zret, c_aret, c_vret, q_do, q_rc, c_ifeq, c_ifne, c_iflt, c_ifge, c_ifgt, c_ifle, c_iceq, c_icne, c_iclt, c_icge, c_icgt, c_icle, c_call0, c_call1, c_call2, c_call3, c_call4, c_call5, c_call6, c_call7, q_L0, List.map_cons, List.map_nil, List.replicate, List.cons_append, List.nil_append, List.append_nil, List.length_cons, List.length_nil, List.length_set, Nat.reduceSub, Nat.reduceAdd, Nat.reduceLT, Nat.reduceLeDiff, Nat.zero_add, Nat.add_zero, Nat.sub_zero, Nat.sub_self, List.getElem?_cons_zero, List.getElem?_cons_succ, List.set_cons_zero, List.set_cons_succ, Option.toList_some, Option.toList_none, List.sum_cons, List.sum_nil, true_and, and_true, true_or, or_true, Nat.le_refl, Nat.zero_le, Value.category, Fin.isValue, Fin.val_zero, Fin.val_one, Fin.val_two, Fin.reduceFinMk, q_10, q_01, not_false_eq_true, not_true_eq_false, forall_const, true_implies, false_implies, implies_true, q_ni, q_fi, q_nb0, q_nb1, q_fb0, q_fb1, q_nor, q_nar, q_for, q_far, q_non, q_nan, q_fon, q_fan, imp_false, false_and, and_false, and_self, false_or, or_false, va_rf, refKind, s_X10_oneIf]
                  · have c9' : licB g w u p t (z 22).toNatClampNeg = true := c9
                    rw [if_pos (Or.inr c9')] at h2
                    exact h2
                  · have c9' : licB g w u p t (z 22).toNatClampNeg = false := c9
                    rw [if_neg (fun h => ?_)] at h2
                    · exact h2
                    · rcases h with (h | h) | h
                      · exact h (r1.mp c)
                      · exact c8 h
                      · rw [c9'] at h; cases h
              · simp only [c_push, c_null, c_iload, c_aload, c_istore, c_astore, c_iinc, c_iadd, c_isub, c_imul, c_iand, c_ineg, c_dup, c_dup2, c_pop, c_ifnull, c_ifnonnull, c_get, c_put, c_iald, c_zald, c_iast, c_zast, c_aald, c_aast, c_alen, c_new, c_newa, c_newq, c_mna, c_oinit, c_max, c_copy, c_iret, c_zret, c_aret, c_vret, q_do, q_rc, c_ifeq, c_ifne, c_iflt, c_ifge, c_ifgt, c_ifle, c_iceq, c_icne, c_iclt, c_icge, c_icgt, c_icle, c_call0, c_call1, c_call2, c_call3, c_call4, c_call5, c_call6, c_call7, q_L0, List.map_cons, List.map_nil, List.replicate, List.cons_append, List.nil_append, List.append_nil, List.length_cons, List.length_nil, List.length_set, Nat.reduceSub, Nat.reduceAdd, Nat.reduceLT, Nat.reduceLeDiff, Nat.zero_add, Nat.add_zero, Nat.sub_zero, Nat.sub_self, List.getElem?_cons_zero, List.getElem?_cons_succ, List.set_cons_zero, List.set_cons_succ, Option.toList_some, Option.toList_none, List.sum_cons, List.sum_nil, true_and, and_true, true_or, or_true, Nat.le_refl, Nat.zero_le, Value.category, Fin.isValue, Fin.val_zero, Fin.val_one, Fin.val_two, Fin.reduceFinMk, q_10, q_01, not_false_eq_true, not_true_eq_false, forall_const, true_implies, false_implies, implies_true, q_ni, q_fi, q_nb0, q_nb1, q_fb0, q_fb1, q_nor, q_nar, q_for, q_far, q_non, q_nan, q_fon, q_fan, imp_false, false_and, and_false, and_self, false_or, or_false, va_rf, refKind, g2, os, o1, s_X10_oneIf]
                unfold mayB mayB0 at h2
                rw [if_pos (Or.inl (Or.inl (fun h => c (r1.mpr h))))] at h2
                exact h2
            · rw [if_neg (fun h => ck h.2.2.2.2)] at h2
              simp only [c_push, c_null, c_iload, c_aload, c_istore, c_astore, c_iinc, c_iadd, c_isub, c_imul, c_iand, c_ineg, c_dup, c_dup2, c_pop, c_ifnull, c_ifnonnull, c_get, c_put, c_iald, c_zald, c_iast, c_zast, c_aald, c_aast, c_alen, c_new, c_newa, c_newq, c_mna, c_oinit, c_max, c_copy, c_iret, c_zret, c_aret, c_vret, q_do, q_rc, c_ifeq, c_ifne, c_iflt, c_ifge, c_ifgt, c_ifle, c_iceq, c_icne, c_iclt, c_icge, c_icgt, c_icle, c_call0, c_call1, c_call2, c_call3, c_call4, c_call5, c_call6, c_call7, q_L0, List.map_cons, List.map_nil, List.replicate, List.cons_append, List.nil_append, List.append_nil, List.length_cons, List.length_nil, List.length_set, Nat.reduceSub, Nat.reduceAdd, Nat.reduceLT, Nat.reduceLeDiff, Nat.zero_add, Nat.add_zero, Nat.sub_zero, Nat.sub_self, List.getElem?_cons_zero, List.getElem?_cons_succ, List.set_cons_zero, List.set_cons_succ, Option.toList_some, Option.toList_none, List.sum_cons, List.sum_nil, true_and, and_true, true_or, or_true, Nat.le_refl, Nat.zero_le, Value.category, Fin.isValue, Fin.val_zero, Fin.val_one, Fin.val_two, Fin.reduceFinMk, q_10, q_01, not_false_eq_true, not_true_eq_false, forall_const, true_implies, false_implies, implies_true, q_ni, q_fi, q_nb0, q_nb1, q_fb0, q_fb1, q_nor, q_nar, q_for, q_far, q_non, q_nan, q_fon, q_fan, imp_false, false_and, and_false, and_self, false_or, or_false, va_rf, refKind, k_X10_may_0, k_X10_may_56, k_X10_may_103, k_X10_may_108, o1, f0, f3, o3, g1, wAt e1 e4 hI.2.2.2.1, pAt e1 e2 hI.2.1, ca, cu, cp, ct, ck, s_X10_isWithin, s_X10_isDayOf, w1, h2]
          · rw [if_neg (fun h => ct h.2.2.2.1)] at h2
            simp only [c_push, c_null, c_iload, c_aload, c_istore, c_astore, c_iinc, c_iadd, c_isub, c_imul, c_iand, c_ineg, c_dup, c_dup2, c_pop, c_ifnull, c_ifnonnull, c_get, c_put, c_iald, c_zald, c_iast, c_zast, c_aald, c_aast, c_alen, c_new, c_newa, c_newq, c_mna, c_oinit, c_max, c_copy, c_iret, c_zret, c_aret, c_vret, q_do, q_rc, c_ifeq, c_ifne, c_iflt, c_ifge, c_ifgt, c_ifle, c_iceq, c_icne, c_iclt, c_icge, c_icgt, c_icle, c_call0, c_call1, c_call2, c_call3, c_call4, c_call5, c_call6, c_call7, q_L0, List.map_cons, List.map_nil, List.replicate, List.cons_append, List.nil_append, List.append_nil, List.length_cons, List.length_nil, List.length_set, Nat.reduceSub, Nat.reduceAdd, Nat.reduceLT, Nat.reduceLeDiff, Nat.zero_add, Nat.add_zero, Nat.sub_zero, Nat.sub_self, List.getElem?_cons_zero, List.getElem?_cons_succ, List.set_cons_zero, List.set_cons_succ, Option.toList_some, Option.toList_none, List.sum_cons, List.sum_nil, true_and, and_true, true_or, or_true, Nat.le_refl, Nat.zero_le, Value.category, Fin.isValue, Fin.val_zero, Fin.val_one, Fin.val_two, Fin.reduceFinMk, q_10, q_01, not_false_eq_true, not_true_eq_false, forall_const, true_implies, false_implies, implies_true, q_ni, q_fi, q_nb0, q_nb1, q_fb0, q_fb1, q_nor, q_nar, q_for, q_far, q_non, q_nan, q_fon, q_fan, imp_false, false_and, and_false, and_self, false_or, or_false, va_rf, refKind, k_X10_may_0, k_X10_may_56, k_X10_may_103, k_X10_may_108, o1, f0, f3, o3, g1, wAt e1 e4 hI.2.2.2.1, pAt e1 e2 hI.2.1, ca, cu, cp, ct, s_X10_isWithin, s_X10_isDayOf, w1, h2]
        · rw [if_neg (fun h => cp h.2.2.1)] at h2
          simp only [c_push, c_null, c_iload, c_aload, c_istore, c_astore, c_iinc, c_iadd, c_isub, c_imul, c_iand, c_ineg, c_dup, c_dup2, c_pop, c_ifnull, c_ifnonnull, c_get, c_put, c_iald, c_zald, c_iast, c_zast, c_aald, c_aast, c_alen, c_new, c_newa, c_newq, c_mna, c_oinit, c_max, c_copy, c_iret, c_zret, c_aret, c_vret, q_do, q_rc, c_ifeq, c_ifne, c_iflt, c_ifge, c_ifgt, c_ifle, c_iceq, c_icne, c_iclt, c_icge, c_icgt, c_icle, c_call0, c_call1, c_call2, c_call3, c_call4, c_call5, c_call6, c_call7, q_L0, List.map_cons, List.map_nil, List.replicate, List.cons_append, List.nil_append, List.append_nil, List.length_cons, List.length_nil, List.length_set, Nat.reduceSub, Nat.reduceAdd, Nat.reduceLT, Nat.reduceLeDiff, Nat.zero_add, Nat.add_zero, Nat.sub_zero, Nat.sub_self, List.getElem?_cons_zero, List.getElem?_cons_succ, List.set_cons_zero, List.set_cons_succ, Option.toList_some, Option.toList_none, List.sum_cons, List.sum_nil, true_and, and_true, true_or, or_true, Nat.le_refl, Nat.zero_le, Value.category, Fin.isValue, Fin.val_zero, Fin.val_one, Fin.val_two, Fin.reduceFinMk, q_10, q_01, not_false_eq_true, not_true_eq_false, forall_const, true_implies, false_implies, implies_true, q_ni, q_fi, q_nb0, q_nb1, q_fb0, q_fb1, q_nor, q_nar, q_for, q_far, q_non, q_nan, q_fon, q_fan, imp_false, false_and, and_false, and_self, false_or, or_false, va_rf, refKind, k_X10_may_0, k_X10_may_56, k_X10_may_103, k_X10_may_108, o1, f0, f3, o3, g1, wAt e1 e4 hI.2.2.2.1, pAt e1 e2 hI.2.1, ca, cu, cp, s_X10_isWithin, s_X10_isDayOf, w1, h2]
      · rw [if_neg (fun h => cu h.2.1)] at h2
        simp only [c_push, c_null, c_iload, c_aload, c_istore, c_astore, c_iinc, c_iadd, c_isub, c_imul, c_iand, c_ineg, c_dup, c_dup2, c_pop, c_ifnull, c_ifnonnull, c_get, c_put, c_iald, c_zald, c_iast, c_zast, c_aald, c_aast, c_alen, c_new, c_newa, c_newq, c_mna, c_oinit, c_max, c_copy, c_iret, c_zret, c_aret, c_vret, q_do, q_rc, c_ifeq, c_ifne, c_iflt, c_ifge, c_ifgt, c_ifle, c_iceq, c_icne, c_iclt, c_icge, c_icgt, c_icle, c_call0, c_call1, c_call2, c_call3, c_call4, c_call5, c_call6, c_call7, q_L0, List.map_cons, List.map_nil, List.replicate, List.cons_append, List.nil_append, List.append_nil, List.length_cons, List.length_nil, List.length_set, Nat.reduceSub, Nat.reduceAdd, Nat.reduceLT, Nat.reduceLeDiff, Nat.zero_add, Nat.add_zero, Nat.sub_zero, Nat.sub_self, List.getElem?_cons_zero, List.getElem?_cons_succ, List.set_cons_zero, List.set_cons_succ, Option.toList_some, Option.toList_none, List.sum_cons, List.sum_nil, true_and, and_true, true_or, or_true, Nat.le_refl, Nat.zero_le, Value.category, Fin.isValue, Fin.val_zero, Fin.val_one, Fin.val_two, Fin.reduceFinMk, q_10, q_01, not_false_eq_true, not_true_eq_false, forall_const, true_implies, false_implies, implies_true, q_ni, q_fi, q_nb0, q_nb1, q_fb0, q_fb1, q_nor, q_nar, q_for, q_far, q_non, q_nan, q_fon, q_fan, imp_false, false_and, and_false, and_self, false_or, or_false, va_rf, refKind, k_X10_may_0, k_X10_may_56, k_X10_may_103, k_X10_may_108, o1, f0, f3, o3, g1, wAt e1 e4 hI.2.2.2.1, pAt e1 e2 hI.2.1, ca, cu, s_X10_isWithin, s_X10_isDayOf, w1, h2]
    · rw [if_neg (fun h => ca h.1)] at h2
      simp only [c_push, c_null, c_iload, c_aload, c_istore, c_astore, c_iinc, c_iadd, c_isub, c_imul, c_iand, c_ineg, c_dup, c_dup2, c_pop, c_ifnull, c_ifnonnull, c_get, c_put, c_iald, c_zald, c_iast, c_zast, c_aald, c_aast, c_alen, c_new, c_newa, c_newq, c_mna, c_oinit, c_max, c_copy, c_iret, c_zret, c_aret, c_vret, q_do, q_rc, c_ifeq, c_ifne, c_iflt, c_ifge, c_ifgt, c_ifle, c_iceq, c_icne, c_iclt, c_icge, c_icgt, c_icle, c_call0, c_call1, c_call2, c_call3, c_call4, c_call5, c_call6, c_call7, q_L0, List.map_cons, List.map_nil, List.replicate, List.cons_append, List.nil_append, List.append_nil, List.length_cons, List.length_nil, List.length_set, Nat.reduceSub, Nat.reduceAdd, Nat.reduceLT, Nat.reduceLeDiff, Nat.zero_add, Nat.add_zero, Nat.sub_zero, Nat.sub_self, List.getElem?_cons_zero, List.getElem?_cons_succ, List.set_cons_zero, List.set_cons_succ, Option.toList_some, Option.toList_none, List.sum_cons, List.sum_nil, true_and, and_true, true_or, or_true, Nat.le_refl, Nat.zero_le, Value.category, Fin.isValue, Fin.val_zero, Fin.val_one, Fin.val_two, Fin.reduceFinMk, q_10, q_01, not_false_eq_true, not_true_eq_false, forall_const, true_implies, false_implies, implies_true, q_ni, q_fi, q_nb0, q_nb1, q_fb0, q_fb1, q_nor, q_nar, q_for, q_far, q_non, q_nan, q_fon, q_fan, imp_false, false_and, and_false, and_self, false_or, or_false, va_rf, refKind, k_X10_may_0, k_X10_may_56, k_X10_may_103, k_X10_may_108, o1, f3, o3, wAt e1 e4 hI.2.2.2.1, ca, s_X10_isWithin, h2]
  · exact h.elim)
