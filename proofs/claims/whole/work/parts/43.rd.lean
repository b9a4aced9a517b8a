-- moves of shares
theorem holdsF_lt {g g' : Nat → Nat → Int32} (h12 : g' 12 = g 12) (w p t : Int32) : ∀ n, (∀ m, m < n → g' 15 m = g 15 m ∧ g' 16 m = g 16 m ∧ g' 17 m = g 17 m ∧ g' 18 m = g 18 m ∧ g' 19 m = g 19 m) → holdsF g' w p t n = holdsF g w p t n
  | 0, _ => by rw [holdsF, holdsF, h12]
  | n + 1, h => by
    have k := h n (by omega)
    rw [holdsF, holdsF, k.1, k.2.1, k.2.2.1, k.2.2.2.1, k.2.2.2.2, holdsF_lt h12 w p t n (fun m hm => h m (by omega))]
theorem moveF_s (z : Nat → Int32) (g : Nat → Nat → Int32) (w a b n : Int32) : moveF z g w a b n 15 (mvF z) = z 0 ∧ moveF z g w a b n 16 (mvF z) = w ∧ moveF z g w a b n 17 (mvF z) = a ∧ moveF z g w a b n 18 (mvF z) = b ∧ moveF z g w a b n 19 (mvF z) = n := by
  unfold moveF mvF
  simp only [gup, upd, if_true, Nat.reduceEqDiff, if_false, and_self]
theorem gup_m {g : Nat → Nat → Int32} {k i j m : Nat} {v : Int32} (h : m ≠ i) : gup g k i v j m = g j m := by
  unfold gup upd
  split
  · next e => rw [e]; exact if_neg h
  · rfl
theorem moveF_n (z : Nat → Int32) (g : Nat → Nat → Int32) (w a b n : Int32) {m : Nat} (h : m ≠ mvF z) (k : Nat) : moveF z g w a b n k m = g k m := by
  have h' : m ≠ (z 14).toNatClampNeg := h
  unfold moveF
  rw [gup_m h', gup_m h', gup_m h', gup_m h', gup_m h']
theorem mvF_s {z : Nat → Int32} (h : 0 ≤ z 14 ∧ z 14 < 1000) : mvF (upd z 14 (z 14 + 1)) = mvF z + 1 := by
  have e := nI_self h.1
  have h2 := clamp_lt 1000 h.1 h.2
  unfold mvF
  show (z 14 + 1).toNatClampNeg = _
  rw [← e, nI_1, clN (by omega), clN (by omega)]
theorem holds_move (z : Nat → Int32) (g : Nat → Nat → Int32) (w a b n w2 p t : Int32) : holdsF (moveF z g w a b n) w2 p t (mvF z + 1) = if w = w2 ∧ z 0 ≤ t then holdsF g w2 p t (mvF z) + (if b = p then n else 0) - (if a = p then n else 0) else holdsF g w2 p t (mvF z) := by
  obtain ⟨s1, s2, s3, s4, s5⟩ := moveF_s z g w a b n
  have e := holdsF_lt (g := g) (g' := moveF z g w a b n) (moveF_ne z g w a b n 12 (by omega)) w2 p t (mvF z) (fun m hm => ⟨moveF_n z g w a b n (by omega) _, moveF_n z g w a b n (by omega) _, moveF_n z g w a b n (by omega) _, moveF_n z g w a b n (by omega) _, moveF_n z g w a b n (by omega) _⟩)
  rw [holdsF, s1, s2, s3, s4, s5, e]
theorem PgR.other {z : Nat → Int32} {g : Nat → Nat → Int32} {i j : Nat} {a b n : Int32} {pgs : List pgT} (h : PgR z g j pgs) (hm : 0 ≤ z 14 ∧ z 14 < 1000) (hij : j ≠ i) (hi : i < 20) (hj : j < 20) : PgR (upd z 14 (z 14 + 1)) (moveF z g (nI i) a b n) j pgs := by
  obtain ⟨h1, h2, h3⟩ := h
  refine ⟨h1, h2, fun t p ht hp => ?_⟩
  rw [moveF_ne _ _ _ _ _ _ 13 (by omega)] at ht
  rw [mvF_s hm, holds_move, if_neg (fun h => hij ((cl2 (nI i) (nI j) _ _ rfl rfl (by omega) (by omega)).2.2.mp h.1).symm)]
  exact h3 t p ht hp
theorem shF_ch {f f' : Nat → Int32} {a b n p : Int32} (ha : 0 ≤ plcF a ∧ plcF a < 13) (hb : 0 ≤ plcF b ∧ plcF b < 13) (hp : 0 ≤ plcF p ∧ plcF p < 13) (h : ∀ j, j < 13 → f' j = chF (chF f a (-n)) b n j) : shF f' p = shF f p + (if plcF b = plcF p then n else 0) - (if plcF a = plcF p then n else 0) := by
  unfold shF
  rw [if_pos hp, if_pos hp, h _ (clamp_lt 13 hp.1 hp.2)]
  unfold chF upd
  rw [if_pos ha, if_pos hb]
  obtain ⟨i, hi, e1, e2⟩ := inR 13 ha.1 ha.2
  obtain ⟨j, hj, e3, e4⟩ := inR 13 hb.1 hb.2
  obtain ⟨k, hk, e5, e6⟩ := inR 13 hp.1 hp.2
  rw [e2, e4, e6, e1, e3, e5]
  simp only [(cl2 (nI j) (nI k) _ _ rfl rfl (by omega) (by omega)).2.2, (cl2 (nI i) (nI k) _ _ rfl rfl (by omega) (by omega)).2.2]
  clear ha hb hp h e1 e2 e3 e4 e5 e6
  by_cases c1 : j = k
  · subst c1
    by_cases c2 : i = j
    · subst c2
      simp only [if_true]
      grind
    · have c3 : ¬ j = i := fun h => c2 h.symm
      simp only [if_true, c2, c3, if_false]
      grind
  · have c4 : ¬ k = j := fun h => c1 h.symm
    by_cases c2 : i = k
    · subst c2
      simp only [if_true, c1, c4, if_false]
      grind
    · have c3 : ¬ k = i := fun h => c2 h.symm
      simp only [c1, c4, c2, c3, if_false]
      grind
theorem PgR.move {z : Nat → Int32} {g : Nat → Nat → Int32} {i : Nat} {a b n : Int32} {x x' : pgT} {t : List pgT} (h : PgR z g i (x :: t)) (hm : 0 ≤ z 14 ∧ z 14 < 1000) (ha : 0 ≤ plcF a ∧ plcF a < 13) (hb : 0 ≤ plcF b ∧ plcF b < 13) (hx1 : x'.1 = (if x.1 < z 0 then z 0 else x.1)) (hx2 : ∀ j, j < 13 → x'.2.2.2 j = chF (chF x.2.2.2 a (-n)) b n j) : PgR (upd z 14 (z 14 + 1)) (moveF z g (nI i) (plcF a) (plcF b) n) i (if x.1 < z 0 then x' :: x :: t else x' :: t) := by
  obtain ⟨⟨y, r, e, hy⟩, h2, h3⟩ := h
  obtain ⟨rfl, rfl⟩ := List.cons.inj e
  have ex : x'.1 = z 0 := by rw [hx1]; split <;> grind
  refine ⟨?_, ?_, fun t2 p ht hp => ?_⟩
  · by_cases c : x.1 < z 0
    · rw [if_pos c]; exact ⟨x', _, rfl, by rw [ex]; exact Int32.le_refl _⟩
    · rw [if_neg c]; exact ⟨x', _, rfl, by rw [ex]; exact Int32.le_refl _⟩
  · by_cases c : x.1 < z 0
    · rw [if_pos c]; exact ⟨by rw [ex]; exact c, h2⟩
    · rw [if_neg c]
      have e9 : x'.1 = x.1 := by rw [hx1, if_neg c]
      cases t with
      | nil => trivial
      | cons y t => exact ⟨by rw [e9]; exact h2.1, h2.2⟩
  · rw [moveF_ne _ _ _ _ _ _ 13 (by omega)] at ht
    have h4 := h3 t2 p ht hp
    rw [mvF_s hm, holds_move, ← h4]
    by_cases c2 : z 0 ≤ t2
    · rw [if_pos (show nI i = nI i ∧ z 0 ≤ t2 from ⟨rfl, c2⟩)]
      have e5 : pvF t2 p (x :: t) = shF x.2.2.2 p := by rw [pvF, if_pos (Int32.le_trans hy c2)]
      have e6 : pvF t2 p (if x.1 < z 0 then x' :: x :: t else x' :: t) = shF x'.2.2.2 p := by
        by_cases c : x.1 < z 0
        · rw [if_pos c, pvF, if_pos (by rw [ex]; exact c2)]
        · rw [if_neg c, pvF, if_pos (by rw [ex]; exact c2)]
      rw [e5, e6]
      exact shF_ch ha hb hp hx2
    · rw [if_neg (show ¬ (nI i = nI i ∧ z 0 ≤ t2) from fun h => c2 h.2)]
      by_cases c : x.1 < z 0
      · rw [if_pos c, pvF, if_neg (by rw [ex]; exact c2)]
      · rw [if_neg c, pvF, if_neg (by rw [ex]; exact c2), pvF, if_neg (by grind)]
theorem PgR.cong {z : Nat → Int32} {g g' : Nat → Nat → Int32} {i : Nat} {pgs : List pgT} (h : PgR z g i pgs) (hg : ∀ k, k ≠ 20 → g' k = g k) : PgR z g' i pgs := by
  obtain ⟨h1, h2, h3⟩ := h
  refine ⟨h1, h2, fun t p ht hp => ?_⟩
  rw [hg 13 (by decide)] at ht
  rw [h3 t p ht hp]
  exact (holdsF_cong (hg 12 (by decide)) (hg 15 (by decide)) (hg 16 (by decide)) (hg 17 (by decide)) (hg 18 (by decide)) (hg 19 (by decide)) _ _ _ _).symm
section RGS
variable {σ σ' : q_S} {Rg : Nat → Nat → Prop} {r P AC AR WK LC CL CM CP : Nat} {pa aa wa sa ga la lra lc : Nat → Nat} {lrn : Nat → Int32} {z z' : Nat → Int32} {g g' : Nat → Nat → Int32}
theorem RegD.shset (hD : RegD σ Rg r P AC AR WK LC CL CM CP pa aa wa sa ga la lra lc lrn z g) (h20 : nwF z ≤ 20) {i : Nat} (hi : i < nwF z) (hz : ∀ k, k ≠ 14 → z' k = z k) (hg : ∀ k, k < 15 ∨ 20 < k → g' k = g k) {pgs : List pgT} {R' : Nat → Prop} (hS : ShC σ' R' (sa i) (fun p q => g' 20 (144 * i + 12 * p + q)) pgs) (hP : PgR z' g' i pgs) (hf : q_fm σ (Rg (100 + i)) σ' R') (ho : ∀ j pgs, j ≠ i → j < nwF z → PgR z g j pgs → PgR z' g' j pgs) (ho20 : ∀ j p q, j ≠ i → p < 12 → q < 12 → g' 20 (144 * j + 12 * p + q) = g 20 (144 * j + 12 * p + q)) : RegOK σ' r z' g' := by
  have z0 := hz 0 (by decide)
  have z1 := hz 1 (by decide)
  have z5 := hz 5 (by decide)
  have z11 := hz 11 (by decide)
  have z22 := hz 22 (by decide)
  have z31 := hz 31 (by decide)
  have n1 : npF z' = npF z := by unfold npF; rw [z1]
  have n2 : naF z' = naF z := by unfold naF; rw [z5]
  have n3 : nwF z' = nwF z := by unfold nwF; rw [z11]
  have n4 : nlF z' = nlF z := by unfold nlF; rw [z22]
  refine hD.put1 (lrn' := lrn) (100 + i) hf (Part.s1 (by rw [n3]; exact hi) (by rw [n3]; exact h20) ⟨pgs, hS, hP⟩) (fun k hk h => h.cong (fun _ h => ?_) (fun _ h => ?_) (fun _ h => ?_) (fun _ h => ?_) (fun _ h => ?_) (fun _ h => ?_) (fun j e hj => ⟨by rw [n3] at hj; exact hj, fun h => ?_⟩) (fun i _ hi => ⟨by rw [n3] at hi; exact hi, fun h => ?_⟩) (fun i _ hi => ⟨by rw [n3] at hi; exact hi, fun h => ?_⟩) h20 (by rw [n3]; exact h20))
  · rw [rootE, z0, z1, z11, z22]; exact h
  · rw [n1]; unfold PersP; rw [hg 2 (by omega), hg 3 (by omega), hg 4 (by omega)]; exact h
  · rw [n2]; unfold AcD; rw [hg 6 (by omega), hg 7 (by omega), hg 8 (by omega), hg 9 (by omega), hg 10 (by omega)]; exact h
  · rw [n3]; unfold WkP; rw [hg 12 (by omega), hg 13 (by omega)]; exact h
  · rw [n4]; unfold LcP; rw [hg 23 (by omega), hg 24 (by omega), hg 25 (by omega), hg 26 (by omega), hg 27 (by omega), hg 28 (by omega)]; exact h
  · rw [z31]; unfold CmP; rw [hg 32 (by omega)]; exact h
  · rw [n3] at hj
    obtain ⟨pg2, k1, k2⟩ := h
    exact ⟨pg2, k1.cM (fun p q hp hq => (ho20 j p q (by omega) hp hq).symm), ho j pg2 (by omega) hj k2⟩
  · unfold AgP; rw [hg 21 (by omega)]; exact h
  · unfold LnP lmN; rw [hg 29 (by omega), hg 30 (by omega)]; exact h
end RGS
def s_X10_sell : q_Sp := fun av σ post => match av with
  | [.ref r, .int w, .int a, .int b, .int n] => ∃ z g, RegOK σ r z g ∧ I1 z ∧ EN z g ∧ z 14 < 1000 ∧ ∀ σ', RegOK σ' r (F_sell z g w a b n).2.1 (F_sell z g w a b n).2.2 → post (some (.int (F_sell z g w a b n).1)) σ'
  | _ => False
theorem w9_426 : (.methodLink RX10 151 yX8_move : Cond) ∈ lw_tbl := by decide +kernel
def rm_X10_sell : Room := { frames := 5, cells := 2, slots := 16, locals := 109 }
def k_X10_sell_44 (post : Option Value → q_S → Prop) (K : Nat → q_K) : q_K := (c_push (-2) (c_iret post))
def k_X10_sell_69 (post : Option Value → q_S → Prop) (K : Nat → q_K) : q_K := (c_push (-3) (c_iret post))
def k_X10_sell_0 (post : Option Value → q_S → Prop) (K : Nat → q_K) : q_K := (c_aload 0 (c_iload 1 (c_call2 (some 10) s_X10_workAt 0 0 (c_astore 5 (c_aload 0 (c_iload 3 (c_call2 (some 10) s_X10_personAt 0 0 (c_astore 6 (c_aload 5 (c_ifnull (k_X10_sell_44 post K) (c_aload 6 (c_ifnull (k_X10_sell_44 post K) (c_aload 0 (c_iload 2 (c_iload 3 (c_call3 (some 10) s_X10_areTwoPersons 0 0 (c_ifeq (k_X10_sell_44 post K) (c_iload 4 (c_push 1 (c_push 16 (c_call3 none s_X10_isWithin 0 0 (c_ifne (c_aload 5 (c_get 9 2 (c_iload 2 (c_call2 (some 8) s_X8_freeOf 0 0 (c_iload 4 (c_iclt (k_X10_sell_69 post K) (c_aload 6 (c_call1 (some 7) s_X7_isToldDead 0 0 (c_ifeq (c_aload 5 (c_get 9 2 (c_iload 2 (c_iload 3 (c_iload 4 (c_aload 0 (c_get 10 0 (c_call5 (some 8) s_X8_move 2 16 (c_push 1 (c_iret post)))))))))) (k_X10_sell_69 post K)))))))))) (k_X10_sell_44 post K)))))))))))))))))))))))
set_option maxRecDepth 100000 in
theorem v_X10_sell_44 {p : Program} {l : Launch} {e : Env} {s : State} {m : MethodId} {args : Array Value} {below : List Frame} {meth : Method} {c : Code} {D : va_G} {A : Nat → Prop} {post : Option Value → q_S → Prop} {K : Nat → q_K} (C : q_C p s m args meth c cX10_sell 7 RX10 "sell" (some .int) A) (hK : ∀ h ∈ ([] : List Nat), q_V p l e rm_X10_sell s m args below meth c D A 7 (MQ below (q_Qc D A post) args s rm_X10_sell.cells rm_X10_sell.slots A) h (K h)) : q_V p l e rm_X10_sell s m args below meth c D A 7 (MQ below (q_Qc D A post) args s rm_X10_sell.cells rm_X10_sell.slots A) 44 (k_X10_sell_44 post K) := by
  unfold k_X10_sell_44
  refine q_bipush C (by decide +kernel : decode cX10_sell 44 = .ok (.bipush (-2), 2)) (by decide) ?_
  exact q_iret C rfl (by decide +kernel : decode cX10_sell 46 = .ok (.ireturn, 1))
set_option maxRecDepth 100000 in
theorem v_X10_sell_69 {p : Program} {l : Launch} {e : Env} {s : State} {m : MethodId} {args : Array Value} {below : List Frame} {meth : Method} {c : Code} {D : va_G} {A : Nat → Prop} {post : Option Value → q_S → Prop} {K : Nat → q_K} (C : q_C p s m args meth c cX10_sell 7 RX10 "sell" (some .int) A) (hK : ∀ h ∈ ([] : List Nat), q_V p l e rm_X10_sell s m args below meth c D A 7 (MQ below (q_Qc D A post) args s rm_X10_sell.cells rm_X10_sell.slots A) h (K h)) : q_V p l e rm_X10_sell s m args below meth c D A 7 (MQ below (q_Qc D A post) args s rm_X10_sell.cells rm_X10_sell.slots A) 69 (k_X10_sell_69 post K) := by
  unfold k_X10_sell_69
  refine q_bipush C (by decide +kernel : decode cX10_sell 69 = .ok (.bipush (-3), 2)) (by decide) ?_
  exact q_iret C rfl (by decide +kernel : decode cX10_sell 71 = .ok (.ireturn, 1))
set_option maxRecDepth 100000 in
theorem v_X10_sell_0 {p : Program} {l : Launch} {e : Env} {s : State} {m : MethodId} {args : Array Value} {below : List Frame} {meth : Method} {c : Code} {D : va_G} {A : Nat → Prop} {post : Option Value → q_S → Prop} {K : Nat → q_K} (C : q_C p s m args meth c cX10_sell 7 RX10 "sell" (some .int) A) (hK : ∀ h ∈ ([] : List Nat), q_V p l e rm_X10_sell s m args below meth c D A 7 (MQ below (q_Qc D A post) args s rm_X10_sell.cells rm_X10_sell.slots A) h (K h)) : q_V p l e rm_X10_sell s m args below meth c D A 7 (MQ below (q_Qc D A post) args s rm_X10_sell.cells rm_X10_sell.slots A) 0 (k_X10_sell_0 post K) := by
  unfold k_X10_sell_0
  refine q_aload_n C (by decide +kernel : decode cX10_sell 0 = .ok (.aload_n 0, 1)) ?_
  refine q_iload_n C (by decide +kernel : decode cX10_sell 1 = .ok (.iload_n 1, 1)) ?_
  refine q_call2 C (q_coV C (np := 1) (ci := 10) (rc := (RX10, TX10, 10)) (t_X10_workAt l) w9_337 rfl rfl w9_338 w9_339 w9_340 w9_1 (by decide +kernel) (by decide +kernel : decode cX10_sell 2 = .ok (.invokevirtual 87, 3)) (by decide)) ?_
  refine q_astore C (by decide +kernel : decode cX10_sell 5 = .ok (.astore 5, 2)) ?_
  refine q_aload_n C (by decide +kernel : decode cX10_sell 7 = .ok (.aload_n 0, 1)) ?_
  refine q_iload_n C (by decide +kernel : decode cX10_sell 8 = .ok (.iload_n 3, 1)) ?_
  refine q_call2 C (q_coV C (np := 1) (ci := 10) (rc := (RX10, TX10, 10)) (t_X10_personAt l) w9_316 rfl rfl w9_317 w9_318 w9_319 w9_1 (by decide +kernel) (by decide +kernel : decode cX10_sell 9 = .ok (.invokevirtual 68, 3)) (by decide)) ?_
  refine q_astore C (by decide +kernel : decode cX10_sell 12 = .ok (.astore 6, 2)) ?_
  refine q_aload C (by decide +kernel : decode cX10_sell 14 = .ok (.aload 5, 2)) ?_
  refine q_ifnull C (tgt := 44) (by decide +kernel : decode cX10_sell 16 = .ok (.ifnull 28, 3)) (by decide) ?_ ?_
  · exact v_X10_sell_44 C hK
  · refine q_aload C (by decide +kernel : decode cX10_sell 19 = .ok (.aload 6, 2)) ?_
    refine q_ifnull C (tgt := 44) (by decide +kernel : decode cX10_sell 21 = .ok (.ifnull 23, 3)) (by decide) ?_ ?_
    · exact v_X10_sell_44 C hK
    · refine q_aload_n C (by decide +kernel : decode cX10_sell 24 = .ok (.aload_n 0, 1)) ?_
      refine q_iload_n C (by decide +kernel : decode cX10_sell 25 = .ok (.iload_n 2, 1)) ?_
      refine q_iload_n C (by decide +kernel : decode cX10_sell 26 = .ok (.iload_n 3, 1)) ?_
      refine q_call3 C (q_coV C (np := 2) (ci := 10) (rc := (RX10, TX10, 10)) (t_X10_areTwoPersons l) w9_365 rfl rfl w9_366 w9_367 w9_368 w9_1 (by decide +kernel) (by decide +kernel : decode cX10_sell 27 = .ok (.invokevirtual 143, 3)) (by decide)) ?_
      refine q_ifeq C (tgt := 44) (by decide +kernel : decode cX10_sell 30 = .ok (.ifCond .eq 14, 3)) (by decide) ?_ ?_
      · exact v_X10_sell_44 C hK
      · refine q_iload C (by decide +kernel : decode cX10_sell 33 = .ok (.iload 4, 2)) ?_
        refine q_iconst C (by decide +kernel : decode cX10_sell 35 = .ok (.iconst 1, 1)) (by decide) ?_
        refine q_bipush C (by decide +kernel : decode cX10_sell 36 = .ok (.bipush 16, 2)) (by decide) ?_
        refine q_call3 C (q_coS C (np := 3) (t_X10_isWithin l) w9_0 w9_3 w9_2 w9_1 (by decide +kernel) (by decide +kernel : decode cX10_sell 38 = .ok (.invokestatic 63, 3)) (by decide)) ?_
        refine q_ifne C (tgt := 47) (by decide +kernel : decode cX10_sell 41 = .ok (.ifCond .ne 6, 3)) (by decide) ?_ ?_
        · refine q_aload C (by decide +kernel : decode cX10_sell 47 = .ok (.aload 5, 2)) ?_
          refine q_getN C (ci := 9) (j := 2) (C0 := RX9) (T := TX9) (N := 5) rfl iX9 giX9 (by decide) (by decide +kernel) (by decide +kernel : decode cX10_sell 49 = .ok (.getfield 91, 3)) ?_
          refine q_iload_n C (by decide +kernel : decode cX10_sell 52 = .ok (.iload_n 2, 1)) ?_
          refine q_call2 C (q_coV C (np := 1) (ci := 8) (rc := (RX8, TX8, 2)) (t_X8_freeOf l) w9_369 rfl rfl w9_370 w9_371 w9_372 w9_183 (by decide +kernel) (by decide +kernel : decode cX10_sell 53 = .ok (.invokevirtual 147, 3)) (by decide)) ?_
          refine q_iload C (by decide +kernel : decode cX10_sell 56 = .ok (.iload 4, 2)) ?_
          refine q_iclt C (tgt := 69) (by decide +kernel : decode cX10_sell 58 = .ok (.if_icmp .lt 11, 3)) (by decide) ?_ ?_
          · exact v_X10_sell_69 C hK
          · refine q_aload C (by decide +kernel : decode cX10_sell 61 = .ok (.aload 6, 2)) ?_
            refine q_call1 C (q_coV C (np := 0) (ci := 7) (rc := (RX7, TX7, 3)) (t_X7_isToldDead l) w9_120 rfl rfl w9_386 w9_123 w9_124 w9_121 (by decide +kernel) (by decide +kernel : decode cX10_sell 63 = .ok (.invokevirtual 75, 3)) (by decide)) ?_
            refine q_ifeq C (tgt := 72) (by decide +kernel : decode cX10_sell 66 = .ok (.ifCond .eq 6, 3)) (by decide) ?_ ?_
            · refine q_aload C (by decide +kernel : decode cX10_sell 72 = .ok (.aload 5, 2)) ?_
              refine q_getN C (ci := 9) (j := 2) (C0 := RX9) (T := TX9) (N := 5) rfl iX9 giX9 (by decide) (by decide +kernel) (by decide +kernel : decode cX10_sell 74 = .ok (.getfield 91, 3)) ?_
              refine q_iload_n C (by decide +kernel : decode cX10_sell 77 = .ok (.iload_n 2, 1)) ?_
              refine q_iload_n C (by decide +kernel : decode cX10_sell 78 = .ok (.iload_n 3, 1)) ?_
              refine q_iload C (by decide +kernel : decode cX10_sell 79 = .ok (.iload 4, 2)) ?_
              refine q_aload_n C (by decide +kernel : decode cX10_sell 81 = .ok (.aload_n 0, 1)) ?_
              refine q_get C (ci := 10) (j := 0) (C0 := RX10) (T := TX10) (N := 10) rfl iX10 giX10 (by decide) w9_320 (by decide +kernel : decode cX10_sell 82 = .ok (.getfield 9, 3)) ?_
              refine q_call5 C (q_coV C (np := 4) (ci := 8) (rc := (RX8, TX8, 2)) (t_X8_move l) w9_212 rfl rfl w9_426 w9_214 w9_215 w9_183 (by decide +kernel) (by decide +kernel : decode cX10_sell 85 = .ok (.invokevirtual 151, 3)) (by decide)) ?_
              refine q_iconst C (by decide +kernel : decode cX10_sell 88 = .ok (.iconst 1, 1)) (by decide) ?_
              exact q_iret C rfl (by decide +kernel : decode cX10_sell 89 = .ok (.ireturn, 1))
            · exact v_X10_sell_69 C hK
        · exact v_X10_sell_44 C hK
theorem u_X10_sell (l : Launch) {sp : q_Sp} (H : ∀ (av : List Value) (σ : q_S) (post : Option Value → q_S → Prop), sp av σ post → k_X10_sell_0 post (fun _ _ _ _ _ _ => False) (q_L0 av 7) [] σ 2 16 ∧ av.length ≤ 7 ∧ ∀ v ∈ av, v.category = 1) : q_Ct l yX10_sell cX10_sell 7 (some .int) rm_X10_sell sp := by
  refine q_met (by decide) ?_
  intro D A p e s m args below meth c σ av post C hsp
  obtain ⟨h1, h2, h3⟩ := H av σ post hsp
  exact ⟨_, v_X10_sell_0 (K := fun _ _ _ _ _ _ => False) C (fun h hh => by cases hh), h1, h2, h3⟩
theorem t_X10_sell (l : Launch) : q_Ct l yX10_sell cX10_sell 7 (some .int) rm_X10_sell s_X10_sell := u_X10_sell l (by
  intro av σ post h
  unfold s_X10_sell at h
  split at h
  · next r w a b n =>
    refine ⟨?_, by simp, by simp [Value.category]⟩
    obtain ⟨z, g, hR, hI, hEN, h14, h1⟩ := h
    have hR0 := hR
    obtain ⟨Rg, P, AC, AR, WK, LC, CL, CM, CP, pa, aa, wa, sa, ga, la, lra, lc, lrn, hD⟩ := hR
    have e1 := hD.p1.2
    have e2 := hD.p2.1.2
    have e4 := hD.p4.1.2
    have o1 : q_oc σ r = some 10 := by simp only [q_oc, e1]
    have f0 : q_fld σ r 10 0 = some (.int (z 0)) := by simp only [q_fld, e1, if_true]; rfl
    have h20 := hI.n20
    have hI14 := hI.2.2.2.2.1
    unfold F_sell at h1
    by_cases c : twoF z w a b ∧ 1 ≤ n ∧ n ≤ 16
    · rw [if_pos c] at h1
      have ca : 0 ≤ w ∧ w < z 11 := c.1.1
      have hlw : w.toNatClampNeg < nwF z := ltN ca.1 ca.2
      have ct : ¬ a = b ∧ (0 ≤ a ∧ a < z 1) ∧ (0 ≤ b ∧ b < z 1) := ⟨c.1.2.2.2, c.1.2.1, c.1.2.2.1⟩
      have hI12 := hI.2.1.2
      have ha11 : 0 ≤ a ∧ a ≤ 11 := by grind
      have hb11 : 0 ≤ b ∧ b ≤ 11 := by grind
      have w1 := (hD.p4.2 _ hlw).2
      have g2 : q_fld σ (wa w.toNatClampNeg) 9 2 = some (.ref (sa w.toNatClampNeg)) := by simp only [q_fld, w1, if_true]; rfl
      obtain ⟨x, t, hS, hP, hx⟩ := (hD.sh hlw h20).hd (hEN _ hlw).2
      have os := hS.oc
      have hpa := plc (p := a) (by grind)
      have hpb := plc (p := b) (by grind)
      have hx2 := hx a hpa.2
      rw [hpa.1, nI_self ca.1] at hx2
      have hpn : b.toNatClampNeg < npF z := ltN ct.2.2.1 ct.2.2.2
      have e3 := (hD.p2.2.1 _ hpn).2
      have o7 : q_oc σ (pa b.toNatClampNeg) = some 7 := by simp only [q_oc, e3]
      simp only [c_push, c_null, c_iload, c_aload, c_istore, c_astore, c_iinc, c_iadd, c_isub, c_imul, c_iand, c_ineg, c_dup, c_dup2, c_pop, c_ifnull, c_ifnonnull, c_get, c_put, c_iald, c_zald, c_iast, c_zast, c_aald, c_aast, c_alen, c_new, c_newa, c_newq, c_mna, c_oinit, c_max, c_copy, c_iret, c_zret, c_aret, c_vret, q_do, q_rc, c_ifeq, c_ifne, c_iflt, c_ifge, c_ifgt, c_ifle, c_iceq, c_icne, c_iclt, c_icge, c_icgt, c_icle, c_call0, c_call1, c_call2, c_call3, c_call4, c_call5, c_call6, c_call7, q_L0, List.map_cons, List.map_nil, List.replicate, List.cons_append, List.nil_append, List.append_nil, List.length_cons, List.length_nil, List.length_set, Nat.reduceSub, Nat.reduceAdd, Nat.reduceLT, Nat.reduceLeDiff, Nat.zero_add, Nat.add_zero, Nat.sub_zero, Nat.sub_self, List.getElem?_cons_zero, List.getElem?_cons_succ, List.set_cons_zero, List.set_cons_succ, Option.toList_some, Option.toList_none, List.sum_cons, List.sum_nil, true_and, and_true, true_or, or_true, Nat.le_refl, Nat.zero_le, Value.category, Fin.isValue, Fin.val_zero, Fin.val_one, Fin.val_two, Fin.reduceFinMk, q_10, q_01, not_false_eq_true, not_true_eq_false, forall_const, true_implies, false_implies, implies_true, q_ni, q_fi, q_nb0, q_nb1, q_fb0, q_fb1, q_nor, q_nar, q_for, q_far, q_non, q_nan, q_fon, q_fan, imp_false, false_and, and_false, and_self, false_or, or_false, va_rf, refKind, k_X10_sell_0, k_X10_sell_44, k_X10_sell_69, o1, o7, f0, wAt e1 e4 hI.2.2.2.1, pAt e1 e2 hI.2.1, tAt e1 e2 hI.2.1, ca, ct, g2, os, s_X10_isWithin, c.2]
      refine ⟨_, _, x, t, hS, ha11, ?_⟩
      rw [hx2, plM_eq]
      have ef : holdsF g w a (z 0) (mvF z) - plF g w.toNatClampNeg a.toNatClampNeg 12 = freeF z g w a := rfl
      rw [ef]
      by_cases cf : freeF z g w a < n
      · rw [if_pos (Or.inl cf)] at h1
        have h2 := h1 _ hR0
        simp only [c_push, c_null, c_iload, c_aload, c_istore, c_astore, c_iinc, c_iadd, c_isub, c_imul, c_iand, c_ineg, c_dup, c_dup2, c_pop, c_ifnull, c_ifnonnull, c_get, c_put, c_iald, c_zald, c_iast, c_zast, c_aald, c_aast, c_alen, c_new, c_newa, c_newq, c_mna, c_oinit, c_max, c_copy, c_iret, c_zret, c_aret, c_vret, q_do, q_rc, c_ifeq, c_ifne, c_iflt, c_ifge, c_ifgt, c_ifle, c_iceq, c_icne, c_iclt, c_icge, c_icgt, c_icle, c_call0, c_call1, c_call2, c_call3, c_call4, c_call5, c_call6, c_call7, q_L0, List.map_cons, List.map_nil, List.replicate, List.cons_append, List.nil_append, List.append_nil, List.length_cons, List.length_nil, List.length_set, Nat.reduceSub, Nat.reduceAdd, Nat.reduceLT, Nat.reduceLeDiff, Nat.zero_add, Nat.add_zero, Nat.sub_zero, Nat.sub_self, List.getElem?_cons_zero, List.getElem?_cons_succ, List.set_cons_zero, List.set_cons_succ, Option.toList_some, Option.toList_none, List.sum_cons, List.sum_nil, true_and, and_true, true_or, or_true, Nat.le_refl, Nat.zero_le, Value.category, Fin.isValue, Fin.val_zero, Fin.val_one, Fin.val_two, Fin.reduceFinMk, q_10, q_01, not_false_eq_true, not_true_eq_false, forall_const, true_implies, false_implies, implies_true, q_ni, q_fi, q_nb0, q_nb1, q_fb0, q_fb1, q_nor, q_nar, q_for, q_far, q_non, q_nan, q_fon, q_fan, imp_false, false_and, and_false, and_self, false_or, or_false, va_rf, refKind, cf, show ¬ n ≤ freeF z g w a by grind, h2]
      · by_cases cd : g 3 b.toNatClampNeg = -1
        · rw [if_neg (fun h => by rcases h with h | h; exact cf h; exact h cd)] at h1
          dsimp only at h1
          simp only [c_push, c_null, c_iload, c_aload, c_istore, c_astore, c_iinc, c_iadd, c_isub, c_imul, c_iand, c_ineg, c_dup, c_dup2, c_pop, c_ifnull, c_ifnonnull, c_get, c_put, c_iald, c_zald, c_iast, c_zast, c_aald, c_aast, c_alen, c_new, c_newa, c_newq, c_mna, c_oinit, c_max, c_copy, c_iret, c_zret, c_aret, c_vret, q_do, q_rc, c_ifeq, c_ifne, c_iflt, c_ifge, c_ifgt, c_ifle, c_iceq, c_icne, c_iclt, c_icge, c_icgt, c_icle, c_call0, c_call1, c_call2, c_call3, c_call4, c_call5, c_call6, c_call7, q_L0, List.map_cons, List.map_nil, List.replicate, List.cons_append, List.nil_append, List.append_nil, List.length_cons, List.length_nil, List.length_set, Nat.reduceSub, Nat.reduceAdd, Nat.reduceLT, Nat.reduceLeDiff, Nat.zero_add, Nat.add_zero, Nat.sub_zero, Nat.sub_self, List.getElem?_cons_zero, List.getElem?_cons_succ, List.set_cons_zero, List.set_cons_succ, Option.toList_some, Option.toList_none, List.sum_cons, List.sum_nil, true_and, and_true, true_or, or_true, Nat.le_refl, Nat.zero_le, Value.category, Fin.isValue, Fin.val_zero, Fin.val_one, Fin.val_two, Fin.reduceFinMk, q_10, q_01, not_false_eq_true, not_true_eq_false, forall_const, true_implies, false_implies, implies_true, q_ni, q_fi, q_nb0, q_nb1, q_fb0, q_fb1, q_nor, q_nar, q_for, q_far, q_non, q_nan, q_fon, q_fan, imp_false, false_and, and_false, and_self, false_or, or_false, va_rf, refKind, o1, o7, f0, cf, g2, os, show n ≤ freeF z g w a by grind, s_X7_isToldDead, e3, cd]
          refine ⟨_, _, x, t, hS, fun σ' R' x' hx1' hx2' hS' hf => ?_⟩
          simp only [c_push, c_null, c_iload, c_aload, c_istore, c_astore, c_iinc, c_iadd, c_isub, c_imul, c_iand, c_ineg, c_dup, c_dup2, c_pop, c_ifnull, c_ifnonnull, c_get, c_put, c_iald, c_zald, c_iast, c_zast, c_aald, c_aast, c_alen, c_new, c_newa, c_newq, c_mna, c_oinit, c_max, c_copy, c_iret, c_zret, c_aret, c_vret, q_do, q_rc, c_ifeq, c_ifne, c_iflt, c_ifge, c_ifgt, c_ifle, c_iceq, c_icne, c_iclt, c_icge, c_icgt, c_icle, c_call0, c_call1, c_call2, c_call3, c_call4, c_call5, c_call6, c_call7, q_L0, List.map_cons, List.map_nil, List.replicate, List.cons_append, List.nil_append, List.append_nil, List.length_cons, List.length_nil, List.length_set, Nat.reduceSub, Nat.reduceAdd, Nat.reduceLT, Nat.reduceLeDiff, Nat.zero_add, Nat.add_zero, Nat.sub_zero, Nat.sub_self, List.getElem?_cons_zero, List.getElem?_cons_succ, List.set_cons_zero, List.set_cons_succ, Option.toList_some, Option.toList_none, List.sum_cons, List.sum_nil, true_and, and_true, true_or, or_true, Nat.le_refl, Nat.zero_le, Value.category, Fin.isValue, Fin.val_zero, Fin.val_one, Fin.val_two, Fin.reduceFinMk, q_10, q_01, not_false_eq_true, not_true_eq_false, forall_const, true_implies, false_implies, implies_true, q_ni, q_fi, q_nb0, q_nb1, q_fb0, q_fb1, q_nor, q_nar, q_for, q_far, q_non, q_nan, q_fon, q_fan, imp_false, false_and, and_false, and_self, false_or, or_false, va_rf, refKind]
          refine h1 _ (hD.shset h20 hlw (fun k hk => by unfold upd; rw [if_neg hk]) (fun k hk => moveF_ne _ _ _ _ _ _ _ (by omega)) (by rw [moveF_ne _ _ _ _ _ _ 20 (by omega)]; exact hS') ?_ hf (fun j pgs hj hj2 h => ?_) (fun j p q _ _ _ => by rw [moveF_ne _ _ _ _ _ _ 20 (by omega)]))
          · have := hP.move (a := a) (b := b) (n := n) ⟨hI14.1, h14⟩ hpa.2 hpb.2 hx1' hx2'
            rw [hpa.1, hpb.1, nI_self ca.1] at this
            exact this
          · have := h.other (i := w.toNatClampNeg) (a := a) (b := b) (n := n) ⟨hI14.1, h14⟩ hj (by omega) (by omega)
            rw [nI_self ca.1] at this
            exact this
        · rw [if_pos (Or.inr cd)] at h1
          have h2 := h1 _ hR0
          simp only [c_push, c_null, c_iload, c_aload, c_istore, c_astore, c_iinc, c_iadd, c_isub, c_imul, c_iand, c_ineg, c_dup, c_dup2, c_pop, c_ifnull, c_ifnonnull, c_get, c_put, c_iald, c_zald, c_iast, c_zast, c_aald, c_aast, c_alen, c_new, c_newa, c_newq, c_mna, c_oinit, c_max, c_copy, c_iret, c_zret, c_aret, c_vret, q_do, q_rc, c_ifeq, c_ifne, c_iflt, c_ifge, c_ifgt, c_ifle, c_iceq, c_icne, c_iclt, c_icge, c_icgt, c_icle, c_call0, c_call1, c_call2, c_call3, c_call4, c_call5, c_call6, c_call7, q_L0, List.map_cons, List.map_nil, List.replicate, List.cons_append, List.nil_append, List.append_nil, List.length_cons, List.length_nil, List.length_set, Nat.reduceSub, Nat.reduceAdd, Nat.reduceLT, Nat.reduceLeDiff, Nat.zero_add, Nat.add_zero, Nat.sub_zero, Nat.sub_self, List.getElem?_cons_zero, List.getElem?_cons_succ, List.set_cons_zero, List.set_cons_succ, Option.toList_some, Option.toList_none, List.sum_cons, List.sum_nil, true_and, and_true, true_or, or_true, Nat.le_refl, Nat.zero_le, Value.category, Fin.isValue, Fin.val_zero, Fin.val_one, Fin.val_two, Fin.reduceFinMk, q_10, q_01, not_false_eq_true, not_true_eq_false, forall_const, true_implies, false_implies, implies_true, q_ni, q_fi, q_nb0, q_nb1, q_fb0, q_fb1, q_nor, q_nar, q_for, q_far, q_non, q_nan, q_fon, q_fan, imp_false, false_and, and_false, and_self, false_or, or_false, va_rf, refKind, o1, o7, f0, cf, g2, os, show n ≤ freeF z g w a by grind, s_X7_isToldDead, e3, cd, h2]
    · rw [if_neg c] at h1
      have h2 := h1 _ hR0
      clear h1
      by_cases ca : 0 ≤ w ∧ w < z 11
      · by_cases cb : 0 ≤ b ∧ b < z 1
        · by_cases ct : ¬ a = b ∧ (0 ≤ a ∧ a < z 1) ∧ (0 ≤ b ∧ b < z 1)
          · have cn : ¬ (1 ≤ n ∧ n ≤ 16) := fun h => c ⟨⟨ca, ct.2.1, ct.2.2, ct.1⟩, h⟩
            simp only [c_push, c_null, c_iload, c_aload, c_istore, c_astore, c_iinc, c_iadd, c_isub, c_imul, c_iand, c_ineg, c_dup, c_dup2, c_pop, c_ifnull, c_ifnonnull, c_get, c_put, c_iald, c_zald, c_iast, c_zast, c_aald, c_aast, c_alen, c_new, c_newa, c_newq, c_mna, c_oinit, c_max, c_copy, c_iret, c_zret, c_aret, c_vret, q_do, q_rc, c_ifeq, c_ifne, c_iflt, c_ifge, c_ifgt, c_ifle, c_iceq, c_icne, c_iclt, c_icge, c_icgt, c_icle, c_call0, c_call1, c_call2, c_call3, c_call4, c_call5, c_call6, c_call7, q_L0, List.map_cons, List.map_nil, List.replicate, List.cons_append, List.nil_append, List.append_nil, List.length_cons, List.length_nil, List.length_set, Nat.reduceSub, Nat.reduceAdd, Nat.reduceLT, Nat.reduceLeDiff, Nat.zero_add, Nat.add_zero, Nat.sub_zero, Nat.sub_self, List.getElem?_cons_zero, List.getElem?_cons_succ, List.set_cons_zero, List.set_cons_succ, Option.toList_some, Option.toList_none, List.sum_cons, List.sum_nil, true_and, and_true, true_or, or_true, Nat.le_refl, Nat.zero_le, Value.category, Fin.isValue, Fin.val_zero, Fin.val_one, Fin.val_two, Fin.reduceFinMk, q_10, q_01, not_false_eq_true, not_true_eq_false, forall_const, true_implies, false_implies, implies_true, q_ni, q_fi, q_nb0, q_nb1, q_fb0, q_fb1, q_nor, q_nar, q_for, q_far, q_non, q_nan, q_fon, q_fan, imp_false, false_and, and_false, and_self, false_or, or_false, va_rf, refKind, k_X10_sell_0, k_X10_sell_44, k_X10_sell_69, o1, wAt e1 e4 hI.2.2.2.1, pAt e1 e2 hI.2.1, tAt e1 e2 hI.2.1, ca, cb, ct, s_X10_isWithin, cn, h2]
          · have ct2 : ¬ (¬ a = b ∧ 0 ≤ a ∧ a < z 1) := fun h => ct ⟨h.1, h.2, cb⟩
            simp only [c_push, c_null, c_iload, c_aload, c_istore, c_astore, c_iinc, c_iadd, c_isub, c_imul, c_iand, c_ineg, c_dup, c_dup2, c_pop, c_ifnull, c_ifnonnull, c_get, c_put, c_iald, c_zald, c_iast, c_zast, c_aald, c_aast, c_alen, c_new, c_newa, c_newq, c_mna, c_oinit, c_max, c_copy, c_iret, c_zret, c_aret, c_vret, q_do, q_rc, c_ifeq, c_ifne, c_iflt, c_ifge, c_ifgt, c_ifle, c_iceq, c_icne, c_iclt, c_icge, c_icgt, c_icle, c_call0, c_call1, c_call2, c_call3, c_call4, c_call5, c_call6, c_call7, q_L0, List.map_cons, List.map_nil, List.replicate, List.cons_append, List.nil_append, List.append_nil, List.length_cons, List.length_nil, List.length_set, Nat.reduceSub, Nat.reduceAdd, Nat.reduceLT, Nat.reduceLeDiff, Nat.zero_add, Nat.add_zero, Nat.sub_zero, Nat.sub_self, List.getElem?_cons_zero, List.getElem?_cons_succ, List.set_cons_zero, List.set_cons_succ, Option.toList_some, Option.toList_none, List.sum_cons, List.sum_nil, true_and, and_true, true_or, or_true, Nat.le_refl, Nat.zero_le, Value.category, Fin.isValue, Fin.val_zero, Fin.val_one, Fin.val_two, Fin.reduceFinMk, q_10, q_01, not_false_eq_true, not_true_eq_false, forall_const, true_implies, false_implies, implies_true, q_ni, q_fi, q_nb0, q_nb1, q_fb0, q_fb1, q_nor, q_nar, q_for, q_far, q_non, q_nan, q_fon, q_fan, imp_false, false_and, and_false, and_self, false_or, or_false, va_rf, refKind, k_X10_sell_0, k_X10_sell_44, k_X10_sell_69, o1, wAt e1 e4 hI.2.2.2.1, pAt e1 e2 hI.2.1, tAt e1 e2 hI.2.1, ca, cb, s_X10_isWithin, h2]
            exact fun h => absurd h ct2
        · simp only [c_push, c_null, c_iload, c_aload, c_istore, c_astore, c_iinc, c_iadd, c_isub, c_imul, c_iand, c_ineg, c_dup, c_dup2, c_pop, c_ifnull, c_ifnonnull, c_get, c_put, c_iald, c_zald, c_iast, c_zast, c_aald, c_aast, c_alen, c_new, c_newa, c_newq, c_mna, c_oinit, c_max, c_copy, c_iret, c_zret, c_aret, c_vret, q_do, q_rc, c_ifeq, c_ifne, c_iflt, c_ifge, c_ifgt, c_ifle, c_iceq, c_icne, c_iclt, c_icge, c_icgt, c_icle, c_call0, c_call1, c_call2, c_call3, c_call4, c_call5, c_call6, c_call7, q_L0, List.map_cons, List.map_nil, List.replicate, List.cons_append, List.nil_append, List.append_nil, List.length_cons, List.length_nil, List.length_set, Nat.reduceSub, Nat.reduceAdd, Nat.reduceLT, Nat.reduceLeDiff, Nat.zero_add, Nat.add_zero, Nat.sub_zero, Nat.sub_self, List.getElem?_cons_zero, List.getElem?_cons_succ, List.set_cons_zero, List.set_cons_succ, Option.toList_some, Option.toList_none, List.sum_cons, List.sum_nil, true_and, and_true, true_or, or_true, Nat.le_refl, Nat.zero_le, Value.category, Fin.isValue, Fin.val_zero, Fin.val_one, Fin.val_two, Fin.reduceFinMk, q_10, q_01, not_false_eq_true, not_true_eq_false, forall_const, true_implies, false_implies, implies_true, q_ni, q_fi, q_nb0, q_nb1, q_fb0, q_fb1, q_nor, q_nar, q_for, q_far, q_non, q_nan, q_fon, q_fan, imp_false, false_and, and_false, and_self, false_or, or_false, va_rf, refKind, k_X10_sell_0, k_X10_sell_44, k_X10_sell_69, o1, wAt e1 e4 hI.2.2.2.1, pAt e1 e2 hI.2.1, tAt e1 e2 hI.2.1, ca, cb, s_X10_isWithin, h2]
      · by_cases cb : 0 ≤ b ∧ b < z 1
        · simp only [c_push, c_null, c_iload, c_aload, c_istore, c_astore, c_iinc, c_iadd, c_isub, c_imul, c_iand, c_ineg, c_dup, c_dup2, c_pop, c_ifnull, c_ifnonnull, c_get, c_put, c_iald, c_zald, c_iast, c_zast, c_aald, c_aast, c_alen, c_new, c_newa, c_newq, c_mna, c_oinit, c_max, c_copy, c_iret, c_zret, c_aret, c_vret, q_do, q_rc, c_ifeq, c_ifne, c_iflt, c_ifge, c_ifgt, c_ifle, c_iceq, c_icne, c_iclt, c_icge, c_icgt, c_icle, c_call0, c_call1, c_call2, c_call3, c_call4, c_call5, c_call6, c_call7, q_L0, List.map_cons, List.map_nil, List.replicate, List.cons_append, List.nil_append, List.append_nil, List.length_cons, List.length_nil, List.length_set, Nat.reduceSub, Nat.reduceAdd, Nat.reduceLT, Nat.reduceLeDiff, Nat.zero_add, Nat.add_zero, Nat.sub_zero, Nat.sub_self, List.getElem?_cons_zero, List.getElem?_cons_succ, List.set_cons_zero, List.set_cons_succ, Option.toList_some, Option.toList_none, List.sum_cons, List.sum_nil, true_and, and_true, true_or, or_true, Nat.le_refl, Nat.zero_le, Value.category, Fin.isValue, Fin.val_zero, Fin.val_one, Fin.val_two, Fin.reduceFinMk, q_10, q_01, not_false_eq_true, not_true_eq_false, forall_const, true_implies, false_implies, implies_true, q_ni, q_fi, q_nb0, q_nb1, q_fb0, q_fb1, q_nor, q_nar, q_for, q_far, q_non, q_nan, q_fon, q_fan, imp_false, false_and, and_false, and_self, false_or, or_false, va_rf, refKind, k_X10_sell_0, k_X10_sell_44, k_X10_sell_69, o1, wAt e1 e4 hI.2.2.2.1, pAt e1 e2 hI.2.1, tAt e1 e2 hI.2.1, ca, cb, s_X10_isWithin, h2]
        · simp only [c_push, c_null, c_iload, c_aload, c_istore, c_astore, c_iinc, c_iadd, c_isub, c_imul, c_iand, c_ineg, c_dup, c_dup2, c_pop, c_ifnull, c_ifnonnull, c_get, c_put, c_iald, c_zald, c_iast, c_zast, c_aald, c_aast, c_alen, c_new, c_newa, c_newq, c_mna, c_oinit, c_max, c_copy, c_iret, c_zret, c_aret, c_vret, q_do, q_rc, c_ifeq, c_ifne, c_iflt, c_ifge, c_ifgt, c_ifle, c_iceq, c_icne, c_iclt, c_icge, c_icgt, c_icle, c_call0, c_call1, c_call2, c_call3, c_call4, c_call5, c_call6, c_call7, q_L0, List.map_cons, List.map_nil, List.replicate, List.cons_append, List.nil_append, List.append_nil, List.length_cons, List.length_nil, List.length_set, Nat.reduceSub, Nat.reduceAdd, Nat.reduceLT, Nat.reduceLeDiff, Nat.zero_add, Nat.add_zero, Nat.sub_zero, Nat.sub_self, List.getElem?_cons_zero, List.getElem?_cons_succ, List.set_cons_zero, List.set_cons_succ, Option.toList_some, Option.toList_none, List.sum_cons, List.sum_nil, true_and, and_true, true_or, or_true, Nat.le_refl, Nat.zero_le, Value.category, Fin.isValue, Fin.val_zero, Fin.val_one, Fin.val_two, Fin.reduceFinMk, q_10, q_01, not_false_eq_true, not_true_eq_false, forall_const, true_implies, false_implies, implies_true, q_ni, q_fi, q_nb0, q_nb1, q_fb0, q_fb1, q_nor, q_nar, q_for, q_far, q_non, q_nan, q_fon, q_fan, imp_false, false_and, and_false, and_self, false_or, or_false, va_rf, refKind, k_X10_sell_0, k_X10_sell_44, k_X10_sell_69, o1, wAt e1 e4 hI.2.2.2.1, pAt e1 e2 hI.2.1, tAt e1 e2 hI.2.1, ca, cb, s_X10_isWithin, h2]
  · exact h.elim)
