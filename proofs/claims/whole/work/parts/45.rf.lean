-- work of the register
theorem nwF_s {z : Nat → Int32} (h : 0 ≤ z 11 ∧ z 11 < 20) : nwF (upd z 11 (z 11 + 1)) = nwF z + 1 := by
  have e := nI_self h.1
  have h2 := clamp_lt 20 h.1 h.2
  unfold nwF
  show (z 11 + 1).toNatClampNeg = _
  rw [← e, nI_1, clN (by omega), clN (by omega)]
def MW (z : Nat → Int32) (g : Nat → Nat → Int32) : Prop := ∀ k, k < mvF z → 0 ≤ g 16 k ∧ g 16 k < z 11
def ZW (z : Nat → Int32) (g : Nat → Nat → Int32) : Prop := ∀ w, nwF z ≤ w → w < 20 → (∀ p q, p < 12 → q < 12 → g 20 (144 * w + 12 * p + q) = 0) ∧ ∀ p, p < 12 → g 21 (12 * w + p) = 0
theorem holdsF_no {g : Nat → Nat → Int32} {w p t : Int32} : ∀ n, (∀ k, k < n → g 16 k ≠ w) → holdsF g w p t n = if g 12 w.toNatClampNeg = p then 16 else 0
  | 0, _ => rfl
  | n + 1, h => by rw [holdsF, if_neg (fun h9 => h n (by omega) h9.1), holdsF_no n (fun k hk => h k (by omega))]
theorem holdsF_cw {g g' : Nat → Nat → Int32} {w p t : Int32} (h12 : g' 12 w.toNatClampNeg = g 12 w.toNatClampNeg) (h15 : g' 15 = g 15) (h16 : g' 16 = g 16) (h17 : g' 17 = g 17) (h18 : g' 18 = g 18) (h19 : g' 19 = g 19) : ∀ n, holdsF g' w p t n = holdsF g w p t n
  | 0 => by rw [holdsF, holdsF, h12]
  | n + 1 => by rw [holdsF, holdsF, h15, h16, h17, h18, h19, holdsF_cw h12 h15 h16 h17 h18 h19 n]
abbrev gW (z : Nat → Int32) (g : Nat → Nat → Int32) (p : Int32) : Nat → Nat → Int32 := gup (gup (gup g 12 (nwF z) p) 13 (nwF z) (z 0)) 29 (nwF z) 0
theorem gW_o {z : Nat → Int32} {g : Nat → Nat → Int32} {p : Int32} {k : Nat} (h : k ≠ 12 ∧ k ≠ 13 ∧ k ≠ 29) : gW z g p k = g k := by
  unfold gW
  rw [gup_n h.2.2, gup_n h.2.1, gup_n h.1]
theorem gW_12 {z : Nat → Int32} {g : Nat → Nat → Int32} {p : Int32} {j : Nat} : gW z g p 12 j = if j = nwF z then p else g 12 j := by
  unfold gW
  rw [gup_n (by decide), gup_n (by decide), gup_s]
theorem gW_13 {z : Nat → Int32} {g : Nat → Nat → Int32} {p : Int32} {j : Nat} : gW z g p 13 j = if j = nwF z then z 0 else g 13 j := by
  unfold gW
  rw [gup_n (by decide), gup_s, gup_n (by decide)]
theorem gW_29 {z : Nat → Int32} {g : Nat → Nat → Int32} {p : Int32} {j : Nat} : gW z g p 29 j = if j = nwF z then 0 else g 29 j := by
  unfold gW
  rw [gup_s, gup_n (by decide), gup_n (by decide)]
theorem PgR.wk {z : Nat → Int32} {g : Nat → Nat → Int32} {p : Int32} {j : Nat} {pgs : List pgT} {v : Int32} (h : PgR z g j pgs) (hj : j < nwF z) (h20 : nwF z ≤ 20) : PgR (upd z 11 v) (gW z g p) j pgs := by
  obtain ⟨h1, h2, h3⟩ := h
  refine ⟨h1, h2, fun t p2 ht hp => ?_⟩
  rw [gW_13, if_neg (by omega)] at ht
  rw [h3 t p2 ht hp]
  exact (holdsF_cw (by rw [clN (by omega), gW_12, if_neg (by omega)]) (gW_o (by decide)) (gW_o (by decide)) (gW_o (by decide)) (gW_o (by decide)) (gW_o (by decide)) _).symm
theorem PgR.new {z : Nat → Int32} {g : Nat → Nat → Int32} {p : Int32} {x : pgT} (hp : 0 ≤ p ∧ p < 12) (h11 : 0 ≤ z 11) (h20 : nwF z < 20) (hM : MW z g) (hx1 : x.1 = z 0) (hx2 : ∀ i, i < 13 → x.2.2.2 i = chF (fun _ => 0) p 16 i) {v : Int32} : PgR (upd z 11 v) (gW z g p) (nwF z) [x] := by
  refine ⟨⟨x, [], rfl, by rw [hx1]; exact Int32.le_refl _⟩, trivial, fun t p2 ht hp2 => ?_⟩
  rw [gW_13, if_pos rfl] at ht
  rw [pvF, hx1, if_pos ht]
  have e1 : holdsF (gW z g p) (nI (nwF z)) (plcF p2) t (mvF (upd z 11 v)) = if gW z g p 12 (nI (nwF z)).toNatClampNeg = plcF p2 then 16 else 0 := holdsF_no _ (fun k hk => by
    rw [gW_o (by decide)]
    have k1 := hM k hk
    have k2 := nI_self h11
    intro e
    have e9 : nI (nwF z) = z 11 := k2
    rw [e9] at e
    rw [e] at k1
    exact Int32.lt_irrefl k1.2)
  rw [e1, clN (by omega), gW_12, if_pos rfl]
  have hq := plc hp
  unfold shF
  rw [if_pos hp2, hx2 _ (clamp_lt 13 hp2.1 hp2.2)]
  unfold chF upd
  rw [if_pos hq.2]
  dsimp only
  rw [hq.1]
  obtain ⟨i, hi, a1, a2⟩ := inR 12 hp.1 hp.2
  obtain ⟨j, hj, b1, b2⟩ := inR 13 hp2.1 hp2.2
  rw [b1, a1, clN (by omega), clN (by omega)]
  have e3 := (cl2 (nI i) (nI j) _ _ rfl rfl (by omega) (by omega)).2.2
  by_cases c : i = j
  · subst c
    rw [if_pos rfl, if_pos rfl]; decide
  · rw [if_neg (fun h => c h.symm), if_neg (fun h => c (e3.mp h))]
abbrev wkR (σ : q_S) (Rg : Nat → Nat → Prop) (R : Nat → Prop) (q ga la ra n : Nat) (t a : Nat) : Prop := ((t = 1 ∨ t = 4) ∧ Rg t a ∧ σ a ≠ none) ∨ (t = 4 ∧ a = q) ∨ (t = 100 + n ∧ R a) ∨ (t = 200 + n ∧ a = ga) ∨ (t = 300 + n ∧ (a = la ∨ a = ra))
theorem wk_disj {σ : q_S} {Rg : Nat → Nat → Prop} {R : Nat → Prop} {q ga la ra n : Nat} (hd : ∀ t t' a, Rg t a → Rg t' a → t = t') (hq : σ q = none) (hga : σ ga = none ∧ ga ≠ q) (hla : σ la = none ∧ la ≠ q) (hra : σ ra = none ∧ ra ≠ q) (hR : ∀ a, R a → σ a = none ∧ a ≠ q ∧ a ≠ ga ∧ a ≠ la ∧ a ≠ ra) (hgl : ga ≠ la ∧ ga ≠ ra) : ∀ t t' a, wkR σ Rg R q ga la ra n t a → wkR σ Rg R q ga la ra n t' a → t = t' := by
  have key : ∀ t a, wkR σ Rg R q ga la ra n t a → (σ a ≠ none ∧ Rg t a) ∨ (σ a = none ∧ t = 4 ∧ a = q) ∨ (σ a = none ∧ t = 100 + n ∧ R a) ∨ (σ a = none ∧ t = 200 + n ∧ a = ga) ∨ (σ a = none ∧ t = 300 + n ∧ (a = la ∨ a = ra)) := by
    rintro t a (⟨-, h1, h2⟩ | ⟨h1, h2⟩ | ⟨h1, h2⟩ | ⟨h1, h2⟩ | ⟨h1, h2⟩)
    · exact Or.inl ⟨h2, h1⟩
    · exact Or.inr (Or.inl ⟨by rw [h2]; exact hq, h1, h2⟩)
    · exact Or.inr (Or.inr (Or.inl ⟨(hR a h2).1, h1, h2⟩))
    · exact Or.inr (Or.inr (Or.inr (Or.inl ⟨by rw [h2]; exact hga.1, h1, h2⟩)))
    · refine Or.inr (Or.inr (Or.inr (Or.inr ⟨?_, h1, h2⟩)))
      rcases h2 with h2 | h2
      · rw [h2]; exact hla.1
      · rw [h2]; exact hra.1
  intro t t' a h1 h2
  rcases key t a h1 with ⟨a1, a2⟩ | ⟨a1, a2, a3⟩ | ⟨a1, a2, a3⟩ | ⟨a1, a2, a3⟩ | ⟨a1, a2, a3⟩ <;> rcases key t' a h2 with ⟨b1, b2⟩ | ⟨b1, b2, b3⟩ | ⟨b1, b2, b3⟩ | ⟨b1, b2, b3⟩ | ⟨b1, b2, b3⟩
  all_goals first
    | exact hd _ _ _ a2 b2
    | exact absurd b1 a1
    | exact absurd a1 b1
    | (rw [a2, b2]; done)
    | (exfalso; have := hR a a3; grind)
    | (exfalso; have := hR a b3; grind)
    | (exfalso; grind)
def s_X10_work : q_Sp := fun av σ post => match av with
  | [.ref r, .int p] => ∃ z g, RegOK σ r z g ∧ I1 z ∧ MW z g ∧ ZW z g ∧ ∀ σ', RegOK σ' r (F_work z g p).2.1 (F_work z g p).2.2 → post (some (.int (F_work z g p).1)) σ'
  | _ => False
theorem w9_439 : (.classLink RX10 31 RX9 : Cond) ∈ lw_tbl := by decide +kernel
theorem w9_440 : (.instantiable RX9 5 : Cond) ∈ lw_tbl := by decide +kernel
theorem w9_441 : (.code yX9_init cX9_init 4 none : Cond) ∈ lw_tbl := by decide +kernel
theorem w9_442 : (.methodLink RX10 123 yX9_init : Cond) ∈ lw_tbl := by decide +kernel
theorem w9_443 : (.instanceMethod yX9_init : Cond) ∈ lw_tbl := by decide +kernel
def rm_X10_work : Room := { frames := 4, cells := 20, slots := 213, locals := 127 }
def k_X10_work_0 (post : Option Value → q_S → Prop) (K : Nat → q_K) : q_K := (c_aload 0 (c_iload 1 (c_call2 (some 10) s_X10_personAt 0 0 (c_astore 2 (c_aload 2 (c_ifnonnull (c_aload 2 (c_call1 (some 7) s_X7_isToldDead 0 0 (c_ifeq (c_aload 0 (c_get 10 5 (c_push 20 (c_iclt (c_aload 0 (c_get 10 4 (c_aload 0 (c_get 10 5 (c_new 9 5 [.null, .int 0, .null, .null, .null] (c_dup (c_aload 2 (c_iload 1 (c_aload 0 (c_get 10 0 (c_call4 (some 9) s_X9_init 19 208 (c_aast 9 (c_aload 0 (c_dup (c_get 10 5 (c_push 1 (c_iadd (c_put 10 5 (.int) (c_aload 0 (c_get 10 5 (c_push 1 (c_isub (c_iret post))))))))))))))))))))))) (c_push (-4) (c_iret post)))))) (c_push (-3) (c_iret post))))) (c_push (-2) (c_iret post))))))))
set_option maxRecDepth 100000 in
theorem v_X10_work_0 {p : Program} {l : Launch} {e : Env} {s : State} {m : MethodId} {args : Array Value} {below : List Frame} {meth : Method} {c : Code} {D : va_G} {A : Nat → Prop} {post : Option Value → q_S → Prop} {K : Nat → q_K} (C : q_C p s m args meth c cX10_work 3 RX10 "work" (some .int) A) (hK : ∀ h ∈ ([] : List Nat), q_V p l e rm_X10_work s m args below meth c D A 3 (MQ below (q_Qc D A post) args s rm_X10_work.cells rm_X10_work.slots A) h (K h)) : q_V p l e rm_X10_work s m args below meth c D A 3 (MQ below (q_Qc D A post) args s rm_X10_work.cells rm_X10_work.slots A) 0 (k_X10_work_0 post K) := by
  unfold k_X10_work_0
  refine q_aload_n C (by decide +kernel : decode cX10_work 0 = .ok (.aload_n 0, 1)) ?_
  refine q_iload_n C (by decide +kernel : decode cX10_work 1 = .ok (.iload_n 1, 1)) ?_
  refine q_call2 C (q_coV C (np := 1) (ci := 10) (rc := (RX10, TX10, 10)) (t_X10_personAt l) w9_316 rfl rfl w9_317 w9_318 w9_319 w9_1 (by decide +kernel) (by decide +kernel : decode cX10_work 2 = .ok (.invokevirtual 68, 3)) (by decide)) ?_
  refine q_astore_n C (by decide +kernel : decode cX10_work 5 = .ok (.astore_n 2, 1)) ?_
  refine q_aload_n C (by decide +kernel : decode cX10_work 6 = .ok (.aload_n 2, 1)) ?_
  refine q_ifnonnull C (tgt := 13) (by decide +kernel : decode cX10_work 7 = .ok (.ifnonnull 6, 3)) (by decide) ?_ ?_
  · refine q_aload_n C (by decide +kernel : decode cX10_work 13 = .ok (.aload_n 2, 1)) ?_
    refine q_call1 C (q_coV C (np := 0) (ci := 7) (rc := (RX7, TX7, 3)) (t_X7_isToldDead l) w9_120 rfl rfl w9_386 w9_123 w9_124 w9_121 (by decide +kernel) (by decide +kernel : decode cX10_work 14 = .ok (.invokevirtual 75, 3)) (by decide)) ?_
    refine q_ifeq C (tgt := 23) (by decide +kernel : decode cX10_work 17 = .ok (.ifCond .eq 6, 3)) (by decide) ?_ ?_
    · refine q_aload_n C (by decide +kernel : decode cX10_work 23 = .ok (.aload_n 0, 1)) ?_
      refine q_get C (ci := 10) (j := 5) (C0 := RX10) (T := TX10) (N := 10) rfl iX10 giX10 (by decide) w9_314 (by decide +kernel : decode cX10_work 24 = .ok (.getfield 37, 3)) ?_
      refine q_bipush C (by decide +kernel : decode cX10_work 27 = .ok (.bipush 20, 2)) (by decide) ?_
      refine q_iclt C (tgt := 35) (by decide +kernel : decode cX10_work 29 = .ok (.if_icmp .lt 6, 3)) (by decide) ?_ ?_
      · refine q_aload_n C (by decide +kernel : decode cX10_work 35 = .ok (.aload_n 0, 1)) ?_
        refine q_get C (ci := 10) (j := 4) (C0 := RX10) (T := TX10) (N := 10) rfl iX10 giX10 (by decide) w9_315 (by decide +kernel : decode cX10_work 36 = .ok (.getfield 33, 3)) ?_
        refine q_aload_n C (by decide +kernel : decode cX10_work 39 = .ok (.aload_n 0, 1)) ?_
        refine q_get C (ci := 10) (j := 5) (C0 := RX10) (T := TX10) (N := 10) rfl iX10 giX10 (by decide) w9_314 (by decide +kernel : decode cX10_work 40 = .ok (.getfield 37, 3)) ?_
        refine q_new C (ci := 9) (C0 := RX9) (T := TX9) (N := 5) (fs := [.null, .int 0, .null, .null, .null]) rfl iX9 giX9 tyX9 tyX9_ok w9_439 w9_440 w9_353 dvX9 (by decide +kernel : decode cX10_work 43 = .ok (.new 31, 3)) ?_
        refine q_dup C (by decide +kernel : decode cX10_work 46 = .ok (.dup, 1)) ?_
        refine q_aload_n C (by decide +kernel : decode cX10_work 47 = .ok (.aload_n 2, 1)) ?_
        refine q_iload_n C (by decide +kernel : decode cX10_work 48 = .ok (.iload_n 1, 1)) ?_
        refine q_aload_n C (by decide +kernel : decode cX10_work 49 = .ok (.aload_n 0, 1)) ?_
        refine q_get C (ci := 10) (j := 0) (C0 := RX10) (T := TX10) (N := 10) rfl iX10 giX10 (by decide) w9_320 (by decide +kernel : decode cX10_work 50 = .ok (.getfield 9, 3)) ?_
        refine q_call4 C (q_coI C (np := 3) (ci := 9) (t_X9_init l) w9_441 rfl w9_442 w9_443 w9_353 (by decide +kernel) (by decide +kernel : decode cX10_work 53 = .ok (.invokespecial 123, 3)) (by decide)) ?_
        refine q_aast C (ci := 9) rfl (by decide +kernel : decode cX10_work 56 = .ok (.aastore, 1)) ?_
        refine q_aload_n C (by decide +kernel : decode cX10_work 57 = .ok (.aload_n 0, 1)) ?_
        refine q_dup C (by decide +kernel : decode cX10_work 58 = .ok (.dup, 1)) ?_
        refine q_get C (ci := 10) (j := 5) (C0 := RX10) (T := TX10) (N := 10) rfl iX10 giX10 (by decide) w9_314 (by decide +kernel : decode cX10_work 59 = .ok (.getfield 37, 3)) ?_
        refine q_iconst C (by decide +kernel : decode cX10_work 62 = .ok (.iconst 1, 1)) (by decide) ?_
        refine q_iadd C (by decide +kernel : decode cX10_work 63 = .ok (.iadd, 1)) ?_
        refine q_put C (ci := 10) (j := 5) (C0 := RX10) (T := TX10) (N := 10) (ty := .int) rfl iX10 giX10 (by decide) tyX10 tyX10_ok nmX10 (by decide +kernel) rfl w9_314 (by decide +kernel : decode cX10_work 64 = .ok (.putfield 37, 3)) ?_
        refine q_aload_n C (by decide +kernel : decode cX10_work 67 = .ok (.aload_n 0, 1)) ?_
        refine q_get C (ci := 10) (j := 5) (C0 := RX10) (T := TX10) (N := 10) rfl iX10 giX10 (by decide) w9_314 (by decide +kernel : decode cX10_work 68 = .ok (.getfield 37, 3)) ?_
        refine q_iconst C (by decide +kernel : decode cX10_work 71 = .ok (.iconst 1, 1)) (by decide) ?_
        refine q_isub C (by decide +kernel : decode cX10_work 72 = .ok (.isub, 1)) ?_
        exact q_iret C rfl (by decide +kernel : decode cX10_work 73 = .ok (.ireturn, 1))
      · refine q_bipush C (by decide +kernel : decode cX10_work 32 = .ok (.bipush (-4), 2)) (by decide) ?_
        exact q_iret C rfl (by decide +kernel : decode cX10_work 34 = .ok (.ireturn, 1))
    · refine q_bipush C (by decide +kernel : decode cX10_work 20 = .ok (.bipush (-3), 2)) (by decide) ?_
      exact q_iret C rfl (by decide +kernel : decode cX10_work 22 = .ok (.ireturn, 1))
  · refine q_bipush C (by decide +kernel : decode cX10_work 10 = .ok (.bipush (-2), 2)) (by decide) ?_
    exact q_iret C rfl (by decide +kernel : decode cX10_work 12 = .ok (.ireturn, 1))
theorem u_X10_work (l : Launch) {sp : q_Sp} (H : ∀ (av : List Value) (σ : q_S) (post : Option Value → q_S → Prop), sp av σ post → k_X10_work_0 post (fun _ _ _ _ _ _ => False) (q_L0 av 3) [] σ 20 213 ∧ av.length ≤ 3 ∧ ∀ v ∈ av, v.category = 1) : q_Ct l yX10_work cX10_work 3 (some .int) rm_X10_work sp := by
  refine q_met (by decide) ?_
  intro D A p e s m args below meth c σ av post C hsp
  obtain ⟨h1, h2, h3⟩ := H av σ post hsp
  exact ⟨_, v_X10_work_0 (K := fun _ _ _ _ _ _ => False) C (fun h hh => by cases hh), h1, h2, h3⟩
theorem t_X10_work (l : Launch) : q_Ct l yX10_work cX10_work 3 (some .int) rm_X10_work s_X10_work := u_X10_work l (by
  intro av σ post h
  unfold s_X10_work at h
  split at h
  · next r p =>
    refine ⟨?_, by simp, by simp [Value.category]⟩
    obtain ⟨z, g, hR, hI, hMW, hZW, h1⟩ := h
    have hR0 := hR
    obtain ⟨Rg, P, AC, AR, WK, LC, CL, CM, CP, pa, aa, wa, sa, ga, la, lra, lc, lrn, hD⟩ := hR
    have e1 := hD.p1.2
    have e2 := hD.p2.1.2
    have e4 := hD.p4.1.2
    have o1 : q_oc σ r = some 10 := by simp only [q_oc, e1]
    have f0 : q_fld σ r 10 0 = some (.int (z 0)) := by simp only [q_fld, e1, if_true]; rfl
    have h20 := hI.n20
    have hI12 := hI.2.1
    have hI11 := hI.2.2.2.1
    unfold F_work at h1
    by_cases cp : 0 ≤ p ∧ p < z 1
    · rw [if_pos cp] at h1
      have hpn : p.toNatClampNeg < npF z := ltN cp.1 cp.2
      have e3 := (hD.p2.2.1 _ hpn).2
      have o7 : q_oc σ (pa p.toNatClampNeg) = some 7 := by simp only [q_oc, e3]
      by_cases cd : g 3 p.toNatClampNeg = -1
      · rw [if_neg (fun h => h cd)] at h1
        by_cases c20 : z 11 = 20
        · rw [if_pos c20] at h1
          have h2 := h1 _ hR0
          have c20' : (20 : Int32) ≤ z 11 := by rw [c20]; decide
          have c21' : ¬ z 11 < (20 : Int32) := by rw [c20]; decide
          simp only [c_push, c_null, c_iload, c_aload, c_istore, c_astore, c_iinc, c_iadd, c_isub, c_imul, c_iand, c_ineg, c_dup, c_dup2, c_pop, c_ifnull, c_ifnonnull, c_get, c_put, c_iald, c_zald, c_iast, c_zast, c_aald, c_aast, c_alen, c_new, c_newa, c_newq, c_mna, c_oinit, c_max, c_copy, c_iret, c_zret, c_aret, c_vret, q_do, q_rc, c_ifeq, c_ifne, c_iflt, c_ifge, c_ifgt, c_ifle, c_iceq, c_icne, c_iclt, c_icge, c_icgt, c_icle, c_call0, c_call1, c_call2, c_call3, c_call4, c_call5, c_call6, c_call7, q_L0, List.map_cons, List.map_nil, List.replicate, List.cons_append, List.nil_append, List.append_nil, List.length_cons, List.length_nil, List.length_set, Nat.reduceSub, Nat.reduceAdd, Nat.reduceLT, Nat.reduceLeDiff, Nat.zero_add, Nat.add_zero, Nat.sub_zero, Nat.sub_self, List.getElem?_cons_zero, List.getElem?_cons_succ, List.set_cons_zero, List.set_cons_succ, Option.toList_some, Option.toList_none, List.sum_cons, List.sum_nil, true_and, and_true, true_or, or_true, Nat.le_refl, Nat.zero_le, Value.category, Fin.isValue, Fin.val_zero, Fin.val_one, Fin.val_two, Fin.reduceFinMk, q_10, q_01, not_false_eq_true, not_true_eq_false, forall_const, true_implies, false_implies, implies_true, q_ni, q_fi, q_nb0, q_nb1, q_fb0, q_fb1, q_nor, q_nar, q_for, q_far, q_non, q_nan, q_fon, q_fan, imp_false, false_and, and_false, and_self, false_or, or_false, va_rf, refKind, k_X10_work_0, o1, o7, pAt e1 e2 hI12, cp, s_X7_isToldDead, e3, cd, q_fld, q_fset, q_oc, q_ai, q_aq, q_len, q_up_s, q_up_up, if_true, e1, c20', c21', h2]
        · rw [if_neg c20] at h1
          dsimp only at h1
          have c20' : ¬ (20 : Int32) ≤ z 11 := by grind
          have c21' : z 11 < (20 : Int32) := by grind
          have hn20 : nwF z < 20 := clamp_lt 20 hI11.1 c21'
          have en5 : (z 11).toNatClampNeg = nwF z := rfl
          rw [en5] at h1
          simp only [c_push, c_null, c_iload, c_aload, c_istore, c_astore, c_iinc, c_iadd, c_isub, c_imul, c_iand, c_ineg, c_dup, c_dup2, c_pop, c_ifnull, c_ifnonnull, c_get, c_put, c_iald, c_zald, c_iast, c_zast, c_aald, c_aast, c_alen, c_new, c_newa, c_newq, c_mna, c_oinit, c_max, c_copy, c_iret, c_zret, c_aret, c_vret, q_do, q_rc, c_ifeq, c_ifne, c_iflt, c_ifge, c_ifgt, c_ifle, c_iceq, c_icne, c_iclt, c_icge, c_icgt, c_icle, c_call0, c_call1, c_call2, c_call3, c_call4, c_call5, c_call6, c_call7, q_L0, List.map_cons, List.map_nil, List.replicate, List.cons_append, List.nil_append, List.append_nil, List.length_cons, List.length_nil, List.length_set, Nat.reduceSub, Nat.reduceAdd, Nat.reduceLT, Nat.reduceLeDiff, Nat.zero_add, Nat.add_zero, Nat.sub_zero, Nat.sub_self, List.getElem?_cons_zero, List.getElem?_cons_succ, List.set_cons_zero, List.set_cons_succ, Option.toList_some, Option.toList_none, List.sum_cons, List.sum_nil, true_and, and_true, true_or, or_true, Nat.le_refl, Nat.zero_le, Value.category, Fin.isValue, Fin.val_zero, Fin.val_one, Fin.val_two, Fin.reduceFinMk, q_10, q_01, not_false_eq_true, not_true_eq_false, forall_const, true_implies, false_implies, implies_true, q_ni, q_fi, q_nb0, q_nb1, q_fb0, q_fb1, q_nor, q_nar, q_for, q_far, q_non, q_nan, q_fon, q_fan, imp_false, false_and, and_false, and_self, false_or, or_false, va_rf, refKind, k_X10_work_0, o1, o7, pAt e1 e2 hI12, cp, s_X7_isToldDead, e3, cd, q_fld, q_fset, q_oc, q_ai, q_aq, q_len, q_up_s, q_up_up, if_true, e1, c20', c21']
          intro q hq
          have hq2 : ∀ a e, σ a = some e → a ≠ q := fun a e he e9 => by rw [e9, hq] at he; cases he
          have hrq := hq2 _ _ e1
          have hWq := hq2 _ _ e4
          have hne := ne_ao e4 e1
          simp only [c_push, c_null, c_iload, c_aload, c_istore, c_astore, c_iinc, c_iadd, c_isub, c_imul, c_iand, c_ineg, c_dup, c_dup2, c_pop, c_ifnull, c_ifnonnull, c_get, c_put, c_iald, c_zald, c_iast, c_zast, c_aald, c_aast, c_alen, c_new, c_newa, c_newq, c_mna, c_oinit, c_max, c_copy, c_iret, c_zret, c_aret, c_vret, q_do, q_rc, c_ifeq, c_ifne, c_iflt, c_ifge, c_ifgt, c_ifle, c_iceq, c_icne, c_iclt, c_icge, c_icgt, c_icle, c_call0, c_call1, c_call2, c_call3, c_call4, c_call5, c_call6, c_call7, q_L0, List.map_cons, List.map_nil, List.replicate, List.cons_append, List.nil_append, List.append_nil, List.length_cons, List.length_nil, List.length_set, Nat.reduceSub, Nat.reduceAdd, Nat.reduceLT, Nat.reduceLeDiff, Nat.zero_add, Nat.add_zero, Nat.sub_zero, Nat.sub_self, List.getElem?_cons_zero, List.getElem?_cons_succ, List.set_cons_zero, List.set_cons_succ, Option.toList_some, Option.toList_none, List.sum_cons, List.sum_nil, true_and, and_true, true_or, or_true, Nat.le_refl, Nat.zero_le, Value.category, Fin.isValue, Fin.val_zero, Fin.val_one, Fin.val_two, Fin.reduceFinMk, q_10, q_01, not_false_eq_true, not_true_eq_false, forall_const, true_implies, false_implies, implies_true, q_ni, q_fi, q_nb0, q_nb1, q_fb0, q_fb1, q_nor, q_nar, q_for, q_far, q_non, q_nan, q_fon, q_fan, imp_false, false_and, and_false, and_self, false_or, or_false, va_rf, refKind, q_fld, q_fset, q_oc, q_ai, q_aq, q_len, q_up_s, q_up_up, if_true, s_X9_init, q_up_n hWq, q_up_n hrq, e1, e4]
          intro σ' sa1 ga1 la1 ra1 R x' x1 x2 hw hS hga hla hra hnw hRn hold
          have hold2 : ∀ a e, σ a = some e → σ' a = some e := fun a e he => hold a e (hq2 a e he) (by rw [q_up_n (hq2 a e he)]; exact he)
          have e1' := hold2 _ _ e1
          have e4' := hold2 _ _ e4
          have hru := refs_up 20 (nwF z) wa q "CopyRegister$Work"
          have en : q_nm 9 = "CopyRegister$Work" := rfl
          simp only [c_push, c_null, c_iload, c_aload, c_istore, c_astore, c_iinc, c_iadd, c_isub, c_imul, c_iand, c_ineg, c_dup, c_dup2, c_pop, c_ifnull, c_ifnonnull, c_get, c_put, c_iald, c_zald, c_iast, c_zast, c_aald, c_aast, c_alen, c_new, c_newa, c_newq, c_mna, c_oinit, c_max, c_copy, c_iret, c_zret, c_aret, c_vret, q_do, q_rc, c_ifeq, c_ifne, c_iflt, c_ifge, c_ifgt, c_ifle, c_iceq, c_icne, c_iclt, c_icge, c_icgt, c_icle, c_call0, c_call1, c_call2, c_call3, c_call4, c_call5, c_call6, c_call7, q_L0, List.map_cons, List.map_nil, List.replicate, List.cons_append, List.nil_append, List.append_nil, List.length_cons, List.length_nil, List.length_set, Nat.reduceSub, Nat.reduceAdd, Nat.reduceLT, Nat.reduceLeDiff, Nat.zero_add, Nat.add_zero, Nat.sub_zero, Nat.sub_self, List.getElem?_cons_zero, List.getElem?_cons_succ, List.set_cons_zero, List.set_cons_succ, Option.toList_some, Option.toList_none, List.sum_cons, List.sum_nil, true_and, and_true, true_or, or_true, Nat.le_refl, Nat.zero_le, Value.category, Fin.isValue, Fin.val_zero, Fin.val_one, Fin.val_two, Fin.reduceFinMk, q_10, q_01, not_false_eq_true, not_true_eq_false, forall_const, true_implies, false_implies, implies_true, q_ni, q_fi, q_nb0, q_nb1, q_fb0, q_fb1, q_nor, q_nar, q_for, q_far, q_non, q_nan, q_fon, q_fan, imp_false, false_and, and_false, and_self, false_or, or_false, va_rf, refKind, q_fld, q_fset, q_oc, q_ai, q_aq, q_len, q_up_s, q_up_up, if_true, hw, e1', e4', vpi20, en, en5, hru, q_up_n hne.symm, q_up_n hne]
          refine ⟨by grind, ?_⟩
          have e33 : z 11 + 1 - 1 = z 11 := by grind
          rw [e33]
          have hnn := nwF_s (z := z) ⟨hI11.1, c21'⟩
          have dn : ∀ a, q_up σ q (.inr (9, [.null, .int 0, .null, .null, .null])) a = none → σ a = none ∧ a ≠ q := fun a ha => by
            by_cases e : a = q
            · rw [e, q_up_s] at ha; cases ha
            · rw [q_up_n e] at ha; exact ⟨ha, e⟩
          have dga := dn _ hnw.1
          have dla := dn _ hnw.2.1
          have dra := dn _ hnw.2.2
          have dR : ∀ a, R a → σ a = none ∧ a ≠ q ∧ a ≠ ga1 ∧ a ≠ la1 ∧ a ≠ ra1 := fun a ha => ⟨(dn a (hRn a ha).1).1, (dn a (hRn a ha).1).2, (hRn a ha).2⟩
          have dgl : ga1 ≠ la1 ∧ ga1 ≠ ra1 := ⟨fun e => (by rw [e, hla] at hga; cases hga), fun e => (by rw [e, hra] at hga; cases hga)⟩
          have fin : ∀ a e, σ' a = some e → a ≠ r → a ≠ WK → q_up (q_up σ' WK (refsE "CopyRegister$Work" 20 (nwF z + 1) (va_up wa (nwF z) q))) r (rootE (upd z 11 (z 11 + 1)) P AC WK LC CL CP) a = some e := fun a e h1 h2 h3 => by rw [q_up_n h2, q_up_n h3]; exact h1
          have nr : ∀ a, σ a = none → a ≠ r ∧ a ≠ WK := fun a ha => ⟨fun e => (by rw [e, e1] at ha; cases ha), fun e => (by rw [e, e4] at ha; cases ha)⟩
          refine h1 _ (hD.put (σ' := q_up (q_up σ' WK (refsE "CopyRegister$Work" 20 (nwF z + 1) (va_up wa (nwF z) q))) r (rootE (upd z 11 (z 11 + 1)) P AC WK LC CL CP)) (pa' := pa) (aa' := aa) (wa' := va_up wa (nwF z) q) (sa' := va_up sa (nwF z) sa1) (ga' := va_up ga (nwF z) ga1) (la' := va_up la (nwF z) la1) (lra' := va_up lra (nwF z) ra1) (lc' := lc) (lrn' := lrn) (z' := upd z 11 (z 11 + 1)) (g' := gW z g p) (fun t => t = 1 ∨ t = 4 ∨ t = 100 + nwF z ∨ t = 200 + nwF z ∨ t = 300 + nwF z) (wkR σ Rg R q ga1 la1 ra1 (nwF z)) (fun t t' a _ _ => wk_disj hD.1 hq dga dla dra dR dgl t t' a) ?_ ?_ ?_)
          · intro a e ha he
            refine ⟨?_, fin a e (hold2 a e he) (fun e9 => ha 1 (Or.inl rfl) (by rw [e9]; exact hD.p1.1)) (fun e9 => ha 4 (Or.inr (Or.inl rfl)) (by rw [e9]; exact hD.p4.1.1))⟩
            rintro t ht (⟨-, h3, -⟩ | ⟨-, h3⟩ | ⟨-, h3⟩ | ⟨-, h3⟩ | ⟨-, h3 | h3⟩)
            · exact ha t ht h3
            · exact hq2 a e he h3
            · rw [(dR a h3).1] at he; cases he
            · rw [h3, dga.1] at he; cases he
            · rw [h3, dla.1] at he; cases he
            · rw [h3, dra.1] at he; cases he
          · rintro k (rfl | rfl | rfl | rfl | rfl)
            · exact ⟨Or.inl ⟨Or.inl rfl, hD.p1.1, by rw [e1]; exact fun h => by cases h⟩, q_up_s⟩
            · show WkP _ _ WK _ _ _ _ _ _ (nwF (upd z 11 (z 11 + 1)))
              rw [hnn]
              refine ⟨⟨Or.inl ⟨Or.inr rfl, hD.p4.1.1, by rw [e4]; exact fun h => by cases h⟩, by rw [q_up_n hne, q_up_s]⟩, fun i hi => ?_⟩
              rw [gW_12, gW_13]
              by_cases e : i = nwF z
              · subst e
                rw [if_pos rfl, if_pos rfl, va_up_s, va_up_s, va_up_s, va_up_s]
                exact ⟨Or.inr (Or.inl ⟨rfl, rfl⟩), fin q _ hw (nr q hq).1 (nr q hq).2⟩
              · have k1 := hD.p4.2 i (by omega)
                rw [if_neg e, if_neg e, va_up_n e, va_up_n e, va_up_n e, va_up_n e]
                exact ⟨Or.inl ⟨Or.inr rfl, k1.1, by rw [k1.2]; exact fun h => by cases h⟩, fin _ _ (hold2 _ _ k1.2) (fun e9 => by have k2 := k1.2; rw [e9, e1] at k2; cases k2) (ne_ao e4 k1.2).symm⟩
            · refine Part.s1 (by rw [hnn]; omega) (by rw [hnn]; omega) ⟨[x'], ?_, PgR.new ⟨cp.1, by have := hI12.2; grind⟩ hI11.1 hn20 hMW x1 x2⟩
              rw [va_up_s]
              refine (hS.fr (fun a e ha he => ⟨Or.inr (Or.inr (Or.inl ⟨rfl, ha⟩)), fin a e he (nr a (dR a ha).1).1 (nr a (dR a ha).1).2⟩)).cM (fun p2 q2 hp2 hq2 => ?_)
              rw [gW_o (by decide)]
              exact ((hZW _ (Nat.le_refl _) hn20).1 p2 q2 hp2 hq2).symm
            · refine Part.s2 (by rw [hnn]; omega) (by rw [hnn]; omega) ⟨fun _ => 0, ?_, fun p2 hp2 => ?_⟩
              · rw [va_up_s]
                exact ⟨Or.inr (Or.inr (Or.inr (Or.inl ⟨rfl, rfl⟩))), fin _ _ hga (nr _ dga.1).1 (nr _ dga.1).2⟩
              · rw [gW_o (by decide)]
                exact ((hZW _ (Nat.le_refl _) hn20).2 p2 hp2).symm
            · refine Part.s3 (by rw [hnn]; omega) (by rw [hnn]; omega) ⟨?_, fun _ => 0, ?_, fun j hj => ?_⟩
              · rw [va_up_s, va_up_s, gW_29, if_pos rfl]
                exact ⟨Or.inr (Or.inr (Or.inr (Or.inr ⟨rfl, Or.inl rfl⟩))), fin _ _ hla (nr _ dla.1).1 (nr _ dla.1).2⟩
              · rw [va_up_s]
                exact ⟨Or.inr (Or.inr (Or.inr (Or.inr ⟨rfl, Or.inr rfl⟩))), fin _ _ hra (nr _ dra.1).1 (nr _ dra.1).2⟩
              · unfold lmN at hj
                rw [gW_29, if_pos rfl] at hj
                exact absurd hj (Nat.not_lt_zero _)
          · intro k hk h
            have hn : ∀ i, i < nwF (upd z 11 (z 11 + 1)) → i ≠ nwF z → i < nwF z := fun i hi h9 => by rw [hnn] at hi; omega
            refine h.cong (fun e => absurd (Or.inl e) hk) (fun _ h => ?_) (fun _ h => ?_) (fun e => absurd (Or.inr (Or.inl e)) hk) (fun _ h => ?_) (fun _ h => ?_) (fun i e hi => ?_) (fun i e hi => ?_) (fun i e hi => ?_) h20 (by rw [hnn]; omega)
            · unfold PersP; rw [gW_o (by decide), gW_o (by decide), gW_o (by decide)]; exact h
            · unfold AcD; rw [gW_o (by decide), gW_o (by decide), gW_o (by decide), gW_o (by decide), gW_o (by decide)]; exact h
            · unfold LcP; rw [gW_o (by decide), gW_o (by decide), gW_o (by decide), gW_o (by decide), gW_o (by decide), gW_o (by decide)]; exact h
            · unfold CmP; rw [gW_o (by decide)]; exact h
            · have h9 := hn i hi (fun e9 => hk (Or.inr (Or.inr (Or.inl (by rw [e, e9])))))
              refine ⟨h9, fun h => ?_⟩
              rw [va_up_n (by omega)]
              obtain ⟨pgs, k1, k2⟩ := h
              refine ⟨pgs, ?_, k2.wk h9 h20⟩
              rw [gW_o (by decide)]; exact k1
            · have h9 := hn i hi (fun e9 => hk (Or.inr (Or.inr (Or.inr (Or.inl (by rw [e, e9]))))))
              refine ⟨h9, fun h => ?_⟩
              rw [va_up_n (by omega)]
              unfold AgP; rw [gW_o (by decide)]; exact h
            · have h9 := hn i hi (fun e9 => hk (Or.inr (Or.inr (Or.inr (Or.inr (by rw [e, e9]))))))
              refine ⟨h9, fun h => ?_⟩
              rw [va_up_n (by omega), va_up_n (by omega)]
              exact h.cong (by rw [gW_29, if_neg (by omega)]) (fun j hj => by rw [gW_o (by decide)])
      · rw [if_pos cd] at h1
        have h2 := h1 _ hR0
        simp only [c_push, c_null, c_iload, c_aload, c_istore, c_astore, c_iinc, c_iadd, c_isub, c_imul, c_iand, c_ineg, c_dup, c_dup2, c_pop, c_ifnull, c_ifnonnull, c_get, c_put, c_iald, c_zald, c_iast, c_zast, c_aald, c_aast, c_alen, c_new, c_newa, c_newq, c_mna, c_oinit, c_max, c_copy, c_iret, c_zret, c_aret, c_vret, q_do, q_rc, c_ifeq, c_ifne, c_iflt, c_ifge, c_ifgt, c_ifle, c_iceq, c_icne, c_iclt, c_icge, c_icgt, c_icle, c_call0, c_call1, c_call2, c_call3, c_call4, c_call5, c_call6, c_call7, q_L0, List.map_cons, List.map_nil, List.replicate, List.cons_append, List.nil_append, List.append_nil, List.length_cons, List.length_nil, List.length_set, Nat.reduceSub, Nat.reduceAdd, Nat.reduceLT, Nat.reduceLeDiff, Nat.zero_add, Nat.add_zero, Nat.sub_zero, Nat.sub_self, List.getElem?_cons_zero, List.getElem?_cons_succ, List.set_cons_zero, List.set_cons_succ, Option.toList_some, Option.toList_none, List.sum_cons, List.sum_nil, true_and, and_true, true_or, or_true, Nat.le_refl, Nat.zero_le, Value.category, Fin.isValue, Fin.val_zero, Fin.val_one, Fin.val_two, Fin.reduceFinMk, q_10, q_01, not_false_eq_true, not_true_eq_false, forall_const, true_implies, false_implies, implies_true, q_ni, q_fi, q_nb0, q_nb1, q_fb0, q_fb1, q_nor, q_nar, q_for, q_far, q_non, q_nan, q_fon, q_fan, imp_false, false_and, and_false, and_self, false_or, or_false, va_rf, refKind, k_X10_work_0, o1, o7, pAt e1 e2 hI12, cp, s_X7_isToldDead, e3, cd, h2]
    · rw [if_neg cp] at h1
      have h2 := h1 _ hR0
      simp only [c_push, c_null, c_iload, c_aload, c_istore, c_astore, c_iinc, c_iadd, c_isub, c_imul, c_iand, c_ineg, c_dup, c_dup2, c_pop, c_ifnull, c_ifnonnull, c_get, c_put, c_iald, c_zald, c_iast, c_zast, c_aald, c_aast, c_alen, c_new, c_newa, c_newq, c_mna, c_oinit, c_max, c_copy, c_iret, c_zret, c_aret, c_vret, q_do, q_rc, c_ifeq, c_ifne, c_iflt, c_ifge, c_ifgt, c_ifle, c_iceq, c_icne, c_iclt, c_icge, c_icgt, c_icle, c_call0, c_call1, c_call2, c_call3, c_call4, c_call5, c_call6, c_call7, q_L0, List.map_cons, List.map_nil, List.replicate, List.cons_append, List.nil_append, List.append_nil, List.length_cons, List.length_nil, List.length_set, Nat.reduceSub, Nat.reduceAdd, Nat.reduceLT, Nat.reduceLeDiff, Nat.zero_add, Nat.add_zero, Nat.sub_zero, Nat.sub_self, List.getElem?_cons_zero, List.getElem?_cons_succ, List.set_cons_zero, List.set_cons_succ, Option.toList_some, Option.toList_none, List.sum_cons, List.sum_nil, true_and, and_true, true_or, or_true, Nat.le_refl, Nat.zero_le, Value.category, Fin.isValue, Fin.val_zero, Fin.val_one, Fin.val_two, Fin.reduceFinMk, q_10, q_01, not_false_eq_true, not_true_eq_false, forall_const, true_implies, false_implies, implies_true, q_ni, q_fi, q_nb0, q_nb1, q_fb0, q_fb1, q_nor, q_nar, q_for, q_far, q_non, q_nan, q_fon, q_fan, imp_false, false_and, and_false, and_self, false_or, or_false, va_rf, refKind, k_X10_work_0, o1, pAt e1 e2 hI12, cp, h2]
  · exact h.elim)
