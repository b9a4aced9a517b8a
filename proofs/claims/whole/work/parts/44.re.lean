-- death of the register
theorem clrF_at (g : Nat → Nat → Int32) (i pn : Nat) (hpn : pn < 12) {j p q : Nat} (hp : p < 12) (hq : q < 12) : ∀ n, n ≤ 12 → clrF g i pn n 20 (144 * j + 12 * p + q) = if j = i ∧ p = pn ∧ q < n then 0 else g 20 (144 * j + 12 * p + q)
  | 0, _ => by rw [clrF, if_neg (by omega)]
  | n + 1, h => by
    rw [clrF, gup_s, clrF_at g i pn hpn hp hq n (by omega)]
    by_cases c : j = i ∧ p = pn ∧ q = n
    · rw [if_pos (by omega), if_pos (by omega)]
    · rw [if_neg (by omega)]
      by_cases c2 : j = i ∧ p = pn ∧ q < n
      · rw [if_pos c2, if_pos (by omega)]
      · rw [if_neg c2, if_neg (by omega)]
theorem dmF_g (s : (Nat → Int32) × (Nat → Nat → Int32)) (w : Nat) (p to : Int32) (k : Nat) (hk : k < 15 ∨ 19 < k) : (dmF s w p to).2 k = s.2 k := by
  unfold dmF
  split
  · exact moveF_ne _ _ _ _ _ _ k hk
  · rfl
section RGT
variable {σ σ' : q_S} {Rg : Nat → Nat → Prop} {r P AC AR WK LC CL CM CP : Nat} {pa aa wa sa ga la lra lc : Nat → Nat} {lrn : Nat → Int32} {z : Nat → Int32} {g : Nat → Nat → Int32}
theorem RegD.pass (hD : RegD σ Rg r P AC AR WK LC CL CM CP pa aa wa sa ga la lra lc lrn z g) (h20 : nwF z ≤ 20) {i : Nat} (hi : i < nwF z) (hm : 0 ≤ z 14 ∧ z 14 < 1000) {p rc : Int32} (hp : 0 ≤ p ∧ p < 12) (hrc : 0 ≤ plcF rc ∧ plcF rc < 13) {x : pgT} {t : List pgT} (hP : PgR z g i (x :: t)) (hx : shF x.2.2.2 p = holdsF g (nI i) p (z 0) (mvF z)) {R' : Nat → Prop} {pgs' : List pgT} (hS : ShC σ' R' (sa i) (Mc (fun p q => g 20 (144 * i + 12 * p + q)) p.toNatClampNeg 12) pgs') (hf : q_fm σ (Rg (100 + i)) σ' R') (h1 : 0 < shF x.2.2.2 p → ∃ x', x'.1 = (if x.1 < z 0 then z 0 else x.1) ∧ (∀ i, i < 13 → x'.2.2.2 i = chF (chF x.2.2.2 p (-shF x.2.2.2 p)) rc (shF x.2.2.2 p) i) ∧ pgs' = (if x.1 < z 0 then x' :: x :: t else x' :: t)) (h2 : ¬ 0 < shF x.2.2.2 p → pgs' = x :: t) : RegOK σ' r (dmF (z, g) i p (plcF rc)).1 (clrF (dmF (z, g) i p (plcF rc)).2 i p.toNatClampNeg 12) := by
  have hpn : p.toNatClampNeg < 12 := clamp_lt 12 hp.1 hp.2
  have hpc := plc hp
  refine hD.shset h20 hi (fun k hk => dmF_z _ _ _ _ k hk) (fun k hk => by rw [clrF_ne _ _ _ _ (by omega), dmF_g _ _ _ _ _ (by omega)]) (pgs := pgs') (hS.cM (fun p2 q2 hp2 hq2 => ?_)) ?_ hf (fun j pgs hj hj2 h => ?_) (fun j p2 q2 hj hp2 hq2 => ?_)
  · rw [clrF_at _ _ _ hpn hp2 hq2 12 (Nat.le_refl _), dmF_g _ _ _ _ _ (by omega)]
    unfold Mc
    by_cases c : p2 = p.toNatClampNeg ∧ q2 < 12
    · rw [if_pos c, if_pos ⟨rfl, c⟩]
    · rw [if_neg c, if_neg (fun h => c h.2)]
  · refine PgR.cong (g := (dmF (z, g) i p (plcF rc)).2) ?_ (fun k hk => clrF_ne _ _ _ _ hk _)
    rw [hx] at h1 h2
    by_cases c : 0 < holdsF g (nI i) p (z 0) (mvF z)
    · obtain ⟨x', k1, k2, rfl⟩ := h1 c
      have := hP.move hm hpc.2 hrc k1 k2
      rw [hpc.1] at this
      unfold dmF
      dsimp only
      rw [if_pos c]
      exact this
    · rw [h2 c]
      unfold dmF
      dsimp only
      rw [if_neg c]
      exact hP
  · refine PgR.cong (g := (dmF (z, g) i p (plcF rc)).2) ?_ (fun k hk => clrF_ne _ _ _ _ hk _)
    unfold dmF
    dsimp only
    by_cases c : 0 < holdsF g (nI i) p (z 0) (mvF z)
    · rw [if_pos c]
      exact h.other hm hj (by omega) (by omega)
    · rw [if_neg c]
      exact h
  · rw [clrF_at _ _ _ hpn hp2 hq2 12 (Nat.le_refl _), if_neg (fun h => hj h.1), dmF_g _ _ _ _ _ (by omega)]
end RGT
def s_X10_death : q_Sp := fun av σ post => match av with
  | [.ref r, .int p, .int on] => ∃ z g, RegOK σ r z g ∧ I1 z ∧ EN z g ∧ (z 14 ≤ 980 ∨ (isP z p → ¬ g 3 p.toNatClampNeg = -1)) ∧ (isP z p → g 2 p.toNatClampNeg = -1 ∨ 0 ≤ g 2 p.toNatClampNeg ∧ g 2 p.toNatClampNeg < z 1) ∧ ∀ σ', RegOK σ' r (F_death z g p on).2.1 (F_death z g p on).2.2 → post (some (.int (F_death z g p on).1)) σ'
  | _ => False
theorem w9_427 : (.code yX7_tellDead cX7_tellDead 3 none : Cond) ∈ lw_tbl := by decide +kernel
theorem w9_428 : (.methodLink RX10 79 yX7_tellDead : Cond) ∈ lw_tbl := by decide +kernel
theorem w9_429 : (.instanceMethod yX7_tellDead : Cond) ∈ lw_tbl := by decide +kernel
theorem w9_430 : (.selects RX7 yX7_tellDead yX7_tellDead : Cond) ∈ lw_tbl := by decide +kernel
theorem w9_431 : (.code yX10_receiverFrom cX10_receiverFrom 3 (some .int) : Cond) ∈ lw_tbl := by decide +kernel
theorem w9_432 : (.methodLink RX10 83 yX10_receiverFrom : Cond) ∈ lw_tbl := by decide +kernel
theorem w9_433 : (.instanceMethod yX10_receiverFrom : Cond) ∈ lw_tbl := by decide +kernel
theorem w9_434 : (.selects RX10 yX10_receiverFrom yX10_receiverFrom : Cond) ∈ lw_tbl := by decide +kernel
theorem w9_435 : (.code yX8_passOn cX8_passOn 5 none : Cond) ∈ lw_tbl := by decide +kernel
theorem w9_436 : (.methodLink RX10 95 yX8_passOn : Cond) ∈ lw_tbl := by decide +kernel
theorem w9_437 : (.instanceMethod yX8_passOn : Cond) ∈ lw_tbl := by decide +kernel
theorem w9_438 : (.selects RX8 yX8_passOn yX8_passOn : Cond) ∈ lw_tbl := by decide +kernel
def rm_X10_death : Room := { frames := 5, cells := 40, slots := 320, locals := 130 }
def k_X10_death_22 (post : Option Value → q_S → Prop) (K : Nat → q_K) : q_K := (c_push (-2) (c_iret post))
def k_X10_death_0 (post : Option Value → q_S → Prop) (K : Nat → q_K) : q_K := (c_aload 0 (c_iload 1 (c_call2 (some 10) s_X10_personAt 0 0 (c_astore 3 (c_aload 3 (c_ifnull (k_X10_death_22 post K) (c_iload 2 (c_push 0 (c_aload 0 (c_get 10 0 (c_call3 none s_X10_isWithin 0 0 (c_ifne (c_aload 3 (c_call1 (some 7) s_X7_isToldDead 0 0 (c_ifeq (c_aload 3 (c_iload 2 (c_aload 0 (c_get 10 0 (c_call3 (some 7) s_X7_tellDead 0 0 (c_aload 0 (c_aload 3 (c_call2 (some 10) s_X10_receiverFrom 0 0 (c_istore 4 (c_push 0 (c_istore 5 (K 54)))))))))))) (c_push (-3) (c_iret post))))) (k_X10_death_22 post K)))))))))))))
def k_X10_death_91 (post : Option Value → q_S → Prop) (K : Nat → q_K) : q_K := (c_iinc 5 1 (K 54))
def k_X10_death_54 (post : Option Value → q_S → Prop) (K : Nat → q_K) : q_K := (c_iload 5 (c_aload 0 (c_get 10 5 (c_icge (c_iload 4 (c_iret post)) (c_aload 0 (c_iload 5 (c_call2 (some 10) s_X10_workAt 0 0 (c_astore 6 (c_aload 6 (c_ifnull (k_X10_death_91 post K) (c_aload 6 (c_get 9 2 (c_iload 1 (c_iload 4 (c_aload 0 (c_get 10 0 (c_call4 (some 8) s_X8_passOn 2 16 (k_X10_death_91 post K))))))))))))))))))
set_option maxRecDepth 100000 in
theorem v_X10_death_22 {p : Program} {l : Launch} {e : Env} {s : State} {m : MethodId} {args : Array Value} {below : List Frame} {meth : Method} {c : Code} {D : va_G} {A : Nat → Prop} {post : Option Value → q_S → Prop} {K : Nat → q_K} (C : q_C p s m args meth c cX10_death 7 RX10 "death" (some .int) A) (hK : ∀ h ∈ ([54] : List Nat), q_V p l e rm_X10_death s m args below meth c D A 7 (MQ below (q_Qc D A post) args s rm_X10_death.cells rm_X10_death.slots A) h (K h)) : q_V p l e rm_X10_death s m args below meth c D A 7 (MQ below (q_Qc D A post) args s rm_X10_death.cells rm_X10_death.slots A) 22 (k_X10_death_22 post K) := by
  unfold k_X10_death_22
  refine q_bipush C (by decide +kernel : decode cX10_death 22 = .ok (.bipush (-2), 2)) (by decide) ?_
  exact q_iret C rfl (by decide +kernel : decode cX10_death 24 = .ok (.ireturn, 1))
set_option maxRecDepth 100000 in
theorem v_X10_death_0 {p : Program} {l : Launch} {e : Env} {s : State} {m : MethodId} {args : Array Value} {below : List Frame} {meth : Method} {c : Code} {D : va_G} {A : Nat → Prop} {post : Option Value → q_S → Prop} {K : Nat → q_K} (C : q_C p s m args meth c cX10_death 7 RX10 "death" (some .int) A) (hK : ∀ h ∈ ([54] : List Nat), q_V p l e rm_X10_death s m args below meth c D A 7 (MQ below (q_Qc D A post) args s rm_X10_death.cells rm_X10_death.slots A) h (K h)) : q_V p l e rm_X10_death s m args below meth c D A 7 (MQ below (q_Qc D A post) args s rm_X10_death.cells rm_X10_death.slots A) 0 (k_X10_death_0 post K) := by
  unfold k_X10_death_0
  refine q_aload_n C (by decide +kernel : decode cX10_death 0 = .ok (.aload_n 0, 1)) ?_
  refine q_iload_n C (by decide +kernel : decode cX10_death 1 = .ok (.iload_n 1, 1)) ?_
  refine q_call2 C (q_coV C (np := 1) (ci := 10) (rc := (RX10, TX10, 10)) (t_X10_personAt l) w9_316 rfl rfl w9_317 w9_318 w9_319 w9_1 (by decide +kernel) (by decide +kernel : decode cX10_death 2 = .ok (.invokevirtual 68, 3)) (by decide)) ?_
  refine q_astore_n C (by decide +kernel : decode cX10_death 5 = .ok (.astore_n 3, 1)) ?_
  refine q_aload_n C (by decide +kernel : decode cX10_death 6 = .ok (.aload_n 3, 1)) ?_
  refine q_ifnull C (tgt := 22) (by decide +kernel : decode cX10_death 7 = .ok (.ifnull 15, 3)) (by decide) ?_ ?_
  · exact v_X10_death_22 C hK
  · refine q_iload_n C (by decide +kernel : decode cX10_death 10 = .ok (.iload_n 2, 1)) ?_
    refine q_iconst C (by decide +kernel : decode cX10_death 11 = .ok (.iconst 0, 1)) (by decide) ?_
    refine q_aload_n C (by decide +kernel : decode cX10_death 12 = .ok (.aload_n 0, 1)) ?_
    refine q_get C (ci := 10) (j := 0) (C0 := RX10) (T := TX10) (N := 10) rfl iX10 giX10 (by decide) w9_320 (by decide +kernel : decode cX10_death 13 = .ok (.getfield 9, 3)) ?_
    refine q_call3 C (q_coS C (np := 3) (t_X10_isWithin l) w9_0 w9_3 w9_2 w9_1 (by decide +kernel) (by decide +kernel : decode cX10_death 16 = .ok (.invokestatic 63, 3)) (by decide)) ?_
    refine q_ifne C (tgt := 25) (by decide +kernel : decode cX10_death 19 = .ok (.ifCond .ne 6, 3)) (by decide) ?_ ?_
    · refine q_aload_n C (by decide +kernel : decode cX10_death 25 = .ok (.aload_n 3, 1)) ?_
      refine q_call1 C (q_coV C (np := 0) (ci := 7) (rc := (RX7, TX7, 3)) (t_X7_isToldDead l) w9_120 rfl rfl w9_386 w9_123 w9_124 w9_121 (by decide +kernel) (by decide +kernel : decode cX10_death 26 = .ok (.invokevirtual 75, 3)) (by decide)) ?_
      refine q_ifeq C (tgt := 35) (by decide +kernel : decode cX10_death 29 = .ok (.ifCond .eq 6, 3)) (by decide) ?_ ?_
      · refine q_aload_n C (by decide +kernel : decode cX10_death 35 = .ok (.aload_n 3, 1)) ?_
        refine q_iload_n C (by decide +kernel : decode cX10_death 36 = .ok (.iload_n 2, 1)) ?_
        refine q_aload_n C (by decide +kernel : decode cX10_death 37 = .ok (.aload_n 0, 1)) ?_
        refine q_get C (ci := 10) (j := 0) (C0 := RX10) (T := TX10) (N := 10) rfl iX10 giX10 (by decide) w9_320 (by decide +kernel : decode cX10_death 38 = .ok (.getfield 9, 3)) ?_
        refine q_call3 C (q_coV C (np := 2) (ci := 7) (rc := (RX7, TX7, 3)) (t_X7_tellDead l) w9_427 rfl rfl w9_428 w9_429 w9_430 w9_121 (by decide +kernel) (by decide +kernel : decode cX10_death 41 = .ok (.invokevirtual 79, 3)) (by decide)) ?_
        refine q_aload_n C (by decide +kernel : decode cX10_death 44 = .ok (.aload_n 0, 1)) ?_
        refine q_aload_n C (by decide +kernel : decode cX10_death 45 = .ok (.aload_n 3, 1)) ?_
        refine q_call2 C (q_coV C (np := 1) (ci := 10) (rc := (RX10, TX10, 10)) (t_X10_receiverFrom l) w9_431 rfl rfl w9_432 w9_433 w9_434 w9_1 (by decide +kernel) (by decide +kernel : decode cX10_death 46 = .ok (.invokevirtual 83, 3)) (by decide)) ?_
        refine q_istore C (by decide +kernel : decode cX10_death 49 = .ok (.istore 4, 2)) ?_
        refine q_iconst C (by decide +kernel : decode cX10_death 51 = .ok (.iconst 0, 1)) (by decide) ?_
        refine q_istore C (by decide +kernel : decode cX10_death 52 = .ok (.istore 5, 2)) ?_
        exact hK 54 (by decide)
      · refine q_bipush C (by decide +kernel : decode cX10_death 32 = .ok (.bipush (-3), 2)) (by decide) ?_
        exact q_iret C rfl (by decide +kernel : decode cX10_death 34 = .ok (.ireturn, 1))
    · exact v_X10_death_22 C hK
set_option maxRecDepth 100000 in
theorem v_X10_death_91 {p : Program} {l : Launch} {e : Env} {s : State} {m : MethodId} {args : Array Value} {below : List Frame} {meth : Method} {c : Code} {D : va_G} {A : Nat → Prop} {post : Option Value → q_S → Prop} {K : Nat → q_K} (C : q_C p s m args meth c cX10_death 7 RX10 "death" (some .int) A) (hK : ∀ h ∈ ([54] : List Nat), q_V p l e rm_X10_death s m args below meth c D A 7 (MQ below (q_Qc D A post) args s rm_X10_death.cells rm_X10_death.slots A) h (K h)) : q_V p l e rm_X10_death s m args below meth c D A 7 (MQ below (q_Qc D A post) args s rm_X10_death.cells rm_X10_death.slots A) 91 (k_X10_death_91 post K) := by
  unfold k_X10_death_91
  refine q_iinc C (by decide +kernel : decode cX10_death 91 = .ok (.iinc 5 1, 3)) (by decide) ?_
  refine q_goto C (tgt := 54) (by decide +kernel : decode cX10_death 94 = .ok (.goto (-40), 3)) (by decide) ?_
  exact hK 54 (by decide)
set_option maxRecDepth 100000 in
theorem v_X10_death_54 {p : Program} {l : Launch} {e : Env} {s : State} {m : MethodId} {args : Array Value} {below : List Frame} {meth : Method} {c : Code} {D : va_G} {A : Nat → Prop} {post : Option Value → q_S → Prop} {K : Nat → q_K} (C : q_C p s m args meth c cX10_death 7 RX10 "death" (some .int) A) (hK : ∀ h ∈ ([54] : List Nat), q_V p l e rm_X10_death s m args below meth c D A 7 (MQ below (q_Qc D A post) args s rm_X10_death.cells rm_X10_death.slots A) h (K h)) : q_V p l e rm_X10_death s m args below meth c D A 7 (MQ below (q_Qc D A post) args s rm_X10_death.cells rm_X10_death.slots A) 54 (k_X10_death_54 post K) := by
  unfold k_X10_death_54
  refine q_iload C (by decide +kernel : decode cX10_death 54 = .ok (.iload 5, 2)) ?_
  refine q_aload_n C (by decide +kernel : decode cX10_death 56 = .ok (.aload_n 0, 1)) ?_
  refine q_get C (ci := 10) (j := 5) (C0 := RX10) (T := TX10) (N := 10) rfl iX10 giX10 (by decide) w9_314 (by decide +kernel : decode cX10_death 57 = .ok (.getfield 37, 3)) ?_
  refine q_icge C (tgt := 97) (by decide +kernel : decode cX10_death 60 = .ok (.if_icmp .ge 37, 3)) (by decide) ?_ ?_
  · refine q_iload C (by decide +kernel : decode cX10_death 97 = .ok (.iload 4, 2)) ?_
    exact q_iret C rfl (by decide +kernel : decode cX10_death 99 = .ok (.ireturn, 1))
  · refine q_aload_n C (by decide +kernel : decode cX10_death 63 = .ok (.aload_n 0, 1)) ?_
    refine q_iload C (by decide +kernel : decode cX10_death 64 = .ok (.iload 5, 2)) ?_
    refine q_call2 C (q_coV C (np := 1) (ci := 10) (rc := (RX10, TX10, 10)) (t_X10_workAt l) w9_337 rfl rfl w9_338 w9_339 w9_340 w9_1 (by decide +kernel) (by decide +kernel : decode cX10_death 66 = .ok (.invokevirtual 87, 3)) (by decide)) ?_
    refine q_astore C (by decide +kernel : decode cX10_death 69 = .ok (.astore 6, 2)) ?_
    refine q_aload C (by decide +kernel : decode cX10_death 71 = .ok (.aload 6, 2)) ?_
    refine q_ifnull C (tgt := 91) (by decide +kernel : decode cX10_death 73 = .ok (.ifnull 18, 3)) (by decide) ?_ ?_
    · exact v_X10_death_91 C hK
    · refine q_aload C (by decide +kernel : decode cX10_death 76 = .ok (.aload 6, 2)) ?_
      refine q_getN C (ci := 9) (j := 2) (C0 := RX9) (T := TX9) (N := 5) rfl iX9 giX9 (by decide) (by decide +kernel) (by decide +kernel : decode cX10_death 78 = .ok (.getfield 91, 3)) ?_
      refine q_iload_n C (by decide +kernel : decode cX10_death 81 = .ok (.iload_n 1, 1)) ?_
      refine q_iload C (by decide +kernel : decode cX10_death 82 = .ok (.iload 4, 2)) ?_
      refine q_aload_n C (by decide +kernel : decode cX10_death 84 = .ok (.aload_n 0, 1)) ?_
      refine q_get C (ci := 10) (j := 0) (C0 := RX10) (T := TX10) (N := 10) rfl iX10 giX10 (by decide) w9_320 (by decide +kernel : decode cX10_death 85 = .ok (.getfield 9, 3)) ?_
      refine q_call4 C (q_coV C (np := 3) (ci := 8) (rc := (RX8, TX8, 2)) (t_X8_passOn l) w9_435 rfl rfl w9_436 w9_437 w9_438 w9_183 (by decide +kernel) (by decide +kernel : decode cX10_death 88 = .ok (.invokevirtual 95, 3)) (by decide)) ?_
      exact v_X10_death_91 C hK
theorem u_X10_death (l : Launch) {sp : q_Sp} (H : ∀ (av : List Value) (σ : q_S) (post : Option Value → q_S → Prop), sp av σ post → ∃ Inv : Nat → Nat → q_K, (∀ K : Nat → q_K, (∀ (h n : Nat) (L : List (Option Value)) (st : List Value) (σ : q_S) (cr sr : Nat), Inv h n L st σ cr sr → K h L st σ cr sr) → k_X10_death_0 post K (q_L0 av 7) [] σ 40 320) ∧ (∀ (K : Nat → q_K) (n : Nat), (∀ (h m : Nat) (L : List (Option Value)) (st : List Value) (σ : q_S) (cr sr : Nat), m < n → Inv h m L st σ cr sr → K h L st σ cr sr) → ∀ (L : List (Option Value)) (st : List Value) (σ : q_S) (cr sr : Nat), Inv 54 n L st σ cr sr → k_X10_death_54 post K L st σ cr sr) ∧ av.length ≤ 7 ∧ ∀ v ∈ av, v.category = 1) : q_Ct l yX10_death cX10_death 7 (some .int) rm_X10_death sp := by
  refine q_met (by decide) ?_
  intro D A p e s m args below meth c σ av post C hsp
  obtain ⟨Inv, h1, hh54, h2, h3⟩ := H av σ post hsp
  have hV := q_loops (p := p) (l := l) (e := e) (R := rm_X10_death) (s := s) (m := m) (args := args) (below := below) (meth := meth) (c := c) (D := D) (A := A) (nL := 7) (Q := MQ below (q_Qc D A post) args s rm_X10_death.cells rm_X10_death.slots A) [54] (fun h =>  k_X10_death_54 post) (fun K hK h hh => ?_) Inv (fun n h hh => ?_)
  · exact ⟨_, v_X10_death_0 C hV, h1 _ (fun h n L st σ cr sr hi => ⟨n, hi⟩), h2, h3⟩
  · have e9 : h = 54 := by simpa using hh
    subst e9
    exact v_X10_death_54 C hK
  · have e9 : h = 54 := by simpa using hh
    subst e9
    exact hh54 (fun h L st σ cr sr => ∃ m : Nat, m < n ∧ Inv h m L st σ cr sr) n (fun h m L st σ cr sr hm hi => ⟨m, hm, hi⟩)
theorem t_X10_death (l : Launch) : q_Ct l yX10_death cX10_death 7 (some .int) rm_X10_death s_X10_death := u_X10_death l (by
  intro av σ post h
  unfold s_X10_death at h
  split at h
  · next r p on =>
    obtain ⟨z, g, hR, hI, hEN, h14, hhe, h1⟩ := h
    have hR0 := hR
    obtain ⟨Rg, P, AC, AR, WK, LC, CL, CM, CP, pa, aa, wa, sa, ga, la, lra, lc, lrn, hD⟩ := hR
    have e1 := hD.p1.2
    have e2 := hD.p2.1.2
    have o1 : q_oc σ r = some 10 := by simp only [q_oc, e1]
    have f0 : q_fld σ r 10 0 = some (.int (z 0)) := by simp only [q_fld, e1, if_true]; rfl
    have h20 := hI.n20
    unfold F_death at h1
    by_cases c : isP z p ∧ (0 ≤ on ∧ on ≤ z 0) ∧ g 3 p.toNatClampNeg = -1
    · obtain ⟨cp, co, cd⟩ := c
      have hp12 : 0 ≤ p ∧ p < 12 := ⟨cp.1, by have := hI.2.1.2; grind⟩
      have hp11 : 0 ≤ p ∧ p ≤ 11 := by grind
      rw [if_pos ⟨cp, co⟩, if_neg (fun h => h cd)] at h1
      dsimp only at h1
      have h980 : z 14 ≤ 980 := by
        rcases h14 with h | h
        · exact h
        · exact absurd cd (h cp)
      have hh := hhe cp
      have hpn : p.toNatClampNeg < npF z := ltN cp.1 cp.2
      have e3 := (hD.p2.2.1 _ hpn).2
      have o7 : q_oc σ (pa p.toNatClampNeg) = some 7 := by simp only [q_oc, e3]
      have hR1 : RegOK (q_up σ (pa p.toNatClampNeg) (.inr (7, [.int (g 2 p.toNatClampNeg), .int on, .int (z 0)]))) r z (g34 z g p on) := by
        refine hD.put1 (lrn' := va_up lrn p.toNatClampNeg (z 0)) 2 (q_fm.up (hD.p2.2.1 _ hpn).1) (hD.p2.up hpn _ (by unfold g34; rw [va_up_s, gup_n (by decide), gup_n (by decide), gup_n (by decide), gup_s, if_pos rfl]) (fun j hj => ⟨by unfold g34; rw [gup_n (by decide), gup_n (by decide)], by unfold g34; rw [gup_n (by decide), gup_s, if_neg hj], va_up_n hj, by unfold g34; rw [gup_s, if_neg hj, gup_n (by decide)]⟩) (fun _ => by unfold g34; rw [va_up_s, gup_s, if_pos rfl]))
          (fun k hk h => h.cong (fun _ h => h) (fun e => absurd e hk) (fun _ h => h) (fun _ h => h) (fun _ h => h) (fun _ h => h) (fun i _ hi => ⟨hi, fun h => h.cong (Int32.le_refl _) rfl rfl rfl rfl rfl rfl rfl rfl rfl⟩) (fun i _ hi => ⟨hi, fun h => h⟩) (fun i _ hi => ⟨hi, fun h => h⟩) h20 h20)
      generalize eσ : q_up σ (pa p.toNatClampNeg) (.inr (7, [.int (g 2 p.toNatClampNeg), .int on, .int (z 0)])) = σ1 at *
      have hdead : σ1 (pa p.toNatClampNeg) = some (.inr (7, [.int (g 2 p.toNatClampNeg), .int on, .int (z 0)])) := by rw [← eσ, q_up_s]
      have e1' : σ1 r = some (rootE z P AC WK LC CL CP) := by rw [← eσ, q_up_n (fun e9 => by rw [← e9, e1] at e3; cases e3)]; exact e1
      have o1' : q_oc σ1 r = some 10 := by simp only [q_oc, e1']
      have hrcE : ∃ rc, rc = (if hasH z g p on then g 2 p.toNatClampNeg else -5) := ⟨_, rfl⟩
      obtain ⟨rc, hrcE⟩ := hrcE
      rw [← hrcE] at h1
      have hrc : toH z g p on = plcF rc ∧ 0 ≤ plcF rc ∧ plcF rc < 13 := by
        rw [hrcE]
        unfold toH
        by_cases ch : hasH z g p on
        · rw [if_pos ch, if_pos ch]
          have k := plc (p := g 2 p.toNatClampNeg) (by have := ch.1; have := hI.2.1.2; grind)
          exact ⟨k.1.symm, k.2⟩
        · rw [if_neg ch, if_neg ch]
          exact ⟨rfl, by decide⟩
      rw [hrc.1] at h1
      refine ⟨fun _ m L st σ' cr sr => ∃ i d6, i ≤ nwF z ∧ m = nwF z - i ∧ cr = 40 - 2 * i ∧ sr = 320 - 16 * i ∧ RegOK σ' r (dF z (g34 z g p on) p (plcF rc) i).1 (dF z (g34 z g p on) p (plcF rc) i).2 ∧ st = [] ∧ L = [some (.ref r), some (.int p), some (.int on), some (.ref (pa p.toNatClampNeg)), some (.int rc), some (.int (nI i)), d6], ?_, ?_, by simp, by simp [Value.category]⟩
      · intro K hK
        simp only [c_push, c_null, c_iload, c_aload, c_istore, c_astore, c_iinc, c_iadd, c_isub, c_imul, c_iand, c_ineg, c_dup, c_dup2, c_pop, c_ifnull, c_ifnonnull, c_get, c_put, c_iald, c_zald, c_iast, c_zast, c_aald, c_aast, c_alen, c_new, c_newa, c_newq, c_mna, c_oinit, c_max, c_copy, c_iret, c_zret, c_aret, c_vret, q_do, q_rc, c_ifeq, c_ifne, c_iflt, c_ifge, c_ifgt, c_ifle, c_iceq, c_icne, c_iclt, c_icge, c_icgt, c_icle, c_call0, c_call1, c_call2, c_call3, c_call4, c_call5, c_call6, c_call7, q_L0, List.map_cons, List.map_nil, List.replicate, List.cons_append, List.nil_append, List.append_nil, List.length_cons, List.length_nil, List.length_set, Nat.reduceSub, Nat.reduceAdd, Nat.reduceLT, Nat.reduceLeDiff, Nat.zero_add, Nat.add_zero, Nat.sub_zero, Nat.sub_self, List.getElem?_cons_zero, List.getElem?_cons_succ, List.set_cons_zero, List.set_cons_succ, Option.toList_some, Option.toList_none, List.sum_cons, List.sum_nil, true_and, and_true, true_or, or_true, Nat.le_refl, Nat.zero_le, Value.category, Fin.isValue, Fin.val_zero, Fin.val_one, Fin.val_two, Fin.reduceFinMk, q_10, q_01, not_false_eq_true, not_true_eq_false, forall_const, true_implies, false_implies, implies_true, q_ni, q_fi, q_nb0, q_nb1, q_fb0, q_fb1, q_nor, q_nar, q_for, q_far, q_non, q_nan, q_fon, q_fan, imp_false, false_and, and_false, and_self, false_or, or_false, va_rf, refKind, k_X10_death_0, k_X10_death_22, k_X10_death_91, k_X10_death_54, o1, o7, f0, pAt e1 e2 hI.2.1, cp, co, s_X10_isWithin, s_X7_isToldDead, e3, cd, s_X7_tellDead, eσ, o1']
        have hR1' := hR1
        obtain ⟨Rg2, P2, AC2, AR2, WK2, LC2, CL2, CM2, CP2, pa2, aa2, wa2, sa2, ga2, la2, lra2, lc2, lrn2, hD2⟩ := hR1
        have J : K 54 [some (.ref r), some (.int p), some (.int on), some (.ref (pa p.toNatClampNeg)), some (.int rc), some (.int 0), none] [] σ1 40 320 := hK _ (nwF z) _ _ _ _ _ ⟨0, none, Nat.zero_le _, rfl, rfl, rfl, hR1', rfl, rfl⟩
        refine ⟨P2, AC2, WK2, LC2, CL2, CP2, z, pa2, g 2 p.toNatClampNeg, _, _, _, _, _, hD2.p1.2, hD2.p2.1.2, hI.2.1, hdead, fun c => (hD2.p2.2.1 _ (ltN c.1 c.2)).2, fun c => ?_, fun c => ?_⟩
        · have e : rc = g 2 p.toNatClampNeg := by rw [hrcE, if_pos ⟨by have := c.1.1; grind, c.2⟩]
          rw [e] at J
          simp only [c_push, c_null, c_iload, c_aload, c_istore, c_astore, c_iinc, c_iadd, c_isub, c_imul, c_iand, c_ineg, c_dup, c_dup2, c_pop, c_ifnull, c_ifnonnull, c_get, c_put, c_iald, c_zald, c_iast, c_zast, c_aald, c_aast, c_alen, c_new, c_newa, c_newq, c_mna, c_oinit, c_max, c_copy, c_iret, c_zret, c_aret, c_vret, q_do, q_rc, c_ifeq, c_ifne, c_iflt, c_ifge, c_ifgt, c_ifle, c_iceq, c_icne, c_iclt, c_icge, c_icgt, c_icle, c_call0, c_call1, c_call2, c_call3, c_call4, c_call5, c_call6, c_call7, q_L0, List.map_cons, List.map_nil, List.replicate, List.cons_append, List.nil_append, List.append_nil, List.length_cons, List.length_nil, List.length_set, Nat.reduceSub, Nat.reduceAdd, Nat.reduceLT, Nat.reduceLeDiff, Nat.zero_add, Nat.add_zero, Nat.sub_zero, Nat.sub_self, List.getElem?_cons_zero, List.getElem?_cons_succ, List.set_cons_zero, List.set_cons_succ, Option.toList_some, Option.toList_none, List.sum_cons, List.sum_nil, true_and, and_true, true_or, or_true, Nat.le_refl, Nat.zero_le, Value.category, Fin.isValue, Fin.val_zero, Fin.val_one, Fin.val_two, Fin.reduceFinMk, q_10, q_01, not_false_eq_true, not_true_eq_false, forall_const, true_implies, false_implies, implies_true, q_ni, q_fi, q_nb0, q_nb1, q_fb0, q_fb1, q_nor, q_nar, q_for, q_far, q_non, q_nan, q_fon, q_fan, imp_false, false_and, and_false, and_self, false_or, or_false, va_rf, refKind]
          exact J
        · have e : rc = -5 := by
            rw [hrcE, if_neg (fun h => c ⟨?_, h.2⟩)]
            rcases hh with h9 | h9
            · exact absurd h9 h.1
            · exact h9
          rw [e] at J
          simp only [c_push, c_null, c_iload, c_aload, c_istore, c_astore, c_iinc, c_iadd, c_isub, c_imul, c_iand, c_ineg, c_dup, c_dup2, c_pop, c_ifnull, c_ifnonnull, c_get, c_put, c_iald, c_zald, c_iast, c_zast, c_aald, c_aast, c_alen, c_new, c_newa, c_newq, c_mna, c_oinit, c_max, c_copy, c_iret, c_zret, c_aret, c_vret, q_do, q_rc, c_ifeq, c_ifne, c_iflt, c_ifge, c_ifgt, c_ifle, c_iceq, c_icne, c_iclt, c_icge, c_icgt, c_icle, c_call0, c_call1, c_call2, c_call3, c_call4, c_call5, c_call6, c_call7, q_L0, List.map_cons, List.map_nil, List.replicate, List.cons_append, List.nil_append, List.append_nil, List.length_cons, List.length_nil, List.length_set, Nat.reduceSub, Nat.reduceAdd, Nat.reduceLT, Nat.reduceLeDiff, Nat.zero_add, Nat.add_zero, Nat.sub_zero, Nat.sub_self, List.getElem?_cons_zero, List.getElem?_cons_succ, List.set_cons_zero, List.set_cons_succ, Option.toList_some, Option.toList_none, List.sum_cons, List.sum_nil, true_and, and_true, true_or, or_true, Nat.le_refl, Nat.zero_le, Value.category, Fin.isValue, Fin.val_zero, Fin.val_one, Fin.val_two, Fin.reduceFinMk, q_10, q_01, not_false_eq_true, not_true_eq_false, forall_const, true_implies, false_implies, implies_true, q_ni, q_fi, q_nb0, q_nb1, q_fb0, q_fb1, q_nor, q_nar, q_for, q_far, q_non, q_nan, q_fon, q_fan, imp_false, false_and, and_false, and_self, false_or, or_false, va_rf, refKind]
          exact J
      · rintro K m hK L st σ' cr sr ⟨i, d6, hi, rfl, rfl, rfl, hRi, rfl, rfl⟩
        have z11 := dF_z z (g34 z g p on) p (plcF rc) 11 (by decide) i
        have z0 := dF_z z (g34 z g p on) p (plcF rc) 0 (by decide) i
        have g13 := dF_g z (g34 z g p on) p (plcF rc) 13 (by omega) i
        have em := dF_m z (g34 z g p on) p (plcF rc) ⟨hI.2.2.2.2.1.1, h980⟩ i (by omega)
        have edF : dF z (g34 z g p on) p (plcF rc) (i + 1) = ((dmF ((dF z (g34 z g p on) p (plcF rc) i).1, (dF z (g34 z g p on) p (plcF rc) i).2) i p (plcF rc)).1, clrF (dmF ((dF z (g34 z g p on) p (plcF rc) i).1, (dF z (g34 z g p on) p (plcF rc) i).2) i p (plcF rc)).2 i p.toNatClampNeg 12) := rfl
        by_cases c : i < nwF z
        · have hm980 : (z 14).toNatClampNeg ≤ 980 := clamp_le 980 hI.2.2.2.2.1.1 h980
          generalize (dF z (g34 z g p on) p (plcF rc) i).1 = zi at *
          generalize (dF z (g34 z g p on) p (plcF rc) i).2 = gi at *
          obtain ⟨Rg2, P2, AC2, AR2, WK2, LC2, CL2, CM2, CP2, pa2, aa2, wa2, sa2, ga2, la2, lra2, lc2, lrn2, hD2⟩ := hRi
          have e1i := hD2.p1.2
          have e4i := hD2.p4.1.2
          have o1i : q_oc σ' r = some 10 := by simp only [q_oc, e1i]
          have f5 : q_fld σ' r 10 5 = some (.int (zi 11)) := by simp only [q_fld, e1i, if_true]; rfl
          have f0i : q_fld σ' r 10 0 = some (.int (zi 0)) := by simp only [q_fld, e1i, if_true]; rfl
          have hI11 : 0 ≤ zi 11 ∧ zi 11 ≤ 20 := by rw [z11]; exact hI.2.2.2.1
          have nw : nwF zi = nwF z := by unfold nwF; rw [z11]
          have en : zi 11 = nI (nwF z) := by rw [z11]; exact (nI_self hI.2.2.2.1.1).symm
          have ci : 0 ≤ nI i ∧ nI i < zi 11 := ⟨nI_low (by omega), by rw [en]; exact (cl2 (nI i) (nI (nwF z)) _ _ rfl rfl (by omega) (by omega)).2.1.mpr c⟩
          have cn : ¬ zi 11 ≤ nI i := by grind
          have ilt : i < nwF zi := by rw [nw]; exact c
          have h20' : nwF zi ≤ 20 := by rw [nw]; exact h20
          have w1 := (hD2.p4.2 i ilt).2
          have g2 : q_fld σ' (wa2 i) 9 2 = some (.ref (sa2 i)) := by simp only [q_fld, w1, if_true]; rfl
          obtain ⟨x, t, hS, hP, hx⟩ := (hD2.sh ilt h20').hd (by rw [g13, z0]; exact (hEN i c).2)
          have os := hS.oc
          have hpc := plc hp12
          have hx2 := hx p hpc.2
          rw [hpc.1] at hx2
          obtain ⟨m0, em1, em2⟩ := em
          have hm : 0 ≤ zi 14 ∧ zi 14 < 1000 := by rw [em1]; exact ⟨nI_low (by omega), nI_ltN (N := 1000) (by omega)⟩
          have b1 : 2 ≤ 40 - 2 * i := by omega
          have b2 : 16 ≤ 320 - 16 * i := by omega
          simp only [c_push, c_null, c_iload, c_aload, c_istore, c_astore, c_iinc, c_iadd, c_isub, c_imul, c_iand, c_ineg, c_dup, c_dup2, c_pop, c_ifnull, c_ifnonnull, c_get, c_put, c_iald, c_zald, c_iast, c_zast, c_aald, c_aast, c_alen, c_new, c_newa, c_newq, c_mna, c_oinit, c_max, c_copy, c_iret, c_zret, c_aret, c_vret, q_do, q_rc, c_ifeq, c_ifne, c_iflt, c_ifge, c_ifgt, c_ifle, c_iceq, c_icne, c_iclt, c_icge, c_icgt, c_icle, c_call0, c_call1, c_call2, c_call3, c_call4, c_call5, c_call6, c_call7, q_L0, List.map_cons, List.map_nil, List.replicate, List.cons_append, List.nil_append, List.append_nil, List.length_cons, List.length_nil, List.length_set, Nat.reduceSub, Nat.reduceAdd, Nat.reduceLT, Nat.reduceLeDiff, Nat.zero_add, Nat.add_zero, Nat.sub_zero, Nat.sub_self, List.getElem?_cons_zero, List.getElem?_cons_succ, List.set_cons_zero, List.set_cons_succ, Option.toList_some, Option.toList_none, List.sum_cons, List.sum_nil, true_and, and_true, true_or, or_true, Nat.le_refl, Nat.zero_le, Value.category, Fin.isValue, Fin.val_zero, Fin.val_one, Fin.val_two, Fin.reduceFinMk, q_10, q_01, not_false_eq_true, not_true_eq_false, forall_const, true_implies, false_implies, implies_true, q_ni, q_fi, q_nb0, q_nb1, q_fb0, q_fb1, q_nor, q_nar, q_for, q_far, q_non, q_nan, q_fon, q_fan, imp_false, false_and, and_false, and_self, false_or, or_false, va_rf, refKind, k_X10_death_0, k_X10_death_22, k_X10_death_91, k_X10_death_54, o1i, f5, f0i, wAt e1i e4i hI11, ci, cn, clN (show i < 2147483648 by omega), g2, os, b1, b2]
          refine ⟨_, _, x, t, hS, hp11, fun σ2 R2 pgs2 hS2 hf2 k1 k2 => ?_⟩
          simp only [c_push, c_null, c_iload, c_aload, c_istore, c_astore, c_iinc, c_iadd, c_isub, c_imul, c_iand, c_ineg, c_dup, c_dup2, c_pop, c_ifnull, c_ifnonnull, c_get, c_put, c_iald, c_zald, c_iast, c_zast, c_aald, c_aast, c_alen, c_new, c_newa, c_newq, c_mna, c_oinit, c_max, c_copy, c_iret, c_zret, c_aret, c_vret, q_do, q_rc, c_ifeq, c_ifne, c_iflt, c_ifge, c_ifgt, c_ifle, c_iceq, c_icne, c_iclt, c_icge, c_icgt, c_icle, c_call0, c_call1, c_call2, c_call3, c_call4, c_call5, c_call6, c_call7, q_L0, List.map_cons, List.map_nil, List.replicate, List.cons_append, List.nil_append, List.append_nil, List.length_cons, List.length_nil, List.length_set, Nat.reduceSub, Nat.reduceAdd, Nat.reduceLT, Nat.reduceLeDiff, Nat.zero_add, Nat.add_zero, Nat.sub_zero, Nat.sub_self, List.getElem?_cons_zero, List.getElem?_cons_succ, List.set_cons_zero, List.set_cons_succ, Option.toList_some, Option.toList_none, List.sum_cons, List.sum_nil, true_and, and_true, true_or, or_true, Nat.le_refl, Nat.zero_le, Value.category, Fin.isValue, Fin.val_zero, Fin.val_one, Fin.val_two, Fin.reduceFinMk, q_10, q_01, not_false_eq_true, not_true_eq_false, forall_const, true_implies, false_implies, implies_true, q_ni, q_fi, q_nb0, q_nb1, q_fb0, q_fb1, q_nor, q_nar, q_for, q_far, q_non, q_nan, q_fon, q_fan, imp_false, false_and, and_false, and_self, false_or, or_false, va_rf, refKind]
          refine hK _ (nwF z - (i + 1)) _ _ _ _ _ (by omega) ⟨i + 1, _, by omega, rfl, by omega, by omega, ?_, rfl, by rw [nI_1]⟩
          rw [edF]
          exact hD2.pass h20' ilt hm hp12 hrc.2 hP hx2 hS2 hf2 k1 k2
        · have e : i = nwF z := by omega
          have hfin := h1 _ (by rw [e] at hRi; exact hRi)
          obtain ⟨Rg2, P2, AC2, AR2, WK2, LC2, CL2, CM2, CP2, pa2, aa2, wa2, sa2, ga2, la2, lra2, lc2, lrn2, hD2⟩ := hRi
          have e1i := hD2.p1.2
          have f5 : q_fld σ' r 10 5 = some (.int ((dF z (g34 z g p on) p (plcF rc) i).1 11)) := by simp only [q_fld, e1i, if_true]; rfl
          have cn : (dF z (g34 z g p on) p (plcF rc) i).1 11 ≤ nI i := by rw [z11, e]; show z 11 ≤ nI (z 11).toNatClampNeg; rw [nI_self hI.2.2.2.1.1]; exact Int32.le_refl _
          simp only [c_push, c_null, c_iload, c_aload, c_istore, c_astore, c_iinc, c_iadd, c_isub, c_imul, c_iand, c_ineg, c_dup, c_dup2, c_pop, c_ifnull, c_ifnonnull, c_get, c_put, c_iald, c_zald, c_iast, c_zast, c_aald, c_aast, c_alen, c_new, c_newa, c_newq, c_mna, c_oinit, c_max, c_copy, c_iret, c_zret, c_aret, c_vret, q_do, q_rc, c_ifeq, c_ifne, c_iflt, c_ifge, c_ifgt, c_ifle, c_iceq, c_icne, c_iclt, c_icge, c_icgt, c_icle, c_call0, c_call1, c_call2, c_call3, c_call4, c_call5, c_call6, c_call7, q_L0, List.map_cons, List.map_nil, List.replicate, List.cons_append, List.nil_append, List.append_nil, List.length_cons, List.length_nil, List.length_set, Nat.reduceSub, Nat.reduceAdd, Nat.reduceLT, Nat.reduceLeDiff, Nat.zero_add, Nat.add_zero, Nat.sub_zero, Nat.sub_self, List.getElem?_cons_zero, List.getElem?_cons_succ, List.set_cons_zero, List.set_cons_succ, Option.toList_some, Option.toList_none, List.sum_cons, List.sum_nil, true_and, and_true, true_or, or_true, Nat.le_refl, Nat.zero_le, Value.category, Fin.isValue, Fin.val_zero, Fin.val_one, Fin.val_two, Fin.reduceFinMk, q_10, q_01, not_false_eq_true, not_true_eq_false, forall_const, true_implies, false_implies, implies_true, q_ni, q_fi, q_nb0, q_nb1, q_fb0, q_fb1, q_nor, q_nar, q_for, q_far, q_non, q_nan, q_fon, q_fan, imp_false, false_and, and_false, and_self, false_or, or_false, va_rf, refKind, k_X10_death_0, k_X10_death_22, k_X10_death_91, k_X10_death_54, f5, cn, hfin]
    · refine ⟨fun _ _ _ _ _ _ _ => False, ?_, ?_, by simp, by simp [Value.category]⟩
      · intro K hK
        by_cases cp : 0 ≤ p ∧ p < z 1
        · have hpn : p.toNatClampNeg < npF z := ltN cp.1 cp.2
          have e3 := (hD.p2.2.1 _ hpn).2
          have o7 : q_oc σ (pa p.toNatClampNeg) = some 7 := by simp only [q_oc, e3]
          by_cases co : 0 ≤ on ∧ on ≤ z 0
          · have cd : ¬ g 3 p.toNatClampNeg = -1 := fun h => c ⟨cp, co, h⟩
            rw [if_pos ⟨cp, co⟩, if_pos cd] at h1
            have h2 := h1 _ hR0
            simp only [c_push, c_null, c_iload, c_aload, c_istore, c_astore, c_iinc, c_iadd, c_isub, c_imul, c_iand, c_ineg, c_dup, c_dup2, c_pop, c_ifnull, c_ifnonnull, c_get, c_put, c_iald, c_zald, c_iast, c_zast, c_aald, c_aast, c_alen, c_new, c_newa, c_newq, c_mna, c_oinit, c_max, c_copy, c_iret, c_zret, c_aret, c_vret, q_do, q_rc, c_ifeq, c_ifne, c_iflt, c_ifge, c_ifgt, c_ifle, c_iceq, c_icne, c_iclt, c_icge, c_icgt, c_icle, c_call0, c_call1, c_call2, c_call3, c_call4, c_call5, c_call6, c_call7, q_L0, List.map_cons, List.map_nil, List.replicate, List.cons_append, List.nil_append, List.append_nil, List.length_cons, List.length_nil, List.length_set, Nat.reduceSub, Nat.reduceAdd, Nat.reduceLT, Nat.reduceLeDiff, Nat.zero_add, Nat.add_zero, Nat.sub_zero, Nat.sub_self, List.getElem?_cons_zero, List.getElem?_cons_succ, List.set_cons_zero, List.set_cons_succ, Option.toList_some, Option.toList_none, List.sum_cons, List.sum_nil, true_and, and_true, true_or, or_true, Nat.le_refl, Nat.zero_le, Value.category, Fin.isValue, Fin.val_zero, Fin.val_one, Fin.val_two, Fin.reduceFinMk, q_10, q_01, not_false_eq_true, not_true_eq_false, forall_const, true_implies, false_implies, implies_true, q_ni, q_fi, q_nb0, q_nb1, q_fb0, q_fb1, q_nor, q_nar, q_for, q_far, q_non, q_nan, q_fon, q_fan, imp_false, false_and, and_false, and_self, false_or, or_false, va_rf, refKind, k_X10_death_0, k_X10_death_22, k_X10_death_91, k_X10_death_54, o1, o7, f0, pAt e1 e2 hI.2.1, cp, co, s_X10_isWithin, s_X7_isToldDead, e3, cd, h2]
          · rw [if_neg (fun h => co h.2)] at h1
            have h2 := h1 _ hR0
            simp only [c_push, c_null, c_iload, c_aload, c_istore, c_astore, c_iinc, c_iadd, c_isub, c_imul, c_iand, c_ineg, c_dup, c_dup2, c_pop, c_ifnull, c_ifnonnull, c_get, c_put, c_iald, c_zald, c_iast, c_zast, c_aald, c_aast, c_alen, c_new, c_newa, c_newq, c_mna, c_oinit, c_max, c_copy, c_iret, c_zret, c_aret, c_vret, q_do, q_rc, c_ifeq, c_ifne, c_iflt, c_ifge, c_ifgt, c_ifle, c_iceq, c_icne, c_iclt, c_icge, c_icgt, c_icle, c_call0, c_call1, c_call2, c_call3, c_call4, c_call5, c_call6, c_call7, q_L0, List.map_cons, List.map_nil, List.replicate, List.cons_append, List.nil_append, List.append_nil, List.length_cons, List.length_nil, List.length_set, Nat.reduceSub, Nat.reduceAdd, Nat.reduceLT, Nat.reduceLeDiff, Nat.zero_add, Nat.add_zero, Nat.sub_zero, Nat.sub_self, List.getElem?_cons_zero, List.getElem?_cons_succ, List.set_cons_zero, List.set_cons_succ, Option.toList_some, Option.toList_none, List.sum_cons, List.sum_nil, true_and, and_true, true_or, or_true, Nat.le_refl, Nat.zero_le, Value.category, Fin.isValue, Fin.val_zero, Fin.val_one, Fin.val_two, Fin.reduceFinMk, q_10, q_01, not_false_eq_true, not_true_eq_false, forall_const, true_implies, false_implies, implies_true, q_ni, q_fi, q_nb0, q_nb1, q_fb0, q_fb1, q_nor, q_nar, q_for, q_far, q_non, q_nan, q_fon, q_fan, imp_false, false_and, and_false, and_self, false_or, or_false, va_rf, refKind, k_X10_death_0, k_X10_death_22, k_X10_death_91, k_X10_death_54, o1, o7, f0, pAt e1 e2 hI.2.1, cp, co, s_X10_isWithin, h2]
        · rw [if_neg (fun h => cp h.1)] at h1
          have h2 := h1 _ hR0
          simp only [c_push, c_null, c_iload, c_aload, c_istore, c_astore, c_iinc, c_iadd, c_isub, c_imul, c_iand, c_ineg, c_dup, c_dup2, c_pop, c_ifnull, c_ifnonnull, c_get, c_put, c_iald, c_zald, c_iast, c_zast, c_aald, c_aast, c_alen, c_new, c_newa, c_newq, c_mna, c_oinit, c_max, c_copy, c_iret, c_zret, c_aret, c_vret, q_do, q_rc, c_ifeq, c_ifne, c_iflt, c_ifge, c_ifgt, c_ifle, c_iceq, c_icne, c_iclt, c_icge, c_icgt, c_icle, c_call0, c_call1, c_call2, c_call3, c_call4, c_call5, c_call6, c_call7, q_L0, List.map_cons, List.map_nil, List.replicate, List.cons_append, List.nil_append, List.append_nil, List.length_cons, List.length_nil, List.length_set, Nat.reduceSub, Nat.reduceAdd, Nat.reduceLT, Nat.reduceLeDiff, Nat.zero_add, Nat.add_zero, Nat.sub_zero, Nat.sub_self, List.getElem?_cons_zero, List.getElem?_cons_succ, List.set_cons_zero, List.set_cons_succ, Option.toList_some, Option.toList_none, List.sum_cons, List.sum_nil, true_and, and_true, true_or, or_true, Nat.le_refl, Nat.zero_le, Value.category, Fin.isValue, Fin.val_zero, Fin.val_one, Fin.val_two, Fin.reduceFinMk, q_10, q_01, not_false_eq_true, not_true_eq_false, forall_const, true_implies, false_implies, implies_true, q_ni, q_fi, q_nb0, q_nb1, q_fb0, q_fb1, q_nor, q_nar, q_for, q_far, q_non, q_nan, q_fon, q_fan, imp_false, false_and, and_false, and_self, false_or, or_false, va_rf, refKind, k_X10_death_0, k_X10_death_22, k_X10_death_91, k_X10_death_54, o1, f0, pAt e1 e2 hI.2.1, cp, h2]
      · rintro K m hK L st σ' cr sr h9
        exact h9.elim
  · exact h.elim)
