-- death
def clrF (g : Nat → Nat → Int32) (w p : Nat) : Nat → Nat → Nat → Int32
  | 0 => g
  | q + 1 => gup (clrF g w p q) 20 (144 * w + 12 * p + q) 0
def dmF (s : (Nat → Int32) × (Nat → Nat → Int32)) (w : Nat) (p to : Int32) : (Nat → Int32) × (Nat → Nat → Int32) := if 0 < holdsF s.2 (nI w) p (s.1 0) (mvF s.1) then (upd s.1 14 (s.1 14 + 1), moveF s.1 s.2 (nI w) p to (holdsF s.2 (nI w) p (s.1 0) (mvF s.1))) else s
def dF (z : Nat → Int32) (g : Nat → Nat → Int32) (p to : Int32) : Nat → (Nat → Int32) × (Nat → Nat → Int32)
  | 0 => (z, g)
  | w + 1 => ((dmF (dF z g p to w) w p to).1, clrF (dmF (dF z g p to w) w p to).2 w p.toNatClampNeg 12)
theorem dmF_z (s : (Nat → Int32) × (Nat → Nat → Int32)) (w : Nat) (p to : Int32) (k : Nat) (hk : k ≠ 14) : (dmF s w p to).1 k = s.1 k := by
  unfold dmF; split <;> simp [upd, hk]
theorem dF_z (z : Nat → Int32) (g : Nat → Nat → Int32) (p to : Int32) (k : Nat) (hk : k ≠ 14) : ∀ w : Nat, (dF z g p to w).1 k = z k
  | 0 => rfl
  | w + 1 => by rw [dF]; exact (dmF_z _ _ _ _ k hk).trans (dF_z z g p to k hk w)
theorem dF_m (z : Nat → Int32) (g : Nat → Nat → Int32) (p to : Int32) (h0 : 0 ≤ z 14 ∧ z 14 ≤ 980) : ∀ w : Nat, w ≤ 20 → ∃ m : Nat, (dF z g p to w).1 14 = nI m ∧ m ≤ (z 14).toNatClampNeg + w
  | 0, _ => ⟨(z 14).toNatClampNeg, (nI_self h0.1).symm, Nat.le_refl _⟩
  | w + 1, hw => by
    obtain ⟨m, e, hm⟩ := dF_m z g p to h0 w (by omega)
    rw [dF]
    unfold dmF
    split
    · refine ⟨m + 1, ?_, by omega⟩
      simp only [upd, if_true]
      rw [e, nI_1]
    · exact ⟨m, e, by omega⟩
theorem clrF_ne (g : Nat → Nat → Int32) (w p : Nat) (k : Nat) (hk : k ≠ 20) : ∀ q : Nat, clrF g w p q k = g k
  | 0 => rfl
  | q + 1 => by rw [clrF]; unfold gup; rw [if_neg hk]; exact clrF_ne g w p k hk q
theorem moveF_ne (z : Nat → Int32) (g : Nat → Nat → Int32) (w a b n : Int32) (k : Nat) (hk : k < 15 ∨ 19 < k) : moveF z g w a b n k = g k := by
  unfold moveF gup
  rw [if_neg (by omega), if_neg (by omega), if_neg (by omega), if_neg (by omega), if_neg (by omega)]
theorem dF_g (z : Nat → Int32) (g : Nat → Nat → Int32) (p to : Int32) (k : Nat) (hk : k < 15 ∨ 20 < k) : ∀ w : Nat, (dF z g p to w).2 k = g k
  | 0 => rfl
  | w + 1 => by
    rw [dF]
    dsimp only
    rw [clrF_ne _ _ _ k (by omega)]
    unfold dmF
    split
    · dsimp only
      rw [moveF_ne _ _ _ _ _ _ k (by omega)]; exact dF_g z g p to k hk w
    · exact dF_g z g p to k hk w
def g34 (z : Nat → Int32) (g : Nat → Nat → Int32) (p on : Int32) : Nat → Nat → Int32 := gup (gup g 3 p.toNatClampNeg on) 4 p.toNatClampNeg (z 0)
abbrev hasH (z : Nat → Int32) (g : Nat → Nat → Int32) (p on : Int32) : Prop := ¬ g 2 p.toNatClampNeg = -1 ∧ g34 z g p on 3 (g 2 p.toNatClampNeg).toNatClampNeg = -1
def toH (z : Nat → Int32) (g : Nat → Nat → Int32) (p on : Int32) : Int32 := if hasH z g p on then g 2 p.toNatClampNeg else 12
def F_death (z : Nat → Int32) (g : Nat → Nat → Int32) (p on : Int32) : Int32 × (Nat → Int32) × (Nat → Nat → Int32) :=
  if isP z p ∧ 0 ≤ on ∧ on ≤ z 0 then if ¬ g 3 p.toNatClampNeg = -1 then (-3, z, g) else (if hasH z g p on then g 2 p.toNatClampNeg else -5, dF z (g34 z g p on) p (toH z g p on) (z 11).toNatClampNeg) else (-2, z, g)
def s_X11_death : q_Sp := fun av σ post => match av with
  | [.ref mr, .int p, .int on] => ∃ ad z g, mOK σ mr ad z g ∧ I1 z ∧ (z 14 ≤ 980 ∨ (isP z p → ¬ g 3 p.toNatClampNeg = -1)) ∧ (isP z p → g 2 p.toNatClampNeg = -1 ∨ 0 ≤ g 2 p.toNatClampNeg ∧ g 2 p.toNatClampNeg < 12) ∧ ∀ σ', mOK σ' mr ad (F_death z g p on).2.1 (F_death z g p on).2.2 → post (some (.int (F_death z g p on).1)) σ'
  | _ => False
def rm_X11_death : Room := { frames := 2, cells := 0, slots := 0, locals := 43 }
def k_X11_death_20 (post : Option Value → q_S → Prop) (K : Nat → q_K) : q_K := (c_push (-2) (c_iret post))
def k_X11_death_99 (post : Option Value → q_S → Prop) (K : Nat → q_K) : q_K := (c_istore 4 (c_push 0 (c_istore 5 (K 104))))
def k_X11_death_83 (post : Option Value → q_S → Prop) (K : Nat → q_K) : q_K := (c_istore 3 (c_iload 3 (c_ifeq (c_push 12 (k_X11_death_99 post K)) (c_aload 0 (c_get 11 2 (c_iload 1 (c_iald (k_X11_death_99 post K))))))))
def k_X11_death_82 (post : Option Value → q_S → Prop) (K : Nat → q_K) : q_K := (c_push 0 (k_X11_death_83 post K))
def k_X11_death_36 (post : Option Value → q_S → Prop) (K : Nat → q_K) : q_K := (c_aload 0 (c_get 11 3 (c_iload 1 (c_iload 2 (c_iast (c_aload 0 (c_get 11 4 (c_iload 1 (c_aload 0 (c_get 11 0 (c_iast (c_aload 0 (c_get 11 2 (c_iload 1 (c_iald (c_push (-1) (c_iceq (k_X11_death_82 post K) (c_aload 0 (c_get 11 3 (c_aload 0 (c_get 11 2 (c_iload 1 (c_iald (c_iald (c_push (-1) (c_icne (k_X11_death_82 post K) (c_push 1 (k_X11_death_83 post K))))))))))))))))))))))))))))
def k_X11_death_0 (post : Option Value → q_S → Prop) (K : Nat → q_K) : q_K := (c_aload 0 (c_iload 1 (c_call2 (some 11) s_X11_isPerson 0 0 (c_ifeq (k_X11_death_20 post K) (c_iload 2 (c_push 0 (c_aload 0 (c_get 11 0 (c_call3 none s_X11_in 0 0 (c_ifne (c_aload 0 (c_get 11 3 (c_iload 1 (c_iald (c_push (-1) (c_iceq (k_X11_death_36 post K) (c_push (-3) (c_iret post)))))))) (k_X11_death_20 post K)))))))))))
def k_X11_death_142 (post : Option Value → q_S → Prop) (K : Nat → q_K) : q_K := (c_push 0 (c_istore 7 (K 145)))
def k_X11_death_126 (post : Option Value → q_S → Prop) (K : Nat → q_K) : q_K := (c_iload 6 (c_ifle (k_X11_death_142 post K) (c_aload 0 (c_iload 5 (c_iload 1 (c_iload 4 (c_iload 6 (c_call5 (some 11) s_X11_move 0 0 (k_X11_death_142 post K)))))))))
def k_X11_death_195 (post : Option Value → q_S → Prop) (K : Nat → q_K) : q_K := (c_iret post)
def k_X11_death_104 (post : Option Value → q_S → Prop) (K : Nat → q_K) : q_K := (c_iload 5 (c_aload 0 (c_get 11 11 (c_icge (c_iload 3 (c_ifeq (c_push (-5) (k_X11_death_195 post K)) (c_iload 4 (k_X11_death_195 post K)))) (c_aload 0 (c_iload 5 (c_iload 1 (c_aload 0 (c_get 11 0 (c_call4 (some 11) s_X11_holds 0 0 (c_istore 6 (k_X11_death_126 post K))))))))))))
def k_X11_death_145 (post : Option Value → q_S → Prop) (K : Nat → q_K) : q_K := (c_iload 7 (c_push 12 (c_icge (c_iinc 5 1 (K 104)) (c_aload 0 (c_get 11 20 (c_push 144 (c_iload 5 (c_imul (c_push 12 (c_iload 1 (c_imul (c_iadd (c_iload 7 (c_iadd (c_push 0 (c_iast (c_iinc 7 1 (K 145))))))))))))))))))
set_option maxRecDepth 100000 in
theorem v_X11_death_20 {p : Program} {l : Launch} {e : Env} {s : State} {m : MethodId} {args : Array Value} {below : List Frame} {meth : Method} {c : Code} {D : va_G} {A : Nat → Prop} {post : Option Value → q_S → Prop} {K : Nat → q_K} (C : q_C p s m args meth c cX11_death 8 RX11 "death" (some .int) A) (hK : ∀ h ∈ ([104, 145] : List Nat), q_V p l e rm_X11_death s m args below meth c D A 8 (MQ below (q_Qc D A post) args s rm_X11_death.cells rm_X11_death.slots A) h (K h)) : q_V p l e rm_X11_death s m args below meth c D A 8 (MQ below (q_Qc D A post) args s rm_X11_death.cells rm_X11_death.slots A) 20 (k_X11_death_20 post K) := by
  unfold k_X11_death_20
  refine q_bipush C (by decide +kernel : decode cX11_death 20 = .ok (.bipush (-2), 2)) (by decide) ?_
  exact q_iret C rfl (by decide +kernel : decode cX11_death 22 = .ok (.ireturn, 1))
set_option maxRecDepth 100000 in
theorem v_X11_death_99 {p : Program} {l : Launch} {e : Env} {s : State} {m : MethodId} {args : Array Value} {below : List Frame} {meth : Method} {c : Code} {D : va_G} {A : Nat → Prop} {post : Option Value → q_S → Prop} {K : Nat → q_K} (C : q_C p s m args meth c cX11_death 8 RX11 "death" (some .int) A) (hK : ∀ h ∈ ([104, 145] : List Nat), q_V p l e rm_X11_death s m args below meth c D A 8 (MQ below (q_Qc D A post) args s rm_X11_death.cells rm_X11_death.slots A) h (K h)) : q_V p l e rm_X11_death s m args below meth c D A 8 (MQ below (q_Qc D A post) args s rm_X11_death.cells rm_X11_death.slots A) 99 (k_X11_death_99 post K) := by
  unfold k_X11_death_99
  refine q_istore C (by decide +kernel : decode cX11_death 99 = .ok (.istore 4, 2)) ?_
  refine q_iconst C (by decide +kernel : decode cX11_death 101 = .ok (.iconst 0, 1)) (by decide) ?_
  refine q_istore C (by decide +kernel : decode cX11_death 102 = .ok (.istore 5, 2)) ?_
  exact hK 104 (by decide)
set_option maxRecDepth 100000 in
theorem v_X11_death_83 {p : Program} {l : Launch} {e : Env} {s : State} {m : MethodId} {args : Array Value} {below : List Frame} {meth : Method} {c : Code} {D : va_G} {A : Nat → Prop} {post : Option Value → q_S → Prop} {K : Nat → q_K} (C : q_C p s m args meth c cX11_death 8 RX11 "death" (some .int) A) (hK : ∀ h ∈ ([104, 145] : List Nat), q_V p l e rm_X11_death s m args below meth c D A 8 (MQ below (q_Qc D A post) args s rm_X11_death.cells rm_X11_death.slots A) h (K h)) : q_V p l e rm_X11_death s m args below meth c D A 8 (MQ below (q_Qc D A post) args s rm_X11_death.cells rm_X11_death.slots A) 83 (k_X11_death_83 post K) := by
  unfold k_X11_death_83
  refine q_istore_n C (by decide +kernel : decode cX11_death 83 = .ok (.istore_n 3, 1)) ?_
  refine q_iload_n C (by decide +kernel : decode cX11_death 84 = .ok (.iload_n 3, 1)) ?_
  refine q_ifeq C (tgt := 97) (by decide +kernel : decode cX11_death 85 = .ok (.ifCond .eq 12, 3)) (by decide) ?_ ?_
  · refine q_bipush C (by decide +kernel : decode cX11_death 97 = .ok (.bipush 12, 2)) (by decide) ?_
    exact v_X11_death_99 C hK
  · refine q_aload_n C (by decide +kernel : decode cX11_death 88 = .ok (.aload_n 0, 1)) ?_
    refine q_get C (ci := 11) (j := 2) (C0 := RX11) (T := TX11) (N := 35) rfl iX11 giX11 (by decide) w9_11 (by decide +kernel : decode cX11_death 89 = .ok (.getfield 7, 3)) ?_
    refine q_iload_n C (by decide +kernel : decode cX11_death 92 = .ok (.iload_n 1, 1)) ?_
    refine q_iald C (by decide +kernel : decode cX11_death 93 = .ok (.iaload, 1)) ?_
    refine q_goto C (tgt := 99) (by decide +kernel : decode cX11_death 94 = .ok (.goto 5, 3)) (by decide) ?_
    exact v_X11_death_99 C hK
set_option maxRecDepth 100000 in
theorem v_X11_death_82 {p : Program} {l : Launch} {e : Env} {s : State} {m : MethodId} {args : Array Value} {below : List Frame} {meth : Method} {c : Code} {D : va_G} {A : Nat → Prop} {post : Option Value → q_S → Prop} {K : Nat → q_K} (C : q_C p s m args meth c cX11_death 8 RX11 "death" (some .int) A) (hK : ∀ h ∈ ([104, 145] : List Nat), q_V p l e rm_X11_death s m args below meth c D A 8 (MQ below (q_Qc D A post) args s rm_X11_death.cells rm_X11_death.slots A) h (K h)) : q_V p l e rm_X11_death s m args below meth c D A 8 (MQ below (q_Qc D A post) args s rm_X11_death.cells rm_X11_death.slots A) 82 (k_X11_death_82 post K) := by
  unfold k_X11_death_82
  refine q_iconst C (by decide +kernel : decode cX11_death 82 = .ok (.iconst 0, 1)) (by decide) ?_
  exact v_X11_death_83 C hK
set_option maxRecDepth 100000 in
theorem v_X11_death_36 {p : Program} {l : Launch} {e : Env} {s : State} {m : MethodId} {args : Array Value} {below : List Frame} {meth : Method} {c : Code} {D : va_G} {A : Nat → Prop} {post : Option Value → q_S → Prop} {K : Nat → q_K} (C : q_C p s m args meth c cX11_death 8 RX11 "death" (some .int) A) (hK : ∀ h ∈ ([104, 145] : List Nat), q_V p l e rm_X11_death s m args below meth c D A 8 (MQ below (q_Qc D A post) args s rm_X11_death.cells rm_X11_death.slots A) h (K h)) : q_V p l e rm_X11_death s m args below meth c D A 8 (MQ below (q_Qc D A post) args s rm_X11_death.cells rm_X11_death.slots A) 36 (k_X11_death_36 post K) := by
  unfold k_X11_death_36
  refine q_aload_n C (by decide +kernel : decode cX11_death 36 = .ok (.aload_n 0, 1)) ?_
  refine q_get C (ci := 11) (j := 3) (C0 := RX11) (T := TX11) (N := 35) rfl iX11 giX11 (by decide) w9_12 (by decide +kernel : decode cX11_death 37 = .ok (.getfield 13, 3)) ?_
  refine q_iload_n C (by decide +kernel : decode cX11_death 40 = .ok (.iload_n 1, 1)) ?_
  refine q_iload_n C (by decide +kernel : decode cX11_death 41 = .ok (.iload_n 2, 1)) ?_
  refine q_iast C (by decide +kernel : decode cX11_death 42 = .ok (.iastore, 1)) ?_
  refine q_aload_n C (by decide +kernel : decode cX11_death 43 = .ok (.aload_n 0, 1)) ?_
  refine q_get C (ci := 11) (j := 4) (C0 := RX11) (T := TX11) (N := 35) rfl iX11 giX11 (by decide) w9_17 (by decide +kernel : decode cX11_death 44 = .ok (.getfield 16, 3)) ?_
  refine q_iload_n C (by decide +kernel : decode cX11_death 47 = .ok (.iload_n 1, 1)) ?_
  refine q_aload_n C (by decide +kernel : decode cX11_death 48 = .ok (.aload_n 0, 1)) ?_
  refine q_get C (ci := 11) (j := 0) (C0 := RX11) (T := TX11) (N := 35) rfl iX11 giX11 (by decide) w9_10 (by decide +kernel : decode cX11_death 49 = .ok (.getfield 96, 3)) ?_
  refine q_iast C (by decide +kernel : decode cX11_death 52 = .ok (.iastore, 1)) ?_
  refine q_aload_n C (by decide +kernel : decode cX11_death 53 = .ok (.aload_n 0, 1)) ?_
  refine q_get C (ci := 11) (j := 2) (C0 := RX11) (T := TX11) (N := 35) rfl iX11 giX11 (by decide) w9_11 (by decide +kernel : decode cX11_death 54 = .ok (.getfield 7, 3)) ?_
  refine q_iload_n C (by decide +kernel : decode cX11_death 57 = .ok (.iload_n 1, 1)) ?_
  refine q_iald C (by decide +kernel : decode cX11_death 58 = .ok (.iaload, 1)) ?_
  refine q_iconst C (by decide +kernel : decode cX11_death 59 = .ok (.iconst (-1), 1)) (by decide) ?_
  refine q_iceq C (tgt := 82) (by decide +kernel : decode cX11_death 60 = .ok (.if_icmp .eq 22, 3)) (by decide) ?_ ?_
  · exact v_X11_death_82 C hK
  · refine q_aload_n C (by decide +kernel : decode cX11_death 63 = .ok (.aload_n 0, 1)) ?_
    refine q_get C (ci := 11) (j := 3) (C0 := RX11) (T := TX11) (N := 35) rfl iX11 giX11 (by decide) w9_12 (by decide +kernel : decode cX11_death 64 = .ok (.getfield 13, 3)) ?_
    refine q_aload_n C (by decide +kernel : decode cX11_death 67 = .ok (.aload_n 0, 1)) ?_
    refine q_get C (ci := 11) (j := 2) (C0 := RX11) (T := TX11) (N := 35) rfl iX11 giX11 (by decide) w9_11 (by decide +kernel : decode cX11_death 68 = .ok (.getfield 7, 3)) ?_
    refine q_iload_n C (by decide +kernel : decode cX11_death 71 = .ok (.iload_n 1, 1)) ?_
    refine q_iald C (by decide +kernel : decode cX11_death 72 = .ok (.iaload, 1)) ?_
    refine q_iald C (by decide +kernel : decode cX11_death 73 = .ok (.iaload, 1)) ?_
    refine q_iconst C (by decide +kernel : decode cX11_death 74 = .ok (.iconst (-1), 1)) (by decide) ?_
    refine q_icne C (tgt := 82) (by decide +kernel : decode cX11_death 75 = .ok (.if_icmp .ne 7, 3)) (by decide) ?_ ?_
    · exact v_X11_death_82 C hK
    · refine q_iconst C (by decide +kernel : decode cX11_death 78 = .ok (.iconst 1, 1)) (by decide) ?_
      refine q_goto C (tgt := 83) (by decide +kernel : decode cX11_death 79 = .ok (.goto 4, 3)) (by decide) ?_
      exact v_X11_death_83 C hK
set_option maxRecDepth 100000 in
theorem v_X11_death_0 {p : Program} {l : Launch} {e : Env} {s : State} {m : MethodId} {args : Array Value} {below : List Frame} {meth : Method} {c : Code} {D : va_G} {A : Nat → Prop} {post : Option Value → q_S → Prop} {K : Nat → q_K} (C : q_C p s m args meth c cX11_death 8 RX11 "death" (some .int) A) (hK : ∀ h ∈ ([104, 145] : List Nat), q_V p l e rm_X11_death s m args below meth c D A 8 (MQ below (q_Qc D A post) args s rm_X11_death.cells rm_X11_death.slots A) h (K h)) : q_V p l e rm_X11_death s m args below meth c D A 8 (MQ below (q_Qc D A post) args s rm_X11_death.cells rm_X11_death.slots A) 0 (k_X11_death_0 post K) := by
  unfold k_X11_death_0
  refine q_aload_n C (by decide +kernel : decode cX11_death 0 = .ok (.aload_n 0, 1)) ?_
  refine q_iload_n C (by decide +kernel : decode cX11_death 1 = .ok (.iload_n 1, 1)) ?_
  refine q_call2 C (q_coV C (np := 1) (ci := 11) (rc := (RX11, TX11, 35)) (t_X11_isPerson l) w9_13 rfl rfl w9_14 w9_15 w9_16 w9_6 (by decide +kernel) (by decide +kernel : decode cX11_death 2 = .ok (.invokevirtual 106, 3)) (by decide)) ?_
  refine q_ifeq C (tgt := 20) (by decide +kernel : decode cX11_death 5 = .ok (.ifCond .eq 15, 3)) (by decide) ?_ ?_
  · exact v_X11_death_20 C hK
  · refine q_iload_n C (by decide +kernel : decode cX11_death 8 = .ok (.iload_n 2, 1)) ?_
    refine q_iconst C (by decide +kernel : decode cX11_death 9 = .ok (.iconst 0, 1)) (by decide) ?_
    refine q_aload_n C (by decide +kernel : decode cX11_death 10 = .ok (.aload_n 0, 1)) ?_
    refine q_get C (ci := 11) (j := 0) (C0 := RX11) (T := TX11) (N := 35) rfl iX11 giX11 (by decide) w9_10 (by decide +kernel : decode cX11_death 11 = .ok (.getfield 96, 3)) ?_
    refine q_call3 C (q_coS C (np := 3) (t_X11_in l) w9_5 w9_8 w9_7 w9_6 (by decide +kernel) (by decide +kernel : decode cX11_death 14 = .ok (.invokestatic 92, 3)) (by decide)) ?_
    refine q_ifne C (tgt := 23) (by decide +kernel : decode cX11_death 17 = .ok (.ifCond .ne 6, 3)) (by decide) ?_ ?_
    · refine q_aload_n C (by decide +kernel : decode cX11_death 23 = .ok (.aload_n 0, 1)) ?_
      refine q_get C (ci := 11) (j := 3) (C0 := RX11) (T := TX11) (N := 35) rfl iX11 giX11 (by decide) w9_12 (by decide +kernel : decode cX11_death 24 = .ok (.getfield 13, 3)) ?_
      refine q_iload_n C (by decide +kernel : decode cX11_death 27 = .ok (.iload_n 1, 1)) ?_
      refine q_iald C (by decide +kernel : decode cX11_death 28 = .ok (.iaload, 1)) ?_
      refine q_iconst C (by decide +kernel : decode cX11_death 29 = .ok (.iconst (-1), 1)) (by decide) ?_
      refine q_iceq C (tgt := 36) (by decide +kernel : decode cX11_death 30 = .ok (.if_icmp .eq 6, 3)) (by decide) ?_ ?_
      · exact v_X11_death_36 C hK
      · refine q_bipush C (by decide +kernel : decode cX11_death 33 = .ok (.bipush (-3), 2)) (by decide) ?_
        exact q_iret C rfl (by decide +kernel : decode cX11_death 35 = .ok (.ireturn, 1))
    · exact v_X11_death_20 C hK
set_option maxRecDepth 100000 in
theorem v_X11_death_142 {p : Program} {l : Launch} {e : Env} {s : State} {m : MethodId} {args : Array Value} {below : List Frame} {meth : Method} {c : Code} {D : va_G} {A : Nat → Prop} {post : Option Value → q_S → Prop} {K : Nat → q_K} (C : q_C p s m args meth c cX11_death 8 RX11 "death" (some .int) A) (hK : ∀ h ∈ ([104, 145] : List Nat), q_V p l e rm_X11_death s m args below meth c D A 8 (MQ below (q_Qc D A post) args s rm_X11_death.cells rm_X11_death.slots A) h (K h)) : q_V p l e rm_X11_death s m args below meth c D A 8 (MQ below (q_Qc D A post) args s rm_X11_death.cells rm_X11_death.slots A) 142 (k_X11_death_142 post K) := by
  unfold k_X11_death_142
  refine q_iconst C (by decide +kernel : decode cX11_death 142 = .ok (.iconst 0, 1)) (by decide) ?_
  refine q_istore C (by decide +kernel : decode cX11_death 143 = .ok (.istore 7, 2)) ?_
  exact hK 145 (by decide)
set_option maxRecDepth 100000 in
theorem v_X11_death_126 {p : Program} {l : Launch} {e : Env} {s : State} {m : MethodId} {args : Array Value} {below : List Frame} {meth : Method} {c : Code} {D : va_G} {A : Nat → Prop} {post : Option Value → q_S → Prop} {K : Nat → q_K} (C : q_C p s m args meth c cX11_death 8 RX11 "death" (some .int) A) (hK : ∀ h ∈ ([104, 145] : List Nat), q_V p l e rm_X11_death s m args below meth c D A 8 (MQ below (q_Qc D A post) args s rm_X11_death.cells rm_X11_death.slots A) h (K h)) : q_V p l e rm_X11_death s m args below meth c D A 8 (MQ below (q_Qc D A post) args s rm_X11_death.cells rm_X11_death.slots A) 126 (k_X11_death_126 post K) := by
  unfold k_X11_death_126
  refine q_iload C (by decide +kernel : decode cX11_death 126 = .ok (.iload 6, 2)) ?_
  refine q_ifle C (tgt := 142) (by decide +kernel : decode cX11_death 128 = .ok (.ifCond .le 14, 3)) (by decide) ?_ ?_
  · exact v_X11_death_142 C hK
  · refine q_aload_n C (by decide +kernel : decode cX11_death 131 = .ok (.aload_n 0, 1)) ?_
    refine q_iload C (by decide +kernel : decode cX11_death 132 = .ok (.iload 5, 2)) ?_
    refine q_iload_n C (by decide +kernel : decode cX11_death 134 = .ok (.iload_n 1, 1)) ?_
    refine q_iload C (by decide +kernel : decode cX11_death 135 = .ok (.iload 4, 2)) ?_
    refine q_iload C (by decide +kernel : decode cX11_death 137 = .ok (.iload 6, 2)) ?_
    refine q_call5 C (q_coV C (np := 4) (ci := 11) (rc := (RX11, TX11, 35)) (t_X11_move l) w9_79 rfl rfl w9_80 w9_81 w9_82 w9_6 (by decide +kernel) (by decide +kernel : decode cX11_death 139 = .ok (.invokevirtual 114, 3)) (by decide)) ?_
    exact v_X11_death_142 C hK
set_option maxRecDepth 100000 in
theorem v_X11_death_195 {p : Program} {l : Launch} {e : Env} {s : State} {m : MethodId} {args : Array Value} {below : List Frame} {meth : Method} {c : Code} {D : va_G} {A : Nat → Prop} {post : Option Value → q_S → Prop} {K : Nat → q_K} (C : q_C p s m args meth c cX11_death 8 RX11 "death" (some .int) A) (hK : ∀ h ∈ ([104, 145] : List Nat), q_V p l e rm_X11_death s m args below meth c D A 8 (MQ below (q_Qc D A post) args s rm_X11_death.cells rm_X11_death.slots A) h (K h)) : q_V p l e rm_X11_death s m args below meth c D A 8 (MQ below (q_Qc D A post) args s rm_X11_death.cells rm_X11_death.slots A) 195 (k_X11_death_195 post K) := by
  unfold k_X11_death_195
  exact q_iret C rfl (by decide +kernel : decode cX11_death 195 = .ok (.ireturn, 1))
set_option maxRecDepth 100000 in
theorem v_X11_death_104 {p : Program} {l : Launch} {e : Env} {s : State} {m : MethodId} {args : Array Value} {below : List Frame} {meth : Method} {c : Code} {D : va_G} {A : Nat → Prop} {post : Option Value → q_S → Prop} {K : Nat → q_K} (C : q_C p s m args meth c cX11_death 8 RX11 "death" (some .int) A) (hK : ∀ h ∈ ([104, 145] : List Nat), q_V p l e rm_X11_death s m args below meth c D A 8 (MQ below (q_Qc D A post) args s rm_X11_death.cells rm_X11_death.slots A) h (K h)) : q_V p l e rm_X11_death s m args below meth c D A 8 (MQ below (q_Qc D A post) args s rm_X11_death.cells rm_X11_death.slots A) 104 (k_X11_death_104 post K) := by
  unfold k_X11_death_104
  refine q_iload C (by decide +kernel : decode cX11_death 104 = .ok (.iload 5, 2)) ?_
  refine q_aload_n C (by decide +kernel : decode cX11_death 106 = .ok (.aload_n 0, 1)) ?_
  refine q_get C (ci := 11) (j := 11) (C0 := RX11) (T := TX11) (N := 35) rfl iX11 giX11 (by decide) w9_9 (by decide +kernel : decode cX11_death 107 = .ok (.getfield 103, 3)) ?_
  refine q_icge C (tgt := 184) (by decide +kernel : decode cX11_death 110 = .ok (.if_icmp .ge 74, 3)) (by decide) ?_ ?_
  · refine q_iload_n C (by decide +kernel : decode cX11_death 184 = .ok (.iload_n 3, 1)) ?_
    refine q_ifeq C (tgt := 193) (by decide +kernel : decode cX11_death 185 = .ok (.ifCond .eq 8, 3)) (by decide) ?_ ?_
    · refine q_bipush C (by decide +kernel : decode cX11_death 193 = .ok (.bipush (-5), 2)) (by decide) ?_
      exact v_X11_death_195 C hK
    · refine q_iload C (by decide +kernel : decode cX11_death 188 = .ok (.iload 4, 2)) ?_
      refine q_goto C (tgt := 195) (by decide +kernel : decode cX11_death 190 = .ok (.goto 5, 3)) (by decide) ?_
      exact v_X11_death_195 C hK
  · refine q_aload_n C (by decide +kernel : decode cX11_death 113 = .ok (.aload_n 0, 1)) ?_
    refine q_iload C (by decide +kernel : decode cX11_death 114 = .ok (.iload 5, 2)) ?_
    refine q_iload_n C (by decide +kernel : decode cX11_death 116 = .ok (.iload_n 1, 1)) ?_
    refine q_aload_n C (by decide +kernel : decode cX11_death 117 = .ok (.aload_n 0, 1)) ?_
    refine q_get C (ci := 11) (j := 0) (C0 := RX11) (T := TX11) (N := 35) rfl iX11 giX11 (by decide) w9_10 (by decide +kernel : decode cX11_death 118 = .ok (.getfield 96, 3)) ?_
    refine q_call4 C (q_coV C (np := 3) (ci := 11) (rc := (RX11, TX11, 35)) (t_X11_holds l) w9_63 rfl rfl w9_64 w9_65 w9_66 w9_6 (by decide +kernel) (by decide +kernel : decode cX11_death 121 = .ok (.invokevirtual 110, 3)) (by decide)) ?_
    refine q_istore C (by decide +kernel : decode cX11_death 124 = .ok (.istore 6, 2)) ?_
    exact v_X11_death_126 C hK
set_option maxRecDepth 100000 in
theorem v_X11_death_145 {p : Program} {l : Launch} {e : Env} {s : State} {m : MethodId} {args : Array Value} {below : List Frame} {meth : Method} {c : Code} {D : va_G} {A : Nat → Prop} {post : Option Value → q_S → Prop} {K : Nat → q_K} (C : q_C p s m args meth c cX11_death 8 RX11 "death" (some .int) A) (hK : ∀ h ∈ ([104, 145] : List Nat), q_V p l e rm_X11_death s m args below meth c D A 8 (MQ below (q_Qc D A post) args s rm_X11_death.cells rm_X11_death.slots A) h (K h)) : q_V p l e rm_X11_death s m args below meth c D A 8 (MQ below (q_Qc D A post) args s rm_X11_death.cells rm_X11_death.slots A) 145 (k_X11_death_145 post K) := by
  unfold k_X11_death_145
  refine q_iload C (by decide +kernel : decode cX11_death 145 = .ok (.iload 7, 2)) ?_
  refine q_bipush C (by decide +kernel : decode cX11_death 147 = .ok (.bipush 12, 2)) (by decide) ?_
  refine q_icge C (tgt := 178) (by decide +kernel : decode cX11_death 149 = .ok (.if_icmp .ge 29, 3)) (by decide) ?_ ?_
  · refine q_iinc C (by decide +kernel : decode cX11_death 178 = .ok (.iinc 5 1, 3)) (by decide) ?_
    refine q_goto C (tgt := 104) (by decide +kernel : decode cX11_death 181 = .ok (.goto (-77), 3)) (by decide) ?_
    exact hK 104 (by decide)
  · refine q_aload_n C (by decide +kernel : decode cX11_death 152 = .ok (.aload_n 0, 1)) ?_
    refine q_get C (ci := 11) (j := 20) (C0 := RX11) (T := TX11) (N := 35) rfl iX11 giX11 (by decide) w9_62 (by decide +kernel : decode cX11_death 153 = .ok (.getfield 55, 3)) ?_
    refine q_sipush C (by decide +kernel : decode cX11_death 156 = .ok (.sipush 144, 3)) (by decide) ?_
    refine q_iload C (by decide +kernel : decode cX11_death 159 = .ok (.iload 5, 2)) ?_
    refine q_imul C (by decide +kernel : decode cX11_death 161 = .ok (.imul, 1)) ?_
    refine q_bipush C (by decide +kernel : decode cX11_death 162 = .ok (.bipush 12, 2)) (by decide) ?_
    refine q_iload_n C (by decide +kernel : decode cX11_death 164 = .ok (.iload_n 1, 1)) ?_
    refine q_imul C (by decide +kernel : decode cX11_death 165 = .ok (.imul, 1)) ?_
    refine q_iadd C (by decide +kernel : decode cX11_death 166 = .ok (.iadd, 1)) ?_
    refine q_iload C (by decide +kernel : decode cX11_death 167 = .ok (.iload 7, 2)) ?_
    refine q_iadd C (by decide +kernel : decode cX11_death 169 = .ok (.iadd, 1)) ?_
    refine q_iconst C (by decide +kernel : decode cX11_death 170 = .ok (.iconst 0, 1)) (by decide) ?_
    refine q_iast C (by decide +kernel : decode cX11_death 171 = .ok (.iastore, 1)) ?_
    refine q_iinc C (by decide +kernel : decode cX11_death 172 = .ok (.iinc 7 1, 3)) (by decide) ?_
    refine q_goto C (tgt := 145) (by decide +kernel : decode cX11_death 175 = .ok (.goto (-30), 3)) (by decide) ?_
    exact hK 145 (by decide)
theorem u_X11_death (l : Launch) {sp : q_Sp} (H : ∀ (av : List Value) (σ : q_S) (post : Option Value → q_S → Prop), sp av σ post → ∃ Inv : Nat → Nat → q_K, (∀ K : Nat → q_K, (∀ (h n : Nat) (L : List (Option Value)) (st : List Value) (σ : q_S) (cr sr : Nat), Inv h n L st σ cr sr → K h L st σ cr sr) → k_X11_death_0 post K (q_L0 av 8) [] σ 0 0) ∧ (∀ (K : Nat → q_K) (n : Nat), (∀ (h m : Nat) (L : List (Option Value)) (st : List Value) (σ : q_S) (cr sr : Nat), m < n → Inv h m L st σ cr sr → K h L st σ cr sr) → ∀ (L : List (Option Value)) (st : List Value) (σ : q_S) (cr sr : Nat), Inv 104 n L st σ cr sr → k_X11_death_104 post K L st σ cr sr) ∧ (∀ (K : Nat → q_K) (n : Nat), (∀ (h m : Nat) (L : List (Option Value)) (st : List Value) (σ : q_S) (cr sr : Nat), m < n → Inv h m L st σ cr sr → K h L st σ cr sr) → ∀ (L : List (Option Value)) (st : List Value) (σ : q_S) (cr sr : Nat), Inv 145 n L st σ cr sr → k_X11_death_145 post K L st σ cr sr) ∧ av.length ≤ 8 ∧ ∀ v ∈ av, v.category = 1) : q_Ct l yX11_death cX11_death 8 (some .int) rm_X11_death sp := by
  refine q_met (by decide) ?_
  intro D A p e s m args below meth c σ av post C hsp
  obtain ⟨Inv, h1, hh104, hh145, h2, h3⟩ := H av σ post hsp
  have hV := q_loops (p := p) (l := l) (e := e) (R := rm_X11_death) (s := s) (m := m) (args := args) (below := below) (meth := meth) (c := c) (D := D) (A := A) (nL := 8) (Q := MQ below (q_Qc D A post) args s rm_X11_death.cells rm_X11_death.slots A) [104, 145] (fun h => if h = 104 then k_X11_death_104 post else k_X11_death_145 post) (fun K hK h hh => ?_) Inv (fun n h hh => ?_)
  · exact ⟨_, v_X11_death_0 C hV, h1 _ (fun h n L st σ cr sr hi => ⟨n, hi⟩), h2, h3⟩
  · rcases (by simpa using hh : h = 104 ∨ h = 145) with rfl | rfl
    · exact v_X11_death_104 C hK
    · exact v_X11_death_145 C hK
  · rcases (by simpa using hh : h = 104 ∨ h = 145) with rfl | rfl
    · exact hh104 (fun h L st σ cr sr => ∃ m : Nat, m < n ∧ Inv h m L st σ cr sr) n (fun h m L st σ cr sr hm hi => ⟨m, hm, hi⟩)
    · exact hh145 (fun h L st σ cr sr => ∃ m : Nat, m < n ∧ Inv h m L st σ cr sr) n (fun h m L st σ cr sr hm hi => ⟨m, hm, hi⟩)
theorem t_X11_death (l : Launch) : q_Ct l yX11_death cX11_death 8 (some .int) rm_X11_death s_X11_death := u_X11_death l (by
  intro av σ post h
  unfold s_X11_death at h
  split at h
  · next mr p on =>
    obtain ⟨ad, z, g, ⟨gp, r, hm⟩, hI, hmv, hhe, h1⟩ := h
    have hI0 := hI
    unfold I1 at hI
    by_cases hc : isP z p ∧ 0 ≤ on ∧ on ≤ z 0
    · have hp2 : 0 ≤ p ∧ p < 12 := ⟨hc.1.1, by grind⟩
      by_cases hd : g 3 p.toNatClampNeg = -1
      · rw [F_death, if_pos hc, if_neg (fun h => h hd)] at h1
        have hmv : z 14 ≤ 980 := by
          rcases hmv with h | h
          · exact h
          · exact absurd hd (h hc.1)
        have hhe := hhe hc.1
        have enw := nI_self hI.2.2.2.1.1
        have hnw20 : (z 11).toNatClampNeg ≤ 20 := clamp_le 20 hI.2.2.2.1.1 hI.2.2.2.1.2
        have hm980 : (z 14).toNatClampNeg ≤ 980 := clamp_le 980 hI.2.2.2.2.1.1 hmv
        obtain ⟨pn, hpn, ep, epn⟩ := inR 12 hp2.1 hp2.2
        generalize hnwe : (z 11).toNatClampNeg = nw at *
        have hTo : (if hasH z g p on then g 2 p.toNatClampNeg else 12) = toH z g p on := rfl
        have hH : (if hasH z g p on then (1 : Int32) else 0) = 1 ∨ (if hasH z g p on then (1 : Int32) else 0) = 0 := by split <;> simp
        refine ⟨fun h n L st σ' cr sr => ∃ (w : Nat) (d6 d7 : Option Value), w ≤ nw ∧ st = [] ∧
          ((h = 104 ∧ n = (nw - w) * 50 + 20 ∧ mOKx σ' mr ad (dF z (g34 z g p on) p (toH z g p on) w).1 (dF z (g34 z g p on) p (toH z g p on) w).2 gp r ∧ L = [some (.ref mr), some (.int p), some (.int on), some (.int (if hasH z g p on then 1 else 0)), some (.int (toH z g p on)), some (.int (nI w)), d6, d7]) ∨
           (h = 145 ∧ w < nw ∧ ∃ q : Nat, q ≤ 12 ∧ n = (nw - w) * 50 + (12 - q) ∧ mOKx σ' mr ad (dmF (dF z (g34 z g p on) p (toH z g p on) w) w p (toH z g p on)).1 (clrF (dmF (dF z (g34 z g p on) p (toH z g p on) w) w p (toH z g p on)).2 w pn q) gp r ∧ L = [some (.ref mr), some (.int p), some (.int on), some (.int (if hasH z g p on then 1 else 0)), some (.int (toH z g p on)), some (.int (nI w)), d6, some (.int (nI q))])), ?_, ?_, ?_, by simp, by simp [Value.category]⟩
        · intro K hK
          have J36 : k_X11_death_36 post K [some (.ref mr), some (.int p), some (.int on), none, none, none, none, none] [] σ 0 0 := by
            have hm1 := hm.a3 p.toNatClampNeg on
            have hm2 := hm1.a4 p.toNatClampNeg (z 0)
            have e2 : ∀ i v, gup g 3 i v 4 = g 4 := fun _ _ => rfl
            have e3 : ∀ i v j v2, gup (gup g 3 i v) 4 j v2 2 = g 2 := fun _ _ _ _ => rfl
            have hm1rd := hm1.rd
            simp only [e2] at hm2 hm1rd
            have hm2rd := hm2.rd
            simp only [e3] at hm2rd
            have hm3 : mOKx (q_up (q_up σ (ad 3) (Sum.inl (FieldType.int, 12, Sum.inl (upd (g 3) p.toNatClampNeg on)))) (ad 4) (Sum.inl (FieldType.int, 12, Sum.inl (upd (g 4) p.toNatClampNeg (z 0))))) mr ad (dF z (g34 z g p on) p (toH z g p on) 0).1 (dF z (g34 z g p on) p (toH z g p on) 0).2 gp r := by
              rw [dF]; exact hm2
            have J99 : ∀ b t9 : Int32, b = (if hasH z g p on then 1 else 0) → t9 = toH z g p on → k_X11_death_99 post K [some (.ref mr), some (.int p), some (.int on), some (.int b), none, none, none, none] [.int t9] (q_up (q_up σ (ad 3) (Sum.inl (FieldType.int, 12, Sum.inl (upd (g 3) p.toNatClampNeg on)))) (ad 4) (Sum.inl (FieldType.int, 12, Sum.inl (upd (g 4) p.toNatClampNeg (z 0))))) 0 0 := fun b t9 hb ht => by
              simp only [c_push, c_null, c_iload, c_aload, c_istore, c_astore, c_iinc, c_iadd, c_isub, c_imul, c_iand, c_ineg, c_dup, c_dup2, c_pop, c_ifnull, c_ifnonnull, c_get, c_put, c_iald, c_zald, c_iast, c_zast, c_aald, c_aast, c_alen, c_new, c_newa, c_newq, c_mna, c_oinit, c_max, c_copy, c_iret, c_zret, c_aret, c_vret, q_do, q_rc, c_ifeq, c_ifne, c_iflt, c_ifge, c_ifgt, c_ifle, c_iceq, c_icne, c_iclt, c_icge, c_icgt, c_icle, c_call0, c_call1, c_call2, c_call3, c_call4, c_call5, c_call6, c_call7, q_L0, List.map_cons, List.map_nil, List.replicate, List.cons_append, List.nil_append, List.append_nil, List.length_cons, List.length_nil, List.length_set, Nat.reduceSub, Nat.reduceAdd, Nat.reduceLT, Nat.reduceLeDiff, Nat.zero_add, Nat.add_zero, Nat.sub_zero, Nat.sub_self, List.getElem?_cons_zero, List.getElem?_cons_succ, List.set_cons_zero, List.set_cons_succ, Option.toList_some, Option.toList_none, List.sum_cons, List.sum_nil, true_and, and_true, true_or, or_true, Nat.le_refl, Nat.zero_le, Value.category, Fin.isValue, Fin.val_zero, Fin.val_one, Fin.val_two, Fin.reduceFinMk, q_10, q_01, not_false_eq_true, not_true_eq_false, forall_const, true_implies, false_implies, implies_true, q_ni, q_fi, q_nb0, q_nb1, q_fb0, q_fb1, q_nor, q_nar, q_for, q_far, q_non, q_nan, q_fon, q_fan, imp_false, false_and, and_false, and_self, false_or, or_false, va_rf, refKind, k_X11_death_99]
              exact hK 104 ((nw - 0) * 50 + 20) _ _ _ _ _ ⟨0, none, none, Nat.zero_le _, rfl, Or.inl ⟨rfl, rfl, hm3, by rw [hb, ht]; rfl⟩⟩
            have eg : ∀ x : Nat, gup (gup g 3 p.toNatClampNeg on) 4 p.toNatClampNeg (z 0) 3 x = (g34 z g p on) 3 x := fun x => rfl
            simp only [c_push, c_null, c_iload, c_aload, c_istore, c_astore, c_iinc, c_iadd, c_isub, c_imul, c_iand, c_ineg, c_dup, c_dup2, c_pop, c_ifnull, c_ifnonnull, c_get, c_put, c_iald, c_zald, c_iast, c_zast, c_aald, c_aast, c_alen, c_new, c_newa, c_newq, c_mna, c_oinit, c_max, c_copy, c_iret, c_zret, c_aret, c_vret, q_do, q_rc, c_ifeq, c_ifne, c_iflt, c_ifge, c_ifgt, c_ifle, c_iceq, c_icne, c_iclt, c_icge, c_icgt, c_icle, c_call0, c_call1, c_call2, c_call3, c_call4, c_call5, c_call6, c_call7, q_L0, List.map_cons, List.map_nil, List.replicate, List.cons_append, List.nil_append, List.append_nil, List.length_cons, List.length_nil, List.length_set, Nat.reduceSub, Nat.reduceAdd, Nat.reduceLT, Nat.reduceLeDiff, Nat.zero_add, Nat.add_zero, Nat.sub_zero, Nat.sub_self, List.getElem?_cons_zero, List.getElem?_cons_succ, List.set_cons_zero, List.set_cons_succ, Option.toList_some, Option.toList_none, List.sum_cons, List.sum_nil, true_and, and_true, true_or, or_true, Nat.le_refl, Nat.zero_le, Value.category, Fin.isValue, Fin.val_zero, Fin.val_one, Fin.val_two, Fin.reduceFinMk, q_10, q_01, not_false_eq_true, not_true_eq_false, forall_const, true_implies, false_implies, implies_true, q_ni, q_fi, q_nb0, q_nb1, q_fb0, q_fb1, q_nor, q_nar, q_for, q_far, q_non, q_nan, q_fon, q_fan, imp_false, false_and, and_false, and_self, false_or, or_false, va_rf, refKind, k_X11_death_36, k_X11_death_82, k_X11_death_83, hm.rd, hm1rd, hm2rd, vpi12, hp2]
            have hH2 : hasH z g p on ↔ (¬ g 2 p.toNatClampNeg = -1 ∧ (g34 z g p on) 3 (g 2 p.toNatClampNeg).toNatClampNeg = -1) := Iff.rfl
            simp only [eg]
            clear hK hm hm1 hm2 hm3 hm1rd hm2rd h1 hH eg e2 e3
            refine ⟨fun c => J99 _ _ ?_ ?_, fun c => ⟨by grind, fun c2 => J99 _ _ ?_ ?_, fun c2 => J99 _ _ ?_ ?_⟩⟩
            all_goals first
              | (rw [if_neg (by rw [hH2]; grind)])
              | (rw [if_pos (by rw [hH2]; grind)])
              | (rw [← hTo, if_neg (by rw [hH2]; grind)])
              | (rw [← hTo, if_pos (by rw [hH2]; grind)])
          clear h1
          simp only [c_push, c_null, c_iload, c_aload, c_istore, c_astore, c_iinc, c_iadd, c_isub, c_imul, c_iand, c_ineg, c_dup, c_dup2, c_pop, c_ifnull, c_ifnonnull, c_get, c_put, c_iald, c_zald, c_iast, c_zast, c_aald, c_aast, c_alen, c_new, c_newa, c_newq, c_mna, c_oinit, c_max, c_copy, c_iret, c_zret, c_aret, c_vret, q_do, q_rc, c_ifeq, c_ifne, c_iflt, c_ifge, c_ifgt, c_ifle, c_iceq, c_icne, c_iclt, c_icge, c_icgt, c_icle, c_call0, c_call1, c_call2, c_call3, c_call4, c_call5, c_call6, c_call7, q_L0, List.map_cons, List.map_nil, List.replicate, List.cons_append, List.nil_append, List.append_nil, List.length_cons, List.length_nil, List.length_set, Nat.reduceSub, Nat.reduceAdd, Nat.reduceLT, Nat.reduceLeDiff, Nat.zero_add, Nat.add_zero, Nat.sub_zero, Nat.sub_self, List.getElem?_cons_zero, List.getElem?_cons_succ, List.set_cons_zero, List.set_cons_succ, Option.toList_some, Option.toList_none, List.sum_cons, List.sum_nil, true_and, and_true, true_or, or_true, Nat.le_refl, Nat.zero_le, Value.category, Fin.isValue, Fin.val_zero, Fin.val_one, Fin.val_two, Fin.reduceFinMk, q_10, q_01, not_false_eq_true, not_true_eq_false, forall_const, true_implies, false_implies, implies_true, q_ni, q_fi, q_nb0, q_nb1, q_fb0, q_fb1, q_nor, q_nar, q_for, q_far, q_non, q_nan, q_fon, q_fan, imp_false, false_and, and_false, and_self, false_or, or_false, va_rf, refKind, k_X11_death_0, k_X11_death_20, hm.rd, s_X11_isPerson, s_X11_in, s_X10_isWithin, vpi12, hp2, hc, hd, J36]
          exact hI.2.1
        · rintro K n hK L st σ' cr sr ⟨w, d6, d7, hw, rfl, ⟨-, rfl, hm', rfl⟩ | ⟨h9, -⟩⟩
          · have hz0 := dF_z z (g34 z g p on) p (toH z g p on) 0 (by decide) w
            have hz11 := dF_z z (g34 z g p on) p (toH z g p on) 11 (by decide) w
            obtain ⟨mm, hmm, hmm2⟩ := dF_m z (g34 z g p on) p (toH z g p on) ⟨hI.2.2.2.2.1.1, hmv⟩ w (by omega)
            have hwr : 0 ≤ nI w ∧ w < 20 → nI w < 20 := fun h => nI_ltN (N := 20) h.2
            have J142 : w < nw → ∀ σ2 n6, mOKx σ2 mr ad (dmF (dF z (g34 z g p on) p (toH z g p on) w) w p (toH z g p on)).1 (dmF (dF z (g34 z g p on) p (toH z g p on) w) w p (toH z g p on)).2 gp r → k_X11_death_142 post K [some (.ref mr), some (.int p), some (.int on), some (.int (if hasH z g p on then 1 else 0)), some (.int (toH z g p on)), some (.int (nI w)), n6, d7] [] σ2 cr sr := fun hlt σ2 n6 hm2 => by
              simp only [c_push, c_null, c_iload, c_aload, c_istore, c_astore, c_iinc, c_iadd, c_isub, c_imul, c_iand, c_ineg, c_dup, c_dup2, c_pop, c_ifnull, c_ifnonnull, c_get, c_put, c_iald, c_zald, c_iast, c_zast, c_aald, c_aast, c_alen, c_new, c_newa, c_newq, c_mna, c_oinit, c_max, c_copy, c_iret, c_zret, c_aret, c_vret, q_do, q_rc, c_ifeq, c_ifne, c_iflt, c_ifge, c_ifgt, c_ifle, c_iceq, c_icne, c_iclt, c_icge, c_icgt, c_icle, c_call0, c_call1, c_call2, c_call3, c_call4, c_call5, c_call6, c_call7, q_L0, List.map_cons, List.map_nil, List.replicate, List.cons_append, List.nil_append, List.append_nil, List.length_cons, List.length_nil, List.length_set, Nat.reduceSub, Nat.reduceAdd, Nat.reduceLT, Nat.reduceLeDiff, Nat.zero_add, Nat.add_zero, Nat.sub_zero, Nat.sub_self, List.getElem?_cons_zero, List.getElem?_cons_succ, List.set_cons_zero, List.set_cons_succ, Option.toList_some, Option.toList_none, List.sum_cons, List.sum_nil, true_and, and_true, true_or, or_true, Nat.le_refl, Nat.zero_le, Value.category, Fin.isValue, Fin.val_zero, Fin.val_one, Fin.val_two, Fin.reduceFinMk, q_10, q_01, not_false_eq_true, not_true_eq_false, forall_const, true_implies, false_implies, implies_true, q_ni, q_fi, q_nb0, q_nb1, q_fb0, q_fb1, q_nor, q_nar, q_for, q_far, q_non, q_nan, q_fon, q_fan, imp_false, false_and, and_false, and_self, false_or, or_false, va_rf, refKind, k_X11_death_142]
              exact hK 145 ((nw - w) * 50 + (12 - 0)) _ _ _ _ _ (by omega) ⟨w, n6, none, by omega, rfl, Or.inr ⟨rfl, hlt, 0, by omega, rfl, hm2, rfl⟩⟩
            generalize hS : dF z (g34 z g p on) p (toH z g p on) w = S at *
            have J126 : w < nw → k_X11_death_126 post K [some (.ref mr), some (.int p), some (.int on), some (.int (if hasH z g p on then 1 else 0)), some (.int (toH z g p on)), some (.int (nI w)), some (.int (holdsF S.2 (nI w) p (S.1 0) (mvF S.1))), d7] [] σ' cr sr := fun hlt => by
              simp only [c_push, c_null, c_iload, c_aload, c_istore, c_astore, c_iinc, c_iadd, c_isub, c_imul, c_iand, c_ineg, c_dup, c_dup2, c_pop, c_ifnull, c_ifnonnull, c_get, c_put, c_iald, c_zald, c_iast, c_zast, c_aald, c_aast, c_alen, c_new, c_newa, c_newq, c_mna, c_oinit, c_max, c_copy, c_iret, c_zret, c_aret, c_vret, q_do, q_rc, c_ifeq, c_ifne, c_iflt, c_ifge, c_ifgt, c_ifle, c_iceq, c_icne, c_iclt, c_icge, c_icgt, c_icle, c_call0, c_call1, c_call2, c_call3, c_call4, c_call5, c_call6, c_call7, q_L0, List.map_cons, List.map_nil, List.replicate, List.cons_append, List.nil_append, List.append_nil, List.length_cons, List.length_nil, List.length_set, Nat.reduceSub, Nat.reduceAdd, Nat.reduceLT, Nat.reduceLeDiff, Nat.zero_add, Nat.add_zero, Nat.sub_zero, Nat.sub_self, List.getElem?_cons_zero, List.getElem?_cons_succ, List.set_cons_zero, List.set_cons_succ, Option.toList_some, Option.toList_none, List.sum_cons, List.sum_nil, true_and, and_true, true_or, or_true, Nat.le_refl, Nat.zero_le, Value.category, Fin.isValue, Fin.val_zero, Fin.val_one, Fin.val_two, Fin.reduceFinMk, q_10, q_01, not_false_eq_true, not_true_eq_false, forall_const, true_implies, false_implies, implies_true, q_ni, q_fi, q_nb0, q_nb1, q_fb0, q_fb1, q_nor, q_nar, q_for, q_far, q_non, q_nan, q_fon, q_fan, imp_false, false_and, and_false, and_self, false_or, or_false, va_rf, refKind, k_X11_death_126, hm'.rd]
              have J := J142 hlt
              unfold dmF at J
              refine ⟨fun c => ?_, fun c => ?_⟩
              · rw [if_neg (by grind)] at J
                exact J _ _ hm'
              · rw [if_pos (by grind)] at J
                refine ⟨ad, _, _, gp, r, hm', ?_, fun σ2 hm2 => ?_⟩
                · rw [hmm]
                  exact ⟨nI_low (by omega), nI_ltN (N := 1000) (by omega)⟩
                · simp only [c_push, c_null, c_iload, c_aload, c_istore, c_astore, c_iinc, c_iadd, c_isub, c_imul, c_iand, c_ineg, c_dup, c_dup2, c_pop, c_ifnull, c_ifnonnull, c_get, c_put, c_iald, c_zald, c_iast, c_zast, c_aald, c_aast, c_alen, c_new, c_newa, c_newq, c_mna, c_oinit, c_max, c_copy, c_iret, c_zret, c_aret, c_vret, q_do, q_rc, c_ifeq, c_ifne, c_iflt, c_ifge, c_ifgt, c_ifle, c_iceq, c_icne, c_iclt, c_icge, c_icgt, c_icle, c_call0, c_call1, c_call2, c_call3, c_call4, c_call5, c_call6, c_call7, q_L0, List.map_cons, List.map_nil, List.replicate, List.cons_append, List.nil_append, List.append_nil, List.length_cons, List.length_nil, List.length_set, Nat.reduceSub, Nat.reduceAdd, Nat.reduceLT, Nat.reduceLeDiff, Nat.zero_add, Nat.add_zero, Nat.sub_zero, Nat.sub_self, List.getElem?_cons_zero, List.getElem?_cons_succ, List.set_cons_zero, List.set_cons_succ, Option.toList_some, Option.toList_none, List.sum_cons, List.sum_nil, true_and, and_true, true_or, or_true, Nat.le_refl, Nat.zero_le, Value.category, Fin.isValue, Fin.val_zero, Fin.val_one, Fin.val_two, Fin.reduceFinMk, q_10, q_01, not_false_eq_true, not_true_eq_false, forall_const, true_implies, false_implies, implies_true, q_ni, q_fi, q_nb0, q_nb1, q_fb0, q_fb1, q_nor, q_nar, q_for, q_far, q_non, q_nan, q_fon, q_fan, imp_false, false_and, and_false, and_self, false_or, or_false, va_rf, refKind]
                  exact J _ _ hm2
            simp only [c_push, c_null, c_iload, c_aload, c_istore, c_astore, c_iinc, c_iadd, c_isub, c_imul, c_iand, c_ineg, c_dup, c_dup2, c_pop, c_ifnull, c_ifnonnull, c_get, c_put, c_iald, c_zald, c_iast, c_zast, c_aald, c_aast, c_alen, c_new, c_newa, c_newq, c_mna, c_oinit, c_max, c_copy, c_iret, c_zret, c_aret, c_vret, q_do, q_rc, c_ifeq, c_ifne, c_iflt, c_ifge, c_ifgt, c_ifle, c_iceq, c_icne, c_iclt, c_icge, c_icgt, c_icle, c_call0, c_call1, c_call2, c_call3, c_call4, c_call5, c_call6, c_call7, q_L0, List.map_cons, List.map_nil, List.replicate, List.cons_append, List.nil_append, List.append_nil, List.length_cons, List.length_nil, List.length_set, Nat.reduceSub, Nat.reduceAdd, Nat.reduceLT, Nat.reduceLeDiff, Nat.zero_add, Nat.add_zero, Nat.sub_zero, Nat.sub_self, List.getElem?_cons_zero, List.getElem?_cons_succ, List.set_cons_zero, List.set_cons_succ, Option.toList_some, Option.toList_none, List.sum_cons, List.sum_nil, true_and, and_true, true_or, or_true, Nat.le_refl, Nat.zero_le, Value.category, Fin.isValue, Fin.val_zero, Fin.val_one, Fin.val_two, Fin.reduceFinMk, q_10, q_01, not_false_eq_true, not_true_eq_false, forall_const, true_implies, false_implies, implies_true, q_ni, q_fi, q_nb0, q_nb1, q_fb0, q_fb1, q_nor, q_nar, q_for, q_far, q_non, q_nan, q_fon, q_fan, imp_false, false_and, and_false, and_self, false_or, or_false, va_rf, refKind, k_X11_death_104, k_X11_death_195, hm'.rd, hz11, hz0]
            rw [← enw, (cl2 (nI nw) (nI w) _ _ rfl rfl (by omega) (by omega)).1]
            refine ⟨fun c => ?_, fun c => ?_⟩
            · have e : w = nw := by omega
              subst e
              have h2 := h1 _ ⟨gp, r, by rw [hS]; exact hm'⟩
              dsimp only at h2
              by_cases c9 : hasH z g p on
              · rw [if_pos c9] at h2 hTo
                rw [if_pos c9]
                exact ⟨fun h => absurd h (by decide), fun _ => by rw [← hTo]; exact h2⟩
              · rw [if_neg c9] at h2
                rw [if_neg c9]
                exact ⟨fun _ => h2, fun h => absurd rfl h⟩
            · refine ⟨ad, _, _, gp, r, hm', ⟨nI_low (by omega), nI_ltN (N := 20) (by omega)⟩, ?_, ?_⟩
              · rw [hmm]
                exact ⟨nI_low (by omega), nI_leN (N := 1000) (by omega)⟩
              · simp only [c_push, c_null, c_iload, c_aload, c_istore, c_astore, c_iinc, c_iadd, c_isub, c_imul, c_iand, c_ineg, c_dup, c_dup2, c_pop, c_ifnull, c_ifnonnull, c_get, c_put, c_iald, c_zald, c_iast, c_zast, c_aald, c_aast, c_alen, c_new, c_newa, c_newq, c_mna, c_oinit, c_max, c_copy, c_iret, c_zret, c_aret, c_vret, q_do, q_rc, c_ifeq, c_ifne, c_iflt, c_ifge, c_ifgt, c_ifle, c_iceq, c_icne, c_iclt, c_icge, c_icgt, c_icle, c_call0, c_call1, c_call2, c_call3, c_call4, c_call5, c_call6, c_call7, q_L0, List.map_cons, List.map_nil, List.replicate, List.cons_append, List.nil_append, List.append_nil, List.length_cons, List.length_nil, List.length_set, Nat.reduceSub, Nat.reduceAdd, Nat.reduceLT, Nat.reduceLeDiff, Nat.zero_add, Nat.add_zero, Nat.sub_zero, Nat.sub_self, List.getElem?_cons_zero, List.getElem?_cons_succ, List.set_cons_zero, List.set_cons_succ, Option.toList_some, Option.toList_none, List.sum_cons, List.sum_nil, true_and, and_true, true_or, or_true, Nat.le_refl, Nat.zero_le, Value.category, Fin.isValue, Fin.val_zero, Fin.val_one, Fin.val_two, Fin.reduceFinMk, q_10, q_01, not_false_eq_true, not_true_eq_false, forall_const, true_implies, false_implies, implies_true, q_ni, q_fi, q_nb0, q_nb1, q_fb0, q_fb1, q_nor, q_nar, q_for, q_far, q_non, q_nan, q_fon, q_fan, imp_false, false_and, and_false, and_self, false_or, or_false, va_rf, refKind]
                have J := J126 (by omega)
                rw [hz0] at J
                exact J
          · exact absurd h9 (by decide)
        · rintro K n hK L st σ' cr sr ⟨w, d6, d7, hw, rfl, ⟨h9, -⟩ | ⟨-, hlt, q, hq, rfl, hm', rfl⟩⟩
          · exact absurd h9 (by decide)
          · simp only [c_push, c_null, c_iload, c_aload, c_istore, c_astore, c_iinc, c_iadd, c_isub, c_imul, c_iand, c_ineg, c_dup, c_dup2, c_pop, c_ifnull, c_ifnonnull, c_get, c_put, c_iald, c_zald, c_iast, c_zast, c_aald, c_aast, c_alen, c_new, c_newa, c_newq, c_mna, c_oinit, c_max, c_copy, c_iret, c_zret, c_aret, c_vret, q_do, q_rc, c_ifeq, c_ifne, c_iflt, c_ifge, c_ifgt, c_ifle, c_iceq, c_icne, c_iclt, c_icge, c_icgt, c_icle, c_call0, c_call1, c_call2, c_call3, c_call4, c_call5, c_call6, c_call7, q_L0, List.map_cons, List.map_nil, List.replicate, List.cons_append, List.nil_append, List.append_nil, List.length_cons, List.length_nil, List.length_set, Nat.reduceSub, Nat.reduceAdd, Nat.reduceLT, Nat.reduceLeDiff, Nat.zero_add, Nat.add_zero, Nat.sub_zero, Nat.sub_self, List.getElem?_cons_zero, List.getElem?_cons_succ, List.set_cons_zero, List.set_cons_succ, Option.toList_some, Option.toList_none, List.sum_cons, List.sum_nil, true_and, and_true, true_or, or_true, Nat.le_refl, Nat.zero_le, Value.category, Fin.isValue, Fin.val_zero, Fin.val_one, Fin.val_two, Fin.reduceFinMk, q_10, q_01, not_false_eq_true, not_true_eq_false, forall_const, true_implies, false_implies, implies_true, q_ni, q_fi, q_nb0, q_nb1, q_fb0, q_fb1, q_nor, q_nar, q_for, q_far, q_non, q_nan, q_fon, q_fan, imp_false, false_and, and_false, and_self, false_or, or_false, va_rf, refKind, k_X11_death_145, hm'.rd, vpi2880]
            rw [(cl2 12 (nI q) 12 q rfl rfl (by omega) (by omega)).1]
            have ex : (144 : Int32) * nI w + 12 * p + nI q = nI (144 * w + 12 * pn + q) := by rw [ep, idx20]
            rw [ex, clN (by omega)]
            refine ⟨fun c => ?_, fun c => ⟨⟨nI_low (by omega), nI_ltN (N := 2880) (by omega)⟩, ?_⟩⟩
            · have e : q = 12 := by omega
              subst e
              refine hK 104 ((nw - (w + 1)) * 50 + 20) _ _ _ _ _ (by omega) ⟨w + 1, d6, some (.int (nI 12)), by omega, rfl, Or.inl ⟨rfl, rfl, ?_, by rw [nI_1]⟩⟩
              rw [dF, epn]
              exact hm'
            · exact hK 145 ((nw - w) * 50 + (12 - (q + 1))) _ _ _ _ _ (by omega) ⟨w, d6, none, by omega, rfl, Or.inr ⟨rfl, hlt, q + 1, by omega, rfl, hm'.a20 _ 0, by rw [nI_1]⟩⟩
      · rw [F_death, if_pos hc, if_pos hd] at h1
        have h2 := h1 _ ⟨gp, r, hm⟩
        refine ⟨fun _ _ _ _ _ _ _ => False, ?_, ?_, ?_, by simp, by simp [Value.category]⟩
        · intro K hK
          simp only [c_push, c_null, c_iload, c_aload, c_istore, c_astore, c_iinc, c_iadd, c_isub, c_imul, c_iand, c_ineg, c_dup, c_dup2, c_pop, c_ifnull, c_ifnonnull, c_get, c_put, c_iald, c_zald, c_iast, c_zast, c_aald, c_aast, c_alen, c_new, c_newa, c_newq, c_mna, c_oinit, c_max, c_copy, c_iret, c_zret, c_aret, c_vret, q_do, q_rc, c_ifeq, c_ifne, c_iflt, c_ifge, c_ifgt, c_ifle, c_iceq, c_icne, c_iclt, c_icge, c_icgt, c_icle, c_call0, c_call1, c_call2, c_call3, c_call4, c_call5, c_call6, c_call7, q_L0, List.map_cons, List.map_nil, List.replicate, List.cons_append, List.nil_append, List.append_nil, List.length_cons, List.length_nil, List.length_set, Nat.reduceSub, Nat.reduceAdd, Nat.reduceLT, Nat.reduceLeDiff, Nat.zero_add, Nat.add_zero, Nat.sub_zero, Nat.sub_self, List.getElem?_cons_zero, List.getElem?_cons_succ, List.set_cons_zero, List.set_cons_succ, Option.toList_some, Option.toList_none, List.sum_cons, List.sum_nil, true_and, and_true, true_or, or_true, Nat.le_refl, Nat.zero_le, Value.category, Fin.isValue, Fin.val_zero, Fin.val_one, Fin.val_two, Fin.reduceFinMk, q_10, q_01, not_false_eq_true, not_true_eq_false, forall_const, true_implies, false_implies, implies_true, q_ni, q_fi, q_nb0, q_nb1, q_fb0, q_fb1, q_nor, q_nar, q_for, q_far, q_non, q_nan, q_fon, q_fan, imp_false, false_and, and_false, and_self, false_or, or_false, va_rf, refKind, k_X11_death_0, k_X11_death_20, hm.rd, s_X11_isPerson, s_X11_in, s_X10_isWithin, vpi12, hp2, hc, hd, h2]
          exact hI.2.1
        · intro K n hK L st σ' cr sr h; exact h.elim
        · intro K n hK L st σ' cr sr h; exact h.elim
    · rw [F_death, if_neg hc] at h1
      have h2 := h1 _ ⟨gp, r, hm⟩
      refine ⟨fun _ _ _ _ _ _ _ => False, ?_, ?_, ?_, by simp, by simp [Value.category]⟩
      · intro K hK
        simp only [c_push, c_null, c_iload, c_aload, c_istore, c_astore, c_iinc, c_iadd, c_isub, c_imul, c_iand, c_ineg, c_dup, c_dup2, c_pop, c_ifnull, c_ifnonnull, c_get, c_put, c_iald, c_zald, c_iast, c_zast, c_aald, c_aast, c_alen, c_new, c_newa, c_newq, c_mna, c_oinit, c_max, c_copy, c_iret, c_zret, c_aret, c_vret, q_do, q_rc, c_ifeq, c_ifne, c_iflt, c_ifge, c_ifgt, c_ifle, c_iceq, c_icne, c_iclt, c_icge, c_icgt, c_icle, c_call0, c_call1, c_call2, c_call3, c_call4, c_call5, c_call6, c_call7, q_L0, List.map_cons, List.map_nil, List.replicate, List.cons_append, List.nil_append, List.append_nil, List.length_cons, List.length_nil, List.length_set, Nat.reduceSub, Nat.reduceAdd, Nat.reduceLT, Nat.reduceLeDiff, Nat.zero_add, Nat.add_zero, Nat.sub_zero, Nat.sub_self, List.getElem?_cons_zero, List.getElem?_cons_succ, List.set_cons_zero, List.set_cons_succ, Option.toList_some, Option.toList_none, List.sum_cons, List.sum_nil, true_and, and_true, true_or, or_true, Nat.le_refl, Nat.zero_le, Value.category, Fin.isValue, Fin.val_zero, Fin.val_one, Fin.val_two, Fin.reduceFinMk, q_10, q_01, not_false_eq_true, not_true_eq_false, forall_const, true_implies, false_implies, implies_true, q_ni, q_fi, q_nb0, q_nb1, q_fb0, q_fb1, q_nor, q_nar, q_for, q_far, q_non, q_nan, q_fon, q_fan, imp_false, false_and, and_false, and_self, false_or, or_false, va_rf, refKind, k_X11_death_0, k_X11_death_20, hm.rd, s_X11_isPerson, s_X11_in, s_X10_isWithin, h2]
        clear hK h1 hm h2
        grind (splits := 40)
      · intro K n hK L st σ' cr sr h; exact h.elim
      · intro K n hK L st σ' cr sr h; exact h.elim
  · exact h.elim)
