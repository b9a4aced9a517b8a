-- endAt, hasRight, end, inRight
theorem actF_cases (g : Nat → Nat → Int32) (on : Int32) : ∀ n : Nat, actF g on n = -1 ∨ ∃ i : Nat, i < n ∧ actF g on n = nI i
  | 0 => Or.inl rfl
  | n + 1 => by
    rw [actF]
    split
    · exact Or.inr ⟨n, by omega, rfl⟩
    · rcases actF_cases g on n with h | ⟨i, h, e⟩
      · exact Or.inl h
      · exact Or.inr ⟨i, by omega, e⟩
theorem nI_m1 {i : Nat} (h : i < 2147483648) : nI i ≠ -1 := fun e => by
  have := nI_low h
  rw [e] at this
  exact absurd this (by decide)
def firstF (g : Nat → Nat → Int32) (w : Nat) (k : Int32) (na : Nat) : Int32 := if actF g (g 13 w) na = -1 then g 13 w else endByF g w (actF g (g 13 w) na).toNatClampNeg k
def mxF (a b : Int32) : Int32 := if b < a then a else b
def endF (g : Nat → Nat → Int32) (w : Nat) (k t : Int32) (na : Nat) : Nat → Int32 × Int32
  | 0 => (firstF g w k na, 0)
  | n + 1 => if g 13 w < g 6 n ∧ g 6 n ≤ k ∧ (g 9 n = 2 ∨ g 9 n = 1 ∧ g 6 n ≤ (endF g w k t na n).1) then (mxF (endF g w k t na n).1 (endByF g w n k), if (endF g w k t na n).2 ≠ 0 ∨ (endF g w k t na n).1 < t ∧ t < g 6 n then 1 else 0) else endF g w k t na n
theorem endF_gap (g : Nat → Nat → Int32) (w : Nat) (k t : Int32) (na : Nat) : ∀ n : Nat, (endF g w k t na n).2 = 0 ∨ (endF g w k t na n).2 = 1
  | 0 => Or.inl rfl
  | n + 1 => by
    rw [endF]
    split
    · dsimp only
      split
      · exact Or.inr rfl
      · exact Or.inl rfl
    · exact endF_gap g w k t na n
def s_X11_endAt : q_Sp := fun av σ post => match av with
  | [.ref mr, .int w, .int k, .int t] => ∃ ad z g gp r, mOKx σ mr ad z g gp r ∧ (0 ≤ w ∧ w < 20) ∧ (0 ≤ z 5 ∧ z 5 ≤ 6) ∧ (0 ≤ g 12 w.toNatClampNeg ∧ g 12 w.toNatClampNeg < 12) ∧ ∀ σ', mOKx σ' mr ad z g (endF g w.toNatClampNeg k t (z 5).toNatClampNeg (z 5).toNatClampNeg).2 r → post (some (.int (endF g w.toNatClampNeg k t (z 5).toNatClampNeg (z 5).toNatClampNeg).1)) σ'
  | _ => False
theorem w9_35 : (.code yX11_actAt cX11_actAt 4 (some .int) : Cond) ∈ lw_tbl := by decide +kernel
theorem w9_36 : (.methodLink RX11 129 yX11_actAt : Cond) ∈ lw_tbl := by decide +kernel
theorem w9_37 : (.instanceMethod yX11_actAt : Cond) ∈ lw_tbl := by decide +kernel
theorem w9_38 : (.selects RX11 yX11_actAt yX11_actAt : Cond) ∈ lw_tbl := by decide +kernel
theorem w9_39 : (.code yX11_endBy cX11_endBy 6 (some .int) : Cond) ∈ lw_tbl := by decide +kernel
theorem w9_40 : (.methodLink RX11 133 yX11_endBy : Cond) ∈ lw_tbl := by decide +kernel
theorem w9_41 : (.instanceMethod yX11_endBy : Cond) ∈ lw_tbl := by decide +kernel
theorem w9_42 : (.selects RX11 yX11_endBy yX11_endBy : Cond) ∈ lw_tbl := by decide +kernel
theorem w9_43 : (.fieldLink RX11 136 (TX11 33).1 (TX11 33).2.1 (TX11 33).2.2.1 : Cond) ∈ lw_tbl := by decide +kernel
def rm_X11_endAt : Room := { frames := 2, cells := 0, slots := 0, locals := 47 }
def k_X11_endAt_35 (post : Option Value → q_S → Prop) (K : Nat → q_K) : q_K := (c_istore 5 (c_aload 0 (c_push 0 (c_put 11 33 (.boolean) (c_push 0 (c_istore 6 (K 45)))))))
def k_X11_endAt_0 (post : Option Value → q_S → Prop) (K : Nat → q_K) : q_K := (c_aload 0 (c_aload 0 (c_get 11 13 (c_iload 1 (c_iald (c_call2 (some 11) s_X11_actAt 0 0 (c_istore 4 (c_iload 4 (c_push (-1) (c_icne (c_aload 0 (c_iload 1 (c_iload 4 (c_iload 2 (c_call4 (some 11) s_X11_endBy 0 0 (k_X11_endAt_35 post K)))))) (c_aload 0 (c_get 11 13 (c_iload 1 (c_iald (k_X11_endAt_35 post K)))))))))))))))
def k_X11_endAt_152 (post : Option Value → q_S → Prop) (K : Nat → q_K) : q_K := (c_iinc 6 1 (K 45))
def k_X11_endAt_134 (post : Option Value → q_S → Prop) (K : Nat → q_K) : q_K := (c_put 11 33 (.boolean) (c_iload 5 (c_aload 0 (c_iload 1 (c_iload 6 (c_iload 2 (c_call4 (some 11) s_X11_endBy 0 0 (c_call2 none s_X11_greater 0 0 (c_istore 5 (k_X11_endAt_152 post K))))))))))
def k_X11_endAt_129 (post : Option Value → q_S → Prop) (K : Nat → q_K) : q_K := (c_push 1 (k_X11_endAt_134 post K))
def k_X11_endAt_133 (post : Option Value → q_S → Prop) (K : Nat → q_K) : q_K := (c_push 0 (k_X11_endAt_134 post K))
def k_X11_endAt_109 (post : Option Value → q_S → Prop) (K : Nat → q_K) : q_K := (c_aload 0 (c_aload 0 (c_get 11 33 (c_ifne (k_X11_endAt_129 post K) (c_iload 5 (c_iload 3 (c_icge (k_X11_endAt_133 post K) (c_iload 3 (c_iload 7 (c_icge (k_X11_endAt_133 post K) (k_X11_endAt_129 post K)))))))))))
def k_X11_endAt_45 (post : Option Value → q_S → Prop) (K : Nat → q_K) : q_K := (c_iload 6 (c_aload 0 (c_get 11 5 (c_icge (c_iload 5 (c_iret post)) (c_aload 0 (c_get 11 6 (c_iload 6 (c_iald (c_istore 7 (c_iload 7 (c_aload 0 (c_get 11 13 (c_iload 1 (c_iald (c_icle (k_X11_endAt_152 post K) (c_iload 7 (c_iload 2 (c_icgt (k_X11_endAt_152 post K) (c_aload 0 (c_get 11 9 (c_iload 6 (c_iald (c_push 2 (c_iceq (k_X11_endAt_109 post K) (c_aload 0 (c_get 11 9 (c_iload 6 (c_iald (c_push 1 (c_icne (k_X11_endAt_152 post K) (c_iload 5 (c_iload 7 (c_iclt (k_X11_endAt_152 post K) (k_X11_endAt_109 post K))))))))))))))))))))))))))))))))))
set_option maxRecDepth 100000 in
theorem v_X11_endAt_35 {p : Program} {l : Launch} {e : Env} {s : State} {m : MethodId} {args : Array Value} {below : List Frame} {meth : Method} {c : Code} {D : va_G} {A : Nat → Prop} {post : Option Value → q_S → Prop} {K : Nat → q_K} (C : q_C p s m args meth c cX11_endAt 8 RX11 "endAt" (some .int) A) (hK : ∀ h ∈ ([45] : List Nat), q_V p l e rm_X11_endAt s m args below meth c D A 8 (MQ below (q_Qc D A post) args s rm_X11_endAt.cells rm_X11_endAt.slots A) h (K h)) : q_V p l e rm_X11_endAt s m args below meth c D A 8 (MQ below (q_Qc D A post) args s rm_X11_endAt.cells rm_X11_endAt.slots A) 35 (k_X11_endAt_35 post K) := by
  unfold k_X11_endAt_35
  refine q_istore C (by decide +kernel : decode cX11_endAt 35 = .ok (.istore 5, 2)) ?_
  refine q_aload_n C (by decide +kernel : decode cX11_endAt 37 = .ok (.aload_n 0, 1)) ?_
  refine q_iconst C (by decide +kernel : decode cX11_endAt 38 = .ok (.iconst 0, 1)) (by decide) ?_
  refine q_put C (ci := 11) (j := 33) (C0 := RX11) (T := TX11) (N := 35) (ty := .boolean) rfl iX11 giX11 (by decide) tyX11 tyX11_ok nmX11 (by decide +kernel) rfl w9_43 (by decide +kernel : decode cX11_endAt 39 = .ok (.putfield 136, 3)) ?_
  refine q_iconst C (by decide +kernel : decode cX11_endAt 42 = .ok (.iconst 0, 1)) (by decide) ?_
  refine q_istore C (by decide +kernel : decode cX11_endAt 43 = .ok (.istore 6, 2)) ?_
  exact hK 45 (by decide)
set_option maxRecDepth 100000 in
theorem v_X11_endAt_0 {p : Program} {l : Launch} {e : Env} {s : State} {m : MethodId} {args : Array Value} {below : List Frame} {meth : Method} {c : Code} {D : va_G} {A : Nat → Prop} {post : Option Value → q_S → Prop} {K : Nat → q_K} (C : q_C p s m args meth c cX11_endAt 8 RX11 "endAt" (some .int) A) (hK : ∀ h ∈ ([45] : List Nat), q_V p l e rm_X11_endAt s m args below meth c D A 8 (MQ below (q_Qc D A post) args s rm_X11_endAt.cells rm_X11_endAt.slots A) h (K h)) : q_V p l e rm_X11_endAt s m args below meth c D A 8 (MQ below (q_Qc D A post) args s rm_X11_endAt.cells rm_X11_endAt.slots A) 0 (k_X11_endAt_0 post K) := by
  unfold k_X11_endAt_0
  refine q_aload_n C (by decide +kernel : decode cX11_endAt 0 = .ok (.aload_n 0, 1)) ?_
  refine q_aload_n C (by decide +kernel : decode cX11_endAt 1 = .ok (.aload_n 0, 1)) ?_
  refine q_get C (ci := 11) (j := 13) (C0 := RX11) (T := TX11) (N := 35) rfl iX11 giX11 (by decide) w9_29 (by decide +kernel : decode cX11_endAt 2 = .ok (.getfield 37, 3)) ?_
  refine q_iload_n C (by decide +kernel : decode cX11_endAt 5 = .ok (.iload_n 1, 1)) ?_
  refine q_iald C (by decide +kernel : decode cX11_endAt 6 = .ok (.iaload, 1)) ?_
  refine q_call2 C (q_coV C (np := 1) (ci := 11) (rc := (RX11, TX11, 35)) (t_X11_actAt l) w9_35 rfl rfl w9_36 w9_37 w9_38 w9_6 (by decide +kernel) (by decide +kernel : decode cX11_endAt 7 = .ok (.invokevirtual 129, 3)) (by decide)) ?_
  refine q_istore C (by decide +kernel : decode cX11_endAt 10 = .ok (.istore 4, 2)) ?_
  refine q_iload C (by decide +kernel : decode cX11_endAt 12 = .ok (.iload 4, 2)) ?_
  refine q_iconst C (by decide +kernel : decode cX11_endAt 14 = .ok (.iconst (-1), 1)) (by decide) ?_
  refine q_icne C (tgt := 27) (by decide +kernel : decode cX11_endAt 15 = .ok (.if_icmp .ne 12, 3)) (by decide) ?_ ?_
  · refine q_aload_n C (by decide +kernel : decode cX11_endAt 27 = .ok (.aload_n 0, 1)) ?_
    refine q_iload_n C (by decide +kernel : decode cX11_endAt 28 = .ok (.iload_n 1, 1)) ?_
    refine q_iload C (by decide +kernel : decode cX11_endAt 29 = .ok (.iload 4, 2)) ?_
    refine q_iload_n C (by decide +kernel : decode cX11_endAt 31 = .ok (.iload_n 2, 1)) ?_
    refine q_call4 C (q_coV C (np := 3) (ci := 11) (rc := (RX11, TX11, 35)) (t_X11_endBy l) w9_39 rfl rfl w9_40 w9_41 w9_42 w9_6 (by decide +kernel) (by decide +kernel : decode cX11_endAt 32 = .ok (.invokevirtual 133, 3)) (by decide)) ?_
    exact v_X11_endAt_35 C hK
  · refine q_aload_n C (by decide +kernel : decode cX11_endAt 18 = .ok (.aload_n 0, 1)) ?_
    refine q_get C (ci := 11) (j := 13) (C0 := RX11) (T := TX11) (N := 35) rfl iX11 giX11 (by decide) w9_29 (by decide +kernel : decode cX11_endAt 19 = .ok (.getfield 37, 3)) ?_
    refine q_iload_n C (by decide +kernel : decode cX11_endAt 22 = .ok (.iload_n 1, 1)) ?_
    refine q_iald C (by decide +kernel : decode cX11_endAt 23 = .ok (.iaload, 1)) ?_
    refine q_goto C (tgt := 35) (by decide +kernel : decode cX11_endAt 24 = .ok (.goto 11, 3)) (by decide) ?_
    exact v_X11_endAt_35 C hK
set_option maxRecDepth 100000 in
theorem v_X11_endAt_152 {p : Program} {l : Launch} {e : Env} {s : State} {m : MethodId} {args : Array Value} {below : List Frame} {meth : Method} {c : Code} {D : va_G} {A : Nat → Prop} {post : Option Value → q_S → Prop} {K : Nat → q_K} (C : q_C p s m args meth c cX11_endAt 8 RX11 "endAt" (some .int) A) (hK : ∀ h ∈ ([45] : List Nat), q_V p l e rm_X11_endAt s m args below meth c D A 8 (MQ below (q_Qc D A post) args s rm_X11_endAt.cells rm_X11_endAt.slots A) h (K h)) : q_V p l e rm_X11_endAt s m args below meth c D A 8 (MQ below (q_Qc D A post) args s rm_X11_endAt.cells rm_X11_endAt.slots A) 152 (k_X11_endAt_152 post K) := by
  unfold k_X11_endAt_152
  refine q_iinc C (by decide +kernel : decode cX11_endAt 152 = .ok (.iinc 6 1, 3)) (by decide) ?_
  refine q_goto C (tgt := 45) (by decide +kernel : decode cX11_endAt 155 = .ok (.goto (-110), 3)) (by decide) ?_
  exact hK 45 (by decide)
set_option maxRecDepth 100000 in
theorem v_X11_endAt_134 {p : Program} {l : Launch} {e : Env} {s : State} {m : MethodId} {args : Array Value} {below : List Frame} {meth : Method} {c : Code} {D : va_G} {A : Nat → Prop} {post : Option Value → q_S → Prop} {K : Nat → q_K} (C : q_C p s m args meth c cX11_endAt 8 RX11 "endAt" (some .int) A) (hK : ∀ h ∈ ([45] : List Nat), q_V p l e rm_X11_endAt s m args below meth c D A 8 (MQ below (q_Qc D A post) args s rm_X11_endAt.cells rm_X11_endAt.slots A) h (K h)) : q_V p l e rm_X11_endAt s m args below meth c D A 8 (MQ below (q_Qc D A post) args s rm_X11_endAt.cells rm_X11_endAt.slots A) 134 (k_X11_endAt_134 post K) := by
  unfold k_X11_endAt_134
  refine q_put C (ci := 11) (j := 33) (C0 := RX11) (T := TX11) (N := 35) (ty := .boolean) rfl iX11 giX11 (by decide) tyX11 tyX11_ok nmX11 (by decide +kernel) rfl w9_43 (by decide +kernel : decode cX11_endAt 134 = .ok (.putfield 136, 3)) ?_
  refine q_iload C (by decide +kernel : decode cX11_endAt 137 = .ok (.iload 5, 2)) ?_
  refine q_aload_n C (by decide +kernel : decode cX11_endAt 139 = .ok (.aload_n 0, 1)) ?_
  refine q_iload_n C (by decide +kernel : decode cX11_endAt 140 = .ok (.iload_n 1, 1)) ?_
  refine q_iload C (by decide +kernel : decode cX11_endAt 141 = .ok (.iload 6, 2)) ?_
  refine q_iload_n C (by decide +kernel : decode cX11_endAt 143 = .ok (.iload_n 2, 1)) ?_
  refine q_call4 C (q_coV C (np := 3) (ci := 11) (rc := (RX11, TX11, 35)) (t_X11_endBy l) w9_39 rfl rfl w9_40 w9_41 w9_42 w9_6 (by decide +kernel) (by decide +kernel : decode cX11_endAt 144 = .ok (.invokevirtual 133, 3)) (by decide)) ?_
  refine q_call2 C (q_coS C (np := 2) (t_X11_greater l) w9_31 w9_33 w9_32 w9_6 (by decide +kernel) (by decide +kernel : decode cX11_endAt 147 = .ok (.invokestatic 126, 3)) (by decide)) ?_
  refine q_istore C (by decide +kernel : decode cX11_endAt 150 = .ok (.istore 5, 2)) ?_
  exact v_X11_endAt_152 C hK
set_option maxRecDepth 100000 in
theorem v_X11_endAt_129 {p : Program} {l : Launch} {e : Env} {s : State} {m : MethodId} {args : Array Value} {below : List Frame} {meth : Method} {c : Code} {D : va_G} {A : Nat → Prop} {post : Option Value → q_S → Prop} {K : Nat → q_K} (C : q_C p s m args meth c cX11_endAt 8 RX11 "endAt" (some .int) A) (hK : ∀ h ∈ ([45] : List Nat), q_V p l e rm_X11_endAt s m args below meth c D A 8 (MQ below (q_Qc D A post) args s rm_X11_endAt.cells rm_X11_endAt.slots A) h (K h)) : q_V p l e rm_X11_endAt s m args below meth c D A 8 (MQ below (q_Qc D A post) args s rm_X11_endAt.cells rm_X11_endAt.slots A) 129 (k_X11_endAt_129 post K) := by
  unfold k_X11_endAt_129
  refine q_iconst C (by decide +kernel : decode cX11_endAt 129 = .ok (.iconst 1, 1)) (by decide) ?_
  refine q_goto C (tgt := 134) (by decide +kernel : decode cX11_endAt 130 = .ok (.goto 4, 3)) (by decide) ?_
  exact v_X11_endAt_134 C hK
set_option maxRecDepth 100000 in
theorem v_X11_endAt_133 {p : Program} {l : Launch} {e : Env} {s : State} {m : MethodId} {args : Array Value} {below : List Frame} {meth : Method} {c : Code} {D : va_G} {A : Nat → Prop} {post : Option Value → q_S → Prop} {K : Nat → q_K} (C : q_C p s m args meth c cX11_endAt 8 RX11 "endAt" (some .int) A) (hK : ∀ h ∈ ([45] : List Nat), q_V p l e rm_X11_endAt s m args below meth c D A 8 (MQ below (q_Qc D A post) args s rm_X11_endAt.cells rm_X11_endAt.slots A) h (K h)) : q_V p l e rm_X11_endAt s m args below meth c D A 8 (MQ below (q_Qc D A post) args s rm_X11_endAt.cells rm_X11_endAt.slots A) 133 (k_X11_endAt_133 post K) := by
  unfold k_X11_endAt_133
  refine q_iconst C (by decide +kernel : decode cX11_endAt 133 = .ok (.iconst 0, 1)) (by decide) ?_
  exact v_X11_endAt_134 C hK
set_option maxRecDepth 100000 in
theorem v_X11_endAt_109 {p : Program} {l : Launch} {e : Env} {s : State} {m : MethodId} {args : Array Value} {below : List Frame} {meth : Method} {c : Code} {D : va_G} {A : Nat → Prop} {post : Option Value → q_S → Prop} {K : Nat → q_K} (C : q_C p s m args meth c cX11_endAt 8 RX11 "endAt" (some .int) A) (hK : ∀ h ∈ ([45] : List Nat), q_V p l e rm_X11_endAt s m args below meth c D A 8 (MQ below (q_Qc D A post) args s rm_X11_endAt.cells rm_X11_endAt.slots A) h (K h)) : q_V p l e rm_X11_endAt s m args below meth c D A 8 (MQ below (q_Qc D A post) args s rm_X11_endAt.cells rm_X11_endAt.slots A) 109 (k_X11_endAt_109 post K) := by
  unfold k_X11_endAt_109
  refine q_aload_n C (by decide +kernel : decode cX11_endAt 109 = .ok (.aload_n 0, 1)) ?_
  refine q_aload_n C (by decide +kernel : decode cX11_endAt 110 = .ok (.aload_n 0, 1)) ?_
  refine q_get C (ci := 11) (j := 33) (C0 := RX11) (T := TX11) (N := 35) rfl iX11 giX11 (by decide) w9_43 (by decide +kernel : decode cX11_endAt 111 = .ok (.getfield 136, 3)) ?_
  refine q_ifne C (tgt := 129) (by decide +kernel : decode cX11_endAt 114 = .ok (.ifCond .ne 15, 3)) (by decide) ?_ ?_
  · exact v_X11_endAt_129 C hK
  · refine q_iload C (by decide +kernel : decode cX11_endAt 117 = .ok (.iload 5, 2)) ?_
    refine q_iload_n C (by decide +kernel : decode cX11_endAt 119 = .ok (.iload_n 3, 1)) ?_
    refine q_icge C (tgt := 133) (by decide +kernel : decode cX11_endAt 120 = .ok (.if_icmp .ge 13, 3)) (by decide) ?_ ?_
    · exact v_X11_endAt_133 C hK
    · refine q_iload_n C (by decide +kernel : decode cX11_endAt 123 = .ok (.iload_n 3, 1)) ?_
      refine q_iload C (by decide +kernel : decode cX11_endAt 124 = .ok (.iload 7, 2)) ?_
      refine q_icge C (tgt := 133) (by decide +kernel : decode cX11_endAt 126 = .ok (.if_icmp .ge 7, 3)) (by decide) ?_ ?_
      · exact v_X11_endAt_133 C hK
      · exact v_X11_endAt_129 C hK
set_option maxRecDepth 100000 in
theorem v_X11_endAt_45 {p : Program} {l : Launch} {e : Env} {s : State} {m : MethodId} {args : Array Value} {below : List Frame} {meth : Method} {c : Code} {D : va_G} {A : Nat → Prop} {post : Option Value → q_S → Prop} {K : Nat → q_K} (C : q_C p s m args meth c cX11_endAt 8 RX11 "endAt" (some .int) A) (hK : ∀ h ∈ ([45] : List Nat), q_V p l e rm_X11_endAt s m args below meth c D A 8 (MQ below (q_Qc D A post) args s rm_X11_endAt.cells rm_X11_endAt.slots A) h (K h)) : q_V p l e rm_X11_endAt s m args below meth c D A 8 (MQ below (q_Qc D A post) args s rm_X11_endAt.cells rm_X11_endAt.slots A) 45 (k_X11_endAt_45 post K) := by
  unfold k_X11_endAt_45
  refine q_iload C (by decide +kernel : decode cX11_endAt 45 = .ok (.iload 6, 2)) ?_
  refine q_aload_n C (by decide +kernel : decode cX11_endAt 47 = .ok (.aload_n 0, 1)) ?_
  refine q_get C (ci := 11) (j := 5) (C0 := RX11) (T := TX11) (N := 35) rfl iX11 giX11 (by decide) w9_22 (by decide +kernel : decode cX11_endAt 48 = .ok (.getfield 122, 3)) ?_
  refine q_icge C (tgt := 158) (by decide +kernel : decode cX11_endAt 51 = .ok (.if_icmp .ge 107, 3)) (by decide) ?_ ?_
  · refine q_iload C (by decide +kernel : decode cX11_endAt 158 = .ok (.iload 5, 2)) ?_
    exact q_iret C rfl (by decide +kernel : decode cX11_endAt 160 = .ok (.ireturn, 1))
  · refine q_aload_n C (by decide +kernel : decode cX11_endAt 54 = .ok (.aload_n 0, 1)) ?_
    refine q_get C (ci := 11) (j := 6) (C0 := RX11) (T := TX11) (N := 35) rfl iX11 giX11 (by decide) w9_23 (by decide +kernel : decode cX11_endAt 55 = .ok (.getfield 19, 3)) ?_
    refine q_iload C (by decide +kernel : decode cX11_endAt 58 = .ok (.iload 6, 2)) ?_
    refine q_iald C (by decide +kernel : decode cX11_endAt 60 = .ok (.iaload, 1)) ?_
    refine q_istore C (by decide +kernel : decode cX11_endAt 61 = .ok (.istore 7, 2)) ?_
    refine q_iload C (by decide +kernel : decode cX11_endAt 63 = .ok (.iload 7, 2)) ?_
    refine q_aload_n C (by decide +kernel : decode cX11_endAt 65 = .ok (.aload_n 0, 1)) ?_
    refine q_get C (ci := 11) (j := 13) (C0 := RX11) (T := TX11) (N := 35) rfl iX11 giX11 (by decide) w9_29 (by decide +kernel : decode cX11_endAt 66 = .ok (.getfield 37, 3)) ?_
    refine q_iload_n C (by decide +kernel : decode cX11_endAt 69 = .ok (.iload_n 1, 1)) ?_
    refine q_iald C (by decide +kernel : decode cX11_endAt 70 = .ok (.iaload, 1)) ?_
    refine q_icle C (tgt := 152) (by decide +kernel : decode cX11_endAt 71 = .ok (.if_icmp .le 81, 3)) (by decide) ?_ ?_
    · exact v_X11_endAt_152 C hK
    · refine q_iload C (by decide +kernel : decode cX11_endAt 74 = .ok (.iload 7, 2)) ?_
      refine q_iload_n C (by decide +kernel : decode cX11_endAt 76 = .ok (.iload_n 2, 1)) ?_
      refine q_icgt C (tgt := 152) (by decide +kernel : decode cX11_endAt 77 = .ok (.if_icmp .gt 75, 3)) (by decide) ?_ ?_
      · exact v_X11_endAt_152 C hK
      · refine q_aload_n C (by decide +kernel : decode cX11_endAt 80 = .ok (.aload_n 0, 1)) ?_
        refine q_get C (ci := 11) (j := 9) (C0 := RX11) (T := TX11) (N := 35) rfl iX11 giX11 (by decide) w9_26 (by decide +kernel : decode cX11_endAt 81 = .ok (.getfield 28, 3)) ?_
        refine q_iload C (by decide +kernel : decode cX11_endAt 84 = .ok (.iload 6, 2)) ?_
        refine q_iald C (by decide +kernel : decode cX11_endAt 86 = .ok (.iaload, 1)) ?_
        refine q_iconst C (by decide +kernel : decode cX11_endAt 87 = .ok (.iconst 2, 1)) (by decide) ?_
        refine q_iceq C (tgt := 109) (by decide +kernel : decode cX11_endAt 88 = .ok (.if_icmp .eq 21, 3)) (by decide) ?_ ?_
        · exact v_X11_endAt_109 C hK
        · refine q_aload_n C (by decide +kernel : decode cX11_endAt 91 = .ok (.aload_n 0, 1)) ?_
          refine q_get C (ci := 11) (j := 9) (C0 := RX11) (T := TX11) (N := 35) rfl iX11 giX11 (by decide) w9_26 (by decide +kernel : decode cX11_endAt 92 = .ok (.getfield 28, 3)) ?_
          refine q_iload C (by decide +kernel : decode cX11_endAt 95 = .ok (.iload 6, 2)) ?_
          refine q_iald C (by decide +kernel : decode cX11_endAt 97 = .ok (.iaload, 1)) ?_
          refine q_iconst C (by decide +kernel : decode cX11_endAt 98 = .ok (.iconst 1, 1)) (by decide) ?_
          refine q_icne C (tgt := 152) (by decide +kernel : decode cX11_endAt 99 = .ok (.if_icmp .ne 53, 3)) (by decide) ?_ ?_
          · exact v_X11_endAt_152 C hK
          · refine q_iload C (by decide +kernel : decode cX11_endAt 102 = .ok (.iload 5, 2)) ?_
            refine q_iload C (by decide +kernel : decode cX11_endAt 104 = .ok (.iload 7, 2)) ?_
            refine q_iclt C (tgt := 152) (by decide +kernel : decode cX11_endAt 106 = .ok (.if_icmp .lt 46, 3)) (by decide) ?_ ?_
            · exact v_X11_endAt_152 C hK
            · exact v_X11_endAt_109 C hK
theorem u_X11_endAt (l : Launch) {sp : q_Sp} (H : ∀ (av : List Value) (σ : q_S) (post : Option Value → q_S → Prop), sp av σ post → ∃ Inv : Nat → Nat → q_K, (∀ K : Nat → q_K, (∀ (h n : Nat) (L : List (Option Value)) (st : List Value) (σ : q_S) (cr sr : Nat), Inv h n L st σ cr sr → K h L st σ cr sr) → k_X11_endAt_0 post K (q_L0 av 8) [] σ 0 0) ∧ (∀ (K : Nat → q_K) (n : Nat), (∀ (h m : Nat) (L : List (Option Value)) (st : List Value) (σ : q_S) (cr sr : Nat), m < n → Inv h m L st σ cr sr → K h L st σ cr sr) → ∀ (L : List (Option Value)) (st : List Value) (σ : q_S) (cr sr : Nat), Inv 45 n L st σ cr sr → k_X11_endAt_45 post K L st σ cr sr) ∧ av.length ≤ 8 ∧ ∀ v ∈ av, v.category = 1) : q_Ct l yX11_endAt cX11_endAt 8 (some .int) rm_X11_endAt sp := by
  refine q_met (by decide) ?_
  intro D A p e s m args below meth c σ av post C hsp
  obtain ⟨Inv, h1, hh45, h2, h3⟩ := H av σ post hsp
  have hV := q_loops (p := p) (l := l) (e := e) (R := rm_X11_endAt) (s := s) (m := m) (args := args) (below := below) (meth := meth) (c := c) (D := D) (A := A) (nL := 8) (Q := MQ below (q_Qc D A post) args s rm_X11_endAt.cells rm_X11_endAt.slots A) [45] (fun h =>  k_X11_endAt_45 post) (fun K hK h hh => ?_) Inv (fun n h hh => ?_)
  · exact ⟨_, v_X11_endAt_0 C hV, h1 _ (fun h n L st σ cr sr hi => ⟨n, hi⟩), h2, h3⟩
  · have e9 : h = 45 := by simpa using hh
    subst e9
    exact v_X11_endAt_45 C hK
  · have e9 : h = 45 := by simpa using hh
    subst e9
    exact hh45 (fun h L st σ cr sr => ∃ m : Nat, m < n ∧ Inv h m L st σ cr sr) n (fun h m L st σ cr sr hm hi => ⟨m, hm, hi⟩)
theorem t_X11_endAt (l : Launch) : q_Ct l yX11_endAt cX11_endAt 8 (some .int) rm_X11_endAt s_X11_endAt := u_X11_endAt l (by
  intro av σ post h
  unfold s_X11_endAt at h
  split at h
  · next mr w k t =>
    obtain ⟨ad, z, g, gp, r, hm, hw, hI, hau, h1⟩ := h
    have ez := nI_self hI.1
    generalize hna : (z 5).toNatClampNeg = na at h1 ez
    have hna6 : na ≤ 6 := hna ▸ clamp_le 6 hI.1 hI.2
    generalize hwn : w.toNatClampNeg = wn at h1 hau
    refine ⟨fun _ n L st σ' cr sr => ∃ (i : Nat) (d0 f0 : Option Value), i ≤ na ∧ n = na - i ∧ mOKx σ' mr ad z g (endF g wn k t na i).2 r ∧ st = [] ∧ L = [some (.ref mr), some (.int w), some (.int k), some (.int t), f0, some (.int (endF g wn k t na i).1), some (.int (nI i)), d0], ?_, ?_, by simp, by simp [Value.category]⟩
    · intro K hK
      have J35 : ∀ f0 : Option Value, k_X11_endAt_35 post K [some (.ref mr), some (.int w), some (.int k), some (.int t), f0, none, none, none] [.int (firstF g wn k na)] σ 0 0 := fun f0 => by
        have hm1 := hm.p33 0
        simp only [c_push, c_null, c_iload, c_aload, c_istore, c_astore, c_iinc, c_iadd, c_isub, c_imul, c_iand, c_ineg, c_dup, c_dup2, c_pop, c_ifnull, c_ifnonnull, c_get, c_put, c_iald, c_zald, c_iast, c_zast, c_aald, c_aast, c_alen, c_new, c_newa, c_newq, c_mna, c_oinit, c_max, c_copy, c_iret, c_zret, c_aret, c_vret, q_do, q_rc, c_ifeq, c_ifne, c_iflt, c_ifge, c_ifgt, c_ifle, c_iceq, c_icne, c_iclt, c_icge, c_icgt, c_icle, c_call0, c_call1, c_call2, c_call3, c_call4, c_call5, c_call6, c_call7, q_L0, List.map_cons, List.map_nil, List.replicate, List.cons_append, List.nil_append, List.append_nil, List.length_cons, List.length_nil, List.length_set, Nat.reduceSub, Nat.reduceAdd, Nat.reduceLT, Nat.reduceLeDiff, Nat.zero_add, Nat.add_zero, Nat.sub_zero, Nat.sub_self, List.getElem?_cons_zero, List.getElem?_cons_succ, List.set_cons_zero, List.set_cons_succ, Option.toList_some, Option.toList_none, List.sum_cons, List.sum_nil, true_and, and_true, true_or, or_true, Nat.le_refl, Nat.zero_le, Value.category, Fin.isValue, Fin.val_zero, Fin.val_one, Fin.val_two, Fin.reduceFinMk, q_10, q_01, not_false_eq_true, not_true_eq_false, forall_const, true_implies, false_implies, implies_true, q_ni, q_fi, q_nb0, q_nb1, q_fb0, q_fb1, q_nor, q_nar, q_for, q_far, q_non, q_nan, q_fon, q_fan, imp_false, false_and, and_false, and_self, false_or, or_false, va_rf, refKind, k_X11_endAt_35, hm.rd]
        exact hK 45 na _ _ _ _ _ ⟨0, none, f0, Nat.zero_le _, rfl, hm1, rfl, rfl⟩
      simp only [c_push, c_null, c_iload, c_aload, c_istore, c_astore, c_iinc, c_iadd, c_isub, c_imul, c_iand, c_ineg, c_dup, c_dup2, c_pop, c_ifnull, c_ifnonnull, c_get, c_put, c_iald, c_zald, c_iast, c_zast, c_aald, c_aast, c_alen, c_new, c_newa, c_newq, c_mna, c_oinit, c_max, c_copy, c_iret, c_zret, c_aret, c_vret, q_do, q_rc, c_ifeq, c_ifne, c_iflt, c_ifge, c_ifgt, c_ifle, c_iceq, c_icne, c_iclt, c_icge, c_icgt, c_icle, c_call0, c_call1, c_call2, c_call3, c_call4, c_call5, c_call6, c_call7, q_L0, List.map_cons, List.map_nil, List.replicate, List.cons_append, List.nil_append, List.append_nil, List.length_cons, List.length_nil, List.length_set, Nat.reduceSub, Nat.reduceAdd, Nat.reduceLT, Nat.reduceLeDiff, Nat.zero_add, Nat.add_zero, Nat.sub_zero, Nat.sub_self, List.getElem?_cons_zero, List.getElem?_cons_succ, List.set_cons_zero, List.set_cons_succ, Option.toList_some, Option.toList_none, List.sum_cons, List.sum_nil, true_and, and_true, true_or, or_true, Nat.le_refl, Nat.zero_le, Value.category, Fin.isValue, Fin.val_zero, Fin.val_one, Fin.val_two, Fin.reduceFinMk, q_10, q_01, not_false_eq_true, not_true_eq_false, forall_const, true_implies, false_implies, implies_true, q_ni, q_fi, q_nb0, q_nb1, q_fb0, q_fb1, q_nor, q_nar, q_for, q_far, q_non, q_nan, q_fon, q_fan, imp_false, false_and, and_false, and_self, false_or, or_false, va_rf, refKind, k_X11_endAt_0, hm.rd, vpi20, hw]
      refine ⟨ad, z, g, gp, r, hm, hI, ?_⟩
      rw [hna, hwn]
      simp only [c_push, c_null, c_iload, c_aload, c_istore, c_astore, c_iinc, c_iadd, c_isub, c_imul, c_iand, c_ineg, c_dup, c_dup2, c_pop, c_ifnull, c_ifnonnull, c_get, c_put, c_iald, c_zald, c_iast, c_zast, c_aald, c_aast, c_alen, c_new, c_newa, c_newq, c_mna, c_oinit, c_max, c_copy, c_iret, c_zret, c_aret, c_vret, q_do, q_rc, c_ifeq, c_ifne, c_iflt, c_ifge, c_ifgt, c_ifle, c_iceq, c_icne, c_iclt, c_icge, c_icgt, c_icle, c_call0, c_call1, c_call2, c_call3, c_call4, c_call5, c_call6, c_call7, q_L0, List.map_cons, List.map_nil, List.replicate, List.cons_append, List.nil_append, List.append_nil, List.length_cons, List.length_nil, List.length_set, Nat.reduceSub, Nat.reduceAdd, Nat.reduceLT, Nat.reduceLeDiff, Nat.zero_add, Nat.add_zero, Nat.sub_zero, Nat.sub_self, List.getElem?_cons_zero, List.getElem?_cons_succ, List.set_cons_zero, List.set_cons_succ, Option.toList_some, Option.toList_none, List.sum_cons, List.sum_nil, true_and, and_true, true_or, or_true, Nat.le_refl, Nat.zero_le, Value.category, Fin.isValue, Fin.val_zero, Fin.val_one, Fin.val_two, Fin.reduceFinMk, q_10, q_01, not_false_eq_true, not_true_eq_false, forall_const, true_implies, false_implies, implies_true, q_ni, q_fi, q_nb0, q_nb1, q_fb0, q_fb1, q_nor, q_nar, q_for, q_far, q_non, q_nan, q_fon, q_fan, imp_false, false_and, and_false, and_self, false_or, or_false, va_rf, refKind, hm.rd, vpi20, hw, hwn]
      refine ⟨fun c => ?_, fun c => ?_⟩
      · refine ⟨ad, z, g, gp, r, hm, hw, ?_, by rw [hwn]; exact hau, ?_⟩
        · rcases actF_cases g (g 13 wn) na with h | ⟨i, h, e⟩
          · exact absurd h c
          · rw [e]; exact ⟨nI_low (by omega), nI_ltN (N := 6) (by omega)⟩
        · have := J35 (some (.int (actF g (g 13 wn) na)))
          rw [firstF, if_neg c] at this
          rw [hwn]
          simp only [c_push, c_null, c_iload, c_aload, c_istore, c_astore, c_iinc, c_iadd, c_isub, c_imul, c_iand, c_ineg, c_dup, c_dup2, c_pop, c_ifnull, c_ifnonnull, c_get, c_put, c_iald, c_zald, c_iast, c_zast, c_aald, c_aast, c_alen, c_new, c_newa, c_newq, c_mna, c_oinit, c_max, c_copy, c_iret, c_zret, c_aret, c_vret, q_do, q_rc, c_ifeq, c_ifne, c_iflt, c_ifge, c_ifgt, c_ifle, c_iceq, c_icne, c_iclt, c_icge, c_icgt, c_icle, c_call0, c_call1, c_call2, c_call3, c_call4, c_call5, c_call6, c_call7, q_L0, List.map_cons, List.map_nil, List.replicate, List.cons_append, List.nil_append, List.append_nil, List.length_cons, List.length_nil, List.length_set, Nat.reduceSub, Nat.reduceAdd, Nat.reduceLT, Nat.reduceLeDiff, Nat.zero_add, Nat.add_zero, Nat.sub_zero, Nat.sub_self, List.getElem?_cons_zero, List.getElem?_cons_succ, List.set_cons_zero, List.set_cons_succ, Option.toList_some, Option.toList_none, List.sum_cons, List.sum_nil, true_and, and_true, true_or, or_true, Nat.le_refl, Nat.zero_le, Value.category, Fin.isValue, Fin.val_zero, Fin.val_one, Fin.val_two, Fin.reduceFinMk, q_10, q_01, not_false_eq_true, not_true_eq_false, forall_const, true_implies, false_implies, implies_true, q_ni, q_fi, q_nb0, q_nb1, q_fb0, q_fb1, q_nor, q_nar, q_for, q_far, q_non, q_nan, q_fon, q_fan, imp_false, false_and, and_false, and_self, false_or, or_false, va_rf, refKind]
          exact this
      · have := J35 (some (.int (actF g (g 13 wn) na)))
        rw [firstF, if_pos c] at this
        exact this
    · rintro K n hK L st σ' cr sr ⟨i, d0, f0, hi, rfl, hm, rfl, rfl⟩
      have J152 : i < na → ∀ σ2 d1, mOKx σ2 mr ad z g (endF g wn k t na (i + 1)).2 r → k_X11_endAt_152 post K [some (.ref mr), some (.int w), some (.int k), some (.int t), f0, some (.int (endF g wn k t na (i + 1)).1), some (.int (nI i)), d1] [] σ2 cr sr := fun hlt σ2 d1 hm2 => by
        simp only [c_push, c_null, c_iload, c_aload, c_istore, c_astore, c_iinc, c_iadd, c_isub, c_imul, c_iand, c_ineg, c_dup, c_dup2, c_pop, c_ifnull, c_ifnonnull, c_get, c_put, c_iald, c_zald, c_iast, c_zast, c_aald, c_aast, c_alen, c_new, c_newa, c_newq, c_mna, c_oinit, c_max, c_copy, c_iret, c_zret, c_aret, c_vret, q_do, q_rc, c_ifeq, c_ifne, c_iflt, c_ifge, c_ifgt, c_ifle, c_iceq, c_icne, c_iclt, c_icge, c_icgt, c_icle, c_call0, c_call1, c_call2, c_call3, c_call4, c_call5, c_call6, c_call7, q_L0, List.map_cons, List.map_nil, List.replicate, List.cons_append, List.nil_append, List.append_nil, List.length_cons, List.length_nil, List.length_set, Nat.reduceSub, Nat.reduceAdd, Nat.reduceLT, Nat.reduceLeDiff, Nat.zero_add, Nat.add_zero, Nat.sub_zero, Nat.sub_self, List.getElem?_cons_zero, List.getElem?_cons_succ, List.set_cons_zero, List.set_cons_succ, Option.toList_some, Option.toList_none, List.sum_cons, List.sum_nil, true_and, and_true, true_or, or_true, Nat.le_refl, Nat.zero_le, Value.category, Fin.isValue, Fin.val_zero, Fin.val_one, Fin.val_two, Fin.reduceFinMk, q_10, q_01, not_false_eq_true, not_true_eq_false, forall_const, true_implies, false_implies, implies_true, q_ni, q_fi, q_nb0, q_nb1, q_fb0, q_fb1, q_nor, q_nar, q_for, q_far, q_non, q_nan, q_fon, q_fan, imp_false, false_and, and_false, and_self, false_or, or_false, va_rf, refKind, k_X11_endAt_152]
        exact hK 45 (na - (i + 1)) _ _ _ _ _ (by omega) ⟨i + 1, d1, f0, by omega, rfl, hm2, rfl, by rw [nI_1]⟩
      have hgap := endF_gap g wn k t na i
      have J134 : i < na → (g 13 wn < g 6 i ∧ g 6 i ≤ k ∧ (g 9 i = 2 ∨ g 9 i = 1 ∧ g 6 i ≤ (endF g wn k t na i).1)) → ∀ b : Int32, b = (if (endF g wn k t na i).2 ≠ 0 ∨ (endF g wn k t na i).1 < t ∧ t < g 6 i then 1 else 0) → k_X11_endAt_134 post K [some (.ref mr), some (.int w), some (.int k), some (.int t), f0, some (.int (endF g wn k t na i).1), some (.int (nI i)), some (.int (g 6 i))] [.int b, .ref mr] σ' cr sr := fun hlt hc b hb => by
        have hm1 := hm.p33 b
        have hb01 : b = 0 ∨ b = 1 := by rw [hb]; split <;> simp
        have hnar : narrow .boolean (.int b) = .int b ∧ fits .boolean (.int b) = true := by rcases hb01 with rfl | rfl <;> decide
        have J := J152 hlt (q_fset σ' mr 33 (.int b)) (some (.int (g 6 i)))
        rw [endF, if_pos hc] at J
        dsimp only at J
        rw [← hb] at J
        simp only [c_push, c_null, c_iload, c_aload, c_istore, c_astore, c_iinc, c_iadd, c_isub, c_imul, c_iand, c_ineg, c_dup, c_dup2, c_pop, c_ifnull, c_ifnonnull, c_get, c_put, c_iald, c_zald, c_iast, c_zast, c_aald, c_aast, c_alen, c_new, c_newa, c_newq, c_mna, c_oinit, c_max, c_copy, c_iret, c_zret, c_aret, c_vret, q_do, q_rc, c_ifeq, c_ifne, c_iflt, c_ifge, c_ifgt, c_ifle, c_iceq, c_icne, c_iclt, c_icge, c_icgt, c_icle, c_call0, c_call1, c_call2, c_call3, c_call4, c_call5, c_call6, c_call7, q_L0, List.map_cons, List.map_nil, List.replicate, List.cons_append, List.nil_append, List.append_nil, List.length_cons, List.length_nil, List.length_set, Nat.reduceSub, Nat.reduceAdd, Nat.reduceLT, Nat.reduceLeDiff, Nat.zero_add, Nat.add_zero, Nat.sub_zero, Nat.sub_self, List.getElem?_cons_zero, List.getElem?_cons_succ, List.set_cons_zero, List.set_cons_succ, Option.toList_some, Option.toList_none, List.sum_cons, List.sum_nil, true_and, and_true, true_or, or_true, Nat.le_refl, Nat.zero_le, Value.category, Fin.isValue, Fin.val_zero, Fin.val_one, Fin.val_two, Fin.reduceFinMk, q_10, q_01, not_false_eq_true, not_true_eq_false, forall_const, true_implies, false_implies, implies_true, q_ni, q_fi, q_nb0, q_nb1, q_fb0, q_fb1, q_nor, q_nar, q_for, q_far, q_non, q_nan, q_fon, q_fan, imp_false, false_and, and_false, and_self, false_or, or_false, va_rf, refKind, k_X11_endAt_134, hm.rd, hm1.rd, hnar]
        refine ⟨ad, z, g, b, r, hm1, hw, ⟨nI_low (by omega), nI_ltN (N := 6) (by omega)⟩, by rw [hwn]; exact hau, ?_⟩
        rw [hwn, clN (by omega)]
        simp only [c_push, c_null, c_iload, c_aload, c_istore, c_astore, c_iinc, c_iadd, c_isub, c_imul, c_iand, c_ineg, c_dup, c_dup2, c_pop, c_ifnull, c_ifnonnull, c_get, c_put, c_iald, c_zald, c_iast, c_zast, c_aald, c_aast, c_alen, c_new, c_newa, c_newq, c_mna, c_oinit, c_max, c_copy, c_iret, c_zret, c_aret, c_vret, q_do, q_rc, c_ifeq, c_ifne, c_iflt, c_ifge, c_ifgt, c_ifle, c_iceq, c_icne, c_iclt, c_icge, c_icgt, c_icle, c_call0, c_call1, c_call2, c_call3, c_call4, c_call5, c_call6, c_call7, q_L0, List.map_cons, List.map_nil, List.replicate, List.cons_append, List.nil_append, List.append_nil, List.length_cons, List.length_nil, List.length_set, Nat.reduceSub, Nat.reduceAdd, Nat.reduceLT, Nat.reduceLeDiff, Nat.zero_add, Nat.add_zero, Nat.sub_zero, Nat.sub_self, List.getElem?_cons_zero, List.getElem?_cons_succ, List.set_cons_zero, List.set_cons_succ, Option.toList_some, Option.toList_none, List.sum_cons, List.sum_nil, true_and, and_true, true_or, or_true, Nat.le_refl, Nat.zero_le, Value.category, Fin.isValue, Fin.val_zero, Fin.val_one, Fin.val_two, Fin.reduceFinMk, q_10, q_01, not_false_eq_true, not_true_eq_false, forall_const, true_implies, false_implies, implies_true, q_ni, q_fi, q_nb0, q_nb1, q_fb0, q_fb1, q_nor, q_nar, q_for, q_far, q_non, q_nan, q_fon, q_fan, imp_false, false_and, and_false, and_self, false_or, or_false, va_rf, refKind, s_X11_greater]
        refine ⟨fun c => ?_, fun c => ?_⟩
        · have := J hm1
          rw [mxF, if_pos c] at this
          exact this
        · have := J hm1
          rw [mxF, if_neg c] at this
          exact this
      simp only [c_push, c_null, c_iload, c_aload, c_istore, c_astore, c_iinc, c_iadd, c_isub, c_imul, c_iand, c_ineg, c_dup, c_dup2, c_pop, c_ifnull, c_ifnonnull, c_get, c_put, c_iald, c_zald, c_iast, c_zast, c_aald, c_aast, c_alen, c_new, c_newa, c_newq, c_mna, c_oinit, c_max, c_copy, c_iret, c_zret, c_aret, c_vret, q_do, q_rc, c_ifeq, c_ifne, c_iflt, c_ifge, c_ifgt, c_ifle, c_iceq, c_icne, c_iclt, c_icge, c_icgt, c_icle, c_call0, c_call1, c_call2, c_call3, c_call4, c_call5, c_call6, c_call7, q_L0, List.map_cons, List.map_nil, List.replicate, List.cons_append, List.nil_append, List.append_nil, List.length_cons, List.length_nil, List.length_set, Nat.reduceSub, Nat.reduceAdd, Nat.reduceLT, Nat.reduceLeDiff, Nat.zero_add, Nat.add_zero, Nat.sub_zero, Nat.sub_self, List.getElem?_cons_zero, List.getElem?_cons_succ, List.set_cons_zero, List.set_cons_succ, Option.toList_some, Option.toList_none, List.sum_cons, List.sum_nil, true_and, and_true, true_or, or_true, Nat.le_refl, Nat.zero_le, Value.category, Fin.isValue, Fin.val_zero, Fin.val_one, Fin.val_two, Fin.reduceFinMk, q_10, q_01, not_false_eq_true, not_true_eq_false, forall_const, true_implies, false_implies, implies_true, q_ni, q_fi, q_nb0, q_nb1, q_fb0, q_fb1, q_nor, q_nar, q_for, q_far, q_non, q_nan, q_fon, q_fan, imp_false, false_and, and_false, and_self, false_or, or_false, va_rf, refKind, k_X11_endAt_45, k_X11_endAt_109, k_X11_endAt_129, k_X11_endAt_133, hm.rd, vpi6, vpi20, hw, hwn]
      rw [← ez]
      have E := cl2 (nI na) (nI i) na i rfl rfl (by omega) (by omega)
      rw [E.1, clN (by omega)]
      refine ⟨fun c => ?_, fun c => ?_⟩
      · have e : i = na := by omega
        subst e; exact h1 _ hm
      · have hlt : i < na := by omega
        have J152' : ¬ (g 13 wn < g 6 i ∧ g 6 i ≤ k ∧ (g 9 i = 2 ∨ g 9 i = 1 ∧ g 6 i ≤ (endF g wn k t na i).1)) → ∀ d1, k_X11_endAt_152 post K [some (.ref mr), some (.int w), some (.int k), some (.int t), f0, some (.int (endF g wn k t na i).1), some (.int (nI i)), d1] [] σ' cr sr := fun hc d1 => by
          have := J152 hlt σ' d1
          rw [endF, if_neg hc] at this
          exact this hm
        replace J134 := J134 hlt
        have hlo : 0 ≤ nI i := nI_low (by omega)
        have hhi : nI i < 6 := nI_ltN (N := 6) (by omega)
        clear hK J152 h1 hm E
        grind (splits := 40)
  · exact h.elim)
