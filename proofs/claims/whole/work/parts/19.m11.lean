-- pair
abbrev PWg (g : Nat → Nat → Int32) (a b : Nat) (k : Nat) : Option (Nat × Nat) := PW (likB g a b) (lmN g a) (lmN g b) 0 0 (RNg g a b 0 0) k
def pairF (o : Option (Nat × Nat)) (v : Int32) : Int32 := match o with
  | some x => if v = 0 then nI x.1 else nI x.2
  | none => -1
def F_pair (z : Nat → Int32) (g : Nat → Nat → Int32) (a b k v : Int32) : Int32 := if isW z a ∧ isW z b ∧ 0 ≤ k ∧ 0 ≤ v ∧ v ≤ 1 then pairF (PWg g a.toNatClampNeg b.toNatClampNeg k.toNatClampNeg) v else -2
def s_X11_pair : q_Sp := fun av σ post => match av with
  | [.ref mr, .int a, .int b, .int k, .int v] => ∃ ad z g, mOK σ mr ad z g ∧ I1 z ∧ LM z g ∧ LV z g ∧ ∀ σ', mOK σ' mr ad z g → post (some (.int (F_pair z g a b k v))) σ'
  | _ => False
theorem w9_107 : (.code yX11_placeFor cX11_placeFor 7 (some .int) : Cond) ∈ lw_tbl := by decide +kernel
theorem w9_108 : (.methodLink RX11 178 yX11_placeFor : Cond) ∈ lw_tbl := by decide +kernel
theorem w9_109 : (.instanceMethod yX11_placeFor : Cond) ∈ lw_tbl := by decide +kernel
theorem w9_110 : (.selects RX11 yX11_placeFor yX11_placeFor : Cond) ∈ lw_tbl := by decide +kernel
def rm_X11_pair : Room := { frames := 2, cells := 0, slots := 0, locals := 51 }
def k_X11_pair_30 (post : Option Value → q_S → Prop) (K : Nat → q_K) : q_K := (c_push (-2) (c_iret post))
def k_X11_pair_33 (post : Option Value → q_S → Prop) (K : Nat → q_K) : q_K := (c_aload 0 (c_iload 1 (c_iload 2 (c_call3 (some 11) s_X11_layRest 0 0 (c_push 0 (c_istore 5 (c_push 0 (c_istore 6 (c_aload 0 (c_get 11 34 (c_push 0 (c_iald (c_istore 7 (c_iload 3 (c_iload 7 (c_iclt (c_push 0 (c_istore 8 (K 64))) (c_push (-1) (c_iret post))))))))))))))))))
def k_X11_pair_0 (post : Option Value → q_S → Prop) (K : Nat → q_K) : q_K := (c_aload 0 (c_iload 1 (c_call2 (some 11) s_X11_isWork 0 0 (c_ifeq (k_X11_pair_30 post K) (c_aload 0 (c_iload 2 (c_call2 (some 11) s_X11_isWork 0 0 (c_ifeq (k_X11_pair_30 post K) (c_iload 3 (c_iflt (k_X11_pair_30 post K) (c_iload 4 (c_push 0 (c_push 1 (c_call3 none s_X11_in 0 0 (c_ifne (k_X11_pair_33 post K) (k_X11_pair_30 post K))))))))))))))))
def k_X11_pair_94 (post : Option Value → q_S → Prop) (K : Nat → q_K) : q_K := (c_aload 0 (c_iload 1 (c_iload 5 (c_iload 2 (c_iload 6 (c_iload 7 (c_push 1 (c_isub (c_call6 (some 11) s_X11_placeFor 0 0 (c_push 1 (c_iadd (c_istore 6 (c_iinc 5 1 (c_iinc 7 (-1) (c_iinc 8 1 (K 64))))))))))))))))
def k_X11_pair_140 (post : Option Value → q_S → Prop) (K : Nat → q_K) : q_K := (c_iret post)
def k_X11_pair_64 (post : Option Value → q_S → Prop) (K : Nat → q_K) : q_K := (c_iload 8 (c_iload 3 (c_icgt (c_iload 4 (c_ifne (c_iload 6 (c_push 1 (c_isub (k_X11_pair_140 post K)))) (c_iload 5 (c_push 1 (c_isub (k_X11_pair_140 post K)))))) (K 70))))
def k_X11_pair_70 (post : Option Value → q_S → Prop) (K : Nat → q_K) : q_K := (c_aload 0 (c_iload 1 (c_iload 5 (c_iload 2 (c_iload 6 (c_iload 7 (c_push 1 (c_isub (c_call6 (some 11) s_X11_placeFor 0 0 (c_push (-1) (c_icne (k_X11_pair_94 post K) (c_iinc 5 1 (K 70)))))))))))))
set_option maxRecDepth 100000 in
theorem v_X11_pair_30 {p : Program} {l : Launch} {e : Env} {s : State} {m : MethodId} {args : Array Value} {below : List Frame} {meth : Method} {c : Code} {D : va_G} {A : Nat → Prop} {post : Option Value → q_S → Prop} {K : Nat → q_K} (C : q_C p s m args meth c cX11_pair 9 RX11 "pair" (some .int) A) (hK : ∀ h ∈ ([64, 70] : List Nat), q_V p l e rm_X11_pair s m args below meth c D A 9 (MQ below (q_Qc D A post) args s rm_X11_pair.cells rm_X11_pair.slots A) h (K h)) : q_V p l e rm_X11_pair s m args below meth c D A 9 (MQ below (q_Qc D A post) args s rm_X11_pair.cells rm_X11_pair.slots A) 30 (k_X11_pair_30 post K) := by
  unfold k_X11_pair_30
  refine q_bipush C (by decide +kernel : decode cX11_pair 30 = .ok (.bipush (-2), 2)) (by decide) ?_
  exact q_iret C rfl (by decide +kernel : decode cX11_pair 32 = .ok (.ireturn, 1))
set_option maxRecDepth 100000 in
theorem v_X11_pair_33 {p : Program} {l : Launch} {e : Env} {s : State} {m : MethodId} {args : Array Value} {below : List Frame} {meth : Method} {c : Code} {D : va_G} {A : Nat → Prop} {post : Option Value → q_S → Prop} {K : Nat → q_K} (C : q_C p s m args meth c cX11_pair 9 RX11 "pair" (some .int) A) (hK : ∀ h ∈ ([64, 70] : List Nat), q_V p l e rm_X11_pair s m args below meth c D A 9 (MQ below (q_Qc D A post) args s rm_X11_pair.cells rm_X11_pair.slots A) h (K h)) : q_V p l e rm_X11_pair s m args below meth c D A 9 (MQ below (q_Qc D A post) args s rm_X11_pair.cells rm_X11_pair.slots A) 33 (k_X11_pair_33 post K) := by
  unfold k_X11_pair_33
  refine q_aload_n C (by decide +kernel : decode cX11_pair 33 = .ok (.aload_n 0, 1)) ?_
  refine q_iload_n C (by decide +kernel : decode cX11_pair 34 = .ok (.iload_n 1, 1)) ?_
  refine q_iload_n C (by decide +kernel : decode cX11_pair 35 = .ok (.iload_n 2, 1)) ?_
  refine q_call3 C (q_coV C (np := 2) (ci := 11) (rc := (RX11, TX11, 35)) (t_X11_layRest l) w9_103 rfl rfl w9_104 w9_105 w9_106 w9_6 (by decide +kernel) (by decide +kernel : decode cX11_pair 36 = .ok (.invokevirtual 174, 3)) (by decide)) ?_
  refine q_iconst C (by decide +kernel : decode cX11_pair 39 = .ok (.iconst 0, 1)) (by decide) ?_
  refine q_istore C (by decide +kernel : decode cX11_pair 40 = .ok (.istore 5, 2)) ?_
  refine q_iconst C (by decide +kernel : decode cX11_pair 42 = .ok (.iconst 0, 1)) (by decide) ?_
  refine q_istore C (by decide +kernel : decode cX11_pair 43 = .ok (.istore 6, 2)) ?_
  refine q_aload_n C (by decide +kernel : decode cX11_pair 45 = .ok (.aload_n 0, 1)) ?_
  refine q_get C (ci := 11) (j := 34) (C0 := RX11) (T := TX11) (N := 35) rfl iX11 giX11 (by decide) w9_102 (by decide +kernel : decode cX11_pair 46 = .ok (.getfield 89, 3)) ?_
  refine q_iconst C (by decide +kernel : decode cX11_pair 49 = .ok (.iconst 0, 1)) (by decide) ?_
  refine q_iald C (by decide +kernel : decode cX11_pair 50 = .ok (.iaload, 1)) ?_
  refine q_istore C (by decide +kernel : decode cX11_pair 51 = .ok (.istore 7, 2)) ?_
  refine q_iload_n C (by decide +kernel : decode cX11_pair 53 = .ok (.iload_n 3, 1)) ?_
  refine q_iload C (by decide +kernel : decode cX11_pair 54 = .ok (.iload 7, 2)) ?_
  refine q_iclt C (tgt := 61) (by decide +kernel : decode cX11_pair 56 = .ok (.if_icmp .lt 5, 3)) (by decide) ?_ ?_
  · refine q_iconst C (by decide +kernel : decode cX11_pair 61 = .ok (.iconst 0, 1)) (by decide) ?_
    refine q_istore C (by decide +kernel : decode cX11_pair 62 = .ok (.istore 8, 2)) ?_
    exact hK 64 (by decide)
  · refine q_iconst C (by decide +kernel : decode cX11_pair 59 = .ok (.iconst (-1), 1)) (by decide) ?_
    exact q_iret C rfl (by decide +kernel : decode cX11_pair 60 = .ok (.ireturn, 1))
set_option maxRecDepth 100000 in
theorem v_X11_pair_0 {p : Program} {l : Launch} {e : Env} {s : State} {m : MethodId} {args : Array Value} {below : List Frame} {meth : Method} {c : Code} {D : va_G} {A : Nat → Prop} {post : Option Value → q_S → Prop} {K : Nat → q_K} (C : q_C p s m args meth c cX11_pair 9 RX11 "pair" (some .int) A) (hK : ∀ h ∈ ([64, 70] : List Nat), q_V p l e rm_X11_pair s m args below meth c D A 9 (MQ below (q_Qc D A post) args s rm_X11_pair.cells rm_X11_pair.slots A) h (K h)) : q_V p l e rm_X11_pair s m args below meth c D A 9 (MQ below (q_Qc D A post) args s rm_X11_pair.cells rm_X11_pair.slots A) 0 (k_X11_pair_0 post K) := by
  unfold k_X11_pair_0
  refine q_aload_n C (by decide +kernel : decode cX11_pair 0 = .ok (.aload_n 0, 1)) ?_
  refine q_iload_n C (by decide +kernel : decode cX11_pair 1 = .ok (.iload_n 1, 1)) ?_
  refine q_call2 C (q_coV C (np := 1) (ci := 11) (rc := (RX11, TX11, 35)) (t_X11_isWork l) w9_48 rfl rfl w9_49 w9_50 w9_51 w9_6 (by decide +kernel) (by decide +kernel : decode cX11_pair 2 = .ok (.invokevirtual 140, 3)) (by decide)) ?_
  refine q_ifeq C (tgt := 30) (by decide +kernel : decode cX11_pair 5 = .ok (.ifCond .eq 25, 3)) (by decide) ?_ ?_
  · exact v_X11_pair_30 C hK
  · refine q_aload_n C (by decide +kernel : decode cX11_pair 8 = .ok (.aload_n 0, 1)) ?_
    refine q_iload_n C (by decide +kernel : decode cX11_pair 9 = .ok (.iload_n 2, 1)) ?_
    refine q_call2 C (q_coV C (np := 1) (ci := 11) (rc := (RX11, TX11, 35)) (t_X11_isWork l) w9_48 rfl rfl w9_49 w9_50 w9_51 w9_6 (by decide +kernel) (by decide +kernel : decode cX11_pair 10 = .ok (.invokevirtual 140, 3)) (by decide)) ?_
    refine q_ifeq C (tgt := 30) (by decide +kernel : decode cX11_pair 13 = .ok (.ifCond .eq 17, 3)) (by decide) ?_ ?_
    · exact v_X11_pair_30 C hK
    · refine q_iload_n C (by decide +kernel : decode cX11_pair 16 = .ok (.iload_n 3, 1)) ?_
      refine q_iflt C (tgt := 30) (by decide +kernel : decode cX11_pair 17 = .ok (.ifCond .lt 13, 3)) (by decide) ?_ ?_
      · exact v_X11_pair_30 C hK
      · refine q_iload C (by decide +kernel : decode cX11_pair 20 = .ok (.iload 4, 2)) ?_
        refine q_iconst C (by decide +kernel : decode cX11_pair 22 = .ok (.iconst 0, 1)) (by decide) ?_
        refine q_iconst C (by decide +kernel : decode cX11_pair 23 = .ok (.iconst 1, 1)) (by decide) ?_
        refine q_call3 C (q_coS C (np := 3) (t_X11_in l) w9_5 w9_8 w9_7 w9_6 (by decide +kernel) (by decide +kernel : decode cX11_pair 24 = .ok (.invokestatic 92, 3)) (by decide)) ?_
        refine q_ifne C (tgt := 33) (by decide +kernel : decode cX11_pair 27 = .ok (.ifCond .ne 6, 3)) (by decide) ?_ ?_
        · exact v_X11_pair_33 C hK
        · exact v_X11_pair_30 C hK
set_option maxRecDepth 100000 in
theorem v_X11_pair_94 {p : Program} {l : Launch} {e : Env} {s : State} {m : MethodId} {args : Array Value} {below : List Frame} {meth : Method} {c : Code} {D : va_G} {A : Nat → Prop} {post : Option Value → q_S → Prop} {K : Nat → q_K} (C : q_C p s m args meth c cX11_pair 9 RX11 "pair" (some .int) A) (hK : ∀ h ∈ ([64, 70] : List Nat), q_V p l e rm_X11_pair s m args below meth c D A 9 (MQ below (q_Qc D A post) args s rm_X11_pair.cells rm_X11_pair.slots A) h (K h)) : q_V p l e rm_X11_pair s m args below meth c D A 9 (MQ below (q_Qc D A post) args s rm_X11_pair.cells rm_X11_pair.slots A) 94 (k_X11_pair_94 post K) := by
  unfold k_X11_pair_94
  refine q_aload_n C (by decide +kernel : decode cX11_pair 94 = .ok (.aload_n 0, 1)) ?_
  refine q_iload_n C (by decide +kernel : decode cX11_pair 95 = .ok (.iload_n 1, 1)) ?_
  refine q_iload C (by decide +kernel : decode cX11_pair 96 = .ok (.iload 5, 2)) ?_
  refine q_iload_n C (by decide +kernel : decode cX11_pair 98 = .ok (.iload_n 2, 1)) ?_
  refine q_iload C (by decide +kernel : decode cX11_pair 99 = .ok (.iload 6, 2)) ?_
  refine q_iload C (by decide +kernel : decode cX11_pair 101 = .ok (.iload 7, 2)) ?_
  refine q_iconst C (by decide +kernel : decode cX11_pair 103 = .ok (.iconst 1, 1)) (by decide) ?_
  refine q_isub C (by decide +kernel : decode cX11_pair 104 = .ok (.isub, 1)) ?_
  refine q_call6 C (q_coV C (np := 5) (ci := 11) (rc := (RX11, TX11, 35)) (t_X11_placeFor l) w9_107 rfl rfl w9_108 w9_109 w9_110 w9_6 (by decide +kernel) (by decide +kernel : decode cX11_pair 105 = .ok (.invokevirtual 178, 3)) (by decide)) ?_
  refine q_iconst C (by decide +kernel : decode cX11_pair 108 = .ok (.iconst 1, 1)) (by decide) ?_
  refine q_iadd C (by decide +kernel : decode cX11_pair 109 = .ok (.iadd, 1)) ?_
  refine q_istore C (by decide +kernel : decode cX11_pair 110 = .ok (.istore 6, 2)) ?_
  refine q_iinc C (by decide +kernel : decode cX11_pair 112 = .ok (.iinc 5 1, 3)) (by decide) ?_
  refine q_iinc C (by decide +kernel : decode cX11_pair 115 = .ok (.iinc 7 (-1), 3)) (by decide) ?_
  refine q_iinc C (by decide +kernel : decode cX11_pair 118 = .ok (.iinc 8 1, 3)) (by decide) ?_
  refine q_goto C (tgt := 64) (by decide +kernel : decode cX11_pair 121 = .ok (.goto (-57), 3)) (by decide) ?_
  exact hK 64 (by decide)
set_option maxRecDepth 100000 in
theorem v_X11_pair_140 {p : Program} {l : Launch} {e : Env} {s : State} {m : MethodId} {args : Array Value} {below : List Frame} {meth : Method} {c : Code} {D : va_G} {A : Nat → Prop} {post : Option Value → q_S → Prop} {K : Nat → q_K} (C : q_C p s m args meth c cX11_pair 9 RX11 "pair" (some .int) A) (hK : ∀ h ∈ ([64, 70] : List Nat), q_V p l e rm_X11_pair s m args below meth c D A 9 (MQ below (q_Qc D A post) args s rm_X11_pair.cells rm_X11_pair.slots A) h (K h)) : q_V p l e rm_X11_pair s m args below meth c D A 9 (MQ below (q_Qc D A post) args s rm_X11_pair.cells rm_X11_pair.slots A) 140 (k_X11_pair_140 post K) := by
  unfold k_X11_pair_140
  exact q_iret C rfl (by decide +kernel : decode cX11_pair 140 = .ok (.ireturn, 1))
set_option maxRecDepth 100000 in
theorem v_X11_pair_64 {p : Program} {l : Launch} {e : Env} {s : State} {m : MethodId} {args : Array Value} {below : List Frame} {meth : Method} {c : Code} {D : va_G} {A : Nat → Prop} {post : Option Value → q_S → Prop} {K : Nat → q_K} (C : q_C p s m args meth c cX11_pair 9 RX11 "pair" (some .int) A) (hK : ∀ h ∈ ([64, 70] : List Nat), q_V p l e rm_X11_pair s m args below meth c D A 9 (MQ below (q_Qc D A post) args s rm_X11_pair.cells rm_X11_pair.slots A) h (K h)) : q_V p l e rm_X11_pair s m args below meth c D A 9 (MQ below (q_Qc D A post) args s rm_X11_pair.cells rm_X11_pair.slots A) 64 (k_X11_pair_64 post K) := by
  unfold k_X11_pair_64
  refine q_iload C (by decide +kernel : decode cX11_pair 64 = .ok (.iload 8, 2)) ?_
  refine q_iload_n C (by decide +kernel : decode cX11_pair 66 = .ok (.iload_n 3, 1)) ?_
  refine q_icgt C (tgt := 124) (by decide +kernel : decode cX11_pair 67 = .ok (.if_icmp .gt 57, 3)) (by decide) ?_ ?_
  · refine q_iload C (by decide +kernel : decode cX11_pair 124 = .ok (.iload 4, 2)) ?_
    refine q_ifne C (tgt := 136) (by decide +kernel : decode cX11_pair 126 = .ok (.ifCond .ne 10, 3)) (by decide) ?_ ?_
    · refine q_iload C (by decide +kernel : decode cX11_pair 136 = .ok (.iload 6, 2)) ?_
      refine q_iconst C (by decide +kernel : decode cX11_pair 138 = .ok (.iconst 1, 1)) (by decide) ?_
      refine q_isub C (by decide +kernel : decode cX11_pair 139 = .ok (.isub, 1)) ?_
      exact v_X11_pair_140 C hK
    · refine q_iload C (by decide +kernel : decode cX11_pair 129 = .ok (.iload 5, 2)) ?_
      refine q_iconst C (by decide +kernel : decode cX11_pair 131 = .ok (.iconst 1, 1)) (by decide) ?_
      refine q_isub C (by decide +kernel : decode cX11_pair 132 = .ok (.isub, 1)) ?_
      refine q_goto C (tgt := 140) (by decide +kernel : decode cX11_pair 133 = .ok (.goto 7, 3)) (by decide) ?_
      exact v_X11_pair_140 C hK
  · exact hK 70 (by decide)
set_option maxRecDepth 100000 in
theorem v_X11_pair_70 {p : Program} {l : Launch} {e : Env} {s : State} {m : MethodId} {args : Array Value} {below : List Frame} {meth : Method} {c : Code} {D : va_G} {A : Nat → Prop} {post : Option Value → q_S → Prop} {K : Nat → q_K} (C : q_C p s m args meth c cX11_pair 9 RX11 "pair" (some .int) A) (hK : ∀ h ∈ ([64, 70] : List Nat), q_V p l e rm_X11_pair s m args below meth c D A 9 (MQ below (q_Qc D A post) args s rm_X11_pair.cells rm_X11_pair.slots A) h (K h)) : q_V p l e rm_X11_pair s m args below meth c D A 9 (MQ below (q_Qc D A post) args s rm_X11_pair.cells rm_X11_pair.slots A) 70 (k_X11_pair_70 post K) := by
  unfold k_X11_pair_70
  refine q_aload_n C (by decide +kernel : decode cX11_pair 70 = .ok (.aload_n 0, 1)) ?_
  refine q_iload_n C (by decide +kernel : decode cX11_pair 71 = .ok (.iload_n 1, 1)) ?_
  refine q_iload C (by decide +kernel : decode cX11_pair 72 = .ok (.iload 5, 2)) ?_
  refine q_iload_n C (by decide +kernel : decode cX11_pair 74 = .ok (.iload_n 2, 1)) ?_
  refine q_iload C (by decide +kernel : decode cX11_pair 75 = .ok (.iload 6, 2)) ?_
  refine q_iload C (by decide +kernel : decode cX11_pair 77 = .ok (.iload 7, 2)) ?_
  refine q_iconst C (by decide +kernel : decode cX11_pair 79 = .ok (.iconst 1, 1)) (by decide) ?_
  refine q_isub C (by decide +kernel : decode cX11_pair 80 = .ok (.isub, 1)) ?_
  refine q_call6 C (q_coV C (np := 5) (ci := 11) (rc := (RX11, TX11, 35)) (t_X11_placeFor l) w9_107 rfl rfl w9_108 w9_109 w9_110 w9_6 (by decide +kernel) (by decide +kernel : decode cX11_pair 81 = .ok (.invokevirtual 178, 3)) (by decide)) ?_
  refine q_iconst C (by decide +kernel : decode cX11_pair 84 = .ok (.iconst (-1), 1)) (by decide) ?_
  refine q_icne C (tgt := 94) (by decide +kernel : decode cX11_pair 85 = .ok (.if_icmp .ne 9, 3)) (by decide) ?_ ?_
  · exact v_X11_pair_94 C hK
  · refine q_iinc C (by decide +kernel : decode cX11_pair 88 = .ok (.iinc 5 1, 3)) (by decide) ?_
    refine q_goto C (tgt := 70) (by decide +kernel : decode cX11_pair 91 = .ok (.goto (-21), 3)) (by decide) ?_
    exact hK 70 (by decide)
theorem u_X11_pair (l : Launch) {sp : q_Sp} (H : ∀ (av : List Value) (σ : q_S) (post : Option Value → q_S → Prop), sp av σ post → ∃ Inv : Nat → Nat → q_K, (∀ K : Nat → q_K, (∀ (h n : Nat) (L : List (Option Value)) (st : List Value) (σ : q_S) (cr sr : Nat), Inv h n L st σ cr sr → K h L st σ cr sr) → k_X11_pair_0 post K (q_L0 av 9) [] σ 0 0) ∧ (∀ (K : Nat → q_K) (n : Nat), (∀ (h m : Nat) (L : List (Option Value)) (st : List Value) (σ : q_S) (cr sr : Nat), m < n → Inv h m L st σ cr sr → K h L st σ cr sr) → ∀ (L : List (Option Value)) (st : List Value) (σ : q_S) (cr sr : Nat), Inv 64 n L st σ cr sr → k_X11_pair_64 post K L st σ cr sr) ∧ (∀ (K : Nat → q_K) (n : Nat), (∀ (h m : Nat) (L : List (Option Value)) (st : List Value) (σ : q_S) (cr sr : Nat), m < n → Inv h m L st σ cr sr → K h L st σ cr sr) → ∀ (L : List (Option Value)) (st : List Value) (σ : q_S) (cr sr : Nat), Inv 70 n L st σ cr sr → k_X11_pair_70 post K L st σ cr sr) ∧ av.length ≤ 9 ∧ ∀ v ∈ av, v.category = 1) : q_Ct l yX11_pair cX11_pair 9 (some .int) rm_X11_pair sp := by
  refine q_met (by decide) ?_
  intro D A p e s m args below meth c σ av post C hsp
  obtain ⟨Inv, h1, hh64, hh70, h2, h3⟩ := H av σ post hsp
  have hV := q_loops (p := p) (l := l) (e := e) (R := rm_X11_pair) (s := s) (m := m) (args := args) (below := below) (meth := meth) (c := c) (D := D) (A := A) (nL := 9) (Q := MQ below (q_Qc D A post) args s rm_X11_pair.cells rm_X11_pair.slots A) [64, 70] (fun h => if h = 64 then k_X11_pair_64 post else k_X11_pair_70 post) (fun K hK h hh => ?_) Inv (fun n h hh => ?_)
  · exact ⟨_, v_X11_pair_0 C hV, h1 _ (fun h n L st σ cr sr hi => ⟨n, hi⟩), h2, h3⟩
  · rcases (by simpa using hh : h = 64 ∨ h = 70) with rfl | rfl
    · exact v_X11_pair_64 C hK
    · exact v_X11_pair_70 C hK
  · rcases (by simpa using hh : h = 64 ∨ h = 70) with rfl | rfl
    · exact hh64 (fun h L st σ cr sr => ∃ m : Nat, m < n ∧ Inv h m L st σ cr sr) n (fun h m L st σ cr sr hm hi => ⟨m, hm, hi⟩)
    · exact hh70 (fun h L st σ cr sr => ∃ m : Nat, m < n ∧ Inv h m L st σ cr sr) n (fun h m L st σ cr sr hm hi => ⟨m, hm, hi⟩)
theorem t_X11_pair (l : Launch) : q_Ct l yX11_pair cX11_pair 9 (some .int) rm_X11_pair s_X11_pair := u_X11_pair l (by
  intro av σ post h
  unfold s_X11_pair at h
  split at h
  · next mr a b k v =>
    obtain ⟨ad, z, g, ⟨gp, r, hm⟩, hI, hLM, hLV, h1⟩ := h
    have hI0 := hI
    unfold I1 at hI
    unfold F_pair at h1
    by_cases hc : isW z a ∧ isW z b ∧ 0 ≤ k ∧ 0 ≤ v ∧ v ≤ 1
    · rw [if_pos hc] at h1
      obtain ⟨ha, hb, hk0, hv⟩ := hc
      have ha2 : 0 ≤ a ∧ a < 20 := ⟨ha.1, by grind⟩
      have hb2 : 0 ≤ b ∧ b < 20 := ⟨hb.1, by grind⟩
      have hla := hLM.at ha.1 ha.2 ha2.2
      have hlb := hLM.at hb.1 hb.2 hb2.2
      have hA20 : lmN g a.toNatClampNeg ≤ 20 := clamp_le 20 hla.1 hla.2
      have hB20 : lmN g b.toNatClampNeg ≤ 20 := clamp_le 20 hlb.1 hlb.2
      have ek := nI_self hk0
      have hkb : k.toNatClampNeg < 2147483648 := by
        obtain ⟨j, hj, e⟩ := nI_of (x := k) (by grind)
        rw [e, nI_clamp hj]; exact hj
      generalize hae : a.toNatClampNeg = an at *
      generalize hbe : b.toNatClampNeg = bn at *
      generalize hke : k.toNatClampNeg = kn at *
      have hRle : ∀ i j, RNg g an bn i j ≤ lmN g an - i := fun i j => RN_le (likB g an bn) (lmN g an) (lmN g bn) _ i j (Nat.le_refl _)
      have hR20 := hRle 0 0
      subst ek
      refine ⟨fun h n L st σ' cr sr => ∃ (r' : Nat → Int32) (cn iN sN m : Nat), mOKx σ' mr ad z g gp r' ∧ tabOK r' g an bn (fun _ _ => True) ∧ st = [] ∧ kn < RNg g an bn 0 0 ∧ iN ≤ lmN g an + 1 ∧ sN ≤ lmN g bn ∧ m ≤ 20 ∧ L = [some (.ref mr), some (.int a), some (.int b), some (.int (nI kn)), some (.int v), some (.int (nI iN)), some (.int (nI sN)), some (.int (nI m)), some (.int (nI cn))] ∧
        ((h = 64 ∧ n = (kn + 1 - cn) * 100 + 50 ∧ ((cn ≤ kn ∧ RNg g an bn iN sN = m ∧ m + cn = RNg g an bn 0 0 ∧ PW (likB g an bn) (lmN g an) (lmN g bn) iN sN m (kn - cn) = PWg g an bn kn) ∨ (cn = kn + 1 ∧ 1 ≤ iN ∧ 1 ≤ sN ∧ PWg g an bn kn = some (iN - 1, sN - 1)))) ∨
         (h = 70 ∧ n = (kn + 1 - cn) * 100 + (lmN g an + 1 - iN) ∧ cn ≤ kn ∧ RNg g an bn iN sN = m ∧ m + cn = RNg g an bn 0 0 ∧ PW (likB g an bn) (lmN g an) (lmN g bn) iN sN m (kn - cn) = PWg g an bn kn)), ?_, ?_, ?_, by simp, by simp [Value.category]⟩
      · intro K hK
        have J33 : k_X11_pair_33 post K [some (.ref mr), some (.int a), some (.int b), some (.int (nI kn)), some (.int v), none, none, none, none] [] σ 0 0 := by
          simp only [c_push, c_null, c_iload, c_aload, c_istore, c_astore, c_iinc, c_iadd, c_isub, c_imul, c_iand, c_ineg, c_dup, c_dup2, c_pop, c_ifnull, c_ifnonnull, c_get, c_put, c_iald, c_zald, c_iast, c_zast, c_aald, c_aast, c_alen, c_new, c_newa, c_newq, c_mna, c_oinit, c_max, c_copy, c_iret, c_zret, c_aret, c_vret, q_do, q_rc, c_ifeq, c_ifne, c_iflt, c_ifge, c_ifgt, c_ifle, c_iceq, c_icne, c_iclt, c_icge, c_icgt, c_icle, c_call0, c_call1, c_call2, c_call3, c_call4, c_call5, c_call6, c_call7, q_L0, List.map_cons, List.map_nil, List.replicate, List.cons_append, List.nil_append, List.append_nil, List.length_cons, List.length_nil, List.length_set, Nat.reduceSub, Nat.reduceAdd, Nat.reduceLT, Nat.reduceLeDiff, Nat.zero_add, Nat.add_zero, Nat.sub_zero, Nat.sub_self, List.getElem?_cons_zero, List.getElem?_cons_succ, List.set_cons_zero, List.set_cons_succ, Option.toList_some, Option.toList_none, List.sum_cons, List.sum_nil, true_and, and_true, true_or, or_true, Nat.le_refl, Nat.zero_le, Value.category, Fin.isValue, Fin.val_zero, Fin.val_one, Fin.val_two, Fin.reduceFinMk, q_10, q_01, not_false_eq_true, not_true_eq_false, forall_const, true_implies, false_implies, implies_true, q_ni, q_fi, q_nb0, q_nb1, q_fb0, q_fb1, q_nor, q_nar, q_for, q_far, q_non, q_nan, q_fon, q_fan, imp_false, false_and, and_false, and_self, false_or, or_false, va_rf, refKind, k_X11_pair_33, hm.rd]
          refine ⟨ad, z, g, gp, r, hm, hI0, ha, hb, hLM, hLV, fun σ' r' hm' hT => ?_⟩
          rw [hae, hbe] at hT
          have t0 := hT 0 0 (Nat.zero_le _) (Nat.zero_le _) trivial
          have e0 : (0 : Int32).toNatClampNeg = 0 := rfl
          simp only [c_push, c_null, c_iload, c_aload, c_istore, c_astore, c_iinc, c_iadd, c_isub, c_imul, c_iand, c_ineg, c_dup, c_dup2, c_pop, c_ifnull, c_ifnonnull, c_get, c_put, c_iald, c_zald, c_iast, c_zast, c_aald, c_aast, c_alen, c_new, c_newa, c_newq, c_mna, c_oinit, c_max, c_copy, c_iret, c_zret, c_aret, c_vret, q_do, q_rc, c_ifeq, c_ifne, c_iflt, c_ifge, c_ifgt, c_ifle, c_iceq, c_icne, c_iclt, c_icge, c_icgt, c_icle, c_call0, c_call1, c_call2, c_call3, c_call4, c_call5, c_call6, c_call7, q_L0, List.map_cons, List.map_nil, List.replicate, List.cons_append, List.nil_append, List.append_nil, List.length_cons, List.length_nil, List.length_set, Nat.reduceSub, Nat.reduceAdd, Nat.reduceLT, Nat.reduceLeDiff, Nat.zero_add, Nat.add_zero, Nat.sub_zero, Nat.sub_self, List.getElem?_cons_zero, List.getElem?_cons_succ, List.set_cons_zero, List.set_cons_succ, Option.toList_some, Option.toList_none, List.sum_cons, List.sum_nil, true_and, and_true, true_or, or_true, Nat.le_refl, Nat.zero_le, Value.category, Fin.isValue, Fin.val_zero, Fin.val_one, Fin.val_two, Fin.reduceFinMk, q_10, q_01, not_false_eq_true, not_true_eq_false, forall_const, true_implies, false_implies, implies_true, q_ni, q_fi, q_nb0, q_nb1, q_fb0, q_fb1, q_nor, q_nar, q_for, q_far, q_non, q_nan, q_fon, q_fan, imp_false, false_and, and_false, and_self, false_or, or_false, va_rf, refKind, hm'.rd, vpi441, e0, t0]
          refine ⟨by decide, ?_⟩
          rw [(cl2 (nI kn) (nI (RNg g an bn 0 0)) _ _ rfl rfl (by omega) (by omega)).2.1]
          refine ⟨fun c => ?_, fun c => ?_⟩
          · exact hK 64 ((kn + 1 - 0) * 100 + 50) _ _ _ _ _ ⟨r', 0, 0, 0, RNg g an bn 0 0, hm', hT, rfl, c, by omega, by omega, by omega, rfl, Or.inl ⟨rfl, rfl, Or.inl ⟨Nat.zero_le _, rfl, rfl, rfl⟩⟩⟩
          · have h2 := h1 _ ⟨gp, r', hm'⟩
            rw [PWg, PW_over _ 0 0 (RNg g an bn 0 0) kn (Nat.le_refl _) rfl (show RNg g an bn 0 0 ≤ kn by omega)] at h2
            exact h2
        clear h1
        have kpos : ¬ nI kn < 0 := nI_pos (by omega)
        simp only [c_push, c_null, c_iload, c_aload, c_istore, c_astore, c_iinc, c_iadd, c_isub, c_imul, c_iand, c_ineg, c_dup, c_dup2, c_pop, c_ifnull, c_ifnonnull, c_get, c_put, c_iald, c_zald, c_iast, c_zast, c_aald, c_aast, c_alen, c_new, c_newa, c_newq, c_mna, c_oinit, c_max, c_copy, c_iret, c_zret, c_aret, c_vret, q_do, q_rc, c_ifeq, c_ifne, c_iflt, c_ifge, c_ifgt, c_ifle, c_iceq, c_icne, c_iclt, c_icge, c_icgt, c_icle, c_call0, c_call1, c_call2, c_call3, c_call4, c_call5, c_call6, c_call7, q_L0, List.map_cons, List.map_nil, List.replicate, List.cons_append, List.nil_append, List.append_nil, List.length_cons, List.length_nil, List.length_set, Nat.reduceSub, Nat.reduceAdd, Nat.reduceLT, Nat.reduceLeDiff, Nat.zero_add, Nat.add_zero, Nat.sub_zero, Nat.sub_self, List.getElem?_cons_zero, List.getElem?_cons_succ, List.set_cons_zero, List.set_cons_succ, Option.toList_some, Option.toList_none, List.sum_cons, List.sum_nil, true_and, and_true, true_or, or_true, Nat.le_refl, Nat.zero_le, Value.category, Fin.isValue, Fin.val_zero, Fin.val_one, Fin.val_two, Fin.reduceFinMk, q_10, q_01, not_false_eq_true, not_true_eq_false, forall_const, true_implies, false_implies, implies_true, q_ni, q_fi, q_nb0, q_nb1, q_fb0, q_fb1, q_nor, q_nar, q_for, q_far, q_non, q_nan, q_fon, q_fan, imp_false, false_and, and_false, and_self, false_or, or_false, va_rf, refKind, k_X11_pair_0, k_X11_pair_30, hm.rd, s_X11_isWork, s_X11_in, s_X10_isWithin, ha, hb, hv, kpos, J33]
        exact hI.2.2.2.1
      · rintro K n hK L st σ' cr sr ⟨r', cn, iN, sN, m, hm', hT, rfl, hkR, hiN, hsN, hm20, rfl, ⟨-, rfl, hcs⟩ | ⟨h9, -⟩⟩
        · simp only [c_push, c_null, c_iload, c_aload, c_istore, c_astore, c_iinc, c_iadd, c_isub, c_imul, c_iand, c_ineg, c_dup, c_dup2, c_pop, c_ifnull, c_ifnonnull, c_get, c_put, c_iald, c_zald, c_iast, c_zast, c_aald, c_aast, c_alen, c_new, c_newa, c_newq, c_mna, c_oinit, c_max, c_copy, c_iret, c_zret, c_aret, c_vret, q_do, q_rc, c_ifeq, c_ifne, c_iflt, c_ifge, c_ifgt, c_ifle, c_iceq, c_icne, c_iclt, c_icge, c_icgt, c_icle, c_call0, c_call1, c_call2, c_call3, c_call4, c_call5, c_call6, c_call7, q_L0, List.map_cons, List.map_nil, List.replicate, List.cons_append, List.nil_append, List.append_nil, List.length_cons, List.length_nil, List.length_set, Nat.reduceSub, Nat.reduceAdd, Nat.reduceLT, Nat.reduceLeDiff, Nat.zero_add, Nat.add_zero, Nat.sub_zero, Nat.sub_self, List.getElem?_cons_zero, List.getElem?_cons_succ, List.set_cons_zero, List.set_cons_succ, Option.toList_some, Option.toList_none, List.sum_cons, List.sum_nil, true_and, and_true, true_or, or_true, Nat.le_refl, Nat.zero_le, Value.category, Fin.isValue, Fin.val_zero, Fin.val_one, Fin.val_two, Fin.reduceFinMk, q_10, q_01, not_false_eq_true, not_true_eq_false, forall_const, true_implies, false_implies, implies_true, q_ni, q_fi, q_nb0, q_nb1, q_fb0, q_fb1, q_nor, q_nar, q_for, q_far, q_non, q_nan, q_fon, q_fan, imp_false, false_and, and_false, and_self, false_or, or_false, va_rf, refKind, k_X11_pair_64, k_X11_pair_140]
          rw [(cl2 (nI kn) (nI cn) _ _ rfl rfl (by omega) (by omega)).2.1]
          refine ⟨fun c => ?_, fun c => ?_⟩
          · rcases hcs with ⟨q1, -⟩ | ⟨q1, q2, q3, q4⟩
            · omega
            · have h2 := h1 _ ⟨gp, r', hm'⟩
              rw [q4] at h2
              unfold pairF at h2
              simp only at h2
              have e1 : nI iN - 1 = nI (iN - 1) := by rw [show iN = iN - 1 + 1 by omega, nI_pred]; rfl
              have e2 : nI sN - 1 = nI (sN - 1) := by rw [show sN = sN - 1 + 1 by omega, nI_pred]; rfl
              rw [e1, e2]
              refine ⟨fun c9 => ?_, fun c9 => ?_⟩
              · rw [if_neg c9] at h2; exact h2
              · rw [if_pos c9] at h2; exact h2
          · rcases hcs with ⟨q1, q2, q3, q4⟩ | ⟨q1, -⟩
            · exact hK 70 ((kn + 1 - cn) * 100 + (lmN g an + 1 - iN)) _ _ _ _ _ (by omega) ⟨r', cn, iN, sN, m, hm', hT, rfl, hkR, hiN, hsN, hm20, rfl, Or.inr ⟨rfl, rfl, q1, q2, q3, q4⟩⟩
            · omega
        · exact absurd h9 (by decide)
      · rintro K n hK L st σ' cr sr ⟨r', cn, iN, sN, m, hm', hT, rfl, hkR, hiN, hsN, hm20, rfl, ⟨h9, -⟩ | ⟨-, rfl, q1, q2, q3, q4⟩⟩
        · exact absurd h9 (by decide)
        · have hin : iN < lmN g an ∧ sN < lmN g bn := by
            by_cases c : iN < lmN g an ∧ sN < lmN g bn
            · exact c
            · have : RNg g an bn iN sN = 0 := RN_out c
              omega
          have e1 : nI m - 1 = nI (m - 1) := by rw [show m = m - 1 + 1 by omega, nI_pred]; rfl
          have J94 : ∀ j, sN ≤ j → j < lmN g bn → likB g an bn iN j = true → m - 1 ≤ RNg g an bn (iN + 1) (j + 1) → (∀ j', sN ≤ j' → j' < j → ¬ (likB g an bn iN j' = true ∧ m - 1 ≤ RNg g an bn (iN + 1) (j' + 1))) → k_X11_pair_94 post K [some (.ref mr), some (.int a), some (.int b), some (.int (nI kn)), some (.int v), some (.int (nI iN)), some (.int (nI sN)), some (.int (nI m)), some (.int (nI cn))] [] σ' cr sr := fun j p1 p2 p3 p4 p5 => by
            simp only [c_push, c_null, c_iload, c_aload, c_istore, c_astore, c_iinc, c_iadd, c_isub, c_imul, c_iand, c_ineg, c_dup, c_dup2, c_pop, c_ifnull, c_ifnonnull, c_get, c_put, c_iald, c_zald, c_iast, c_zast, c_aald, c_aast, c_alen, c_new, c_newa, c_newq, c_mna, c_oinit, c_max, c_copy, c_iret, c_zret, c_aret, c_vret, q_do, q_rc, c_ifeq, c_ifne, c_iflt, c_ifge, c_ifgt, c_ifle, c_iceq, c_icne, c_iclt, c_icge, c_icgt, c_icle, c_call0, c_call1, c_call2, c_call3, c_call4, c_call5, c_call6, c_call7, q_L0, List.map_cons, List.map_nil, List.replicate, List.cons_append, List.nil_append, List.append_nil, List.length_cons, List.length_nil, List.length_set, Nat.reduceSub, Nat.reduceAdd, Nat.reduceLT, Nat.reduceLeDiff, Nat.zero_add, Nat.add_zero, Nat.sub_zero, Nat.sub_self, List.getElem?_cons_zero, List.getElem?_cons_succ, List.set_cons_zero, List.set_cons_succ, Option.toList_some, Option.toList_none, List.sum_cons, List.sum_nil, true_and, and_true, true_or, or_true, Nat.le_refl, Nat.zero_le, Value.category, Fin.isValue, Fin.val_zero, Fin.val_one, Fin.val_two, Fin.reduceFinMk, q_10, q_01, not_false_eq_true, not_true_eq_false, forall_const, true_implies, false_implies, implies_true, q_ni, q_fi, q_nb0, q_nb1, q_fb0, q_fb1, q_nor, q_nar, q_for, q_far, q_non, q_nan, q_fon, q_fan, imp_false, false_and, and_false, and_self, false_or, or_false, va_rf, refKind, k_X11_pair_94, hm'.rd]
            rw [e1]
            refine ⟨ad, z, g, gp, r', hm', hI0, ha, hb, hLM, hLV, by rw [hae, hbe]; exact hT, iN, sN, m - 1, by rw [hae]; exact hin.1, by rw [hbe]; exact hsN, by omega, rfl, rfl, rfl, ?_, ?_⟩
            · rw [hae, hbe]
              intro j2 r1 r2 r3 r4 r5
              have ej : j2 = j := by
                rcases Nat.lt_trichotomy j2 j with h | h | h
                · exact absurd ⟨r3, r4⟩ (p5 j2 r1 h)
                · exact h
                · exact absurd ⟨p3, p4⟩ (r5 j p1 h)
              subst ej
              simp only [c_push, c_null, c_iload, c_aload, c_istore, c_astore, c_iinc, c_iadd, c_isub, c_imul, c_iand, c_ineg, c_dup, c_dup2, c_pop, c_ifnull, c_ifnonnull, c_get, c_put, c_iald, c_zald, c_iast, c_zast, c_aald, c_aast, c_alen, c_new, c_newa, c_newq, c_mna, c_oinit, c_max, c_copy, c_iret, c_zret, c_aret, c_vret, q_do, q_rc, c_ifeq, c_ifne, c_iflt, c_ifge, c_ifgt, c_ifle, c_iceq, c_icne, c_iclt, c_icge, c_icgt, c_icle, c_call0, c_call1, c_call2, c_call3, c_call4, c_call5, c_call6, c_call7, q_L0, List.map_cons, List.map_nil, List.replicate, List.cons_append, List.nil_append, List.append_nil, List.length_cons, List.length_nil, List.length_set, Nat.reduceSub, Nat.reduceAdd, Nat.reduceLT, Nat.reduceLeDiff, Nat.zero_add, Nat.add_zero, Nat.sub_zero, Nat.sub_self, List.getElem?_cons_zero, List.getElem?_cons_succ, List.set_cons_zero, List.set_cons_succ, Option.toList_some, Option.toList_none, List.sum_cons, List.sum_nil, true_and, and_true, true_or, or_true, Nat.le_refl, Nat.zero_le, Value.category, Fin.isValue, Fin.val_zero, Fin.val_one, Fin.val_two, Fin.reduceFinMk, q_10, q_01, not_false_eq_true, not_true_eq_false, forall_const, true_implies, false_implies, implies_true, q_ni, q_fi, q_nb0, q_nb1, q_fb0, q_fb1, q_nor, q_nar, q_for, q_far, q_non, q_nan, q_fon, q_fan, imp_false, false_and, and_false, and_self, false_or, or_false, va_rf, refKind]
              have hh := PW_hit (lk := likB g an bn) (la := lmN g an) (lb := lmN g bn) (kn - cn) (by omega) q2 p1 p2 p3 p4 p5
              rw [q4] at hh
              have e2 : nI m + -1 = nI (m - 1) := by rw [nI_mm]; exact e1
              rw [e2, nI_1, nI_1, nI_1]
              refine hK 64 ((kn + 1 - (cn + 1)) * 100 + 50) _ _ _ _ _ (by omega) ⟨r', cn + 1, iN + 1, j2 + 1, m - 1, hm', hT, rfl, hkR, by omega, by omega, by omega, rfl, Or.inl ⟨rfl, rfl, ?_⟩⟩
              by_cases c : cn = kn
              · have hz : kn - cn = 0 := by omega
                rw [if_pos hz] at hh
                exact Or.inr ⟨by omega, by omega, by omega, hh.2⟩
              · have hz : ¬ kn - cn = 0 := by omega
                rw [if_neg hz] at hh
                exact Or.inl ⟨by omega, hh.1, by omega, by rw [hh.2]; congr 1⟩
            · rw [hae, hbe]
              intro hn
              exact absurd ⟨p3, p4⟩ (hn j p1 p2)
          simp only [c_push, c_null, c_iload, c_aload, c_istore, c_astore, c_iinc, c_iadd, c_isub, c_imul, c_iand, c_ineg, c_dup, c_dup2, c_pop, c_ifnull, c_ifnonnull, c_get, c_put, c_iald, c_zald, c_iast, c_zast, c_aald, c_aast, c_alen, c_new, c_newa, c_newq, c_mna, c_oinit, c_max, c_copy, c_iret, c_zret, c_aret, c_vret, q_do, q_rc, c_ifeq, c_ifne, c_iflt, c_ifge, c_ifgt, c_ifle, c_iceq, c_icne, c_iclt, c_icge, c_icgt, c_icle, c_call0, c_call1, c_call2, c_call3, c_call4, c_call5, c_call6, c_call7, q_L0, List.map_cons, List.map_nil, List.replicate, List.cons_append, List.nil_append, List.append_nil, List.length_cons, List.length_nil, List.length_set, Nat.reduceSub, Nat.reduceAdd, Nat.reduceLT, Nat.reduceLeDiff, Nat.zero_add, Nat.add_zero, Nat.sub_zero, Nat.sub_self, List.getElem?_cons_zero, List.getElem?_cons_succ, List.set_cons_zero, List.set_cons_succ, Option.toList_some, Option.toList_none, List.sum_cons, List.sum_nil, true_and, and_true, true_or, or_true, Nat.le_refl, Nat.zero_le, Value.category, Fin.isValue, Fin.val_zero, Fin.val_one, Fin.val_two, Fin.reduceFinMk, q_10, q_01, not_false_eq_true, not_true_eq_false, forall_const, true_implies, false_implies, implies_true, q_ni, q_fi, q_nb0, q_nb1, q_fb0, q_fb1, q_nor, q_nar, q_for, q_far, q_non, q_nan, q_fon, q_fan, imp_false, false_and, and_false, and_self, false_or, or_false, va_rf, refKind, k_X11_pair_70, hm'.rd]
          rw [e1]
          refine ⟨ad, z, g, gp, r', hm', hI0, ha, hb, hLM, hLV, by rw [hae, hbe]; exact hT, iN, sN, m - 1, by rw [hae]; exact hin.1, by rw [hbe]; exact hsN, by omega, rfl, rfl, rfl, ?_, ?_⟩
          · rw [hae, hbe]
            intro j p1 p2 p3 p4 p5
            simp only [c_push, c_null, c_iload, c_aload, c_istore, c_astore, c_iinc, c_iadd, c_isub, c_imul, c_iand, c_ineg, c_dup, c_dup2, c_pop, c_ifnull, c_ifnonnull, c_get, c_put, c_iald, c_zald, c_iast, c_zast, c_aald, c_aast, c_alen, c_new, c_newa, c_newq, c_mna, c_oinit, c_max, c_copy, c_iret, c_zret, c_aret, c_vret, q_do, q_rc, c_ifeq, c_ifne, c_iflt, c_ifge, c_ifgt, c_ifle, c_iceq, c_icne, c_iclt, c_icge, c_icgt, c_icle, c_call0, c_call1, c_call2, c_call3, c_call4, c_call5, c_call6, c_call7, q_L0, List.map_cons, List.map_nil, List.replicate, List.cons_append, List.nil_append, List.append_nil, List.length_cons, List.length_nil, List.length_set, Nat.reduceSub, Nat.reduceAdd, Nat.reduceLT, Nat.reduceLeDiff, Nat.zero_add, Nat.add_zero, Nat.sub_zero, Nat.sub_self, List.getElem?_cons_zero, List.getElem?_cons_succ, List.set_cons_zero, List.set_cons_succ, Option.toList_some, Option.toList_none, List.sum_cons, List.sum_nil, true_and, and_true, true_or, or_true, Nat.le_refl, Nat.zero_le, Value.category, Fin.isValue, Fin.val_zero, Fin.val_one, Fin.val_two, Fin.reduceFinMk, q_10, q_01, not_false_eq_true, not_true_eq_false, forall_const, true_implies, false_implies, implies_true, q_ni, q_fi, q_nb0, q_nb1, q_fb0, q_fb1, q_nor, q_nar, q_for, q_far, q_non, q_nan, q_fon, q_fan, imp_false, false_and, and_false, and_self, false_or, or_false, va_rf, refKind]
            exact ⟨fun _ => J94 j p1 p2 p3 p4 p5, fun c => absurd c (nI_m1 (by omega))⟩
          · rw [hae, hbe]
            intro hn
            simp only [c_push, c_null, c_iload, c_aload, c_istore, c_astore, c_iinc, c_iadd, c_isub, c_imul, c_iand, c_ineg, c_dup, c_dup2, c_pop, c_ifnull, c_ifnonnull, c_get, c_put, c_iald, c_zald, c_iast, c_zast, c_aald, c_aast, c_alen, c_new, c_newa, c_newq, c_mna, c_oinit, c_max, c_copy, c_iret, c_zret, c_aret, c_vret, q_do, q_rc, c_ifeq, c_ifne, c_iflt, c_ifge, c_ifgt, c_ifle, c_iceq, c_icne, c_iclt, c_icge, c_icgt, c_icle, c_call0, c_call1, c_call2, c_call3, c_call4, c_call5, c_call6, c_call7, q_L0, List.map_cons, List.map_nil, List.replicate, List.cons_append, List.nil_append, List.append_nil, List.length_cons, List.length_nil, List.length_set, Nat.reduceSub, Nat.reduceAdd, Nat.reduceLT, Nat.reduceLeDiff, Nat.zero_add, Nat.add_zero, Nat.sub_zero, Nat.sub_self, List.getElem?_cons_zero, List.getElem?_cons_succ, List.set_cons_zero, List.set_cons_succ, Option.toList_some, Option.toList_none, List.sum_cons, List.sum_nil, true_and, and_true, true_or, or_true, Nat.le_refl, Nat.zero_le, Value.category, Fin.isValue, Fin.val_zero, Fin.val_one, Fin.val_two, Fin.reduceFinMk, q_10, q_01, not_false_eq_true, not_true_eq_false, forall_const, true_implies, false_implies, implies_true, q_ni, q_fi, q_nb0, q_nb1, q_fb0, q_fb1, q_nor, q_nar, q_for, q_far, q_non, q_nan, q_fon, q_fan, imp_false, false_and, and_false, and_self, false_or, or_false, va_rf, refKind]
            have hh := PW_miss (lk := likB g an bn) (la := lmN g an) (lb := lmN g bn) (kn - cn) (by omega) q2 hn
            rw [nI_1]
            exact hK 70 ((kn + 1 - cn) * 100 + (lmN g an + 1 - (iN + 1))) _ _ _ _ _ (by omega) ⟨r', cn, iN + 1, sN, m, hm', hT, rfl, hkR, by omega, hsN, hm20, rfl, Or.inr ⟨rfl, rfl, q1, hh.1, q3, by rw [← hh.2]; exact q4⟩⟩
    · rw [if_neg hc] at h1
      have h2 := h1 _ ⟨gp, r, hm⟩
      refine ⟨fun _ _ _ _ _ _ _ => False, ?_, ?_, ?_, by simp, by simp [Value.category]⟩
      · intro K hK
        simp only [c_push, c_null, c_iload, c_aload, c_istore, c_astore, c_iinc, c_iadd, c_isub, c_imul, c_iand, c_ineg, c_dup, c_dup2, c_pop, c_ifnull, c_ifnonnull, c_get, c_put, c_iald, c_zald, c_iast, c_zast, c_aald, c_aast, c_alen, c_new, c_newa, c_newq, c_mna, c_oinit, c_max, c_copy, c_iret, c_zret, c_aret, c_vret, q_do, q_rc, c_ifeq, c_ifne, c_iflt, c_ifge, c_ifgt, c_ifle, c_iceq, c_icne, c_iclt, c_icge, c_icgt, c_icle, c_call0, c_call1, c_call2, c_call3, c_call4, c_call5, c_call6, c_call7, q_L0, List.map_cons, List.map_nil, List.replicate, List.cons_append, List.nil_append, List.append_nil, List.length_cons, List.length_nil, List.length_set, Nat.reduceSub, Nat.reduceAdd, Nat.reduceLT, Nat.reduceLeDiff, Nat.zero_add, Nat.add_zero, Nat.sub_zero, Nat.sub_self, List.getElem?_cons_zero, List.getElem?_cons_succ, List.set_cons_zero, List.set_cons_succ, Option.toList_some, Option.toList_none, List.sum_cons, List.sum_nil, true_and, and_true, true_or, or_true, Nat.le_refl, Nat.zero_le, Value.category, Fin.isValue, Fin.val_zero, Fin.val_one, Fin.val_two, Fin.reduceFinMk, q_10, q_01, not_false_eq_true, not_true_eq_false, forall_const, true_implies, false_implies, implies_true, q_ni, q_fi, q_nb0, q_nb1, q_fb0, q_fb1, q_nor, q_nar, q_for, q_far, q_non, q_nan, q_fon, q_fan, imp_false, false_and, and_false, and_self, false_or, or_false, va_rf, refKind, k_X11_pair_0, k_X11_pair_30, hm.rd, s_X11_isWork, s_X11_in, s_X10_isWithin, h2]
        clear hK h1 hm h2
        grind (splits := 40)
      · intro K n hK L st σ' cr sr h; exact h.elim
      · intro K n hK L st σ' cr sr h; exact h.elim
  · exact h.elim)
