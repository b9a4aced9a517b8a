-- measure
def LnF (σ : q_S) (R : Nat → Prop) (a ra : Nat) (f : Nat → Int32) (n : Nat) : Prop := (¬ R a ∧ σ a = some (.inr (5, [.ref ra, .int (nI n)]))) ∧ (¬ R ra ∧ σ ra = some (.inl (.int, 20, .inl f))) ∧ n ≤ 20
def CmF (σ : q_S) (R : Nat → Prop) (cl ca : Nat) (cv : Value) (c : Nat → Int32) : Prop := (¬ R cl ∧ σ cl = some (.inr (2, [.ref ca, cv]))) ∧ (¬ R ca ∧ σ ca = some (.inl (.boolean, 1000, .inl c)))
theorem LnF.fm {σ σ' : q_S} {R R' : Nat → Prop} {a ra : Nat} {f : Nat → Int32} {n : Nat} (h : LnF σ R a ra f n) (hf : q_fm σ R σ' R') : LnF σ' R' a ra f n := ⟨hf _ _ h.1.1 h.1.2, hf _ _ h.2.1.1 h.2.1.2, h.2.2⟩
theorem CmF.fm {σ σ' : q_S} {R R' : Nat → Prop} {cl ca : Nat} {cv : Value} {c : Nat → Int32} (h : CmF σ R cl ca cv c) (hf : q_fm σ R σ' R') : CmF σ' R' cl ca cv c := ⟨hf _ _ h.1.1 h.1.2, hf _ _ h.2.1 h.2.2⟩
abbrev comC (c : Nat → Int32) (x : Int32) : Prop := (0 ≤ x ∧ x < 1000) ∧ ¬ c x.toNatClampNeg = 0
def lkc (fa fb c : Nat → Int32) (i j : Nat) : Bool := decide (¬ comC c (fa i) ∧ fa i = fb j)
theorem mxN2 {a b : Nat} (ha : a < 2147483648) (hb : b < 2147483648) : (if nI a < nI b then nI b else nI a) = nI (max a b) := by
  have E := cl2 (nI a) (nI b) a b rfl rfl ha hb
  by_cases c : a < b
  · rw [if_pos (E.2.1.mpr c), Nat.max_eq_right (by omega)]
  · rw [if_neg (fun h => c (E.2.1.mp h)), Nat.max_eq_left (by omega)]
def s_X3_measure : q_Sp := fun av σ post => match av with
  | [.ref cp, .ref a, .ref b, .ref cl] => ∃ R T ra fa na rb fb nb ca cv c, GrP σ R cp T ∧ LnF σ R a ra fa na ∧ LnF σ R b rb fb nb ∧ CmF σ R cl ca cv c ∧ ∀ σ' T', GrP σ' R cp T' → q_fm σ R σ' R → (∀ i j, i ≤ na → j ≤ nb → T' i j = nI (RN (lkc fa fb c) na nb i j)) → post (some (.int (nI (RN (lkc fa fb c) na nb 0 0)))) σ'
  | _ => False
theorem w9_231 : (.code yX3_clearEdges cX3_clearEdges 4 none : Cond) ∈ lw_tbl := by decide +kernel
theorem w9_232 : (.methodLink RX3 26 yX3_clearEdges : Cond) ∈ lw_tbl := by decide +kernel
theorem w9_233 : (.instanceMethod yX3_clearEdges : Cond) ∈ lw_tbl := by decide +kernel
theorem w9_234 : (.selects RX3 yX3_clearEdges yX3_clearEdges : Cond) ∈ lw_tbl := by decide +kernel
theorem w9_235 : (.methodLink RX3 30 yX5_rowAt : Cond) ∈ lw_tbl := by decide +kernel
theorem w9_236 : (.code yX3_restFrom cX3_restFrom 3 (some .int) : Cond) ∈ lw_tbl := by decide +kernel
theorem w9_237 : (.methodLink RX3 39 yX3_restFrom : Cond) ∈ lw_tbl := by decide +kernel
theorem w9_238 : (.instanceMethod yX3_restFrom : Cond) ∈ lw_tbl := by decide +kernel
theorem w9_239 : (.selects RX3 yX3_restFrom yX3_restFrom : Cond) ∈ lw_tbl := by decide +kernel
theorem w9_240 : (.methodLink RX3 43 Lib.Math.max.name : Cond) ∈ lw_tbl := by decide +kernel
theorem w9_241 : (.methodLink RX3 34 yX2_contain : Cond) ∈ lw_tbl := by decide +kernel
def rm_X3_measure : Room := { frames := 3, cells := 0, slots := 0, locals := 66 }
def k_X3_measure_0 (post : Option Value → q_S → Prop) (K : Nat → q_K) : q_K := (c_aload 0 (c_aload 1 (c_get 5 1 (c_aload 2 (c_get 5 1 (c_call3 (some 3) s_X3_clearEdges 0 0 (c_aload 1 (c_get 5 1 (c_push 1 (c_isub (c_istore 4 (K 20))))))))))))
def k_X3_measure_47 (post : Option Value → q_S → Prop) (K : Nat → q_K) : q_K := (c_istore 6 (c_aload 2 (c_get 5 1 (c_push 1 (c_isub (c_istore 7 (K 57)))))))
def k_X3_measure_123 (post : Option Value → q_S → Prop) (K : Nat → q_K) : q_K := (c_call4 (some 3) s_X3_setRest 0 0 (c_iinc 7 (-1) (K 57)))
def k_X3_measure_100 (post : Option Value → q_S → Prop) (K : Nat → q_K) : q_K := (c_aload 0 (c_iload 4 (c_push 1 (c_iadd (c_iload 7 (c_call3 (some 3) s_X3_restFrom 0 0 (c_aload 0 (c_iload 4 (c_iload 7 (c_push 1 (c_iadd (c_call3 (some 3) s_X3_restFrom 0 0 (c_max (k_X3_measure_123 post K))))))))))))))
def k_X3_measure_62 (post : Option Value → q_S → Prop) (K : Nat → q_K) : q_K := (c_aload 0 (c_iload 4 (c_iload 7 (c_iload 6 (c_ifeq (k_X3_measure_100 post K) (c_iload 5 (c_aload 2 (c_iload 7 (c_call2 (some 5) s_X5_rowAt 0 0 (c_icne (k_X3_measure_100 post K) (c_aload 0 (c_iload 4 (c_push 1 (c_iadd (c_iload 7 (c_push 1 (c_iadd (c_call3 (some 3) s_X3_restFrom 0 0 (c_push 1 (c_iadd (k_X3_measure_123 post K)))))))))))))))))))))
def k_X3_measure_20 (post : Option Value → q_S → Prop) (K : Nat → q_K) : q_K := (c_iload 4 (c_iflt (c_aload 0 (c_push 0 (c_push 0 (c_call3 (some 3) s_X3_restFrom 0 0 (c_iret post))))) (c_aload 1 (c_iload 4 (c_call2 (some 5) s_X5_rowAt 0 0 (c_istore 5 (c_aload 3 (c_iload 5 (c_call2 (some 2) s_X2_contain 0 0 (c_ifne (c_push 0 (k_X3_measure_47 post K)) (c_push 1 (k_X3_measure_47 post K))))))))))))
def k_X3_measure_57 (post : Option Value → q_S → Prop) (K : Nat → q_K) : q_K := (c_iload 7 (c_iflt (c_iinc 4 (-1) (K 20)) (k_X3_measure_62 post K)))
set_option maxRecDepth 100000 in
theorem v_X3_measure_0 {p : Program} {l : Launch} {e : Env} {s : State} {m : MethodId} {args : Array Value} {below : List Frame} {meth : Method} {c : Code} {D : va_G} {A : Nat → Prop} {post : Option Value → q_S → Prop} {K : Nat → q_K} (C : q_C p s m args meth c cX3_measure 8 RX3 "measure" (some .int) A) (hK : ∀ h ∈ ([20, 57] : List Nat), q_V p l e rm_X3_measure s m args below meth c D A 8 (MQ below (q_Qc D A post) args s rm_X3_measure.cells rm_X3_measure.slots A) h (K h)) : q_V p l e rm_X3_measure s m args below meth c D A 8 (MQ below (q_Qc D A post) args s rm_X3_measure.cells rm_X3_measure.slots A) 0 (k_X3_measure_0 post K) := by
  unfold k_X3_measure_0
  refine q_aload_n C (by decide +kernel : decode cX3_measure 0 = .ok (.aload_n 0, 1)) ?_
  refine q_aload_n C (by decide +kernel : decode cX3_measure 1 = .ok (.aload_n 1, 1)) ?_
  refine q_getN C (ci := 5) (j := 1) (C0 := RX5) (T := TX5) (N := 2) rfl iX5 giX5 (by decide) (by decide +kernel) (by decide +kernel : decode cX3_measure 2 = .ok (.getfield 20, 3)) ?_
  refine q_aload_n C (by decide +kernel : decode cX3_measure 5 = .ok (.aload_n 2, 1)) ?_
  refine q_getN C (ci := 5) (j := 1) (C0 := RX5) (T := TX5) (N := 2) rfl iX5 giX5 (by decide) (by decide +kernel) (by decide +kernel : decode cX3_measure 6 = .ok (.getfield 20, 3)) ?_
  refine q_call3 C (q_coV C (np := 2) (ci := 3) (rc := (RX3, TX3, 1)) (t_X3_clearEdges l) w9_231 rfl rfl w9_232 w9_233 w9_234 w9_223 (by decide +kernel) (by decide +kernel : decode cX3_measure 9 = .ok (.invokevirtual 26, 3)) (by decide)) ?_
  refine q_aload_n C (by decide +kernel : decode cX3_measure 12 = .ok (.aload_n 1, 1)) ?_
  refine q_getN C (ci := 5) (j := 1) (C0 := RX5) (T := TX5) (N := 2) rfl iX5 giX5 (by decide) (by decide +kernel) (by decide +kernel : decode cX3_measure 13 = .ok (.getfield 20, 3)) ?_
  refine q_iconst C (by decide +kernel : decode cX3_measure 16 = .ok (.iconst 1, 1)) (by decide) ?_
  refine q_isub C (by decide +kernel : decode cX3_measure 17 = .ok (.isub, 1)) ?_
  refine q_istore C (by decide +kernel : decode cX3_measure 18 = .ok (.istore 4, 2)) ?_
  exact hK 20 (by decide)
set_option maxRecDepth 100000 in
theorem v_X3_measure_47 {p : Program} {l : Launch} {e : Env} {s : State} {m : MethodId} {args : Array Value} {below : List Frame} {meth : Method} {c : Code} {D : va_G} {A : Nat → Prop} {post : Option Value → q_S → Prop} {K : Nat → q_K} (C : q_C p s m args meth c cX3_measure 8 RX3 "measure" (some .int) A) (hK : ∀ h ∈ ([20, 57] : List Nat), q_V p l e rm_X3_measure s m args below meth c D A 8 (MQ below (q_Qc D A post) args s rm_X3_measure.cells rm_X3_measure.slots A) h (K h)) : q_V p l e rm_X3_measure s m args below meth c D A 8 (MQ below (q_Qc D A post) args s rm_X3_measure.cells rm_X3_measure.slots A) 47 (k_X3_measure_47 post K) := by
  unfold k_X3_measure_47
  refine q_istore C (by decide +kernel : decode cX3_measure 47 = .ok (.istore 6, 2)) ?_
  refine q_aload_n C (by decide +kernel : decode cX3_measure 49 = .ok (.aload_n 2, 1)) ?_
  refine q_getN C (ci := 5) (j := 1) (C0 := RX5) (T := TX5) (N := 2) rfl iX5 giX5 (by decide) (by decide +kernel) (by decide +kernel : decode cX3_measure 50 = .ok (.getfield 20, 3)) ?_
  refine q_iconst C (by decide +kernel : decode cX3_measure 53 = .ok (.iconst 1, 1)) (by decide) ?_
  refine q_isub C (by decide +kernel : decode cX3_measure 54 = .ok (.isub, 1)) ?_
  refine q_istore C (by decide +kernel : decode cX3_measure 55 = .ok (.istore 7, 2)) ?_
  exact hK 57 (by decide)
set_option maxRecDepth 100000 in
theorem v_X3_measure_123 {p : Program} {l : Launch} {e : Env} {s : State} {m : MethodId} {args : Array Value} {below : List Frame} {meth : Method} {c : Code} {D : va_G} {A : Nat → Prop} {post : Option Value → q_S → Prop} {K : Nat → q_K} (C : q_C p s m args meth c cX3_measure 8 RX3 "measure" (some .int) A) (hK : ∀ h ∈ ([20, 57] : List Nat), q_V p l e rm_X3_measure s m args below meth c D A 8 (MQ below (q_Qc D A post) args s rm_X3_measure.cells rm_X3_measure.slots A) h (K h)) : q_V p l e rm_X3_measure s m args below meth c D A 8 (MQ below (q_Qc D A post) args s rm_X3_measure.cells rm_X3_measure.slots A) 123 (k_X3_measure_123 post K) := by
  unfold k_X3_measure_123
  refine q_call4 C (q_coV C (np := 3) (ci := 3) (rc := (RX3, TX3, 1)) (t_X3_setRest l) w9_227 rfl rfl w9_228 w9_229 w9_230 w9_223 (by decide +kernel) (by decide +kernel : decode cX3_measure 123 = .ok (.invokevirtual 48, 3)) (by decide)) ?_
  refine q_iinc C (by decide +kernel : decode cX3_measure 126 = .ok (.iinc 7 (-1), 3)) (by decide) ?_
  refine q_goto C (tgt := 57) (by decide +kernel : decode cX3_measure 129 = .ok (.goto (-72), 3)) (by decide) ?_
  exact hK 57 (by decide)
set_option maxRecDepth 100000 in
theorem v_X3_measure_100 {p : Program} {l : Launch} {e : Env} {s : State} {m : MethodId} {args : Array Value} {below : List Frame} {meth : Method} {c : Code} {D : va_G} {A : Nat → Prop} {post : Option Value → q_S → Prop} {K : Nat → q_K} (C : q_C p s m args meth c cX3_measure 8 RX3 "measure" (some .int) A) (hK : ∀ h ∈ ([20, 57] : List Nat), q_V p l e rm_X3_measure s m args below meth c D A 8 (MQ below (q_Qc D A post) args s rm_X3_measure.cells rm_X3_measure.slots A) h (K h)) : q_V p l e rm_X3_measure s m args below meth c D A 8 (MQ below (q_Qc D A post) args s rm_X3_measure.cells rm_X3_measure.slots A) 100 (k_X3_measure_100 post K) := by
  unfold k_X3_measure_100
  refine q_aload_n C (by decide +kernel : decode cX3_measure 100 = .ok (.aload_n 0, 1)) ?_
  refine q_iload C (by decide +kernel : decode cX3_measure 101 = .ok (.iload 4, 2)) ?_
  refine q_iconst C (by decide +kernel : decode cX3_measure 103 = .ok (.iconst 1, 1)) (by decide) ?_
  refine q_iadd C (by decide +kernel : decode cX3_measure 104 = .ok (.iadd, 1)) ?_
  refine q_iload C (by decide +kernel : decode cX3_measure 105 = .ok (.iload 7, 2)) ?_
  refine q_call3 C (q_coV C (np := 2) (ci := 3) (rc := (RX3, TX3, 1)) (t_X3_restFrom l) w9_236 rfl rfl w9_237 w9_238 w9_239 w9_223 (by decide +kernel) (by decide +kernel : decode cX3_measure 107 = .ok (.invokevirtual 39, 3)) (by decide)) ?_
  refine q_aload_n C (by decide +kernel : decode cX3_measure 110 = .ok (.aload_n 0, 1)) ?_
  refine q_iload C (by decide +kernel : decode cX3_measure 111 = .ok (.iload 4, 2)) ?_
  refine q_iload C (by decide +kernel : decode cX3_measure 113 = .ok (.iload 7, 2)) ?_
  refine q_iconst C (by decide +kernel : decode cX3_measure 115 = .ok (.iconst 1, 1)) (by decide) ?_
  refine q_iadd C (by decide +kernel : decode cX3_measure 116 = .ok (.iadd, 1)) ?_
  refine q_call3 C (q_coV C (np := 2) (ci := 3) (rc := (RX3, TX3, 1)) (t_X3_restFrom l) w9_236 rfl rfl w9_237 w9_238 w9_239 w9_223 (by decide +kernel) (by decide +kernel : decode cX3_measure 117 = .ok (.invokevirtual 39, 3)) (by decide)) ?_
  refine q_max C w9_240 w9_136 w9_137 w9_138 (by decide) (by decide +kernel : decode cX3_measure 120 = .ok (.invokestatic 43, 3)) ?_
  exact v_X3_measure_123 C hK
set_option maxRecDepth 100000 in
theorem v_X3_measure_62 {p : Program} {l : Launch} {e : Env} {s : State} {m : MethodId} {args : Array Value} {below : List Frame} {meth : Method} {c : Code} {D : va_G} {A : Nat → Prop} {post : Option Value → q_S → Prop} {K : Nat → q_K} (C : q_C p s m args meth c cX3_measure 8 RX3 "measure" (some .int) A) (hK : ∀ h ∈ ([20, 57] : List Nat), q_V p l e rm_X3_measure s m args below meth c D A 8 (MQ below (q_Qc D A post) args s rm_X3_measure.cells rm_X3_measure.slots A) h (K h)) : q_V p l e rm_X3_measure s m args below meth c D A 8 (MQ below (q_Qc D A post) args s rm_X3_measure.cells rm_X3_measure.slots A) 62 (k_X3_measure_62 post K) := by
  unfold k_X3_measure_62
  refine q_aload_n C (by decide +kernel : decode cX3_measure 62 = .ok (.aload_n 0, 1)) ?_
  refine q_iload C (by decide +kernel : decode cX3_measure 63 = .ok (.iload 4, 2)) ?_
  refine q_iload C (by decide +kernel : decode cX3_measure 65 = .ok (.iload 7, 2)) ?_
  refine q_iload C (by decide +kernel : decode cX3_measure 67 = .ok (.iload 6, 2)) ?_
  refine q_ifeq C (tgt := 100) (by decide +kernel : decode cX3_measure 69 = .ok (.ifCond .eq 31, 3)) (by decide) ?_ ?_
  · exact v_X3_measure_100 C hK
  · refine q_iload C (by decide +kernel : decode cX3_measure 72 = .ok (.iload 5, 2)) ?_
    refine q_aload_n C (by decide +kernel : decode cX3_measure 74 = .ok (.aload_n 2, 1)) ?_
    refine q_iload C (by decide +kernel : decode cX3_measure 75 = .ok (.iload 7, 2)) ?_
    refine q_call2 C (q_coV C (np := 1) (ci := 5) (rc := (RX5, TX5, 2)) (t_X5_rowAt l) w9_150 rfl rfl w9_235 w9_153 w9_154 w9_151 (by decide +kernel) (by decide +kernel : decode cX3_measure 77 = .ok (.invokevirtual 30, 3)) (by decide)) ?_
    refine q_icne C (tgt := 100) (by decide +kernel : decode cX3_measure 80 = .ok (.if_icmp .ne 20, 3)) (by decide) ?_ ?_
    · exact v_X3_measure_100 C hK
    · refine q_aload_n C (by decide +kernel : decode cX3_measure 83 = .ok (.aload_n 0, 1)) ?_
      refine q_iload C (by decide +kernel : decode cX3_measure 84 = .ok (.iload 4, 2)) ?_
      refine q_iconst C (by decide +kernel : decode cX3_measure 86 = .ok (.iconst 1, 1)) (by decide) ?_
      refine q_iadd C (by decide +kernel : decode cX3_measure 87 = .ok (.iadd, 1)) ?_
      refine q_iload C (by decide +kernel : decode cX3_measure 88 = .ok (.iload 7, 2)) ?_
      refine q_iconst C (by decide +kernel : decode cX3_measure 90 = .ok (.iconst 1, 1)) (by decide) ?_
      refine q_iadd C (by decide +kernel : decode cX3_measure 91 = .ok (.iadd, 1)) ?_
      refine q_call3 C (q_coV C (np := 2) (ci := 3) (rc := (RX3, TX3, 1)) (t_X3_restFrom l) w9_236 rfl rfl w9_237 w9_238 w9_239 w9_223 (by decide +kernel) (by decide +kernel : decode cX3_measure 92 = .ok (.invokevirtual 39, 3)) (by decide)) ?_
      refine q_iconst C (by decide +kernel : decode cX3_measure 95 = .ok (.iconst 1, 1)) (by decide) ?_
      refine q_iadd C (by decide +kernel : decode cX3_measure 96 = .ok (.iadd, 1)) ?_
      refine q_goto C (tgt := 123) (by decide +kernel : decode cX3_measure 97 = .ok (.goto 26, 3)) (by decide) ?_
      exact v_X3_measure_123 C hK
set_option maxRecDepth 100000 in
theorem v_X3_measure_20 {p : Program} {l : Launch} {e : Env} {s : State} {m : MethodId} {args : Array Value} {below : List Frame} {meth : Method} {c : Code} {D : va_G} {A : Nat → Prop} {post : Option Value → q_S → Prop} {K : Nat → q_K} (C : q_C p s m args meth c cX3_measure 8 RX3 "measure" (some .int) A) (hK : ∀ h ∈ ([20, 57] : List Nat), q_V p l e rm_X3_measure s m args below meth c D A 8 (MQ below (q_Qc D A post) args s rm_X3_measure.cells rm_X3_measure.slots A) h (K h)) : q_V p l e rm_X3_measure s m args below meth c D A 8 (MQ below (q_Qc D A post) args s rm_X3_measure.cells rm_X3_measure.slots A) 20 (k_X3_measure_20 post K) := by
  unfold k_X3_measure_20
  refine q_iload C (by decide +kernel : decode cX3_measure 20 = .ok (.iload 4, 2)) ?_
  refine q_iflt C (tgt := 138) (by decide +kernel : decode cX3_measure 22 = .ok (.ifCond .lt 116, 3)) (by decide) ?_ ?_
  · refine q_aload_n C (by decide +kernel : decode cX3_measure 138 = .ok (.aload_n 0, 1)) ?_
    refine q_iconst C (by decide +kernel : decode cX3_measure 139 = .ok (.iconst 0, 1)) (by decide) ?_
    refine q_iconst C (by decide +kernel : decode cX3_measure 140 = .ok (.iconst 0, 1)) (by decide) ?_
    refine q_call3 C (q_coV C (np := 2) (ci := 3) (rc := (RX3, TX3, 1)) (t_X3_restFrom l) w9_236 rfl rfl w9_237 w9_238 w9_239 w9_223 (by decide +kernel) (by decide +kernel : decode cX3_measure 141 = .ok (.invokevirtual 39, 3)) (by decide)) ?_
    exact q_iret C rfl (by decide +kernel : decode cX3_measure 144 = .ok (.ireturn, 1))
  · refine q_aload_n C (by decide +kernel : decode cX3_measure 25 = .ok (.aload_n 1, 1)) ?_
    refine q_iload C (by decide +kernel : decode cX3_measure 26 = .ok (.iload 4, 2)) ?_
    refine q_call2 C (q_coV C (np := 1) (ci := 5) (rc := (RX5, TX5, 2)) (t_X5_rowAt l) w9_150 rfl rfl w9_235 w9_153 w9_154 w9_151 (by decide +kernel) (by decide +kernel : decode cX3_measure 28 = .ok (.invokevirtual 30, 3)) (by decide)) ?_
    refine q_istore C (by decide +kernel : decode cX3_measure 31 = .ok (.istore 5, 2)) ?_
    refine q_aload_n C (by decide +kernel : decode cX3_measure 33 = .ok (.aload_n 3, 1)) ?_
    refine q_iload C (by decide +kernel : decode cX3_measure 34 = .ok (.iload 5, 2)) ?_
    refine q_call2 C (q_coV C (np := 1) (ci := 2) (rc := (RX2, TX2, 2)) (t_X2_contain l) w9_160 rfl rfl w9_241 w9_163 w9_164 w9_161 (by decide +kernel) (by decide +kernel : decode cX3_measure 36 = .ok (.invokevirtual 34, 3)) (by decide)) ?_
    refine q_ifne C (tgt := 46) (by decide +kernel : decode cX3_measure 39 = .ok (.ifCond .ne 7, 3)) (by decide) ?_ ?_
    · refine q_iconst C (by decide +kernel : decode cX3_measure 46 = .ok (.iconst 0, 1)) (by decide) ?_
      exact v_X3_measure_47 C hK
    · refine q_iconst C (by decide +kernel : decode cX3_measure 42 = .ok (.iconst 1, 1)) (by decide) ?_
      refine q_goto C (tgt := 47) (by decide +kernel : decode cX3_measure 43 = .ok (.goto 4, 3)) (by decide) ?_
      exact v_X3_measure_47 C hK
set_option maxRecDepth 100000 in
theorem v_X3_measure_57 {p : Program} {l : Launch} {e : Env} {s : State} {m : MethodId} {args : Array Value} {below : List Frame} {meth : Method} {c : Code} {D : va_G} {A : Nat → Prop} {post : Option Value → q_S → Prop} {K : Nat → q_K} (C : q_C p s m args meth c cX3_measure 8 RX3 "measure" (some .int) A) (hK : ∀ h ∈ ([20, 57] : List Nat), q_V p l e rm_X3_measure s m args below meth c D A 8 (MQ below (q_Qc D A post) args s rm_X3_measure.cells rm_X3_measure.slots A) h (K h)) : q_V p l e rm_X3_measure s m args below meth c D A 8 (MQ below (q_Qc D A post) args s rm_X3_measure.cells rm_X3_measure.slots A) 57 (k_X3_measure_57 post K) := by
  unfold k_X3_measure_57
  refine q_iload C (by decide +kernel : decode cX3_measure 57 = .ok (.iload 7, 2)) ?_
  refine q_iflt C (tgt := 132) (by decide +kernel : decode cX3_measure 59 = .ok (.ifCond .lt 73, 3)) (by decide) ?_ ?_
  · refine q_iinc C (by decide +kernel : decode cX3_measure 132 = .ok (.iinc 4 (-1), 3)) (by decide) ?_
    refine q_goto C (tgt := 20) (by decide +kernel : decode cX3_measure 135 = .ok (.goto (-115), 3)) (by decide) ?_
    exact hK 20 (by decide)
  · exact v_X3_measure_62 C hK
theorem u_X3_measure (l : Launch) {sp : q_Sp} (H : ∀ (av : List Value) (σ : q_S) (post : Option Value → q_S → Prop), sp av σ post → ∃ Inv : Nat → Nat → q_K, (∀ K : Nat → q_K, (∀ (h n : Nat) (L : List (Option Value)) (st : List Value) (σ : q_S) (cr sr : Nat), Inv h n L st σ cr sr → K h L st σ cr sr) → k_X3_measure_0 post K (q_L0 av 8) [] σ 0 0) ∧ (∀ (K : Nat → q_K) (n : Nat), (∀ (h m : Nat) (L : List (Option Value)) (st : List Value) (σ : q_S) (cr sr : Nat), m < n → Inv h m L st σ cr sr → K h L st σ cr sr) → ∀ (L : List (Option Value)) (st : List Value) (σ : q_S) (cr sr : Nat), Inv 20 n L st σ cr sr → k_X3_measure_20 post K L st σ cr sr) ∧ (∀ (K : Nat → q_K) (n : Nat), (∀ (h m : Nat) (L : List (Option Value)) (st : List Value) (σ : q_S) (cr sr : Nat), m < n → Inv h m L st σ cr sr → K h L st σ cr sr) → ∀ (L : List (Option Value)) (st : List Value) (σ : q_S) (cr sr : Nat), Inv 57 n L st σ cr sr → k_X3_measure_57 post K L st σ cr sr) ∧ av.length ≤ 8 ∧ ∀ v ∈ av, v.category = 1) : q_Ct l yX3_measure cX3_measure 8 (some .int) rm_X3_measure sp := by
  refine q_met (by decide) ?_
  intro D A p e s m args below meth c σ av post C hsp
  obtain ⟨Inv, h1, hh20, hh57, h2, h3⟩ := H av σ post hsp
  have hV := q_loops (p := p) (l := l) (e := e) (R := rm_X3_measure) (s := s) (m := m) (args := args) (below := below) (meth := meth) (c := c) (D := D) (A := A) (nL := 8) (Q := MQ below (q_Qc D A post) args s rm_X3_measure.cells rm_X3_measure.slots A) [20, 57] (fun h => if h = 20 then k_X3_measure_20 post else k_X3_measure_57 post) (fun K hK h hh => ?_) Inv (fun n h hh => ?_)
  · exact ⟨_, v_X3_measure_0 C hV, h1 _ (fun h n L st σ cr sr hi => ⟨n, hi⟩), h2, h3⟩
  · rcases (by simpa using hh : h = 20 ∨ h = 57) with rfl | rfl
    · exact v_X3_measure_20 C hK
    · exact v_X3_measure_57 C hK
  · rcases (by simpa using hh : h = 20 ∨ h = 57) with rfl | rfl
    · exact hh20 (fun h L st σ cr sr => ∃ m : Nat, m < n ∧ Inv h m L st σ cr sr) n (fun h m L st σ cr sr hm hi => ⟨m, hm, hi⟩)
    · exact hh57 (fun h L st σ cr sr => ∃ m : Nat, m < n ∧ Inv h m L st σ cr sr) n (fun h m L st σ cr sr hm hi => ⟨m, hm, hi⟩)
theorem t_X3_measure (l : Launch) : q_Ct l yX3_measure cX3_measure 8 (some .int) rm_X3_measure s_X3_measure := u_X3_measure l (by
  intro av σ post h
  unfold s_X3_measure at h
  split at h
  · next cp a b cl =>
    obtain ⟨R, T, ra, fa, na, rb, fb, nb, ca, cv, c, hG, hA, hB, hC, h7⟩ := h
    have hna := hA.2.2
    have hnb := hB.2.2
    have hRle : ∀ i j, RN (lkc fa fb c) na nb i j ≤ na - i := fun i j => RN_le (lkc fa fb c) na nb _ i j (Nat.le_refl _)
    refine ⟨fun h m L st σ' cr sr => ∃ T', GrP σ' R cp T' ∧ q_fm σ R σ' R ∧ st = [] ∧
      ((h = 20 ∧ ∃ (s : Nat) (d5 d6 d7 : Option Value), s ≤ na ∧ m = s * 50 + 49 ∧ L = [some (.ref cp), some (.ref a), some (.ref b), some (.ref cl), some (.int (nI s - 1)), d5, d6, d7] ∧ ∀ i j, i ≤ na → j ≤ nb → s ≤ i ∨ j = nb → T' i j = nI (RN (lkc fa fb c) na nb i j)) ∨
       (h = 57 ∧ ∃ (s u : Nat), s < na ∧ u ≤ nb ∧ m = (s + 1) * 50 + u ∧ L = [some (.ref cp), some (.ref a), some (.ref b), some (.ref cl), some (.int (nI s)), some (.int (fa s)), some (.int (if comC c (fa s) then 0 else 1)), some (.int (nI u - 1))] ∧ ∀ i j, i ≤ na → j ≤ nb → s + 1 ≤ i ∨ j = nb ∨ (i = s ∧ u ≤ j) → T' i j = nI (RN (lkc fa fb c) na nb i j))), ?_, ?_, ?_, by simp, by simp [Value.category]⟩
    · intro K hK
      have hoc : q_oc σ cp = some 3 := by obtain ⟨_, _, h1, -⟩ := hG; simp only [q_oc, h1.2]
      have f1 : q_fld σ a 5 1 = some (.int (nI na)) := by simp only [q_fld, hA.1.2, if_true]; rfl
      have f2 : q_fld σ b 5 1 = some (.int (nI nb)) := by simp only [q_fld, hB.1.2, if_true]; rfl
      simp only [c_push, c_null, c_iload, c_aload, c_istore, c_astore, c_iinc, c_iadd, c_isub, c_imul, c_iand, c_ineg, c_dup, c_dup2, c_pop, c_ifnull, c_ifnonnull, c_get, c_put, c_iald, c_zald, c_iast, c_zast, c_aald, c_aast, c_alen, c_new, c_newa, c_newq, c_mna, c_oinit, c_max, c_copy, c_iret, c_zret, c_aret, c_vret, q_do, q_rc, c_ifeq, c_ifne, c_iflt, c_ifge, c_ifgt, c_ifle, c_iceq, c_icne, c_iclt, c_icge, c_icgt, c_icle, c_call0, c_call1, c_call2, c_call3, c_call4, c_call5, c_call6, c_call7, q_L0, List.map_cons, List.map_nil, List.replicate, List.cons_append, List.nil_append, List.append_nil, List.length_cons, List.length_nil, List.length_set, Nat.reduceSub, Nat.reduceAdd, Nat.reduceLT, Nat.reduceLeDiff, Nat.zero_add, Nat.add_zero, Nat.sub_zero, Nat.sub_self, List.getElem?_cons_zero, List.getElem?_cons_succ, List.set_cons_zero, List.set_cons_succ, Option.toList_some, Option.toList_none, List.sum_cons, List.sum_nil, true_and, and_true, true_or, or_true, Nat.le_refl, Nat.zero_le, Value.category, Fin.isValue, Fin.val_zero, Fin.val_one, Fin.val_two, Fin.reduceFinMk, q_10, q_01, not_false_eq_true, not_true_eq_false, forall_const, true_implies, false_implies, implies_true, q_ni, q_fi, q_nb0, q_nb1, q_fb0, q_fb1, q_nor, q_nar, q_for, q_far, q_non, q_nan, q_fon, q_fan, imp_false, false_and, and_false, and_self, false_or, or_false, va_rf, refKind, k_X3_measure_0, hoc, f1, f2]
      refine ⟨R, T, na, nb, hG, hna, hnb, rfl, rfl, fun σ' T' hG' z1 z2 hf => ?_⟩
      have hA' := hA.fm hf
      have f1' : q_fld σ' a 5 1 = some (.int (nI na)) := by simp only [q_fld, hA'.1.2, if_true]; rfl
      simp only [c_push, c_null, c_iload, c_aload, c_istore, c_astore, c_iinc, c_iadd, c_isub, c_imul, c_iand, c_ineg, c_dup, c_dup2, c_pop, c_ifnull, c_ifnonnull, c_get, c_put, c_iald, c_zald, c_iast, c_zast, c_aald, c_aast, c_alen, c_new, c_newa, c_newq, c_mna, c_oinit, c_max, c_copy, c_iret, c_zret, c_aret, c_vret, q_do, q_rc, c_ifeq, c_ifne, c_iflt, c_ifge, c_ifgt, c_ifle, c_iceq, c_icne, c_iclt, c_icge, c_icgt, c_icle, c_call0, c_call1, c_call2, c_call3, c_call4, c_call5, c_call6, c_call7, q_L0, List.map_cons, List.map_nil, List.replicate, List.cons_append, List.nil_append, List.append_nil, List.length_cons, List.length_nil, List.length_set, Nat.reduceSub, Nat.reduceAdd, Nat.reduceLT, Nat.reduceLeDiff, Nat.zero_add, Nat.add_zero, Nat.sub_zero, Nat.sub_self, List.getElem?_cons_zero, List.getElem?_cons_succ, List.set_cons_zero, List.set_cons_succ, Option.toList_some, Option.toList_none, List.sum_cons, List.sum_nil, true_and, and_true, true_or, or_true, Nat.le_refl, Nat.zero_le, Value.category, Fin.isValue, Fin.val_zero, Fin.val_one, Fin.val_two, Fin.reduceFinMk, q_10, q_01, not_false_eq_true, not_true_eq_false, forall_const, true_implies, false_implies, implies_true, q_ni, q_fi, q_nb0, q_nb1, q_fb0, q_fb1, q_nor, q_nar, q_for, q_far, q_non, q_nan, q_fon, q_fan, imp_false, false_and, and_false, and_self, false_or, or_false, va_rf, refKind, f1']
      refine hK 20 (na * 50 + 49) _ _ _ _ _ ⟨T', hG', hf, rfl, Or.inl ⟨rfl, na, none, none, none, Nat.le_refl _, rfl, rfl, fun i j hi hj h9 => ?_⟩⟩
      rcases h9 with h9 | h9
      · have e : i = na := by omega
        subst e
        rw [z2 j hj, RN_out (by omega)]; rfl
      · subst h9
        rw [z1 i hi, RN_out (by omega)]; rfl
    · rintro K m hK L st σ' cr sr ⟨T', hG', hf, rfl, ⟨-, s, d5, d6, d7, hs, rfl, rfl, hT⟩ | ⟨h9, -⟩⟩
      · have hA' := hA.fm hf
        have hB' := hB.fm hf
        have hC' := hC.fm hf
        have hoc : q_oc σ' cp = some 3 := by obtain ⟨_, _, h1, -⟩ := hG'; simp only [q_oc, h1.2]
        have f2 : q_fld σ' b 5 1 = some (.int (nI nb)) := by simp only [q_fld, hB'.1.2, if_true]; rfl
        have o1 : q_oc σ' a = some 5 := by simp only [q_oc, hA'.1.2]
        have o3 : q_oc σ' cl = some 2 := by simp only [q_oc, hC'.1.2]
        rcases s with _ | s
        · simp only [c_push, c_null, c_iload, c_aload, c_istore, c_astore, c_iinc, c_iadd, c_isub, c_imul, c_iand, c_ineg, c_dup, c_dup2, c_pop, c_ifnull, c_ifnonnull, c_get, c_put, c_iald, c_zald, c_iast, c_zast, c_aald, c_aast, c_alen, c_new, c_newa, c_newq, c_mna, c_oinit, c_max, c_copy, c_iret, c_zret, c_aret, c_vret, q_do, q_rc, c_ifeq, c_ifne, c_iflt, c_ifge, c_ifgt, c_ifle, c_iceq, c_icne, c_iclt, c_icge, c_icgt, c_icle, c_call0, c_call1, c_call2, c_call3, c_call4, c_call5, c_call6, c_call7, q_L0, List.map_cons, List.map_nil, List.replicate, List.cons_append, List.nil_append, List.append_nil, List.length_cons, List.length_nil, List.length_set, Nat.reduceSub, Nat.reduceAdd, Nat.reduceLT, Nat.reduceLeDiff, Nat.zero_add, Nat.add_zero, Nat.sub_zero, Nat.sub_self, List.getElem?_cons_zero, List.getElem?_cons_succ, List.set_cons_zero, List.set_cons_succ, Option.toList_some, Option.toList_none, List.sum_cons, List.sum_nil, true_and, and_true, true_or, or_true, Nat.le_refl, Nat.zero_le, Value.category, Fin.isValue, Fin.val_zero, Fin.val_one, Fin.val_two, Fin.reduceFinMk, q_10, q_01, not_false_eq_true, not_true_eq_false, forall_const, true_implies, false_implies, implies_true, q_ni, q_fi, q_nb0, q_nb1, q_fb0, q_fb1, q_nor, q_nar, q_for, q_far, q_non, q_nan, q_fon, q_fan, imp_false, false_and, and_false, and_self, false_or, or_false, va_rf, refKind, k_X3_measure_20, hoc]
          refine ⟨fun _ => ?_, fun c9 => absurd (by decide) c9⟩
          refine ⟨R, T', hG', by decide, ?_⟩
          simp only [c_push, c_null, c_iload, c_aload, c_istore, c_astore, c_iinc, c_iadd, c_isub, c_imul, c_iand, c_ineg, c_dup, c_dup2, c_pop, c_ifnull, c_ifnonnull, c_get, c_put, c_iald, c_zald, c_iast, c_zast, c_aald, c_aast, c_alen, c_new, c_newa, c_newq, c_mna, c_oinit, c_max, c_copy, c_iret, c_zret, c_aret, c_vret, q_do, q_rc, c_ifeq, c_ifne, c_iflt, c_ifge, c_ifgt, c_ifle, c_iceq, c_icne, c_iclt, c_icge, c_icgt, c_icle, c_call0, c_call1, c_call2, c_call3, c_call4, c_call5, c_call6, c_call7, q_L0, List.map_cons, List.map_nil, List.replicate, List.cons_append, List.nil_append, List.append_nil, List.length_cons, List.length_nil, List.length_set, Nat.reduceSub, Nat.reduceAdd, Nat.reduceLT, Nat.reduceLeDiff, Nat.zero_add, Nat.add_zero, Nat.sub_zero, Nat.sub_self, List.getElem?_cons_zero, List.getElem?_cons_succ, List.set_cons_zero, List.set_cons_succ, Option.toList_some, Option.toList_none, List.sum_cons, List.sum_nil, true_and, and_true, true_or, or_true, Nat.le_refl, Nat.zero_le, Value.category, Fin.isValue, Fin.val_zero, Fin.val_one, Fin.val_two, Fin.reduceFinMk, q_10, q_01, not_false_eq_true, not_true_eq_false, forall_const, true_implies, false_implies, implies_true, q_ni, q_fi, q_nb0, q_nb1, q_fb0, q_fb1, q_nor, q_nar, q_for, q_far, q_non, q_nan, q_fon, q_fan, imp_false, false_and, and_false, and_self, false_or, or_false, va_rf, refKind]
          have e0 : (0 : Int32).toNatClampNeg = 0 := rfl
          rw [e0, hT 0 0 (Nat.zero_le _) (Nat.zero_le _) (Or.inl (Nat.le_refl _))]
          exact h7 σ' T' hG' hf (fun i j hi hj => hT i j hi hj (Or.inl (Nat.zero_le _)))
        · rw [nI_pred]
          have J47 : ∀ v : Int32, v = (if comC c (fa s) then 0 else 1) → k_X3_measure_47 post K [some (.ref cp), some (.ref a), some (.ref b), some (.ref cl), some (.int (nI s)), some (.int (fa s)), d6, d7] [.int v] σ' cr sr := fun v hv => by
            simp only [c_push, c_null, c_iload, c_aload, c_istore, c_astore, c_iinc, c_iadd, c_isub, c_imul, c_iand, c_ineg, c_dup, c_dup2, c_pop, c_ifnull, c_ifnonnull, c_get, c_put, c_iald, c_zald, c_iast, c_zast, c_aald, c_aast, c_alen, c_new, c_newa, c_newq, c_mna, c_oinit, c_max, c_copy, c_iret, c_zret, c_aret, c_vret, q_do, q_rc, c_ifeq, c_ifne, c_iflt, c_ifge, c_ifgt, c_ifle, c_iceq, c_icne, c_iclt, c_icge, c_icgt, c_icle, c_call0, c_call1, c_call2, c_call3, c_call4, c_call5, c_call6, c_call7, q_L0, List.map_cons, List.map_nil, List.replicate, List.cons_append, List.nil_append, List.append_nil, List.length_cons, List.length_nil, List.length_set, Nat.reduceSub, Nat.reduceAdd, Nat.reduceLT, Nat.reduceLeDiff, Nat.zero_add, Nat.add_zero, Nat.sub_zero, Nat.sub_self, List.getElem?_cons_zero, List.getElem?_cons_succ, List.set_cons_zero, List.set_cons_succ, Option.toList_some, Option.toList_none, List.sum_cons, List.sum_nil, true_and, and_true, true_or, or_true, Nat.le_refl, Nat.zero_le, Value.category, Fin.isValue, Fin.val_zero, Fin.val_one, Fin.val_two, Fin.reduceFinMk, q_10, q_01, not_false_eq_true, not_true_eq_false, forall_const, true_implies, false_implies, implies_true, q_ni, q_fi, q_nb0, q_nb1, q_fb0, q_fb1, q_nor, q_nar, q_for, q_far, q_non, q_nan, q_fon, q_fan, imp_false, false_and, and_false, and_self, false_or, or_false, va_rf, refKind, k_X3_measure_47, f2]
            refine hK 57 ((s + 1) * 50 + nb) _ _ _ _ _ (by omega) ⟨T', hG', hf, rfl, Or.inr ⟨rfl, s, nb, by omega, Nat.le_refl _, rfl, by rw [hv], fun i j hi hj h9 => hT i j hi hj (by omega)⟩⟩
          simp only [c_push, c_null, c_iload, c_aload, c_istore, c_astore, c_iinc, c_iadd, c_isub, c_imul, c_iand, c_ineg, c_dup, c_dup2, c_pop, c_ifnull, c_ifnonnull, c_get, c_put, c_iald, c_zald, c_iast, c_zast, c_aald, c_aast, c_alen, c_new, c_newa, c_newq, c_mna, c_oinit, c_max, c_copy, c_iret, c_zret, c_aret, c_vret, q_do, q_rc, c_ifeq, c_ifne, c_iflt, c_ifge, c_ifgt, c_ifle, c_iceq, c_icne, c_iclt, c_icge, c_icgt, c_icle, c_call0, c_call1, c_call2, c_call3, c_call4, c_call5, c_call6, c_call7, q_L0, List.map_cons, List.map_nil, List.replicate, List.cons_append, List.nil_append, List.append_nil, List.length_cons, List.length_nil, List.length_set, Nat.reduceSub, Nat.reduceAdd, Nat.reduceLT, Nat.reduceLeDiff, Nat.zero_add, Nat.add_zero, Nat.sub_zero, Nat.sub_self, List.getElem?_cons_zero, List.getElem?_cons_succ, List.set_cons_zero, List.set_cons_succ, Option.toList_some, Option.toList_none, List.sum_cons, List.sum_nil, true_and, and_true, true_or, or_true, Nat.le_refl, Nat.zero_le, Value.category, Fin.isValue, Fin.val_zero, Fin.val_one, Fin.val_two, Fin.reduceFinMk, q_10, q_01, not_false_eq_true, not_true_eq_false, forall_const, true_implies, false_implies, implies_true, q_ni, q_fi, q_nb0, q_nb1, q_fb0, q_fb1, q_nor, q_nar, q_for, q_far, q_non, q_nan, q_fon, q_fan, imp_false, false_and, and_false, and_self, false_or, or_false, va_rf, refKind, k_X3_measure_20, hoc, o1, o3, s_X5_rowAt, s_X2_contain, hA'.1.2, hA'.2.1.2, hC'.1.2, hC'.2.2]
          rw [(cl2 (nI s) (nI na) _ _ rfl rfl (by omega) (by omega)).2.1, clN (by omega)]
          refine ⟨fun c9 => absurd c9 (nI_pos (by omega)), fun _ => ⟨nI_leN (N := 20) (by omega), fun _ => ⟨fun c2 => J47 0 (by rw [if_pos c2]), fun c2 => J47 1 (by rw [if_neg c2])⟩, fun c1 => absurd ⟨nI_low (by omega), by omega⟩ c1⟩⟩
      · exact absurd h9 (by decide)
    · rintro K m hK L st σ' cr sr ⟨T', hG', hf, rfl, ⟨h9, -⟩ | ⟨-, s, u, hs, hu, rfl, rfl, hT⟩⟩
      · exact absurd h9 (by decide)
      · have hB' := hB.fm hf
        have hoc : q_oc σ' cp = some 3 := by obtain ⟨_, _, h1, -⟩ := hG'; simp only [q_oc, h1.2]
        have o2 : q_oc σ' b = some 5 := by simp only [q_oc, hB'.1.2]
        rcases u with _ | u
        · simp only [c_push, c_null, c_iload, c_aload, c_istore, c_astore, c_iinc, c_iadd, c_isub, c_imul, c_iand, c_ineg, c_dup, c_dup2, c_pop, c_ifnull, c_ifnonnull, c_get, c_put, c_iald, c_zald, c_iast, c_zast, c_aald, c_aast, c_alen, c_new, c_newa, c_newq, c_mna, c_oinit, c_max, c_copy, c_iret, c_zret, c_aret, c_vret, q_do, q_rc, c_ifeq, c_ifne, c_iflt, c_ifge, c_ifgt, c_ifle, c_iceq, c_icne, c_iclt, c_icge, c_icgt, c_icle, c_call0, c_call1, c_call2, c_call3, c_call4, c_call5, c_call6, c_call7, q_L0, List.map_cons, List.map_nil, List.replicate, List.cons_append, List.nil_append, List.append_nil, List.length_cons, List.length_nil, List.length_set, Nat.reduceSub, Nat.reduceAdd, Nat.reduceLT, Nat.reduceLeDiff, Nat.zero_add, Nat.add_zero, Nat.sub_zero, Nat.sub_self, List.getElem?_cons_zero, List.getElem?_cons_succ, List.set_cons_zero, List.set_cons_succ, Option.toList_some, Option.toList_none, List.sum_cons, List.sum_nil, true_and, and_true, true_or, or_true, Nat.le_refl, Nat.zero_le, Value.category, Fin.isValue, Fin.val_zero, Fin.val_one, Fin.val_two, Fin.reduceFinMk, q_10, q_01, not_false_eq_true, not_true_eq_false, forall_const, true_implies, false_implies, implies_true, q_ni, q_fi, q_nb0, q_nb1, q_fb0, q_fb1, q_nor, q_nar, q_for, q_far, q_non, q_nan, q_fon, q_fan, imp_false, false_and, and_false, and_self, false_or, or_false, va_rf, refKind, k_X3_measure_57]
          refine ⟨fun _ => ?_, fun c9 => absurd (by decide) c9⟩
          exact hK 20 (s * 50 + 49) _ _ _ _ _ (by omega) ⟨T', hG', hf, rfl, Or.inl ⟨rfl, s, _, _, some (.int (nI 0 - 1)), by omega, rfl, by rw [nI_mm (nI s)], fun i j hi hj h9 => hT i j hi hj (by omega)⟩⟩
        · rw [nI_pred]
          have hcl := RN_cl (lk := lkc fa fb c) (la := na) (lb := nb) (i := s) (j := u) ⟨hs, by omega⟩
          have t1 := hT (s + 1) u (by omega) (by omega) (Or.inl (by omega))
          have t2 := hT s (u + 1) (by omega) (by omega) (by omega)
          have t3 := hT (s + 1) (u + 1) (by omega) (by omega) (Or.inl (by omega))
          have l1 := hRle (s + 1) u
          have l2 := hRle s (u + 1)
          have l3 := hRle (s + 1) (u + 1)
          have J123 : ∀ v : Int32, v = nI (RN (lkc fa fb c) na nb s u) → k_X3_measure_123 post K [some (.ref cp), some (.ref a), some (.ref b), some (.ref cl), some (.int (nI s)), some (.int (fa s)), some (.int (if comC c (fa s) then 0 else 1)), some (.int (nI u))] [.int v, .int (nI u), .int (nI s), .ref cp] σ' cr sr := fun v hv => by
            simp only [c_push, c_null, c_iload, c_aload, c_istore, c_astore, c_iinc, c_iadd, c_isub, c_imul, c_iand, c_ineg, c_dup, c_dup2, c_pop, c_ifnull, c_ifnonnull, c_get, c_put, c_iald, c_zald, c_iast, c_zast, c_aald, c_aast, c_alen, c_new, c_newa, c_newq, c_mna, c_oinit, c_max, c_copy, c_iret, c_zret, c_aret, c_vret, q_do, q_rc, c_ifeq, c_ifne, c_iflt, c_ifge, c_ifgt, c_ifle, c_iceq, c_icne, c_iclt, c_icge, c_icgt, c_icle, c_call0, c_call1, c_call2, c_call3, c_call4, c_call5, c_call6, c_call7, q_L0, List.map_cons, List.map_nil, List.replicate, List.cons_append, List.nil_append, List.append_nil, List.length_cons, List.length_nil, List.length_set, Nat.reduceSub, Nat.reduceAdd, Nat.reduceLT, Nat.reduceLeDiff, Nat.zero_add, Nat.add_zero, Nat.sub_zero, Nat.sub_self, List.getElem?_cons_zero, List.getElem?_cons_succ, List.set_cons_zero, List.set_cons_succ, Option.toList_some, Option.toList_none, List.sum_cons, List.sum_nil, true_and, and_true, true_or, or_true, Nat.le_refl, Nat.zero_le, Value.category, Fin.isValue, Fin.val_zero, Fin.val_one, Fin.val_two, Fin.reduceFinMk, q_10, q_01, not_false_eq_true, not_true_eq_false, forall_const, true_implies, false_implies, implies_true, q_ni, q_fi, q_nb0, q_nb1, q_fb0, q_fb1, q_nor, q_nar, q_for, q_far, q_non, q_nan, q_fon, q_fan, imp_false, false_and, and_false, and_self, false_or, or_false, va_rf, refKind, k_X3_measure_123, hoc]
            refine ⟨R, T', hG', ⟨⟨nI_low (by omega), nI_leN (N := 20) (by omega)⟩, nI_low (by omega), nI_leN (N := 20) (by omega)⟩, fun σ2 hG2 hf2 => ?_⟩
            simp only [c_push, c_null, c_iload, c_aload, c_istore, c_astore, c_iinc, c_iadd, c_isub, c_imul, c_iand, c_ineg, c_dup, c_dup2, c_pop, c_ifnull, c_ifnonnull, c_get, c_put, c_iald, c_zald, c_iast, c_zast, c_aald, c_aast, c_alen, c_new, c_newa, c_newq, c_mna, c_oinit, c_max, c_copy, c_iret, c_zret, c_aret, c_vret, q_do, q_rc, c_ifeq, c_ifne, c_iflt, c_ifge, c_ifgt, c_ifle, c_iceq, c_icne, c_iclt, c_icge, c_icgt, c_icle, c_call0, c_call1, c_call2, c_call3, c_call4, c_call5, c_call6, c_call7, q_L0, List.map_cons, List.map_nil, List.replicate, List.cons_append, List.nil_append, List.append_nil, List.length_cons, List.length_nil, List.length_set, Nat.reduceSub, Nat.reduceAdd, Nat.reduceLT, Nat.reduceLeDiff, Nat.zero_add, Nat.add_zero, Nat.sub_zero, Nat.sub_self, List.getElem?_cons_zero, List.getElem?_cons_succ, List.set_cons_zero, List.set_cons_succ, Option.toList_some, Option.toList_none, List.sum_cons, List.sum_nil, true_and, and_true, true_or, or_true, Nat.le_refl, Nat.zero_le, Value.category, Fin.isValue, Fin.val_zero, Fin.val_one, Fin.val_two, Fin.reduceFinMk, q_10, q_01, not_false_eq_true, not_true_eq_false, forall_const, true_implies, false_implies, implies_true, q_ni, q_fi, q_nb0, q_nb1, q_fb0, q_fb1, q_nor, q_nar, q_for, q_far, q_non, q_nan, q_fon, q_fan, imp_false, false_and, and_false, and_self, false_or, or_false, va_rf, refKind]
            rw [clN (by omega), clN (by omega)] at hG2
            refine hK 57 ((s + 1) * 50 + u) _ _ _ _ _ (by omega) ⟨_, hG2, hf.trans hf2, rfl, Or.inr ⟨rfl, s, u, hs, by omega, rfl, by rw [nI_mm (nI u)], fun i j hi hj h9 => ?_⟩⟩
            unfold M2
            by_cases e : i = s ∧ j = u
            · rw [if_pos e, e.1, e.2]; exact hv
            · rw [if_neg e]; exact hT i j hi hj (by omega)
          have J100 : lkc fa fb c s u = false → k_X3_measure_100 post K [some (.ref cp), some (.ref a), some (.ref b), some (.ref cl), some (.int (nI s)), some (.int (fa s)), some (.int (if comC c (fa s) then 0 else 1)), some (.int (nI u))] [.int (nI u), .int (nI s), .ref cp] σ' cr sr := fun hlk => by
            simp only [c_push, c_null, c_iload, c_aload, c_istore, c_astore, c_iinc, c_iadd, c_isub, c_imul, c_iand, c_ineg, c_dup, c_dup2, c_pop, c_ifnull, c_ifnonnull, c_get, c_put, c_iald, c_zald, c_iast, c_zast, c_aald, c_aast, c_alen, c_new, c_newa, c_newq, c_mna, c_oinit, c_max, c_copy, c_iret, c_zret, c_aret, c_vret, q_do, q_rc, c_ifeq, c_ifne, c_iflt, c_ifge, c_ifgt, c_ifle, c_iceq, c_icne, c_iclt, c_icge, c_icgt, c_icle, c_call0, c_call1, c_call2, c_call3, c_call4, c_call5, c_call6, c_call7, q_L0, List.map_cons, List.map_nil, List.replicate, List.cons_append, List.nil_append, List.append_nil, List.length_cons, List.length_nil, List.length_set, Nat.reduceSub, Nat.reduceAdd, Nat.reduceLT, Nat.reduceLeDiff, Nat.zero_add, Nat.add_zero, Nat.sub_zero, Nat.sub_self, List.getElem?_cons_zero, List.getElem?_cons_succ, List.set_cons_zero, List.set_cons_succ, Option.toList_some, Option.toList_none, List.sum_cons, List.sum_nil, true_and, and_true, true_or, or_true, Nat.le_refl, Nat.zero_le, Value.category, Fin.isValue, Fin.val_zero, Fin.val_one, Fin.val_two, Fin.reduceFinMk, q_10, q_01, not_false_eq_true, not_true_eq_false, forall_const, true_implies, false_implies, implies_true, q_ni, q_fi, q_nb0, q_nb1, q_fb0, q_fb1, q_nor, q_nar, q_for, q_far, q_non, q_nan, q_fon, q_fan, imp_false, false_and, and_false, and_self, false_or, or_false, va_rf, refKind, k_X3_measure_100, hoc]
            rw [nI_1]
            refine ⟨R, T', hG', ⟨⟨nI_low (by omega), nI_leN (N := 20) (by omega)⟩, nI_low (by omega), nI_leN (N := 20) (by omega)⟩, ?_⟩
            rw [clN (by omega), clN (by omega), t1]
            simp only [c_push, c_null, c_iload, c_aload, c_istore, c_astore, c_iinc, c_iadd, c_isub, c_imul, c_iand, c_ineg, c_dup, c_dup2, c_pop, c_ifnull, c_ifnonnull, c_get, c_put, c_iald, c_zald, c_iast, c_zast, c_aald, c_aast, c_alen, c_new, c_newa, c_newq, c_mna, c_oinit, c_max, c_copy, c_iret, c_zret, c_aret, c_vret, q_do, q_rc, c_ifeq, c_ifne, c_iflt, c_ifge, c_ifgt, c_ifle, c_iceq, c_icne, c_iclt, c_icge, c_icgt, c_icle, c_call0, c_call1, c_call2, c_call3, c_call4, c_call5, c_call6, c_call7, q_L0, List.map_cons, List.map_nil, List.replicate, List.cons_append, List.nil_append, List.append_nil, List.length_cons, List.length_nil, List.length_set, Nat.reduceSub, Nat.reduceAdd, Nat.reduceLT, Nat.reduceLeDiff, Nat.zero_add, Nat.add_zero, Nat.sub_zero, Nat.sub_self, List.getElem?_cons_zero, List.getElem?_cons_succ, List.set_cons_zero, List.set_cons_succ, Option.toList_some, Option.toList_none, List.sum_cons, List.sum_nil, true_and, and_true, true_or, or_true, Nat.le_refl, Nat.zero_le, Value.category, Fin.isValue, Fin.val_zero, Fin.val_one, Fin.val_two, Fin.reduceFinMk, q_10, q_01, not_false_eq_true, not_true_eq_false, forall_const, true_implies, false_implies, implies_true, q_ni, q_fi, q_nb0, q_nb1, q_fb0, q_fb1, q_nor, q_nar, q_for, q_far, q_non, q_nan, q_fon, q_fan, imp_false, false_and, and_false, and_self, false_or, or_false, va_rf, refKind, hoc]
            rw [nI_1]
            refine ⟨R, T', hG', ⟨⟨nI_low (by omega), nI_leN (N := 20) (by omega)⟩, nI_low (by omega), nI_leN (N := 20) (by omega)⟩, ?_⟩
            rw [clN (by omega), clN (by omega), t2]
            simp only [c_push, c_null, c_iload, c_aload, c_istore, c_astore, c_iinc, c_iadd, c_isub, c_imul, c_iand, c_ineg, c_dup, c_dup2, c_pop, c_ifnull, c_ifnonnull, c_get, c_put, c_iald, c_zald, c_iast, c_zast, c_aald, c_aast, c_alen, c_new, c_newa, c_newq, c_mna, c_oinit, c_max, c_copy, c_iret, c_zret, c_aret, c_vret, q_do, q_rc, c_ifeq, c_ifne, c_iflt, c_ifge, c_ifgt, c_ifle, c_iceq, c_icne, c_iclt, c_icge, c_icgt, c_icle, c_call0, c_call1, c_call2, c_call3, c_call4, c_call5, c_call6, c_call7, q_L0, List.map_cons, List.map_nil, List.replicate, List.cons_append, List.nil_append, List.append_nil, List.length_cons, List.length_nil, List.length_set, Nat.reduceSub, Nat.reduceAdd, Nat.reduceLT, Nat.reduceLeDiff, Nat.zero_add, Nat.add_zero, Nat.sub_zero, Nat.sub_self, List.getElem?_cons_zero, List.getElem?_cons_succ, List.set_cons_zero, List.set_cons_succ, Option.toList_some, Option.toList_none, List.sum_cons, List.sum_nil, true_and, and_true, true_or, or_true, Nat.le_refl, Nat.zero_le, Value.category, Fin.isValue, Fin.val_zero, Fin.val_one, Fin.val_two, Fin.reduceFinMk, q_10, q_01, not_false_eq_true, not_true_eq_false, forall_const, true_implies, false_implies, implies_true, q_ni, q_fi, q_nb0, q_nb1, q_fb0, q_fb1, q_nor, q_nar, q_for, q_far, q_non, q_nan, q_fon, q_fan, imp_false, false_and, and_false, and_self, false_or, or_false, va_rf, refKind]
            rw [mxN2 (by omega) (by omega)]
            exact J123 _ (by rw [hcl, if_neg (by rw [hlk]; decide)])
          have J62 : k_X3_measure_62 post K [some (.ref cp), some (.ref a), some (.ref b), some (.ref cl), some (.int (nI s)), some (.int (fa s)), some (.int (if comC c (fa s) then 0 else 1)), some (.int (nI u))] [] σ' cr sr := by
            simp only [c_push, c_null, c_iload, c_aload, c_istore, c_astore, c_iinc, c_iadd, c_isub, c_imul, c_iand, c_ineg, c_dup, c_dup2, c_pop, c_ifnull, c_ifnonnull, c_get, c_put, c_iald, c_zald, c_iast, c_zast, c_aald, c_aast, c_alen, c_new, c_newa, c_newq, c_mna, c_oinit, c_max, c_copy, c_iret, c_zret, c_aret, c_vret, q_do, q_rc, c_ifeq, c_ifne, c_iflt, c_ifge, c_ifgt, c_ifle, c_iceq, c_icne, c_iclt, c_icge, c_icgt, c_icle, c_call0, c_call1, c_call2, c_call3, c_call4, c_call5, c_call6, c_call7, q_L0, List.map_cons, List.map_nil, List.replicate, List.cons_append, List.nil_append, List.append_nil, List.length_cons, List.length_nil, List.length_set, Nat.reduceSub, Nat.reduceAdd, Nat.reduceLT, Nat.reduceLeDiff, Nat.zero_add, Nat.add_zero, Nat.sub_zero, Nat.sub_self, List.getElem?_cons_zero, List.getElem?_cons_succ, List.set_cons_zero, List.set_cons_succ, Option.toList_some, Option.toList_none, List.sum_cons, List.sum_nil, true_and, and_true, true_or, or_true, Nat.le_refl, Nat.zero_le, Value.category, Fin.isValue, Fin.val_zero, Fin.val_one, Fin.val_two, Fin.reduceFinMk, q_10, q_01, not_false_eq_true, not_true_eq_false, forall_const, true_implies, false_implies, implies_true, q_ni, q_fi, q_nb0, q_nb1, q_fb0, q_fb1, q_nor, q_nar, q_for, q_far, q_non, q_nan, q_fon, q_fan, imp_false, false_and, and_false, and_self, false_or, or_false, va_rf, refKind, k_X3_measure_62, o2, s_X5_rowAt, hB'.1.2, hB'.2.1.2]
            rw [(cl2 (nI u) (nI nb) _ _ rfl rfl (by omega) (by omega)).2.1, clN (by omega)]
            have hlkd : lkc fa fb c s u = decide (¬ comC c (fa s) ∧ fa s = fb u) := rfl
            by_cases hcm : comC c (fa s)
            · rw [if_pos hcm]
              refine ⟨fun _ => ?_, fun c9 => absurd rfl c9⟩
              have := J100 (by rw [hlkd]; simp [hcm])
              rw [if_pos hcm] at this
              exact this
            · rw [if_neg hcm]
              refine ⟨fun c9 => absurd c9 (by decide), fun _ => ⟨nI_leN (N := 20) (by omega), fun _ => ⟨fun c2 => ?_, fun c2 => ?_⟩, fun c1 => absurd ⟨nI_low (by omega), by omega⟩ c1⟩⟩
              · have := J100 (by rw [hlkd]; simp [c2])
                rw [if_neg hcm] at this
                exact this
              · simp only [c_push, c_null, c_iload, c_aload, c_istore, c_astore, c_iinc, c_iadd, c_isub, c_imul, c_iand, c_ineg, c_dup, c_dup2, c_pop, c_ifnull, c_ifnonnull, c_get, c_put, c_iald, c_zald, c_iast, c_zast, c_aald, c_aast, c_alen, c_new, c_newa, c_newq, c_mna, c_oinit, c_max, c_copy, c_iret, c_zret, c_aret, c_vret, q_do, q_rc, c_ifeq, c_ifne, c_iflt, c_ifge, c_ifgt, c_ifle, c_iceq, c_icne, c_iclt, c_icge, c_icgt, c_icle, c_call0, c_call1, c_call2, c_call3, c_call4, c_call5, c_call6, c_call7, q_L0, List.map_cons, List.map_nil, List.replicate, List.cons_append, List.nil_append, List.append_nil, List.length_cons, List.length_nil, List.length_set, Nat.reduceSub, Nat.reduceAdd, Nat.reduceLT, Nat.reduceLeDiff, Nat.zero_add, Nat.add_zero, Nat.sub_zero, Nat.sub_self, List.getElem?_cons_zero, List.getElem?_cons_succ, List.set_cons_zero, List.set_cons_succ, Option.toList_some, Option.toList_none, List.sum_cons, List.sum_nil, true_and, and_true, true_or, or_true, Nat.le_refl, Nat.zero_le, Value.category, Fin.isValue, Fin.val_zero, Fin.val_one, Fin.val_two, Fin.reduceFinMk, q_10, q_01, not_false_eq_true, not_true_eq_false, forall_const, true_implies, false_implies, implies_true, q_ni, q_fi, q_nb0, q_nb1, q_fb0, q_fb1, q_nor, q_nar, q_for, q_far, q_non, q_nan, q_fon, q_fan, imp_false, false_and, and_false, and_self, false_or, or_false, va_rf, refKind, hoc]
                rw [nI_1, nI_1]
                refine ⟨R, T', hG', ⟨⟨nI_low (by omega), nI_leN (N := 20) (by omega)⟩, nI_low (by omega), nI_leN (N := 20) (by omega)⟩, ?_⟩
                rw [clN (by omega), clN (by omega), t3]
                simp only [c_push, c_null, c_iload, c_aload, c_istore, c_astore, c_iinc, c_iadd, c_isub, c_imul, c_iand, c_ineg, c_dup, c_dup2, c_pop, c_ifnull, c_ifnonnull, c_get, c_put, c_iald, c_zald, c_iast, c_zast, c_aald, c_aast, c_alen, c_new, c_newa, c_newq, c_mna, c_oinit, c_max, c_copy, c_iret, c_zret, c_aret, c_vret, q_do, q_rc, c_ifeq, c_ifne, c_iflt, c_ifge, c_ifgt, c_ifle, c_iceq, c_icne, c_iclt, c_icge, c_icgt, c_icle, c_call0, c_call1, c_call2, c_call3, c_call4, c_call5, c_call6, c_call7, q_L0, List.map_cons, List.map_nil, List.replicate, List.cons_append, List.nil_append, List.append_nil, List.length_cons, List.length_nil, List.length_set, Nat.reduceSub, Nat.reduceAdd, Nat.reduceLT, Nat.reduceLeDiff, Nat.zero_add, Nat.add_zero, Nat.sub_zero, Nat.sub_self, List.getElem?_cons_zero, List.getElem?_cons_succ, List.set_cons_zero, List.set_cons_succ, Option.toList_some, Option.toList_none, List.sum_cons, List.sum_nil, true_and, and_true, true_or, or_true, Nat.le_refl, Nat.zero_le, Value.category, Fin.isValue, Fin.val_zero, Fin.val_one, Fin.val_two, Fin.reduceFinMk, q_10, q_01, not_false_eq_true, not_true_eq_false, forall_const, true_implies, false_implies, implies_true, q_ni, q_fi, q_nb0, q_nb1, q_fb0, q_fb1, q_nor, q_nar, q_for, q_far, q_non, q_nan, q_fon, q_fan, imp_false, false_and, and_false, and_self, false_or, or_false, va_rf, refKind]
                have hlk : lkc fa fb c s u = true := by rw [hlkd]; exact decide_eq_true ⟨hcm, c2⟩
                rw [hlk] at hcl
                have := J123 _ (show nI (RN (lkc fa fb c) na nb (s + 1) (u + 1)) + 1 = _ by rw [hcl, nI_1]; rfl)
                rw [if_neg hcm] at this
                exact this
          simp only [c_push, c_null, c_iload, c_aload, c_istore, c_astore, c_iinc, c_iadd, c_isub, c_imul, c_iand, c_ineg, c_dup, c_dup2, c_pop, c_ifnull, c_ifnonnull, c_get, c_put, c_iald, c_zald, c_iast, c_zast, c_aald, c_aast, c_alen, c_new, c_newa, c_newq, c_mna, c_oinit, c_max, c_copy, c_iret, c_zret, c_aret, c_vret, q_do, q_rc, c_ifeq, c_ifne, c_iflt, c_ifge, c_ifgt, c_ifle, c_iceq, c_icne, c_iclt, c_icge, c_icgt, c_icle, c_call0, c_call1, c_call2, c_call3, c_call4, c_call5, c_call6, c_call7, q_L0, List.map_cons, List.map_nil, List.replicate, List.cons_append, List.nil_append, List.append_nil, List.length_cons, List.length_nil, List.length_set, Nat.reduceSub, Nat.reduceAdd, Nat.reduceLT, Nat.reduceLeDiff, Nat.zero_add, Nat.add_zero, Nat.sub_zero, Nat.sub_self, List.getElem?_cons_zero, List.getElem?_cons_succ, List.set_cons_zero, List.set_cons_succ, Option.toList_some, Option.toList_none, List.sum_cons, List.sum_nil, true_and, and_true, true_or, or_true, Nat.le_refl, Nat.zero_le, Value.category, Fin.isValue, Fin.val_zero, Fin.val_one, Fin.val_two, Fin.reduceFinMk, q_10, q_01, not_false_eq_true, not_true_eq_false, forall_const, true_implies, false_implies, implies_true, q_ni, q_fi, q_nb0, q_nb1, q_fb0, q_fb1, q_nor, q_nar, q_for, q_far, q_non, q_nan, q_fon, q_fan, imp_false, false_and, and_false, and_self, false_or, or_false, va_rf, refKind, k_X3_measure_57]
          exact ⟨fun c9 => absurd c9 (nI_pos (by omega)), fun _ => J62⟩
  · exact h.elim)
-- placeOf
def s_X3_placeOf : q_Sp := fun av σ post => match av with
  | [.ref cp, .ref a, .ref b, .ref cl, .int ix, .int fl] => ∃ R T ra fa na rb fb nb ca cv c kn, GrP σ R cp T ∧ LnF σ R a ra fa na ∧ LnF σ R b rb fb nb ∧ CmF σ R cl ca cv c ∧ ix = nI kn ∧ kn < 2147483648 ∧ (fl = 0 ∨ fl = 1) ∧ ∀ σ' T', GrP σ' R cp T' → q_fm σ R σ' R → post (some (.int (pairF (PW (lkc fa fb c) na nb 0 0 (RN (lkc fa fb c) na nb 0 0) kn) (1 - fl)))) σ'
  | _ => False
theorem w9_242 : (.code yX3_measure cX3_measure 8 (some .int) : Cond) ∈ lw_tbl := by decide +kernel
theorem w9_243 : (.methodLink RX3 52 yX3_measure : Cond) ∈ lw_tbl := by decide +kernel
theorem w9_244 : (.instanceMethod yX3_measure : Cond) ∈ lw_tbl := by decide +kernel
theorem w9_245 : (.selects RX3 yX3_measure yX3_measure : Cond) ∈ lw_tbl := by decide +kernel
theorem w9_246 : (.code yX5_firstPlaceOf cX5_firstPlaceOf 4 (some .int) : Cond) ∈ lw_tbl := by decide +kernel
theorem w9_247 : (.methodLink RX3 56 yX5_firstPlaceOf : Cond) ∈ lw_tbl := by decide +kernel
theorem w9_248 : (.instanceMethod yX5_firstPlaceOf : Cond) ∈ lw_tbl := by decide +kernel
theorem w9_249 : (.selects RX5 yX5_firstPlaceOf yX5_firstPlaceOf : Cond) ∈ lw_tbl := by decide +kernel
def rm_X3_placeOf : Room := { frames := 4, cells := 0, slots := 0, locals := 93 }
def k_X3_placeOf_0 (post : Option Value → q_S → Prop) (K : Nat → q_K) : q_K := (c_aload 0 (c_aload 1 (c_aload 2 (c_aload 3 (c_call4 (some 3) s_X3_measure 0 0 (c_istore 6 (c_push 0 (c_istore 7 (c_push 0 (c_istore 8 (c_push 0 (c_istore 9 (K 18)))))))))))))
def k_X3_placeOf_102 (post : Option Value → q_S → Prop) (K : Nat → q_K) : q_K := (c_iret post)
def k_X3_placeOf_115 (post : Option Value → q_S → Prop) (K : Nat → q_K) : q_K := (c_iinc 9 1 (K 18))
def k_X3_placeOf_83 (post : Option Value → q_S → Prop) (K : Nat → q_K) : q_K := (c_iload 8 (c_iload 4 (c_icne (c_iinc 8 1 (c_iinc 6 (-1) (c_iload 11 (c_push 1 (c_iadd (c_istore 7 (k_X3_placeOf_115 post K))))))) (c_iload 5 (c_ifeq (c_iload 11 (k_X3_placeOf_102 post K)) (c_iload 9 (k_X3_placeOf_102 post K)))))))
def k_X3_placeOf_64 (post : Option Value → q_S → Prop) (K : Nat → q_K) : q_K := (c_aload 0 (c_iload 9 (c_push 1 (c_iadd (c_iload 11 (c_push 1 (c_iadd (c_call3 (some 3) s_X3_restFrom 0 0 (c_push 1 (c_iadd (c_iload 6 (c_icne (k_X3_placeOf_115 post K) (k_X3_placeOf_83 post K)))))))))))))
def k_X3_placeOf_56 (post : Option Value → q_S → Prop) (K : Nat → q_K) : q_K := (c_istore 11 (c_iload 11 (c_push (-1) (c_iceq (k_X3_placeOf_115 post K) (k_X3_placeOf_64 post K)))))
def k_X3_placeOf_18 (post : Option Value → q_S → Prop) (K : Nat → q_K) : q_K := (c_iload 9 (c_aload 1 (c_get 5 1 (c_icge (c_push (-1) (c_iret post)) (c_aload 1 (c_iload 9 (c_call2 (some 5) s_X5_rowAt 0 0 (c_istore 10 (c_aload 3 (c_iload 10 (c_call2 (some 2) s_X2_contain 0 0 (c_ifeq (c_aload 2 (c_iload 10 (c_iload 7 (c_call3 (some 5) s_X5_firstPlaceOf 0 0 (k_X3_placeOf_56 post K))))) (c_push (-1) (k_X3_placeOf_56 post K))))))))))))))
set_option maxRecDepth 100000 in
theorem v_X3_placeOf_0 {p : Program} {l : Launch} {e : Env} {s : State} {m : MethodId} {args : Array Value} {below : List Frame} {meth : Method} {c : Code} {D : va_G} {A : Nat → Prop} {post : Option Value → q_S → Prop} {K : Nat → q_K} (C : q_C p s m args meth c cX3_placeOf 12 RX3 "placeOf" (some .int) A) (hK : ∀ h ∈ ([18] : List Nat), q_V p l e rm_X3_placeOf s m args below meth c D A 12 (MQ below (q_Qc D A post) args s rm_X3_placeOf.cells rm_X3_placeOf.slots A) h (K h)) : q_V p l e rm_X3_placeOf s m args below meth c D A 12 (MQ below (q_Qc D A post) args s rm_X3_placeOf.cells rm_X3_placeOf.slots A) 0 (k_X3_placeOf_0 post K) := by
  unfold k_X3_placeOf_0
  refine q_aload_n C (by decide +kernel : decode cX3_placeOf 0 = .ok (.aload_n 0, 1)) ?_
  refine q_aload_n C (by decide +kernel : decode cX3_placeOf 1 = .ok (.aload_n 1, 1)) ?_
  refine q_aload_n C (by decide +kernel : decode cX3_placeOf 2 = .ok (.aload_n 2, 1)) ?_
  refine q_aload_n C (by decide +kernel : decode cX3_placeOf 3 = .ok (.aload_n 3, 1)) ?_
  refine q_call4 C (q_coV C (np := 3) (ci := 3) (rc := (RX3, TX3, 1)) (t_X3_measure l) w9_242 rfl rfl w9_243 w9_244 w9_245 w9_223 (by decide +kernel) (by decide +kernel : decode cX3_placeOf 4 = .ok (.invokevirtual 52, 3)) (by decide)) ?_
  refine q_istore C (by decide +kernel : decode cX3_placeOf 7 = .ok (.istore 6, 2)) ?_
  refine q_iconst C (by decide +kernel : decode cX3_placeOf 9 = .ok (.iconst 0, 1)) (by decide) ?_
  refine q_istore C (by decide +kernel : decode cX3_placeOf 10 = .ok (.istore 7, 2)) ?_
  refine q_iconst C (by decide +kernel : decode cX3_placeOf 12 = .ok (.iconst 0, 1)) (by decide) ?_
  refine q_istore C (by decide +kernel : decode cX3_placeOf 13 = .ok (.istore 8, 2)) ?_
  refine q_iconst C (by decide +kernel : decode cX3_placeOf 15 = .ok (.iconst 0, 1)) (by decide) ?_
  refine q_istore C (by decide +kernel : decode cX3_placeOf 16 = .ok (.istore 9, 2)) ?_
  exact hK 18 (by decide)
set_option maxRecDepth 100000 in
theorem v_X3_placeOf_102 {p : Program} {l : Launch} {e : Env} {s : State} {m : MethodId} {args : Array Value} {below : List Frame} {meth : Method} {c : Code} {D : va_G} {A : Nat → Prop} {post : Option Value → q_S → Prop} {K : Nat → q_K} (C : q_C p s m args meth c cX3_placeOf 12 RX3 "placeOf" (some .int) A) (hK : ∀ h ∈ ([18] : List Nat), q_V p l e rm_X3_placeOf s m args below meth c D A 12 (MQ below (q_Qc D A post) args s rm_X3_placeOf.cells rm_X3_placeOf.slots A) h (K h)) : q_V p l e rm_X3_placeOf s m args below meth c D A 12 (MQ below (q_Qc D A post) args s rm_X3_placeOf.cells rm_X3_placeOf.slots A) 102 (k_X3_placeOf_102 post K) := by
  unfold k_X3_placeOf_102
  exact q_iret C rfl (by decide +kernel : decode cX3_placeOf 102 = .ok (.ireturn, 1))
set_option maxRecDepth 100000 in
theorem v_X3_placeOf_115 {p : Program} {l : Launch} {e : Env} {s : State} {m : MethodId} {args : Array Value} {below : List Frame} {meth : Method} {c : Code} {D : va_G} {A : Nat → Prop} {post : Option Value → q_S → Prop} {K : Nat → q_K} (C : q_C p s m args meth c cX3_placeOf 12 RX3 "placeOf" (some .int) A) (hK : ∀ h ∈ ([18] : List Nat), q_V p l e rm_X3_placeOf s m args below meth c D A 12 (MQ below (q_Qc D A post) args s rm_X3_placeOf.cells rm_X3_placeOf.slots A) h (K h)) : q_V p l e rm_X3_placeOf s m args below meth c D A 12 (MQ below (q_Qc D A post) args s rm_X3_placeOf.cells rm_X3_placeOf.slots A) 115 (k_X3_placeOf_115 post K) := by
  unfold k_X3_placeOf_115
  refine q_iinc C (by decide +kernel : decode cX3_placeOf 115 = .ok (.iinc 9 1, 3)) (by decide) ?_
  refine q_goto C (tgt := 18) (by decide +kernel : decode cX3_placeOf 118 = .ok (.goto (-100), 3)) (by decide) ?_
  exact hK 18 (by decide)
set_option maxRecDepth 100000 in
theorem v_X3_placeOf_83 {p : Program} {l : Launch} {e : Env} {s : State} {m : MethodId} {args : Array Value} {below : List Frame} {meth : Method} {c : Code} {D : va_G} {A : Nat → Prop} {post : Option Value → q_S → Prop} {K : Nat → q_K} (C : q_C p s m args meth c cX3_placeOf 12 RX3 "placeOf" (some .int) A) (hK : ∀ h ∈ ([18] : List Nat), q_V p l e rm_X3_placeOf s m args below meth c D A 12 (MQ below (q_Qc D A post) args s rm_X3_placeOf.cells rm_X3_placeOf.slots A) h (K h)) : q_V p l e rm_X3_placeOf s m args below meth c D A 12 (MQ below (q_Qc D A post) args s rm_X3_placeOf.cells rm_X3_placeOf.slots A) 83 (k_X3_placeOf_83 post K) := by
  unfold k_X3_placeOf_83
  refine q_iload C (by decide +kernel : decode cX3_placeOf 83 = .ok (.iload 8, 2)) ?_
  refine q_iload C (by decide +kernel : decode cX3_placeOf 85 = .ok (.iload 4, 2)) ?_
  refine q_icne C (tgt := 103) (by decide +kernel : decode cX3_placeOf 87 = .ok (.if_icmp .ne 16, 3)) (by decide) ?_ ?_
  · refine q_iinc C (by decide +kernel : decode cX3_placeOf 103 = .ok (.iinc 8 1, 3)) (by decide) ?_
    refine q_iinc C (by decide +kernel : decode cX3_placeOf 106 = .ok (.iinc 6 (-1), 3)) (by decide) ?_
    refine q_iload C (by decide +kernel : decode cX3_placeOf 109 = .ok (.iload 11, 2)) ?_
    refine q_iconst C (by decide +kernel : decode cX3_placeOf 111 = .ok (.iconst 1, 1)) (by decide) ?_
    refine q_iadd C (by decide +kernel : decode cX3_placeOf 112 = .ok (.iadd, 1)) ?_
    refine q_istore C (by decide +kernel : decode cX3_placeOf 113 = .ok (.istore 7, 2)) ?_
    exact v_X3_placeOf_115 C hK
  · refine q_iload C (by decide +kernel : decode cX3_placeOf 90 = .ok (.iload 5, 2)) ?_
    refine q_ifeq C (tgt := 100) (by decide +kernel : decode cX3_placeOf 92 = .ok (.ifCond .eq 8, 3)) (by decide) ?_ ?_
    · refine q_iload C (by decide +kernel : decode cX3_placeOf 100 = .ok (.iload 11, 2)) ?_
      exact v_X3_placeOf_102 C hK
    · refine q_iload C (by decide +kernel : decode cX3_placeOf 95 = .ok (.iload 9, 2)) ?_
      refine q_goto C (tgt := 102) (by decide +kernel : decode cX3_placeOf 97 = .ok (.goto 5, 3)) (by decide) ?_
      exact v_X3_placeOf_102 C hK
set_option maxRecDepth 100000 in
theorem v_X3_placeOf_64 {p : Program} {l : Launch} {e : Env} {s : State} {m : MethodId} {args : Array Value} {below : List Frame} {meth : Method} {c : Code} {D : va_G} {A : Nat → Prop} {post : Option Value → q_S → Prop} {K : Nat → q_K} (C : q_C p s m args meth c cX3_placeOf 12 RX3 "placeOf" (some .int) A) (hK : ∀ h ∈ ([18] : List Nat), q_V p l e rm_X3_placeOf s m args below meth c D A 12 (MQ below (q_Qc D A post) args s rm_X3_placeOf.cells rm_X3_placeOf.slots A) h (K h)) : q_V p l e rm_X3_placeOf s m args below meth c D A 12 (MQ below (q_Qc D A post) args s rm_X3_placeOf.cells rm_X3_placeOf.slots A) 64 (k_X3_placeOf_64 post K) := by
  unfold k_X3_placeOf_64
  refine q_aload_n C (by decide +kernel : decode cX3_placeOf 64 = .ok (.aload_n 0, 1)) ?_
  refine q_iload C (by decide +kernel : decode cX3_placeOf 65 = .ok (.iload 9, 2)) ?_
  refine q_iconst C (by decide +kernel : decode cX3_placeOf 67 = .ok (.iconst 1, 1)) (by decide) ?_
  refine q_iadd C (by decide +kernel : decode cX3_placeOf 68 = .ok (.iadd, 1)) ?_
  refine q_iload C (by decide +kernel : decode cX3_placeOf 69 = .ok (.iload 11, 2)) ?_
  refine q_iconst C (by decide +kernel : decode cX3_placeOf 71 = .ok (.iconst 1, 1)) (by decide) ?_
  refine q_iadd C (by decide +kernel : decode cX3_placeOf 72 = .ok (.iadd, 1)) ?_
  refine q_call3 C (q_coV C (np := 2) (ci := 3) (rc := (RX3, TX3, 1)) (t_X3_restFrom l) w9_236 rfl rfl w9_237 w9_238 w9_239 w9_223 (by decide +kernel) (by decide +kernel : decode cX3_placeOf 73 = .ok (.invokevirtual 39, 3)) (by decide)) ?_
  refine q_iconst C (by decide +kernel : decode cX3_placeOf 76 = .ok (.iconst 1, 1)) (by decide) ?_
  refine q_iadd C (by decide +kernel : decode cX3_placeOf 77 = .ok (.iadd, 1)) ?_
  refine q_iload C (by decide +kernel : decode cX3_placeOf 78 = .ok (.iload 6, 2)) ?_
  refine q_icne C (tgt := 115) (by decide +kernel : decode cX3_placeOf 80 = .ok (.if_icmp .ne 35, 3)) (by decide) ?_ ?_
  · exact v_X3_placeOf_115 C hK
  · exact v_X3_placeOf_83 C hK
set_option maxRecDepth 100000 in
theorem v_X3_placeOf_56 {p : Program} {l : Launch} {e : Env} {s : State} {m : MethodId} {args : Array Value} {below : List Frame} {meth : Method} {c : Code} {D : va_G} {A : Nat → Prop} {post : Option Value → q_S → Prop} {K : Nat → q_K} (C : q_C p s m args meth c cX3_placeOf 12 RX3 "placeOf" (some .int) A) (hK : ∀ h ∈ ([18] : List Nat), q_V p l e rm_X3_placeOf s m args below meth c D A 12 (MQ below (q_Qc D A post) args s rm_X3_placeOf.cells rm_X3_placeOf.slots A) h (K h)) : q_V p l e rm_X3_placeOf s m args below meth c D A 12 (MQ below (q_Qc D A post) args s rm_X3_placeOf.cells rm_X3_placeOf.slots A) 56 (k_X3_placeOf_56 post K) := by
  unfold k_X3_placeOf_56
  refine q_istore C (by decide +kernel : decode cX3_placeOf 56 = .ok (.istore 11, 2)) ?_
  refine q_iload C (by decide +kernel : decode cX3_placeOf 58 = .ok (.iload 11, 2)) ?_
  refine q_iconst C (by decide +kernel : decode cX3_placeOf 60 = .ok (.iconst (-1), 1)) (by decide) ?_
  refine q_iceq C (tgt := 115) (by decide +kernel : decode cX3_placeOf 61 = .ok (.if_icmp .eq 54, 3)) (by decide) ?_ ?_
  · exact v_X3_placeOf_115 C hK
  · exact v_X3_placeOf_64 C hK
set_option maxRecDepth 100000 in
theorem v_X3_placeOf_18 {p : Program} {l : Launch} {e : Env} {s : State} {m : MethodId} {args : Array Value} {below : List Frame} {meth : Method} {c : Code} {D : va_G} {A : Nat → Prop} {post : Option Value → q_S → Prop} {K : Nat → q_K} (C : q_C p s m args meth c cX3_placeOf 12 RX3 "placeOf" (some .int) A) (hK : ∀ h ∈ ([18] : List Nat), q_V p l e rm_X3_placeOf s m args below meth c D A 12 (MQ below (q_Qc D A post) args s rm_X3_placeOf.cells rm_X3_placeOf.slots A) h (K h)) : q_V p l e rm_X3_placeOf s m args below meth c D A 12 (MQ below (q_Qc D A post) args s rm_X3_placeOf.cells rm_X3_placeOf.slots A) 18 (k_X3_placeOf_18 post K) := by
  unfold k_X3_placeOf_18
  refine q_iload C (by decide +kernel : decode cX3_placeOf 18 = .ok (.iload 9, 2)) ?_
  refine q_aload_n C (by decide +kernel : decode cX3_placeOf 20 = .ok (.aload_n 1, 1)) ?_
  refine q_getN C (ci := 5) (j := 1) (C0 := RX5) (T := TX5) (N := 2) rfl iX5 giX5 (by decide) (by decide +kernel) (by decide +kernel : decode cX3_placeOf 21 = .ok (.getfield 20, 3)) ?_
  refine q_icge C (tgt := 121) (by decide +kernel : decode cX3_placeOf 24 = .ok (.if_icmp .ge 97, 3)) (by decide) ?_ ?_
  · refine q_iconst C (by decide +kernel : decode cX3_placeOf 121 = .ok (.iconst (-1), 1)) (by decide) ?_
    exact q_iret C rfl (by decide +kernel : decode cX3_placeOf 122 = .ok (.ireturn, 1))
  · refine q_aload_n C (by decide +kernel : decode cX3_placeOf 27 = .ok (.aload_n 1, 1)) ?_
    refine q_iload C (by decide +kernel : decode cX3_placeOf 28 = .ok (.iload 9, 2)) ?_
    refine q_call2 C (q_coV C (np := 1) (ci := 5) (rc := (RX5, TX5, 2)) (t_X5_rowAt l) w9_150 rfl rfl w9_235 w9_153 w9_154 w9_151 (by decide +kernel) (by decide +kernel : decode cX3_placeOf 30 = .ok (.invokevirtual 30, 3)) (by decide)) ?_
    refine q_istore C (by decide +kernel : decode cX3_placeOf 33 = .ok (.istore 10, 2)) ?_
    refine q_aload_n C (by decide +kernel : decode cX3_placeOf 35 = .ok (.aload_n 3, 1)) ?_
    refine q_iload C (by decide +kernel : decode cX3_placeOf 36 = .ok (.iload 10, 2)) ?_
    refine q_call2 C (q_coV C (np := 1) (ci := 2) (rc := (RX2, TX2, 2)) (t_X2_contain l) w9_160 rfl rfl w9_241 w9_163 w9_164 w9_161 (by decide +kernel) (by decide +kernel : decode cX3_placeOf 38 = .ok (.invokevirtual 34, 3)) (by decide)) ?_
    refine q_ifeq C (tgt := 48) (by decide +kernel : decode cX3_placeOf 41 = .ok (.ifCond .eq 7, 3)) (by decide) ?_ ?_
    · refine q_aload_n C (by decide +kernel : decode cX3_placeOf 48 = .ok (.aload_n 2, 1)) ?_
      refine q_iload C (by decide +kernel : decode cX3_placeOf 49 = .ok (.iload 10, 2)) ?_
      refine q_iload C (by decide +kernel : decode cX3_placeOf 51 = .ok (.iload 7, 2)) ?_
      refine q_call3 C (q_coV C (np := 2) (ci := 5) (rc := (RX5, TX5, 2)) (t_X5_firstPlaceOf l) w9_246 rfl rfl w9_247 w9_248 w9_249 w9_151 (by decide +kernel) (by decide +kernel : decode cX3_placeOf 53 = .ok (.invokevirtual 56, 3)) (by decide)) ?_
      exact v_X3_placeOf_56 C hK
    · refine q_iconst C (by decide +kernel : decode cX3_placeOf 44 = .ok (.iconst (-1), 1)) (by decide) ?_
      refine q_goto C (tgt := 56) (by decide +kernel : decode cX3_placeOf 45 = .ok (.goto 11, 3)) (by decide) ?_
      exact v_X3_placeOf_56 C hK
theorem u_X3_placeOf (l : Launch) {sp : q_Sp} (H : ∀ (av : List Value) (σ : q_S) (post : Option Value → q_S → Prop), sp av σ post → ∃ Inv : Nat → Nat → q_K, (∀ K : Nat → q_K, (∀ (h n : Nat) (L : List (Option Value)) (st : List Value) (σ : q_S) (cr sr : Nat), Inv h n L st σ cr sr → K h L st σ cr sr) → k_X3_placeOf_0 post K (q_L0 av 12) [] σ 0 0) ∧ (∀ (K : Nat → q_K) (n : Nat), (∀ (h m : Nat) (L : List (Option Value)) (st : List Value) (σ : q_S) (cr sr : Nat), m < n → Inv h m L st σ cr sr → K h L st σ cr sr) → ∀ (L : List (Option Value)) (st : List Value) (σ : q_S) (cr sr : Nat), Inv 18 n L st σ cr sr → k_X3_placeOf_18 post K L st σ cr sr) ∧ av.length ≤ 12 ∧ ∀ v ∈ av, v.category = 1) : q_Ct l yX3_placeOf cX3_placeOf 12 (some .int) rm_X3_placeOf sp := by
  refine q_met (by decide) ?_
  intro D A p e s m args below meth c σ av post C hsp
  obtain ⟨Inv, h1, hh18, h2, h3⟩ := H av σ post hsp
  have hV := q_loops (p := p) (l := l) (e := e) (R := rm_X3_placeOf) (s := s) (m := m) (args := args) (below := below) (meth := meth) (c := c) (D := D) (A := A) (nL := 12) (Q := MQ below (q_Qc D A post) args s rm_X3_placeOf.cells rm_X3_placeOf.slots A) [18] (fun h =>  k_X3_placeOf_18 post) (fun K hK h hh => ?_) Inv (fun n h hh => ?_)
  · exact ⟨_, v_X3_placeOf_0 C hV, h1 _ (fun h n L st σ cr sr hi => ⟨n, hi⟩), h2, h3⟩
  · have e9 : h = 18 := by simpa using hh
    subst e9
    exact v_X3_placeOf_18 C hK
  · have e9 : h = 18 := by simpa using hh
    subst e9
    exact hh18 (fun h L st σ cr sr => ∃ m : Nat, m < n ∧ Inv h m L st σ cr sr) n (fun h m L st σ cr sr hm hi => ⟨m, hm, hi⟩)
theorem t_X3_placeOf (l : Launch) : q_Ct l yX3_placeOf cX3_placeOf 12 (some .int) rm_X3_placeOf s_X3_placeOf := u_X3_placeOf l (by
  intro av σ post h
  unfold s_X3_placeOf at h
  split at h
  · next cp a b cl ix fl =>
    obtain ⟨R, T, ra, fa, na, rb, fb, nb, ca, cv, c, kn, hG, hA, hB, hC, rfl, hkn, hfl, h7⟩ := h
    have hna := hA.2.2
    have hnb := hB.2.2
    have hRle : ∀ i j, RN (lkc fa fb c) na nb i j ≤ na - i := fun i j => RN_le (lkc fa fb c) na nb _ i j (Nat.le_refl _)
    refine ⟨fun _ w L st σ' cr sr => ∃ T' i s m f d10 d11, GrP σ' R cp T' ∧ q_fm σ R σ' R ∧ (∀ i j, i ≤ na → j ≤ nb → T' i j = nI (RN (lkc fa fb c) na nb i j)) ∧ st = [] ∧ i ≤ na ∧ w = na - i ∧ s ≤ nb ∧ m + f = RN (lkc fa fb c) na nb 0 0 ∧ f ≤ kn ∧ PW (lkc fa fb c) na nb i s m (kn - f) = PW (lkc fa fb c) na nb 0 0 (RN (lkc fa fb c) na nb 0 0) kn ∧ L = [some (.ref cp), some (.ref a), some (.ref b), some (.ref cl), some (.int (nI kn)), some (.int fl), some (.int (nI m)), some (.int (nI s)), some (.int (nI f)), some (.int (nI i)), d10, d11], ?_, ?_, by simp, by simp [Value.category]⟩
    · intro K hK
      have hoc : q_oc σ cp = some 3 := by obtain ⟨_, _, h1, -⟩ := hG; simp only [q_oc, h1.2]
      simp only [c_push, c_null, c_iload, c_aload, c_istore, c_astore, c_iinc, c_iadd, c_isub, c_imul, c_iand, c_ineg, c_dup, c_dup2, c_pop, c_ifnull, c_ifnonnull, c_get, c_put, c_iald, c_zald, c_iast, c_zast, c_aald, c_aast, c_alen, c_new, c_newa, c_newq, c_mna, c_oinit, c_max, c_copy, c_iret, c_zret, c_aret, c_vret, q_do, q_rc, c_ifeq, c_ifne, c_iflt, c_ifge, c_ifgt, c_ifle, c_iceq, c_icne, c_iclt, c_icge, c_icgt, c_icle, c_call0, c_call1, c_call2, c_call3, c_call4, c_call5, c_call6, c_call7, q_L0, List.map_cons, List.map_nil, List.replicate, List.cons_append, List.nil_append, List.append_nil, List.length_cons, List.length_nil, List.length_set, Nat.reduceSub, Nat.reduceAdd, Nat.reduceLT, Nat.reduceLeDiff, Nat.zero_add, Nat.add_zero, Nat.sub_zero, Nat.sub_self, List.getElem?_cons_zero, List.getElem?_cons_succ, List.set_cons_zero, List.set_cons_succ, Option.toList_some, Option.toList_none, List.sum_cons, List.sum_nil, true_and, and_true, true_or, or_true, Nat.le_refl, Nat.zero_le, Value.category, Fin.isValue, Fin.val_zero, Fin.val_one, Fin.val_two, Fin.reduceFinMk, q_10, q_01, not_false_eq_true, not_true_eq_false, forall_const, true_implies, false_implies, implies_true, q_ni, q_fi, q_nb0, q_nb1, q_fb0, q_fb1, q_nor, q_nar, q_for, q_far, q_non, q_nan, q_fon, q_fan, imp_false, false_and, and_false, and_self, false_or, or_false, va_rf, refKind, k_X3_placeOf_0, hoc]
      refine ⟨R, T, ra, fa, na, rb, fb, nb, ca, cv, c, hG, hA, hB, hC, fun σ' T' hG' hf hT => ?_⟩
      simp only [c_push, c_null, c_iload, c_aload, c_istore, c_astore, c_iinc, c_iadd, c_isub, c_imul, c_iand, c_ineg, c_dup, c_dup2, c_pop, c_ifnull, c_ifnonnull, c_get, c_put, c_iald, c_zald, c_iast, c_zast, c_aald, c_aast, c_alen, c_new, c_newa, c_newq, c_mna, c_oinit, c_max, c_copy, c_iret, c_zret, c_aret, c_vret, q_do, q_rc, c_ifeq, c_ifne, c_iflt, c_ifge, c_ifgt, c_ifle, c_iceq, c_icne, c_iclt, c_icge, c_icgt, c_icle, c_call0, c_call1, c_call2, c_call3, c_call4, c_call5, c_call6, c_call7, q_L0, List.map_cons, List.map_nil, List.replicate, List.cons_append, List.nil_append, List.append_nil, List.length_cons, List.length_nil, List.length_set, Nat.reduceSub, Nat.reduceAdd, Nat.reduceLT, Nat.reduceLeDiff, Nat.zero_add, Nat.add_zero, Nat.sub_zero, Nat.sub_self, List.getElem?_cons_zero, List.getElem?_cons_succ, List.set_cons_zero, List.set_cons_succ, Option.toList_some, Option.toList_none, List.sum_cons, List.sum_nil, true_and, and_true, true_or, or_true, Nat.le_refl, Nat.zero_le, Value.category, Fin.isValue, Fin.val_zero, Fin.val_one, Fin.val_two, Fin.reduceFinMk, q_10, q_01, not_false_eq_true, not_true_eq_false, forall_const, true_implies, false_implies, implies_true, q_ni, q_fi, q_nb0, q_nb1, q_fb0, q_fb1, q_nor, q_nar, q_for, q_far, q_non, q_nan, q_fon, q_fan, imp_false, false_and, and_false, and_self, false_or, or_false, va_rf, refKind]
      exact hK _ na _ _ _ _ _ ⟨T', 0, 0, RN (lkc fa fb c) na nb 0 0, 0, none, none, hG', hf, hT, rfl, Nat.zero_le _, rfl, Nat.zero_le _, rfl, Nat.zero_le _, rfl, rfl⟩
    · rintro K w hK L st σ' cr sr ⟨T', i, s, m, f, d10, d11, hG', hf, hT, rfl, hi, rfl, hs, hm, hfk, hPW, rfl⟩
      have hR0 := hRle 0 0
      have hA' := hA.fm hf
      have hB' := hB.fm hf
      have hC' := hC.fm hf
      have hoc : q_oc σ' cp = some 3 := by obtain ⟨_, _, h1, -⟩ := hG'; simp only [q_oc, h1.2]
      have f1 : q_fld σ' a 5 1 = some (.int (nI na)) := by simp only [q_fld, hA'.1.2, if_true]; rfl
      have o1 : q_oc σ' a = some 5 := by simp only [q_oc, hA'.1.2]
      have o2 : q_oc σ' b = some 5 := by simp only [q_oc, hB'.1.2]
      have o3 : q_oc σ' cl = some 2 := by simp only [q_oc, hC'.1.2]
      rw [PW] at hPW
      by_cases hlt : i < na
      · rw [if_pos hlt] at hPW
        have J115 : ∀ (s2 m2 f2 : Nat) (x10 x11 : Option Value), s2 ≤ nb → m2 + f2 = RN (lkc fa fb c) na nb 0 0 → f2 ≤ kn → PW (lkc fa fb c) na nb (i + 1) s2 m2 (kn - f2) = PW (lkc fa fb c) na nb 0 0 (RN (lkc fa fb c) na nb 0 0) kn → k_X3_placeOf_115 post K [some (.ref cp), some (.ref a), some (.ref b), some (.ref cl), some (.int (nI kn)), some (.int fl), some (.int (nI m2)), some (.int (nI s2)), some (.int (nI f2)), some (.int (nI i)), x10, x11] [] σ' cr sr := fun s2 m2 f2 x10 x11 q1 q2 q3 q4 => by
          simp only [c_push, c_null, c_iload, c_aload, c_istore, c_astore, c_iinc, c_iadd, c_isub, c_imul, c_iand, c_ineg, c_dup, c_dup2, c_pop, c_ifnull, c_ifnonnull, c_get, c_put, c_iald, c_zald, c_iast, c_zast, c_aald, c_aast, c_alen, c_new, c_newa, c_newq, c_mna, c_oinit, c_max, c_copy, c_iret, c_zret, c_aret, c_vret, q_do, q_rc, c_ifeq, c_ifne, c_iflt, c_ifge, c_ifgt, c_ifle, c_iceq, c_icne, c_iclt, c_icge, c_icgt, c_icle, c_call0, c_call1, c_call2, c_call3, c_call4, c_call5, c_call6, c_call7, q_L0, List.map_cons, List.map_nil, List.replicate, List.cons_append, List.nil_append, List.append_nil, List.length_cons, List.length_nil, List.length_set, Nat.reduceSub, Nat.reduceAdd, Nat.reduceLT, Nat.reduceLeDiff, Nat.zero_add, Nat.add_zero, Nat.sub_zero, Nat.sub_self, List.getElem?_cons_zero, List.getElem?_cons_succ, List.set_cons_zero, List.set_cons_succ, Option.toList_some, Option.toList_none, List.sum_cons, List.sum_nil, true_and, and_true, true_or, or_true, Nat.le_refl, Nat.zero_le, Value.category, Fin.isValue, Fin.val_zero, Fin.val_one, Fin.val_two, Fin.reduceFinMk, q_10, q_01, not_false_eq_true, not_true_eq_false, forall_const, true_implies, false_implies, implies_true, q_ni, q_fi, q_nb0, q_nb1, q_fb0, q_fb1, q_nor, q_nar, q_for, q_far, q_non, q_nan, q_fon, q_fan, imp_false, false_and, and_false, and_self, false_or, or_false, va_rf, refKind, k_X3_placeOf_115]
          exact hK _ (na - (i + 1)) _ _ _ _ _ (by omega) ⟨T', i + 1, s2, m2, f2, x10, x11, hG', hf, hT, rfl, by omega, rfl, q1, q2, q3, q4, by rw [nI_1]⟩
        have J64 : ∀ j, fj (lkc fa fb c i) nb s = some j → s ≤ j → j < nb → k_X3_placeOf_64 post K [some (.ref cp), some (.ref a), some (.ref b), some (.ref cl), some (.int (nI kn)), some (.int fl), some (.int (nI m)), some (.int (nI s)), some (.int (nI f)), some (.int (nI i)), some (.int (fa i)), some (.int (nI j))] [] σ' cr sr := fun j e1 q1 q2 => by
          rw [e1] at hPW
          dsimp only at hPW
          have l3 := hRle (i + 1) (j + 1)
          simp only [c_push, c_null, c_iload, c_aload, c_istore, c_astore, c_iinc, c_iadd, c_isub, c_imul, c_iand, c_ineg, c_dup, c_dup2, c_pop, c_ifnull, c_ifnonnull, c_get, c_put, c_iald, c_zald, c_iast, c_zast, c_aald, c_aast, c_alen, c_new, c_newa, c_newq, c_mna, c_oinit, c_max, c_copy, c_iret, c_zret, c_aret, c_vret, q_do, q_rc, c_ifeq, c_ifne, c_iflt, c_ifge, c_ifgt, c_ifle, c_iceq, c_icne, c_iclt, c_icge, c_icgt, c_icle, c_call0, c_call1, c_call2, c_call3, c_call4, c_call5, c_call6, c_call7, q_L0, List.map_cons, List.map_nil, List.replicate, List.cons_append, List.nil_append, List.append_nil, List.length_cons, List.length_nil, List.length_set, Nat.reduceSub, Nat.reduceAdd, Nat.reduceLT, Nat.reduceLeDiff, Nat.zero_add, Nat.add_zero, Nat.sub_zero, Nat.sub_self, List.getElem?_cons_zero, List.getElem?_cons_succ, List.set_cons_zero, List.set_cons_succ, Option.toList_some, Option.toList_none, List.sum_cons, List.sum_nil, true_and, and_true, true_or, or_true, Nat.le_refl, Nat.zero_le, Value.category, Fin.isValue, Fin.val_zero, Fin.val_one, Fin.val_two, Fin.reduceFinMk, q_10, q_01, not_false_eq_true, not_true_eq_false, forall_const, true_implies, false_implies, implies_true, q_ni, q_fi, q_nb0, q_nb1, q_fb0, q_fb1, q_nor, q_nar, q_for, q_far, q_non, q_nan, q_fon, q_fan, imp_false, false_and, and_false, and_self, false_or, or_false, va_rf, refKind, k_X3_placeOf_64, hoc]
          rw [nI_1, nI_1]
          refine ⟨R, T', hG', ⟨⟨nI_low (by omega), nI_leN (N := 20) (by omega)⟩, nI_low (by omega), nI_leN (N := 20) (by omega)⟩, ?_⟩
          rw [clN (by omega), clN (by omega), hT (i + 1) (j + 1) (by omega) (by omega)]
          simp only [c_push, c_null, c_iload, c_aload, c_istore, c_astore, c_iinc, c_iadd, c_isub, c_imul, c_iand, c_ineg, c_dup, c_dup2, c_pop, c_ifnull, c_ifnonnull, c_get, c_put, c_iald, c_zald, c_iast, c_zast, c_aald, c_aast, c_alen, c_new, c_newa, c_newq, c_mna, c_oinit, c_max, c_copy, c_iret, c_zret, c_aret, c_vret, q_do, q_rc, c_ifeq, c_ifne, c_iflt, c_ifge, c_ifgt, c_ifle, c_iceq, c_icne, c_iclt, c_icge, c_icgt, c_icle, c_call0, c_call1, c_call2, c_call3, c_call4, c_call5, c_call6, c_call7, q_L0, List.map_cons, List.map_nil, List.replicate, List.cons_append, List.nil_append, List.append_nil, List.length_cons, List.length_nil, List.length_set, Nat.reduceSub, Nat.reduceAdd, Nat.reduceLT, Nat.reduceLeDiff, Nat.zero_add, Nat.add_zero, Nat.sub_zero, Nat.sub_self, List.getElem?_cons_zero, List.getElem?_cons_succ, List.set_cons_zero, List.set_cons_succ, Option.toList_some, Option.toList_none, List.sum_cons, List.sum_nil, true_and, and_true, true_or, or_true, Nat.le_refl, Nat.zero_le, Value.category, Fin.isValue, Fin.val_zero, Fin.val_one, Fin.val_two, Fin.reduceFinMk, q_10, q_01, not_false_eq_true, not_true_eq_false, forall_const, true_implies, false_implies, implies_true, q_ni, q_fi, q_nb0, q_nb1, q_fb0, q_fb1, q_nor, q_nar, q_for, q_far, q_non, q_nan, q_fon, q_fan, imp_false, false_and, and_false, and_self, false_or, or_false, va_rf, refKind]
          rw [nI_1, (cl2 (nI (RN (lkc fa fb c) na nb (i + 1) (j + 1) + 1)) (nI m) _ _ rfl rfl (by omega) (by omega)).2.2]
          refine ⟨fun c9 => ?_, fun c9 => ?_⟩
          · rw [if_neg c9] at hPW
            exact J115 s m f _ _ hs hm hfk hPW
          · rw [if_pos c9] at hPW
            simp only [c_push, c_null, c_iload, c_aload, c_istore, c_astore, c_iinc, c_iadd, c_isub, c_imul, c_iand, c_ineg, c_dup, c_dup2, c_pop, c_ifnull, c_ifnonnull, c_get, c_put, c_iald, c_zald, c_iast, c_zast, c_aald, c_aast, c_alen, c_new, c_newa, c_newq, c_mna, c_oinit, c_max, c_copy, c_iret, c_zret, c_aret, c_vret, q_do, q_rc, c_ifeq, c_ifne, c_iflt, c_ifge, c_ifgt, c_ifle, c_iceq, c_icne, c_iclt, c_icge, c_icgt, c_icle, c_call0, c_call1, c_call2, c_call3, c_call4, c_call5, c_call6, c_call7, q_L0, List.map_cons, List.map_nil, List.replicate, List.cons_append, List.nil_append, List.append_nil, List.length_cons, List.length_nil, List.length_set, Nat.reduceSub, Nat.reduceAdd, Nat.reduceLT, Nat.reduceLeDiff, Nat.zero_add, Nat.add_zero, Nat.sub_zero, Nat.sub_self, List.getElem?_cons_zero, List.getElem?_cons_succ, List.set_cons_zero, List.set_cons_succ, Option.toList_some, Option.toList_none, List.sum_cons, List.sum_nil, true_and, and_true, true_or, or_true, Nat.le_refl, Nat.zero_le, Value.category, Fin.isValue, Fin.val_zero, Fin.val_one, Fin.val_two, Fin.reduceFinMk, q_10, q_01, not_false_eq_true, not_true_eq_false, forall_const, true_implies, false_implies, implies_true, q_ni, q_fi, q_nb0, q_nb1, q_fb0, q_fb1, q_nor, q_nar, q_for, q_far, q_non, q_nan, q_fon, q_fan, imp_false, false_and, and_false, and_self, false_or, or_false, va_rf, refKind, k_X3_placeOf_83, k_X3_placeOf_102]
            rw [(cl2 (nI f) (nI kn) _ _ rfl rfl (by omega) (by omega)).2.2]
            refine ⟨fun c8 => ?_, fun c8 => ?_⟩
            · rw [if_neg (by omega)] at hPW
              have e2 : nI m + -1 = nI (m - 1) := by rw [nI_mm, show m = m - 1 + 1 by omega, nI_pred]; rfl
              rw [e2, nI_1, nI_1]
              exact J115 (j + 1) (m - 1) (f + 1) _ _ (by omega) (by omega) (by omega) (by rw [← hPW]; congr 1)
            · rw [if_pos (by omega)] at hPW
              have h8 := h7 σ' T' hG' hf
              rw [← hPW] at h8
              unfold pairF at h8
              dsimp only at h8
              rcases hfl with rfl | rfl
              · rw [if_neg (by decide)] at h8
                exact ⟨fun _ => h8, fun c => absurd rfl c⟩
              · rw [if_pos (by decide)] at h8
                exact ⟨fun c => absurd c (by decide), fun _ => h8⟩
        have J56 : ∀ o : Option Nat, o = fj (lkc fa fb c i) nb s → k_X3_placeOf_56 post K [some (.ref cp), some (.ref a), some (.ref b), some (.ref cl), some (.int (nI kn)), some (.int fl), some (.int (nI m)), some (.int (nI s)), some (.int (nI f)), some (.int (nI i)), some (.int (fa i)), d11] [.int (oN o)] σ' cr sr := fun o ho => by
          rcases fj_cases (lkc fa fb c i) nb _ s (Nat.le_refl _) with ⟨q1, -⟩ | ⟨j, q1, q2, q3, q4, -⟩
          · rw [q1] at ho hPW
            subst ho
            simp only [c_push, c_null, c_iload, c_aload, c_istore, c_astore, c_iinc, c_iadd, c_isub, c_imul, c_iand, c_ineg, c_dup, c_dup2, c_pop, c_ifnull, c_ifnonnull, c_get, c_put, c_iald, c_zald, c_iast, c_zast, c_aald, c_aast, c_alen, c_new, c_newa, c_newq, c_mna, c_oinit, c_max, c_copy, c_iret, c_zret, c_aret, c_vret, q_do, q_rc, c_ifeq, c_ifne, c_iflt, c_ifge, c_ifgt, c_ifle, c_iceq, c_icne, c_iclt, c_icge, c_icgt, c_icle, c_call0, c_call1, c_call2, c_call3, c_call4, c_call5, c_call6, c_call7, q_L0, List.map_cons, List.map_nil, List.replicate, List.cons_append, List.nil_append, List.append_nil, List.length_cons, List.length_nil, List.length_set, Nat.reduceSub, Nat.reduceAdd, Nat.reduceLT, Nat.reduceLeDiff, Nat.zero_add, Nat.add_zero, Nat.sub_zero, Nat.sub_self, List.getElem?_cons_zero, List.getElem?_cons_succ, List.set_cons_zero, List.set_cons_succ, Option.toList_some, Option.toList_none, List.sum_cons, List.sum_nil, true_and, and_true, true_or, or_true, Nat.le_refl, Nat.zero_le, Value.category, Fin.isValue, Fin.val_zero, Fin.val_one, Fin.val_two, Fin.reduceFinMk, q_10, q_01, not_false_eq_true, not_true_eq_false, forall_const, true_implies, false_implies, implies_true, q_ni, q_fi, q_nb0, q_nb1, q_fb0, q_fb1, q_nor, q_nar, q_for, q_far, q_non, q_nan, q_fon, q_fan, imp_false, false_and, and_false, and_self, false_or, or_false, va_rf, refKind, k_X3_placeOf_56, oN]
            exact J115 s m f _ _ hs hm hfk hPW
          · rw [q1] at ho
            subst ho
            simp only [c_push, c_null, c_iload, c_aload, c_istore, c_astore, c_iinc, c_iadd, c_isub, c_imul, c_iand, c_ineg, c_dup, c_dup2, c_pop, c_ifnull, c_ifnonnull, c_get, c_put, c_iald, c_zald, c_iast, c_zast, c_aald, c_aast, c_alen, c_new, c_newa, c_newq, c_mna, c_oinit, c_max, c_copy, c_iret, c_zret, c_aret, c_vret, q_do, q_rc, c_ifeq, c_ifne, c_iflt, c_ifge, c_ifgt, c_ifle, c_iceq, c_icne, c_iclt, c_icge, c_icgt, c_icle, c_call0, c_call1, c_call2, c_call3, c_call4, c_call5, c_call6, c_call7, q_L0, List.map_cons, List.map_nil, List.replicate, List.cons_append, List.nil_append, List.append_nil, List.length_cons, List.length_nil, List.length_set, Nat.reduceSub, Nat.reduceAdd, Nat.reduceLT, Nat.reduceLeDiff, Nat.zero_add, Nat.add_zero, Nat.sub_zero, Nat.sub_self, List.getElem?_cons_zero, List.getElem?_cons_succ, List.set_cons_zero, List.set_cons_succ, Option.toList_some, Option.toList_none, List.sum_cons, List.sum_nil, true_and, and_true, true_or, or_true, Nat.le_refl, Nat.zero_le, Value.category, Fin.isValue, Fin.val_zero, Fin.val_one, Fin.val_two, Fin.reduceFinMk, q_10, q_01, not_false_eq_true, not_true_eq_false, forall_const, true_implies, false_implies, implies_true, q_ni, q_fi, q_nb0, q_nb1, q_fb0, q_fb1, q_nor, q_nar, q_for, q_far, q_non, q_nan, q_fon, q_fan, imp_false, false_and, and_false, and_self, false_or, or_false, va_rf, refKind, k_X3_placeOf_56, oN]
            exact ⟨fun c9 => absurd c9 (nI_m1 (by omega)), fun _ => J64 j q1 q2 q3⟩
        simp only [c_push, c_null, c_iload, c_aload, c_istore, c_astore, c_iinc, c_iadd, c_isub, c_imul, c_iand, c_ineg, c_dup, c_dup2, c_pop, c_ifnull, c_ifnonnull, c_get, c_put, c_iald, c_zald, c_iast, c_zast, c_aald, c_aast, c_alen, c_new, c_newa, c_newq, c_mna, c_oinit, c_max, c_copy, c_iret, c_zret, c_aret, c_vret, q_do, q_rc, c_ifeq, c_ifne, c_iflt, c_ifge, c_ifgt, c_ifle, c_iceq, c_icne, c_iclt, c_icge, c_icgt, c_icle, c_call0, c_call1, c_call2, c_call3, c_call4, c_call5, c_call6, c_call7, q_L0, List.map_cons, List.map_nil, List.replicate, List.cons_append, List.nil_append, List.append_nil, List.length_cons, List.length_nil, List.length_set, Nat.reduceSub, Nat.reduceAdd, Nat.reduceLT, Nat.reduceLeDiff, Nat.zero_add, Nat.add_zero, Nat.sub_zero, Nat.sub_self, List.getElem?_cons_zero, List.getElem?_cons_succ, List.set_cons_zero, List.set_cons_succ, Option.toList_some, Option.toList_none, List.sum_cons, List.sum_nil, true_and, and_true, true_or, or_true, Nat.le_refl, Nat.zero_le, Value.category, Fin.isValue, Fin.val_zero, Fin.val_one, Fin.val_two, Fin.reduceFinMk, q_10, q_01, not_false_eq_true, not_true_eq_false, forall_const, true_implies, false_implies, implies_true, q_ni, q_fi, q_nb0, q_nb1, q_fb0, q_fb1, q_nor, q_nar, q_for, q_far, q_non, q_nan, q_fon, q_fan, imp_false, false_and, and_false, and_self, false_or, or_false, va_rf, refKind, k_X3_placeOf_18, f1, o1, o2, o3, s_X5_rowAt, s_X2_contain, hA'.1.2, hA'.2.1.2, hC'.1.2, hC'.2.2]
        rw [(cl2 (nI na) (nI i) _ _ rfl rfl (by omega) (by omega)).1, (cl2 (nI i) (nI na) _ _ rfl rfl (by omega) (by omega)).2.1, clN (by omega)]
        refine ⟨fun c9 => absurd c9 (by omega), fun _ => ⟨nI_leN (N := 20) (by omega), fun _ => ⟨fun c2 => ?_, fun c2 => ?_⟩, fun c1 => absurd ⟨nI_low (by omega), by omega⟩ c1⟩⟩
        · refine J56 none (fj_none _ _ (Nat.le_refl _) (fun j' _ _ => ?_)).symm
          exact decide_eq_false (fun h => h.1 c2)
        · refine ⟨rb, fb, nb, s, hB'.1.2, hB'.2.1.2, hnb, by omega, rfl, ?_⟩
          simp only [c_push, c_null, c_iload, c_aload, c_istore, c_astore, c_iinc, c_iadd, c_isub, c_imul, c_iand, c_ineg, c_dup, c_dup2, c_pop, c_ifnull, c_ifnonnull, c_get, c_put, c_iald, c_zald, c_iast, c_zast, c_aald, c_aast, c_alen, c_new, c_newa, c_newq, c_mna, c_oinit, c_max, c_copy, c_iret, c_zret, c_aret, c_vret, q_do, q_rc, c_ifeq, c_ifne, c_iflt, c_ifge, c_ifgt, c_ifle, c_iceq, c_icne, c_iclt, c_icge, c_icgt, c_icle, c_call0, c_call1, c_call2, c_call3, c_call4, c_call5, c_call6, c_call7, q_L0, List.map_cons, List.map_nil, List.replicate, List.cons_append, List.nil_append, List.append_nil, List.length_cons, List.length_nil, List.length_set, Nat.reduceSub, Nat.reduceAdd, Nat.reduceLT, Nat.reduceLeDiff, Nat.zero_add, Nat.add_zero, Nat.sub_zero, Nat.sub_self, List.getElem?_cons_zero, List.getElem?_cons_succ, List.set_cons_zero, List.set_cons_succ, Option.toList_some, Option.toList_none, List.sum_cons, List.sum_nil, true_and, and_true, true_or, or_true, Nat.le_refl, Nat.zero_le, Value.category, Fin.isValue, Fin.val_zero, Fin.val_one, Fin.val_two, Fin.reduceFinMk, q_10, q_01, not_false_eq_true, not_true_eq_false, forall_const, true_implies, false_implies, implies_true, q_ni, q_fi, q_nb0, q_nb1, q_fb0, q_fb1, q_nor, q_nar, q_for, q_far, q_non, q_nan, q_fon, q_fan, imp_false, false_and, and_false, and_self, false_or, or_false, va_rf, refKind]
          refine J56 _ ?_
          congr 1
          funext j
          unfold lkc
          by_cases e : fa i = fb j
          · rw [decide_eq_true (show ¬ comC c (fa i) ∧ fa i = fb j from ⟨c2, e⟩), decide_eq_true e.symm]
          · rw [decide_eq_false (fun h : ¬ comC c (fa i) ∧ fa i = fb j => e h.2), decide_eq_false (fun h => e h.symm)]
      · rw [if_neg hlt] at hPW
        simp only [c_push, c_null, c_iload, c_aload, c_istore, c_astore, c_iinc, c_iadd, c_isub, c_imul, c_iand, c_ineg, c_dup, c_dup2, c_pop, c_ifnull, c_ifnonnull, c_get, c_put, c_iald, c_zald, c_iast, c_zast, c_aald, c_aast, c_alen, c_new, c_newa, c_newq, c_mna, c_oinit, c_max, c_copy, c_iret, c_zret, c_aret, c_vret, q_do, q_rc, c_ifeq, c_ifne, c_iflt, c_ifge, c_ifgt, c_ifle, c_iceq, c_icne, c_iclt, c_icge, c_icgt, c_icle, c_call0, c_call1, c_call2, c_call3, c_call4, c_call5, c_call6, c_call7, q_L0, List.map_cons, List.map_nil, List.replicate, List.cons_append, List.nil_append, List.append_nil, List.length_cons, List.length_nil, List.length_set, Nat.reduceSub, Nat.reduceAdd, Nat.reduceLT, Nat.reduceLeDiff, Nat.zero_add, Nat.add_zero, Nat.sub_zero, Nat.sub_self, List.getElem?_cons_zero, List.getElem?_cons_succ, List.set_cons_zero, List.set_cons_succ, Option.toList_some, Option.toList_none, List.sum_cons, List.sum_nil, true_and, and_true, true_or, or_true, Nat.le_refl, Nat.zero_le, Value.category, Fin.isValue, Fin.val_zero, Fin.val_one, Fin.val_two, Fin.reduceFinMk, q_10, q_01, not_false_eq_true, not_true_eq_false, forall_const, true_implies, false_implies, implies_true, q_ni, q_fi, q_nb0, q_nb1, q_fb0, q_fb1, q_nor, q_nar, q_for, q_far, q_non, q_nan, q_fon, q_fan, imp_false, false_and, and_false, and_self, false_or, or_false, va_rf, refKind, k_X3_placeOf_18, f1, o1, o2, o3, s_X5_rowAt, s_X2_contain, hA'.1.2, hA'.2.1.2, hC'.1.2, hC'.2.2]
        rw [(cl2 (nI na) (nI i) _ _ rfl rfl (by omega) (by omega)).1]
        refine ⟨fun _ => ?_, fun c9 => absurd (by omega) c9⟩
        have h8 := h7 σ' T' hG' hf
        rw [← hPW] at h8
        exact h8
  · exact h.elim)
def s_X3_init : q_Sp := fun av σ post => match av with
  | [.ref cp] => σ cp = some (.inr (3, [.null])) ∧ ∀ σ' R, GrP σ' R cp (fun _ _ => 0) → (∀ a e, a ≠ cp → σ a = some e → ¬ R a ∧ σ' a = some e) → post none σ'
  | _ => False
theorem w9_250 : (.methodLink RX3 3 objectInit : Cond) ∈ lw_tbl := by decide +kernel
theorem w9_251 : (.classLink RX3 9 "[[I" : Cond) ∈ lw_tbl := by decide +kernel
def rm_X3_init : Room := { frames := 1, cells := 22, slots := 462, locals := 20 }
def k_X3_init_0 (post : Option Value → q_S → Prop) (K : Nat → q_K) : q_K := (c_aload 0 (c_oinit (c_aload 0 (c_push 21 (c_push 21 (c_mna (c_put 3 0 (.array (.array .int)) (c_vret post))))))))
set_option maxRecDepth 100000 in
theorem v_X3_init_0 {p : Program} {l : Launch} {e : Env} {s : State} {m : MethodId} {args : Array Value} {below : List Frame} {meth : Method} {c : Code} {D : va_G} {A : Nat → Prop} {post : Option Value → q_S → Prop} {K : Nat → q_K} (C : q_C p s m args meth c cX3_init 1 RX3 "<init>" none A) (hK : ∀ h ∈ ([] : List Nat), q_V p l e rm_X3_init s m args below meth c D A 1 (MQ below (q_Qc D A post) args s rm_X3_init.cells rm_X3_init.slots A) h (K h)) : q_V p l e rm_X3_init s m args below meth c D A 1 (MQ below (q_Qc D A post) args s rm_X3_init.cells rm_X3_init.slots A) 0 (k_X3_init_0 post K) := by
  unfold k_X3_init_0
  refine q_aload_n C (by decide +kernel : decode cX3_init 0 = .ok (.aload_n 0, 1)) ?_
  refine q_oinit C w9_250 w9_112 w9_113 (by decide) (by decide +kernel : decode cX3_init 1 = .ok (.invokespecial 3, 3)) ?_
  refine q_aload_n C (by decide +kernel : decode cX3_init 4 = .ok (.aload_n 0, 1)) ?_
  refine q_bipush C (by decide +kernel : decode cX3_init 5 = .ok (.bipush 21, 2)) (by decide) ?_
  refine q_bipush C (by decide +kernel : decode cX3_init 7 = .ok (.bipush 21, 2)) (by decide) ?_
  refine q_mna C w9_251 w9_114 (by decide +kernel : decode cX3_init 9 = .ok (.multianewarray 9 2, 4)) ?_
  refine q_putF C (ci := 3) (j := 0) (C0 := RX3) (T := TX3) (N := 1) (ty := .array (.array .int)) rfl iX3 giX3 (by decide) tyX3 tyX3_ok nmX3 (by decide +kernel) rfl rfl rfl w9_226 (by decide +kernel : decode cX3_init 13 = .ok (.putfield 11, 3)) ?_
  exact q_vret C rfl (by decide +kernel : decode cX3_init 16 = .ok (.return_, 1))
theorem u_X3_init (l : Launch) {sp : q_Sp} (H : ∀ (av : List Value) (σ : q_S) (post : Option Value → q_S → Prop), sp av σ post → k_X3_init_0 post (fun _ _ _ _ _ _ => False) (q_L0 av 1) [] σ 22 462 ∧ av.length ≤ 1 ∧ ∀ v ∈ av, v.category = 1) : q_Ct l yX3_init cX3_init 1 none rm_X3_init sp := by
  refine q_met (by decide) ?_
  intro D A p e s m args below meth c σ av post C hsp
  obtain ⟨h1, h2, h3⟩ := H av σ post hsp
  exact ⟨_, v_X3_init_0 (K := fun _ _ _ _ _ _ => False) C (fun h hh => by cases hh), h1, h2, h3⟩
theorem t_X3_init (l : Launch) : q_Ct l yX3_init cX3_init 1 none rm_X3_init s_X3_init := u_X3_init l (by
  intro av σ post h
  unfold s_X3_init at h
  split at h
  · next s =>
    refine ⟨?_, by simp, by simp [Value.category]⟩
    obtain ⟨h0, h7⟩ := h
    have e9 : (21 : Int32).toNatClampNeg = 21 := rfl
    simp only [c_push, c_null, c_iload, c_aload, c_istore, c_astore, c_iinc, c_iadd, c_isub, c_imul, c_iand, c_ineg, c_dup, c_dup2, c_pop, c_ifnull, c_ifnonnull, c_get, c_put, c_iald, c_zald, c_iast, c_zast, c_aald, c_aast, c_alen, c_new, c_newa, c_newq, c_mna, c_oinit, c_max, c_copy, c_iret, c_zret, c_aret, c_vret, q_do, q_rc, c_ifeq, c_ifne, c_iflt, c_ifge, c_ifgt, c_ifle, c_iceq, c_icne, c_iclt, c_icge, c_icgt, c_icle, c_call0, c_call1, c_call2, c_call3, c_call4, c_call5, c_call6, c_call7, q_L0, List.map_cons, List.map_nil, List.replicate, List.cons_append, List.nil_append, List.append_nil, List.length_cons, List.length_nil, List.length_set, Nat.reduceSub, Nat.reduceAdd, Nat.reduceLT, Nat.reduceLeDiff, Nat.zero_add, Nat.add_zero, Nat.sub_zero, Nat.sub_self, List.getElem?_cons_zero, List.getElem?_cons_succ, List.set_cons_zero, List.set_cons_succ, Option.toList_some, Option.toList_none, List.sum_cons, List.sum_nil, true_and, and_true, true_or, or_true, Nat.le_refl, Nat.zero_le, Value.category, Fin.isValue, Fin.val_zero, Fin.val_one, Fin.val_two, Fin.reduceFinMk, q_10, q_01, not_false_eq_true, not_true_eq_false, forall_const, true_implies, false_implies, implies_true, q_ni, q_fi, q_nb0, q_nb1, q_fb0, q_fb1, q_nor, q_nar, q_for, q_far, q_non, q_nan, q_fon, q_fan, imp_false, false_and, and_false, and_self, false_or, or_false, va_rf, refKind, k_X3_init_0, q_fld, q_fset, q_oc, q_ai, q_aq, q_len, q_up_s, q_up_up, if_true, h0, e9]
    refine ⟨by decide, fun q3 rw0 g1 g2 g3 => ?_⟩
    have t1 := q_grid_o (N := 21) (K := 21) g1 g2 h0
    have hq3 : q_grid σ q3 rw0 21 21 q3 = some (gridE 21 rw0) := q_grid_q
    simp only [c_push, c_null, c_iload, c_aload, c_istore, c_astore, c_iinc, c_iadd, c_isub, c_imul, c_iand, c_ineg, c_dup, c_dup2, c_pop, c_ifnull, c_ifnonnull, c_get, c_put, c_iald, c_zald, c_iast, c_zast, c_aald, c_aast, c_alen, c_new, c_newa, c_newq, c_mna, c_oinit, c_max, c_copy, c_iret, c_zret, c_aret, c_vret, q_do, q_rc, c_ifeq, c_ifne, c_iflt, c_ifge, c_ifgt, c_ifle, c_iceq, c_icne, c_iclt, c_icge, c_icgt, c_icle, c_call0, c_call1, c_call2, c_call3, c_call4, c_call5, c_call6, c_call7, q_L0, List.map_cons, List.map_nil, List.replicate, List.cons_append, List.nil_append, List.append_nil, List.length_cons, List.length_nil, List.length_set, Nat.reduceSub, Nat.reduceAdd, Nat.reduceLT, Nat.reduceLeDiff, Nat.zero_add, Nat.add_zero, Nat.sub_zero, Nat.sub_self, List.getElem?_cons_zero, List.getElem?_cons_succ, List.set_cons_zero, List.set_cons_succ, Option.toList_some, Option.toList_none, List.sum_cons, List.sum_nil, true_and, and_true, true_or, or_true, Nat.le_refl, Nat.zero_le, Value.category, Fin.isValue, Fin.val_zero, Fin.val_one, Fin.val_two, Fin.reduceFinMk, q_10, q_01, not_false_eq_true, not_true_eq_false, forall_const, true_implies, false_implies, implies_true, q_ni, q_fi, q_nb0, q_nb1, q_fb0, q_fb1, q_nor, q_nar, q_for, q_far, q_non, q_nan, q_fon, q_fan, imp_false, false_and, and_false, and_self, false_or, or_false, va_rf, refKind, q_fld, q_fset, q_oc, q_ai, q_aq, q_len, q_up_s, q_up_up, if_true, t1.1]
    refine h7 _ (fun c => c = s ∨ c = q3 ∨ ∃ i, i < 21 ∧ c = rw0 i) ⟨q3, rw0, ⟨Or.inl rfl, q_up_s⟩, ⟨Or.inr (Or.inl rfl), by rw [q_up_n t1.2.1.symm]; exact hq3⟩, fun p hp => ⟨fun _ => 0, ⟨Or.inr (Or.inr ⟨p, hp, rfl⟩), by rw [q_up_n (t1.2.2 p hp).symm]; exact q_grid_r hp (g2 p hp).2⟩, fun q hq => rfl⟩, g3⟩ (fun a e ha he => ?_)
    have t5 := q_grid_o (N := 21) (K := 21) g1 g2 he
    refine ⟨?_, by rw [q_up_n ha]; exact t5.1⟩
    rintro (h9 | h9 | ⟨i, hi, h9⟩)
    · exact ha h9
    · exact t5.2.1 h9
    · exact t5.2.2 i hi h9
  · exact h.elim)
