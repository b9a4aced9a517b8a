-- small functions over ints
def q_b (c : Bool) : Int32 := if c then 1 else 0
def s_X10_isWithin : q_Sp := fun av σ post => ∃ x a b : Int32, av = [.int x, .int a, .int b] ∧ post (some (.int (if a ≤ x ∧ x ≤ b then 1 else 0))) σ
def rm_X10_isWithin : Room := { frames := 0, cells := 0, slots := 0, locals := 0 }
def k_X10_isWithin_15 (post : Option Value → q_S → Prop) (K : Nat → q_K) : q_K := (c_zret post)
def k_X10_isWithin_14 (post : Option Value → q_S → Prop) (K : Nat → q_K) : q_K := (c_push 0 (k_X10_isWithin_15 post K))
def k_X10_isWithin_0 (post : Option Value → q_S → Prop) (K : Nat → q_K) : q_K := (c_iload 0 (c_iload 1 (c_iclt (k_X10_isWithin_14 post K) (c_iload 0 (c_iload 2 (c_icgt (k_X10_isWithin_14 post K) (c_push 1 (k_X10_isWithin_15 post K))))))))
set_option maxRecDepth 100000 in
theorem v_X10_isWithin_15 {p : Program} {l : Launch} {e : Env} {s : State} {m : MethodId} {args : Array Value} {below : List Frame} {meth : Method} {c : Code} {D : va_G} {A : Nat → Prop} {post : Option Value → q_S → Prop} {K : Nat → q_K} (C : q_C p s m args meth c cX10_isWithin 3 RX10 "isWithin" (some .boolean) A) (hK : ∀ h ∈ ([] : List Nat), q_V p l e rm_X10_isWithin s m args below meth c D A 3 (MQ below (q_Qc D A post) args s rm_X10_isWithin.cells rm_X10_isWithin.slots A) h (K h)) : q_V p l e rm_X10_isWithin s m args below meth c D A 3 (MQ below (q_Qc D A post) args s rm_X10_isWithin.cells rm_X10_isWithin.slots A) 15 (k_X10_isWithin_15 post K) := by
  unfold k_X10_isWithin_15
  exact q_zret C rfl (by decide +kernel : decode cX10_isWithin 15 = .ok (.ireturn, 1))
set_option maxRecDepth 100000 in
theorem v_X10_isWithin_14 {p : Program} {l : Launch} {e : Env} {s : State} {m : MethodId} {args : Array Value} {below : List Frame} {meth : Method} {c : Code} {D : va_G} {A : Nat → Prop} {post : Option Value → q_S → Prop} {K : Nat → q_K} (C : q_C p s m args meth c cX10_isWithin 3 RX10 "isWithin" (some .boolean) A) (hK : ∀ h ∈ ([] : List Nat), q_V p l e rm_X10_isWithin s m args below meth c D A 3 (MQ below (q_Qc D A post) args s rm_X10_isWithin.cells rm_X10_isWithin.slots A) h (K h)) : q_V p l e rm_X10_isWithin s m args below meth c D A 3 (MQ below (q_Qc D A post) args s rm_X10_isWithin.cells rm_X10_isWithin.slots A) 14 (k_X10_isWithin_14 post K) := by
  unfold k_X10_isWithin_14
  refine q_iconst C (by decide +kernel : decode cX10_isWithin 14 = .ok (.iconst 0, 1)) (by decide) ?_
  exact v_X10_isWithin_15 C hK
set_option maxRecDepth 100000 in
theorem v_X10_isWithin_0 {p : Program} {l : Launch} {e : Env} {s : State} {m : MethodId} {args : Array Value} {below : List Frame} {meth : Method} {c : Code} {D : va_G} {A : Nat → Prop} {post : Option Value → q_S → Prop} {K : Nat → q_K} (C : q_C p s m args meth c cX10_isWithin 3 RX10 "isWithin" (some .boolean) A) (hK : ∀ h ∈ ([] : List Nat), q_V p l e rm_X10_isWithin s m args below meth c D A 3 (MQ below (q_Qc D A post) args s rm_X10_isWithin.cells rm_X10_isWithin.slots A) h (K h)) : q_V p l e rm_X10_isWithin s m args below meth c D A 3 (MQ below (q_Qc D A post) args s rm_X10_isWithin.cells rm_X10_isWithin.slots A) 0 (k_X10_isWithin_0 post K) := by
  unfold k_X10_isWithin_0
  refine q_iload_n C (by decide +kernel : decode cX10_isWithin 0 = .ok (.iload_n 0, 1)) ?_
  refine q_iload_n C (by decide +kernel : decode cX10_isWithin 1 = .ok (.iload_n 1, 1)) ?_
  refine q_iclt C (tgt := 14) (by decide +kernel : decode cX10_isWithin 2 = .ok (.if_icmp .lt 12, 3)) (by decide) ?_ ?_
  · exact v_X10_isWithin_14 C hK
  · refine q_iload_n C (by decide +kernel : decode cX10_isWithin 5 = .ok (.iload_n 0, 1)) ?_
    refine q_iload_n C (by decide +kernel : decode cX10_isWithin 6 = .ok (.iload_n 2, 1)) ?_
    refine q_icgt C (tgt := 14) (by decide +kernel : decode cX10_isWithin 7 = .ok (.if_icmp .gt 7, 3)) (by decide) ?_ ?_
    · exact v_X10_isWithin_14 C hK
    · refine q_iconst C (by decide +kernel : decode cX10_isWithin 10 = .ok (.iconst 1, 1)) (by decide) ?_
      refine q_goto C (tgt := 15) (by decide +kernel : decode cX10_isWithin 11 = .ok (.goto 4, 3)) (by decide) ?_
      exact v_X10_isWithin_15 C hK
theorem u_X10_isWithin (l : Launch) {sp : q_Sp} (H : ∀ (av : List Value) (σ : q_S) (post : Option Value → q_S → Prop), sp av σ post → k_X10_isWithin_0 post (fun _ _ _ _ _ _ => False) (q_L0 av 3) [] σ 0 0 ∧ av.length ≤ 3 ∧ ∀ v ∈ av, v.category = 1) : q_Ct l yX10_isWithin cX10_isWithin 3 (some .boolean) rm_X10_isWithin sp := by
  refine q_met (by decide) ?_
  intro D A p e s m args below meth c σ av post C hsp
  obtain ⟨h1, h2, h3⟩ := H av σ post hsp
  exact ⟨_, v_X10_isWithin_0 (K := fun _ _ _ _ _ _ => False) C (fun h hh => by cases hh), h1, h2, h3⟩
