-- the register's constructor
def iP (σ : q_S) (r : Nat) (fs : List Value) (ps : List (Nat × q_E)) : Prop := (σ r = some (.inr (10, fs)) ∧ fs.length = 10) ∧ ∀ x ∈ ps, σ x.1 = some x.2 ∧ x.1 ≠ r
theorem iP.put {σ : q_S} {r : Nat} {fs : List Value} {ps : List (Nat × q_E)} (h : iP σ r fs ps) (k : Nat) (v : Value) : iP (q_fset σ r k v) r (fs.set k v) ps := by
  rw [q_fset_eq h.1.1]
  refine ⟨⟨q_up_s, by rw [List.length_set]; exact h.1.2⟩, fun x hx => ?_⟩
  have k1 := h.2 x hx
  exact ⟨by rw [q_up_n k1.2]; exact k1.1, k1.2⟩
theorem iP.up {σ : q_S} {r : Nat} {fs : List Value} {ps : List (Nat × q_E)} (h : iP σ r fs ps) {q : Nat} {e : q_E} (hq : σ q = none) : iP (q_up σ q e) r fs ((q, e) :: ps) := by
  have hr : r ≠ q := fun e9 => by rw [← e9, h.1.1] at hq; cases hq
  refine ⟨⟨by rw [q_up_n hr]; exact h.1.1, h.1.2⟩, fun x hx => ?_⟩
  rcases List.mem_cons.mp hx with rfl | hx
  · exact ⟨q_up_s, hr.symm⟩
  · have k1 := h.2 x hx
    exact ⟨by rw [q_up_n (fun e9 => by rw [← e9, k1.1] at hq; cases hq)]; exact k1.1, k1.2⟩
theorem iP.fld {σ : q_S} {r : Nat} {fs : List Value} {ps : List (Nat × q_E)} (h : iP σ r fs ps) {k : Nat} (hk : k < 10) : ∃ v, q_fld σ r 10 k = some v := by
  refine ⟨fs[k]'(by rw [h.1.2]; exact hk), ?_⟩
  simp only [q_fld, h.1.1, if_true]
  exact List.getElem?_eq_getElem _
theorem ip_int {K : q_K} {L : List (Option Value)} {st : List Value} {σ : q_S} {cr sr r : Nat} {fs : List Value} {ps : List (Nat × q_E)} (k : Nat) (h : iP σ r fs ps) (hL : L[0]? = some (some (.ref r))) (hk : k < 10) (kk : ∀ σ', iP σ' r (fs.set k (.int 0)) ps → K L st σ' cr sr) : c_aload 0 (c_push 0 (c_put 10 k .int K)) L st σ cr sr := by
  unfold c_aload
  rw [hL]
  dsimp only [c_push, c_put]
  obtain ⟨v, hv⟩ := h.fld hk
  rw [hv]
  exact ⟨⟨rfl, rfl⟩, kk _ (h.put k _)⟩
theorem ip_arr {K : q_K} {L : List (Option Value)} {st : List Value} {σ : q_S} {cr sr r : Nat} {fs : List Value} {ps : List (Nat × q_E)} {C : String} {n : Int32} (k c2 s2 : Nat) (h : iP σ r fs ps) (hL : L[0]? = some (some (.ref r))) (hn : ¬ n < 0 ∧ n.toNatClampNeg ≤ 65536) (hc : cr = c2 + 1) (hs : sr = s2 + n.toNatClampNeg) (hk : k < 10) (kk : ∀ q σ', iP σ' r (fs.set k (.ref q)) ((q, refsE C n.toNatClampNeg 0 (fun _ => 0)) :: ps) → K L st σ' c2 s2) : c_aload 0 (c_push n (c_newq (.object C) (c_put 10 k (.array (.object C)) K))) L st σ cr sr := by
  unfold c_aload
  rw [hL]
  dsimp only [c_push, c_newq]
  refine ⟨⟨hn.1, hn.2, by omega, by omega⟩, fun q hq => ?_⟩
  have h2 : iP (q_up σ q (.inl (.object C, n.toNatClampNeg, .inr (.inr (.inr (.inr (fun _ => none))))))) r fs ((q, refsE C n.toNatClampNeg 0 (fun _ => 0)) :: ps) := h.up (e := refsE C n.toNatClampNeg 0 (fun _ => 0)) hq
  dsimp only [c_put]
  obtain ⟨v, hv⟩ := h2.fld hk
  rw [hv, show cr - 1 = c2 by omega, show sr - n.toNatClampNeg = s2 by omega]
  exact ⟨⟨rfl, rfl⟩, kk q _ (h2.put k _)⟩
theorem ip_obj {K : q_K} {L : List (Option Value)} {σ : q_S} {cr sr r : Nat} {fs : List Value} {ps : List (Nat × q_E)} {C : String} {sp : q_Sp} {ci N mc ms : Nat} {e : q_E} (k c2 s2 : Nat) (h : iP σ r fs ps) (hL : L[0]? = some (some (.ref r))) (hsp : ∀ a σ post, (σ a = some (.inr (ci, [.null, .int 0])) ∧ ∀ q, σ q = none → post none (q_up (q_up σ q e) a (.inr (ci, [.ref q, .int 0])))) → sp [.ref a] σ post) (hc : cr = c2 + mc + 1) (hs : sr = s2 + ms + N) (hk : k < 10) (kk : ∀ q q2 σ', iP σ' r (fs.set k (.ref q)) ((q, .inr (ci, [.ref q2, .int 0])) :: (q2, e) :: ps) → K L [] σ' c2 s2) : c_aload 0 (c_new ci N [.null, .int 0] (c_dup (c_call1 (some ci) sp mc ms (c_put 10 k (.object C) K)))) L [] σ cr sr := by
  unfold c_aload
  rw [hL]
  dsimp only [c_new]
  refine ⟨⟨by omega, by omega⟩, fun q hq => ?_⟩
  dsimp only [c_dup, c_call1]
  refine ⟨rfl, ⟨by omega, by omega, by simp [Value.category], by simp only [q_rc, q_oc, q_up_s]⟩, hsp _ _ _ ⟨q_up_s, fun q2 hq2 => ?_⟩⟩
  have n2 : q2 ≠ q := fun e9 => by rw [e9, q_up_s] at hq2; cases hq2
  have hq2' : σ q2 = none := by rw [q_up_n n2] at hq2; exact hq2
  have h3 : iP (q_up (q_up (q_up σ q (.inr (ci, [.null, .int 0]))) q2 e) q (.inr (ci, [.ref q2, .int 0]))) r fs ((q, .inr (ci, [.ref q2, .int 0])) :: (q2, e) :: ps) := by
    have a1 := h.up (e := e) hq2'
    have a2 := a1.up (q := q) (e := .inr (ci, [.ref q2, .int 0])) (by rw [q_up_n n2.symm]; exact hq)
    have a3 : q_up (q_up (q_up σ q (.inr (ci, [.null, .int 0]))) q2 e) q (.inr (ci, [.ref q2, .int 0])) = q_up (q_up σ q2 e) q (.inr (ci, [.ref q2, .int 0])) := by
      funext b
      by_cases e1 : b = q
      · rw [e1, q_up_s, q_up_s]
      · rw [q_up_n e1, q_up_n e1]
        by_cases e2 : b = q2
        · rw [e2, q_up_s, q_up_s]
        · rw [q_up_n e2, q_up_n e2, q_up_n e1]
    rw [a3]
    exact a2
  show c_put 10 k (.object C) K L [.ref q, .ref r] _ _ _
  dsimp only [c_put]
  obtain ⟨v, hv⟩ := h3.fld hk
  rw [hv, show cr - 1 - mc = c2 by omega, show sr - N - ms = s2 by omega]
  exact ⟨⟨rfl, rfl⟩, kk q q2 _ (h3.put k _)⟩
def kE : q_E → Nat
  | .inr (10, _) => 1
  | .inr (1, _) => 3
  | .inr (2, _) => 6
  | .inl (_, 12, _) => 2
  | .inl (_, 6, _) => 3
  | .inl (_, 20, _) => 4
  | .inl (_, 40, _) => 5
  | .inl (_, 1000, _) => 6
  | _ => 0
def s_X10_init : q_Sp := fun av σ post => match av with
  | [.ref r] => σ r = some (.inr (10, [.int 0, .null, .int 0, .null, .null, .int 0, .null, .int 0, .null, .null])) ∧ ∀ σ', RegOK σ' r (fun _ => 0) (fun _ _ => 0) → post none σ'
  | _ => False
theorem w9_444 : (.methodLink RX10 3 objectInit : Cond) ∈ lw_tbl := by decide +kernel
theorem w9_445 : (.classLink RX10 24 RX1 : Cond) ∈ lw_tbl := by decide +kernel
theorem w9_446 : (.instantiable RX1 2 : Cond) ∈ lw_tbl := by decide +kernel
theorem w9_447 : (.code yX1_init cX1_init 1 none : Cond) ∈ lw_tbl := by decide +kernel
theorem w9_448 : (.methodLink RX10 26 yX1_init : Cond) ∈ lw_tbl := by decide +kernel
theorem w9_449 : (.instanceMethod yX1_init : Cond) ∈ lw_tbl := by decide +kernel
theorem w9_450 : (.classLink RX10 49 RX2 : Cond) ∈ lw_tbl := by decide +kernel
theorem w9_451 : (.instantiable RX2 2 : Cond) ∈ lw_tbl := by decide +kernel
theorem w9_452 : (.code yX2_init cX2_init 1 none : Cond) ∈ lw_tbl := by decide +kernel
theorem w9_453 : (.methodLink RX10 51 yX2_init : Cond) ∈ lw_tbl := by decide +kernel
theorem w9_454 : (.instanceMethod yX2_init : Cond) ∈ lw_tbl := by decide +kernel
theorem w9_455 : (.classLink RX10 56 RX3 : Cond) ∈ lw_tbl := by decide +kernel
theorem w9_456 : (.instantiable RX3 1 : Cond) ∈ lw_tbl := by decide +kernel
theorem w9_457 : (.code yX3_init cX3_init 1 none : Cond) ∈ lw_tbl := by decide +kernel
theorem w9_458 : (.methodLink RX10 58 yX3_init : Cond) ∈ lw_tbl := by decide +kernel
theorem w9_459 : (.instanceMethod yX3_init : Cond) ∈ lw_tbl := by decide +kernel
def rm_X10_init : Room := { frames := 2, cells := 30, slots := 1545, locals := 40 }
def k_X10_init_0 (post : Option Value → q_S → Prop) (K : Nat → q_K) : q_K := (c_aload 0 (c_oinit (c_aload 0 (c_push 0 (c_put 10 0 (.int) (c_aload 0 (c_push 12 (c_newq (.object RX7) (c_put 10 1 (.array (.object "CopyRegister$Person")) (c_aload 0 (c_push 0 (c_put 10 2 (.int) (c_aload 0 (c_new 1 2 [.null, .int 0] (c_dup (c_call1 (some 1) s_X1_init 1 6 (c_put 10 3 (.object "CopyRegister$Acts") (c_aload 0 (c_push 20 (c_newq (.object RX9) (c_put 10 4 (.array (.object "CopyRegister$Work")) (c_aload 0 (c_push 0 (c_put 10 5 (.int) (c_aload 0 (c_push 40 (c_newq (.object RX4) (c_put 10 6 (.array (.object "CopyRegister$Licence")) (c_aload 0 (c_push 0 (c_put 10 7 (.int) (c_aload 0 (c_new 2 2 [.null, .int 0] (c_dup (c_call1 (some 2) s_X2_init 1 1000 (c_put 10 8 (.object "CopyRegister$CommonLines") (c_aload 0 (c_new 3 1 [.null] (c_dup (c_call1 (some 3) s_X3_init 22 462 (c_put 10 9 (.object "CopyRegister$Comparison") (c_vret post))))))))))))))))))))))))))))))))))))))))))
set_option maxRecDepth 100000 in
theorem v_X10_init_0 {p : Program} {l : Launch} {e : Env} {s : State} {m : MethodId} {args : Array Value} {below : List Frame} {meth : Method} {c : Code} {D : va_G} {A : Nat → Prop} {post : Option Value → q_S → Prop} {K : Nat → q_K} (C : q_C p s m args meth c cX10_init 1 RX10 "<init>" none A) (hK : ∀ h ∈ ([] : List Nat), q_V p l e rm_X10_init s m args below meth c D A 1 (MQ below (q_Qc D A post) args s rm_X10_init.cells rm_X10_init.slots A) h (K h)) : q_V p l e rm_X10_init s m args below meth c D A 1 (MQ below (q_Qc D A post) args s rm_X10_init.cells rm_X10_init.slots A) 0 (k_X10_init_0 post K) := by
  unfold k_X10_init_0
  refine q_aload_n C (by decide +kernel : decode cX10_init 0 = .ok (.aload_n 0, 1)) ?_
  refine q_oinit C w9_444 w9_112 w9_113 (by decide) (by decide +kernel : decode cX10_init 1 = .ok (.invokespecial 3, 3)) ?_
  refine q_aload_n C (by decide +kernel : decode cX10_init 4 = .ok (.aload_n 0, 1)) ?_
  refine q_iconst C (by decide +kernel : decode cX10_init 5 = .ok (.iconst 0, 1)) (by decide) ?_
  refine q_put C (ci := 10) (j := 0) (C0 := RX10) (T := TX10) (N := 10) (ty := .int) rfl iX10 giX10 (by decide) tyX10 tyX10_ok nmX10 (by decide +kernel) rfl w9_320 (by decide +kernel : decode cX10_init 6 = .ok (.putfield 9, 3)) ?_
  refine q_aload_n C (by decide +kernel : decode cX10_init 9 = .ok (.aload_n 0, 1)) ?_
  refine q_bipush C (by decide +kernel : decode cX10_init 10 = .ok (.bipush 12, 2)) (by decide) ?_
  refine q_newq C w9_324 (by decide) (by decide +kernel : decode cX10_init 12 = .ok (.anewarray 15, 3)) ?_
  refine q_putF C (ci := 10) (j := 1) (C0 := RX10) (T := TX10) (N := 10) (ty := .array (.object "CopyRegister$Person")) rfl iX10 giX10 (by decide) tyX10 tyX10_ok nmX10 (by decide +kernel) rfl rfl rfl w9_313 (by decide +kernel : decode cX10_init 15 = .ok (.putfield 17, 3)) ?_
  refine q_aload_n C (by decide +kernel : decode cX10_init 18 = .ok (.aload_n 0, 1)) ?_
  refine q_iconst C (by decide +kernel : decode cX10_init 19 = .ok (.iconst 0, 1)) (by decide) ?_
  refine q_put C (ci := 10) (j := 2) (C0 := RX10) (T := TX10) (N := 10) (ty := .int) rfl iX10 giX10 (by decide) tyX10 tyX10_ok nmX10 (by decide +kernel) rfl w9_312 (by decide +kernel : decode cX10_init 20 = .ok (.putfield 21, 3)) ?_
  refine q_aload_n C (by decide +kernel : decode cX10_init 23 = .ok (.aload_n 0, 1)) ?_
  refine q_new C (ci := 1) (C0 := RX1) (T := TX1) (N := 2) (fs := [.null, .int 0]) rfl iX1 giX1 tyX1 tyX1_ok w9_445 w9_446 w9_255 dvX1 (by decide +kernel : decode cX10_init 24 = .ok (.new 24, 3)) ?_
  refine q_dup C (by decide +kernel : decode cX10_init 27 = .ok (.dup, 1)) ?_
  refine q_call1 C (q_coI C (np := 0) (ci := 1) (t_X1_init l) w9_447 rfl w9_448 w9_449 w9_255 (by decide +kernel) (by decide +kernel : decode cX10_init 28 = .ok (.invokespecial 26, 3)) (by decide)) ?_
  refine q_putF C (ci := 10) (j := 3) (C0 := RX10) (T := TX10) (N := 10) (ty := .object "CopyRegister$Acts") rfl iX10 giX10 (by decide) tyX10 tyX10_ok nmX10 (by decide +kernel) rfl rfl rfl w9_321 (by decide +kernel : decode cX10_init 31 = .ok (.putfield 27, 3)) ?_
  refine q_aload_n C (by decide +kernel : decode cX10_init 34 = .ok (.aload_n 0, 1)) ?_
  refine q_bipush C (by decide +kernel : decode cX10_init 35 = .ok (.bipush 20, 2)) (by decide) ?_
  refine q_newq C w9_439 (by decide) (by decide +kernel : decode cX10_init 37 = .ok (.anewarray 31, 3)) ?_
  refine q_putF C (ci := 10) (j := 4) (C0 := RX10) (T := TX10) (N := 10) (ty := .array (.object "CopyRegister$Work")) rfl iX10 giX10 (by decide) tyX10 tyX10_ok nmX10 (by decide +kernel) rfl rfl rfl w9_315 (by decide +kernel : decode cX10_init 40 = .ok (.putfield 33, 3)) ?_
  refine q_aload_n C (by decide +kernel : decode cX10_init 43 = .ok (.aload_n 0, 1)) ?_
  refine q_iconst C (by decide +kernel : decode cX10_init 44 = .ok (.iconst 0, 1)) (by decide) ?_
  refine q_put C (ci := 10) (j := 5) (C0 := RX10) (T := TX10) (N := 10) (ty := .int) rfl iX10 giX10 (by decide) tyX10 tyX10_ok nmX10 (by decide +kernel) rfl w9_314 (by decide +kernel : decode cX10_init 45 = .ok (.putfield 37, 3)) ?_
  refine q_aload_n C (by decide +kernel : decode cX10_init 48 = .ok (.aload_n 0, 1)) ?_
  refine q_bipush C (by decide +kernel : decode cX10_init 49 = .ok (.bipush 40, 2)) (by decide) ?_
  refine q_newq C w9_421 (by decide) (by decide +kernel : decode cX10_init 51 = .ok (.anewarray 40, 3)) ?_
  refine q_putF C (ci := 10) (j := 6) (C0 := RX10) (T := TX10) (N := 10) (ty := .array (.object "CopyRegister$Licence")) rfl iX10 giX10 (by decide) tyX10 tyX10_ok nmX10 (by decide +kernel) rfl rfl rfl w9_376 (by decide +kernel : decode cX10_init 54 = .ok (.putfield 42, 3)) ?_
  refine q_aload_n C (by decide +kernel : decode cX10_init 57 = .ok (.aload_n 0, 1)) ?_
  refine q_iconst C (by decide +kernel : decode cX10_init 58 = .ok (.iconst 0, 1)) (by decide) ?_
  refine q_put C (ci := 10) (j := 7) (C0 := RX10) (T := TX10) (N := 10) (ty := .int) rfl iX10 giX10 (by decide) tyX10 tyX10_ok nmX10 (by decide +kernel) rfl w9_322 (by decide +kernel : decode cX10_init 59 = .ok (.putfield 46, 3)) ?_
  refine q_aload_n C (by decide +kernel : decode cX10_init 62 = .ok (.aload_n 0, 1)) ?_
  refine q_new C (ci := 2) (C0 := RX2) (T := TX2) (N := 2) (fs := [.null, .int 0]) rfl iX2 giX2 tyX2 tyX2_ok w9_450 w9_451 w9_161 dvX2 (by decide +kernel : decode cX10_init 63 = .ok (.new 49, 3)) ?_
  refine q_dup C (by decide +kernel : decode cX10_init 66 = .ok (.dup, 1)) ?_
  refine q_call1 C (q_coI C (np := 0) (ci := 2) (t_X2_init l) w9_452 rfl w9_453 w9_454 w9_161 (by decide +kernel) (by decide +kernel : decode cX10_init 67 = .ok (.invokespecial 51, 3)) (by decide)) ?_
  refine q_putF C (ci := 10) (j := 8) (C0 := RX10) (T := TX10) (N := 10) (ty := .object "CopyRegister$CommonLines") rfl iX10 giX10 (by decide) tyX10 tyX10_ok nmX10 (by decide +kernel) rfl rfl rfl w9_323 (by decide +kernel : decode cX10_init 70 = .ok (.putfield 52, 3)) ?_
  refine q_aload_n C (by decide +kernel : decode cX10_init 73 = .ok (.aload_n 0, 1)) ?_
  refine q_new C (ci := 3) (C0 := RX3) (T := TX3) (N := 1) (fs := [.null]) rfl iX3 giX3 tyX3 tyX3_ok w9_455 w9_456 w9_223 dvX3 (by decide +kernel : decode cX10_init 74 = .ok (.new 56, 3)) ?_
  refine q_dup C (by decide +kernel : decode cX10_init 77 = .ok (.dup, 1)) ?_
  refine q_call1 C (q_coI C (np := 0) (ci := 3) (t_X3_init l) w9_457 rfl w9_458 w9_459 w9_223 (by decide +kernel) (by decide +kernel : decode cX10_init 78 = .ok (.invokespecial 58, 3)) (by decide)) ?_
  refine q_putF C (ci := 10) (j := 9) (C0 := RX10) (T := TX10) (N := 10) (ty := .object "CopyRegister$Comparison") rfl iX10 giX10 (by decide) tyX10 tyX10_ok nmX10 (by decide +kernel) rfl rfl rfl w9_341 (by decide +kernel : decode cX10_init 81 = .ok (.putfield 59, 3)) ?_
  exact q_vret C rfl (by decide +kernel : decode cX10_init 84 = .ok (.return_, 1))
theorem u_X10_init (l : Launch) {sp : q_Sp} (H : ∀ (av : List Value) (σ : q_S) (post : Option Value → q_S → Prop), sp av σ post → k_X10_init_0 post (fun _ _ _ _ _ _ => False) (q_L0 av 1) [] σ 30 1545 ∧ av.length ≤ 1 ∧ ∀ v ∈ av, v.category = 1) : q_Ct l yX10_init cX10_init 1 none rm_X10_init sp := by
  refine q_met (by decide) ?_
  intro D A p e s m args below meth c σ av post C hsp
  obtain ⟨h1, h2, h3⟩ := H av σ post hsp
  exact ⟨_, v_X10_init_0 (K := fun _ _ _ _ _ _ => False) C (fun h hh => by cases hh), h1, h2, h3⟩
theorem t_X10_init (l : Launch) : q_Ct l yX10_init cX10_init 1 none rm_X10_init s_X10_init := u_X10_init l (by
  intro av σ post h
  unfold s_X10_init at h
  split at h
  · next r =>
    obtain ⟨h0, h1⟩ := h
    refine ⟨?_, by simp, by simp [Value.category]⟩
    have hp : iP σ r [.int 0, .null, .int 0, .null, .null, .int 0, .null, .int 0, .null, .null] [] := ⟨⟨h0, rfl⟩, fun x hx => by cases hx⟩
    unfold k_X10_init_0
    have e0 : q_L0 [Value.ref r] 1 = [some (.ref r)] := rfl
    rw [e0]
    show c_oinit _ [some (.ref r)] [.ref r] σ 30 1545
    unfold c_oinit
    refine ⟨by simp, ?_⟩
    refine ip_int 0 hp rfl (by decide) (fun σ1 h2 => ?_)
    refine ip_arr 1 29 1533 h2 rfl (by decide) rfl (by decide) (by decide) (fun P σ2 h3 => ?_)
    refine ip_int 2 h3 rfl (by decide) (fun σ3 h4 => ?_)
    refine ip_obj 3 27 1525 (e := refsE "CopyRegister$Act" 6 0 (fun _ => 0)) h4 rfl (fun a σ post h => h) rfl rfl (by decide) (fun AC AR σ4 h5 => ?_)
    refine ip_arr 4 26 1505 h5 rfl (by decide) rfl (by decide) (by decide) (fun WK σ5 h6 => ?_)
    refine ip_int 5 h6 rfl (by decide) (fun σ6 h7 => ?_)
    refine ip_arr 6 25 1465 h7 rfl (by decide) rfl (by decide) (by decide) (fun LC σ7 h8 => ?_)
    refine ip_int 7 h8 rfl (by decide) (fun σ8 h9 => ?_)
    refine ip_obj 8 23 463 (e := .inl (.boolean, 1000, .inl (fun _ => 0))) h9 rfl (fun a σ post h => h) rfl rfl (by decide) (fun CL CM σ9 h10 => ?_)
    have ha := h10.1.1
    have hm := h10.2
    simp only [List.set_cons_zero, List.set_cons_succ] at ha
    simp only [List.mem_cons, List.not_mem_nil, or_false, forall_eq_or_imp, forall_eq] at hm
    obtain ⟨m1, m2, m3, m4, m5, m6, m7⟩ := hm
    simp only [c_push, c_null, c_iload, c_aload, c_istore, c_astore, c_iinc, c_iadd, c_isub, c_imul, c_iand, c_ineg, c_dup, c_dup2, c_pop, c_ifnull, c_ifnonnull, c_get, c_put, c_iald, c_zald, c_iast, c_zast, c_aald, c_aast, c_alen, c_new, c_newa, c_newq, c_mna, c_oinit, c_max, c_copy, c_iret, c_zret, c_aret, c_vret, q_do, q_rc, c_ifeq, c_ifne, c_iflt, c_ifge, c_ifgt, c_ifle, c_iceq, c_icne, c_iclt, c_icge, c_icgt, c_icle, c_call0, c_call1, c_call2, c_call3, c_call4, c_call5, c_call6, c_call7, q_L0, List.map_cons, List.map_nil, List.replicate, List.cons_append, List.nil_append, List.append_nil, List.length_cons, List.length_nil, List.length_set, Nat.reduceSub, Nat.reduceAdd, Nat.reduceLT, Nat.reduceLeDiff, Nat.zero_add, Nat.add_zero, Nat.sub_zero, Nat.sub_self, List.getElem?_cons_zero, List.getElem?_cons_succ, List.set_cons_zero, List.set_cons_succ, Option.toList_some, Option.toList_none, List.sum_cons, List.sum_nil, true_and, and_true, true_or, or_true, Nat.le_refl, Nat.zero_le, Value.category, Fin.isValue, Fin.val_zero, Fin.val_one, Fin.val_two, Fin.reduceFinMk, q_10, q_01, not_false_eq_true, not_true_eq_false, forall_const, true_implies, false_implies, implies_true, q_ni, q_fi, q_nb0, q_nb1, q_fb0, q_fb1, q_nor, q_nar, q_for, q_far, q_non, q_nan, q_fon, q_fan, imp_false, false_and, and_false, and_self, false_or, or_false, va_rf, refKind, q_fld, q_fset, q_oc, q_ai, q_aq, q_len, q_up_s, q_up_up, if_true]
    refine fun CP hq => ?_
    have nq : ∀ a e, σ9 a = some e → a ≠ CP := fun a e he e9 => by rw [e9, hq] at he; cases he
    simp only [c_push, c_null, c_iload, c_aload, c_istore, c_astore, c_iinc, c_iadd, c_isub, c_imul, c_iand, c_ineg, c_dup, c_dup2, c_pop, c_ifnull, c_ifnonnull, c_get, c_put, c_iald, c_zald, c_iast, c_zast, c_aald, c_aast, c_alen, c_new, c_newa, c_newq, c_mna, c_oinit, c_max, c_copy, c_iret, c_zret, c_aret, c_vret, q_do, q_rc, c_ifeq, c_ifne, c_iflt, c_ifge, c_ifgt, c_ifle, c_iceq, c_icne, c_iclt, c_icge, c_icgt, c_icle, c_call0, c_call1, c_call2, c_call3, c_call4, c_call5, c_call6, c_call7, q_L0, List.map_cons, List.map_nil, List.replicate, List.cons_append, List.nil_append, List.append_nil, List.length_cons, List.length_nil, List.length_set, Nat.reduceSub, Nat.reduceAdd, Nat.reduceLT, Nat.reduceLeDiff, Nat.zero_add, Nat.add_zero, Nat.sub_zero, Nat.sub_self, List.getElem?_cons_zero, List.getElem?_cons_succ, List.set_cons_zero, List.set_cons_succ, Option.toList_some, Option.toList_none, List.sum_cons, List.sum_nil, true_and, and_true, true_or, or_true, Nat.le_refl, Nat.zero_le, Value.category, Fin.isValue, Fin.val_zero, Fin.val_one, Fin.val_two, Fin.reduceFinMk, q_10, q_01, not_false_eq_true, not_true_eq_false, forall_const, true_implies, false_implies, implies_true, q_ni, q_fi, q_nb0, q_nb1, q_fb0, q_fb1, q_nor, q_nar, q_for, q_far, q_non, q_nan, q_fon, q_fan, imp_false, false_and, and_false, and_self, false_or, or_false, va_rf, refKind, s_X3_init, q_fld, q_fset, q_oc, q_ai, q_aq, q_len, q_up_s, q_up_up, if_true]
    refine fun σ' R hG hold => ?_
    have hold2 : ∀ a e, σ9 a = some e → ¬ R a ∧ σ' a = some e := fun a e he => hold a e (nq a e he) (by rw [q_up_n (nq a e he)]; exact he)
    have hr := hold2 _ _ ha
    simp only [c_push, c_null, c_iload, c_aload, c_istore, c_astore, c_iinc, c_iadd, c_isub, c_imul, c_iand, c_ineg, c_dup, c_dup2, c_pop, c_ifnull, c_ifnonnull, c_get, c_put, c_iald, c_zald, c_iast, c_zast, c_aald, c_aast, c_alen, c_new, c_newa, c_newq, c_mna, c_oinit, c_max, c_copy, c_iret, c_zret, c_aret, c_vret, q_do, q_rc, c_ifeq, c_ifne, c_iflt, c_ifge, c_ifgt, c_ifle, c_iceq, c_icne, c_iclt, c_icge, c_icgt, c_icle, c_call0, c_call1, c_call2, c_call3, c_call4, c_call5, c_call6, c_call7, q_L0, List.map_cons, List.map_nil, List.replicate, List.cons_append, List.nil_append, List.append_nil, List.length_cons, List.length_nil, List.length_set, Nat.reduceSub, Nat.reduceAdd, Nat.reduceLT, Nat.reduceLeDiff, Nat.zero_add, Nat.add_zero, Nat.sub_zero, Nat.sub_self, List.getElem?_cons_zero, List.getElem?_cons_succ, List.set_cons_zero, List.set_cons_succ, Option.toList_some, Option.toList_none, List.sum_cons, List.sum_nil, true_and, and_true, true_or, or_true, Nat.le_refl, Nat.zero_le, Value.category, Fin.isValue, Fin.val_zero, Fin.val_one, Fin.val_two, Fin.reduceFinMk, q_10, q_01, not_false_eq_true, not_true_eq_false, forall_const, true_implies, false_implies, implies_true, q_ni, q_fi, q_nb0, q_nb1, q_fb0, q_fb1, q_nor, q_nar, q_for, q_far, q_non, q_nan, q_fon, q_fan, imp_false, false_and, and_false, and_self, false_or, or_false, va_rf, refKind, q_fld, q_fset, q_oc, q_ai, q_aq, q_len, q_up_s, q_up_up, if_true, hr.2]
    have b1 := hold2 _ _ m1.1
    have b2 := hold2 _ _ m2.1
    have b3 := hold2 _ _ m3.1
    have b4 := hold2 _ _ m4.1
    have b5 := hold2 _ _ m5.1
    have b6 := hold2 _ _ m6.1
    have b7 := hold2 _ _ m7.1
    have n1 := m1.2
    have n2 := m2.2
    have n3 := m3.2
    have n4 := m4.2
    have n5 := m5.2
    have n6 := m6.2
    have n7 := m7.2
    clear m1 m2 m3 m4 m5 m6 m7 hp h2 h3 h4 h5 h6 h7 h8 h9 h10
    refine h1 _ ⟨fun k a => (k ≠ 7 ∧ ¬ R a ∧ ∃ e, q_up σ' r (rootE (fun _ => 0) P AC WK LC CL CP) a = some e ∧ kE e = k) ∨ (k = 7 ∧ R a), P, AC, AR, WK, LC, CL, CM, CP, fun _ => 0, fun _ => 0, fun _ => 0, fun _ => 0, fun _ => 0, fun _ => 0, fun _ => 0, fun _ => 0, fun _ => 0, ?_, ?_⟩
    · rintro t t' a (⟨c1, c2, e, c3, c4⟩ | ⟨c1, c2⟩) (⟨d1, d2, e', d3, d4⟩ | ⟨d1, d2⟩)
      · rw [c3] at d3
        cases d3
        rw [← c4, ← d4]
      · exact absurd d2 c2
      · exact absurd c2 d2
      · rw [c1, d1]
    · have lk : ∀ (k a : Nat) (e : q_E), a ≠ r → ¬ R a → σ' a = some e → kE e = k → k ≠ 7 → hv (q_up σ' r (rootE (fun _ => 0) P AC WK LC CL CP)) (fun a => (k ≠ 7 ∧ ¬ R a ∧ ∃ e, q_up σ' r (rootE (fun _ => 0) P AC WK LC CL CP) a = some e ∧ kE e = k) ∨ (k = 7 ∧ R a)) a e := fun k a e g1 g2 g3 g4 g5 => ⟨Or.inl ⟨g5, g2, e, by rw [q_up_n g1]; exact g3, g4⟩, by rw [q_up_n g1]; exact g3⟩
      intro k
      unfold Part
      by_cases e1 : k = 1
      · subst e1
        rw [if_pos rfl]
        exact ⟨Or.inl ⟨by decide, hr.1, _, q_up_s, rfl⟩, q_up_s⟩
      rw [if_neg e1]
      by_cases e2 : k = 2
      · subst e2
        rw [if_pos rfl]
        exact ⟨lk 2 P _ n7 b7.1 b7.2 rfl (by decide), fun i hi => absurd hi (Nat.not_lt_zero _), fun i j hi => absurd hi (Nat.not_lt_zero _), fun i hi => absurd hi (Nat.not_lt_zero _)⟩
      rw [if_neg e2]
      by_cases e3 : k = 3
      · subst e3
        rw [if_pos rfl]
        exact ⟨lk 3 AC _ n5 b5.1 b5.2 rfl (by decide), lk 3 AR _ n6 b6.1 b6.2 rfl (by decide), fun i hi => absurd hi (Nat.not_lt_zero _), by decide⟩
      rw [if_neg e3]
      by_cases e4 : k = 4
      · subst e4
        rw [if_pos rfl]
        exact ⟨lk 4 WK _ n4 b4.1 b4.2 rfl (by decide), fun i hi => absurd hi (Nat.not_lt_zero _)⟩
      rw [if_neg e4]
      by_cases e5 : k = 5
      · subst e5
        rw [if_pos rfl]
        exact ⟨lk 5 LC _ n3 b3.1 b3.2 rfl (by decide), fun i hi => absurd hi (Nat.not_lt_zero _)⟩
      rw [if_neg e5]
      by_cases e6 : k = 6
      · subst e6
        rw [if_pos rfl]
        exact ⟨lk 6 CL _ n1 b1.1 b1.2 rfl (by decide), fun _ => 0, lk 6 CM _ n2 b2.1 b2.2 rfl (by decide), fun x hx => rfl⟩
      rw [if_neg e6]
      by_cases e7 : k = 7
      · subst e7
        rw [if_pos rfl]
        refine ⟨_, hG.fr (fun a e ha he => ⟨Or.inr ⟨rfl, ha⟩, ?_⟩)⟩
        rw [q_up_n (fun e9 => hr.1 (by rw [← e9]; exact ha))]
        exact he
      rw [if_neg e7]
      have z0 : nwF (fun _ => 0) = 0 := rfl
      rw [z0, if_neg (by omega), if_neg (by omega), if_neg (by omega)]
      trivial
  · exact h.elim)
