-- the reference's constructor
def mPre (σ : q_S) (mr : Nat) (fs : List Value) (ps : List (Nat × Nat)) : Prop := (σ mr = some (.inr (11, fs)) ∧ fs.length = 35) ∧ (∀ x ∈ ps, σ x.2 = some (.inl (mT x.1, mN x.1, .inl (fun _ => 0))) ∧ x.2 ≠ mr) ∧ (ps.map (fun x => x.2)).Nodup
theorem mi_step {K : q_K} {L : List (Option Value)} {st : List Value} {σ : q_S} {cr sr mr : Nat} {fs : List Value} {ps : List (Nat × Nat)} {n : Int32} {ty : FieldType} (k c2 s2 : Nat) (h : mPre σ mr fs ps) (hL : L[0]? = some (some (.ref mr))) (hn : ¬ n < 0 ∧ n.toNatClampNeg ≤ 65536) (hc : cr = c2 + 1) (hs : sr = s2 + n.toNatClampNeg) (hk : k < 35) (hty : ty = mT k) (hN : n.toNatClampNeg = mN k)
    (kk : ∀ (q : Nat) (σ' : q_S), mPre σ' mr (fs.set k (.ref q)) ((k, q) :: ps) → K L st σ' c2 s2) : c_aload 0 (c_push n (c_newa ty (c_put 11 k (.array ty) K))) L st σ cr sr := by
  unfold c_aload
  rw [hL]
  dsimp only [c_push, c_newa]
  refine ⟨⟨hn.1, hn.2, by omega, by omega⟩, fun q hq => ?_⟩
  have hlen : k < fs.length := by rw [h.1.2]; exact hk
  have hne : mr ≠ q := fun e => by rw [← e, h.1.1] at hq; cases hq
  have h1 : q_up σ q (.inl (ty, n.toNatClampNeg, .inl (fun _ => 0))) mr = some (.inr (11, fs)) := by rw [q_up_n hne]; exact h.1.1
  dsimp only [c_put]
  have h2 : q_fld (q_up σ q (.inl (ty, n.toNatClampNeg, .inl (fun _ => 0)))) mr 11 k = some (fs[k]) := by simp only [q_fld, h1, if_true]; exact List.getElem?_eq_getElem hlen
  rw [h2]
  rw [show cr - 1 = c2 by omega, show sr - n.toNatClampNeg = s2 by omega]
  refine ⟨⟨rfl, rfl⟩, kk q _ ?_⟩
  rw [q_fset_eq h1]
  refine ⟨⟨q_up_s, by rw [List.length_set]; exact h.1.2⟩, fun x hx => ?_, ?_⟩
  · rcases List.mem_cons.mp hx with rfl | hx
    · exact ⟨by rw [q_up_n hne.symm, q_up_s, hty, hN], hne.symm⟩
    · have hx2 := h.2.1 x hx
      have hxq : x.2 ≠ q := fun e => by rw [← e, hx2.1] at hq; cases hq
      exact ⟨by rw [q_up_n hx2.2, q_up_n hxq]; exact hx2.1, hx2.2⟩
  · rw [List.map_cons, List.nodup_cons]
    refine ⟨fun hm => ?_, h.2.2⟩
    obtain ⟨x, hx, e⟩ := List.mem_map.mp hm
    have hx2 := h.2.1 x hx
    rw [e] at hx2
    rw [hx2.1] at hq
    cases hq
def adL (ps : List (Nat × Nat)) (k : Nat) : Nat := match ps.find? (fun x => x.1 == k) with
  | some x => x.2
  | none => 0
theorem nd_inj {ps : List (Nat × Nat)} (h : (ps.map (fun x => x.2)).Nodup) {x y : Nat × Nat} (hx : x ∈ ps) (hy : y ∈ ps) (e : x.2 = y.2) : x = y := by
  induction ps with
  | nil => cases hx
  | cons a t ih =>
    rw [List.map_cons, List.nodup_cons] at h
    rcases List.mem_cons.mp hx with hxa | hx2
    · rcases List.mem_cons.mp hy with hya | hy2
      · rw [hxa, hya]
      · exact absurd (List.mem_map.mpr ⟨y, hy2, by rw [← e, hxa]⟩) h.1
    · rcases List.mem_cons.mp hy with hya | hy2
      · exact absurd (List.mem_map.mpr ⟨x, hx2, by rw [e, hya]⟩) h.1
      · exact ih h.2 hx2 hy2
theorem adL_mem {q2 q3 q4 q6 q7 q8 q9 q10 q12 q13 q15 q16 q17 q18 q19 q20 q21 q23 q24 q25 q26 q27 q28 q29 q30 q32 q34 : Nat} {k : Nat} (hk : k ∈ mA) : (k, adL [(34, q34), (32, q32), (30, q30), (29, q29), (28, q28), (27, q27), (26, q26), (25, q25), (24, q24), (23, q23), (21, q21), (20, q20), (19, q19), (18, q18), (17, q17), (16, q16), (15, q15), (13, q13), (12, q12), (10, q10), (9, q9), (8, q8), (7, q7), (6, q6), (4, q4), (3, q3), (2, q2)] k) ∈ ([(34, q34), (32, q32), (30, q30), (29, q29), (28, q28), (27, q27), (26, q26), (25, q25), (24, q24), (23, q23), (21, q21), (20, q20), (19, q19), (18, q18), (17, q17), (16, q16), (15, q15), (13, q13), (12, q12), (10, q10), (9, q9), (8, q8), (7, q7), (6, q6), (4, q4), (3, q3), (2, q2)] : List (Nat × Nat)) := by
  have h : k ∈ [2, 3, 4, 6, 7, 8, 9, 10, 12, 13, 15, 16, 17, 18, 19, 20, 21, 23, 24, 25, 26, 27, 28, 29, 30, 32, 34] := hk
  simp only [List.mem_cons, List.not_mem_nil, or_false] at h
  rcases h with rfl | rfl | rfl | rfl | rfl | rfl | rfl | rfl | rfl | rfl | rfl | rfl | rfl | rfl | rfl | rfl | rfl | rfl | rfl | rfl | rfl | rfl | rfl | rfl | rfl | rfl | rfl <;> simp [adL]
theorem mf_end (q2 q3 q4 q6 q7 q8 q9 q10 q12 q13 q15 q16 q17 q18 q19 q20 q21 q23 q24 q25 q26 q27 q28 q29 q30 q32 q34 : Nat) : mF (adL [(34, q34), (32, q32), (30, q30), (29, q29), (28, q28), (27, q27), (26, q26), (25, q25), (24, q24), (23, q23), (21, q21), (20, q20), (19, q19), (18, q18), (17, q17), (16, q16), (15, q15), (13, q13), (12, q12), (10, q10), (9, q9), (8, q8), (7, q7), (6, q6), (4, q4), (3, q3), (2, q2)]) (fun _ => 0) 0 = [.int 0, .int 0, .ref q2, .ref q3, .ref q4, .int 0, .ref q6, .ref q7, .ref q8, .ref q9, .ref q10, .int 0, .ref q12, .ref q13, .int 0, .ref q15, .ref q16, .ref q17, .ref q18, .ref q19, .ref q20, .ref q21, .int 0, .ref q23, .ref q24, .ref q25, .ref q26, .ref q27, .ref q28, .ref q29, .ref q30, .int 0, .ref q32, .int 0, .ref q34] := by
  unfold mF
  simp only [adL, List.find?_cons, Nat.reduceBEq]
def s_X11_init : q_Sp := fun av σ post => match av with
  | [.ref mr] => σ mr = some (.inr (11, [.int 0, .int 0, .null, .null, .null, .int 0, .null, .null, .null, .null, .null, .int 0, .null, .null, .int 0, .null, .null, .null, .null, .null, .null, .null, .int 0, .null, .null, .null, .null, .null, .null, .null, .null, .int 0, .null, .int 0, .null])) ∧ ∀ σ' ad, mOK σ' mr ad (fun _ => 0) (fun _ _ => 0) → post none σ'
  | _ => False
theorem w9_111 : (.methodLink RX11 1 objectInit : Cond) ∈ lw_tbl := by decide +kernel
theorem w9_112 : (.instanceMethod objectInit : Cond) ∈ lw_tbl := by decide +kernel
theorem w9_113 : (.code objectInit ⟨#[0xb1]⟩ 1 none : Cond) ∈ lw_tbl := by decide +kernel
theorem w9_114 : (.arrayClass .int : Cond) ∈ lw_tbl := by decide +kernel
theorem w9_115 : (.arrayClass .boolean : Cond) ∈ lw_tbl := by decide +kernel
def rm_X11_init : Room := { frames := 1, cells := 27, slots := 10327, locals := 20 }
def k_X11_init_0 (post : Option Value → q_S → Prop) (K : Nat → q_K) : q_K := (c_aload 0 (c_oinit (c_aload 0 (c_push 12 (c_newa .int (c_put 11 2 (.array .int) (c_aload 0 (c_push 12 (c_newa .int (c_put 11 3 (.array .int) (c_aload 0 (c_push 12 (c_newa .int (c_put 11 4 (.array .int) (c_aload 0 (c_push 6 (c_newa .int (c_put 11 6 (.array .int) (c_aload 0 (c_push 6 (c_newa .int (c_put 11 7 (.array .int) (c_aload 0 (c_push 6 (c_newa .int (c_put 11 8 (.array .int) (c_aload 0 (c_push 6 (c_newa .int (c_put 11 9 (.array .int) (c_aload 0 (c_push 6 (c_newa .int (c_put 11 10 (.array .int) (c_aload 0 (c_push 20 (c_newa .int (c_put 11 12 (.array .int) (c_aload 0 (c_push 20 (c_newa .int (c_put 11 13 (.array .int) (c_aload 0 (c_push 1000 (c_newa .int (c_put 11 15 (.array .int) (c_aload 0 (c_push 1000 (c_newa .int (c_put 11 16 (.array .int) (c_aload 0 (c_push 1000 (c_newa .int (c_put 11 17 (.array .int) (c_aload 0 (c_push 1000 (c_newa .int (c_put 11 18 (.array .int) (c_aload 0 (c_push 1000 (c_newa .int (c_put 11 19 (.array .int) (c_aload 0 (c_push 2880 (c_newa .int (c_put 11 20 (.array .int) (c_aload 0 (c_push 240 (c_newa .boolean (c_put 11 21 (.array .boolean) (c_aload 0 (c_push 40 (c_newa .int (c_put 11 23 (.array .int) (c_aload 0 (c_push 40 (c_newa .int (c_put 11 24 (.array .int) (c_aload 0 (c_push 40 (c_newa .int (c_put 11 25 (.array .int) (c_aload 0 (c_push 40 (c_newa .int (c_put 11 26 (.array .int) (c_aload 0 (c_push 40 (c_newa .int (c_put 11 27 (.array .int) (c_aload 0 (c_push 40 (c_newa .int (c_put 11 28 (.array .int) (c_aload 0 (c_push 20 (c_newa .int (c_put 11 29 (.array .int) (c_aload 0 (c_push 400 (c_newa .int (c_put 11 30 (.array .int) (c_aload 0 (c_push 1000 (c_newa .boolean (c_put 11 32 (.array .boolean) (c_aload 0 (c_push 441 (c_newa .int (c_put 11 34 (.array .int) (c_vret post)))))))))))))))))))))))))))))))))))))))))))))))))))))))))))))))))))))))))))))))))))))))))))))))))))))))))))))))
set_option maxRecDepth 100000 in
theorem v_X11_init_0 {p : Program} {l : Launch} {e : Env} {s : State} {m : MethodId} {args : Array Value} {below : List Frame} {meth : Method} {c : Code} {D : va_G} {A : Nat → Prop} {post : Option Value → q_S → Prop} {K : Nat → q_K} (C : q_C p s m args meth c cX11_init 1 RX11 "<init>" none A) (hK : ∀ h ∈ ([] : List Nat), q_V p l e rm_X11_init s m args below meth c D A 1 (MQ below (q_Qc D A post) args s rm_X11_init.cells rm_X11_init.slots A) h (K h)) : q_V p l e rm_X11_init s m args below meth c D A 1 (MQ below (q_Qc D A post) args s rm_X11_init.cells rm_X11_init.slots A) 0 (k_X11_init_0 post K) := by
  unfold k_X11_init_0
  refine q_aload_n C (by decide +kernel : decode cX11_init 0 = .ok (.aload_n 0, 1)) ?_
  refine q_oinit C w9_111 w9_112 w9_113 (by decide) (by decide +kernel : decode cX11_init 1 = .ok (.invokespecial 1, 3)) ?_
  refine q_aload_n C (by decide +kernel : decode cX11_init 4 = .ok (.aload_n 0, 1)) ?_
  refine q_bipush C (by decide +kernel : decode cX11_init 5 = .ok (.bipush 12, 2)) (by decide) ?_
  refine q_newaI C w9_114 (by decide +kernel : decode cX11_init 7 = .ok (.newarray .int, 2)) ?_
  refine q_putF C (ci := 11) (j := 2) (C0 := RX11) (T := TX11) (N := 35) (ty := .array .int) rfl iX11 giX11 (by decide) tyX11 tyX11_ok nmX11 (by decide +kernel) rfl rfl rfl w9_11 (by decide +kernel : decode cX11_init 9 = .ok (.putfield 7, 3)) ?_
  refine q_aload_n C (by decide +kernel : decode cX11_init 12 = .ok (.aload_n 0, 1)) ?_
  refine q_bipush C (by decide +kernel : decode cX11_init 13 = .ok (.bipush 12, 2)) (by decide) ?_
  refine q_newaI C w9_114 (by decide +kernel : decode cX11_init 15 = .ok (.newarray .int, 2)) ?_
  refine q_putF C (ci := 11) (j := 3) (C0 := RX11) (T := TX11) (N := 35) (ty := .array .int) rfl iX11 giX11 (by decide) tyX11 tyX11_ok nmX11 (by decide +kernel) rfl rfl rfl w9_12 (by decide +kernel : decode cX11_init 17 = .ok (.putfield 13, 3)) ?_
  refine q_aload_n C (by decide +kernel : decode cX11_init 20 = .ok (.aload_n 0, 1)) ?_
  refine q_bipush C (by decide +kernel : decode cX11_init 21 = .ok (.bipush 12, 2)) (by decide) ?_
  refine q_newaI C w9_114 (by decide +kernel : decode cX11_init 23 = .ok (.newarray .int, 2)) ?_
  refine q_putF C (ci := 11) (j := 4) (C0 := RX11) (T := TX11) (N := 35) (ty := .array .int) rfl iX11 giX11 (by decide) tyX11 tyX11_ok nmX11 (by decide +kernel) rfl rfl rfl w9_17 (by decide +kernel : decode cX11_init 25 = .ok (.putfield 16, 3)) ?_
  refine q_aload_n C (by decide +kernel : decode cX11_init 28 = .ok (.aload_n 0, 1)) ?_
  refine q_bipush C (by decide +kernel : decode cX11_init 29 = .ok (.bipush 6, 2)) (by decide) ?_
  refine q_newaI C w9_114 (by decide +kernel : decode cX11_init 31 = .ok (.newarray .int, 2)) ?_
  refine q_putF C (ci := 11) (j := 6) (C0 := RX11) (T := TX11) (N := 35) (ty := .array .int) rfl iX11 giX11 (by decide) tyX11 tyX11_ok nmX11 (by decide +kernel) rfl rfl rfl w9_23 (by decide +kernel : decode cX11_init 33 = .ok (.putfield 19, 3)) ?_
  refine q_aload_n C (by decide +kernel : decode cX11_init 36 = .ok (.aload_n 0, 1)) ?_
  refine q_bipush C (by decide +kernel : decode cX11_init 37 = .ok (.bipush 6, 2)) (by decide) ?_
  refine q_newaI C w9_114 (by decide +kernel : decode cX11_init 39 = .ok (.newarray .int, 2)) ?_
  refine q_putF C (ci := 11) (j := 7) (C0 := RX11) (T := TX11) (N := 35) (ty := .array .int) rfl iX11 giX11 (by decide) tyX11 tyX11_ok nmX11 (by decide +kernel) rfl rfl rfl w9_24 (by decide +kernel : decode cX11_init 41 = .ok (.putfield 22, 3)) ?_
  refine q_aload_n C (by decide +kernel : decode cX11_init 44 = .ok (.aload_n 0, 1)) ?_
  refine q_bipush C (by decide +kernel : decode cX11_init 45 = .ok (.bipush 6, 2)) (by decide) ?_
  refine q_newaI C w9_114 (by decide +kernel : decode cX11_init 47 = .ok (.newarray .int, 2)) ?_
  refine q_putF C (ci := 11) (j := 8) (C0 := RX11) (T := TX11) (N := 35) (ty := .array .int) rfl iX11 giX11 (by decide) tyX11 tyX11_ok nmX11 (by decide +kernel) rfl rfl rfl w9_25 (by decide +kernel : decode cX11_init 49 = .ok (.putfield 25, 3)) ?_
  refine q_aload_n C (by decide +kernel : decode cX11_init 52 = .ok (.aload_n 0, 1)) ?_
  refine q_bipush C (by decide +kernel : decode cX11_init 53 = .ok (.bipush 6, 2)) (by decide) ?_
  refine q_newaI C w9_114 (by decide +kernel : decode cX11_init 55 = .ok (.newarray .int, 2)) ?_
  refine q_putF C (ci := 11) (j := 9) (C0 := RX11) (T := TX11) (N := 35) (ty := .array .int) rfl iX11 giX11 (by decide) tyX11 tyX11_ok nmX11 (by decide +kernel) rfl rfl rfl w9_26 (by decide +kernel : decode cX11_init 57 = .ok (.putfield 28, 3)) ?_
  refine q_aload_n C (by decide +kernel : decode cX11_init 60 = .ok (.aload_n 0, 1)) ?_
  refine q_bipush C (by decide +kernel : decode cX11_init 61 = .ok (.bipush 6, 2)) (by decide) ?_
  refine q_newaI C w9_114 (by decide +kernel : decode cX11_init 63 = .ok (.newarray .int, 2)) ?_
  refine q_putF C (ci := 11) (j := 10) (C0 := RX11) (T := TX11) (N := 35) (ty := .array .int) rfl iX11 giX11 (by decide) tyX11 tyX11_ok nmX11 (by decide +kernel) rfl rfl rfl w9_27 (by decide +kernel : decode cX11_init 65 = .ok (.putfield 31, 3)) ?_
  refine q_aload_n C (by decide +kernel : decode cX11_init 68 = .ok (.aload_n 0, 1)) ?_
  refine q_bipush C (by decide +kernel : decode cX11_init 69 = .ok (.bipush 20, 2)) (by decide) ?_
  refine q_newaI C w9_114 (by decide +kernel : decode cX11_init 71 = .ok (.newarray .int, 2)) ?_
  refine q_putF C (ci := 11) (j := 12) (C0 := RX11) (T := TX11) (N := 35) (ty := .array .int) rfl iX11 giX11 (by decide) tyX11 tyX11_ok nmX11 (by decide +kernel) rfl rfl rfl w9_28 (by decide +kernel : decode cX11_init 73 = .ok (.putfield 34, 3)) ?_
  refine q_aload_n C (by decide +kernel : decode cX11_init 76 = .ok (.aload_n 0, 1)) ?_
  refine q_bipush C (by decide +kernel : decode cX11_init 77 = .ok (.bipush 20, 2)) (by decide) ?_
  refine q_newaI C w9_114 (by decide +kernel : decode cX11_init 79 = .ok (.newarray .int, 2)) ?_
  refine q_putF C (ci := 11) (j := 13) (C0 := RX11) (T := TX11) (N := 35) (ty := .array .int) rfl iX11 giX11 (by decide) tyX11 tyX11_ok nmX11 (by decide +kernel) rfl rfl rfl w9_29 (by decide +kernel : decode cX11_init 81 = .ok (.putfield 37, 3)) ?_
  refine q_aload_n C (by decide +kernel : decode cX11_init 84 = .ok (.aload_n 0, 1)) ?_
  refine q_sipush C (by decide +kernel : decode cX11_init 85 = .ok (.sipush 1000, 3)) (by decide) ?_
  refine q_newaI C w9_114 (by decide +kernel : decode cX11_init 88 = .ok (.newarray .int, 2)) ?_
  refine q_putF C (ci := 11) (j := 15) (C0 := RX11) (T := TX11) (N := 35) (ty := .array .int) rfl iX11 giX11 (by decide) tyX11 tyX11_ok nmX11 (by decide +kernel) rfl rfl rfl w9_56 (by decide +kernel : decode cX11_init 90 = .ok (.putfield 40, 3)) ?_
  refine q_aload_n C (by decide +kernel : decode cX11_init 93 = .ok (.aload_n 0, 1)) ?_
  refine q_sipush C (by decide +kernel : decode cX11_init 94 = .ok (.sipush 1000, 3)) (by decide) ?_
  refine q_newaI C w9_114 (by decide +kernel : decode cX11_init 97 = .ok (.newarray .int, 2)) ?_
  refine q_putF C (ci := 11) (j := 16) (C0 := RX11) (T := TX11) (N := 35) (ty := .array .int) rfl iX11 giX11 (by decide) tyX11 tyX11_ok nmX11 (by decide +kernel) rfl rfl rfl w9_58 (by decide +kernel : decode cX11_init 99 = .ok (.putfield 43, 3)) ?_
  refine q_aload_n C (by decide +kernel : decode cX11_init 102 = .ok (.aload_n 0, 1)) ?_
  refine q_sipush C (by decide +kernel : decode cX11_init 103 = .ok (.sipush 1000, 3)) (by decide) ?_
  refine q_newaI C w9_114 (by decide +kernel : decode cX11_init 106 = .ok (.newarray .int, 2)) ?_
  refine q_putF C (ci := 11) (j := 17) (C0 := RX11) (T := TX11) (N := 35) (ty := .array .int) rfl iX11 giX11 (by decide) tyX11 tyX11_ok nmX11 (by decide +kernel) rfl rfl rfl w9_59 (by decide +kernel : decode cX11_init 108 = .ok (.putfield 46, 3)) ?_
  refine q_aload_n C (by decide +kernel : decode cX11_init 111 = .ok (.aload_n 0, 1)) ?_
  refine q_sipush C (by decide +kernel : decode cX11_init 112 = .ok (.sipush 1000, 3)) (by decide) ?_
  refine q_newaI C w9_114 (by decide +kernel : decode cX11_init 115 = .ok (.newarray .int, 2)) ?_
  refine q_putF C (ci := 11) (j := 18) (C0 := RX11) (T := TX11) (N := 35) (ty := .array .int) rfl iX11 giX11 (by decide) tyX11 tyX11_ok nmX11 (by decide +kernel) rfl rfl rfl w9_60 (by decide +kernel : decode cX11_init 117 = .ok (.putfield 49, 3)) ?_
  refine q_aload_n C (by decide +kernel : decode cX11_init 120 = .ok (.aload_n 0, 1)) ?_
  refine q_sipush C (by decide +kernel : decode cX11_init 121 = .ok (.sipush 1000, 3)) (by decide) ?_
  refine q_newaI C w9_114 (by decide +kernel : decode cX11_init 124 = .ok (.newarray .int, 2)) ?_
  refine q_putF C (ci := 11) (j := 19) (C0 := RX11) (T := TX11) (N := 35) (ty := .array .int) rfl iX11 giX11 (by decide) tyX11 tyX11_ok nmX11 (by decide +kernel) rfl rfl rfl w9_61 (by decide +kernel : decode cX11_init 126 = .ok (.putfield 52, 3)) ?_
  refine q_aload_n C (by decide +kernel : decode cX11_init 129 = .ok (.aload_n 0, 1)) ?_
  refine q_sipush C (by decide +kernel : decode cX11_init 130 = .ok (.sipush 2880, 3)) (by decide) ?_
  refine q_newaI C w9_114 (by decide +kernel : decode cX11_init 133 = .ok (.newarray .int, 2)) ?_
  refine q_putF C (ci := 11) (j := 20) (C0 := RX11) (T := TX11) (N := 35) (ty := .array .int) rfl iX11 giX11 (by decide) tyX11 tyX11_ok nmX11 (by decide +kernel) rfl rfl rfl w9_62 (by decide +kernel : decode cX11_init 135 = .ok (.putfield 55, 3)) ?_
  refine q_aload_n C (by decide +kernel : decode cX11_init 138 = .ok (.aload_n 0, 1)) ?_
  refine q_sipush C (by decide +kernel : decode cX11_init 139 = .ok (.sipush 240, 3)) (by decide) ?_
  refine q_newaZ C w9_115 (by decide +kernel : decode cX11_init 142 = .ok (.newarray .boolean, 2)) ?_
  refine q_putF C (ci := 11) (j := 21) (C0 := RX11) (T := TX11) (N := 35) (ty := .array .boolean) rfl iX11 giX11 (by decide) tyX11 tyX11_ok nmX11 (by decide +kernel) rfl rfl rfl w9_83 (by decide +kernel : decode cX11_init 144 = .ok (.putfield 58, 3)) ?_
  refine q_aload_n C (by decide +kernel : decode cX11_init 147 = .ok (.aload_n 0, 1)) ?_
  refine q_bipush C (by decide +kernel : decode cX11_init 148 = .ok (.bipush 40, 2)) (by decide) ?_
  refine q_newaI C w9_114 (by decide +kernel : decode cX11_init 150 = .ok (.newarray .int, 2)) ?_
  refine q_putF C (ci := 11) (j := 23) (C0 := RX11) (T := TX11) (N := 35) (ty := .array .int) rfl iX11 giX11 (by decide) tyX11 tyX11_ok nmX11 (by decide +kernel) rfl rfl rfl w9_92 (by decide +kernel : decode cX11_init 152 = .ok (.putfield 62, 3)) ?_
  refine q_aload_n C (by decide +kernel : decode cX11_init 155 = .ok (.aload_n 0, 1)) ?_
  refine q_bipush C (by decide +kernel : decode cX11_init 156 = .ok (.bipush 40, 2)) (by decide) ?_
  refine q_newaI C w9_114 (by decide +kernel : decode cX11_init 158 = .ok (.newarray .int, 2)) ?_
  refine q_putF C (ci := 11) (j := 24) (C0 := RX11) (T := TX11) (N := 35) (ty := .array .int) rfl iX11 giX11 (by decide) tyX11 tyX11_ok nmX11 (by decide +kernel) rfl rfl rfl w9_93 (by decide +kernel : decode cX11_init 160 = .ok (.putfield 65, 3)) ?_
  refine q_aload_n C (by decide +kernel : decode cX11_init 163 = .ok (.aload_n 0, 1)) ?_
  refine q_bipush C (by decide +kernel : decode cX11_init 164 = .ok (.bipush 40, 2)) (by decide) ?_
  refine q_newaI C w9_114 (by decide +kernel : decode cX11_init 166 = .ok (.newarray .int, 2)) ?_
  refine q_putF C (ci := 11) (j := 25) (C0 := RX11) (T := TX11) (N := 35) (ty := .array .int) rfl iX11 giX11 (by decide) tyX11 tyX11_ok nmX11 (by decide +kernel) rfl rfl rfl w9_94 (by decide +kernel : decode cX11_init 168 = .ok (.putfield 68, 3)) ?_
  refine q_aload_n C (by decide +kernel : decode cX11_init 171 = .ok (.aload_n 0, 1)) ?_
  refine q_bipush C (by decide +kernel : decode cX11_init 172 = .ok (.bipush 40, 2)) (by decide) ?_
  refine q_newaI C w9_114 (by decide +kernel : decode cX11_init 174 = .ok (.newarray .int, 2)) ?_
  refine q_putF C (ci := 11) (j := 26) (C0 := RX11) (T := TX11) (N := 35) (ty := .array .int) rfl iX11 giX11 (by decide) tyX11 tyX11_ok nmX11 (by decide +kernel) rfl rfl rfl w9_95 (by decide +kernel : decode cX11_init 176 = .ok (.putfield 71, 3)) ?_
  refine q_aload_n C (by decide +kernel : decode cX11_init 179 = .ok (.aload_n 0, 1)) ?_
  refine q_bipush C (by decide +kernel : decode cX11_init 180 = .ok (.bipush 40, 2)) (by decide) ?_
  refine q_newaI C w9_114 (by decide +kernel : decode cX11_init 182 = .ok (.newarray .int, 2)) ?_
  refine q_putF C (ci := 11) (j := 27) (C0 := RX11) (T := TX11) (N := 35) (ty := .array .int) rfl iX11 giX11 (by decide) tyX11 tyX11_ok nmX11 (by decide +kernel) rfl rfl rfl w9_96 (by decide +kernel : decode cX11_init 184 = .ok (.putfield 74, 3)) ?_
  refine q_aload_n C (by decide +kernel : decode cX11_init 187 = .ok (.aload_n 0, 1)) ?_
  refine q_bipush C (by decide +kernel : decode cX11_init 188 = .ok (.bipush 40, 2)) (by decide) ?_
  refine q_newaI C w9_114 (by decide +kernel : decode cX11_init 190 = .ok (.newarray .int, 2)) ?_
  refine q_putF C (ci := 11) (j := 28) (C0 := RX11) (T := TX11) (N := 35) (ty := .array .int) rfl iX11 giX11 (by decide) tyX11 tyX11_ok nmX11 (by decide +kernel) rfl rfl rfl w9_97 (by decide +kernel : decode cX11_init 192 = .ok (.putfield 77, 3)) ?_
  refine q_aload_n C (by decide +kernel : decode cX11_init 195 = .ok (.aload_n 0, 1)) ?_
  refine q_bipush C (by decide +kernel : decode cX11_init 196 = .ok (.bipush 20, 2)) (by decide) ?_
  refine q_newaI C w9_114 (by decide +kernel : decode cX11_init 198 = .ok (.newarray .int, 2)) ?_
  refine q_putF C (ci := 11) (j := 29) (C0 := RX11) (T := TX11) (N := 35) (ty := .array .int) rfl iX11 giX11 (by decide) tyX11 tyX11_ok nmX11 (by decide +kernel) rfl rfl rfl w9_30 (by decide +kernel : decode cX11_init 200 = .ok (.putfield 80, 3)) ?_
  refine q_aload_n C (by decide +kernel : decode cX11_init 203 = .ok (.aload_n 0, 1)) ?_
  refine q_sipush C (by decide +kernel : decode cX11_init 204 = .ok (.sipush 400, 3)) (by decide) ?_
  refine q_newaI C w9_114 (by decide +kernel : decode cX11_init 207 = .ok (.newarray .int, 2)) ?_
  refine q_putF C (ci := 11) (j := 30) (C0 := RX11) (T := TX11) (N := 35) (ty := .array .int) rfl iX11 giX11 (by decide) tyX11 tyX11_ok nmX11 (by decide +kernel) rfl rfl rfl w9_84 (by decide +kernel : decode cX11_init 209 = .ok (.putfield 83, 3)) ?_
  refine q_aload_n C (by decide +kernel : decode cX11_init 212 = .ok (.aload_n 0, 1)) ?_
  refine q_sipush C (by decide +kernel : decode cX11_init 213 = .ok (.sipush 1000, 3)) (by decide) ?_
  refine q_newaZ C w9_115 (by decide +kernel : decode cX11_init 216 = .ok (.newarray .boolean, 2)) ?_
  refine q_putF C (ci := 11) (j := 32) (C0 := RX11) (T := TX11) (N := 35) (ty := .array .boolean) rfl iX11 giX11 (by decide) tyX11 tyX11_ok nmX11 (by decide +kernel) rfl rfl rfl w9_85 (by decide +kernel : decode cX11_init 218 = .ok (.putfield 86, 3)) ?_
  refine q_aload_n C (by decide +kernel : decode cX11_init 221 = .ok (.aload_n 0, 1)) ?_
  refine q_sipush C (by decide +kernel : decode cX11_init 222 = .ok (.sipush 441, 3)) (by decide) ?_
  refine q_newaI C w9_114 (by decide +kernel : decode cX11_init 225 = .ok (.newarray .int, 2)) ?_
  refine q_putF C (ci := 11) (j := 34) (C0 := RX11) (T := TX11) (N := 35) (ty := .array .int) rfl iX11 giX11 (by decide) tyX11 tyX11_ok nmX11 (by decide +kernel) rfl rfl rfl w9_102 (by decide +kernel : decode cX11_init 227 = .ok (.putfield 89, 3)) ?_
  exact q_vret C rfl (by decide +kernel : decode cX11_init 230 = .ok (.return_, 1))
theorem u_X11_init (l : Launch) {sp : q_Sp} (H : ∀ (av : List Value) (σ : q_S) (post : Option Value → q_S → Prop), sp av σ post → k_X11_init_0 post (fun _ _ _ _ _ _ => False) (q_L0 av 1) [] σ 27 10327 ∧ av.length ≤ 1 ∧ ∀ v ∈ av, v.category = 1) : q_Ct l yX11_init cX11_init 1 none rm_X11_init sp := by
  refine q_met (by decide) ?_
  intro D A p e s m args below meth c σ av post C hsp
  obtain ⟨h1, h2, h3⟩ := H av σ post hsp
  exact ⟨_, v_X11_init_0 (K := fun _ _ _ _ _ _ => False) C (fun h hh => by cases hh), h1, h2, h3⟩
theorem t_X11_init (l : Launch) : q_Ct l yX11_init cX11_init 1 none rm_X11_init s_X11_init := u_X11_init l (by
  intro av σ post h
  unfold s_X11_init at h
  split at h
  · next mr =>
    obtain ⟨h0, h1⟩ := h
    refine ⟨?_, by simp, by simp [Value.category]⟩
    have hp : mPre σ mr ([.int 0, .int 0, .null, .null, .null, .int 0, .null, .null, .null, .null, .null, .int 0, .null, .null, .int 0, .null, .null, .null, .null, .null, .null, .null, .int 0, .null, .null, .null, .null, .null, .null, .null, .null, .int 0, .null, .int 0, .null]) [] := ⟨⟨h0, rfl⟩, fun x hx => (by cases hx), List.nodup_nil⟩
    unfold k_X11_init_0
    have e0 : q_L0 [Value.ref mr] 1 = [some (.ref mr)] := rfl
    rw [e0]
    show c_oinit _ [some (.ref mr)] [.ref mr] σ 27 10327
    unfold c_oinit
    refine ⟨by simp, ?_⟩
    refine mi_step 2 26 10315 hp rfl (by decide) rfl (by decide) (by decide) rfl (by decide) (fun q2 σ2 h2 => ?_)
    refine mi_step 3 25 10303 h2 rfl (by decide) rfl (by decide) (by decide) rfl (by decide) (fun q3 σ3 h3 => ?_)
    refine mi_step 4 24 10291 h3 rfl (by decide) rfl (by decide) (by decide) rfl (by decide) (fun q4 σ4 h4 => ?_)
    refine mi_step 6 23 10285 h4 rfl (by decide) rfl (by decide) (by decide) rfl (by decide) (fun q6 σ6 h6 => ?_)
    refine mi_step 7 22 10279 h6 rfl (by decide) rfl (by decide) (by decide) rfl (by decide) (fun q7 σ7 h7 => ?_)
    refine mi_step 8 21 10273 h7 rfl (by decide) rfl (by decide) (by decide) rfl (by decide) (fun q8 σ8 h8 => ?_)
    refine mi_step 9 20 10267 h8 rfl (by decide) rfl (by decide) (by decide) rfl (by decide) (fun q9 σ9 h9 => ?_)
    refine mi_step 10 19 10261 h9 rfl (by decide) rfl (by decide) (by decide) rfl (by decide) (fun q10 σ10 h10 => ?_)
    refine mi_step 12 18 10241 h10 rfl (by decide) rfl (by decide) (by decide) rfl (by decide) (fun q12 σ12 h12 => ?_)
    refine mi_step 13 17 10221 h12 rfl (by decide) rfl (by decide) (by decide) rfl (by decide) (fun q13 σ13 h13 => ?_)
    refine mi_step 15 16 9221 h13 rfl (by decide) rfl (by decide) (by decide) rfl (by decide) (fun q15 σ15 h15 => ?_)
    refine mi_step 16 15 8221 h15 rfl (by decide) rfl (by decide) (by decide) rfl (by decide) (fun q16 σ16 h16 => ?_)
    refine mi_step 17 14 7221 h16 rfl (by decide) rfl (by decide) (by decide) rfl (by decide) (fun q17 σ17 h17 => ?_)
    refine mi_step 18 13 6221 h17 rfl (by decide) rfl (by decide) (by decide) rfl (by decide) (fun q18 σ18 h18 => ?_)
    refine mi_step 19 12 5221 h18 rfl (by decide) rfl (by decide) (by decide) rfl (by decide) (fun q19 σ19 h19 => ?_)
    refine mi_step 20 11 2341 h19 rfl (by decide) rfl (by decide) (by decide) rfl (by decide) (fun q20 σ20 h20 => ?_)
    refine mi_step 21 10 2101 h20 rfl (by decide) rfl (by decide) (by decide) rfl (by decide) (fun q21 σ21 h21 => ?_)
    refine mi_step 23 9 2061 h21 rfl (by decide) rfl (by decide) (by decide) rfl (by decide) (fun q23 σ23 h23 => ?_)
    refine mi_step 24 8 2021 h23 rfl (by decide) rfl (by decide) (by decide) rfl (by decide) (fun q24 σ24 h24 => ?_)
    refine mi_step 25 7 1981 h24 rfl (by decide) rfl (by decide) (by decide) rfl (by decide) (fun q25 σ25 h25 => ?_)
    refine mi_step 26 6 1941 h25 rfl (by decide) rfl (by decide) (by decide) rfl (by decide) (fun q26 σ26 h26 => ?_)
    refine mi_step 27 5 1901 h26 rfl (by decide) rfl (by decide) (by decide) rfl (by decide) (fun q27 σ27 h27 => ?_)
    refine mi_step 28 4 1861 h27 rfl (by decide) rfl (by decide) (by decide) rfl (by decide) (fun q28 σ28 h28 => ?_)
    refine mi_step 29 3 1841 h28 rfl (by decide) rfl (by decide) (by decide) rfl (by decide) (fun q29 σ29 h29 => ?_)
    refine mi_step 30 2 1441 h29 rfl (by decide) rfl (by decide) (by decide) rfl (by decide) (fun q30 σ30 h30 => ?_)
    refine mi_step 32 1 441 h30 rfl (by decide) rfl (by decide) (by decide) rfl (by decide) (fun q32 σ32 h32 => ?_)
    refine mi_step 34 0 0 h32 rfl (by decide) rfl (by decide) (by decide) rfl (by decide) (fun q34 σ34 h34 => ?_)
    show post none σ34
    have h9 := h34.1.1
    simp only [List.set_cons_zero, List.set_cons_succ] at h9
    refine h1 σ34 (adL [(34, q34), (32, q32), (30, q30), (29, q29), (28, q28), (27, q27), (26, q26), (25, q25), (24, q24), (23, q23), (21, q21), (20, q20), (19, q19), (18, q18), (17, q17), (16, q16), (15, q15), (13, q13), (12, q12), (10, q10), (9, q9), (8, q8), (7, q7), (6, q6), (4, q4), (3, q3), (2, q2)]) ⟨0, fun _ => 0, by rw [h9, mf_end], fun k hk => ?_, fun k hk j hj e => ?_⟩
    · have hg : mG (fun _ _ => 0) (fun _ => 0) k = fun _ => 0 := by unfold mG; split <;> rfl
      rw [hg]
      have hf : (k, adL [(34, q34), (32, q32), (30, q30), (29, q29), (28, q28), (27, q27), (26, q26), (25, q25), (24, q24), (23, q23), (21, q21), (20, q20), (19, q19), (18, q18), (17, q17), (16, q16), (15, q15), (13, q13), (12, q12), (10, q10), (9, q9), (8, q8), (7, q7), (6, q6), (4, q4), (3, q3), (2, q2)] k) ∈ ([(34, q34), (32, q32), (30, q30), (29, q29), (28, q28), (27, q27), (26, q26), (25, q25), (24, q24), (23, q23), (21, q21), (20, q20), (19, q19), (18, q18), (17, q17), (16, q16), (15, q15), (13, q13), (12, q12), (10, q10), (9, q9), (8, q8), (7, q7), (6, q6), (4, q4), (3, q3), (2, q2)] : List (Nat × Nat)) := adL_mem hk
      exact (h34.2.1 _ hf).1
    · have hf : (k, adL [(34, q34), (32, q32), (30, q30), (29, q29), (28, q28), (27, q27), (26, q26), (25, q25), (24, q24), (23, q23), (21, q21), (20, q20), (19, q19), (18, q18), (17, q17), (16, q16), (15, q15), (13, q13), (12, q12), (10, q10), (9, q9), (8, q8), (7, q7), (6, q6), (4, q4), (3, q3), (2, q2)] k) ∈ ([(34, q34), (32, q32), (30, q30), (29, q29), (28, q28), (27, q27), (26, q26), (25, q25), (24, q24), (23, q23), (21, q21), (20, q20), (19, q19), (18, q18), (17, q17), (16, q16), (15, q15), (13, q13), (12, q12), (10, q10), (9, q9), (8, q8), (7, q7), (6, q6), (4, q4), (3, q3), (2, q2)] : List (Nat × Nat)) := adL_mem hk
      have hf2 : (j, adL [(34, q34), (32, q32), (30, q30), (29, q29), (28, q28), (27, q27), (26, q26), (25, q25), (24, q24), (23, q23), (21, q21), (20, q20), (19, q19), (18, q18), (17, q17), (16, q16), (15, q15), (13, q13), (12, q12), (10, q10), (9, q9), (8, q8), (7, q7), (6, q6), (4, q4), (3, q3), (2, q2)] j) ∈ ([(34, q34), (32, q32), (30, q30), (29, q29), (28, q28), (27, q27), (26, q26), (25, q25), (24, q24), (23, q23), (21, q21), (20, q20), (19, q19), (18, q18), (17, q17), (16, q16), (15, q15), (13, q13), (12, q12), (10, q10), (9, q9), (8, q8), (7, q7), (6, q6), (4, q4), (3, q3), (2, q2)] : List (Nat × Nat)) := adL_mem hj
      have := nd_inj h34.2.2 hf hf2 e
      exact congrArg Prod.fst this
  · exact h.elim)
