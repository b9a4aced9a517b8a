-- license of the register
def AG0 (z : Nat → Int32) (g : Nat → Nat → Int32) : Prop := ∀ w p, w < nwF z → npF z ≤ p → p < 12 → g 21 (12 * w + p) = 0
theorem agC_1 {z : Nat → Int32} {g : Nat → Nat → Int32} {w : Nat} {f x : Nat → Int32} (hw : w < 20) (hf : ∀ p, p < 12 → f p = g 21 (12 * w + p)) (hx : ∀ p, 0 ≤ plcF p ∧ plcF p < 13 → shF x p = holdsF g (nI w) (plcF p) (z 0) (mvF z)) : ∀ i, i ≤ 12 → agC f x i = agF z g (nI w) i
  | 0, _ => rfl
  | i + 1, h => by
    have e := plc (p := nI i) ⟨nI_low (by omega), nI_ltN (N := 12) (by omega)⟩
    have e2 := hx (nI i) e.2
    rw [e.1] at e2
    rw [agC, agF, agC_1 hw hf hx i (by omega), hf i (by omega), e2, clN (by omega)]
theorem agC_2 {f x : Nat → Int32} {n : Nat} (h0 : ∀ p, n ≤ p → p < 12 → f p = 0) : ∀ d, n + d ≤ 12 → agC f x (n + d) = agC f x n
  | 0, _ => rfl
  | d + 1, h => by rw [show n + (d + 1) = (n + d) + 1 from rfl, agC, if_pos (h0 (n + d) (by omega) (by omega)), Int32.add_zero, agC_2 h0 d (by omega)]
theorem nlF_s {z : Nat → Int32} (h : 0 ≤ z 22 ∧ z 22 < 40) : nlF (upd z 22 (z 22 + 1)) = nlF z + 1 := by
  have e := nI_self h.1
  have h2 := clamp_lt 40 h.1 h.2
  unfold nlF
  show (z 22 + 1).toNatClampNeg = _
  rw [← e, nI_1, clN (by omega), clN (by omega)]
def s_X10_license : q_Sp := fun av σ post => match av with
  | [.ref r, .int w, .int u, .int p, .int a, .int b] => ∃ z g, RegOK σ r z g ∧ I1 z ∧ EN z g ∧ AB z g ∧ DB z g ∧ AU2 z g ∧ AG0 z g ∧ ∀ σ', RegOK σ' r (F_license z g w u p a b).2.1 (F_license z g w u p a b).2.2 → post (some (.int (F_license z g w u p a b).1)) σ'
  | _ => False
theorem w9_413 : (.code yX9_agreeingShares cX9_agreeingShares 3 (some .int) : Cond) ∈ lw_tbl := by decide +kernel
theorem w9_414 : (.methodLink RX10 175 yX9_agreeingShares : Cond) ∈ lw_tbl := by decide +kernel
theorem w9_415 : (.instanceMethod yX9_agreeingShares : Cond) ∈ lw_tbl := by decide +kernel
theorem w9_416 : (.selects RX9 yX9_agreeingShares yX9_agreeingShares : Cond) ∈ lw_tbl := by decide +kernel
theorem w9_417 : (.code yX1_consentOn cX1_consentOn 3 (some .int) : Cond) ∈ lw_tbl := by decide +kernel
theorem w9_418 : (.methodLink RX10 179 yX1_consentOn : Cond) ∈ lw_tbl := by decide +kernel
theorem w9_419 : (.instanceMethod yX1_consentOn : Cond) ∈ lw_tbl := by decide +kernel
theorem w9_420 : (.selects RX1 yX1_consentOn yX1_consentOn : Cond) ∈ lw_tbl := by decide +kernel
theorem w9_421 : (.classLink RX10 40 RX4 : Cond) ∈ lw_tbl := by decide +kernel
theorem w9_422 : (.instantiable RX4 6 : Cond) ∈ lw_tbl := by decide +kernel
theorem w9_423 : (.code yX4_init cX4_init 7 none : Cond) ∈ lw_tbl := by decide +kernel
theorem w9_424 : (.methodLink RX10 182 yX4_init : Cond) ∈ lw_tbl := by decide +kernel
theorem w9_425 : (.instanceMethod yX4_init : Cond) ∈ lw_tbl := by decide +kernel
def rm_X10_license : Room := { frames := 6, cells := 1, slots := 6, locals := 139 }
def k_X10_license_52 (post : Option Value → q_S → Prop) (K : Nat → q_K) : q_K := (c_push (-2) (c_iret post))
def k_X10_license_94 (post : Option Value → q_S → Prop) (K : Nat → q_K) : q_K := (c_push (-3) (c_iret post))
def k_X10_license_0 (post : Option Value → q_S → Prop) (K : Nat → q_K) : q_K := (c_aload 0 (c_iload 1 (c_call2 (some 10) s_X10_workAt 0 0 (c_astore 6 (c_aload 6 (c_ifnull (k_X10_license_52 post K) (c_iload 2 (c_push 0 (c_push 3 (c_call3 none s_X10_isWithin 0 0 (c_ifeq (k_X10_license_52 post K) (c_aload 0 (c_iload 3 (c_call2 (some 10) s_X10_personAt 0 0 (c_ifnull (k_X10_license_52 post K) (c_iload 4 (c_call1 none s_X10_isDay 0 0 (c_ifeq (k_X10_license_52 post K) (c_iload 5 (c_call1 none s_X10_isDay 0 0 (c_ifeq (k_X10_license_52 post K) (c_iload 5 (c_iload 4 (c_icge (c_aload 0 (c_get 10 3 (c_aload 6 (c_aload 0 (c_get 10 0 (c_aload 0 (c_get 10 0 (c_call4 (some 1) s_X1_protect 0 0 (c_ifeq (k_X10_license_94 post K) (c_aload 6 (c_call1 (some 9) s_X9_agreeingShares 0 0 (c_aload 0 (c_get 10 3 (c_aload 0 (c_get 10 0 (c_call2 (some 1) s_X1_consentOn 0 0 (c_icge (c_aload 0 (c_get 10 7 (c_push 40 (c_iclt (c_aload 0 (c_get 10 6 (c_aload 0 (c_get 10 7 (c_new 4 6 [.int 0, .int 0, .int 0, .int 0, .int 0, .int 0] (c_dup (c_iload 1 (c_iload 2 (c_iload 3 (c_aload 0 (c_get 10 0 (c_iload 4 (c_iload 5 (c_call7 (some 4) s_X4_init 0 0 (c_aast 4 (c_aload 0 (c_dup (c_get 10 7 (c_push 1 (c_iadd (c_put 10 7 (.int) (c_aload 0 (c_get 10 7 (c_push 1 (c_isub (c_iret post)))))))))))))))))))))))))) (c_push (-4) (c_iret post)))))) (k_X10_license_94 post K)))))))))))))))))) (k_X10_license_52 post K)))))))))))))))))))))))))
set_option maxRecDepth 100000 in
theorem v_X10_license_52 {p : Program} {l : Launch} {e : Env} {s : State} {m : MethodId} {args : Array Value} {below : List Frame} {meth : Method} {c : Code} {D : va_G} {A : Nat → Prop} {post : Option Value → q_S → Prop} {K : Nat → q_K} (C : q_C p s m args meth c cX10_license 7 RX10 "license" (some .int) A) (hK : ∀ h ∈ ([] : List Nat), q_V p l e rm_X10_license s m args below meth c D A 7 (MQ below (q_Qc D A post) args s rm_X10_license.cells rm_X10_license.slots A) h (K h)) : q_V p l e rm_X10_license s m args below meth c D A 7 (MQ below (q_Qc D A post) args s rm_X10_license.cells rm_X10_license.slots A) 52 (k_X10_license_52 post K) := by
  unfold k_X10_license_52
  refine q_bipush C (by decide +kernel : decode cX10_license 52 = .ok (.bipush (-2), 2)) (by decide) ?_
  exact q_iret C rfl (by decide +kernel : decode cX10_license 54 = .ok (.ireturn, 1))
set_option maxRecDepth 100000 in
theorem v_X10_license_94 {p : Program} {l : Launch} {e : Env} {s : State} {m : MethodId} {args : Array Value} {below : List Frame} {meth : Method} {c : Code} {D : va_G} {A : Nat → Prop} {post : Option Value → q_S → Prop} {K : Nat → q_K} (C : q_C p s m args meth c cX10_license 7 RX10 "license" (some .int) A) (hK : ∀ h ∈ ([] : List Nat), q_V p l e rm_X10_license s m args below meth c D A 7 (MQ below (q_Qc D A post) args s rm_X10_license.cells rm_X10_license.slots A) h (K h)) : q_V p l e rm_X10_license s m args below meth c D A 7 (MQ below (q_Qc D A post) args s rm_X10_license.cells rm_X10_license.slots A) 94 (k_X10_license_94 post K) := by
  unfold k_X10_license_94
  refine q_bipush C (by decide +kernel : decode cX10_license 94 = .ok (.bipush (-3), 2)) (by decide) ?_
  exact q_iret C rfl (by decide +kernel : decode cX10_license 96 = .ok (.ireturn, 1))
set_option maxRecDepth 100000 in
theorem v_X10_license_0 {p : Program} {l : Launch} {e : Env} {s : State} {m : MethodId} {args : Array Value} {below : List Frame} {meth : Method} {c : Code} {D : va_G} {A : Nat → Prop} {post : Option Value → q_S → Prop} {K : Nat → q_K} (C : q_C p s m args meth c cX10_license 7 RX10 "license" (some .int) A) (hK : ∀ h ∈ ([] : List Nat), q_V p l e rm_X10_license s m args below meth c D A 7 (MQ below (q_Qc D A post) args s rm_X10_license.cells rm_X10_license.slots A) h (K h)) : q_V p l e rm_X10_license s m args below meth c D A 7 (MQ below (q_Qc D A post) args s rm_X10_license.cells rm_X10_license.slots A) 0 (k_X10_license_0 post K) := by
  unfold k_X10_license_0
  refine q_aload_n C (by decide +kernel : decode cX10_license 0 = .ok (.aload_n 0, 1)) ?_
  refine q_iload_n C (by decide +kernel : decode cX10_license 1 = .ok (.iload_n 1, 1)) ?_
  refine q_call2 C (q_coV C (np := 1) (ci := 10) (rc := (RX10, TX10, 10)) (t_X10_workAt l) w9_337 rfl rfl w9_338 w9_339 w9_340 w9_1 (by decide +kernel) (by decide +kernel : decode cX10_license 2 = .ok (.invokevirtual 87, 3)) (by decide)) ?_
  refine q_astore C (by decide +kernel : decode cX10_license 5 = .ok (.astore 6, 2)) ?_
  refine q_aload C (by decide +kernel : decode cX10_license 7 = .ok (.aload 6, 2)) ?_
  refine q_ifnull C (tgt := 52) (by decide +kernel : decode cX10_license 9 = .ok (.ifnull 43, 3)) (by decide) ?_ ?_
  · exact v_X10_license_52 C hK
  · refine q_iload_n C (by decide +kernel : decode cX10_license 12 = .ok (.iload_n 2, 1)) ?_
    refine q_iconst C (by decide +kernel : decode cX10_license 13 = .ok (.iconst 0, 1)) (by decide) ?_
    refine q_iconst C (by decide +kernel : decode cX10_license 14 = .ok (.iconst 3, 1)) (by decide) ?_
    refine q_call3 C (q_coS C (np := 3) (t_X10_isWithin l) w9_0 w9_3 w9_2 w9_1 (by decide +kernel) (by decide +kernel : decode cX10_license 15 = .ok (.invokestatic 63, 3)) (by decide)) ?_
    refine q_ifeq C (tgt := 52) (by decide +kernel : decode cX10_license 18 = .ok (.ifCond .eq 34, 3)) (by decide) ?_ ?_
    · exact v_X10_license_52 C hK
    · refine q_aload_n C (by decide +kernel : decode cX10_license 21 = .ok (.aload_n 0, 1)) ?_
      refine q_iload_n C (by decide +kernel : decode cX10_license 22 = .ok (.iload_n 3, 1)) ?_
      refine q_call2 C (q_coV C (np := 1) (ci := 10) (rc := (RX10, TX10, 10)) (t_X10_personAt l) w9_316 rfl rfl w9_317 w9_318 w9_319 w9_1 (by decide +kernel) (by decide +kernel : decode cX10_license 23 = .ok (.invokevirtual 68, 3)) (by decide)) ?_
      refine q_ifnull C (tgt := 52) (by decide +kernel : decode cX10_license 26 = .ok (.ifnull 26, 3)) (by decide) ?_ ?_
      · exact v_X10_license_52 C hK
      · refine q_iload C (by decide +kernel : decode cX10_license 29 = .ok (.iload 4, 2)) ?_
        refine q_call1 C (q_coS C (np := 1) (t_X10_isDay l) w9_329 w9_331 w9_330 w9_1 (by decide +kernel) (by decide +kernel : decode cX10_license 31 = .ok (.invokestatic 101, 3)) (by decide)) ?_
        refine q_ifeq C (tgt := 52) (by decide +kernel : decode cX10_license 34 = .ok (.ifCond .eq 18, 3)) (by decide) ?_ ?_
        · exact v_X10_license_52 C hK
        · refine q_iload C (by decide +kernel : decode cX10_license 37 = .ok (.iload 5, 2)) ?_
          refine q_call1 C (q_coS C (np := 1) (t_X10_isDay l) w9_329 w9_331 w9_330 w9_1 (by decide +kernel) (by decide +kernel : decode cX10_license 39 = .ok (.invokestatic 101, 3)) (by decide)) ?_
          refine q_ifeq C (tgt := 52) (by decide +kernel : decode cX10_license 42 = .ok (.ifCond .eq 10, 3)) (by decide) ?_ ?_
          · exact v_X10_license_52 C hK
          · refine q_iload C (by decide +kernel : decode cX10_license 45 = .ok (.iload 5, 2)) ?_
            refine q_iload C (by decide +kernel : decode cX10_license 47 = .ok (.iload 4, 2)) ?_
            refine q_icge C (tgt := 55) (by decide +kernel : decode cX10_license 49 = .ok (.if_icmp .ge 6, 3)) (by decide) ?_ ?_
            · refine q_aload_n C (by decide +kernel : decode cX10_license 55 = .ok (.aload_n 0, 1)) ?_
              refine q_get C (ci := 10) (j := 3) (C0 := RX10) (T := TX10) (N := 10) rfl iX10 giX10 (by decide) w9_321 (by decide +kernel : decode cX10_license 56 = .ok (.getfield 27, 3)) ?_
              refine q_aload C (by decide +kernel : decode cX10_license 59 = .ok (.aload 6, 2)) ?_
              refine q_aload_n C (by decide +kernel : decode cX10_license 61 = .ok (.aload_n 0, 1)) ?_
              refine q_get C (ci := 10) (j := 0) (C0 := RX10) (T := TX10) (N := 10) rfl iX10 giX10 (by decide) w9_320 (by decide +kernel : decode cX10_license 62 = .ok (.getfield 9, 3)) ?_
              refine q_aload_n C (by decide +kernel : decode cX10_license 65 = .ok (.aload_n 0, 1)) ?_
              refine q_get C (ci := 10) (j := 0) (C0 := RX10) (T := TX10) (N := 10) rfl iX10 giX10 (by decide) w9_320 (by decide +kernel : decode cX10_license 66 = .ok (.getfield 9, 3)) ?_
              refine q_call4 C (q_coV C (np := 3) (ci := 1) (rc := (RX1, TX1, 2)) (t_X1_protect l) w9_405 rfl rfl w9_406 w9_407 w9_408 w9_255 (by decide +kernel) (by decide +kernel : decode cX10_license 69 = .ok (.invokevirtual 135, 3)) (by decide)) ?_
              refine q_ifeq C (tgt := 94) (by decide +kernel : decode cX10_license 72 = .ok (.ifCond .eq 22, 3)) (by decide) ?_ ?_
              · exact v_X10_license_94 C hK
              · refine q_aload C (by decide +kernel : decode cX10_license 75 = .ok (.aload 6, 2)) ?_
                refine q_call1 C (q_coV C (np := 0) (ci := 9) (rc := (RX9, TX9, 5)) (t_X9_agreeingShares l) w9_413 rfl rfl w9_414 w9_415 w9_416 w9_353 (by decide +kernel) (by decide +kernel : decode cX10_license 77 = .ok (.invokevirtual 175, 3)) (by decide)) ?_
                refine q_aload_n C (by decide +kernel : decode cX10_license 80 = .ok (.aload_n 0, 1)) ?_
                refine q_get C (ci := 10) (j := 3) (C0 := RX10) (T := TX10) (N := 10) rfl iX10 giX10 (by decide) w9_321 (by decide +kernel : decode cX10_license 81 = .ok (.getfield 27, 3)) ?_
                refine q_aload_n C (by decide +kernel : decode cX10_license 84 = .ok (.aload_n 0, 1)) ?_
                refine q_get C (ci := 10) (j := 0) (C0 := RX10) (T := TX10) (N := 10) rfl iX10 giX10 (by decide) w9_320 (by decide +kernel : decode cX10_license 85 = .ok (.getfield 9, 3)) ?_
                refine q_call2 C (q_coV C (np := 1) (ci := 1) (rc := (RX1, TX1, 2)) (t_X1_consentOn l) w9_417 rfl rfl w9_418 w9_419 w9_420 w9_255 (by decide +kernel) (by decide +kernel : decode cX10_license 88 = .ok (.invokevirtual 179, 3)) (by decide)) ?_
                refine q_icge C (tgt := 97) (by decide +kernel : decode cX10_license 91 = .ok (.if_icmp .ge 6, 3)) (by decide) ?_ ?_
                · refine q_aload_n C (by decide +kernel : decode cX10_license 97 = .ok (.aload_n 0, 1)) ?_
                  refine q_get C (ci := 10) (j := 7) (C0 := RX10) (T := TX10) (N := 10) rfl iX10 giX10 (by decide) w9_322 (by decide +kernel : decode cX10_license 98 = .ok (.getfield 46, 3)) ?_
                  refine q_bipush C (by decide +kernel : decode cX10_license 101 = .ok (.bipush 40, 2)) (by decide) ?_
                  refine q_iclt C (tgt := 109) (by decide +kernel : decode cX10_license 103 = .ok (.if_icmp .lt 6, 3)) (by decide) ?_ ?_
                  · refine q_aload_n C (by decide +kernel : decode cX10_license 109 = .ok (.aload_n 0, 1)) ?_
                    refine q_get C (ci := 10) (j := 6) (C0 := RX10) (T := TX10) (N := 10) rfl iX10 giX10 (by decide) w9_376 (by decide +kernel : decode cX10_license 110 = .ok (.getfield 42, 3)) ?_
                    refine q_aload_n C (by decide +kernel : decode cX10_license 113 = .ok (.aload_n 0, 1)) ?_
                    refine q_get C (ci := 10) (j := 7) (C0 := RX10) (T := TX10) (N := 10) rfl iX10 giX10 (by decide) w9_322 (by decide +kernel : decode cX10_license 114 = .ok (.getfield 46, 3)) ?_
                    refine q_new C (ci := 4) (C0 := RX4) (T := TX4) (N := 6) (fs := [.int 0, .int 0, .int 0, .int 0, .int 0, .int 0]) rfl iX4 giX4 tyX4 tyX4_ok w9_421 w9_422 w9_378 dvX4 (by decide +kernel : decode cX10_license 117 = .ok (.new 40, 3)) ?_
                    refine q_dup C (by decide +kernel : decode cX10_license 120 = .ok (.dup, 1)) ?_
                    refine q_iload_n C (by decide +kernel : decode cX10_license 121 = .ok (.iload_n 1, 1)) ?_
                    refine q_iload_n C (by decide +kernel : decode cX10_license 122 = .ok (.iload_n 2, 1)) ?_
                    refine q_iload_n C (by decide +kernel : decode cX10_license 123 = .ok (.iload_n 3, 1)) ?_
                    refine q_aload_n C (by decide +kernel : decode cX10_license 124 = .ok (.aload_n 0, 1)) ?_
                    refine q_get C (ci := 10) (j := 0) (C0 := RX10) (T := TX10) (N := 10) rfl iX10 giX10 (by decide) w9_320 (by decide +kernel : decode cX10_license 125 = .ok (.getfield 9, 3)) ?_
                    refine q_iload C (by decide +kernel : decode cX10_license 128 = .ok (.iload 4, 2)) ?_
                    refine q_iload C (by decide +kernel : decode cX10_license 130 = .ok (.iload 5, 2)) ?_
                    refine q_call7 C (q_coI C (np := 6) (ci := 4) (t_X4_init l) w9_423 rfl w9_424 w9_425 w9_378 (by decide +kernel) (by decide +kernel : decode cX10_license 132 = .ok (.invokespecial 182, 3)) (by decide)) ?_
                    refine q_aast C (ci := 4) rfl (by decide +kernel : decode cX10_license 135 = .ok (.aastore, 1)) ?_
                    refine q_aload_n C (by decide +kernel : decode cX10_license 136 = .ok (.aload_n 0, 1)) ?_
                    refine q_dup C (by decide +kernel : decode cX10_license 137 = .ok (.dup, 1)) ?_
                    refine q_get C (ci := 10) (j := 7) (C0 := RX10) (T := TX10) (N := 10) rfl iX10 giX10 (by decide) w9_322 (by decide +kernel : decode cX10_license 138 = .ok (.getfield 46, 3)) ?_
                    refine q_iconst C (by decide +kernel : decode cX10_license 141 = .ok (.iconst 1, 1)) (by decide) ?_
                    refine q_iadd C (by decide +kernel : decode cX10_license 142 = .ok (.iadd, 1)) ?_
                    refine q_put C (ci := 10) (j := 7) (C0 := RX10) (T := TX10) (N := 10) (ty := .int) rfl iX10 giX10 (by decide) tyX10 tyX10_ok nmX10 (by decide +kernel) rfl w9_322 (by decide +kernel : decode cX10_license 143 = .ok (.putfield 46, 3)) ?_
                    refine q_aload_n C (by decide +kernel : decode cX10_license 146 = .ok (.aload_n 0, 1)) ?_
                    refine q_get C (ci := 10) (j := 7) (C0 := RX10) (T := TX10) (N := 10) rfl iX10 giX10 (by decide) w9_322 (by decide +kernel : decode cX10_license 147 = .ok (.getfield 46, 3)) ?_
                    refine q_iconst C (by decide +kernel : decode cX10_license 150 = .ok (.iconst 1, 1)) (by decide) ?_
                    refine q_isub C (by decide +kernel : decode cX10_license 151 = .ok (.isub, 1)) ?_
                    exact q_iret C rfl (by decide +kernel : decode cX10_license 152 = .ok (.ireturn, 1))
                  · refine q_bipush C (by decide +kernel : decode cX10_license 106 = .ok (.bipush (-4), 2)) (by decide) ?_
                    exact q_iret C rfl (by decide +kernel : decode cX10_license 108 = .ok (.ireturn, 1))
                · exact v_X10_license_94 C hK
            · exact v_X10_license_52 C hK
theorem u_X10_license (l : Launch) {sp : q_Sp} (H : ∀ (av : List Value) (σ : q_S) (post : Option Value → q_S → Prop), sp av σ post → k_X10_license_0 post (fun _ _ _ _ _ _ => False) (q_L0 av 7) [] σ 1 6 ∧ av.length ≤ 7 ∧ ∀ v ∈ av, v.category = 1) : q_Ct l yX10_license cX10_license 7 (some .int) rm_X10_license sp := by
  refine q_met (by decide) ?_
  intro D A p e s m args below meth c σ av post C hsp
  obtain ⟨h1, h2, h3⟩ := H av σ post hsp
  exact ⟨_, v_X10_license_0 (K := fun _ _ _ _ _ _ => False) C (fun h hh => by cases hh), h1, h2, h3⟩
theorem t_X10_license (l : Launch) : q_Ct l yX10_license cX10_license 7 (some .int) rm_X10_license s_X10_license := u_X10_license l (by
  intro av σ post h
  unfold s_X10_license at h
  split at h
  · next r w u p a b =>
    refine ⟨?_, by simp, by simp [Value.category]⟩
    obtain ⟨z, g, hR, hI, hEN, hAB, hDB, hAU, hAG, h1⟩ := h
    have hR0 := hR
    obtain ⟨Rg, P, AC, AR, WK, LC, CL, CM, CP, pa, aa, wa, sa, ga, la, lra, lc, lrn, hD⟩ := hR
    have e1 := hD.p1.2
    have e2 := hD.p2.1.2
    have e4 := hD.p4.1.2
    obtain ⟨l1, l2⟩ := hD.p5
    have o1 : q_oc σ r = some 10 := by simp only [q_oc, e1]
    have f0 : q_fld σ r 10 0 = some (.int (z 0)) := by simp only [q_fld, e1, if_true]; rfl
    have f3 : q_fld σ r 10 3 = some (.ref AC) := by simp only [q_fld, e1, if_true]; rfl
    have o3 : q_oc σ AC = some 1 := by simp only [q_oc, hD.p3.1.2]
    have h20 := hI.n20
    unfold F_license at h1
    by_cases ca : 0 ≤ w ∧ w < z 11
    · have hlw : w.toNatClampNeg < nwF z := ltN ca.1 ca.2
      have w1 := (hD.p4.2 _ hlw).2
      obtain ⟨lr, hW, hl⟩ := hD.wk hAU hlw
      have o9 : q_oc σ (wa w.toNatClampNeg) = some 9 := by simp only [q_oc, w1]
      obtain ⟨x, t, hS, hP, hx⟩ := (hD.sh hlw h20).hd (hEN _ hlw).2
      obtain ⟨f, k1, k2⟩ := hD.ag hlw h20
      by_cases cu : 0 ≤ u ∧ u ≤ 3
      · by_cases cp : 0 ≤ p ∧ p < z 1
        · by_cases cd : 0 ≤ a ∧ a ≤ 3000
          · by_cases ce : 0 ≤ b ∧ b ≤ 3000
            · by_cases cf : b < a
              · rw [if_neg (fun h => absurd h.2.2.2.2.1 (by grind))] at h1
                have h2 := h1 _ hR0
                simp only [c_push, c_null, c_iload, c_aload, c_istore, c_astore, c_iinc, c_iadd, c_isub, c_imul, c_iand, c_ineg, c_dup, c_dup2, c_pop, c_ifnull, c_ifnonnull, c_get, c_put, c_iald, c_zald, c_iast, c_zast, c_aald, c_aast, c_alen, c_new, c_newa, c_newq, c_mna, c_oinit, c_max, c_copy, c_iret, c_zret, c_aret, c_vret, q_do, q_rc, c_ifeq, c_ifne, c_iflt, c_ifge, c_ifgt, c_ifle, c_iceq, c_icne, c_iclt, c_icge, c_icgt, c_icle, c_call0, c_call1, c_call2, c_call3, c_call4, c_call5, c_call6, c_call7, q_L0, List.map_cons, List.map_nil, List.replicate, List.cons_append, List.nil_append, List.append_nil, List.length_cons, List.length_nil, List.length_set, Nat.reduceSub, Nat.reduceAdd, Nat.reduceLT, Nat.reduceLeDiff, Nat.zero_add, Nat.add_zero, Nat.sub_zero, Nat.sub_self, List.getElem?_cons_zero, List.getElem?_cons_succ, List.set_cons_zero, List.set_cons_succ, Option.toList_some, Option.toList_none, List.sum_cons, List.sum_nil, true_and, and_true, true_or, or_true, Nat.le_refl, Nat.zero_le, Value.category, Fin.isValue, Fin.val_zero, Fin.val_one, Fin.val_two, Fin.reduceFinMk, q_10, q_01, not_false_eq_true, not_true_eq_false, forall_const, true_implies, false_implies, implies_true, q_ni, q_fi, q_nb0, q_nb1, q_fb0, q_fb1, q_nor, q_nar, q_for, q_far, q_non, q_nan, q_fon, q_fan, imp_false, false_and, and_false, and_self, false_or, or_false, va_rf, refKind, k_X10_license_0, k_X10_license_52, k_X10_license_94, o1, f0, f3, o3, wAt e1 e4 hI.2.2.2.1, pAt e1 e2 hI.2.1, ca, cu, cp, cd, ce, s_X10_isWithin, s_X10_isDay, cf, show ¬ a ≤ b by grind, h2]
              · have cf' : a ≤ b := by grind
                rw [if_pos ⟨ca, cu, cp, cd, cf', ce.2⟩] at h1
                have hz := hI.1.2
                obtain ⟨r1, -⟩ := prC_rel (k := z 0) (t := z 0) hI hEN hAB hDB hAU hlw hl (by grind)
                have hn12 : npF z ≤ 12 := clamp_le 12 hI.2.1.1 hI.2.1.2
                have eag : agC f x.2.2.2 12 = agF z g w (z 1).toNatClampNeg := by
                  have q1 := agC_2 (f := f) (x := x.2.2.2) (n := npF z) (fun p h1 h2 => by rw [k2 p h2]; exact hAG _ p hlw h1 h2) (12 - npF z) (by omega)
                  rw [show npF z + (12 - npF z) = 12 by omega] at q1
                  rw [q1, agC_1 (z := z) (by omega) k2 hx (npF z) hn12, nI_self ca.1]
                  rfl
                simp only [c_push, c_null, c_iload, c_aload, c_istore, c_astore, c_iinc, c_iadd, c_isub, c_imul, c_iand, c_ineg, c_dup, c_dup2, c_pop, c_ifnull, c_ifnonnull, c_get, c_put, c_iald, c_zald, c_iast, c_zast, c_aald, c_aast, c_alen, c_new, c_newa, c_newq, c_mna, c_oinit, c_max, c_copy, c_iret, c_zret, c_aret, c_vret, q_do, q_rc, c_ifeq, c_ifne, c_iflt, c_ifge, c_ifgt, c_ifle, c_iceq, c_icne, c_iclt, c_icge, c_icgt, c_icle, c_call0, c_call1, c_call2, c_call3, c_call4, c_call5, c_call6, c_call7, q_L0, List.map_cons, List.map_nil, List.replicate, List.cons_append, List.nil_append, List.append_nil, List.length_cons, List.length_nil, List.length_set, Nat.reduceSub, Nat.reduceAdd, Nat.reduceLT, Nat.reduceLeDiff, Nat.zero_add, Nat.add_zero, Nat.sub_zero, Nat.sub_self, List.getElem?_cons_zero, List.getElem?_cons_succ, List.set_cons_zero, List.set_cons_succ, Option.toList_some, Option.toList_none, List.sum_cons, List.sum_nil, true_and, and_true, true_or, or_true, Nat.le_refl, Nat.zero_le, Value.category, Fin.isValue, Fin.val_zero, Fin.val_one, Fin.val_two, Fin.reduceFinMk, q_10, q_01, not_false_eq_true, not_true_eq_false, forall_const, true_implies, false_implies, implies_true, q_ni, q_fi, q_nb0, q_nb1, q_fb0, q_fb1, q_nor, q_nar, q_for, q_far, q_non, q_nan, q_fon, q_fan, imp_false, false_and, and_false, and_self, false_or, or_false, va_rf, refKind, k_X10_license_0, k_X10_license_52, k_X10_license_94, o1, o9, f0, f3, o3, wAt e1 e4 hI.2.2.2.1, pAt e1 e2 hI.2.1, ca, cu, cp, cd, ce, s_X10_isWithin, s_X10_isDay, cf, cf']
                refine ⟨_, _, _, _, _, _, _, _, hD.p3, hW, fun c => ?_, fun c => ?_⟩ <;> simp only [c_push, c_null, c_iload, c_aload, c_istore, c_astore, c_iinc, c_iadd, c_isub, c_imul, c_iand, c_ineg, c_dup, c_dup2, c_pop, c_ifnull, c_ifnonnull, c_get, c_put, c_iald, c_zald, c_iast, c_zast, c_aald, c_aast, c_alen, c_new, c_newa, c_newq, c_mna, c_oinit, c_max, c_copy, c_iret, c_zret, c_aret, c_vret, q_do, q_rc, c_ifeq, c_ifne, c_iflt, c_ifge, c_ifgt, c_ifle, c_iceq, c_icne, c_iclt, c_icge, c_icgt, c_icle, c_call0, c_call1, c_call2, c_call3, c_call4, c_call5, c_call6, c_call7, q_L0, List.map_cons, List.map_nil, List.replicate, List.cons_append, List.nil_append, List.append_nil, List.length_cons, List.length_nil, List.length_set, Nat.reduceSub, Nat.reduceAdd, Nat.reduceLT, Nat.reduceLeDiff, Nat.zero_add, Nat.add_zero, Nat.sub_zero, Nat.sub_self, List.getElem?_cons_zero, List.getElem?_cons_succ, List.set_cons_zero, List.set_cons_succ, Option.toList_some, Option.toList_none, List.sum_cons, List.sum_nil, true_and, and_true, true_or, or_true, Nat.le_refl, Nat.zero_le, Value.category, Fin.isValue, Fin.val_zero, Fin.val_one, Fin.val_two, Fin.reduceFinMk, q_10, q_01, not_false_eq_true, not_true_eq_false, forall_const, true_implies, false_implies, implies_true, q_ni, q_fi, q_nb0, q_nb1, q_fb0, q_fb1, q_nor, q_nar, q_for, q_far, q_non, q_nan, q_fon, q_fan, imp_false, false_and, and_false, and_self, false_or, or_false, va_rf, refKind, o9, f0, f3, o3]
                · refine ⟨_, _, _, _, _, _, _, _, _, _, w1, k1.2, hS, ?_⟩
                  simp only [c_push, c_null, c_iload, c_aload, c_istore, c_astore, c_iinc, c_iadd, c_isub, c_imul, c_iand, c_ineg, c_dup, c_dup2, c_pop, c_ifnull, c_ifnonnull, c_get, c_put, c_iald, c_zald, c_iast, c_zast, c_aald, c_aast, c_alen, c_new, c_newa, c_newq, c_mna, c_oinit, c_max, c_copy, c_iret, c_zret, c_aret, c_vret, q_do, q_rc, c_ifeq, c_ifne, c_iflt, c_ifge, c_ifgt, c_ifle, c_iceq, c_icne, c_iclt, c_icge, c_icgt, c_icle, c_call0, c_call1, c_call2, c_call3, c_call4, c_call5, c_call6, c_call7, q_L0, List.map_cons, List.map_nil, List.replicate, List.cons_append, List.nil_append, List.append_nil, List.length_cons, List.length_nil, List.length_set, Nat.reduceSub, Nat.reduceAdd, Nat.reduceLT, Nat.reduceLeDiff, Nat.zero_add, Nat.add_zero, Nat.sub_zero, Nat.sub_self, List.getElem?_cons_zero, List.getElem?_cons_succ, List.set_cons_zero, List.set_cons_succ, Option.toList_some, Option.toList_none, List.sum_cons, List.sum_nil, true_and, and_true, true_or, or_true, Nat.le_refl, Nat.zero_le, Value.category, Fin.isValue, Fin.val_zero, Fin.val_one, Fin.val_two, Fin.reduceFinMk, q_10, q_01, not_false_eq_true, not_true_eq_false, forall_const, true_implies, false_implies, implies_true, q_ni, q_fi, q_nb0, q_nb1, q_fb0, q_fb1, q_nor, q_nar, q_for, q_far, q_non, q_nan, q_fon, q_fan, imp_false, false_and, and_false, and_self, false_or, or_false, va_rf, refKind, o9, f0, f3, o3]
                  refine ⟨_, _, _, _, _, hD.p3, ?_⟩
                  rw [eag]
                  have ec : (if actF g (z 0) (naF z) = -1 then 16 else g 10 (actF g (z 0) (naF z)).toNatClampNeg) = consF z g (z 0) := rfl
                  rw [ec]
                  by_cases cg : agreedF z g w
                  · rw [if_pos ⟨r1.mp c, cg⟩] at h1
                    have cg1 : consF z g (z 0) ≤ agF z g w (z 1).toNatClampNeg := cg
                    have cg2 : ¬ agF z g w (z 1).toNatClampNeg < consF z g (z 0) := by grind
                    by_cases c40 : z 22 = 40
                    · rw [if_pos c40] at h1
                      have h2 := h1 _ hR0
                      have c40' : ¬ z 22 < 40 := by rw [c40]; decide
                      have c41' : (40 : Int32) ≤ z 22 := by rw [c40]; decide
                      simp only [c_push, c_null, c_iload, c_aload, c_istore, c_astore, c_iinc, c_iadd, c_isub, c_imul, c_iand, c_ineg, c_dup, c_dup2, c_pop, c_ifnull, c_ifnonnull, c_get, c_put, c_iald, c_zald, c_iast, c_zast, c_aald, c_aast, c_alen, c_new, c_newa, c_newq, c_mna, c_oinit, c_max, c_copy, c_iret, c_zret, c_aret, c_vret, q_do, q_rc, c_ifeq, c_ifne, c_iflt, c_ifge, c_ifgt, c_ifle, c_iceq, c_icne, c_iclt, c_icge, c_icgt, c_icle, c_call0, c_call1, c_call2, c_call3, c_call4, c_call5, c_call6, c_call7, q_L0, List.map_cons, List.map_nil, List.replicate, List.cons_append, List.nil_append, List.append_nil, List.length_cons, List.length_nil, List.length_set, Nat.reduceSub, Nat.reduceAdd, Nat.reduceLT, Nat.reduceLeDiff, Nat.zero_add, Nat.add_zero, Nat.sub_zero, Nat.sub_self, List.getElem?_cons_zero, List.getElem?_cons_succ, List.set_cons_zero, List.set_cons_succ, Option.toList_some, Option.toList_none, List.sum_cons, List.sum_nil, true_and, and_true, true_or, or_true, Nat.le_refl, Nat.zero_le, Value.category, Fin.isValue, Fin.val_zero, Fin.val_one, Fin.val_two, Fin.reduceFinMk, q_10, q_01, not_false_eq_true, not_true_eq_false, forall_const, true_implies, false_implies, implies_true, q_ni, q_fi, q_nb0, q_nb1, q_fb0, q_fb1, q_nor, q_nar, q_for, q_far, q_non, q_nan, q_fon, q_fan, imp_false, false_and, and_false, and_self, false_or, or_false, va_rf, refKind, q_fld, q_fset, q_oc, q_ai, q_aq, q_len, q_up_s, q_up_up, if_true, e1, cg1, cg2, c40', c41', h2]
                    · rw [if_neg c40] at h1
                      dsimp only at h1
                      have hI22 := hI.2.2.2.2.2.1
                      have c40' : z 22 < 40 := by grind
                      have c41' : ¬ (40 : Int32) ≤ z 22 := by grind
                      simp only [c_push, c_null, c_iload, c_aload, c_istore, c_astore, c_iinc, c_iadd, c_isub, c_imul, c_iand, c_ineg, c_dup, c_dup2, c_pop, c_ifnull, c_ifnonnull, c_get, c_put, c_iald, c_zald, c_iast, c_zast, c_aald, c_aast, c_alen, c_new, c_newa, c_newq, c_mna, c_oinit, c_max, c_copy, c_iret, c_zret, c_aret, c_vret, q_do, q_rc, c_ifeq, c_ifne, c_iflt, c_ifge, c_ifgt, c_ifle, c_iceq, c_icne, c_iclt, c_icge, c_icgt, c_icle, c_call0, c_call1, c_call2, c_call3, c_call4, c_call5, c_call6, c_call7, q_L0, List.map_cons, List.map_nil, List.replicate, List.cons_append, List.nil_append, List.append_nil, List.length_cons, List.length_nil, List.length_set, Nat.reduceSub, Nat.reduceAdd, Nat.reduceLT, Nat.reduceLeDiff, Nat.zero_add, Nat.add_zero, Nat.sub_zero, Nat.sub_self, List.getElem?_cons_zero, List.getElem?_cons_succ, List.set_cons_zero, List.set_cons_succ, Option.toList_some, Option.toList_none, List.sum_cons, List.sum_nil, true_and, and_true, true_or, or_true, Nat.le_refl, Nat.zero_le, Value.category, Fin.isValue, Fin.val_zero, Fin.val_one, Fin.val_two, Fin.reduceFinMk, q_10, q_01, not_false_eq_true, not_true_eq_false, forall_const, true_implies, false_implies, implies_true, q_ni, q_fi, q_nb0, q_nb1, q_fb0, q_fb1, q_nor, q_nar, q_for, q_far, q_non, q_nan, q_fon, q_fan, imp_false, false_and, and_false, and_self, false_or, or_false, va_rf, refKind, q_fld, q_fset, q_oc, q_ai, q_aq, q_len, q_up_s, q_up_up, if_true, e1, cg1, cg2, c40', c41']
                      intro q hq
                      have hq2 : ∀ a e, σ a = some e → a ≠ q := fun a e he e9 => by rw [e9, hq] at he; cases he
                      have hrq := hq2 _ _ e1
                      have hLq := hq2 _ _ l1.2
                      have hne := ne_ao l1.2 e1
                      have hru := refs_up 40 (nlF z) lc q "CopyRegister$Licence"
                      have en : q_nm 4 = "CopyRegister$Licence" := rfl
                      have e5 : (z 22).toNatClampNeg = nlF z := rfl
                      simp only [c_push, c_null, c_iload, c_aload, c_istore, c_astore, c_iinc, c_iadd, c_isub, c_imul, c_iand, c_ineg, c_dup, c_dup2, c_pop, c_ifnull, c_ifnonnull, c_get, c_put, c_iald, c_zald, c_iast, c_zast, c_aald, c_aast, c_alen, c_new, c_newa, c_newq, c_mna, c_oinit, c_max, c_copy, c_iret, c_zret, c_aret, c_vret, q_do, q_rc, c_ifeq, c_ifne, c_iflt, c_ifge, c_ifgt, c_ifle, c_iceq, c_icne, c_iclt, c_icge, c_icgt, c_icle, c_call0, c_call1, c_call2, c_call3, c_call4, c_call5, c_call6, c_call7, q_L0, List.map_cons, List.map_nil, List.replicate, List.cons_append, List.nil_append, List.append_nil, List.length_cons, List.length_nil, List.length_set, Nat.reduceSub, Nat.reduceAdd, Nat.reduceLT, Nat.reduceLeDiff, Nat.zero_add, Nat.add_zero, Nat.sub_zero, Nat.sub_self, List.getElem?_cons_zero, List.getElem?_cons_succ, List.set_cons_zero, List.set_cons_succ, Option.toList_some, Option.toList_none, List.sum_cons, List.sum_nil, true_and, and_true, true_or, or_true, Nat.le_refl, Nat.zero_le, Value.category, Fin.isValue, Fin.val_zero, Fin.val_one, Fin.val_two, Fin.reduceFinMk, q_10, q_01, not_false_eq_true, not_true_eq_false, forall_const, true_implies, false_implies, implies_true, q_ni, q_fi, q_nb0, q_nb1, q_fb0, q_fb1, q_nor, q_nar, q_for, q_far, q_non, q_nan, q_fon, q_fan, imp_false, false_and, and_false, and_self, false_or, or_false, va_rf, refKind, q_fld, q_fset, q_oc, q_ai, q_aq, q_len, q_up_s, q_up_up, if_true, s_X4_init, q_up_n hLq, q_up_n hrq, e1, l1.2, vpi40, en, e5, hru, q_up_n hne.symm, q_up_n hne]
                      refine ⟨by grind, ?_⟩
                      have e3 : z 22 + 1 - 1 = z 22 := by grind
                      rw [e3]
                      have hnl := nlF_s (z := z) ⟨hI22.1, c40'⟩
                      refine h1 _ (hD.put (pa' := pa) (aa' := aa) (wa' := wa) (sa' := sa) (ga' := ga) (la' := la) (lra' := lra) (lc' := va_up lc (nlF z) q) (lrn' := lrn) (z' := upd z 22 (z 22 + 1)) (g' := licF z g w u p a b) (fun t => t = 1 ∨ t = 5) (fun t a => (Rg t a ∧ σ a ≠ none) ∨ (t = 5 ∧ a = q)) ?_ ?_ ?_ ?_)
                      · rintro t t' a - - (h3 | h3) (h4 | h4)
                        · exact hD.1 _ _ _ h3.1 h4.1
                        · exact absurd (by rw [h4.2]; exact hq) h3.2
                        · exact absurd (by rw [h3.2]; exact hq) h4.2
                        · rw [h3.1, h4.1]
                      · intro a e ha he
                        refine ⟨?_, ?_⟩
                        · rintro t ht (h3 | h3)
                          · exact ha t ht h3.1
                          · exact hq2 a e he h3.2
                        · rw [q_up_n (fun e9 => ha 1 (Or.inl rfl) (by rw [e9]; exact hD.p1.1)), q_up_n (fun e9 => ha 5 (Or.inr rfl) (by rw [e9]; exact l1.1)), q_up_n (hq2 a e he)]; exact he
                      · rintro k (rfl | rfl)
                        · exact ⟨Or.inl ⟨hD.p1.1, by rw [e1]; exact fun h => by cases h⟩, q_up_s⟩
                        · show LcP _ _ LC _ _ (nlF (upd z 22 (z 22 + 1)))
                          rw [hnl]
                          refine ⟨⟨Or.inl ⟨l1.1, by rw [l1.2]; exact fun h => by cases h⟩, by rw [q_up_n hne, q_up_s]⟩, fun i hi => ?_⟩
                          by_cases e : i = nlF z
                          · subst e
                            rw [va_up_s]
                            refine ⟨Or.inr ⟨rfl, rfl⟩, ?_⟩
                            rw [q_up_n hrq.symm, q_up_n hLq.symm, q_up_s]
                            simp only [licF, gup, upd, nlF, if_true, Nat.reduceEqDiff, if_false]
                          · have k1 := l2 i (by omega)
                            rw [va_up_n e]
                            refine ⟨Or.inl ⟨k1.1, by rw [k1.2]; exact fun h => by cases h⟩, ?_⟩
                            rw [q_up_n (fun e9 => by have k2 := k1.2; rw [e9, e1] at k2; cases k2), q_up_n (ne_ao l1.2 k1.2).symm, q_up_n (hq2 _ _ k1.2)]
                            have e' : ¬ i = (z 22).toNatClampNeg := e
                            simp only [licF, gup, upd, e', if_true, Nat.reduceEqDiff, if_false]
                            exact k1.2
                      · intro k hk h
                        exact h.cong (fun e => absurd (Or.inl e) hk) (fun _ h => h) (fun _ h => h) (fun _ h => h) (fun e => absurd (Or.inr e) hk) (fun _ h => h) (fun i _ hi => ⟨hi, fun h => h.cong (Int32.le_refl _) rfl rfl rfl rfl rfl rfl rfl rfl rfl⟩) (fun i _ hi => ⟨hi, fun h => h⟩) (fun i _ hi => ⟨hi, fun h => h⟩) h20 h20
                  · rw [if_neg (fun h => cg h.2)] at h1
                    have h2 := h1 _ hR0
                    have cg1 : ¬ consF z g (z 0) ≤ agF z g w (z 1).toNatClampNeg := cg
                    have cg2 : agF z g w (z 1).toNatClampNeg < consF z g (z 0) := by grind
                    simp only [c_push, c_null, c_iload, c_aload, c_istore, c_astore, c_iinc, c_iadd, c_isub, c_imul, c_iand, c_ineg, c_dup, c_dup2, c_pop, c_ifnull, c_ifnonnull, c_get, c_put, c_iald, c_zald, c_iast, c_zast, c_aald, c_aast, c_alen, c_new, c_newa, c_newq, c_mna, c_oinit, c_max, c_copy, c_iret, c_zret, c_aret, c_vret, q_do, q_rc, c_ifeq, c_ifne, c_iflt, c_ifge, c_ifgt, c_ifle, c_iceq, c_icne, c_iclt, c_icge, c_icgt, c_icle, c_call0, c_call1, c_call2, c_call3, c_call4, c_call5, c_call6, c_call7, q_L0, List.map_cons, List.map_nil, List.replicate, List.cons_append, List.nil_append, List.append_nil, List.length_cons, List.length_nil, List.length_set, Nat.reduceSub, Nat.reduceAdd, Nat.reduceLT, Nat.reduceLeDiff, Nat.zero_add, Nat.add_zero, Nat.sub_zero, Nat.sub_self, List.getElem?_cons_zero, List.getElem?_cons_succ, List.set_cons_zero, List.set_cons_succ, Option.toList_some, Option.toList_none, List.sum_cons, List.sum_nil, true_and, and_true, true_or, or_true, Nat.le_refl, Nat.zero_le, Value.category, Fin.isValue, Fin.val_zero, Fin.val_one, Fin.val_two, Fin.reduceFinMk, q_10, q_01, not_false_eq_true, not_true_eq_false, forall_const, true_implies, false_implies, implies_true, q_ni, q_fi, q_nb0, q_nb1, q_fb0, q_fb1, q_nor, q_nar, q_for, q_far, q_non, q_nan, q_fon, q_fan, imp_false, false_and, and_false, and_self, false_or, or_false, va_rf, refKind, cg1, cg2, h2]
                · rw [if_neg (fun h => c (r1.mpr h.1))] at h1
                  exact h1 _ hR0
            · rw [if_neg (fun h => ce ⟨by have := h.2.2.2.1.1; have := h.2.2.2.2.1; grind, h.2.2.2.2.2⟩)] at h1
              have h2 := h1 _ hR0
              simp only [c_push, c_null, c_iload, c_aload, c_istore, c_astore, c_iinc, c_iadd, c_isub, c_imul, c_iand, c_ineg, c_dup, c_dup2, c_pop, c_ifnull, c_ifnonnull, c_get, c_put, c_iald, c_zald, c_iast, c_zast, c_aald, c_aast, c_alen, c_new, c_newa, c_newq, c_mna, c_oinit, c_max, c_copy, c_iret, c_zret, c_aret, c_vret, q_do, q_rc, c_ifeq, c_ifne, c_iflt, c_ifge, c_ifgt, c_ifle, c_iceq, c_icne, c_iclt, c_icge, c_icgt, c_icle, c_call0, c_call1, c_call2, c_call3, c_call4, c_call5, c_call6, c_call7, q_L0, List.map_cons, List.map_nil, List.replicate, List.cons_append, List.nil_append, List.append_nil, List.length_cons, List.length_nil, List.length_set, Nat.reduceSub, Nat.reduceAdd, Nat.reduceLT, Nat.reduceLeDiff, Nat.zero_add, Nat.add_zero, Nat.sub_zero, Nat.sub_self, List.getElem?_cons_zero, List.getElem?_cons_succ, List.set_cons_zero, List.set_cons_succ, Option.toList_some, Option.toList_none, List.sum_cons, List.sum_nil, true_and, and_true, true_or, or_true, Nat.le_refl, Nat.zero_le, Value.category, Fin.isValue, Fin.val_zero, Fin.val_one, Fin.val_two, Fin.reduceFinMk, q_10, q_01, not_false_eq_true, not_true_eq_false, forall_const, true_implies, false_implies, implies_true, q_ni, q_fi, q_nb0, q_nb1, q_fb0, q_fb1, q_nor, q_nar, q_for, q_far, q_non, q_nan, q_fon, q_fan, imp_false, false_and, and_false, and_self, false_or, or_false, va_rf, refKind, k_X10_license_0, k_X10_license_52, k_X10_license_94, o1, f0, f3, o3, wAt e1 e4 hI.2.2.2.1, pAt e1 e2 hI.2.1, ca, cu, cp, cd, ce, s_X10_isWithin, s_X10_isDay, h2]
          · rw [if_neg (fun h => cd h.2.2.2.1)] at h1
            have h2 := h1 _ hR0
            simp only [c_push, c_null, c_iload, c_aload, c_istore, c_astore, c_iinc, c_iadd, c_isub, c_imul, c_iand, c_ineg, c_dup, c_dup2, c_pop, c_ifnull, c_ifnonnull, c_get, c_put, c_iald, c_zald, c_iast, c_zast, c_aald, c_aast, c_alen, c_new, c_newa, c_newq, c_mna, c_oinit, c_max, c_copy, c_iret, c_zret, c_aret, c_vret, q_do, q_rc, c_ifeq, c_ifne, c_iflt, c_ifge, c_ifgt, c_ifle, c_iceq, c_icne, c_iclt, c_icge, c_icgt, c_icle, c_call0, c_call1, c_call2, c_call3, c_call4, c_call5, c_call6, c_call7, q_L0, List.map_cons, List.map_nil, List.replicate, List.cons_append, List.nil_append, List.append_nil, List.length_cons, List.length_nil, List.length_set, Nat.reduceSub, Nat.reduceAdd, Nat.reduceLT, Nat.reduceLeDiff, Nat.zero_add, Nat.add_zero, Nat.sub_zero, Nat.sub_self, List.getElem?_cons_zero, List.getElem?_cons_succ, List.set_cons_zero, List.set_cons_succ, Option.toList_some, Option.toList_none, List.sum_cons, List.sum_nil, true_and, and_true, true_or, or_true, Nat.le_refl, Nat.zero_le, Value.category, Fin.isValue, Fin.val_zero, Fin.val_one, Fin.val_two, Fin.reduceFinMk, q_10, q_01, not_false_eq_true, not_true_eq_false, forall_const, true_implies, false_implies, implies_true, q_ni, q_fi, q_nb0, q_nb1, q_fb0, q_fb1, q_nor, q_nar, q_for, q_far, q_non, q_nan, q_fon, q_fan, imp_false, false_and, and_false, and_self, false_or, or_false, va_rf, refKind, k_X10_license_0, k_X10_license_52, k_X10_license_94, o1, f0, f3, o3, wAt e1 e4 hI.2.2.2.1, pAt e1 e2 hI.2.1, ca, cu, cp, cd, s_X10_isWithin, s_X10_isDay, h2]
        · rw [if_neg (fun h => cp h.2.2.1)] at h1
          have h2 := h1 _ hR0
          simp only [c_push, c_null, c_iload, c_aload, c_istore, c_astore, c_iinc, c_iadd, c_isub, c_imul, c_iand, c_ineg, c_dup, c_dup2, c_pop, c_ifnull, c_ifnonnull, c_get, c_put, c_iald, c_zald, c_iast, c_zast, c_aald, c_aast, c_alen, c_new, c_newa, c_newq, c_mna, c_oinit, c_max, c_copy, c_iret, c_zret, c_aret, c_vret, q_do, q_rc, c_ifeq, c_ifne, c_iflt, c_ifge, c_ifgt, c_ifle, c_iceq, c_icne, c_iclt, c_icge, c_icgt, c_icle, c_call0, c_call1, c_call2, c_call3, c_call4, c_call5, c_call6, c_call7, q_L0, List.map_cons, List.map_nil, List.replicate, List.cons_append, List.nil_append, List.append_nil, List.length_cons, List.length_nil, List.length_set, Nat.reduceSub, Nat.reduceAdd, Nat.reduceLT, Nat.reduceLeDiff, Nat.zero_add, Nat.add_zero, Nat.sub_zero, Nat.sub_self, List.getElem?_cons_zero, List.getElem?_cons_succ, List.set_cons_zero, List.set_cons_succ, Option.toList_some, Option.toList_none, List.sum_cons, List.sum_nil, true_and, and_true, true_or, or_true, Nat.le_refl, Nat.zero_le, Value.category, Fin.isValue, Fin.val_zero, Fin.val_one, Fin.val_two, Fin.reduceFinMk, q_10, q_01, not_false_eq_true, not_true_eq_false, forall_const, true_implies, false_implies, implies_true, q_ni, q_fi, q_nb0, q_nb1, q_fb0, q_fb1, q_nor, q_nar, q_for, q_far, q_non, q_nan, q_fon, q_fan, imp_false, false_and, and_false, and_self, false_or, or_false, va_rf, refKind, k_X10_license_0, k_X10_license_52, k_X10_license_94, o1, f0, f3, o3, wAt e1 e4 hI.2.2.2.1, pAt e1 e2 hI.2.1, ca, cu, cp, s_X10_isWithin, s_X10_isDay, h2]
      · rw [if_neg (fun h => cu h.2.1)] at h1
        have h2 := h1 _ hR0
        simp only [c_push, c_null, c_iload, c_aload, c_istore, c_astore, c_iinc, c_iadd, c_isub, c_imul, c_iand, c_ineg, c_dup, c_dup2, c_pop, c_ifnull, c_ifnonnull, c_get, c_put, c_iald, c_zald, c_iast, c_zast, c_aald, c_aast, c_alen, c_new, c_newa, c_newq, c_mna, c_oinit, c_max, c_copy, c_iret, c_zret, c_aret, c_vret, q_do, q_rc, c_ifeq, c_ifne, c_iflt, c_ifge, c_ifgt, c_ifle, c_iceq, c_icne, c_iclt, c_icge, c_icgt, c_icle, c_call0, c_call1, c_call2, c_call3, c_call4, c_call5, c_call6, c_call7, q_L0, List.map_cons, List.map_nil, List.replicate, List.cons_append, List.nil_append, List.append_nil, List.length_cons, List.length_nil, List.length_set, Nat.reduceSub, Nat.reduceAdd, Nat.reduceLT, Nat.reduceLeDiff, Nat.zero_add, Nat.add_zero, Nat.sub_zero, Nat.sub_self, List.getElem?_cons_zero, List.getElem?_cons_succ, List.set_cons_zero, List.set_cons_succ, Option.toList_some, Option.toList_none, List.sum_cons, List.sum_nil, true_and, and_true, true_or, or_true, Nat.le_refl, Nat.zero_le, Value.category, Fin.isValue, Fin.val_zero, Fin.val_one, Fin.val_two, Fin.reduceFinMk, q_10, q_01, not_false_eq_true, not_true_eq_false, forall_const, true_implies, false_implies, implies_true, q_ni, q_fi, q_nb0, q_nb1, q_fb0, q_fb1, q_nor, q_nar, q_for, q_far, q_non, q_nan, q_fon, q_fan, imp_false, false_and, and_false, and_self, false_or, or_false, va_rf, refKind, k_X10_license_0, k_X10_license_52, k_X10_license_94, o1, f0, f3, o3, wAt e1 e4 hI.2.2.2.1, pAt e1 e2 hI.2.1, ca, cu, s_X10_isWithin, s_X10_isDay, h2]
    · rw [if_neg (fun h => ca h.1)] at h1
      have h2 := h1 _ hR0
      simp only [c_push, c_null, c_iload, c_aload, c_istore, c_astore, c_iinc, c_iadd, c_isub, c_imul, c_iand, c_ineg, c_dup, c_dup2, c_pop, c_ifnull, c_ifnonnull, c_get, c_put, c_iald, c_zald, c_iast, c_zast, c_aald, c_aast, c_alen, c_new, c_newa, c_newq, c_mna, c_oinit, c_max, c_copy, c_iret, c_zret, c_aret, c_vret, q_do, q_rc, c_ifeq, c_ifne, c_iflt, c_ifge, c_ifgt, c_ifle, c_iceq, c_icne, c_iclt, c_icge, c_icgt, c_icle, c_call0, c_call1, c_call2, c_call3, c_call4, c_call5, c_call6, c_call7, q_L0, List.map_cons, List.map_nil, List.replicate, List.cons_append, List.nil_append, List.append_nil, List.length_cons, List.length_nil, List.length_set, Nat.reduceSub, Nat.reduceAdd, Nat.reduceLT, Nat.reduceLeDiff, Nat.zero_add, Nat.add_zero, Nat.sub_zero, Nat.sub_self, List.getElem?_cons_zero, List.getElem?_cons_succ, List.set_cons_zero, List.set_cons_succ, Option.toList_some, Option.toList_none, List.sum_cons, List.sum_nil, true_and, and_true, true_or, or_true, Nat.le_refl, Nat.zero_le, Value.category, Fin.isValue, Fin.val_zero, Fin.val_one, Fin.val_two, Fin.reduceFinMk, q_10, q_01, not_false_eq_true, not_true_eq_false, forall_const, true_implies, false_implies, implies_true, q_ni, q_fi, q_nb0, q_nb1, q_fb0, q_fb1, q_nor, q_nar, q_for, q_far, q_non, q_nan, q_fon, q_fan, imp_false, false_and, and_false, and_self, false_or, or_false, va_rf, refKind, k_X10_license_0, k_X10_license_52, k_X10_license_94, o1, f3, o3, wAt e1 e4 hI.2.2.2.1, ca, s_X10_isWithin, h2]
  · exact h.elim)
