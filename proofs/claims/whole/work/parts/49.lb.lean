-- blocks of the law
theorem w9_460 : (.code yX10_days cX10_days 2 (some .int) : Cond) ∈ lw_tbl := by decide +kernel
theorem w9_461 : (.methodLink RL 13 yX10_days : Cond) ∈ lw_tbl := by decide +kernel
theorem w9_462 : (.instanceMethod yX10_days : Cond) ∈ lw_tbl := by decide +kernel
theorem w9_463 : (.selects RX10 yX10_days yX10_days : Cond) ∈ lw_tbl := by decide +kernel
theorem w9_464 : (.code yX11_days cX11_days 2 (some .int) : Cond) ∈ lw_tbl := by decide +kernel
theorem w9_465 : (.methodLink RL 17 yX11_days : Cond) ∈ lw_tbl := by decide +kernel
theorem w9_466 : (.instanceMethod yX11_days : Cond) ∈ lw_tbl := by decide +kernel
theorem w9_467 : (.selects RX11 yX11_days yX11_days : Cond) ∈ lw_tbl := by decide +kernel
theorem w9_468 : (.code yX10_person cX10_person 1 (some .int) : Cond) ∈ lw_tbl := by decide +kernel
theorem w9_469 : (.methodLink RL 18 yX10_person : Cond) ∈ lw_tbl := by decide +kernel
theorem w9_470 : (.instanceMethod yX10_person : Cond) ∈ lw_tbl := by decide +kernel
theorem w9_471 : (.selects RX10 yX10_person yX10_person : Cond) ∈ lw_tbl := by decide +kernel
theorem w9_472 : (.code yX11_person cX11_person 1 (some .int) : Cond) ∈ lw_tbl := by decide +kernel
theorem w9_473 : (.methodLink RL 22 yX11_person : Cond) ∈ lw_tbl := by decide +kernel
theorem w9_474 : (.instanceMethod yX11_person : Cond) ∈ lw_tbl := by decide +kernel
theorem w9_475 : (.selects RX11 yX11_person yX11_person : Cond) ∈ lw_tbl := by decide +kernel
theorem w9_476 : (.code yX10_heir cX10_heir 5 (some .int) : Cond) ∈ lw_tbl := by decide +kernel
theorem w9_477 : (.methodLink RL 23 yX10_heir : Cond) ∈ lw_tbl := by decide +kernel
theorem w9_478 : (.instanceMethod yX10_heir : Cond) ∈ lw_tbl := by decide +kernel
theorem w9_479 : (.selects RX10 yX10_heir yX10_heir : Cond) ∈ lw_tbl := by decide +kernel
theorem w9_480 : (.code yX11_heir cX11_heir 4 (some .int) : Cond) ∈ lw_tbl := by decide +kernel
theorem w9_481 : (.methodLink RL 27 yX11_heir : Cond) ∈ lw_tbl := by decide +kernel
theorem w9_482 : (.instanceMethod yX11_heir : Cond) ∈ lw_tbl := by decide +kernel
theorem w9_483 : (.selects RX11 yX11_heir yX11_heir : Cond) ∈ lw_tbl := by decide +kernel
theorem w9_484 : (.code yX10_death cX10_death 7 (some .int) : Cond) ∈ lw_tbl := by decide +kernel
theorem w9_485 : (.methodLink RL 28 yX10_death : Cond) ∈ lw_tbl := by decide +kernel
theorem w9_486 : (.instanceMethod yX10_death : Cond) ∈ lw_tbl := by decide +kernel
theorem w9_487 : (.selects RX10 yX10_death yX10_death : Cond) ∈ lw_tbl := by decide +kernel
theorem w9_488 : (.code yX11_death cX11_death 8 (some .int) : Cond) ∈ lw_tbl := by decide +kernel
theorem w9_489 : (.methodLink RL 31 yX11_death : Cond) ∈ lw_tbl := by decide +kernel
theorem w9_490 : (.instanceMethod yX11_death : Cond) ∈ lw_tbl := by decide +kernel
theorem w9_491 : (.selects RX11 yX11_death yX11_death : Cond) ∈ lw_tbl := by decide +kernel
theorem w9_492 : (.code yX10_died cX10_died 4 (some .int) : Cond) ∈ lw_tbl := by decide +kernel
theorem w9_493 : (.methodLink RL 32 yX10_died : Cond) ∈ lw_tbl := by decide +kernel
theorem w9_494 : (.instanceMethod yX10_died : Cond) ∈ lw_tbl := by decide +kernel
theorem w9_495 : (.selects RX10 yX10_died yX10_died : Cond) ∈ lw_tbl := by decide +kernel
theorem w9_496 : (.code yX11_died cX11_died 3 (some .int) : Cond) ∈ lw_tbl := by decide +kernel
theorem w9_497 : (.methodLink RL 35 yX11_died : Cond) ∈ lw_tbl := by decide +kernel
theorem w9_498 : (.instanceMethod yX11_died : Cond) ∈ lw_tbl := by decide +kernel
theorem w9_499 : (.selects RX11 yX11_died yX11_died : Cond) ∈ lw_tbl := by decide +kernel
theorem w9_500 : (.code yX10_act cX10_act 6 (some .int) : Cond) ∈ lw_tbl := by decide +kernel
theorem w9_501 : (.methodLink RL 36 yX10_act : Cond) ∈ lw_tbl := by decide +kernel
theorem w9_502 : (.instanceMethod yX10_act : Cond) ∈ lw_tbl := by decide +kernel
theorem w9_503 : (.selects RX10 yX10_act yX10_act : Cond) ∈ lw_tbl := by decide +kernel
theorem w9_504 : (.code yX11_act cX11_act 6 (some .int) : Cond) ∈ lw_tbl := by decide +kernel
theorem w9_505 : (.methodLink RL 40 yX11_act : Cond) ∈ lw_tbl := by decide +kernel
theorem w9_506 : (.instanceMethod yX11_act : Cond) ∈ lw_tbl := by decide +kernel
theorem w9_507 : (.selects RX11 yX11_act yX11_act : Cond) ∈ lw_tbl := by decide +kernel
def k_L_law_1044 (b n : Nat) (xs : Nat → Int32) (K : Nat → q_K) : q_K := (c_iinc 3 6 (K 18))
def k_L_law_1050 (b n : Nat) (xs : Nat → Int32) (K : Nat → q_K) : q_K := (c_push 1 c_lret)
def k_L_law_136 (b n : Nat) (xs : Nat → Int32) (K : Nat → q_K) : q_K := (c_aload 1 (c_aload 0 (c_iload 3 (c_push 1 (c_iadd (c_sld b n xs (c_call2 (some 10) (q_fr s_X10_days) 0 0 (c_aload 2 (c_aload 0 (c_iload 3 (c_push 1 (c_iadd (c_sld b n xs (c_call2 (some 11) (q_fr s_X11_days) 0 0 (c_iceq (k_L_law_1044 b n xs K) (c_push 0 c_lret))))))))))))))))
def k_L_law_159 (b n : Nat) (xs : Nat → Int32) (K : Nat → q_K) : q_K := (c_aload 1 (c_call1 (some 10) (q_fr s_X10_person) 1 3 (c_aload 2 (c_call1 (some 11) (q_fr s_X11_person) 0 0 (c_iceq (k_L_law_1044 b n xs K) (c_push 0 c_lret))))))
def k_L_law_172 (b n : Nat) (xs : Nat → Int32) (K : Nat → q_K) : q_K := (c_aload 1 (c_aload 0 (c_iload 3 (c_push 1 (c_iadd (c_sld b n xs (c_aload 0 (c_iload 3 (c_push 2 (c_iadd (c_sld b n xs (c_call3 (some 10) (q_fr s_X10_heir) 0 0 (c_aload 2 (c_aload 0 (c_iload 3 (c_push 1 (c_iadd (c_sld b n xs (c_aload 0 (c_iload 3 (c_push 2 (c_iadd (c_sld b n xs (c_call3 (some 11) (q_fr s_X11_heir) 0 0 (c_iceq (k_L_law_1044 b n xs K) (c_push 0 c_lret))))))))))))))))))))))))))
def k_L_law_205 (b n : Nat) (xs : Nat → Int32) (K : Nat → q_K) : q_K := (c_aload 1 (c_aload 0 (c_iload 3 (c_push 1 (c_iadd (c_sld b n xs (c_aload 0 (c_iload 3 (c_push 2 (c_iadd (c_sld b n xs (c_call3 (some 10) (q_fr s_X10_death) 40 320 (c_aload 2 (c_aload 0 (c_iload 3 (c_push 1 (c_iadd (c_sld b n xs (c_aload 0 (c_iload 3 (c_push 2 (c_iadd (c_sld b n xs (c_call3 (some 11) (q_fr s_X11_death) 0 0 (c_iceq (k_L_law_1044 b n xs K) (c_push 0 c_lret))))))))))))))))))))))))))
def k_L_law_238 (b n : Nat) (xs : Nat → Int32) (K : Nat → q_K) : q_K := (c_aload 1 (c_aload 0 (c_iload 3 (c_push 1 (c_iadd (c_sld b n xs (c_aload 0 (c_iload 3 (c_push 2 (c_iadd (c_sld b n xs (c_call3 (some 10) (q_fr s_X10_died) 0 0 (c_aload 2 (c_aload 0 (c_iload 3 (c_push 1 (c_iadd (c_sld b n xs (c_aload 0 (c_iload 3 (c_push 2 (c_iadd (c_sld b n xs (c_call3 (some 11) (q_fr s_X11_died) 0 0 (c_iceq (k_L_law_1044 b n xs K) (c_push 0 c_lret))))))))))))))))))))))))))
def k_L_law_271 (b n : Nat) (xs : Nat → Int32) (K : Nat → q_K) : q_K := (c_aload 1 (c_aload 0 (c_iload 3 (c_push 1 (c_iadd (c_sld b n xs (c_aload 0 (c_iload 3 (c_push 2 (c_iadd (c_sld b n xs (c_aload 0 (c_iload 3 (c_push 3 (c_iadd (c_sld b n xs (c_aload 0 (c_iload 3 (c_push 4 (c_iadd (c_sld b n xs (c_aload 0 (c_iload 3 (c_push 5 (c_iadd (c_sld b n xs (c_call6 (some 10) (q_fr s_X10_act) 1 5 (c_aload 2 (c_aload 0 (c_iload 3 (c_push 1 (c_iadd (c_sld b n xs (c_aload 0 (c_iload 3 (c_push 2 (c_iadd (c_sld b n xs (c_aload 0 (c_iload 3 (c_push 3 (c_iadd (c_sld b n xs (c_aload 0 (c_iload 3 (c_push 4 (c_iadd (c_sld b n xs (c_aload 0 (c_iload 3 (c_push 5 (c_iadd (c_sld b n xs (c_call6 (some 11) (q_fr s_X11_act) 0 0 (c_iceq (k_L_law_1044 b n xs K) (c_push 0 c_lret))))))))))))))))))))))))))))))))))))))))))))))))))))))))
set_option maxRecDepth 100000 in
theorem v_L_law_1044 {p : Program} {l : Launch} {e : Env} {s : State} {m : MethodId} {below : List Frame} {meth : Method} {c : Code} {D : va_G} {A : Nat → Prop} {mn : String} {b n : Nat} {xs : Nat → Int32} {K : Nat → q_K} (C : q_C p s m #[Value.ref b] meth c cL_law 4 RL mn ret A) (hX : va_X b n xs s s.heap) (hbl : b < s.heap.size) (hbA : ¬ A b) (hAs : ∀ q, A q → s.heap.size ≤ q) (hK : ∀ h ∈ ([18] : List Nat), q_V p l e room_1 s m #[Value.ref b] below meth c D A 4 (lw_Z below #[Value.ref b] s) h (K h)) : q_V p l e room_1 s m #[Value.ref b] below meth c D A 4 (lw_Z below #[Value.ref b] s) 1044 (k_L_law_1044 b n xs K) := by
  unfold k_L_law_1044
  refine q_iinc C (by decide +kernel : decode cL_law 1044 = .ok (.iinc 3 6, 3)) (by decide) ?_
  refine q_goto C (tgt := 18) (by decide +kernel : decode cL_law 1047 = .ok (.goto (-1029), 3)) (by decide) ?_
  exact hK 18 (by decide)
set_option maxRecDepth 100000 in
theorem v_L_law_1050 {p : Program} {l : Launch} {e : Env} {s : State} {m : MethodId} {below : List Frame} {meth : Method} {c : Code} {D : va_G} {A : Nat → Prop} {mn : String} {b n : Nat} {xs : Nat → Int32} {K : Nat → q_K} (C : q_C p s m #[Value.ref b] meth c cL_law 4 RL mn ret A) (hX : va_X b n xs s s.heap) (hbl : b < s.heap.size) (hbA : ¬ A b) (hAs : ∀ q, A q → s.heap.size ≤ q) (hK : ∀ h ∈ ([18] : List Nat), q_V p l e room_1 s m #[Value.ref b] below meth c D A 4 (lw_Z below #[Value.ref b] s) h (K h)) : q_V p l e room_1 s m #[Value.ref b] below meth c D A 4 (lw_Z below #[Value.ref b] s) 1050 (k_L_law_1050 b n xs K) := by
  unfold k_L_law_1050
  refine q_iconst C (by decide +kernel : decode cL_law 1050 = .ok (.iconst 1, 1)) (by decide) ?_
  exact q_lret C hAs (by decide +kernel : decode cL_law 1051 = .ok (.ireturn, 1))
set_option maxRecDepth 100000 in
theorem v_L_law_136 {p : Program} {l : Launch} {e : Env} {s : State} {m : MethodId} {below : List Frame} {meth : Method} {c : Code} {D : va_G} {A : Nat → Prop} {mn : String} {b n : Nat} {xs : Nat → Int32} {K : Nat → q_K} (C : q_C p s m #[Value.ref b] meth c cL_law 4 RL mn ret A) (hX : va_X b n xs s s.heap) (hbl : b < s.heap.size) (hbA : ¬ A b) (hAs : ∀ q, A q → s.heap.size ≤ q) (hK : ∀ h ∈ ([18] : List Nat), q_V p l e room_1 s m #[Value.ref b] below meth c D A 4 (lw_Z below #[Value.ref b] s) h (K h)) : q_V p l e room_1 s m #[Value.ref b] below meth c D A 4 (lw_Z below #[Value.ref b] s) 136 (k_L_law_136 b n xs K) := by
  unfold k_L_law_136
  refine q_aload_n C (by decide +kernel : decode cL_law 136 = .ok (.aload_n 1, 1)) ?_
  refine q_aload_n C (by decide +kernel : decode cL_law 137 = .ok (.aload_n 0, 1)) ?_
  refine q_iload_n C (by decide +kernel : decode cL_law 138 = .ok (.iload_n 3, 1)) ?_
  refine q_iconst C (by decide +kernel : decode cL_law 139 = .ok (.iconst 1, 1)) (by decide) ?_
  refine q_iadd C (by decide +kernel : decode cL_law 140 = .ok (.iadd, 1)) ?_
  refine q_sld C hX hbl hbA (by decide +kernel : decode cL_law 141 = .ok (.iaload, 1)) ?_
  refine q_call2 C (q_coV C (np := 1) (ci := 10) (rc := (RX10, TX10, 10)) (q_frame (t_X10_days l)) w9_460 rfl rfl w9_461 w9_462 w9_463 w9_1 (by decide +kernel) (by decide +kernel : decode cL_law 142 = .ok (.invokevirtual 13, 3)) (by decide)) ?_
  refine q_aload_n C (by decide +kernel : decode cL_law 145 = .ok (.aload_n 2, 1)) ?_
  refine q_aload_n C (by decide +kernel : decode cL_law 146 = .ok (.aload_n 0, 1)) ?_
  refine q_iload_n C (by decide +kernel : decode cL_law 147 = .ok (.iload_n 3, 1)) ?_
  refine q_iconst C (by decide +kernel : decode cL_law 148 = .ok (.iconst 1, 1)) (by decide) ?_
  refine q_iadd C (by decide +kernel : decode cL_law 149 = .ok (.iadd, 1)) ?_
  refine q_sld C hX hbl hbA (by decide +kernel : decode cL_law 150 = .ok (.iaload, 1)) ?_
  refine q_call2 C (q_coV C (np := 1) (ci := 11) (rc := (RX11, TX11, 35)) (q_frame (t_X11_days l)) w9_464 rfl rfl w9_465 w9_466 w9_467 w9_6 (by decide +kernel) (by decide +kernel : decode cL_law 151 = .ok (.invokevirtual 17, 3)) (by decide)) ?_
  refine q_iceq C (tgt := 1044) (by decide +kernel : decode cL_law 154 = .ok (.if_icmp .eq 890, 3)) (by decide) ?_ ?_
  · exact v_L_law_1044 C hX hbl hbA hAs hK
  · refine q_iconst C (by decide +kernel : decode cL_law 157 = .ok (.iconst 0, 1)) (by decide) ?_
    exact q_lret C hAs (by decide +kernel : decode cL_law 158 = .ok (.ireturn, 1))
set_option maxRecDepth 100000 in
theorem v_L_law_159 {p : Program} {l : Launch} {e : Env} {s : State} {m : MethodId} {below : List Frame} {meth : Method} {c : Code} {D : va_G} {A : Nat → Prop} {mn : String} {b n : Nat} {xs : Nat → Int32} {K : Nat → q_K} (C : q_C p s m #[Value.ref b] meth c cL_law 4 RL mn ret A) (hX : va_X b n xs s s.heap) (hbl : b < s.heap.size) (hbA : ¬ A b) (hAs : ∀ q, A q → s.heap.size ≤ q) (hK : ∀ h ∈ ([18] : List Nat), q_V p l e room_1 s m #[Value.ref b] below meth c D A 4 (lw_Z below #[Value.ref b] s) h (K h)) : q_V p l e room_1 s m #[Value.ref b] below meth c D A 4 (lw_Z below #[Value.ref b] s) 159 (k_L_law_159 b n xs K) := by
  unfold k_L_law_159
  refine q_aload_n C (by decide +kernel : decode cL_law 159 = .ok (.aload_n 1, 1)) ?_
  refine q_call1 C (q_coV C (np := 0) (ci := 10) (rc := (RX10, TX10, 10)) (q_frame (t_X10_person l)) w9_468 rfl rfl w9_469 w9_470 w9_471 w9_1 (by decide +kernel) (by decide +kernel : decode cL_law 160 = .ok (.invokevirtual 18, 3)) (by decide)) ?_
  refine q_aload_n C (by decide +kernel : decode cL_law 163 = .ok (.aload_n 2, 1)) ?_
  refine q_call1 C (q_coV C (np := 0) (ci := 11) (rc := (RX11, TX11, 35)) (q_frame (t_X11_person l)) w9_472 rfl rfl w9_473 w9_474 w9_475 w9_6 (by decide +kernel) (by decide +kernel : decode cL_law 164 = .ok (.invokevirtual 22, 3)) (by decide)) ?_
  refine q_iceq C (tgt := 1044) (by decide +kernel : decode cL_law 167 = .ok (.if_icmp .eq 877, 3)) (by decide) ?_ ?_
  · exact v_L_law_1044 C hX hbl hbA hAs hK
  · refine q_iconst C (by decide +kernel : decode cL_law 170 = .ok (.iconst 0, 1)) (by decide) ?_
    exact q_lret C hAs (by decide +kernel : decode cL_law 171 = .ok (.ireturn, 1))
set_option maxRecDepth 100000 in
theorem v_L_law_172 {p : Program} {l : Launch} {e : Env} {s : State} {m : MethodId} {below : List Frame} {meth : Method} {c : Code} {D : va_G} {A : Nat → Prop} {mn : String} {b n : Nat} {xs : Nat → Int32} {K : Nat → q_K} (C : q_C p s m #[Value.ref b] meth c cL_law 4 RL mn ret A) (hX : va_X b n xs s s.heap) (hbl : b < s.heap.size) (hbA : ¬ A b) (hAs : ∀ q, A q → s.heap.size ≤ q) (hK : ∀ h ∈ ([18] : List Nat), q_V p l e room_1 s m #[Value.ref b] below meth c D A 4 (lw_Z below #[Value.ref b] s) h (K h)) : q_V p l e room_1 s m #[Value.ref b] below meth c D A 4 (lw_Z below #[Value.ref b] s) 172 (k_L_law_172 b n xs K) := by
  unfold k_L_law_172
  refine q_aload_n C (by decide +kernel : decode cL_law 172 = .ok (.aload_n 1, 1)) ?_
  refine q_aload_n C (by decide +kernel : decode cL_law 173 = .ok (.aload_n 0, 1)) ?_
  refine q_iload_n C (by decide +kernel : decode cL_law 174 = .ok (.iload_n 3, 1)) ?_
  refine q_iconst C (by decide +kernel : decode cL_law 175 = .ok (.iconst 1, 1)) (by decide) ?_
  refine q_iadd C (by decide +kernel : decode cL_law 176 = .ok (.iadd, 1)) ?_
  refine q_sld C hX hbl hbA (by decide +kernel : decode cL_law 177 = .ok (.iaload, 1)) ?_
  refine q_aload_n C (by decide +kernel : decode cL_law 178 = .ok (.aload_n 0, 1)) ?_
  refine q_iload_n C (by decide +kernel : decode cL_law 179 = .ok (.iload_n 3, 1)) ?_
  refine q_iconst C (by decide +kernel : decode cL_law 180 = .ok (.iconst 2, 1)) (by decide) ?_
  refine q_iadd C (by decide +kernel : decode cL_law 181 = .ok (.iadd, 1)) ?_
  refine q_sld C hX hbl hbA (by decide +kernel : decode cL_law 182 = .ok (.iaload, 1)) ?_
  refine q_call3 C (q_coV C (np := 2) (ci := 10) (rc := (RX10, TX10, 10)) (q_frame (t_X10_heir l)) w9_476 rfl rfl w9_477 w9_478 w9_479 w9_1 (by decide +kernel) (by decide +kernel : decode cL_law 183 = .ok (.invokevirtual 23, 3)) (by decide)) ?_
  refine q_aload_n C (by decide +kernel : decode cL_law 186 = .ok (.aload_n 2, 1)) ?_
  refine q_aload_n C (by decide +kernel : decode cL_law 187 = .ok (.aload_n 0, 1)) ?_
  refine q_iload_n C (by decide +kernel : decode cL_law 188 = .ok (.iload_n 3, 1)) ?_
  refine q_iconst C (by decide +kernel : decode cL_law 189 = .ok (.iconst 1, 1)) (by decide) ?_
  refine q_iadd C (by decide +kernel : decode cL_law 190 = .ok (.iadd, 1)) ?_
  refine q_sld C hX hbl hbA (by decide +kernel : decode cL_law 191 = .ok (.iaload, 1)) ?_
  refine q_aload_n C (by decide +kernel : decode cL_law 192 = .ok (.aload_n 0, 1)) ?_
  refine q_iload_n C (by decide +kernel : decode cL_law 193 = .ok (.iload_n 3, 1)) ?_
  refine q_iconst C (by decide +kernel : decode cL_law 194 = .ok (.iconst 2, 1)) (by decide) ?_
  refine q_iadd C (by decide +kernel : decode cL_law 195 = .ok (.iadd, 1)) ?_
  refine q_sld C hX hbl hbA (by decide +kernel : decode cL_law 196 = .ok (.iaload, 1)) ?_
  refine q_call3 C (q_coV C (np := 2) (ci := 11) (rc := (RX11, TX11, 35)) (q_frame (t_X11_heir l)) w9_480 rfl rfl w9_481 w9_482 w9_483 w9_6 (by decide +kernel) (by decide +kernel : decode cL_law 197 = .ok (.invokevirtual 27, 3)) (by decide)) ?_
  refine q_iceq C (tgt := 1044) (by decide +kernel : decode cL_law 200 = .ok (.if_icmp .eq 844, 3)) (by decide) ?_ ?_
  · exact v_L_law_1044 C hX hbl hbA hAs hK
  · refine q_iconst C (by decide +kernel : decode cL_law 203 = .ok (.iconst 0, 1)) (by decide) ?_
    exact q_lret C hAs (by decide +kernel : decode cL_law 204 = .ok (.ireturn, 1))
set_option maxRecDepth 100000 in
theorem v_L_law_205 {p : Program} {l : Launch} {e : Env} {s : State} {m : MethodId} {below : List Frame} {meth : Method} {c : Code} {D : va_G} {A : Nat → Prop} {mn : String} {b n : Nat} {xs : Nat → Int32} {K : Nat → q_K} (C : q_C p s m #[Value.ref b] meth c cL_law 4 RL mn ret A) (hX : va_X b n xs s s.heap) (hbl : b < s.heap.size) (hbA : ¬ A b) (hAs : ∀ q, A q → s.heap.size ≤ q) (hK : ∀ h ∈ ([18] : List Nat), q_V p l e room_1 s m #[Value.ref b] below meth c D A 4 (lw_Z below #[Value.ref b] s) h (K h)) : q_V p l e room_1 s m #[Value.ref b] below meth c D A 4 (lw_Z below #[Value.ref b] s) 205 (k_L_law_205 b n xs K) := by
  unfold k_L_law_205
  refine q_aload_n C (by decide +kernel : decode cL_law 205 = .ok (.aload_n 1, 1)) ?_
  refine q_aload_n C (by decide +kernel : decode cL_law 206 = .ok (.aload_n 0, 1)) ?_
  refine q_iload_n C (by decide +kernel : decode cL_law 207 = .ok (.iload_n 3, 1)) ?_
  refine q_iconst C (by decide +kernel : decode cL_law 208 = .ok (.iconst 1, 1)) (by decide) ?_
  refine q_iadd C (by decide +kernel : decode cL_law 209 = .ok (.iadd, 1)) ?_
  refine q_sld C hX hbl hbA (by decide +kernel : decode cL_law 210 = .ok (.iaload, 1)) ?_
  refine q_aload_n C (by decide +kernel : decode cL_law 211 = .ok (.aload_n 0, 1)) ?_
  refine q_iload_n C (by decide +kernel : decode cL_law 212 = .ok (.iload_n 3, 1)) ?_
  refine q_iconst C (by decide +kernel : decode cL_law 213 = .ok (.iconst 2, 1)) (by decide) ?_
  refine q_iadd C (by decide +kernel : decode cL_law 214 = .ok (.iadd, 1)) ?_
  refine q_sld C hX hbl hbA (by decide +kernel : decode cL_law 215 = .ok (.iaload, 1)) ?_
  refine q_call3 C (q_coV C (np := 2) (ci := 10) (rc := (RX10, TX10, 10)) (q_frame (t_X10_death l)) w9_484 rfl rfl w9_485 w9_486 w9_487 w9_1 (by decide +kernel) (by decide +kernel : decode cL_law 216 = .ok (.invokevirtual 28, 3)) (by decide)) ?_
  refine q_aload_n C (by decide +kernel : decode cL_law 219 = .ok (.aload_n 2, 1)) ?_
  refine q_aload_n C (by decide +kernel : decode cL_law 220 = .ok (.aload_n 0, 1)) ?_
  refine q_iload_n C (by decide +kernel : decode cL_law 221 = .ok (.iload_n 3, 1)) ?_
  refine q_iconst C (by decide +kernel : decode cL_law 222 = .ok (.iconst 1, 1)) (by decide) ?_
  refine q_iadd C (by decide +kernel : decode cL_law 223 = .ok (.iadd, 1)) ?_
  refine q_sld C hX hbl hbA (by decide +kernel : decode cL_law 224 = .ok (.iaload, 1)) ?_
  refine q_aload_n C (by decide +kernel : decode cL_law 225 = .ok (.aload_n 0, 1)) ?_
  refine q_iload_n C (by decide +kernel : decode cL_law 226 = .ok (.iload_n 3, 1)) ?_
  refine q_iconst C (by decide +kernel : decode cL_law 227 = .ok (.iconst 2, 1)) (by decide) ?_
  refine q_iadd C (by decide +kernel : decode cL_law 228 = .ok (.iadd, 1)) ?_
  refine q_sld C hX hbl hbA (by decide +kernel : decode cL_law 229 = .ok (.iaload, 1)) ?_
  refine q_call3 C (q_coV C (np := 2) (ci := 11) (rc := (RX11, TX11, 35)) (q_frame (t_X11_death l)) w9_488 rfl rfl w9_489 w9_490 w9_491 w9_6 (by decide +kernel) (by decide +kernel : decode cL_law 230 = .ok (.invokevirtual 31, 3)) (by decide)) ?_
  refine q_iceq C (tgt := 1044) (by decide +kernel : decode cL_law 233 = .ok (.if_icmp .eq 811, 3)) (by decide) ?_ ?_
  · exact v_L_law_1044 C hX hbl hbA hAs hK
  · refine q_iconst C (by decide +kernel : decode cL_law 236 = .ok (.iconst 0, 1)) (by decide) ?_
    exact q_lret C hAs (by decide +kernel : decode cL_law 237 = .ok (.ireturn, 1))
set_option maxRecDepth 100000 in
theorem v_L_law_238 {p : Program} {l : Launch} {e : Env} {s : State} {m : MethodId} {below : List Frame} {meth : Method} {c : Code} {D : va_G} {A : Nat → Prop} {mn : String} {b n : Nat} {xs : Nat → Int32} {K : Nat → q_K} (C : q_C p s m #[Value.ref b] meth c cL_law 4 RL mn ret A) (hX : va_X b n xs s s.heap) (hbl : b < s.heap.size) (hbA : ¬ A b) (hAs : ∀ q, A q → s.heap.size ≤ q) (hK : ∀ h ∈ ([18] : List Nat), q_V p l e room_1 s m #[Value.ref b] below meth c D A 4 (lw_Z below #[Value.ref b] s) h (K h)) : q_V p l e room_1 s m #[Value.ref b] below meth c D A 4 (lw_Z below #[Value.ref b] s) 238 (k_L_law_238 b n xs K) := by
  unfold k_L_law_238
  refine q_aload_n C (by decide +kernel : decode cL_law 238 = .ok (.aload_n 1, 1)) ?_
  refine q_aload_n C (by decide +kernel : decode cL_law 239 = .ok (.aload_n 0, 1)) ?_
  refine q_iload_n C (by decide +kernel : decode cL_law 240 = .ok (.iload_n 3, 1)) ?_
  refine q_iconst C (by decide +kernel : decode cL_law 241 = .ok (.iconst 1, 1)) (by decide) ?_
  refine q_iadd C (by decide +kernel : decode cL_law 242 = .ok (.iadd, 1)) ?_
  refine q_sld C hX hbl hbA (by decide +kernel : decode cL_law 243 = .ok (.iaload, 1)) ?_
  refine q_aload_n C (by decide +kernel : decode cL_law 244 = .ok (.aload_n 0, 1)) ?_
  refine q_iload_n C (by decide +kernel : decode cL_law 245 = .ok (.iload_n 3, 1)) ?_
  refine q_iconst C (by decide +kernel : decode cL_law 246 = .ok (.iconst 2, 1)) (by decide) ?_
  refine q_iadd C (by decide +kernel : decode cL_law 247 = .ok (.iadd, 1)) ?_
  refine q_sld C hX hbl hbA (by decide +kernel : decode cL_law 248 = .ok (.iaload, 1)) ?_
  refine q_call3 C (q_coV C (np := 2) (ci := 10) (rc := (RX10, TX10, 10)) (q_frame (t_X10_died l)) w9_492 rfl rfl w9_493 w9_494 w9_495 w9_1 (by decide +kernel) (by decide +kernel : decode cL_law 249 = .ok (.invokevirtual 32, 3)) (by decide)) ?_
  refine q_aload_n C (by decide +kernel : decode cL_law 252 = .ok (.aload_n 2, 1)) ?_
  refine q_aload_n C (by decide +kernel : decode cL_law 253 = .ok (.aload_n 0, 1)) ?_
  refine q_iload_n C (by decide +kernel : decode cL_law 254 = .ok (.iload_n 3, 1)) ?_
  refine q_iconst C (by decide +kernel : decode cL_law 255 = .ok (.iconst 1, 1)) (by decide) ?_
  refine q_iadd C (by decide +kernel : decode cL_law 256 = .ok (.iadd, 1)) ?_
  refine q_sld C hX hbl hbA (by decide +kernel : decode cL_law 257 = .ok (.iaload, 1)) ?_
  refine q_aload_n C (by decide +kernel : decode cL_law 258 = .ok (.aload_n 0, 1)) ?_
  refine q_iload_n C (by decide +kernel : decode cL_law 259 = .ok (.iload_n 3, 1)) ?_
  refine q_iconst C (by decide +kernel : decode cL_law 260 = .ok (.iconst 2, 1)) (by decide) ?_
  refine q_iadd C (by decide +kernel : decode cL_law 261 = .ok (.iadd, 1)) ?_
  refine q_sld C hX hbl hbA (by decide +kernel : decode cL_law 262 = .ok (.iaload, 1)) ?_
  refine q_call3 C (q_coV C (np := 2) (ci := 11) (rc := (RX11, TX11, 35)) (q_frame (t_X11_died l)) w9_496 rfl rfl w9_497 w9_498 w9_499 w9_6 (by decide +kernel) (by decide +kernel : decode cL_law 263 = .ok (.invokevirtual 35, 3)) (by decide)) ?_
  refine q_iceq C (tgt := 1044) (by decide +kernel : decode cL_law 266 = .ok (.if_icmp .eq 778, 3)) (by decide) ?_ ?_
  · exact v_L_law_1044 C hX hbl hbA hAs hK
  · refine q_iconst C (by decide +kernel : decode cL_law 269 = .ok (.iconst 0, 1)) (by decide) ?_
    exact q_lret C hAs (by decide +kernel : decode cL_law 270 = .ok (.ireturn, 1))
set_option maxRecDepth 100000 in
theorem v_L_law_271 {p : Program} {l : Launch} {e : Env} {s : State} {m : MethodId} {below : List Frame} {meth : Method} {c : Code} {D : va_G} {A : Nat → Prop} {mn : String} {b n : Nat} {xs : Nat → Int32} {K : Nat → q_K} (C : q_C p s m #[Value.ref b] meth c cL_law 4 RL mn ret A) (hX : va_X b n xs s s.heap) (hbl : b < s.heap.size) (hbA : ¬ A b) (hAs : ∀ q, A q → s.heap.size ≤ q) (hK : ∀ h ∈ ([18] : List Nat), q_V p l e room_1 s m #[Value.ref b] below meth c D A 4 (lw_Z below #[Value.ref b] s) h (K h)) : q_V p l e room_1 s m #[Value.ref b] below meth c D A 4 (lw_Z below #[Value.ref b] s) 271 (k_L_law_271 b n xs K) := by
  unfold k_L_law_271
  refine q_aload_n C (by decide +kernel : decode cL_law 271 = .ok (.aload_n 1, 1)) ?_
  refine q_aload_n C (by decide +kernel : decode cL_law 272 = .ok (.aload_n 0, 1)) ?_
  refine q_iload_n C (by decide +kernel : decode cL_law 273 = .ok (.iload_n 3, 1)) ?_
  refine q_iconst C (by decide +kernel : decode cL_law 274 = .ok (.iconst 1, 1)) (by decide) ?_
  refine q_iadd C (by decide +kernel : decode cL_law 275 = .ok (.iadd, 1)) ?_
  refine q_sld C hX hbl hbA (by decide +kernel : decode cL_law 276 = .ok (.iaload, 1)) ?_
  refine q_aload_n C (by decide +kernel : decode cL_law 277 = .ok (.aload_n 0, 1)) ?_
  refine q_iload_n C (by decide +kernel : decode cL_law 278 = .ok (.iload_n 3, 1)) ?_
  refine q_iconst C (by decide +kernel : decode cL_law 279 = .ok (.iconst 2, 1)) (by decide) ?_
  refine q_iadd C (by decide +kernel : decode cL_law 280 = .ok (.iadd, 1)) ?_
  refine q_sld C hX hbl hbA (by decide +kernel : decode cL_law 281 = .ok (.iaload, 1)) ?_
  refine q_aload_n C (by decide +kernel : decode cL_law 282 = .ok (.aload_n 0, 1)) ?_
  refine q_iload_n C (by decide +kernel : decode cL_law 283 = .ok (.iload_n 3, 1)) ?_
  refine q_iconst C (by decide +kernel : decode cL_law 284 = .ok (.iconst 3, 1)) (by decide) ?_
  refine q_iadd C (by decide +kernel : decode cL_law 285 = .ok (.iadd, 1)) ?_
  refine q_sld C hX hbl hbA (by decide +kernel : decode cL_law 286 = .ok (.iaload, 1)) ?_
  refine q_aload_n C (by decide +kernel : decode cL_law 287 = .ok (.aload_n 0, 1)) ?_
  refine q_iload_n C (by decide +kernel : decode cL_law 288 = .ok (.iload_n 3, 1)) ?_
  refine q_iconst C (by decide +kernel : decode cL_law 289 = .ok (.iconst 4, 1)) (by decide) ?_
  refine q_iadd C (by decide +kernel : decode cL_law 290 = .ok (.iadd, 1)) ?_
  refine q_sld C hX hbl hbA (by decide +kernel : decode cL_law 291 = .ok (.iaload, 1)) ?_
  refine q_aload_n C (by decide +kernel : decode cL_law 292 = .ok (.aload_n 0, 1)) ?_
  refine q_iload_n C (by decide +kernel : decode cL_law 293 = .ok (.iload_n 3, 1)) ?_
  refine q_iconst C (by decide +kernel : decode cL_law 294 = .ok (.iconst 5, 1)) (by decide) ?_
  refine q_iadd C (by decide +kernel : decode cL_law 295 = .ok (.iadd, 1)) ?_
  refine q_sld C hX hbl hbA (by decide +kernel : decode cL_law 296 = .ok (.iaload, 1)) ?_
  refine q_call6 C (q_coV C (np := 5) (ci := 10) (rc := (RX10, TX10, 10)) (q_frame (t_X10_act l)) w9_500 rfl rfl w9_501 w9_502 w9_503 w9_1 (by decide +kernel) (by decide +kernel : decode cL_law 297 = .ok (.invokevirtual 36, 3)) (by decide)) ?_
  refine q_aload_n C (by decide +kernel : decode cL_law 300 = .ok (.aload_n 2, 1)) ?_
  refine q_aload_n C (by decide +kernel : decode cL_law 301 = .ok (.aload_n 0, 1)) ?_
  refine q_iload_n C (by decide +kernel : decode cL_law 302 = .ok (.iload_n 3, 1)) ?_
  refine q_iconst C (by decide +kernel : decode cL_law 303 = .ok (.iconst 1, 1)) (by decide) ?_
  refine q_iadd C (by decide +kernel : decode cL_law 304 = .ok (.iadd, 1)) ?_
  refine q_sld C hX hbl hbA (by decide +kernel : decode cL_law 305 = .ok (.iaload, 1)) ?_
  refine q_aload_n C (by decide +kernel : decode cL_law 306 = .ok (.aload_n 0, 1)) ?_
  refine q_iload_n C (by decide +kernel : decode cL_law 307 = .ok (.iload_n 3, 1)) ?_
  refine q_iconst C (by decide +kernel : decode cL_law 308 = .ok (.iconst 2, 1)) (by decide) ?_
  refine q_iadd C (by decide +kernel : decode cL_law 309 = .ok (.iadd, 1)) ?_
  refine q_sld C hX hbl hbA (by decide +kernel : decode cL_law 310 = .ok (.iaload, 1)) ?_
  refine q_aload_n C (by decide +kernel : decode cL_law 311 = .ok (.aload_n 0, 1)) ?_
  refine q_iload_n C (by decide +kernel : decode cL_law 312 = .ok (.iload_n 3, 1)) ?_
  refine q_iconst C (by decide +kernel : decode cL_law 313 = .ok (.iconst 3, 1)) (by decide) ?_
  refine q_iadd C (by decide +kernel : decode cL_law 314 = .ok (.iadd, 1)) ?_
  refine q_sld C hX hbl hbA (by decide +kernel : decode cL_law 315 = .ok (.iaload, 1)) ?_
  refine q_aload_n C (by decide +kernel : decode cL_law 316 = .ok (.aload_n 0, 1)) ?_
  refine q_iload_n C (by decide +kernel : decode cL_law 317 = .ok (.iload_n 3, 1)) ?_
  refine q_iconst C (by decide +kernel : decode cL_law 318 = .ok (.iconst 4, 1)) (by decide) ?_
  refine q_iadd C (by decide +kernel : decode cL_law 319 = .ok (.iadd, 1)) ?_
  refine q_sld C hX hbl hbA (by decide +kernel : decode cL_law 320 = .ok (.iaload, 1)) ?_
  refine q_aload_n C (by decide +kernel : decode cL_law 321 = .ok (.aload_n 0, 1)) ?_
  refine q_iload_n C (by decide +kernel : decode cL_law 322 = .ok (.iload_n 3, 1)) ?_
  refine q_iconst C (by decide +kernel : decode cL_law 323 = .ok (.iconst 5, 1)) (by decide) ?_
  refine q_iadd C (by decide +kernel : decode cL_law 324 = .ok (.iadd, 1)) ?_
  refine q_sld C hX hbl hbA (by decide +kernel : decode cL_law 325 = .ok (.iaload, 1)) ?_
  refine q_call6 C (q_coV C (np := 5) (ci := 11) (rc := (RX11, TX11, 35)) (q_frame (t_X11_act l)) w9_504 rfl rfl w9_505 w9_506 w9_507 w9_6 (by decide +kernel) (by decide +kernel : decode cL_law 326 = .ok (.invokevirtual 40, 3)) (by decide)) ?_
  refine q_iceq C (tgt := 1044) (by decide +kernel : decode cL_law 329 = .ok (.if_icmp .eq 715, 3)) (by decide) ?_ ?_
  · exact v_L_law_1044 C hX hbl hbA hAs hK
  · refine q_iconst C (by decide +kernel : decode cL_law 332 = .ok (.iconst 0, 1)) (by decide) ?_
    exact q_lret C hAs (by decide +kernel : decode cL_law 333 = .ok (.ireturn, 1))
