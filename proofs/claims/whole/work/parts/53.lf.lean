-- blocks of the law
theorem w9_636 : (.classLink RL 7 RX10 : Cond) ∈ lw_tbl := by decide +kernel
theorem w9_637 : (.instantiable RX10 10 : Cond) ∈ lw_tbl := by decide +kernel
theorem w9_638 : (.code yX10_init cX10_init 1 none : Cond) ∈ lw_tbl := by decide +kernel
theorem w9_639 : (.methodLink RL 9 yX10_init : Cond) ∈ lw_tbl := by decide +kernel
theorem w9_640 : (.instanceMethod yX10_init : Cond) ∈ lw_tbl := by decide +kernel
theorem w9_641 : (.classLink RL 10 RX11 : Cond) ∈ lw_tbl := by decide +kernel
theorem w9_642 : (.instantiable RX11 35 : Cond) ∈ lw_tbl := by decide +kernel
theorem w9_643 : (.code yX11_init cX11_init 1 none : Cond) ∈ lw_tbl := by decide +kernel
theorem w9_644 : (.methodLink RL 12 yX11_init : Cond) ∈ lw_tbl := by decide +kernel
theorem w9_645 : (.instanceMethod yX11_init : Cond) ∈ lw_tbl := by decide +kernel
def k_L_law_0 (b n : Nat) (xs : Nat → Int32) (K : Nat → q_K) : q_K := (c_new 10 10 [.int 0, .null, .int 0, .null, .null, .int 0, .null, .int 0, .null, .null] (c_dup (c_call1 (some 10) (q_fr s_X10_init) 30 1545 (c_astore 1 (c_new 11 35 [.int 0, .int 0, .null, .null, .null, .int 0, .null, .null, .null, .null, .null, .int 0, .null, .null, .int 0, .null, .null, .null, .null, .null, .null, .null, .int 0, .null, .null, .null, .null, .null, .null, .null, .null, .int 0, .null, .int 0, .null] (c_dup (c_call1 (some 11) (q_fr s_X11_init) 27 10327 (c_astore 2 (c_push 0 (c_istore 3 (K 18)))))))))))
def k_L_law_18 (b n : Nat) (xs : Nat → Int32) (K : Nat → q_K) : q_K := (c_iload 3 (c_aload 0 (c_slen b n (c_push 6 (c_isub (c_icgt (k_L_law_1050 b n xs K) (c_aload 0 (c_iload 3 (c_sld b n xs (c_push 31 (c_iand (c_tsw 0 [(k_L_law_136 b n xs K), (k_L_law_159 b n xs K), (k_L_law_172 b n xs K), (k_L_law_205 b n xs K), (k_L_law_238 b n xs K), (k_L_law_271 b n xs K), (k_L_law_334 b n xs K), (k_L_law_357 b n xs K), (k_L_law_390 b n xs K), (k_L_law_433 b n xs K), (k_L_law_486 b n xs K), (k_L_law_539 b n xs K), (k_L_law_582 b n xs K), (k_L_law_625 b n xs K), (k_L_law_684 b n xs K), (k_L_law_747 b n xs K), (k_L_law_810 b n xs K), (k_L_law_843 b n xs K), (k_L_law_892 b n xs K), (k_L_law_925 b n xs K), (k_L_law_978 b n xs K), (k_L_law_1021 b n xs K)] (k_L_law_1044 b n xs K)))))))))))))
set_option maxRecDepth 100000 in
theorem v_L_law_0 {p : Program} {l : Launch} {e : Env} {s : State} {m : MethodId} {below : List Frame} {meth : Method} {c : Code} {D : va_G} {A : Nat → Prop} {mn : String} {b n : Nat} {xs : Nat → Int32} {K : Nat → q_K} (C : q_C p s m #[Value.ref b] meth c cL_law 4 RL mn ret A) (hX : va_X b n xs s s.heap) (hbl : b < s.heap.size) (hbA : ¬ A b) (hAs : ∀ q, A q → s.heap.size ≤ q) (hK : ∀ h ∈ ([18] : List Nat), q_V p l e room_1 s m #[Value.ref b] below meth c D A 4 (lw_Z below #[Value.ref b] s) h (K h)) : q_V p l e room_1 s m #[Value.ref b] below meth c D A 4 (lw_Z below #[Value.ref b] s) 0 (k_L_law_0 b n xs K) := by
  unfold k_L_law_0
  refine q_new C (ci := 10) (C0 := RX10) (T := TX10) (N := 10) (fs := [.int 0, .null, .int 0, .null, .null, .int 0, .null, .int 0, .null, .null]) rfl iX10 giX10 tyX10 tyX10_ok w9_636 w9_637 w9_1 dvX10 (by decide +kernel : decode cL_law 0 = .ok (.new 7, 3)) ?_
  refine q_dup C (by decide +kernel : decode cL_law 3 = .ok (.dup, 1)) ?_
  refine q_call1 C (q_coI C (np := 0) (ci := 10) (q_frame (t_X10_init l)) w9_638 rfl w9_639 w9_640 w9_1 (by decide +kernel) (by decide +kernel : decode cL_law 4 = .ok (.invokespecial 9, 3)) (by decide)) ?_
  refine q_astore_n C (by decide +kernel : decode cL_law 7 = .ok (.astore_n 1, 1)) ?_
  refine q_new C (ci := 11) (C0 := RX11) (T := TX11) (N := 35) (fs := [.int 0, .int 0, .null, .null, .null, .int 0, .null, .null, .null, .null, .null, .int 0, .null, .null, .int 0, .null, .null, .null, .null, .null, .null, .null, .int 0, .null, .null, .null, .null, .null, .null, .null, .null, .int 0, .null, .int 0, .null]) rfl iX11 giX11 tyX11 tyX11_ok w9_641 w9_642 w9_6 dvX11 (by decide +kernel : decode cL_law 8 = .ok (.new 10, 3)) ?_
  refine q_dup C (by decide +kernel : decode cL_law 11 = .ok (.dup, 1)) ?_
  refine q_call1 C (q_coI C (np := 0) (ci := 11) (q_frame (t_X11_init l)) w9_643 rfl w9_644 w9_645 w9_6 (by decide +kernel) (by decide +kernel : decode cL_law 12 = .ok (.invokespecial 12, 3)) (by decide)) ?_
  refine q_astore_n C (by decide +kernel : decode cL_law 15 = .ok (.astore_n 2, 1)) ?_
  refine q_iconst C (by decide +kernel : decode cL_law 16 = .ok (.iconst 0, 1)) (by decide) ?_
  refine q_istore_n C (by decide +kernel : decode cL_law 17 = .ok (.istore_n 3, 1)) ?_
  exact hK 18 (by decide)
set_option maxRecDepth 100000 in
theorem v_L_law_18 {p : Program} {l : Launch} {e : Env} {s : State} {m : MethodId} {below : List Frame} {meth : Method} {c : Code} {D : va_G} {A : Nat → Prop} {mn : String} {b n : Nat} {xs : Nat → Int32} {K : Nat → q_K} (C : q_C p s m #[Value.ref b] meth c cL_law 4 RL mn ret A) (hX : va_X b n xs s s.heap) (hbl : b < s.heap.size) (hbA : ¬ A b) (hAs : ∀ q, A q → s.heap.size ≤ q) (hK : ∀ h ∈ ([18] : List Nat), q_V p l e room_1 s m #[Value.ref b] below meth c D A 4 (lw_Z below #[Value.ref b] s) h (K h)) : q_V p l e room_1 s m #[Value.ref b] below meth c D A 4 (lw_Z below #[Value.ref b] s) 18 (k_L_law_18 b n xs K) := by
  unfold k_L_law_18
  refine q_iload_n C (by decide +kernel : decode cL_law 18 = .ok (.iload_n 3, 1)) ?_
  refine q_aload_n C (by decide +kernel : decode cL_law 19 = .ok (.aload_n 0, 1)) ?_
  refine q_slen C hX hbl hbA (by decide +kernel : decode cL_law 20 = .ok (.arraylength, 1)) ?_
  refine q_bipush C (by decide +kernel : decode cL_law 21 = .ok (.bipush 6, 2)) (by decide) ?_
  refine q_isub C (by decide +kernel : decode cL_law 23 = .ok (.isub, 1)) ?_
  refine q_icgt C (tgt := 1050) (by decide +kernel : decode cL_law 24 = .ok (.if_icmp .gt 1026, 3)) (by decide) ?_ ?_
  · exact v_L_law_1050 C hX hbl hbA hAs hK
  · refine q_aload_n C (by decide +kernel : decode cL_law 27 = .ok (.aload_n 0, 1)) ?_
    refine q_iload_n C (by decide +kernel : decode cL_law 28 = .ok (.iload_n 3, 1)) ?_
    refine q_sld C hX hbl hbA (by decide +kernel : decode cL_law 29 = .ok (.iaload, 1)) ?_
    refine q_bipush C (by decide +kernel : decode cL_law 30 = .ok (.bipush 31, 2)) (by decide) ?_
    refine q_iand C (by decide +kernel : decode cL_law 32 = .ok (.iand, 1)) ?_
    refine q_tsw C (tgt := 1044) (by decide +kernel : decode cL_law 33 = .ok (.tableswitch 1011 0 21 #[103, 126, 139, 172, 205, 238, 301, 324, 357, 400, 453, 506, 549, 592, 651, 714, 777, 810, 859, 892, 945, 988], 103)) (by rfl) (by decide) ?_ (fun i ki hi => ?_)
    · exact v_L_law_1044 C hX hbl hbA hAs hK
    · match i, hi with
      | 0, hi =>
        cases hi
        refine ⟨103, 136, by decide, by decide, ?_⟩
        exact v_L_law_136 C hX hbl hbA hAs hK
      | 1, hi =>
        cases hi
        refine ⟨126, 159, by decide, by decide, ?_⟩
        exact v_L_law_159 C hX hbl hbA hAs hK
      | 2, hi =>
        cases hi
        refine ⟨139, 172, by decide, by decide, ?_⟩
        exact v_L_law_172 C hX hbl hbA hAs hK
      | 3, hi =>
        cases hi
        refine ⟨172, 205, by decide, by decide, ?_⟩
        exact v_L_law_205 C hX hbl hbA hAs hK
      | 4, hi =>
        cases hi
        refine ⟨205, 238, by decide, by decide, ?_⟩
        exact v_L_law_238 C hX hbl hbA hAs hK
      | 5, hi =>
        cases hi
        refine ⟨238, 271, by decide, by decide, ?_⟩
        exact v_L_law_271 C hX hbl hbA hAs hK
      | 6, hi =>
        cases hi
        refine ⟨301, 334, by decide, by decide, ?_⟩
        exact v_L_law_334 C hX hbl hbA hAs hK
      | 7, hi =>
        cases hi
        refine ⟨324, 357, by decide, by decide, ?_⟩
        exact v_L_law_357 C hX hbl hbA hAs hK
      | 8, hi =>
        cases hi
        refine ⟨357, 390, by decide, by decide, ?_⟩
        exact v_L_law_390 C hX hbl hbA hAs hK
      | 9, hi =>
        cases hi
        refine ⟨400, 433, by decide, by decide, ?_⟩
        exact v_L_law_433 C hX hbl hbA hAs hK
      | 10, hi =>
        cases hi
        refine ⟨453, 486, by decide, by decide, ?_⟩
        exact v_L_law_486 C hX hbl hbA hAs hK
      | 11, hi =>
        cases hi
        refine ⟨506, 539, by decide, by decide, ?_⟩
        exact v_L_law_539 C hX hbl hbA hAs hK
      | 12, hi =>
        cases hi
        refine ⟨549, 582, by decide, by decide, ?_⟩
        exact v_L_law_582 C hX hbl hbA hAs hK
      | 13, hi =>
        cases hi
        refine ⟨592, 625, by decide, by decide, ?_⟩
        exact v_L_law_625 C hX hbl hbA hAs hK
      | 14, hi =>
        cases hi
        refine ⟨651, 684, by decide, by decide, ?_⟩
        exact v_L_law_684 C hX hbl hbA hAs hK
      | 15, hi =>
        cases hi
        refine ⟨714, 747, by decide, by decide, ?_⟩
        exact v_L_law_747 C hX hbl hbA hAs hK
      | 16, hi =>
        cases hi
        refine ⟨777, 810, by decide, by decide, ?_⟩
        exact v_L_law_810 C hX hbl hbA hAs hK
      | 17, hi =>
        cases hi
        refine ⟨810, 843, by decide, by decide, ?_⟩
        exact v_L_law_843 C hX hbl hbA hAs hK
      | 18, hi =>
        cases hi
        refine ⟨859, 892, by decide, by decide, ?_⟩
        exact v_L_law_892 C hX hbl hbA hAs hK
      | 19, hi =>
        cases hi
        refine ⟨892, 925, by decide, by decide, ?_⟩
        exact v_L_law_925 C hX hbl hbA hAs hK
      | 20, hi =>
        cases hi
        refine ⟨945, 978, by decide, by decide, ?_⟩
        exact v_L_law_978 C hX hbl hbA hAs hK
      | 21, hi =>
        cases hi
        refine ⟨988, 1021, by decide, by decide, ?_⟩
        exact v_L_law_1021 C hX hbl hbA hAs hK
      | i + 22, hi => simp at hi
