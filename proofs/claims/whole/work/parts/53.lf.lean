-- the law's switch
def q_all (V : Nat → q_K → Prop) (pc : Nat) : List Int → List q_K → Prop
  | o :: os, k :: ks => (∃ t : Nat, (pc : Int) + o = (t : Int) ∧ V t k) ∧ q_all V pc os ks
  | _, [] => True
  | [], _ :: _ => False
theorem q_all_at {V : Nat → q_K → Prop} {pc : Nat} : ∀ {os : List Int} {ks : List q_K}, q_all V pc os ks → ∀ {i : Nat} {ki : q_K}, ks[i]? = some ki → ∃ (off : Int) (ti : Nat), os[i]? = some off ∧ (pc : Int) + off = (ti : Int) ∧ V ti ki
  | o :: os, k :: ks, h, 0, ki, hi => by
    obtain ⟨⟨t, h1, h2⟩, h3⟩ := h
    simp at hi
    subst hi
    exact ⟨o, t, rfl, h1, h2⟩
  | o :: os, k :: ks, h, i + 1, ki, hi => by
    obtain ⟨-, h3⟩ := h
    have := q_all_at h3 (i := i) (ki := ki) (by simpa using hi)
    simpa using this
  | [], [], _, i, ki, hi => by simp at hi
  | _ :: _, [], _, i, ki, hi => by simp at hi
  | [], _ :: _, h, i, ki, hi => h.elim
section QTS
variable {p : Program} {l : Launch} {e : Env} {R : Room} {s : State} {m : MethodId} {args : Array Value} {below : List Frame} {meth : Method} {c : Code} {D : va_G} {A : Nat → Prop} {nL : Nat} {Q : State → Prop} {cc : ByteArray} {own mn : String} {ret0 : Option FieldType}
theorem q_tsw2 (C : q_C p s m args meth c cc nL own mn ret0 A) {pc tgt len : Nat} {ks : List q_K} {k : q_K} {lo hi dflt : Int} {os : List Int} (d : decode cc pc = .ok (.tableswitch dflt lo hi os.toArray, len)) (hlen : lo + ks.length = hi + 1) (ht : (pc : Int) + dflt = (tgt : Int)) (h : q_V p l e R s m args below meth c D A nL Q tgt k) (hs : q_all (fun t k => q_V p l e R s m args below meth c D A nL Q t k) pc os ks) : q_V p l e R s m args below meth c D A nL Q pc (c_tsw lo ks k) :=
  q_tsw C d hlen ht h (fun i ki hi => by
    obtain ⟨off, ti, h1, h2, h3⟩ := q_all_at hs hi
    exact ⟨off, ti, by rw [List.getElem?_toArray]; exact h1, h2, h3⟩)
end QTS
theorem w9_636 : (.classLink RL 7 RX10 : Cond) ∈ lw_tbl := by decide +kernel
theorem w9_637 : (.instantiable RX10 10 : Cond) ∈ lw_tbl := by decide +kernel
theorem w9_638 : (.code yX10_init cX10_init 1 none : Cond) ∈ lw_tbl := by decide +kernel
theorem w9_639 : (.methodLink RL 9 yX10_init : Cond) ∈ lw_tbl := by decide +kernel
theorem w9_640 : (.instanceMethod yX10_init : Cond) ∈ lw_tbl := by decide +kernel
theorem w9_641 : (.classLink RL 10 RX11 : Cond) ∈ lw_tbl := by decide +kernel
theorem w9_642 : (.instantiable RX11 35 : Cond) ∈ lw_tbl := by decide +kernel
theorem w9_643 : (.code yX11_init cX11_init 1 none : Cond) ∈ lw_tbl := by decide +kernel
theorem w9_644 : (.methodLink RL 12 yX11_init : Cond) ∈ lw_tbl := by decide +kernel
theorem w9_645 : (.instanceMethod yX11_init : Cond) ∈ lw_tbl := by decide +kernel
def k_L_law_0 (b n : Nat) (xs : Nat → Int32) (K : Nat → q_K) : q_K := (c_new 10 10 [.int 0, .null, .int 0, .null, .null, .int 0, .null, .int 0, .null, .null] (c_dup (c_call1 (some 10) (q_fr s_X10_init) 30 1545 (c_astore 1 (c_new 11 35 [.int 0, .int 0, .null, .null, .null, .int 0, .null, .null, .null, .null, .null, .int 0, .null, .null, .int 0, .null, .null, .null, .null, .null, .null, .null, .int 0, .null, .null, .null, .null, .null, .null, .null, .null, .int 0, .null, .int 0, .null] (c_dup (c_call1 (some 11) (q_fr s_X11_init) 27 10327 (c_astore 2 (c_push 0 (c_istore 3 (K 18)))))))))))
def k_L_law_18 (b n : Nat) (xs : Nat → Int32) (K : Nat → q_K) : q_K := (c_iload 3 (c_aload 0 (c_slen b n (c_push 6 (c_isub (c_icgt (k_L_law_1050 b n xs K) (c_aload 0 (c_iload 3 (c_sld b n xs (c_push 31 (c_iand (c_tsw 0 [(k_L_law_136 b n xs K), (k_L_law_159 b n xs K), (k_L_law_172 b n xs K), (k_L_law_205 b n xs K), (k_L_law_238 b n xs K), (k_L_law_271 b n xs K), (k_L_law_334 b n xs K), (k_L_law_357 b n xs K), (k_L_law_390 b n xs K), (k_L_law_433 b n xs K), (k_L_law_486 b n xs K), (k_L_law_539 b n xs K), (k_L_law_582 b n xs K), (k_L_law_625 b n xs K), (k_L_law_684 b n xs K), (k_L_law_747 b n xs K), (k_L_law_810 b n xs K), (k_L_law_843 b n xs K), (k_L_law_892 b n xs K), (k_L_law_925 b n xs K), (k_L_law_978 b n xs K), (k_L_law_1021 b n xs K)] (k_L_law_1044 b n xs K)))))))))))))
set_option maxRecDepth 100000 in
theorem v_L_law_0 {p : Program} {l : Launch} {e : Env} {s : State} {m : MethodId} {below : List Frame} {meth : Method} {c : Code} {D : va_G} {A : Nat → Prop} {mn : String} {b n : Nat} {xs : Nat → Int32} {K : Nat → q_K} (C : q_C p s m #[Value.ref b] meth c cL_law 4 RL mn ret A) (hX : va_X b n xs s s.heap) (hbl : b < s.heap.size) (hbA : ¬ A b) (hAs : ∀ q, A q → s.heap.size ≤ q) (hK : ∀ h ∈ ([18] : List Nat), q_V p l e room_1 s m #[Value.ref b] below meth c D A 4 (lw_Z below #[Value.ref b] s) h (K h)) : q_V p l e room_1 s m #[Value.ref b] below meth c D A 4 (lw_Z below #[Value.ref b] s) 0 (k_L_law_0 b n xs K) := by
  unfold k_L_law_0
  refine q_new C (ci := 10) (C0 := RX10) (T := TX10) (N := 10) (fs := [.int 0, .null, .int 0, .null, .null, .int 0, .null, .int 0, .null, .null]) rfl iX10 giX10 tyX10 tyX10_ok w9_636 w9_637 w9_1 dvX10 (by decide +kernel : decode cL_law 0 = .ok (.new 7, 3)) ?_
  refine q_dup C (by decide +kernel : decode cL_law 3 = .ok (.dup, 1)) ?_
  refine q_call1 C (q_coI C (np := 0) (ci := 10) (q_frame (t_X10_init l)) w9_638 rfl w9_639 w9_640 w9_1 (by decide +kernel) (by decide +kernel : decode cL_law 4 = .ok (.invokespecial 9, 3)) (by decide)) ?_
  refine q_astore_n C (by decide +kernel : decode cL_law 7 = .ok (.astore_n 1, 1)) ?_
  refine q_new C (ci := 11) (C0 := RX11) (T := TX11) (N := 35) (fs := [.int 0, .int 0, .null, .null, .null, .int 0, .null, .null, .null, .null, .null, .int 0, .null, .null, .int 0, .null, .null, .null, .null, .null, .null, .null, .int 0, .null, .null, .null, .null, .null, .null, .null, .null, .int 0, .null, .int 0, .null]) rfl iX11 giX11 tyX11 tyX11_ok w9_641 w9_642 w9_6 dvX11 (by decide +kernel : decode cL_law 8 = .ok (.new 10, 3)) ?_
  refine q_dup C (by decide +kernel : decode cL_law 11 = .ok (.dup, 1)) ?_
  refine q_call1 C (q_coI C (np := 0) (ci := 11) (q_frame (t_X11_init l)) w9_643 rfl w9_644 w9_645 w9_6 (by decide +kernel) (by decide +kernel : decode cL_law 12 = .ok (.invokespecial 12, 3)) (by decide)) ?_
  refine q_astore_n C (by decide +kernel : decode cL_law 15 = .ok (.astore_n 2, 1)) ?_
  refine q_iconst C (by decide +kernel : decode cL_law 16 = .ok (.iconst 0, 1)) (by decide) ?_
  refine q_istore_n C (by decide +kernel : decode cL_law 17 = .ok (.istore_n 3, 1)) ?_
  exact hK 18 (by decide)
set_option maxRecDepth 100000 in
theorem v_L_law_18 {p : Program} {l : Launch} {e : Env} {s : State} {m : MethodId} {below : List Frame} {meth : Method} {c : Code} {D : va_G} {A : Nat → Prop} {mn : String} {b n : Nat} {xs : Nat → Int32} {K : Nat → q_K} (C : q_C p s m #[Value.ref b] meth c cL_law 4 RL mn ret A) (hX : va_X b n xs s s.heap) (hbl : b < s.heap.size) (hbA : ¬ A b) (hAs : ∀ q, A q → s.heap.size ≤ q) (hK : ∀ h ∈ ([18] : List Nat), q_V p l e room_1 s m #[Value.ref b] below meth c D A 4 (lw_Z below #[Value.ref b] s) h (K h)) : q_V p l e room_1 s m #[Value.ref b] below meth c D A 4 (lw_Z below #[Value.ref b] s) 18 (k_L_law_18 b n xs K) := by
  unfold k_L_law_18
  refine q_iload_n C (by decide +kernel : decode cL_law 18 = .ok (.iload_n 3, 1)) ?_
  refine q_aload_n C (by decide +kernel : decode cL_law 19 = .ok (.aload_n 0, 1)) ?_
  refine q_slen C hX hbl hbA (by decide +kernel : decode cL_law 20 = .ok (.arraylength, 1)) ?_
  refine q_bipush C (by decide +kernel : decode cL_law 21 = .ok (.bipush 6, 2)) (by decide) ?_
  refine q_isub C (by decide +kernel : decode cL_law 23 = .ok (.isub, 1)) ?_
  refine q_icgt C (tgt := 1050) (by decide +kernel : decode cL_law 24 = .ok (.if_icmp .gt 1026, 3)) (by decide) ?_ ?_
  · exact v_L_law_1050 C hX hbl hbA hAs hK
  · refine q_aload_n C (by decide +kernel : decode cL_law 27 = .ok (.aload_n 0, 1)) ?_
    refine q_iload_n C (by decide +kernel : decode cL_law 28 = .ok (.iload_n 3, 1)) ?_
    refine q_sld C hX hbl hbA (by decide +kernel : decode cL_law 29 = .ok (.iaload, 1)) ?_
    refine q_bipush C (by decide +kernel : decode cL_law 30 = .ok (.bipush 31, 2)) (by decide) ?_
    refine q_iand C (by decide +kernel : decode cL_law 32 = .ok (.iand, 1)) ?_
    refine q_tsw2 C (tgt := 1044) (by decide +kernel : decode cL_law 33 = .ok (.tableswitch 1011 0 21 #[103, 126, 139, 172, 205, 238, 301, 324, 357, 400, 453, 506, 549, 592, 651, 714, 777, 810, 859, 892, 945, 988], 103)) (by rfl) (by decide) ?_ ?_
    · exact v_L_law_1044 C hX hbl hbA hAs hK
    · exact ⟨⟨136, by decide, v_L_law_136 C hX hbl hbA hAs hK⟩, ⟨159, by decide, v_L_law_159 C hX hbl hbA hAs hK⟩, ⟨172, by decide, v_L_law_172 C hX hbl hbA hAs hK⟩, ⟨205, by decide, v_L_law_205 C hX hbl hbA hAs hK⟩, ⟨238, by decide, v_L_law_238 C hX hbl hbA hAs hK⟩, ⟨271, by decide, v_L_law_271 C hX hbl hbA hAs hK⟩, ⟨334, by decide, v_L_law_334 C hX hbl hbA hAs hK⟩, ⟨357, by decide, v_L_law_357 C hX hbl hbA hAs hK⟩, ⟨390, by decide, v_L_law_390 C hX hbl hbA hAs hK⟩, ⟨433, by decide, v_L_law_433 C hX hbl hbA hAs hK⟩, ⟨486, by decide, v_L_law_486 C hX hbl hbA hAs hK⟩, ⟨539, by decide, v_L_law_539 C hX hbl hbA hAs hK⟩, ⟨582, by decide, v_L_law_582 C hX hbl hbA hAs hK⟩, ⟨625, by decide, v_L_law_625 C hX hbl hbA hAs hK⟩, ⟨684, by decide, v_L_law_684 C hX hbl hbA hAs hK⟩, ⟨747, by decide, v_L_law_747 C hX hbl hbA hAs hK⟩, ⟨810, by decide, v_L_law_810 C hX hbl hbA hAs hK⟩, ⟨843, by decide, v_L_law_843 C hX hbl hbA hAs hK⟩, ⟨892, by decide, v_L_law_892 C hX hbl hbA hAs hK⟩, ⟨925, by decide, v_L_law_925 C hX hbl hbA hAs hK⟩, ⟨978, by decide, v_L_law_978 C hX hbl hbA hAs hK⟩, ⟨1021, by decide, v_L_law_1021 C hX hbl hbA hAs hK⟩, trivial⟩
