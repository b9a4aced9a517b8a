-- blocks of the law
theorem w9_596 : (.code yX10_common cX10_common 3 (some .int) : Cond) ∈ lw_tbl := by decide +kernel
theorem w9_597 : (.methodLink RL 88 yX10_common : Cond) ∈ lw_tbl := by decide +kernel
theorem w9_598 : (.instanceMethod yX10_common : Cond) ∈ lw_tbl := by decide +kernel
theorem w9_599 : (.selects RX10 yX10_common yX10_common : Cond) ∈ lw_tbl := by decide +kernel
theorem w9_600 : (.code yX11_common cX11_common 4 (some .int) : Cond) ∈ lw_tbl := by decide +kernel
theorem w9_601 : (.methodLink RL 92 yX11_common : Cond) ∈ lw_tbl := by decide +kernel
theorem w9_602 : (.instanceMethod yX11_common : Cond) ∈ lw_tbl := by decide +kernel
theorem w9_603 : (.selects RX11 yX11_common yX11_common : Cond) ∈ lw_tbl := by decide +kernel
theorem w9_604 : (.code yX10_alike cX10_alike 5 (some .int) : Cond) ∈ lw_tbl := by decide +kernel
theorem w9_605 : (.methodLink RL 93 yX10_alike : Cond) ∈ lw_tbl := by decide +kernel
theorem w9_606 : (.instanceMethod yX10_alike : Cond) ∈ lw_tbl := by decide +kernel
theorem w9_607 : (.selects RX10 yX10_alike yX10_alike : Cond) ∈ lw_tbl := by decide +kernel
theorem w9_608 : (.code yX11_alike cX11_alike 3 (some .int) : Cond) ∈ lw_tbl := by decide +kernel
theorem w9_609 : (.methodLink RL 96 yX11_alike : Cond) ∈ lw_tbl := by decide +kernel
theorem w9_610 : (.instanceMethod yX11_alike : Cond) ∈ lw_tbl := by decide +kernel
theorem w9_611 : (.selects RX11 yX11_alike yX11_alike : Cond) ∈ lw_tbl := by decide +kernel
theorem w9_612 : (.code yX10_pair cX10_pair 7 (some .int) : Cond) ∈ lw_tbl := by decide +kernel
theorem w9_613 : (.methodLink RL 97 yX10_pair : Cond) ∈ lw_tbl := by decide +kernel
theorem w9_614 : (.instanceMethod yX10_pair : Cond) ∈ lw_tbl := by decide +kernel
theorem w9_615 : (.selects RX10 yX10_pair yX10_pair : Cond) ∈ lw_tbl := by decide +kernel
theorem w9_616 : (.code yX11_pair cX11_pair 9 (some .int) : Cond) ∈ lw_tbl := by decide +kernel
theorem w9_617 : (.methodLink RL 100 yX11_pair : Cond) ∈ lw_tbl := by decide +kernel
theorem w9_618 : (.instanceMethod yX11_pair : Cond) ∈ lw_tbl := by decide +kernel
theorem w9_619 : (.selects RX11 yX11_pair yX11_pair : Cond) ∈ lw_tbl := by decide +kernel
theorem w9_620 : (.code yX10_copied cX10_copied 8 (some .int) : Cond) ∈ lw_tbl := by decide +kernel
theorem w9_621 : (.methodLink RL 101 yX10_copied : Cond) ∈ lw_tbl := by decide +kernel
theorem w9_622 : (.instanceMethod yX10_copied : Cond) ∈ lw_tbl := by decide +kernel
theorem w9_623 : (.selects RX10 yX10_copied yX10_copied : Cond) ∈ lw_tbl := by decide +kernel
theorem w9_624 : (.code yX11_copied cX11_copied 6 (some .int) : Cond) ∈ lw_tbl := by decide +kernel
theorem w9_625 : (.methodLink RL 104 yX11_copied : Cond) ∈ lw_tbl := by decide +kernel
theorem w9_626 : (.instanceMethod yX11_copied : Cond) ∈ lw_tbl := by decide +kernel
theorem w9_627 : (.selects RX11 yX11_copied yX11_copied : Cond) ∈ lw_tbl := by decide +kernel
theorem w9_628 : (.code yX10_count cX10_count 2 (some .int) : Cond) ∈ lw_tbl := by decide +kernel
theorem w9_629 : (.methodLink RL 105 yX10_count : Cond) ∈ lw_tbl := by decide +kernel
theorem w9_630 : (.instanceMethod yX10_count : Cond) ∈ lw_tbl := by decide +kernel
theorem w9_631 : (.selects RX10 yX10_count yX10_count : Cond) ∈ lw_tbl := by decide +kernel
theorem w9_632 : (.code yX11_count cX11_count 2 (some .int) : Cond) ∈ lw_tbl := by decide +kernel
theorem w9_633 : (.methodLink RL 108 yX11_count : Cond) ∈ lw_tbl := by decide +kernel
theorem w9_634 : (.instanceMethod yX11_count : Cond) ∈ lw_tbl := by decide +kernel
theorem w9_635 : (.selects RX11 yX11_count yX11_count : Cond) ∈ lw_tbl := by decide +kernel
def k_L_law_884 (b n : Nat) (xs : Nat → Int32) (K : Nat → q_K) : q_K := (c_call3 (some 11) (q_fr s_X11_common) 0 0 (c_iceq (k_L_law_1044 b n xs K) (c_push 0 c_lret)))
def k_L_law_862 (b n : Nat) (xs : Nat → Int32) (K : Nat → q_K) : q_K := (c_call3 (some 10) (q_fr s_X10_common) 0 0 (c_aload 2 (c_aload 0 (c_iload 3 (c_push 1 (c_iadd (c_sld b n xs (c_aload 0 (c_iload 3 (c_push 2 (c_iadd (c_sld b n xs (c_ifeq (c_push 0 (k_L_law_884 b n xs K)) (c_push 1 (k_L_law_884 b n xs K)))))))))))))))
def k_L_law_843 (b n : Nat) (xs : Nat → Int32) (K : Nat → q_K) : q_K := (c_aload 1 (c_aload 0 (c_iload 3 (c_push 1 (c_iadd (c_sld b n xs (c_aload 0 (c_iload 3 (c_push 2 (c_iadd (c_sld b n xs (c_ifeq (c_push 0 (k_L_law_862 b n xs K)) (c_push 1 (k_L_law_862 b n xs K))))))))))))))
def k_L_law_892 (b n : Nat) (xs : Nat → Int32) (K : Nat → q_K) : q_K := (c_aload 1 (c_aload 0 (c_iload 3 (c_push 1 (c_iadd (c_sld b n xs (c_aload 0 (c_iload 3 (c_push 2 (c_iadd (c_sld b n xs (c_call3 (some 10) (q_fr s_X10_alike) 0 0 (c_aload 2 (c_aload 0 (c_iload 3 (c_push 1 (c_iadd (c_sld b n xs (c_aload 0 (c_iload 3 (c_push 2 (c_iadd (c_sld b n xs (c_call3 (some 11) (q_fr s_X11_alike) 0 0 (c_iceq (k_L_law_1044 b n xs K) (c_push 0 c_lret))))))))))))))))))))))))))
def k_L_law_925 (b n : Nat) (xs : Nat → Int32) (K : Nat → q_K) : q_K := (c_aload 1 (c_aload 0 (c_iload 3 (c_push 1 (c_iadd (c_sld b n xs (c_aload 0 (c_iload 3 (c_push 2 (c_iadd (c_sld b n xs (c_aload 0 (c_iload 3 (c_push 3 (c_iadd (c_sld b n xs (c_aload 0 (c_iload 3 (c_push 4 (c_iadd (c_sld b n xs (c_call5 (some 10) (q_fr s_X10_pair) 0 0 (c_aload 2 (c_aload 0 (c_iload 3 (c_push 1 (c_iadd (c_sld b n xs (c_aload 0 (c_iload 3 (c_push 2 (c_iadd (c_sld b n xs (c_aload 0 (c_iload 3 (c_push 3 (c_iadd (c_sld b n xs (c_aload 0 (c_iload 3 (c_push 4 (c_iadd (c_sld b n xs (c_call5 (some 11) (q_fr s_X11_pair) 0 0 (c_iceq (k_L_law_1044 b n xs K) (c_push 0 c_lret))))))))))))))))))))))))))))))))))))))))))))))
def k_L_law_978 (b n : Nat) (xs : Nat → Int32) (K : Nat → q_K) : q_K := (c_aload 1 (c_aload 0 (c_iload 3 (c_push 1 (c_iadd (c_sld b n xs (c_aload 0 (c_iload 3 (c_push 2 (c_iadd (c_sld b n xs (c_aload 0 (c_iload 3 (c_push 3 (c_iadd (c_sld b n xs (c_call4 (some 10) (q_fr s_X10_copied) 0 0 (c_aload 2 (c_aload 0 (c_iload 3 (c_push 1 (c_iadd (c_sld b n xs (c_aload 0 (c_iload 3 (c_push 2 (c_iadd (c_sld b n xs (c_aload 0 (c_iload 3 (c_push 3 (c_iadd (c_sld b n xs (c_call4 (some 11) (q_fr s_X11_copied) 0 0 (c_iceq (k_L_law_1044 b n xs K) (c_push 0 c_lret))))))))))))))))))))))))))))))))))))
def k_L_law_1021 (b n : Nat) (xs : Nat → Int32) (K : Nat → q_K) : q_K := (c_aload 1 (c_aload 0 (c_iload 3 (c_push 1 (c_iadd (c_sld b n xs (c_call2 (some 10) (q_fr s_X10_count) 0 0 (c_aload 2 (c_aload 0 (c_iload 3 (c_push 1 (c_iadd (c_sld b n xs (c_call2 (some 11) (q_fr s_X11_count) 0 0 (c_iceq (k_L_law_1044 b n xs K) (c_push 0 c_lret))))))))))))))))
set_option maxRecDepth 100000 in
theorem v_L_law_884 {p : Program} {l : Launch} {e : Env} {s : State} {m : MethodId} {below : List Frame} {meth : Method} {c : Code} {D : va_G} {A : Nat → Prop} {mn : String} {b n : Nat} {xs : Nat → Int32} {K : Nat → q_K} (C : q_C p s m #[Value.ref b] meth c cL_law 4 RL mn ret A) (hX : va_X b n xs s s.heap) (hbl : b < s.heap.size) (hbA : ¬ A b) (hAs : ∀ q, A q → s.heap.size ≤ q) (hK : ∀ h ∈ ([18] : List Nat), q_V p l e room_1 s m #[Value.ref b] below meth c D A 4 (lw_Z below #[Value.ref b] s) h (K h)) : q_V p l e room_1 s m #[Value.ref b] below meth c D A 4 (lw_Z below #[Value.ref b] s) 884 (k_L_law_884 b n xs K) := by
  unfold k_L_law_884
  refine q_call3 C (q_coV C (np := 2) (ci := 11) (rc := (RX11, TX11, 35)) (q_frame (t_X11_common l)) w9_600 rfl rfl w9_601 w9_602 w9_603 w9_6 (by decide +kernel) (by decide +kernel : decode cL_law 884 = .ok (.invokevirtual 92, 3)) (by decide)) ?_
  refine q_iceq C (tgt := 1044) (by decide +kernel : decode cL_law 887 = .ok (.if_icmp .eq 157, 3)) (by decide) ?_ ?_
  · exact v_L_law_1044 C hX hbl hbA hAs hK
  · refine q_iconst C (by decide +kernel : decode cL_law 890 = .ok (.iconst 0, 1)) (by decide) ?_
    exact q_lret C hAs (by decide +kernel : decode cL_law 891 = .ok (.ireturn, 1))
set_option maxRecDepth 100000 in
theorem v_L_law_862 {p : Program} {l : Launch} {e : Env} {s : State} {m : MethodId} {below : List Frame} {meth : Method} {c : Code} {D : va_G} {A : Nat → Prop} {mn : String} {b n : Nat} {xs : Nat → Int32} {K : Nat → q_K} (C : q_C p s m #[Value.ref b] meth c cL_law 4 RL mn ret A) (hX : va_X b n xs s s.heap) (hbl : b < s.heap.size) (hbA : ¬ A b) (hAs : ∀ q, A q → s.heap.size ≤ q) (hK : ∀ h ∈ ([18] : List Nat), q_V p l e room_1 s m #[Value.ref b] below meth c D A 4 (lw_Z below #[Value.ref b] s) h (K h)) : q_V p l e room_1 s m #[Value.ref b] below meth c D A 4 (lw_Z below #[Value.ref b] s) 862 (k_L_law_862 b n xs K) := by
  unfold k_L_law_862
  refine q_call3 C (q_coV C (np := 2) (ci := 10) (rc := (RX10, TX10, 10)) (q_frame (t_X10_common l)) w9_596 rfl rfl w9_597 w9_598 w9_599 w9_1 (by decide +kernel) (by decide +kernel : decode cL_law 862 = .ok (.invokevirtual 88, 3)) (by decide)) ?_
  refine q_aload_n C (by decide +kernel : decode cL_law 865 = .ok (.aload_n 2, 1)) ?_
  refine q_aload_n C (by decide +kernel : decode cL_law 866 = .ok (.aload_n 0, 1)) ?_
  refine q_iload_n C (by decide +kernel : decode cL_law 867 = .ok (.iload_n 3, 1)) ?_
  refine q_iconst C (by decide +kernel : decode cL_law 868 = .ok (.iconst 1, 1)) (by decide) ?_
  refine q_iadd C (by decide +kernel : decode cL_law 869 = .ok (.iadd, 1)) ?_
  refine q_sld C hX hbl hbA (by decide +kernel : decode cL_law 870 = .ok (.iaload, 1)) ?_
  refine q_aload_n C (by decide +kernel : decode cL_law 871 = .ok (.aload_n 0, 1)) ?_
  refine q_iload_n C (by decide +kernel : decode cL_law 872 = .ok (.iload_n 3, 1)) ?_
  refine q_iconst C (by decide +kernel : decode cL_law 873 = .ok (.iconst 2, 1)) (by decide) ?_
  refine q_iadd C (by decide +kernel : decode cL_law 874 = .ok (.iadd, 1)) ?_
  refine q_sld C hX hbl hbA (by decide +kernel : decode cL_law 875 = .ok (.iaload, 1)) ?_
  refine q_ifeq C (tgt := 883) (by decide +kernel : decode cL_law 876 = .ok (.ifCond .eq 7, 3)) (by decide) ?_ ?_
  · refine q_iconst C (by decide +kernel : decode cL_law 883 = .ok (.iconst 0, 1)) (by decide) ?_
    exact v_L_law_884 C hX hbl hbA hAs hK
  · refine q_iconst C (by decide +kernel : decode cL_law 879 = .ok (.iconst 1, 1)) (by decide) ?_
    refine q_goto C (tgt := 884) (by decide +kernel : decode cL_law 880 = .ok (.goto 4, 3)) (by decide) ?_
    exact v_L_law_884 C hX hbl hbA hAs hK
set_option maxRecDepth 100000 in
theorem v_L_law_843 {p : Program} {l : Launch} {e : Env} {s : State} {m : MethodId} {below : List Frame} {meth : Method} {c : Code} {D : va_G} {A : Nat → Prop} {mn : String} {b n : Nat} {xs : Nat → Int32} {K : Nat → q_K} (C : q_C p s m #[Value.ref b] meth c cL_law 4 RL mn ret A) (hX : va_X b n xs s s.heap) (hbl : b < s.heap.size) (hbA : ¬ A b) (hAs : ∀ q, A q → s.heap.size ≤ q) (hK : ∀ h ∈ ([18] : List Nat), q_V p l e room_1 s m #[Value.ref b] below meth c D A 4 (lw_Z below #[Value.ref b] s) h (K h)) : q_V p l e room_1 s m #[Value.ref b] below meth c D A 4 (lw_Z below #[Value.ref b] s) 843 (k_L_law_843 b n xs K) := by
  unfold k_L_law_843
  refine q_aload_n C (by decide +kernel : decode cL_law 843 = .ok (.aload_n 1, 1)) ?_
  refine q_aload_n C (by decide +kernel : decode cL_law 844 = .ok (.aload_n 0, 1)) ?_
  refine q_iload_n C (by decide +kernel : decode cL_law 845 = .ok (.iload_n 3, 1)) ?_
  refine q_iconst C (by decide +kernel : decode cL_law 846 = .ok (.iconst 1, 1)) (by decide) ?_
  refine q_iadd C (by decide +kernel : decode cL_law 847 = .ok (.iadd, 1)) ?_
  refine q_sld C hX hbl hbA (by decide +kernel : decode cL_law 848 = .ok (.iaload, 1)) ?_
  refine q_aload_n C (by decide +kernel : decode cL_law 849 = .ok (.aload_n 0, 1)) ?_
  refine q_iload_n C (by decide +kernel : decode cL_law 850 = .ok (.iload_n 3, 1)) ?_
  refine q_iconst C (by decide +kernel : decode cL_law 851 = .ok (.iconst 2, 1)) (by decide) ?_
  refine q_iadd C (by decide +kernel : decode cL_law 852 = .ok (.iadd, 1)) ?_
  refine q_sld C hX hbl hbA (by decide +kernel : decode cL_law 853 = .ok (.iaload, 1)) ?_
  refine q_ifeq C (tgt := 861) (by decide +kernel : decode cL_law 854 = .ok (.ifCond .eq 7, 3)) (by decide) ?_ ?_
  · refine q_iconst C (by decide +kernel : decode cL_law 861 = .ok (.iconst 0, 1)) (by decide) ?_
    exact v_L_law_862 C hX hbl hbA hAs hK
  · refine q_iconst C (by decide +kernel : decode cL_law 857 = .ok (.iconst 1, 1)) (by decide) ?_
    refine q_goto C (tgt := 862) (by decide +kernel : decode cL_law 858 = .ok (.goto 4, 3)) (by decide) ?_
    exact v_L_law_862 C hX hbl hbA hAs hK
set_option maxRecDepth 100000 in
theorem v_L_law_892 {p : Program} {l : Launch} {e : Env} {s : State} {m : MethodId} {below : List Frame} {meth : Method} {c : Code} {D : va_G} {A : Nat → Prop} {mn : String} {b n : Nat} {xs : Nat → Int32} {K : Nat → q_K} (C : q_C p s m #[Value.ref b] meth c cL_law 4 RL mn ret A) (hX : va_X b n xs s s.heap) (hbl : b < s.heap.size) (hbA : ¬ A b) (hAs : ∀ q, A q → s.heap.size ≤ q) (hK : ∀ h ∈ ([18] : List Nat), q_V p l e room_1 s m #[Value.ref b] below meth c D A 4 (lw_Z below #[Value.ref b] s) h (K h)) : q_V p l e room_1 s m #[Value.ref b] below meth c D A 4 (lw_Z below #[Value.ref b] s) 892 (k_L_law_892 b n xs K) := by
  unfold k_L_law_892
  refine q_aload_n C (by decide +kernel : decode cL_law 892 = .ok (.aload_n 1, 1)) ?_
  refine q_aload_n C (by decide +kernel : decode cL_law 893 = .ok (.aload_n 0, 1)) ?_
  refine q_iload_n C (by decide +kernel : decode cL_law 894 = .ok (.iload_n 3, 1)) ?_
  refine q_iconst C (by decide +kernel : decode cL_law 895 = .ok (.iconst 1, 1)) (by decide) ?_
  refine q_iadd C (by decide +kernel : decode cL_law 896 = .ok (.iadd, 1)) ?_
  refine q_sld C hX hbl hbA (by decide +kernel : decode cL_law 897 = .ok (.iaload, 1)) ?_
  refine q_aload_n C (by decide +kernel : decode cL_law 898 = .ok (.aload_n 0, 1)) ?_
  refine q_iload_n C (by decide +kernel : decode cL_law 899 = .ok (.iload_n 3, 1)) ?_
  refine q_iconst C (by decide +kernel : decode cL_law 900 = .ok (.iconst 2, 1)) (by decide) ?_
  refine q_iadd C (by decide +kernel : decode cL_law 901 = .ok (.iadd, 1)) ?_
  refine q_sld C hX hbl hbA (by decide +kernel : decode cL_law 902 = .ok (.iaload, 1)) ?_
  refine q_call3 C (q_coV C (np := 2) (ci := 10) (rc := (RX10, TX10, 10)) (q_frame (t_X10_alike l)) w9_604 rfl rfl w9_605 w9_606 w9_607 w9_1 (by decide +kernel) (by decide +kernel : decode cL_law 903 = .ok (.invokevirtual 93, 3)) (by decide)) ?_
  refine q_aload_n C (by decide +kernel : decode cL_law 906 = .ok (.aload_n 2, 1)) ?_
  refine q_aload_n C (by decide +kernel : decode cL_law 907 = .ok (.aload_n 0, 1)) ?_
  refine q_iload_n C (by decide +kernel : decode cL_law 908 = .ok (.iload_n 3, 1)) ?_
  refine q_iconst C (by decide +kernel : decode cL_law 909 = .ok (.iconst 1, 1)) (by decide) ?_
  refine q_iadd C (by decide +kernel : decode cL_law 910 = .ok (.iadd, 1)) ?_
  refine q_sld C hX hbl hbA (by decide +kernel : decode cL_law 911 = .ok (.iaload, 1)) ?_
  refine q_aload_n C (by decide +kernel : decode cL_law 912 = .ok (.aload_n 0, 1)) ?_
  refine q_iload_n C (by decide +kernel : decode cL_law 913 = .ok (.iload_n 3, 1)) ?_
  refine q_iconst C (by decide +kernel : decode cL_law 914 = .ok (.iconst 2, 1)) (by decide) ?_
  refine q_iadd C (by decide +kernel : decode cL_law 915 = .ok (.iadd, 1)) ?_
  refine q_sld C hX hbl hbA (by decide +kernel : decode cL_law 916 = .ok (.iaload, 1)) ?_
  refine q_call3 C (q_coV C (np := 2) (ci := 11) (rc := (RX11, TX11, 35)) (q_frame (t_X11_alike l)) w9_608 rfl rfl w9_609 w9_610 w9_611 w9_6 (by decide +kernel) (by decide +kernel : decode cL_law 917 = .ok (.invokevirtual 96, 3)) (by decide)) ?_
  refine q_iceq C (tgt := 1044) (by decide +kernel : decode cL_law 920 = .ok (.if_icmp .eq 124, 3)) (by decide) ?_ ?_
  · exact v_L_law_1044 C hX hbl hbA hAs hK
  · refine q_iconst C (by decide +kernel : decode cL_law 923 = .ok (.iconst 0, 1)) (by decide) ?_
    exact q_lret C hAs (by decide +kernel : decode cL_law 924 = .ok (.ireturn, 1))
set_option maxRecDepth 100000 in
theorem v_L_law_925 {p : Program} {l : Launch} {e : Env} {s : State} {m : MethodId} {below : List Frame} {meth : Method} {c : Code} {D : va_G} {A : Nat → Prop} {mn : String} {b n : Nat} {xs : Nat → Int32} {K : Nat → q_K} (C : q_C p s m #[Value.ref b] meth c cL_law 4 RL mn ret A) (hX : va_X b n xs s s.heap) (hbl : b < s.heap.size) (hbA : ¬ A b) (hAs : ∀ q, A q → s.heap.size ≤ q) (hK : ∀ h ∈ ([18] : List Nat), q_V p l e room_1 s m #[Value.ref b] below meth c D A 4 (lw_Z below #[Value.ref b] s) h (K h)) : q_V p l e room_1 s m #[Value.ref b] below meth c D A 4 (lw_Z below #[Value.ref b] s) 925 (k_L_law_925 b n xs K) := by
  unfold k_L_law_925
  refine q_aload_n C (by decide +kernel : decode cL_law 925 = .ok (.aload_n 1, 1)) ?_
  refine q_aload_n C (by decide +kernel : decode cL_law 926 = .ok (.aload_n 0, 1)) ?_
  refine q_iload_n C (by decide +kernel : decode cL_law 927 = .ok (.iload_n 3, 1)) ?_
  refine q_iconst C (by decide +kernel : decode cL_law 928 = .ok (.iconst 1, 1)) (by decide) ?_
  refine q_iadd C (by decide +kernel : decode cL_law 929 = .ok (.iadd, 1)) ?_
  refine q_sld C hX hbl hbA (by decide +kernel : decode cL_law 930 = .ok (.iaload, 1)) ?_
  refine q_aload_n C (by decide +kernel : decode cL_law 931 = .ok (.aload_n 0, 1)) ?_
  refine q_iload_n C (by decide +kernel : decode cL_law 932 = .ok (.iload_n 3, 1)) ?_
  refine q_iconst C (by decide +kernel : decode cL_law 933 = .ok (.iconst 2, 1)) (by decide) ?_
  refine q_iadd C (by decide +kernel : decode cL_law 934 = .ok (.iadd, 1)) ?_
  refine q_sld C hX hbl hbA (by decide +kernel : decode cL_law 935 = .ok (.iaload, 1)) ?_
  refine q_aload_n C (by decide +kernel : decode cL_law 936 = .ok (.aload_n 0, 1)) ?_
  refine q_iload_n C (by decide +kernel : decode cL_law 937 = .ok (.iload_n 3, 1)) ?_
  refine q_iconst C (by decide +kernel : decode cL_law 938 = .ok (.iconst 3, 1)) (by decide) ?_
  refine q_iadd C (by decide +kernel : decode cL_law 939 = .ok (.iadd, 1)) ?_
  refine q_sld C hX hbl hbA (by decide +kernel : decode cL_law 940 = .ok (.iaload, 1)) ?_
  refine q_aload_n C (by decide +kernel : decode cL_law 941 = .ok (.aload_n 0, 1)) ?_
  refine q_iload_n C (by decide +kernel : decode cL_law 942 = .ok (.iload_n 3, 1)) ?_
  refine q_iconst C (by decide +kernel : decode cL_law 943 = .ok (.iconst 4, 1)) (by decide) ?_
  refine q_iadd C (by decide +kernel : decode cL_law 944 = .ok (.iadd, 1)) ?_
  refine q_sld C hX hbl hbA (by decide +kernel : decode cL_law 945 = .ok (.iaload, 1)) ?_
  refine q_call5 C (q_coV C (np := 4) (ci := 10) (rc := (RX10, TX10, 10)) (q_frame (t_X10_pair l)) w9_612 rfl rfl w9_613 w9_614 w9_615 w9_1 (by decide +kernel) (by decide +kernel : decode cL_law 946 = .ok (.invokevirtual 97, 3)) (by decide)) ?_
  refine q_aload_n C (by decide +kernel : decode cL_law 949 = .ok (.aload_n 2, 1)) ?_
  refine q_aload_n C (by decide +kernel : decode cL_law 950 = .ok (.aload_n 0, 1)) ?_
  refine q_iload_n C (by decide +kernel : decode cL_law 951 = .ok (.iload_n 3, 1)) ?_
  refine q_iconst C (by decide +kernel : decode cL_law 952 = .ok (.iconst 1, 1)) (by decide) ?_
  refine q_iadd C (by decide +kernel : decode cL_law 953 = .ok (.iadd, 1)) ?_
  refine q_sld C hX hbl hbA (by decide +kernel : decode cL_law 954 = .ok (.iaload, 1)) ?_
  refine q_aload_n C (by decide +kernel : decode cL_law 955 = .ok (.aload_n 0, 1)) ?_
  refine q_iload_n C (by decide +kernel : decode cL_law 956 = .ok (.iload_n 3, 1)) ?_
  refine q_iconst C (by decide +kernel : decode cL_law 957 = .ok (.iconst 2, 1)) (by decide) ?_
  refine q_iadd C (by decide +kernel : decode cL_law 958 = .ok (.iadd, 1)) ?_
  refine q_sld C hX hbl hbA (by decide +kernel : decode cL_law 959 = .ok (.iaload, 1)) ?_
  refine q_aload_n C (by decide +kernel : decode cL_law 960 = .ok (.aload_n 0, 1)) ?_
  refine q_iload_n C (by decide +kernel : decode cL_law 961 = .ok (.iload_n 3, 1)) ?_
  refine q_iconst C (by decide +kernel : decode cL_law 962 = .ok (.iconst 3, 1)) (by decide) ?_
  refine q_iadd C (by decide +kernel : decode cL_law 963 = .ok (.iadd, 1)) ?_
  refine q_sld C hX hbl hbA (by decide +kernel : decode cL_law 964 = .ok (.iaload, 1)) ?_
  refine q_aload_n C (by decide +kernel : decode cL_law 965 = .ok (.aload_n 0, 1)) ?_
  refine q_iload_n C (by decide +kernel : decode cL_law 966 = .ok (.iload_n 3, 1)) ?_
  refine q_iconst C (by decide +kernel : decode cL_law 967 = .ok (.iconst 4, 1)) (by decide) ?_
  refine q_iadd C (by decide +kernel : decode cL_law 968 = .ok (.iadd, 1)) ?_
  refine q_sld C hX hbl hbA (by decide +kernel : decode cL_law 969 = .ok (.iaload, 1)) ?_
  refine q_call5 C (q_coV C (np := 4) (ci := 11) (rc := (RX11, TX11, 35)) (q_frame (t_X11_pair l)) w9_616 rfl rfl w9_617 w9_618 w9_619 w9_6 (by decide +kernel) (by decide +kernel : decode cL_law 970 = .ok (.invokevirtual 100, 3)) (by decide)) ?_
  refine q_iceq C (tgt := 1044) (by decide +kernel : decode cL_law 973 = .ok (.if_icmp .eq 71, 3)) (by decide) ?_ ?_
  · exact v_L_law_1044 C hX hbl hbA hAs hK
  · refine q_iconst C (by decide +kernel : decode cL_law 976 = .ok (.iconst 0, 1)) (by decide) ?_
    exact q_lret C hAs (by decide +kernel : decode cL_law 977 = .ok (.ireturn, 1))
set_option maxRecDepth 100000 in
theorem v_L_law_978 {p : Program} {l : Launch} {e : Env} {s : State} {m : MethodId} {below : List Frame} {meth : Method} {c : Code} {D : va_G} {A : Nat → Prop} {mn : String} {b n : Nat} {xs : Nat → Int32} {K : Nat → q_K} (C : q_C p s m #[Value.ref b] meth c cL_law 4 RL mn ret A) (hX : va_X b n xs s s.heap) (hbl : b < s.heap.size) (hbA : ¬ A b) (hAs : ∀ q, A q → s.heap.size ≤ q) (hK : ∀ h ∈ ([18] : List Nat), q_V p l e room_1 s m #[Value.ref b] below meth c D A 4 (lw_Z below #[Value.ref b] s) h (K h)) : q_V p l e room_1 s m #[Value.ref b] below meth c D A 4 (lw_Z below #[Value.ref b] s) 978 (k_L_law_978 b n xs K) := by
  unfold k_L_law_978
  refine q_aload_n C (by decide +kernel : decode cL_law 978 = .ok (.aload_n 1, 1)) ?_
  refine q_aload_n C (by decide +kernel : decode cL_law 979 = .ok (.aload_n 0, 1)) ?_
  refine q_iload_n C (by decide +kernel : decode cL_law 980 = .ok (.iload_n 3, 1)) ?_
  refine q_iconst C (by decide +kernel : decode cL_law 981 = .ok (.iconst 1, 1)) (by decide) ?_
  refine q_iadd C (by decide +kernel : decode cL_law 982 = .ok (.iadd, 1)) ?_
  refine q_sld C hX hbl hbA (by decide +kernel : decode cL_law 983 = .ok (.iaload, 1)) ?_
  refine q_aload_n C (by decide +kernel : decode cL_law 984 = .ok (.aload_n 0, 1)) ?_
  refine q_iload_n C (by decide +kernel : decode cL_law 985 = .ok (.iload_n 3, 1)) ?_
  refine q_iconst C (by decide +kernel : decode cL_law 986 = .ok (.iconst 2, 1)) (by decide) ?_
  refine q_iadd C (by decide +kernel : decode cL_law 987 = .ok (.iadd, 1)) ?_
  refine q_sld C hX hbl hbA (by decide +kernel : decode cL_law 988 = .ok (.iaload, 1)) ?_
  refine q_aload_n C (by decide +kernel : decode cL_law 989 = .ok (.aload_n 0, 1)) ?_
  refine q_iload_n C (by decide +kernel : decode cL_law 990 = .ok (.iload_n 3, 1)) ?_
  refine q_iconst C (by decide +kernel : decode cL_law 991 = .ok (.iconst 3, 1)) (by decide) ?_
  refine q_iadd C (by decide +kernel : decode cL_law 992 = .ok (.iadd, 1)) ?_
  refine q_sld C hX hbl hbA (by decide +kernel : decode cL_law 993 = .ok (.iaload, 1)) ?_
  refine q_call4 C (q_coV C (np := 3) (ci := 10) (rc := (RX10, TX10, 10)) (q_frame (t_X10_copied l)) w9_620 rfl rfl w9_621 w9_622 w9_623 w9_1 (by decide +kernel) (by decide +kernel : decode cL_law 994 = .ok (.invokevirtual 101, 3)) (by decide)) ?_
  refine q_aload_n C (by decide +kernel : decode cL_law 997 = .ok (.aload_n 2, 1)) ?_
  refine q_aload_n C (by decide +kernel : decode cL_law 998 = .ok (.aload_n 0, 1)) ?_
  refine q_iload_n C (by decide +kernel : decode cL_law 999 = .ok (.iload_n 3, 1)) ?_
  refine q_iconst C (by decide +kernel : decode cL_law 1000 = .ok (.iconst 1, 1)) (by decide) ?_
  refine q_iadd C (by decide +kernel : decode cL_law 1001 = .ok (.iadd, 1)) ?_
  refine q_sld C hX hbl hbA (by decide +kernel : decode cL_law 1002 = .ok (.iaload, 1)) ?_
  refine q_aload_n C (by decide +kernel : decode cL_law 1003 = .ok (.aload_n 0, 1)) ?_
  refine q_iload_n C (by decide +kernel : decode cL_law 1004 = .ok (.iload_n 3, 1)) ?_
  refine q_iconst C (by decide +kernel : decode cL_law 1005 = .ok (.iconst 2, 1)) (by decide) ?_
  refine q_iadd C (by decide +kernel : decode cL_law 1006 = .ok (.iadd, 1)) ?_
  refine q_sld C hX hbl hbA (by decide +kernel : decode cL_law 1007 = .ok (.iaload, 1)) ?_
  refine q_aload_n C (by decide +kernel : decode cL_law 1008 = .ok (.aload_n 0, 1)) ?_
  refine q_iload_n C (by decide +kernel : decode cL_law 1009 = .ok (.iload_n 3, 1)) ?_
  refine q_iconst C (by decide +kernel : decode cL_law 1010 = .ok (.iconst 3, 1)) (by decide) ?_
  refine q_iadd C (by decide +kernel : decode cL_law 1011 = .ok (.iadd, 1)) ?_
  refine q_sld C hX hbl hbA (by decide +kernel : decode cL_law 1012 = .ok (.iaload, 1)) ?_
  refine q_call4 C (q_coV C (np := 3) (ci := 11) (rc := (RX11, TX11, 35)) (q_frame (t_X11_copied l)) w9_624 rfl rfl w9_625 w9_626 w9_627 w9_6 (by decide +kernel) (by decide +kernel : decode cL_law 1013 = .ok (.invokevirtual 104, 3)) (by decide)) ?_
  refine q_iceq C (tgt := 1044) (by decide +kernel : decode cL_law 1016 = .ok (.if_icmp .eq 28, 3)) (by decide) ?_ ?_
  · exact v_L_law_1044 C hX hbl hbA hAs hK
  · refine q_iconst C (by decide +kernel : decode cL_law 1019 = .ok (.iconst 0, 1)) (by decide) ?_
    exact q_lret C hAs (by decide +kernel : decode cL_law 1020 = .ok (.ireturn, 1))
set_option maxRecDepth 100000 in
theorem v_L_law_1021 {p : Program} {l : Launch} {e : Env} {s : State} {m : MethodId} {below : List Frame} {meth : Method} {c : Code} {D : va_G} {A : Nat → Prop} {mn : String} {b n : Nat} {xs : Nat → Int32} {K : Nat → q_K} (C : q_C p s m #[Value.ref b] meth c cL_law 4 RL mn ret A) (hX : va_X b n xs s s.heap) (hbl : b < s.heap.size) (hbA : ¬ A b) (hAs : ∀ q, A q → s.heap.size ≤ q) (hK : ∀ h ∈ ([18] : List Nat), q_V p l e room_1 s m #[Value.ref b] below meth c D A 4 (lw_Z below #[Value.ref b] s) h (K h)) : q_V p l e room_1 s m #[Value.ref b] below meth c D A 4 (lw_Z below #[Value.ref b] s) 1021 (k_L_law_1021 b n xs K) := by
  unfold k_L_law_1021
  refine q_aload_n C (by decide +kernel : decode cL_law 1021 = .ok (.aload_n 1, 1)) ?_
  refine q_aload_n C (by decide +kernel : decode cL_law 1022 = .ok (.aload_n 0, 1)) ?_
  refine q_iload_n C (by decide +kernel : decode cL_law 1023 = .ok (.iload_n 3, 1)) ?_
  refine q_iconst C (by decide +kernel : decode cL_law 1024 = .ok (.iconst 1, 1)) (by decide) ?_
  refine q_iadd C (by decide +kernel : decode cL_law 1025 = .ok (.iadd, 1)) ?_
  refine q_sld C hX hbl hbA (by decide +kernel : decode cL_law 1026 = .ok (.iaload, 1)) ?_
  refine q_call2 C (q_coV C (np := 1) (ci := 10) (rc := (RX10, TX10, 10)) (q_frame (t_X10_count l)) w9_628 rfl rfl w9_629 w9_630 w9_631 w9_1 (by decide +kernel) (by decide +kernel : decode cL_law 1027 = .ok (.invokevirtual 105, 3)) (by decide)) ?_
  refine q_aload_n C (by decide +kernel : decode cL_law 1030 = .ok (.aload_n 2, 1)) ?_
  refine q_aload_n C (by decide +kernel : decode cL_law 1031 = .ok (.aload_n 0, 1)) ?_
  refine q_iload_n C (by decide +kernel : decode cL_law 1032 = .ok (.iload_n 3, 1)) ?_
  refine q_iconst C (by decide +kernel : decode cL_law 1033 = .ok (.iconst 1, 1)) (by decide) ?_
  refine q_iadd C (by decide +kernel : decode cL_law 1034 = .ok (.iadd, 1)) ?_
  refine q_sld C hX hbl hbA (by decide +kernel : decode cL_law 1035 = .ok (.iaload, 1)) ?_
  refine q_call2 C (q_coV C (np := 1) (ci := 11) (rc := (RX11, TX11, 35)) (q_frame (t_X11_count l)) w9_632 rfl rfl w9_633 w9_634 w9_635 w9_6 (by decide +kernel) (by decide +kernel : decode cL_law 1036 = .ok (.invokevirtual 108, 3)) (by decide)) ?_
  refine q_iceq C (tgt := 1044) (by decide +kernel : decode cL_law 1039 = .ok (.if_icmp .eq 5, 3)) (by decide) ?_ ?_
  · exact v_L_law_1044 C hX hbl hbA hAs hK
  · refine q_iconst C (by decide +kernel : decode cL_law 1042 = .ok (.iconst 0, 1)) (by decide) ?_
    exact q_lret C hAs (by decide +kernel : decode cL_law 1043 = .ok (.ireturn, 1))
