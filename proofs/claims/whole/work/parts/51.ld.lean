-- blocks of the law
theorem w9_564 : (.code yX10_agree cX10_agree 5 (some .int) : Cond) ∈ lw_tbl := by decide +kernel
theorem w9_565 : (.methodLink RL 71 yX10_agree : Cond) ∈ lw_tbl := by decide +kernel
theorem w9_566 : (.instanceMethod yX10_agree : Cond) ∈ lw_tbl := by decide +kernel
theorem w9_567 : (.selects RX10 yX10_agree yX10_agree : Cond) ∈ lw_tbl := by decide +kernel
theorem w9_568 : (.code yX11_agree cX11_agree 5 (some .int) : Cond) ∈ lw_tbl := by decide +kernel
theorem w9_569 : (.methodLink RL 75 yX11_agree : Cond) ∈ lw_tbl := by decide +kernel
theorem w9_570 : (.instanceMethod yX11_agree : Cond) ∈ lw_tbl := by decide +kernel
theorem w9_571 : (.selects RX11 yX11_agree yX11_agree : Cond) ∈ lw_tbl := by decide +kernel
theorem w9_572 : (.code yX10_license cX10_license 7 (some .int) : Cond) ∈ lw_tbl := by decide +kernel
theorem w9_573 : (.methodLink RL 76 yX10_license : Cond) ∈ lw_tbl := by decide +kernel
theorem w9_574 : (.instanceMethod yX10_license : Cond) ∈ lw_tbl := by decide +kernel
theorem w9_575 : (.selects RX10 yX10_license yX10_license : Cond) ∈ lw_tbl := by decide +kernel
theorem w9_576 : (.code yX11_license cX11_license 6 (some .int) : Cond) ∈ lw_tbl := by decide +kernel
theorem w9_577 : (.methodLink RL 79 yX11_license : Cond) ∈ lw_tbl := by decide +kernel
theorem w9_578 : (.instanceMethod yX11_license : Cond) ∈ lw_tbl := by decide +kernel
theorem w9_579 : (.selects RX11 yX11_license yX11_license : Cond) ∈ lw_tbl := by decide +kernel
theorem w9_580 : (.code yX10_may cX10_may 7 (some .int) : Cond) ∈ lw_tbl := by decide +kernel
theorem w9_581 : (.methodLink RL 80 yX10_may : Cond) ∈ lw_tbl := by decide +kernel
theorem w9_582 : (.instanceMethod yX10_may : Cond) ∈ lw_tbl := by decide +kernel
theorem w9_583 : (.selects RX10 yX10_may yX10_may : Cond) ∈ lw_tbl := by decide +kernel
theorem w9_584 : (.code yX11_may cX11_may 8 (some .int) : Cond) ∈ lw_tbl := by decide +kernel
theorem w9_585 : (.methodLink RL 83 yX11_may : Cond) ∈ lw_tbl := by decide +kernel
theorem w9_586 : (.instanceMethod yX11_may : Cond) ∈ lw_tbl := by decide +kernel
theorem w9_587 : (.selects RX11 yX11_may yX11_may : Cond) ∈ lw_tbl := by decide +kernel
theorem w9_588 : (.code yX10_line cX10_line 4 (some .int) : Cond) ∈ lw_tbl := by decide +kernel
theorem w9_589 : (.methodLink RL 84 yX10_line : Cond) ∈ lw_tbl := by decide +kernel
theorem w9_590 : (.instanceMethod yX10_line : Cond) ∈ lw_tbl := by decide +kernel
theorem w9_591 : (.selects RX10 yX10_line yX10_line : Cond) ∈ lw_tbl := by decide +kernel
theorem w9_592 : (.code yX11_line cX11_line 3 (some .int) : Cond) ∈ lw_tbl := by decide +kernel
theorem w9_593 : (.methodLink RL 87 yX11_line : Cond) ∈ lw_tbl := by decide +kernel
theorem w9_594 : (.instanceMethod yX11_line : Cond) ∈ lw_tbl := by decide +kernel
theorem w9_595 : (.selects RX11 yX11_line yX11_line : Cond) ∈ lw_tbl := by decide +kernel
def k_L_law_676 (b n : Nat) (xs : Nat → Int32) (K : Nat → q_K) : q_K := (c_call4 (some 11) (q_fr s_X11_agree) 0 0 (c_iceq (k_L_law_1044 b n xs K) (c_push 0 c_lret)))
def k_L_law_649 (b n : Nat) (xs : Nat → Int32) (K : Nat → q_K) : q_K := (c_call4 (some 10) (q_fr s_X10_agree) 0 0 (c_aload 2 (c_aload 0 (c_iload 3 (c_push 1 (c_iadd (c_sld b n xs (c_aload 0 (c_iload 3 (c_push 2 (c_iadd (c_sld b n xs (c_aload 0 (c_iload 3 (c_push 3 (c_iadd (c_sld b n xs (c_ifeq (c_push 0 (k_L_law_676 b n xs K)) (c_push 1 (k_L_law_676 b n xs K))))))))))))))))))))
def k_L_law_625 (b n : Nat) (xs : Nat → Int32) (K : Nat → q_K) : q_K := (c_aload 1 (c_aload 0 (c_iload 3 (c_push 1 (c_iadd (c_sld b n xs (c_aload 0 (c_iload 3 (c_push 2 (c_iadd (c_sld b n xs (c_aload 0 (c_iload 3 (c_push 3 (c_iadd (c_sld b n xs (c_ifeq (c_push 0 (k_L_law_649 b n xs K)) (c_push 1 (k_L_law_649 b n xs K)))))))))))))))))))
def k_L_law_684 (b n : Nat) (xs : Nat → Int32) (K : Nat → q_K) : q_K := (c_aload 1 (c_aload 0 (c_iload 3 (c_push 1 (c_iadd (c_sld b n xs (c_aload 0 (c_iload 3 (c_push 2 (c_iadd (c_sld b n xs (c_aload 0 (c_iload 3 (c_push 3 (c_iadd (c_sld b n xs (c_aload 0 (c_iload 3 (c_push 4 (c_iadd (c_sld b n xs (c_aload 0 (c_iload 3 (c_push 5 (c_iadd (c_sld b n xs (c_call6 (some 10) (q_fr s_X10_license) 1 6 (c_aload 2 (c_aload 0 (c_iload 3 (c_push 1 (c_iadd (c_sld b n xs (c_aload 0 (c_iload 3 (c_push 2 (c_iadd (c_sld b n xs (c_aload 0 (c_iload 3 (c_push 3 (c_iadd (c_sld b n xs (c_aload 0 (c_iload 3 (c_push 4 (c_iadd (c_sld b n xs (c_aload 0 (c_iload 3 (c_push 5 (c_iadd (c_sld b n xs (c_call6 (some 11) (q_fr s_X11_license) 0 0 (c_iceq (k_L_law_1044 b n xs K) (c_push 0 c_lret))))))))))))))))))))))))))))))))))))))))))))))))))))))))
def k_L_law_747 (b n : Nat) (xs : Nat → Int32) (K : Nat → q_K) : q_K := (c_aload 1 (c_aload 0 (c_iload 3 (c_push 1 (c_iadd (c_sld b n xs (c_aload 0 (c_iload 3 (c_push 2 (c_iadd (c_sld b n xs (c_aload 0 (c_iload 3 (c_push 3 (c_iadd (c_sld b n xs (c_aload 0 (c_iload 3 (c_push 4 (c_iadd (c_sld b n xs (c_aload 0 (c_iload 3 (c_push 5 (c_iadd (c_sld b n xs (c_call6 (some 10) (q_fr s_X10_may) 0 0 (c_aload 2 (c_aload 0 (c_iload 3 (c_push 1 (c_iadd (c_sld b n xs (c_aload 0 (c_iload 3 (c_push 2 (c_iadd (c_sld b n xs (c_aload 0 (c_iload 3 (c_push 3 (c_iadd (c_sld b n xs (c_aload 0 (c_iload 3 (c_push 4 (c_iadd (c_sld b n xs (c_aload 0 (c_iload 3 (c_push 5 (c_iadd (c_sld b n xs (c_call6 (some 11) (q_fr s_X11_may) 0 0 (c_iceq (k_L_law_1044 b n xs K) (c_push 0 c_lret))))))))))))))))))))))))))))))))))))))))))))))))))))))))
def k_L_law_810 (b n : Nat) (xs : Nat → Int32) (K : Nat → q_K) : q_K := (c_aload 1 (c_aload 0 (c_iload 3 (c_push 1 (c_iadd (c_sld b n xs (c_aload 0 (c_iload 3 (c_push 2 (c_iadd (c_sld b n xs (c_call3 (some 10) (q_fr s_X10_line) 0 0 (c_aload 2 (c_aload 0 (c_iload 3 (c_push 1 (c_iadd (c_sld b n xs (c_aload 0 (c_iload 3 (c_push 2 (c_iadd (c_sld b n xs (c_call3 (some 11) (q_fr s_X11_line) 0 0 (c_iceq (k_L_law_1044 b n xs K) (c_push 0 c_lret))))))))))))))))))))))))))
set_option maxRecDepth 100000 in
theorem v_L_law_676 {p : Program} {l : Launch} {e : Env} {s : State} {m : MethodId} {below : List Frame} {meth : Method} {c : Code} {D : va_G} {A : Nat → Prop} {mn : String} {b n : Nat} {xs : Nat → Int32} {K : Nat → q_K} (C : q_C p s m #[Value.ref b] meth c cL_law 4 RL mn ret A) (hX : va_X b n xs s s.heap) (hbl : b < s.heap.size) (hbA : ¬ A b) (hAs : ∀ q, A q → s.heap.size ≤ q) (hK : ∀ h ∈ ([18] : List Nat), q_V p l e room_1 s m #[Value.ref b] below meth c D A 4 (lw_Z below #[Value.ref b] s) h (K h)) : q_V p l e room_1 s m #[Value.ref b] below meth c D A 4 (lw_Z below #[Value.ref b] s) 676 (k_L_law_676 b n xs K) := by
  unfold k_L_law_676
  refine q_call4 C (q_coV C (np := 3) (ci := 11) (rc := (RX11, TX11, 35)) (q_frame (t_X11_agree l)) w9_568 rfl rfl w9_569 w9_570 w9_571 w9_6 (by decide +kernel) (by decide +kernel : decode cL_law 676 = .ok (.invokevirtual 75, 3)) (by decide)) ?_
  refine q_iceq C (tgt := 1044) (by decide +kernel : decode cL_law 679 = .ok (.if_icmp .eq 365, 3)) (by decide) ?_ ?_
  · exact v_L_law_1044 C hX hbl hbA hAs hK
  · refine q_iconst C (by decide +kernel : decode cL_law 682 = .ok (.iconst 0, 1)) (by decide) ?_
    exact q_lret C hAs (by decide +kernel : decode cL_law 683 = .ok (.ireturn, 1))
set_option maxRecDepth 100000 in
theorem v_L_law_649 {p : Program} {l : Launch} {e : Env} {s : State} {m : MethodId} {below : List Frame} {meth : Method} {c : Code} {D : va_G} {A : Nat → Prop} {mn : String} {b n : Nat} {xs : Nat → Int32} {K : Nat → q_K} (C : q_C p s m #[Value.ref b] meth c cL_law 4 RL mn ret A) (hX : va_X b n xs s s.heap) (hbl : b < s.heap.size) (hbA : ¬ A b) (hAs : ∀ q, A q → s.heap.size ≤ q) (hK : ∀ h ∈ ([18] : List Nat), q_V p l e room_1 s m #[Value.ref b] below meth c D A 4 (lw_Z below #[Value.ref b] s) h (K h)) : q_V p l e room_1 s m #[Value.ref b] below meth c D A 4 (lw_Z below #[Value.ref b] s) 649 (k_L_law_649 b n xs K) := by
  unfold k_L_law_649
  refine q_call4 C (q_coV C (np := 3) (ci := 10) (rc := (RX10, TX10, 10)) (q_frame (t_X10_agree l)) w9_564 rfl rfl w9_565 w9_566 w9_567 w9_1 (by decide +kernel) (by decide +kernel : decode cL_law 649 = .ok (.invokevirtual 71, 3)) (by decide)) ?_
  refine q_aload_n C (by decide +kernel : decode cL_law 652 = .ok (.aload_n 2, 1)) ?_
  refine q_aload_n C (by decide +kernel : decode cL_law 653 = .ok (.aload_n 0, 1)) ?_
  refine q_iload_n C (by decide +kernel : decode cL_law 654 = .ok (.iload_n 3, 1)) ?_
  refine q_iconst C (by decide +kernel : decode cL_law 655 = .ok (.iconst 1, 1)) (by decide) ?_
  refine q_iadd C (by decide +kernel : decode cL_law 656 = .ok (.iadd, 1)) ?_
  refine q_sld C hX hbl hbA (by decide +kernel : decode cL_law 657 = .ok (.iaload, 1)) ?_
  refine q_aload_n C (by decide +kernel : decode cL_law 658 = .ok (.aload_n 0, 1)) ?_
  refine q_iload_n C (by decide +kernel : decode cL_law 659 = .ok (.iload_n 3, 1)) ?_
  refine q_iconst C (by decide +kernel : decode cL_law 660 = .ok (.iconst 2, 1)) (by decide) ?_
  refine q_iadd C (by decide +kernel : decode cL_law 661 = .ok (.iadd, 1)) ?_
  refine q_sld C hX hbl hbA (by decide +kernel : decode cL_law 662 = .ok (.iaload, 1)) ?_
  refine q_aload_n C (by decide +kernel : decode cL_law 663 = .ok (.aload_n 0, 1)) ?_
  refine q_iload_n C (by decide +kernel : decode cL_law 664 = .ok (.iload_n 3, 1)) ?_
  refine q_iconst C (by decide +kernel : decode cL_law 665 = .ok (.iconst 3, 1)) (by decide) ?_
  refine q_iadd C (by decide +kernel : decode cL_law 666 = .ok (.iadd, 1)) ?_
  refine q_sld C hX hbl hbA (by decide +kernel : decode cL_law 667 = .ok (.iaload, 1)) ?_
  refine q_ifeq C (tgt := 675) (by decide +kernel : decode cL_law 668 = .ok (.ifCond .eq 7, 3)) (by decide) ?_ ?_
  · refine q_iconst C (by decide +kernel : decode cL_law 675 = .ok (.iconst 0, 1)) (by decide) ?_
    exact v_L_law_676 C hX hbl hbA hAs hK
  · refine q_iconst C (by decide +kernel : decode cL_law 671 = .ok (.iconst 1, 1)) (by decide) ?_
    refine q_goto C (tgt := 676) (by decide +kernel : decode cL_law 672 = .ok (.goto 4, 3)) (by decide) ?_
    exact v_L_law_676 C hX hbl hbA hAs hK
set_option maxRecDepth 100000 in
theorem v_L_law_625 {p : Program} {l : Launch} {e : Env} {s : State} {m : MethodId} {below : List Frame} {meth : Method} {c : Code} {D : va_G} {A : Nat → Prop} {mn : String} {b n : Nat} {xs : Nat → Int32} {K : Nat → q_K} (C : q_C p s m #[Value.ref b] meth c cL_law 4 RL mn ret A) (hX : va_X b n xs s s.heap) (hbl : b < s.heap.size) (hbA : ¬ A b) (hAs : ∀ q, A q → s.heap.size ≤ q) (hK : ∀ h ∈ ([18] : List Nat), q_V p l e room_1 s m #[Value.ref b] below meth c D A 4 (lw_Z below #[Value.ref b] s) h (K h)) : q_V p l e room_1 s m #[Value.ref b] below meth c D A 4 (lw_Z below #[Value.ref b] s) 625 (k_L_law_625 b n xs K) := by
  unfold k_L_law_625
  refine q_aload_n C (by decide +kernel : decode cL_law 625 = .ok (.aload_n 1, 1)) ?_
  refine q_aload_n C (by decide +kernel : decode cL_law 626 = .ok (.aload_n 0, 1)) ?_
  refine q_iload_n C (by decide +kernel : decode cL_law 627 = .ok (.iload_n 3, 1)) ?_
  refine q_iconst C (by decide +kernel : decode cL_law 628 = .ok (.iconst 1, 1)) (by decide) ?_
  refine q_iadd C (by decide +kernel : decode cL_law 629 = .ok (.iadd, 1)) ?_
  refine q_sld C hX hbl hbA (by decide +kernel : decode cL_law 630 = .ok (.iaload, 1)) ?_
  refine q_aload_n C (by decide +kernel : decode cL_law 631 = .ok (.aload_n 0, 1)) ?_
  refine q_iload_n C (by decide +kernel : decode cL_law 632 = .ok (.iload_n 3, 1)) ?_
  refine q_iconst C (by decide +kernel : decode cL_law 633 = .ok (.iconst 2, 1)) (by decide) ?_
  refine q_iadd C (by decide +kernel : decode cL_law 634 = .ok (.iadd, 1)) ?_
  refine q_sld C hX hbl hbA (by decide +kernel : decode cL_law 635 = .ok (.iaload, 1)) ?_
  refine q_aload_n C (by decide +kernel : decode cL_law 636 = .ok (.aload_n 0, 1)) ?_
  refine q_iload_n C (by decide +kernel : decode cL_law 637 = .ok (.iload_n 3, 1)) ?_
  refine q_iconst C (by decide +kernel : decode cL_law 638 = .ok (.iconst 3, 1)) (by decide) ?_
  refine q_iadd C (by decide +kernel : decode cL_law 639 = .ok (.iadd, 1)) ?_
  refine q_sld C hX hbl hbA (by decide +kernel : decode cL_law 640 = .ok (.iaload, 1)) ?_
  refine q_ifeq C (tgt := 648) (by decide +kernel : decode cL_law 641 = .ok (.ifCond .eq 7, 3)) (by decide) ?_ ?_
  · refine q_iconst C (by decide +kernel : decode cL_law 648 = .ok (.iconst 0, 1)) (by decide) ?_
    exact v_L_law_649 C hX hbl hbA hAs hK
  · refine q_iconst C (by decide +kernel : decode cL_law 644 = .ok (.iconst 1, 1)) (by decide) ?_
    refine q_goto C (tgt := 649) (by decide +kernel : decode cL_law 645 = .ok (.goto 4, 3)) (by decide) ?_
    exact v_L_law_649 C hX hbl hbA hAs hK
set_option maxRecDepth 100000 in
theorem v_L_law_684 {p : Program} {l : Launch} {e : Env} {s : State} {m : MethodId} {below : List Frame} {meth : Method} {c : Code} {D : va_G} {A : Nat → Prop} {mn : String} {b n : Nat} {xs : Nat → Int32} {K : Nat → q_K} (C : q_C p s m #[Value.ref b] meth c cL_law 4 RL mn ret A) (hX : va_X b n xs s s.heap) (hbl : b < s.heap.size) (hbA : ¬ A b) (hAs : ∀ q, A q → s.heap.size ≤ q) (hK : ∀ h ∈ ([18] : List Nat), q_V p l e room_1 s m #[Value.ref b] below meth c D A 4 (lw_Z below #[Value.ref b] s) h (K h)) : q_V p l e room_1 s m #[Value.ref b] below meth c D A 4 (lw_Z below #[Value.ref b] s) 684 (k_L_law_684 b n xs K) := by
  unfold k_L_law_684
  refine q_aload_n C (by decide +kernel : decode cL_law 684 = .ok (.aload_n 1, 1)) ?_
  refine q_aload_n C (by decide +kernel : decode cL_law 685 = .ok (.aload_n 0, 1)) ?_
  refine q_iload_n C (by decide +kernel : decode cL_law 686 = .ok (.iload_n 3, 1)) ?_
  refine q_iconst C (by decide +kernel : decode cL_law 687 = .ok (.iconst 1, 1)) (by decide) ?_
  refine q_iadd C (by decide +kernel : decode cL_law 688 = .ok (.iadd, 1)) ?_
  refine q_sld C hX hbl hbA (by decide +kernel : decode cL_law 689 = .ok (.iaload, 1)) ?_
  refine q_aload_n C (by decide +kernel : decode cL_law 690 = .ok (.aload_n 0, 1)) ?_
  refine q_iload_n C (by decide +kernel : decode cL_law 691 = .ok (.iload_n 3, 1)) ?_
  refine q_iconst C (by decide +kernel : decode cL_law 692 = .ok (.iconst 2, 1)) (by decide) ?_
  refine q_iadd C (by decide +kernel : decode cL_law 693 = .ok (.iadd, 1)) ?_
  refine q_sld C hX hbl hbA (by decide +kernel : decode cL_law 694 = .ok (.iaload, 1)) ?_
  refine q_aload_n C (by decide +kernel : decode cL_law 695 = .ok (.aload_n 0, 1)) ?_
  refine q_iload_n C (by decide +kernel : decode cL_law 696 = .ok (.iload_n 3, 1)) ?_
  refine q_iconst C (by decide +kernel : decode cL_law 697 = .ok (.iconst 3, 1)) (by decide) ?_
  refine q_iadd C (by decide +kernel : decode cL_law 698 = .ok (.iadd, 1)) ?_
  refine q_sld C hX hbl hbA (by decide +kernel : decode cL_law 699 = .ok (.iaload, 1)) ?_
  refine q_aload_n C (by decide +kernel : decode cL_law 700 = .ok (.aload_n 0, 1)) ?_
  refine q_iload_n C (by decide +kernel : decode cL_law 701 = .ok (.iload_n 3, 1)) ?_
  refine q_iconst C (by decide +kernel : decode cL_law 702 = .ok (.iconst 4, 1)) (by decide) ?_
  refine q_iadd C (by decide +kernel : decode cL_law 703 = .ok (.iadd, 1)) ?_
  refine q_sld C hX hbl hbA (by decide +kernel : decode cL_law 704 = .ok (.iaload, 1)) ?_
  refine q_aload_n C (by decide +kernel : decode cL_law 705 = .ok (.aload_n 0, 1)) ?_
  refine q_iload_n C (by decide +kernel : decode cL_law 706 = .ok (.iload_n 3, 1)) ?_
  refine q_iconst C (by decide +kernel : decode cL_law 707 = .ok (.iconst 5, 1)) (by decide) ?_
  refine q_iadd C (by decide +kernel : decode cL_law 708 = .ok (.iadd, 1)) ?_
  refine q_sld C hX hbl hbA (by decide +kernel : decode cL_law 709 = .ok (.iaload, 1)) ?_
  refine q_call6 C (q_coV C (np := 5) (ci := 10) (rc := (RX10, TX10, 10)) (q_frame (t_X10_license l)) w9_572 rfl rfl w9_573 w9_574 w9_575 w9_1 (by decide +kernel) (by decide +kernel : decode cL_law 710 = .ok (.invokevirtual 76, 3)) (by decide)) ?_
  refine q_aload_n C (by decide +kernel : decode cL_law 713 = .ok (.aload_n 2, 1)) ?_
  refine q_aload_n C (by decide +kernel : decode cL_law 714 = .ok (.aload_n 0, 1)) ?_
  refine q_iload_n C (by decide +kernel : decode cL_law 715 = .ok (.iload_n 3, 1)) ?_
  refine q_iconst C (by decide +kernel : decode cL_law 716 = .ok (.iconst 1, 1)) (by decide) ?_
  refine q_iadd C (by decide +kernel : decode cL_law 717 = .ok (.iadd, 1)) ?_
  refine q_sld C hX hbl hbA (by decide +kernel : decode cL_law 718 = .ok (.iaload, 1)) ?_
  refine q_aload_n C (by decide +kernel : decode cL_law 719 = .ok (.aload_n 0, 1)) ?_
  refine q_iload_n C (by decide +kernel : decode cL_law 720 = .ok (.iload_n 3, 1)) ?_
  refine q_iconst C (by decide +kernel : decode cL_law 721 = .ok (.iconst 2, 1)) (by decide) ?_
  refine q_iadd C (by decide +kernel : decode cL_law 722 = .ok (.iadd, 1)) ?_
  refine q_sld C hX hbl hbA (by decide +kernel : decode cL_law 723 = .ok (.iaload, 1)) ?_
  refine q_aload_n C (by decide +kernel : decode cL_law 724 = .ok (.aload_n 0, 1)) ?_
  refine q_iload_n C (by decide +kernel : decode cL_law 725 = .ok (.iload_n 3, 1)) ?_
  refine q_iconst C (by decide +kernel : decode cL_law 726 = .ok (.iconst 3, 1)) (by decide) ?_
  refine q_iadd C (by decide +kernel : decode cL_law 727 = .ok (.iadd, 1)) ?_
  refine q_sld C hX hbl hbA (by decide +kernel : decode cL_law 728 = .ok (.iaload, 1)) ?_
  refine q_aload_n C (by decide +kernel : decode cL_law 729 = .ok (.aload_n 0, 1)) ?_
  refine q_iload_n C (by decide +kernel : decode cL_law 730 = .ok (.iload_n 3, 1)) ?_
  refine q_iconst C (by decide +kernel : decode cL_law 731 = .ok (.iconst 4, 1)) (by decide) ?_
  refine q_iadd C (by decide +kernel : decode cL_law 732 = .ok (.iadd, 1)) ?_
  refine q_sld C hX hbl hbA (by decide +kernel : decode cL_law 733 = .ok (.iaload, 1)) ?_
  refine q_aload_n C (by decide +kernel : decode cL_law 734 = .ok (.aload_n 0, 1)) ?_
  refine q_iload_n C (by decide +kernel : decode cL_law 735 = .ok (.iload_n 3, 1)) ?_
  refine q_iconst C (by decide +kernel : decode cL_law 736 = .ok (.iconst 5, 1)) (by decide) ?_
  refine q_iadd C (by decide +kernel : decode cL_law 737 = .ok (.iadd, 1)) ?_
  refine q_sld C hX hbl hbA (by decide +kernel : decode cL_law 738 = .ok (.iaload, 1)) ?_
  refine q_call6 C (q_coV C (np := 5) (ci := 11) (rc := (RX11, TX11, 35)) (q_frame (t_X11_license l)) w9_576 rfl rfl w9_577 w9_578 w9_579 w9_6 (by decide +kernel) (by decide +kernel : decode cL_law 739 = .ok (.invokevirtual 79, 3)) (by decide)) ?_
  refine q_iceq C (tgt := 1044) (by decide +kernel : decode cL_law 742 = .ok (.if_icmp .eq 302, 3)) (by decide) ?_ ?_
  · exact v_L_law_1044 C hX hbl hbA hAs hK
  · refine q_iconst C (by decide +kernel : decode cL_law 745 = .ok (.iconst 0, 1)) (by decide) ?_
    exact q_lret C hAs (by decide +kernel : decode cL_law 746 = .ok (.ireturn, 1))
set_option maxRecDepth 100000 in
theorem v_L_law_747 {p : Program} {l : Launch} {e : Env} {s : State} {m : MethodId} {below : List Frame} {meth : Method} {c : Code} {D : va_G} {A : Nat → Prop} {mn : String} {b n : Nat} {xs : Nat → Int32} {K : Nat → q_K} (C : q_C p s m #[Value.ref b] meth c cL_law 4 RL mn ret A) (hX : va_X b n xs s s.heap) (hbl : b < s.heap.size) (hbA : ¬ A b) (hAs : ∀ q, A q → s.heap.size ≤ q) (hK : ∀ h ∈ ([18] : List Nat), q_V p l e room_1 s m #[Value.ref b] below meth c D A 4 (lw_Z below #[Value.ref b] s) h (K h)) : q_V p l e room_1 s m #[Value.ref b] below meth c D A 4 (lw_Z below #[Value.ref b] s) 747 (k_L_law_747 b n xs K) := by
  unfold k_L_law_747
  refine q_aload_n C (by decide +kernel : decode cL_law 747 = .ok (.aload_n 1, 1)) ?_
  refine q_aload_n C (by decide +kernel : decode cL_law 748 = .ok (.aload_n 0, 1)) ?_
  refine q_iload_n C (by decide +kernel : decode cL_law 749 = .ok (.iload_n 3, 1)) ?_
  refine q_iconst C (by decide +kernel : decode cL_law 750 = .ok (.iconst 1, 1)) (by decide) ?_
  refine q_iadd C (by decide +kernel : decode cL_law 751 = .ok (.iadd, 1)) ?_
  refine q_sld C hX hbl hbA (by decide +kernel : decode cL_law 752 = .ok (.iaload, 1)) ?_
  refine q_aload_n C (by decide +kernel : decode cL_law 753 = .ok (.aload_n 0, 1)) ?_
  refine q_iload_n C (by decide +kernel : decode cL_law 754 = .ok (.iload_n 3, 1)) ?_
  refine q_iconst C (by decide +kernel : decode cL_law 755 = .ok (.iconst 2, 1)) (by decide) ?_
  refine q_iadd C (by decide +kernel : decode cL_law 756 = .ok (.iadd, 1)) ?_
  refine q_sld C hX hbl hbA (by decide +kernel : decode cL_law 757 = .ok (.iaload, 1)) ?_
  refine q_aload_n C (by decide +kernel : decode cL_law 758 = .ok (.aload_n 0, 1)) ?_
  refine q_iload_n C (by decide +kernel : decode cL_law 759 = .ok (.iload_n 3, 1)) ?_
  refine q_iconst C (by decide +kernel : decode cL_law 760 = .ok (.iconst 3, 1)) (by decide) ?_
  refine q_iadd C (by decide +kernel : decode cL_law 761 = .ok (.iadd, 1)) ?_
  refine q_sld C hX hbl hbA (by decide +kernel : decode cL_law 762 = .ok (.iaload, 1)) ?_
  refine q_aload_n C (by decide +kernel : decode cL_law 763 = .ok (.aload_n 0, 1)) ?_
  refine q_iload_n C (by decide +kernel : decode cL_law 764 = .ok (.iload_n 3, 1)) ?_
  refine q_iconst C (by decide +kernel : decode cL_law 765 = .ok (.iconst 4, 1)) (by decide) ?_
  refine q_iadd C (by decide +kernel : decode cL_law 766 = .ok (.iadd, 1)) ?_
  refine q_sld C hX hbl hbA (by decide +kernel : decode cL_law 767 = .ok (.iaload, 1)) ?_
  refine q_aload_n C (by decide +kernel : decode cL_law 768 = .ok (.aload_n 0, 1)) ?_
  refine q_iload_n C (by decide +kernel : decode cL_law 769 = .ok (.iload_n 3, 1)) ?_
  refine q_iconst C (by decide +kernel : decode cL_law 770 = .ok (.iconst 5, 1)) (by decide) ?_
  refine q_iadd C (by decide +kernel : decode cL_law 771 = .ok (.iadd, 1)) ?_
  refine q_sld C hX hbl hbA (by decide +kernel : decode cL_law 772 = .ok (.iaload, 1)) ?_
  refine q_call6 C (q_coV C (np := 5) (ci := 10) (rc := (RX10, TX10, 10)) (q_frame (t_X10_may l)) w9_580 rfl rfl w9_581 w9_582 w9_583 w9_1 (by decide +kernel) (by decide +kernel : decode cL_law 773 = .ok (.invokevirtual 80, 3)) (by decide)) ?_
  refine q_aload_n C (by decide +kernel : decode cL_law 776 = .ok (.aload_n 2, 1)) ?_
  refine q_aload_n C (by decide +kernel : decode cL_law 777 = .ok (.aload_n 0, 1)) ?_
  refine q_iload_n C (by decide +kernel : decode cL_law 778 = .ok (.iload_n 3, 1)) ?_
  refine q_iconst C (by decide +kernel : decode cL_law 779 = .ok (.iconst 1, 1)) (by decide) ?_
  refine q_iadd C (by decide +kernel : decode cL_law 780 = .ok (.iadd, 1)) ?_
  refine q_sld C hX hbl hbA (by decide +kernel : decode cL_law 781 = .ok (.iaload, 1)) ?_
  refine q_aload_n C (by decide +kernel : decode cL_law 782 = .ok (.aload_n 0, 1)) ?_
  refine q_iload_n C (by decide +kernel : decode cL_law 783 = .ok (.iload_n 3, 1)) ?_
  refine q_iconst C (by decide +kernel : decode cL_law 784 = .ok (.iconst 2, 1)) (by decide) ?_
  refine q_iadd C (by decide +kernel : decode cL_law 785 = .ok (.iadd, 1)) ?_
  refine q_sld C hX hbl hbA (by decide +kernel : decode cL_law 786 = .ok (.iaload, 1)) ?_
  refine q_aload_n C (by decide +kernel : decode cL_law 787 = .ok (.aload_n 0, 1)) ?_
  refine q_iload_n C (by decide +kernel : decode cL_law 788 = .ok (.iload_n 3, 1)) ?_
  refine q_iconst C (by decide +kernel : decode cL_law 789 = .ok (.iconst 3, 1)) (by decide) ?_
  refine q_iadd C (by decide +kernel : decode cL_law 790 = .ok (.iadd, 1)) ?_
  refine q_sld C hX hbl hbA (by decide +kernel : decode cL_law 791 = .ok (.iaload, 1)) ?_
  refine q_aload_n C (by decide +kernel : decode cL_law 792 = .ok (.aload_n 0, 1)) ?_
  refine q_iload_n C (by decide +kernel : decode cL_law 793 = .ok (.iload_n 3, 1)) ?_
  refine q_iconst C (by decide +kernel : decode cL_law 794 = .ok (.iconst 4, 1)) (by decide) ?_
  refine q_iadd C (by decide +kernel : decode cL_law 795 = .ok (.iadd, 1)) ?_
  refine q_sld C hX hbl hbA (by decide +kernel : decode cL_law 796 = .ok (.iaload, 1)) ?_
  refine q_aload_n C (by decide +kernel : decode cL_law 797 = .ok (.aload_n 0, 1)) ?_
  refine q_iload_n C (by decide +kernel : decode cL_law 798 = .ok (.iload_n 3, 1)) ?_
  refine q_iconst C (by decide +kernel : decode cL_law 799 = .ok (.iconst 5, 1)) (by decide) ?_
  refine q_iadd C (by decide +kernel : decode cL_law 800 = .ok (.iadd, 1)) ?_
  refine q_sld C hX hbl hbA (by decide +kernel : decode cL_law 801 = .ok (.iaload, 1)) ?_
  refine q_call6 C (q_coV C (np := 5) (ci := 11) (rc := (RX11, TX11, 35)) (q_frame (t_X11_may l)) w9_584 rfl rfl w9_585 w9_586 w9_587 w9_6 (by decide +kernel) (by decide +kernel : decode cL_law 802 = .ok (.invokevirtual 83, 3)) (by decide)) ?_
  refine q_iceq C (tgt := 1044) (by decide +kernel : decode cL_law 805 = .ok (.if_icmp .eq 239, 3)) (by decide) ?_ ?_
  · exact v_L_law_1044 C hX hbl hbA hAs hK
  · refine q_iconst C (by decide +kernel : decode cL_law 808 = .ok (.iconst 0, 1)) (by decide) ?_
    exact q_lret C hAs (by decide +kernel : decode cL_law 809 = .ok (.ireturn, 1))
set_option maxRecDepth 100000 in
theorem v_L_law_810 {p : Program} {l : Launch} {e : Env} {s : State} {m : MethodId} {below : List Frame} {meth : Method} {c : Code} {D : va_G} {A : Nat → Prop} {mn : String} {b n : Nat} {xs : Nat → Int32} {K : Nat → q_K} (C : q_C p s m #[Value.ref b] meth c cL_law 4 RL mn ret A) (hX : va_X b n xs s s.heap) (hbl : b < s.heap.size) (hbA : ¬ A b) (hAs : ∀ q, A q → s.heap.size ≤ q) (hK : ∀ h ∈ ([18] : List Nat), q_V p l e room_1 s m #[Value.ref b] below meth c D A 4 (lw_Z below #[Value.ref b] s) h (K h)) : q_V p l e room_1 s m #[Value.ref b] below meth c D A 4 (lw_Z below #[Value.ref b] s) 810 (k_L_law_810 b n xs K) := by
  unfold k_L_law_810
  refine q_aload_n C (by decide +kernel : decode cL_law 810 = .ok (.aload_n 1, 1)) ?_
  refine q_aload_n C (by decide +kernel : decode cL_law 811 = .ok (.aload_n 0, 1)) ?_
  refine q_iload_n C (by decide +kernel : decode cL_law 812 = .ok (.iload_n 3, 1)) ?_
  refine q_iconst C (by decide +kernel : decode cL_law 813 = .ok (.iconst 1, 1)) (by decide) ?_
  refine q_iadd C (by decide +kernel : decode cL_law 814 = .ok (.iadd, 1)) ?_
  refine q_sld C hX hbl hbA (by decide +kernel : decode cL_law 815 = .ok (.iaload, 1)) ?_
  refine q_aload_n C (by decide +kernel : decode cL_law 816 = .ok (.aload_n 0, 1)) ?_
  refine q_iload_n C (by decide +kernel : decode cL_law 817 = .ok (.iload_n 3, 1)) ?_
  refine q_iconst C (by decide +kernel : decode cL_law 818 = .ok (.iconst 2, 1)) (by decide) ?_
  refine q_iadd C (by decide +kernel : decode cL_law 819 = .ok (.iadd, 1)) ?_
  refine q_sld C hX hbl hbA (by decide +kernel : decode cL_law 820 = .ok (.iaload, 1)) ?_
  refine q_call3 C (q_coV C (np := 2) (ci := 10) (rc := (RX10, TX10, 10)) (q_frame (t_X10_line l)) w9_588 rfl rfl w9_589 w9_590 w9_591 w9_1 (by decide +kernel) (by decide +kernel : decode cL_law 821 = .ok (.invokevirtual 84, 3)) (by decide)) ?_
  refine q_aload_n C (by decide +kernel : decode cL_law 824 = .ok (.aload_n 2, 1)) ?_
  refine q_aload_n C (by decide +kernel : decode cL_law 825 = .ok (.aload_n 0, 1)) ?_
  refine q_iload_n C (by decide +kernel : decode cL_law 826 = .ok (.iload_n 3, 1)) ?_
  refine q_iconst C (by decide +kernel : decode cL_law 827 = .ok (.iconst 1, 1)) (by decide) ?_
  refine q_iadd C (by decide +kernel : decode cL_law 828 = .ok (.iadd, 1)) ?_
  refine q_sld C hX hbl hbA (by decide +kernel : decode cL_law 829 = .ok (.iaload, 1)) ?_
  refine q_aload_n C (by decide +kernel : decode cL_law 830 = .ok (.aload_n 0, 1)) ?_
  refine q_iload_n C (by decide +kernel : decode cL_law 831 = .ok (.iload_n 3, 1)) ?_
  refine q_iconst C (by decide +kernel : decode cL_law 832 = .ok (.iconst 2, 1)) (by decide) ?_
  refine q_iadd C (by decide +kernel : decode cL_law 833 = .ok (.iadd, 1)) ?_
  refine q_sld C hX hbl hbA (by decide +kernel : decode cL_law 834 = .ok (.iaload, 1)) ?_
  refine q_call3 C (q_coV C (np := 2) (ci := 11) (rc := (RX11, TX11, 35)) (q_frame (t_X11_line l)) w9_592 rfl rfl w9_593 w9_594 w9_595 w9_6 (by decide +kernel) (by decide +kernel : decode cL_law 835 = .ok (.invokevirtual 87, 3)) (by decide)) ?_
  refine q_iceq C (tgt := 1044) (by decide +kernel : decode cL_law 838 = .ok (.if_icmp .eq 206, 3)) (by decide) ?_ ?_
  · exact v_L_law_1044 C hX hbl hbA hAs hK
  · refine q_iconst C (by decide +kernel : decode cL_law 841 = .ok (.iconst 0, 1)) (by decide) ?_
    exact q_lret C hAs (by decide +kernel : decode cL_law 842 = .ok (.ireturn, 1))
