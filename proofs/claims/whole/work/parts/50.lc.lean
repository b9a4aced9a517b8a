-- blocks of the law
theorem w9_508 : (.code yX10_work cX10_work 3 (some .int) : Cond) ∈ lw_tbl := by decide +kernel
theorem w9_509 : (.methodLink RL 41 yX10_work : Cond) ∈ lw_tbl := by decide +kernel
theorem w9_510 : (.instanceMethod yX10_work : Cond) ∈ lw_tbl := by decide +kernel
theorem w9_511 : (.selects RX10 yX10_work yX10_work : Cond) ∈ lw_tbl := by decide +kernel
theorem w9_512 : (.code yX11_work cX11_work 2 (some .int) : Cond) ∈ lw_tbl := by decide +kernel
theorem w9_513 : (.methodLink RL 44 yX11_work : Cond) ∈ lw_tbl := by decide +kernel
theorem w9_514 : (.instanceMethod yX11_work : Cond) ∈ lw_tbl := by decide +kernel
theorem w9_515 : (.selects RX11 yX11_work yX11_work : Cond) ∈ lw_tbl := by decide +kernel
theorem w9_516 : (.code yX10_end cX10_end 5 (some .int) : Cond) ∈ lw_tbl := by decide +kernel
theorem w9_517 : (.methodLink RL 45 yX10_end : Cond) ∈ lw_tbl := by decide +kernel
theorem w9_518 : (.instanceMethod yX10_end : Cond) ∈ lw_tbl := by decide +kernel
theorem w9_519 : (.selects RX10 yX10_end yX10_end : Cond) ∈ lw_tbl := by decide +kernel
theorem w9_520 : (.code yX11_end cX11_end 4 (some .int) : Cond) ∈ lw_tbl := by decide +kernel
theorem w9_521 : (.methodLink RL 48 yX11_end : Cond) ∈ lw_tbl := by decide +kernel
theorem w9_522 : (.instanceMethod yX11_end : Cond) ∈ lw_tbl := by decide +kernel
theorem w9_523 : (.selects RX11 yX11_end yX11_end : Cond) ∈ lw_tbl := by decide +kernel
theorem w9_524 : (.code yX10_inRight cX10_inRight 5 (some .int) : Cond) ∈ lw_tbl := by decide +kernel
theorem w9_525 : (.methodLink RL 49 yX10_inRight : Cond) ∈ lw_tbl := by decide +kernel
theorem w9_526 : (.instanceMethod yX10_inRight : Cond) ∈ lw_tbl := by decide +kernel
theorem w9_527 : (.selects RX10 yX10_inRight yX10_inRight : Cond) ∈ lw_tbl := by decide +kernel
theorem w9_528 : (.code yX11_inRight cX11_inRight 4 (some .int) : Cond) ∈ lw_tbl := by decide +kernel
theorem w9_529 : (.methodLink RL 53 yX11_inRight : Cond) ∈ lw_tbl := by decide +kernel
theorem w9_530 : (.instanceMethod yX11_inRight : Cond) ∈ lw_tbl := by decide +kernel
theorem w9_531 : (.selects RX11 yX11_inRight yX11_inRight : Cond) ∈ lw_tbl := by decide +kernel
theorem w9_532 : (.code yX10_sell cX10_sell 7 (some .int) : Cond) ∈ lw_tbl := by decide +kernel
theorem w9_533 : (.methodLink RL 54 yX10_sell : Cond) ∈ lw_tbl := by decide +kernel
theorem w9_534 : (.instanceMethod yX10_sell : Cond) ∈ lw_tbl := by decide +kernel
theorem w9_535 : (.selects RX10 yX10_sell yX10_sell : Cond) ∈ lw_tbl := by decide +kernel
theorem w9_536 : (.code yX11_sell cX11_sell 5 (some .int) : Cond) ∈ lw_tbl := by decide +kernel
theorem w9_537 : (.methodLink RL 58 yX11_sell : Cond) ∈ lw_tbl := by decide +kernel
theorem w9_538 : (.instanceMethod yX11_sell : Cond) ∈ lw_tbl := by decide +kernel
theorem w9_539 : (.selects RX11 yX11_sell yX11_sell : Cond) ∈ lw_tbl := by decide +kernel
theorem w9_540 : (.code yX10_pledge cX10_pledge 6 (some .int) : Cond) ∈ lw_tbl := by decide +kernel
theorem w9_541 : (.methodLink RL 59 yX10_pledge : Cond) ∈ lw_tbl := by decide +kernel
theorem w9_542 : (.instanceMethod yX10_pledge : Cond) ∈ lw_tbl := by decide +kernel
theorem w9_543 : (.selects RX10 yX10_pledge yX10_pledge : Cond) ∈ lw_tbl := by decide +kernel
theorem w9_544 : (.code yX11_pledge cX11_pledge 5 (some .int) : Cond) ∈ lw_tbl := by decide +kernel
theorem w9_545 : (.methodLink RL 62 yX11_pledge : Cond) ∈ lw_tbl := by decide +kernel
theorem w9_546 : (.instanceMethod yX11_pledge : Cond) ∈ lw_tbl := by decide +kernel
theorem w9_547 : (.selects RX11 yX11_pledge yX11_pledge : Cond) ∈ lw_tbl := by decide +kernel
theorem w9_548 : (.code yX10_redeem cX10_redeem 6 (some .int) : Cond) ∈ lw_tbl := by decide +kernel
theorem w9_549 : (.methodLink RL 63 yX10_redeem : Cond) ∈ lw_tbl := by decide +kernel
theorem w9_550 : (.instanceMethod yX10_redeem : Cond) ∈ lw_tbl := by decide +kernel
theorem w9_551 : (.selects RX10 yX10_redeem yX10_redeem : Cond) ∈ lw_tbl := by decide +kernel
theorem w9_552 : (.code yX11_redeem cX11_redeem 6 (some .int) : Cond) ∈ lw_tbl := by decide +kernel
theorem w9_553 : (.methodLink RL 66 yX11_redeem : Cond) ∈ lw_tbl := by decide +kernel
theorem w9_554 : (.instanceMethod yX11_redeem : Cond) ∈ lw_tbl := by decide +kernel
theorem w9_555 : (.selects RX11 yX11_redeem yX11_redeem : Cond) ∈ lw_tbl := by decide +kernel
theorem w9_556 : (.code yX10_held cX10_held 5 (some .int) : Cond) ∈ lw_tbl := by decide +kernel
theorem w9_557 : (.methodLink RL 67 yX10_held : Cond) ∈ lw_tbl := by decide +kernel
theorem w9_558 : (.instanceMethod yX10_held : Cond) ∈ lw_tbl := by decide +kernel
theorem w9_559 : (.selects RX10 yX10_held yX10_held : Cond) ∈ lw_tbl := by decide +kernel
theorem w9_560 : (.code yX11_held cX11_held 4 (some .int) : Cond) ∈ lw_tbl := by decide +kernel
theorem w9_561 : (.methodLink RL 70 yX11_held : Cond) ∈ lw_tbl := by decide +kernel
theorem w9_562 : (.instanceMethod yX11_held : Cond) ∈ lw_tbl := by decide +kernel
theorem w9_563 : (.selects RX11 yX11_held yX11_held : Cond) ∈ lw_tbl := by decide +kernel
def k_L_law_334 (b n : Nat) (xs : Nat → Int32) (K : Nat → q_K) : q_K := (c_aload 1 (c_aload 0 (c_iload 3 (c_push 1 (c_iadd (c_sld b n xs (c_call2 (some 10) (q_fr s_X10_work) 20 213 (c_aload 2 (c_aload 0 (c_iload 3 (c_push 1 (c_iadd (c_sld b n xs (c_call2 (some 11) (q_fr s_X11_work) 0 0 (c_iceq (k_L_law_1044 b n xs K) (c_push 0 c_lret))))))))))))))))
def k_L_law_357 (b n : Nat) (xs : Nat → Int32) (K : Nat → q_K) : q_K := (c_aload 1 (c_aload 0 (c_iload 3 (c_push 1 (c_iadd (c_sld b n xs (c_aload 0 (c_iload 3 (c_push 2 (c_iadd (c_sld b n xs (c_call3 (some 10) (q_fr s_X10_end) 0 0 (c_aload 2 (c_aload 0 (c_iload 3 (c_push 1 (c_iadd (c_sld b n xs (c_aload 0 (c_iload 3 (c_push 2 (c_iadd (c_sld b n xs (c_call3 (some 11) (q_fr s_X11_end) 0 0 (c_iceq (k_L_law_1044 b n xs K) (c_push 0 c_lret))))))))))))))))))))))))))
def k_L_law_390 (b n : Nat) (xs : Nat → Int32) (K : Nat → q_K) : q_K := (c_aload 1 (c_aload 0 (c_iload 3 (c_push 1 (c_iadd (c_sld b n xs (c_aload 0 (c_iload 3 (c_push 2 (c_iadd (c_sld b n xs (c_aload 0 (c_iload 3 (c_push 3 (c_iadd (c_sld b n xs (c_call4 (some 10) (q_fr s_X10_inRight) 0 0 (c_aload 2 (c_aload 0 (c_iload 3 (c_push 1 (c_iadd (c_sld b n xs (c_aload 0 (c_iload 3 (c_push 2 (c_iadd (c_sld b n xs (c_aload 0 (c_iload 3 (c_push 3 (c_iadd (c_sld b n xs (c_call4 (some 11) (q_fr s_X11_inRight) 0 0 (c_iceq (k_L_law_1044 b n xs K) (c_push 0 c_lret))))))))))))))))))))))))))))))))))))
def k_L_law_433 (b n : Nat) (xs : Nat → Int32) (K : Nat → q_K) : q_K := (c_aload 1 (c_aload 0 (c_iload 3 (c_push 1 (c_iadd (c_sld b n xs (c_aload 0 (c_iload 3 (c_push 2 (c_iadd (c_sld b n xs (c_aload 0 (c_iload 3 (c_push 3 (c_iadd (c_sld b n xs (c_aload 0 (c_iload 3 (c_push 4 (c_iadd (c_sld b n xs (c_call5 (some 10) (q_fr s_X10_sell) 2 16 (c_aload 2 (c_aload 0 (c_iload 3 (c_push 1 (c_iadd (c_sld b n xs (c_aload 0 (c_iload 3 (c_push 2 (c_iadd (c_sld b n xs (c_aload 0 (c_iload 3 (c_push 3 (c_iadd (c_sld b n xs (c_aload 0 (c_iload 3 (c_push 4 (c_iadd (c_sld b n xs (c_call5 (some 11) (q_fr s_X11_sell) 0 0 (c_iceq (k_L_law_1044 b n xs K) (c_push 0 c_lret))))))))))))))))))))))))))))))))))))))))))))))
def k_L_law_486 (b n : Nat) (xs : Nat → Int32) (K : Nat → q_K) : q_K := (c_aload 1 (c_aload 0 (c_iload 3 (c_push 1 (c_iadd (c_sld b n xs (c_aload 0 (c_iload 3 (c_push 2 (c_iadd (c_sld b n xs (c_aload 0 (c_iload 3 (c_push 3 (c_iadd (c_sld b n xs (c_aload 0 (c_iload 3 (c_push 4 (c_iadd (c_sld b n xs (c_call5 (some 10) (q_fr s_X10_pledge) 0 0 (c_aload 2 (c_aload 0 (c_iload 3 (c_push 1 (c_iadd (c_sld b n xs (c_aload 0 (c_iload 3 (c_push 2 (c_iadd (c_sld b n xs (c_aload 0 (c_iload 3 (c_push 3 (c_iadd (c_sld b n xs (c_aload 0 (c_iload 3 (c_push 4 (c_iadd (c_sld b n xs (c_call5 (some 11) (q_fr s_X11_pledge) 0 0 (c_iceq (k_L_law_1044 b n xs K) (c_push 0 c_lret))))))))))))))))))))))))))))))))))))))))))))))
def k_L_law_539 (b n : Nat) (xs : Nat → Int32) (K : Nat → q_K) : q_K := (c_aload 1 (c_aload 0 (c_iload 3 (c_push 1 (c_iadd (c_sld b n xs (c_aload 0 (c_iload 3 (c_push 2 (c_iadd (c_sld b n xs (c_aload 0 (c_iload 3 (c_push 3 (c_iadd (c_sld b n xs (c_call4 (some 10) (q_fr s_X10_redeem) 0 0 (c_aload 2 (c_aload 0 (c_iload 3 (c_push 1 (c_iadd (c_sld b n xs (c_aload 0 (c_iload 3 (c_push 2 (c_iadd (c_sld b n xs (c_aload 0 (c_iload 3 (c_push 3 (c_iadd (c_sld b n xs (c_call4 (some 11) (q_fr s_X11_redeem) 0 0 (c_iceq (k_L_law_1044 b n xs K) (c_push 0 c_lret))))))))))))))))))))))))))))))))))))
def k_L_law_582 (b n : Nat) (xs : Nat → Int32) (K : Nat → q_K) : q_K := (c_aload 1 (c_aload 0 (c_iload 3 (c_push 1 (c_iadd (c_sld b n xs (c_aload 0 (c_iload 3 (c_push 2 (c_iadd (c_sld b n xs (c_aload 0 (c_iload 3 (c_push 3 (c_iadd (c_sld b n xs (c_call4 (some 10) (q_fr s_X10_held) 0 0 (c_aload 2 (c_aload 0 (c_iload 3 (c_push 1 (c_iadd (c_sld b n xs (c_aload 0 (c_iload 3 (c_push 2 (c_iadd (c_sld b n xs (c_aload 0 (c_iload 3 (c_push 3 (c_iadd (c_sld b n xs (c_call4 (some 11) (q_fr s_X11_held) 0 0 (c_iceq (k_L_law_1044 b n xs K) (c_push 0 c_lret))))))))))))))))))))))))))))))))))))
set_option maxRecDepth 100000 in
theorem v_L_law_334 {p : Program} {l : Launch} {e : Env} {s : State} {m : MethodId} {below : List Frame} {meth : Method} {c : Code} {D : va_G} {A : Nat → Prop} {mn : String} {b n : Nat} {xs : Nat → Int32} {K : Nat → q_K} (C : q_C p s m #[Value.ref b] meth c cL_law 4 RL mn ret A) (hX : va_X b n xs s s.heap) (hbl : b < s.heap.size) (hbA : ¬ A b) (hAs : ∀ q, A q → s.heap.size ≤ q) (hK : ∀ h ∈ ([18] : List Nat), q_V p l e room_1 s m #[Value.ref b] below meth c D A 4 (lw_Z below #[Value.ref b] s) h (K h)) : q_V p l e room_1 s m #[Value.ref b] below meth c D A 4 (lw_Z below #[Value.ref b] s) 334 (k_L_law_334 b n xs K) := by
  unfold k_L_law_334
  refine q_aload_n C (by decide +kernel : decode cL_law 334 = .ok (.aload_n 1, 1)) ?_
  refine q_aload_n C (by decide +kernel : decode cL_law 335 = .ok (.aload_n 0, 1)) ?_
  refine q_iload_n C (by decide +kernel : decode cL_law 336 = .ok (.iload_n 3, 1)) ?_
  refine q_iconst C (by decide +kernel : decode cL_law 337 = .ok (.iconst 1, 1)) (by decide) ?_
  refine q_iadd C (by decide +kernel : decode cL_law 338 = .ok (.iadd, 1)) ?_
  refine q_sld C hX hbl hbA (by decide +kernel : decode cL_law 339 = .ok (.iaload, 1)) ?_
  refine q_call2 C (q_coV C (np := 1) (ci := 10) (rc := (RX10, TX10, 10)) (q_frame (t_X10_work l)) w9_508 rfl rfl w9_509 w9_510 w9_511 w9_1 (by decide +kernel) (by decide +kernel : decode cL_law 340 = .ok (.invokevirtual 41, 3)) (by decide)) ?_
  refine q_aload_n C (by decide +kernel : decode cL_law 343 = .ok (.aload_n 2, 1)) ?_
  refine q_aload_n C (by decide +kernel : decode cL_law 344 = .ok (.aload_n 0, 1)) ?_
  refine q_iload_n C (by decide +kernel : decode cL_law 345 = .ok (.iload_n 3, 1)) ?_
  refine q_iconst C (by decide +kernel : decode cL_law 346 = .ok (.iconst 1, 1)) (by decide) ?_
  refine q_iadd C (by decide +kernel : decode cL_law 347 = .ok (.iadd, 1)) ?_
  refine q_sld C hX hbl hbA (by decide +kernel : decode cL_law 348 = .ok (.iaload, 1)) ?_
  refine q_call2 C (q_coV C (np := 1) (ci := 11) (rc := (RX11, TX11, 35)) (q_frame (t_X11_work l)) w9_512 rfl rfl w9_513 w9_514 w9_515 w9_6 (by decide +kernel) (by decide +kernel : decode cL_law 349 = .ok (.invokevirtual 44, 3)) (by decide)) ?_
  refine q_iceq C (tgt := 1044) (by decide +kernel : decode cL_law 352 = .ok (.if_icmp .eq 692, 3)) (by decide) ?_ ?_
  · exact v_L_law_1044 C hX hbl hbA hAs hK
  · refine q_iconst C (by decide +kernel : decode cL_law 355 = .ok (.iconst 0, 1)) (by decide) ?_
    exact q_lret C hAs (by decide +kernel : decode cL_law 356 = .ok (.ireturn, 1))
set_option maxRecDepth 100000 in
theorem v_L_law_357 {p : Program} {l : Launch} {e : Env} {s : State} {m : MethodId} {below : List Frame} {meth : Method} {c : Code} {D : va_G} {A : Nat → Prop} {mn : String} {b n : Nat} {xs : Nat → Int32} {K : Nat → q_K} (C : q_C p s m #[Value.ref b] meth c cL_law 4 RL mn ret A) (hX : va_X b n xs s s.heap) (hbl : b < s.heap.size) (hbA : ¬ A b) (hAs : ∀ q, A q → s.heap.size ≤ q) (hK : ∀ h ∈ ([18] : List Nat), q_V p l e room_1 s m #[Value.ref b] below meth c D A 4 (lw_Z below #[Value.ref b] s) h (K h)) : q_V p l e room_1 s m #[Value.ref b] below meth c D A 4 (lw_Z below #[Value.ref b] s) 357 (k_L_law_357 b n xs K) := by
  unfold k_L_law_357
  refine q_aload_n C (by decide +kernel : decode cL_law 357 = .ok (.aload_n 1, 1)) ?_
  refine q_aload_n C (by decide +kernel : decode cL_law 358 = .ok (.aload_n 0, 1)) ?_
  refine q_iload_n C (by decide +kernel : decode cL_law 359 = .ok (.iload_n 3, 1)) ?_
  refine q_iconst C (by decide +kernel : decode cL_law 360 = .ok (.iconst 1, 1)) (by decide) ?_
  refine q_iadd C (by decide +kernel : decode cL_law 361 = .ok (.iadd, 1)) ?_
  refine q_sld C hX hbl hbA (by decide +kernel : decode cL_law 362 = .ok (.iaload, 1)) ?_
  refine q_aload_n C (by decide +kernel : decode cL_law 363 = .ok (.aload_n 0, 1)) ?_
  refine q_iload_n C (by decide +kernel : decode cL_law 364 = .ok (.iload_n 3, 1)) ?_
  refine q_iconst C (by decide +kernel : decode cL_law 365 = .ok (.iconst 2, 1)) (by decide) ?_
  refine q_iadd C (by decide +kernel : decode cL_law 366 = .ok (.iadd, 1)) ?_
  refine q_sld C hX hbl hbA (by decide +kernel : decode cL_law 367 = .ok (.iaload, 1)) ?_
  refine q_call3 C (q_coV C (np := 2) (ci := 10) (rc := (RX10, TX10, 10)) (q_frame (t_X10_end l)) w9_516 rfl rfl w9_517 w9_518 w9_519 w9_1 (by decide +kernel) (by decide +kernel : decode cL_law 368 = .ok (.invokevirtual 45, 3)) (by decide)) ?_
  refine q_aload_n C (by decide +kernel : decode cL_law 371 = .ok (.aload_n 2, 1)) ?_
  refine q_aload_n C (by decide +kernel : decode cL_law 372 = .ok (.aload_n 0, 1)) ?_
  refine q_iload_n C (by decide +kernel : decode cL_law 373 = .ok (.iload_n 3, 1)) ?_
  refine q_iconst C (by decide +kernel : decode cL_law 374 = .ok (.iconst 1, 1)) (by decide) ?_
  refine q_iadd C (by decide +kernel : decode cL_law 375 = .ok (.iadd, 1)) ?_
  refine q_sld C hX hbl hbA (by decide +kernel : decode cL_law 376 = .ok (.iaload, 1)) ?_
  refine q_aload_n C (by decide +kernel : decode cL_law 377 = .ok (.aload_n 0, 1)) ?_
  refine q_iload_n C (by decide +kernel : decode cL_law 378 = .ok (.iload_n 3, 1)) ?_
  refine q_iconst C (by decide +kernel : decode cL_law 379 = .ok (.iconst 2, 1)) (by decide) ?_
  refine q_iadd C (by decide +kernel : decode cL_law 380 = .ok (.iadd, 1)) ?_
  refine q_sld C hX hbl hbA (by decide +kernel : decode cL_law 381 = .ok (.iaload, 1)) ?_
  refine q_call3 C (q_coV C (np := 2) (ci := 11) (rc := (RX11, TX11, 35)) (q_frame (t_X11_end l)) w9_520 rfl rfl w9_521 w9_522 w9_523 w9_6 (by decide +kernel) (by decide +kernel : decode cL_law 382 = .ok (.invokevirtual 48, 3)) (by decide)) ?_
  refine q_iceq C (tgt := 1044) (by decide +kernel : decode cL_law 385 = .ok (.if_icmp .eq 659, 3)) (by decide) ?_ ?_
  · exact v_L_law_1044 C hX hbl hbA hAs hK
  · refine q_iconst C (by decide +kernel : decode cL_law 388 = .ok (.iconst 0, 1)) (by decide) ?_
    exact q_lret C hAs (by decide +kernel : decode cL_law 389 = .ok (.ireturn, 1))
set_option maxRecDepth 100000 in
theorem v_L_law_390 {p : Program} {l : Launch} {e : Env} {s : State} {m : MethodId} {below : List Frame} {meth : Method} {c : Code} {D : va_G} {A : Nat → Prop} {mn : String} {b n : Nat} {xs : Nat → Int32} {K : Nat → q_K} (C : q_C p s m #[Value.ref b] meth c cL_law 4 RL mn ret A) (hX : va_X b n xs s s.heap) (hbl : b < s.heap.size) (hbA : ¬ A b) (hAs : ∀ q, A q → s.heap.size ≤ q) (hK : ∀ h ∈ ([18] : List Nat), q_V p l e room_1 s m #[Value.ref b] below meth c D A 4 (lw_Z below #[Value.ref b] s) h (K h)) : q_V p l e room_1 s m #[Value.ref b] below meth c D A 4 (lw_Z below #[Value.ref b] s) 390 (k_L_law_390 b n xs K) := by
  unfold k_L_law_390
  refine q_aload_n C (by decide +kernel : decode cL_law 390 = .ok (.aload_n 1, 1)) ?_
  refine q_aload_n C (by decide +kernel : decode cL_law 391 = .ok (.aload_n 0, 1)) ?_
  refine q_iload_n C (by decide +kernel : decode cL_law 392 = .ok (.iload_n 3, 1)) ?_
  refine q_iconst C (by decide +kernel : decode cL_law 393 = .ok (.iconst 1, 1)) (by decide) ?_
  refine q_iadd C (by decide +kernel : decode cL_law 394 = .ok (.iadd, 1)) ?_
  refine q_sld C hX hbl hbA (by decide +kernel : decode cL_law 395 = .ok (.iaload, 1)) ?_
  refine q_aload_n C (by decide +kernel : decode cL_law 396 = .ok (.aload_n 0, 1)) ?_
  refine q_iload_n C (by decide +kernel : decode cL_law 397 = .ok (.iload_n 3, 1)) ?_
  refine q_iconst C (by decide +kernel : decode cL_law 398 = .ok (.iconst 2, 1)) (by decide) ?_
  refine q_iadd C (by decide +kernel : decode cL_law 399 = .ok (.iadd, 1)) ?_
  refine q_sld C hX hbl hbA (by decide +kernel : decode cL_law 400 = .ok (.iaload, 1)) ?_
  refine q_aload_n C (by decide +kernel : decode cL_law 401 = .ok (.aload_n 0, 1)) ?_
  refine q_iload_n C (by decide +kernel : decode cL_law 402 = .ok (.iload_n 3, 1)) ?_
  refine q_iconst C (by decide +kernel : decode cL_law 403 = .ok (.iconst 3, 1)) (by decide) ?_
  refine q_iadd C (by decide +kernel : decode cL_law 404 = .ok (.iadd, 1)) ?_
  refine q_sld C hX hbl hbA (by decide +kernel : decode cL_law 405 = .ok (.iaload, 1)) ?_
  refine q_call4 C (q_coV C (np := 3) (ci := 10) (rc := (RX10, TX10, 10)) (q_frame (t_X10_inRight l)) w9_524 rfl rfl w9_525 w9_526 w9_527 w9_1 (by decide +kernel) (by decide +kernel : decode cL_law 406 = .ok (.invokevirtual 49, 3)) (by decide)) ?_
  refine q_aload_n C (by decide +kernel : decode cL_law 409 = .ok (.aload_n 2, 1)) ?_
  refine q_aload_n C (by decide +kernel : decode cL_law 410 = .ok (.aload_n 0, 1)) ?_
  refine q_iload_n C (by decide +kernel : decode cL_law 411 = .ok (.iload_n 3, 1)) ?_
  refine q_iconst C (by decide +kernel : decode cL_law 412 = .ok (.iconst 1, 1)) (by decide) ?_
  refine q_iadd C (by decide +kernel : decode cL_law 413 = .ok (.iadd, 1)) ?_
  refine q_sld C hX hbl hbA (by decide +kernel : decode cL_law 414 = .ok (.iaload, 1)) ?_
  refine q_aload_n C (by decide +kernel : decode cL_law 415 = .ok (.aload_n 0, 1)) ?_
  refine q_iload_n C (by decide +kernel : decode cL_law 416 = .ok (.iload_n 3, 1)) ?_
  refine q_iconst C (by decide +kernel : decode cL_law 417 = .ok (.iconst 2, 1)) (by decide) ?_
  refine q_iadd C (by decide +kernel : decode cL_law 418 = .ok (.iadd, 1)) ?_
  refine q_sld C hX hbl hbA (by decide +kernel : decode cL_law 419 = .ok (.iaload, 1)) ?_
  refine q_aload_n C (by decide +kernel : decode cL_law 420 = .ok (.aload_n 0, 1)) ?_
  refine q_iload_n C (by decide +kernel : decode cL_law 421 = .ok (.iload_n 3, 1)) ?_
  refine q_iconst C (by decide +kernel : decode cL_law 422 = .ok (.iconst 3, 1)) (by decide) ?_
  refine q_iadd C (by decide +kernel : decode cL_law 423 = .ok (.iadd, 1)) ?_
  refine q_sld C hX hbl hbA (by decide +kernel : decode cL_law 424 = .ok (.iaload, 1)) ?_
  refine q_call4 C (q_coV C (np := 3) (ci := 11) (rc := (RX11, TX11, 35)) (q_frame (t_X11_inRight l)) w9_528 rfl rfl w9_529 w9_530 w9_531 w9_6 (by decide +kernel) (by decide +kernel : decode cL_law 425 = .ok (.invokevirtual 53, 3)) (by decide)) ?_
  refine q_iceq C (tgt := 1044) (by decide +kernel : decode cL_law 428 = .ok (.if_icmp .eq 616, 3)) (by decide) ?_ ?_
  · exact v_L_law_1044 C hX hbl hbA hAs hK
  · refine q_iconst C (by decide +kernel : decode cL_law 431 = .ok (.iconst 0, 1)) (by decide) ?_
    exact q_lret C hAs (by decide +kernel : decode cL_law 432 = .ok (.ireturn, 1))
set_option maxRecDepth 100000 in
theorem v_L_law_433 {p : Program} {l : Launch} {e : Env} {s : State} {m : MethodId} {below : List Frame} {meth : Method} {c : Code} {D : va_G} {A : Nat → Prop} {mn : String} {b n : Nat} {xs : Nat → Int32} {K : Nat → q_K} (C : q_C p s m #[Value.ref b] meth c cL_law 4 RL mn ret A) (hX : va_X b n xs s s.heap) (hbl : b < s.heap.size) (hbA : ¬ A b) (hAs : ∀ q, A q → s.heap.size ≤ q) (hK : ∀ h ∈ ([18] : List Nat), q_V p l e room_1 s m #[Value.ref b] below meth c D A 4 (lw_Z below #[Value.ref b] s) h (K h)) : q_V p l e room_1 s m #[Value.ref b] below meth c D A 4 (lw_Z below #[Value.ref b] s) 433 (k_L_law_433 b n xs K) := by
  unfold k_L_law_433
  refine q_aload_n C (by decide +kernel : decode cL_law 433 = .ok (.aload_n 1, 1)) ?_
  refine q_aload_n C (by decide +kernel : decode cL_law 434 = .ok (.aload_n 0, 1)) ?_
  refine q_iload_n C (by decide +kernel : decode cL_law 435 = .ok (.iload_n 3, 1)) ?_
  refine q_iconst C (by decide +kernel : decode cL_law 436 = .ok (.iconst 1, 1)) (by decide) ?_
  refine q_iadd C (by decide +kernel : decode cL_law 437 = .ok (.iadd, 1)) ?_
  refine q_sld C hX hbl hbA (by decide +kernel : decode cL_law 438 = .ok (.iaload, 1)) ?_
  refine q_aload_n C (by decide +kernel : decode cL_law 439 = .ok (.aload_n 0, 1)) ?_
  refine q_iload_n C (by decide +kernel : decode cL_law 440 = .ok (.iload_n 3, 1)) ?_
  refine q_iconst C (by decide +kernel : decode cL_law 441 = .ok (.iconst 2, 1)) (by decide) ?_
  refine q_iadd C (by decide +kernel : decode cL_law 442 = .ok (.iadd, 1)) ?_
  refine q_sld C hX hbl hbA (by decide +kernel : decode cL_law 443 = .ok (.iaload, 1)) ?_
  refine q_aload_n C (by decide +kernel : decode cL_law 444 = .ok (.aload_n 0, 1)) ?_
  refine q_iload_n C (by decide +kernel : decode cL_law 445 = .ok (.iload_n 3, 1)) ?_
  refine q_iconst C (by decide +kernel : decode cL_law 446 = .ok (.iconst 3, 1)) (by decide) ?_
  refine q_iadd C (by decide +kernel : decode cL_law 447 = .ok (.iadd, 1)) ?_
  refine q_sld C hX hbl hbA (by decide +kernel : decode cL_law 448 = .ok (.iaload, 1)) ?_
  refine q_aload_n C (by decide +kernel : decode cL_law 449 = .ok (.aload_n 0, 1)) ?_
  refine q_iload_n C (by decide +kernel : decode cL_law 450 = .ok (.iload_n 3, 1)) ?_
  refine q_iconst C (by decide +kernel : decode cL_law 451 = .ok (.iconst 4, 1)) (by decide) ?_
  refine q_iadd C (by decide +kernel : decode cL_law 452 = .ok (.iadd, 1)) ?_
  refine q_sld C hX hbl hbA (by decide +kernel : decode cL_law 453 = .ok (.iaload, 1)) ?_
  refine q_call5 C (q_coV C (np := 4) (ci := 10) (rc := (RX10, TX10, 10)) (q_frame (t_X10_sell l)) w9_532 rfl rfl w9_533 w9_534 w9_535 w9_1 (by decide +kernel) (by decide +kernel : decode cL_law 454 = .ok (.invokevirtual 54, 3)) (by decide)) ?_
  refine q_aload_n C (by decide +kernel : decode cL_law 457 = .ok (.aload_n 2, 1)) ?_
  refine q_aload_n C (by decide +kernel : decode cL_law 458 = .ok (.aload_n 0, 1)) ?_
  refine q_iload_n C (by decide +kernel : decode cL_law 459 = .ok (.iload_n 3, 1)) ?_
  refine q_iconst C (by decide +kernel : decode cL_law 460 = .ok (.iconst 1, 1)) (by decide) ?_
  refine q_iadd C (by decide +kernel : decode cL_law 461 = .ok (.iadd, 1)) ?_
  refine q_sld C hX hbl hbA (by decide +kernel : decode cL_law 462 = .ok (.iaload, 1)) ?_
  refine q_aload_n C (by decide +kernel : decode cL_law 463 = .ok (.aload_n 0, 1)) ?_
  refine q_iload_n C (by decide +kernel : decode cL_law 464 = .ok (.iload_n 3, 1)) ?_
  refine q_iconst C (by decide +kernel : decode cL_law 465 = .ok (.iconst 2, 1)) (by decide) ?_
  refine q_iadd C (by decide +kernel : decode cL_law 466 = .ok (.iadd, 1)) ?_
  refine q_sld C hX hbl hbA (by decide +kernel : decode cL_law 467 = .ok (.iaload, 1)) ?_
  refine q_aload_n C (by decide +kernel : decode cL_law 468 = .ok (.aload_n 0, 1)) ?_
  refine q_iload_n C (by decide +kernel : decode cL_law 469 = .ok (.iload_n 3, 1)) ?_
  refine q_iconst C (by decide +kernel : decode cL_law 470 = .ok (.iconst 3, 1)) (by decide) ?_
  refine q_iadd C (by decide +kernel : decode cL_law 471 = .ok (.iadd, 1)) ?_
  refine q_sld C hX hbl hbA (by decide +kernel : decode cL_law 472 = .ok (.iaload, 1)) ?_
  refine q_aload_n C (by decide +kernel : decode cL_law 473 = .ok (.aload_n 0, 1)) ?_
  refine q_iload_n C (by decide +kernel : decode cL_law 474 = .ok (.iload_n 3, 1)) ?_
  refine q_iconst C (by decide +kernel : decode cL_law 475 = .ok (.iconst 4, 1)) (by decide) ?_
  refine q_iadd C (by decide +kernel : decode cL_law 476 = .ok (.iadd, 1)) ?_
  refine q_sld C hX hbl hbA (by decide +kernel : decode cL_law 477 = .ok (.iaload, 1)) ?_
  refine q_call5 C (q_coV C (np := 4) (ci := 11) (rc := (RX11, TX11, 35)) (q_frame (t_X11_sell l)) w9_536 rfl rfl w9_537 w9_538 w9_539 w9_6 (by decide +kernel) (by decide +kernel : decode cL_law 478 = .ok (.invokevirtual 58, 3)) (by decide)) ?_
  refine q_iceq C (tgt := 1044) (by decide +kernel : decode cL_law 481 = .ok (.if_icmp .eq 563, 3)) (by decide) ?_ ?_
  · exact v_L_law_1044 C hX hbl hbA hAs hK
  · refine q_iconst C (by decide +kernel : decode cL_law 484 = .ok (.iconst 0, 1)) (by decide) ?_
    exact q_lret C hAs (by decide +kernel : decode cL_law 485 = .ok (.ireturn, 1))
set_option maxRecDepth 100000 in
theorem v_L_law_486 {p : Program} {l : Launch} {e : Env} {s : State} {m : MethodId} {below : List Frame} {meth : Method} {c : Code} {D : va_G} {A : Nat → Prop} {mn : String} {b n : Nat} {xs : Nat → Int32} {K : Nat → q_K} (C : q_C p s m #[Value.ref b] meth c cL_law 4 RL mn ret A) (hX : va_X b n xs s s.heap) (hbl : b < s.heap.size) (hbA : ¬ A b) (hAs : ∀ q, A q → s.heap.size ≤ q) (hK : ∀ h ∈ ([18] : List Nat), q_V p l e room_1 s m #[Value.ref b] below meth c D A 4 (lw_Z below #[Value.ref b] s) h (K h)) : q_V p l e room_1 s m #[Value.ref b] below meth c D A 4 (lw_Z below #[Value.ref b] s) 486 (k_L_law_486 b n xs K) := by
  unfold k_L_law_486
  refine q_aload_n C (by decide +kernel : decode cL_law 486 = .ok (.aload_n 1, 1)) ?_
  refine q_aload_n C (by decide +kernel : decode cL_law 487 = .ok (.aload_n 0, 1)) ?_
  refine q_iload_n C (by decide +kernel : decode cL_law 488 = .ok (.iload_n 3, 1)) ?_
  refine q_iconst C (by decide +kernel : decode cL_law 489 = .ok (.iconst 1, 1)) (by decide) ?_
  refine q_iadd C (by decide +kernel : decode cL_law 490 = .ok (.iadd, 1)) ?_
  refine q_sld C hX hbl hbA (by decide +kernel : decode cL_law 491 = .ok (.iaload, 1)) ?_
  refine q_aload_n C (by decide +kernel : decode cL_law 492 = .ok (.aload_n 0, 1)) ?_
  refine q_iload_n C (by decide +kernel : decode cL_law 493 = .ok (.iload_n 3, 1)) ?_
  refine q_iconst C (by decide +kernel : decode cL_law 494 = .ok (.iconst 2, 1)) (by decide) ?_
  refine q_iadd C (by decide +kernel : decode cL_law 495 = .ok (.iadd, 1)) ?_
  refine q_sld C hX hbl hbA (by decide +kernel : decode cL_law 496 = .ok (.iaload, 1)) ?_
  refine q_aload_n C (by decide +kernel : decode cL_law 497 = .ok (.aload_n 0, 1)) ?_
  refine q_iload_n C (by decide +kernel : decode cL_law 498 = .ok (.iload_n 3, 1)) ?_
  refine q_iconst C (by decide +kernel : decode cL_law 499 = .ok (.iconst 3, 1)) (by decide) ?_
  refine q_iadd C (by decide +kernel : decode cL_law 500 = .ok (.iadd, 1)) ?_
  refine q_sld C hX hbl hbA (by decide +kernel : decode cL_law 501 = .ok (.iaload, 1)) ?_
  refine q_aload_n C (by decide +kernel : decode cL_law 502 = .ok (.aload_n 0, 1)) ?_
  refine q_iload_n C (by decide +kernel : decode cL_law 503 = .ok (.iload_n 3, 1)) ?_
  refine q_iconst C (by decide +kernel : decode cL_law 504 = .ok (.iconst 4, 1)) (by decide) ?_
  refine q_iadd C (by decide +kernel : decode cL_law 505 = .ok (.iadd, 1)) ?_
  refine q_sld C hX hbl hbA (by decide +kernel : decode cL_law 506 = .ok (.iaload, 1)) ?_
  refine q_call5 C (q_coV C (np := 4) (ci := 10) (rc := (RX10, TX10, 10)) (q_frame (t_X10_pledge l)) w9_540 rfl rfl w9_541 w9_542 w9_543 w9_1 (by decide +kernel) (by decide +kernel : decode cL_law 507 = .ok (.invokevirtual 59, 3)) (by decide)) ?_
  refine q_aload_n C (by decide +kernel : decode cL_law 510 = .ok (.aload_n 2, 1)) ?_
  refine q_aload_n C (by decide +kernel : decode cL_law 511 = .ok (.aload_n 0, 1)) ?_
  refine q_iload_n C (by decide +kernel : decode cL_law 512 = .ok (.iload_n 3, 1)) ?_
  refine q_iconst C (by decide +kernel : decode cL_law 513 = .ok (.iconst 1, 1)) (by decide) ?_
  refine q_iadd C (by decide +kernel : decode cL_law 514 = .ok (.iadd, 1)) ?_
  refine q_sld C hX hbl hbA (by decide +kernel : decode cL_law 515 = .ok (.iaload, 1)) ?_
  refine q_aload_n C (by decide +kernel : decode cL_law 516 = .ok (.aload_n 0, 1)) ?_
  refine q_iload_n C (by decide +kernel : decode cL_law 517 = .ok (.iload_n 3, 1)) ?_
  refine q_iconst C (by decide +kernel : decode cL_law 518 = .ok (.iconst 2, 1)) (by decide) ?_
  refine q_iadd C (by decide +kernel : decode cL_law 519 = .ok (.iadd, 1)) ?_
  refine q_sld C hX hbl hbA (by decide +kernel : decode cL_law 520 = .ok (.iaload, 1)) ?_
  refine q_aload_n C (by decide +kernel : decode cL_law 521 = .ok (.aload_n 0, 1)) ?_
  refine q_iload_n C (by decide +kernel : decode cL_law 522 = .ok (.iload_n 3, 1)) ?_
  refine q_iconst C (by decide +kernel : decode cL_law 523 = .ok (.iconst 3, 1)) (by decide) ?_
  refine q_iadd C (by decide +kernel : decode cL_law 524 = .ok (.iadd, 1)) ?_
  refine q_sld C hX hbl hbA (by decide +kernel : decode cL_law 525 = .ok (.iaload, 1)) ?_
  refine q_aload_n C (by decide +kernel : decode cL_law 526 = .ok (.aload_n 0, 1)) ?_
  refine q_iload_n C (by decide +kernel : decode cL_law 527 = .ok (.iload_n 3, 1)) ?_
  refine q_iconst C (by decide +kernel : decode cL_law 528 = .ok (.iconst 4, 1)) (by decide) ?_
  refine q_iadd C (by decide +kernel : decode cL_law 529 = .ok (.iadd, 1)) ?_
  refine q_sld C hX hbl hbA (by decide +kernel : decode cL_law 530 = .ok (.iaload, 1)) ?_
  refine q_call5 C (q_coV C (np := 4) (ci := 11) (rc := (RX11, TX11, 35)) (q_frame (t_X11_pledge l)) w9_544 rfl rfl w9_545 w9_546 w9_547 w9_6 (by decide +kernel) (by decide +kernel : decode cL_law 531 = .ok (.invokevirtual 62, 3)) (by decide)) ?_
  refine q_iceq C (tgt := 1044) (by decide +kernel : decode cL_law 534 = .ok (.if_icmp .eq 510, 3)) (by decide) ?_ ?_
  · exact v_L_law_1044 C hX hbl hbA hAs hK
  · refine q_iconst C (by decide +kernel : decode cL_law 537 = .ok (.iconst 0, 1)) (by decide) ?_
    exact q_lret C hAs (by decide +kernel : decode cL_law 538 = .ok (.ireturn, 1))
set_option maxRecDepth 100000 in
theorem v_L_law_539 {p : Program} {l : Launch} {e : Env} {s : State} {m : MethodId} {below : List Frame} {meth : Method} {c : Code} {D : va_G} {A : Nat → Prop} {mn : String} {b n : Nat} {xs : Nat → Int32} {K : Nat → q_K} (C : q_C p s m #[Value.ref b] meth c cL_law 4 RL mn ret A) (hX : va_X b n xs s s.heap) (hbl : b < s.heap.size) (hbA : ¬ A b) (hAs : ∀ q, A q → s.heap.size ≤ q) (hK : ∀ h ∈ ([18] : List Nat), q_V p l e room_1 s m #[Value.ref b] below meth c D A 4 (lw_Z below #[Value.ref b] s) h (K h)) : q_V p l e room_1 s m #[Value.ref b] below meth c D A 4 (lw_Z below #[Value.ref b] s) 539 (k_L_law_539 b n xs K) := by
  unfold k_L_law_539
  refine q_aload_n C (by decide +kernel : decode cL_law 539 = .ok (.aload_n 1, 1)) ?_
  refine q_aload_n C (by decide +kernel : decode cL_law 540 = .ok (.aload_n 0, 1)) ?_
  refine q_iload_n C (by decide +kernel : decode cL_law 541 = .ok (.iload_n 3, 1)) ?_
  refine q_iconst C (by decide +kernel : decode cL_law 542 = .ok (.iconst 1, 1)) (by decide) ?_
  refine q_iadd C (by decide +kernel : decode cL_law 543 = .ok (.iadd, 1)) ?_
  refine q_sld C hX hbl hbA (by decide +kernel : decode cL_law 544 = .ok (.iaload, 1)) ?_
  refine q_aload_n C (by decide +kernel : decode cL_law 545 = .ok (.aload_n 0, 1)) ?_
  refine q_iload_n C (by decide +kernel : decode cL_law 546 = .ok (.iload_n 3, 1)) ?_
  refine q_iconst C (by decide +kernel : decode cL_law 547 = .ok (.iconst 2, 1)) (by decide) ?_
  refine q_iadd C (by decide +kernel : decode cL_law 548 = .ok (.iadd, 1)) ?_
  refine q_sld C hX hbl hbA (by decide +kernel : decode cL_law 549 = .ok (.iaload, 1)) ?_
  refine q_aload_n C (by decide +kernel : decode cL_law 550 = .ok (.aload_n 0, 1)) ?_
  refine q_iload_n C (by decide +kernel : decode cL_law 551 = .ok (.iload_n 3, 1)) ?_
  refine q_iconst C (by decide +kernel : decode cL_law 552 = .ok (.iconst 3, 1)) (by decide) ?_
  refine q_iadd C (by decide +kernel : decode cL_law 553 = .ok (.iadd, 1)) ?_
  refine q_sld C hX hbl hbA (by decide +kernel : decode cL_law 554 = .ok (.iaload, 1)) ?_
  refine q_call4 C (q_coV C (np := 3) (ci := 10) (rc := (RX10, TX10, 10)) (q_frame (t_X10_redeem l)) w9_548 rfl rfl w9_549 w9_550 w9_551 w9_1 (by decide +kernel) (by decide +kernel : decode cL_law 555 = .ok (.invokevirtual 63, 3)) (by decide)) ?_
  refine q_aload_n C (by decide +kernel : decode cL_law 558 = .ok (.aload_n 2, 1)) ?_
  refine q_aload_n C (by decide +kernel : decode cL_law 559 = .ok (.aload_n 0, 1)) ?_
  refine q_iload_n C (by decide +kernel : decode cL_law 560 = .ok (.iload_n 3, 1)) ?_
  refine q_iconst C (by decide +kernel : decode cL_law 561 = .ok (.iconst 1, 1)) (by decide) ?_
  refine q_iadd C (by decide +kernel : decode cL_law 562 = .ok (.iadd, 1)) ?_
  refine q_sld C hX hbl hbA (by decide +kernel : decode cL_law 563 = .ok (.iaload, 1)) ?_
  refine q_aload_n C (by decide +kernel : decode cL_law 564 = .ok (.aload_n 0, 1)) ?_
  refine q_iload_n C (by decide +kernel : decode cL_law 565 = .ok (.iload_n 3, 1)) ?_
  refine q_iconst C (by decide +kernel : decode cL_law 566 = .ok (.iconst 2, 1)) (by decide) ?_
  refine q_iadd C (by decide +kernel : decode cL_law 567 = .ok (.iadd, 1)) ?_
  refine q_sld C hX hbl hbA (by decide +kernel : decode cL_law 568 = .ok (.iaload, 1)) ?_
  refine q_aload_n C (by decide +kernel : decode cL_law 569 = .ok (.aload_n 0, 1)) ?_
  refine q_iload_n C (by decide +kernel : decode cL_law 570 = .ok (.iload_n 3, 1)) ?_
  refine q_iconst C (by decide +kernel : decode cL_law 571 = .ok (.iconst 3, 1)) (by decide) ?_
  refine q_iadd C (by decide +kernel : decode cL_law 572 = .ok (.iadd, 1)) ?_
  refine q_sld C hX hbl hbA (by decide +kernel : decode cL_law 573 = .ok (.iaload, 1)) ?_
  refine q_call4 C (q_coV C (np := 3) (ci := 11) (rc := (RX11, TX11, 35)) (q_frame (t_X11_redeem l)) w9_552 rfl rfl w9_553 w9_554 w9_555 w9_6 (by decide +kernel) (by decide +kernel : decode cL_law 574 = .ok (.invokevirtual 66, 3)) (by decide)) ?_
  refine q_iceq C (tgt := 1044) (by decide +kernel : decode cL_law 577 = .ok (.if_icmp .eq 467, 3)) (by decide) ?_ ?_
  · exact v_L_law_1044 C hX hbl hbA hAs hK
  · refine q_iconst C (by decide +kernel : decode cL_law 580 = .ok (.iconst 0, 1)) (by decide) ?_
    exact q_lret C hAs (by decide +kernel : decode cL_law 581 = .ok (.ireturn, 1))
set_option maxRecDepth 100000 in
theorem v_L_law_582 {p : Program} {l : Launch} {e : Env} {s : State} {m : MethodId} {below : List Frame} {meth : Method} {c : Code} {D : va_G} {A : Nat → Prop} {mn : String} {b n : Nat} {xs : Nat → Int32} {K : Nat → q_K} (C : q_C p s m #[Value.ref b] meth c cL_law 4 RL mn ret A) (hX : va_X b n xs s s.heap) (hbl : b < s.heap.size) (hbA : ¬ A b) (hAs : ∀ q, A q → s.heap.size ≤ q) (hK : ∀ h ∈ ([18] : List Nat), q_V p l e room_1 s m #[Value.ref b] below meth c D A 4 (lw_Z below #[Value.ref b] s) h (K h)) : q_V p l e room_1 s m #[Value.ref b] below meth c D A 4 (lw_Z below #[Value.ref b] s) 582 (k_L_law_582 b n xs K) := by
  unfold k_L_law_582
  refine q_aload_n C (by decide +kernel : decode cL_law 582 = .ok (.aload_n 1, 1)) ?_
  refine q_aload_n C (by decide +kernel : decode cL_law 583 = .ok (.aload_n 0, 1)) ?_
  refine q_iload_n C (by decide +kernel : decode cL_law 584 = .ok (.iload_n 3, 1)) ?_
  refine q_iconst C (by decide +kernel : decode cL_law 585 = .ok (.iconst 1, 1)) (by decide) ?_
  refine q_iadd C (by decide +kernel : decode cL_law 586 = .ok (.iadd, 1)) ?_
  refine q_sld C hX hbl hbA (by decide +kernel : decode cL_law 587 = .ok (.iaload, 1)) ?_
  refine q_aload_n C (by decide +kernel : decode cL_law 588 = .ok (.aload_n 0, 1)) ?_
  refine q_iload_n C (by decide +kernel : decode cL_law 589 = .ok (.iload_n 3, 1)) ?_
  refine q_iconst C (by decide +kernel : decode cL_law 590 = .ok (.iconst 2, 1)) (by decide) ?_
  refine q_iadd C (by decide +kernel : decode cL_law 591 = .ok (.iadd, 1)) ?_
  refine q_sld C hX hbl hbA (by decide +kernel : decode cL_law 592 = .ok (.iaload, 1)) ?_
  refine q_aload_n C (by decide +kernel : decode cL_law 593 = .ok (.aload_n 0, 1)) ?_
  refine q_iload_n C (by decide +kernel : decode cL_law 594 = .ok (.iload_n 3, 1)) ?_
  refine q_iconst C (by decide +kernel : decode cL_law 595 = .ok (.iconst 3, 1)) (by decide) ?_
  refine q_iadd C (by decide +kernel : decode cL_law 596 = .ok (.iadd, 1)) ?_
  refine q_sld C hX hbl hbA (by decide +kernel : decode cL_law 597 = .ok (.iaload, 1)) ?_
  refine q_call4 C (q_coV C (np := 3) (ci := 10) (rc := (RX10, TX10, 10)) (q_frame (t_X10_held l)) w9_556 rfl rfl w9_557 w9_558 w9_559 w9_1 (by decide +kernel) (by decide +kernel : decode cL_law 598 = .ok (.invokevirtual 67, 3)) (by decide)) ?_
  refine q_aload_n C (by decide +kernel : decode cL_law 601 = .ok (.aload_n 2, 1)) ?_
  refine q_aload_n C (by decide +kernel : decode cL_law 602 = .ok (.aload_n 0, 1)) ?_
  refine q_iload_n C (by decide +kernel : decode cL_law 603 = .ok (.iload_n 3, 1)) ?_
  refine q_iconst C (by decide +kernel : decode cL_law 604 = .ok (.iconst 1, 1)) (by decide) ?_
  refine q_iadd C (by decide +kernel : decode cL_law 605 = .ok (.iadd, 1)) ?_
  refine q_sld C hX hbl hbA (by decide +kernel : decode cL_law 606 = .ok (.iaload, 1)) ?_
  refine q_aload_n C (by decide +kernel : decode cL_law 607 = .ok (.aload_n 0, 1)) ?_
  refine q_iload_n C (by decide +kernel : decode cL_law 608 = .ok (.iload_n 3, 1)) ?_
  refine q_iconst C (by decide +kernel : decode cL_law 609 = .ok (.iconst 2, 1)) (by decide) ?_
  refine q_iadd C (by decide +kernel : decode cL_law 610 = .ok (.iadd, 1)) ?_
  refine q_sld C hX hbl hbA (by decide +kernel : decode cL_law 611 = .ok (.iaload, 1)) ?_
  refine q_aload_n C (by decide +kernel : decode cL_law 612 = .ok (.aload_n 0, 1)) ?_
  refine q_iload_n C (by decide +kernel : decode cL_law 613 = .ok (.iload_n 3, 1)) ?_
  refine q_iconst C (by decide +kernel : decode cL_law 614 = .ok (.iconst 3, 1)) (by decide) ?_
  refine q_iadd C (by decide +kernel : decode cL_law 615 = .ok (.iadd, 1)) ?_
  refine q_sld C hX hbl hbA (by decide +kernel : decode cL_law 616 = .ok (.iaload, 1)) ?_
  refine q_call4 C (q_coV C (np := 3) (ci := 11) (rc := (RX11, TX11, 35)) (q_frame (t_X11_held l)) w9_560 rfl rfl w9_561 w9_562 w9_563 w9_6 (by decide +kernel) (by decide +kernel : decode cL_law 617 = .ok (.invokevirtual 70, 3)) (by decide)) ?_
  refine q_iceq C (tgt := 1044) (by decide +kernel : decode cL_law 620 = .ok (.if_icmp .eq 424, 3)) (by decide) ?_ ?_
  · exact v_L_law_1044 C hX hbl hbA hAs hK
  · refine q_iconst C (by decide +kernel : decode cL_law 623 = .ok (.iconst 0, 1)) (by decide) ?_
    exact q_lret C hAs (by decide +kernel : decode cL_law 624 = .ok (.ireturn, 1))
