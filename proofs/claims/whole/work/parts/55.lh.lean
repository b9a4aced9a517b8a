-- the law's loop
theorem law_head {b n i r mr : Nat} {xs : Nat → Int32} {K : Nat → q_K} {σ : q_S} {cr sr : Nat} {z : Nat → Int32} {g : Nat → Nat → Int32} (hn : n ≤ 3072) (h6 : 6 * i ≤ n) (hv : INV i z g) (hs : LwS σ r mr z g z g) (hc : 40 * (512 - i) ≤ cr) (hr : 320 * (512 - i) ≤ sr) (hk : ∀ (σ2 : q_S) (cr2 sr2 : Nat) (z2 : Nat → Int32) (g2 : Nat → Nat → Int32), 6 * i + 6 ≤ n → INV (i + 1) z2 g2 → LwS σ2 r mr z2 g2 z2 g2 → cr ≤ cr2 + 40 → sr ≤ sr2 + 320 → K 18 [some (.ref b), some (.ref r), some (.ref mr), some (.int (nI (6 * (i + 1))))] [] σ2 cr2 sr2) : k_L_law_18 b n xs K [some (.ref b), some (.ref r), some (.ref mr), some (.int (nI (6 * i)))] [] σ cr sr := by
  simp only [c_push, c_null, c_iload, c_aload, c_istore, c_astore, c_iinc, c_iadd, c_isub, c_imul, c_iand, c_ineg, c_dup, c_dup2, c_pop, c_ifnull, c_ifnonnull, c_get, c_put, c_iald, c_zald, c_iast, c_zast, c_aald, c_aast, c_alen, c_new, c_newa, c_newq, c_mna, c_oinit, c_max, c_copy, c_iret, c_zret, c_aret, c_vret, q_do, q_rc, c_ifeq, c_ifne, c_iflt, c_ifge, c_ifgt, c_ifle, c_iceq, c_icne, c_iclt, c_icge, c_icgt, c_icle, c_call0, c_call1, c_call2, c_call3, c_call4, c_call5, c_call6, c_call7, q_L0, List.map_cons, List.map_nil, List.replicate, List.cons_append, List.nil_append, List.append_nil, List.length_cons, List.length_nil, List.length_set, Nat.reduceSub, Nat.reduceAdd, Nat.reduceLT, Nat.reduceLeDiff, Nat.zero_add, Nat.add_zero, Nat.sub_zero, Nat.sub_self, List.getElem?_cons_zero, List.getElem?_cons_succ, List.set_cons_zero, List.set_cons_succ, Option.toList_some, Option.toList_none, List.sum_cons, List.sum_nil, true_and, and_true, true_or, or_true, Nat.le_refl, Nat.zero_le, Value.category, Fin.isValue, Fin.val_zero, Fin.val_one, Fin.val_two, Fin.reduceFinMk, q_10, q_01, not_false_eq_true, not_true_eq_false, forall_const, true_implies, false_implies, implies_true, q_ni, q_fi, q_nb0, q_nb1, q_fb0, q_fb1, q_nor, q_nar, q_for, q_far, q_non, q_nan, q_fon, q_fan, imp_false, false_and, and_false, and_self, false_or, or_false, va_rf, refKind, k_L_law_18, c_slen, c_sld, c_tsw]
  rw [sLe hn h6]
  refine ⟨fun c => ?_, fun c => ?_⟩
  · simp only [c_push, c_null, c_iload, c_aload, c_istore, c_astore, c_iinc, c_iadd, c_isub, c_imul, c_iand, c_ineg, c_dup, c_dup2, c_pop, c_ifnull, c_ifnonnull, c_get, c_put, c_iald, c_zald, c_iast, c_zast, c_aald, c_aast, c_alen, c_new, c_newa, c_newq, c_mna, c_oinit, c_max, c_copy, c_iret, c_zret, c_aret, c_vret, q_do, q_rc, c_ifeq, c_ifne, c_iflt, c_ifge, c_ifgt, c_ifle, c_iceq, c_icne, c_iclt, c_icge, c_icgt, c_icle, c_call0, c_call1, c_call2, c_call3, c_call4, c_call5, c_call6, c_call7, q_L0, List.map_cons, List.map_nil, List.replicate, List.cons_append, List.nil_append, List.append_nil, List.length_cons, List.length_nil, List.length_set, Nat.reduceSub, Nat.reduceAdd, Nat.reduceLT, Nat.reduceLeDiff, Nat.zero_add, Nat.add_zero, Nat.sub_zero, Nat.sub_self, List.getElem?_cons_zero, List.getElem?_cons_succ, List.set_cons_zero, List.set_cons_succ, Option.toList_some, Option.toList_none, List.sum_cons, List.sum_nil, true_and, and_true, true_or, or_true, Nat.le_refl, Nat.zero_le, Value.category, Fin.isValue, Fin.val_zero, Fin.val_one, Fin.val_two, Fin.reduceFinMk, q_10, q_01, not_false_eq_true, not_true_eq_false, forall_const, true_implies, false_implies, implies_true, q_ni, q_fi, q_nb0, q_nb1, q_fb0, q_fb1, q_nor, q_nar, q_for, q_far, q_non, q_nan, q_fon, q_fan, imp_false, false_and, and_false, and_self, false_or, or_false, va_rf, refKind, k_L_law_1050, c_lret]
  · have hi : 6 * i + 5 < n := by omega
    have hc' : 40 ≤ cr := by omega
    have hr' : 320 ≤ sr := by omega
    have hk' : ∀ (σ2 : q_S) (cr2 sr2 : Nat) (z2 : Nat → Int32) (g2 : Nat → Nat → Int32), INV (i + 1) z2 g2 → LwS σ2 r mr z2 g2 z2 g2 → cr ≤ cr2 + 40 → sr ≤ sr2 + 320 → k_L_law_1044 b n xs K [some (.ref b), some (.ref r), some (.ref mr), some (.int (nI (6 * i)))] [] σ2 cr2 sr2 := by
      intro σ2 cr2 sr2 z2 g2 a1 a2 a3 a4
      have := hk σ2 cr2 sr2 z2 g2 (by omega) a1 a2 a3 a4
      simp only [c_push, c_null, c_iload, c_aload, c_istore, c_astore, c_iinc, c_iadd, c_isub, c_imul, c_iand, c_ineg, c_dup, c_dup2, c_pop, c_ifnull, c_ifnonnull, c_get, c_put, c_iald, c_zald, c_iast, c_zast, c_aald, c_aast, c_alen, c_new, c_newa, c_newq, c_mna, c_oinit, c_max, c_copy, c_iret, c_zret, c_aret, c_vret, q_do, q_rc, c_ifeq, c_ifne, c_iflt, c_ifge, c_ifgt, c_ifle, c_iceq, c_icne, c_iclt, c_icge, c_icgt, c_icle, c_call0, c_call1, c_call2, c_call3, c_call4, c_call5, c_call6, c_call7, q_L0, List.map_cons, List.map_nil, List.replicate, List.cons_append, List.nil_append, List.append_nil, List.length_cons, List.length_nil, List.length_set, Nat.reduceSub, Nat.reduceAdd, Nat.reduceLT, Nat.reduceLeDiff, Nat.zero_add, Nat.add_zero, Nat.sub_zero, Nat.sub_self, List.getElem?_cons_zero, List.getElem?_cons_succ, List.set_cons_zero, List.set_cons_succ, Option.toList_some, Option.toList_none, List.sum_cons, List.sum_nil, true_and, and_true, true_or, or_true, Nat.le_refl, Nat.zero_le, Value.category, Fin.isValue, Fin.val_zero, Fin.val_one, Fin.val_two, Fin.reduceFinMk, q_10, q_01, not_false_eq_true, not_true_eq_false, forall_const, true_implies, false_implies, implies_true, q_ni, q_fi, q_nb0, q_nb1, q_fb0, q_fb1, q_nor, q_nar, q_for, q_far, q_non, q_nan, q_fon, q_fan, imp_false, false_and, and_false, and_self, false_or, or_false, va_rf, refKind, k_L_law_1044]
      rw [show nI (6 * i) + 6 = nI (6 * (i + 1)) from nI_add (6 * i) 6]
      exact this
    have all : ∀ k ∈ ([k_L_law_136 b n xs K, k_L_law_159 b n xs K, k_L_law_172 b n xs K, k_L_law_205 b n xs K, k_L_law_238 b n xs K, k_L_law_271 b n xs K, k_L_law_334 b n xs K, k_L_law_357 b n xs K, k_L_law_390 b n xs K, k_L_law_433 b n xs K, k_L_law_486 b n xs K, k_L_law_539 b n xs K, k_L_law_582 b n xs K, k_L_law_625 b n xs K, k_L_law_684 b n xs K, k_L_law_747 b n xs K, k_L_law_810 b n xs K, k_L_law_843 b n xs K, k_L_law_892 b n xs K, k_L_law_925 b n xs K, k_L_law_978 b n xs K, k_L_law_1021 b n xs K] : List q_K), k [some (.ref b), some (.ref r), some (.ref mr), some (.int (nI (6 * i)))] [] σ cr sr := List.forall_mem_cons.mpr ⟨law_days hn hi hv hs hc' hr' hk', List.forall_mem_cons.mpr ⟨law_person hn hi hv hs hc' hr' hk', List.forall_mem_cons.mpr ⟨law_heir hn hi hv hs hc' hr' hk', List.forall_mem_cons.mpr ⟨law_death hn hi hv hs hc' hr' hk', List.forall_mem_cons.mpr ⟨law_died hn hi hv hs hc' hr' hk', List.forall_mem_cons.mpr ⟨law_act hn hi hv hs hc' hr' hk', List.forall_mem_cons.mpr ⟨law_work hn hi hv hs hc' hr' hk', List.forall_mem_cons.mpr ⟨law_end hn hi hv hs hc' hr' hk', List.forall_mem_cons.mpr ⟨law_inRight hn hi hv hs hc' hr' hk', List.forall_mem_cons.mpr ⟨law_sell hn hi hv hs hc' hr' hk', List.forall_mem_cons.mpr ⟨law_pledge hn hi hv hs hc' hr' hk', List.forall_mem_cons.mpr ⟨law_redeem hn hi hv hs hc' hr' hk', List.forall_mem_cons.mpr ⟨law_held hn hi hv hs hc' hr' hk', List.forall_mem_cons.mpr ⟨law_agree hn hi hv hs hc' hr' hk', List.forall_mem_cons.mpr ⟨law_license hn hi hv hs hc' hr' hk', List.forall_mem_cons.mpr ⟨law_may hn hi hv hs hc' hr' hk', List.forall_mem_cons.mpr ⟨law_line hn hi hv hs hc' hr' hk', List.forall_mem_cons.mpr ⟨law_common hn hi hv hs hc' hr' hk', List.forall_mem_cons.mpr ⟨law_alike hn hi hv hs hc' hr' hk', List.forall_mem_cons.mpr ⟨law_pair hn hi hv hs hc' hr' hk', List.forall_mem_cons.mpr ⟨law_copied hn hi hv hs hc' hr' hk', List.forall_mem_cons.mpr ⟨law_count hn hi hv hs hc' hr' hk', fun _ h => absurd h List.not_mem_nil⟩⟩⟩⟩⟩⟩⟩⟩⟩⟩⟩⟩⟩⟩⟩⟩⟩⟩⟩⟩⟩⟩
    exact ⟨(sIn hn hi).1, fun j kj hj hx => all kj (List.mem_of_getElem? hj), fun _ => hk' _ _ _ _ _ hv.same hs (by omega) (by omega)⟩
theorem law_nest {s : State} {b : Nat} (hts : ∀ w ∈ lw_tbl, w.before #[Value.ref b] s = true) : q_N s := by
  have m1 : ∀ w ∈ q_nF, Cond.fieldLinkNest w.1 w.2.1 w.2.2.1 w.2.2.2.1 w.2.2.2.2 "CopyRegister" ∈ lw_tbl := by decide +kernel
  have m2 : ∀ w ∈ q_nM, Cond.methodLinkNest w.1 w.2.1 w.2.2 "CopyRegister" ∈ lw_tbl := by decide +kernel
  have m3 : ∀ t ∈ q_nA, Cond.arrayOver t ∈ lw_tbl := by decide +kernel
  exact ⟨fun w hw => va_Nw.of rfl (hts _ (m1 w hw)), fun w hw => va_Nw.of rfl (hts _ (m2 w hw)), fun t ht => by
    have h9 := hts _ (m3 t ht)
    simp only [Cond.before, Cond.holds, Cond.value] at h9 ⊢
    exact h9⟩
theorem law_known {s : State} {b : Nat} (hts : ∀ w ∈ lw_tbl, w.before #[Value.ref b] s = true) : ∃ D : va_G, va_K D q_cl [] s := by
  obtain ⟨c0, s0, k0⟩ := u_known (C := RX0) (T := TX0) (N := 5) (n := 5) hts iX0 (hts (.instantiable RX0 5) (by decide +kernel))
  obtain ⟨c1, s1, k1⟩ := u_known (C := RX1) (T := TX1) (N := 2) (n := 2) hts iX1 (hts (.instantiable RX1 2) (by decide +kernel))
  obtain ⟨c2, s2, k2⟩ := u_known (C := RX2) (T := TX2) (N := 2) (n := 2) hts iX2 (hts (.instantiable RX2 2) (by decide +kernel))
  obtain ⟨c3, s3, k3⟩ := u_known (C := RX3) (T := TX3) (N := 1) (n := 1) hts iX3 (hts (.instantiable RX3 1) (by decide +kernel))
  obtain ⟨c4, s4, k4⟩ := u_known (C := RX4) (T := TX4) (N := 6) (n := 6) hts iX4 (hts (.instantiable RX4 6) (by decide +kernel))
  obtain ⟨c5, s5, k5⟩ := u_known (C := RX5) (T := TX5) (N := 2) (n := 2) hts iX5 (hts (.instantiable RX5 2) (by decide +kernel))
  obtain ⟨c6, s6, k6⟩ := u_known (C := RX6) (T := TX6) (N := 3) (n := 3) hts iX6 (hts (.instantiable RX6 3) (by decide +kernel))
  obtain ⟨c7, s7, k7⟩ := u_known (C := RX7) (T := TX7) (N := 3) (n := 3) hts iX7 (hts (.instantiable RX7 3) (by decide +kernel))
  obtain ⟨c8, s8, k8⟩ := u_known (C := RX8) (T := TX8) (N := 2) (n := 2) hts iX8 (hts (.instantiable RX8 2) (by decide +kernel))
  obtain ⟨c9, s9, k9⟩ := u_known (C := RX9) (T := TX9) (N := 5) (n := 5) hts iX9 (hts (.instantiable RX9 5) (by decide +kernel))
  obtain ⟨c10, s10, k10⟩ := u_known (C := RX10) (T := TX10) (N := 10) (n := 10) hts iX10 (hts (.instantiable RX10 10) (by decide +kernel))
  obtain ⟨c11, s11, k11⟩ := u_known (C := RX11) (T := TX11) (N := 35) (n := 35) hts iX11 (hts (.instantiable RX11 35) (by decide +kernel))
  refine ⟨(fun k => if k = 0 then c0 else if k = 1 then c1 else if k = 2 then c2 else if k = 3 then c3 else if k = 4 then c4 else if k = 5 then c5 else if k = 6 then c6 else if k = 7 then c7 else if k = 8 then c8 else if k = 9 then c9 else if k = 10 then c10 else c11, fun k => if k = 0 then s0 else if k = 1 then s1 else if k = 2 then s2 else if k = 3 then s3 else if k = 4 then s4 else if k = 5 then s5 else if k = 6 then s6 else if k = 7 then s7 else if k = 8 then s8 else if k = 9 then s9 else if k = 10 then s10 else s11), fun k q hq => ?_, fun k q h => by simp at h⟩
  match k, hq with
  | 0, hq => cases hq; exact k0
  | 1, hq => cases hq; exact k1
  | 2, hq => cases hq; exact k2
  | 3, hq => cases hq; exact k3
  | 4, hq => cases hq; exact k4
  | 5, hq => cases hq; exact k5
  | 6, hq => cases hq; exact k6
  | 7, hq => cases hq; exact k7
  | 8, hq => cases hq; exact k8
  | 9, hq => cases hq; exact k9
  | 10, hq => cases hq; exact k10
  | 11, hq => cases hq; exact k11
  | k + 12, hq => simp [q_cl] at hq
def q_one (a : Nat) (e : q_E) : q_S := fun b => if b = a then some e else none
theorem q_one_s {a : Nat} {e : q_E} : q_one a e a = some e := if_pos rfl
theorem q_one_n {a b : Nat} {e : q_E} (h : b ≠ a) : q_one a e b = none := if_neg h
theorem q_one_e {a b : Nat} {e x : q_E} (h : q_one a e b = some x) : b = a ∧ x = e := by
  by_cases c : b = a
  · subst c
    rw [q_one_s] at h
    exact ⟨rfl, (Option.some.inj h).symm⟩
  · rw [q_one_n c] at h
    cases h
set_option maxHeartbeats 4000000 in
theorem whole_start {p : Program} {e : Env} {s : State} {m : MethodId} {below : List Frame} {meth : Method} {c : Code} (l : Launch) {b L : Nat} {xs : Nat → Int32} (hL : L ≤ 3072) (C0 : lw_At p s m meth c b L xs) : W p l e room_1 s m #[Value.ref b] below meth c s.heap [] 0 0 (lw_Z below #[Value.ref b] s) (entryFrame m ([Value.ref b] : List Value).toArray 4) := by
  obtain ⟨hx, hb, hr, hml, hown, hts, hX, hbl, hlocks, hgv⟩ := id C0
  have hbA : ¬ (fun q : Nat => s.heap.size ≤ q) b := Nat.not_le.mpr hbl
  obtain ⟨D, hK⟩ := law_known hts
  have C : q_C p s m #[Value.ref b] meth c cL_law 4 RL meth.name ret (fun q : Nat => s.heap.size ≤ q) := ⟨hx, hb, hml, hown, fun w hw => hts w (List.mem_filter.mp hw).1, law_nest hts, fun q h => h, hr, hlocks, rfl⟩
  have hV := q_loops (p := p) (l := l) (e := e) (R := room_1) (s := s) (m := m) (args := #[Value.ref b]) (below := below) (meth := meth) (c := c) (D := D) (A := fun q : Nat => s.heap.size ≤ q) (nL := 4) (Q := lw_Z below #[Value.ref b] s) [18] (fun _ => k_L_law_18 b L xs) (fun K hK h hh => by
    have e9 : h = 18 := by simpa using hh
    subst e9
    exact v_L_law_18 C hX hbl hbA (fun q h => h) hK)
    (fun _ m Ls st σ cr sr => ∃ (i r mr : Nat) (z : Nat → Int32) (g : Nat → Nat → Int32), m = 512 - i ∧ 6 * i ≤ L ∧ INV i z g ∧ LwS σ r mr z g z g ∧ 40 * (512 - i) ≤ cr ∧ 320 * (512 - i) ≤ sr ∧ st = [] ∧ Ls = [some (.ref b), some (.ref r), some (.ref mr), some (.int (nI (6 * i)))])
    (fun n h hh Ls st σ cr sr hi => by
      obtain ⟨i, r, mr, z, g, rfl, h6, hv, hs, hc, hsr, rfl, rfl⟩ := hi
      refine law_head hL h6 hv hs hc hsr (fun σ2 cr2 sr2 z2 g2 a0 a1 a2 a3 a4 => ?_)
      exact ⟨512 - (i + 1), by omega, i + 1, r, mr, z2, g2, rfl, by omega, a1, a2, by omega, by omega, rfl, rfl⟩)
  have h0 := v_L_law_0 C hX hbl hbA (fun q h => h) hV
  have hl := lv_entry [Value.ref b] (n := 4) (Nat.le_of_ble_eq_true rfl)
  have hcat : ∀ v ∈ [Value.ref b], v.category = 1 := by simp [Value.category]
  rw [lg_entry_eq]
  refine h0 (q_L0 [Value.ref b] 4) [] (fun _ => none) 600000 7302250 s.heap [] 0 0 _ ⟨by simp [q_L0], fun i v h => hcat v (List.mem_of_getElem? (q_L0_get h)), hl.1, hl.2.1, fun q hq => ?_⟩ ⟨[], [], hK, fun k q h => by simp at h, ⟨fun i j p q h => by simp at h, fun k q h => by simp at h⟩, fun a e h => by cases h⟩ va_S.rf (Nat.le_of_ble_eq_true rfl) (Nat.le_of_ble_eq_true rfl) ?_
  · obtain ⟨i, v⟩ := q
    have h1 := q_args hcat 0 i v (q_L0_get (q_al_mem.mp hq))
    rw [Nat.zero_add] at h1
    exact hl.2.2 _ h1
  · clear h0 hV hl C hts
    generalize (fun _ => none : q_S) = σ0
    simp only [c_push, c_null, c_iload, c_aload, c_istore, c_astore, c_iinc, c_iadd, c_isub, c_imul, c_iand, c_ineg, c_dup, c_dup2, c_pop, c_ifnull, c_ifnonnull, c_get, c_put, c_iald, c_zald, c_iast, c_zast, c_aald, c_aast, c_alen, c_new, c_newa, c_newq, c_mna, c_oinit, c_max, c_copy, c_iret, c_zret, c_aret, c_vret, q_do, q_rc, c_ifeq, c_ifne, c_iflt, c_ifge, c_ifgt, c_ifle, c_iceq, c_icne, c_iclt, c_icge, c_icgt, c_icle, c_call0, c_call1, c_call2, c_call3, c_call4, c_call5, c_call6, c_call7, q_L0, List.map_cons, List.map_nil, List.replicate, List.cons_append, List.nil_append, List.append_nil, List.length_cons, List.length_nil, List.length_set, Nat.reduceSub, Nat.reduceAdd, Nat.reduceLT, Nat.reduceLeDiff, Nat.zero_add, Nat.add_zero, Nat.sub_zero, Nat.sub_self, List.getElem?_cons_zero, List.getElem?_cons_succ, List.set_cons_zero, List.set_cons_succ, Option.toList_some, Option.toList_none, List.sum_cons, List.sum_nil, true_and, and_true, true_or, or_true, Nat.le_refl, Nat.zero_le, Value.category, Fin.isValue, Fin.val_zero, Fin.val_one, Fin.val_two, Fin.reduceFinMk, q_10, q_01, not_false_eq_true, not_true_eq_false, forall_const, true_implies, false_implies, implies_true, q_ni, q_fi, q_nb0, q_nb1, q_fb0, q_fb1, q_nor, q_nar, q_for, q_far, q_non, q_nan, q_fon, q_fan, imp_false, false_and, and_false, and_self, false_or, or_false, va_rf, refKind, k_L_law_0]
    refine fun r hr0 => ?_
    simp only [c_push, c_null, c_iload, c_aload, c_istore, c_astore, c_iinc, c_iadd, c_isub, c_imul, c_iand, c_ineg, c_dup, c_dup2, c_pop, c_ifnull, c_ifnonnull, c_get, c_put, c_iald, c_zald, c_iast, c_zast, c_aald, c_aast, c_alen, c_new, c_newa, c_newq, c_mna, c_oinit, c_max, c_copy, c_iret, c_zret, c_aret, c_vret, q_do, q_rc, c_ifeq, c_ifne, c_iflt, c_ifge, c_ifgt, c_ifle, c_iceq, c_icne, c_iclt, c_icge, c_icgt, c_icle, c_call0, c_call1, c_call2, c_call3, c_call4, c_call5, c_call6, c_call7, q_L0, List.map_cons, List.map_nil, List.replicate, List.cons_append, List.nil_append, List.append_nil, List.length_cons, List.length_nil, List.length_set, Nat.reduceSub, Nat.reduceAdd, Nat.reduceLT, Nat.reduceLeDiff, Nat.zero_add, Nat.add_zero, Nat.sub_zero, Nat.sub_self, List.getElem?_cons_zero, List.getElem?_cons_succ, List.set_cons_zero, List.set_cons_succ, Option.toList_some, Option.toList_none, List.sum_cons, List.sum_nil, true_and, and_true, true_or, or_true, Nat.le_refl, Nat.zero_le, Value.category, Fin.isValue, Fin.val_zero, Fin.val_one, Fin.val_two, Fin.reduceFinMk, q_10, q_01, not_false_eq_true, not_true_eq_false, forall_const, true_implies, false_implies, implies_true, q_ni, q_fi, q_nb0, q_nb1, q_fb0, q_fb1, q_nor, q_nar, q_for, q_far, q_non, q_nan, q_fon, q_fan, imp_false, false_and, and_false, and_self, false_or, or_false, va_rf, refKind, q_fld, q_fset, q_oc, q_ai, q_aq, q_len, q_up_s, q_up_up, if_true]
    refine ⟨_, fun a e h => h, q_up_s, fun σx hR σ1 k1 k2 => ?_⟩
    simp only [c_push, c_null, c_iload, c_aload, c_istore, c_astore, c_iinc, c_iadd, c_isub, c_imul, c_iand, c_ineg, c_dup, c_dup2, c_pop, c_ifnull, c_ifnonnull, c_get, c_put, c_iald, c_zald, c_iast, c_zast, c_aald, c_aast, c_alen, c_new, c_newa, c_newq, c_mna, c_oinit, c_max, c_copy, c_iret, c_zret, c_aret, c_vret, q_do, q_rc, c_ifeq, c_ifne, c_iflt, c_ifge, c_ifgt, c_ifle, c_iceq, c_icne, c_iclt, c_icge, c_icgt, c_icle, c_call0, c_call1, c_call2, c_call3, c_call4, c_call5, c_call6, c_call7, q_L0, List.map_cons, List.map_nil, List.replicate, List.cons_append, List.nil_append, List.append_nil, List.length_cons, List.length_nil, List.length_set, Nat.reduceSub, Nat.reduceAdd, Nat.reduceLT, Nat.reduceLeDiff, Nat.zero_add, Nat.add_zero, Nat.sub_zero, Nat.sub_self, List.getElem?_cons_zero, List.getElem?_cons_succ, List.set_cons_zero, List.set_cons_succ, Option.toList_some, Option.toList_none, List.sum_cons, List.sum_nil, true_and, and_true, true_or, or_true, Nat.le_refl, Nat.zero_le, Value.category, Fin.isValue, Fin.val_zero, Fin.val_one, Fin.val_two, Fin.reduceFinMk, q_10, q_01, not_false_eq_true, not_true_eq_false, forall_const, true_implies, false_implies, implies_true, q_ni, q_fi, q_nb0, q_nb1, q_fb0, q_fb1, q_nor, q_nar, q_for, q_far, q_non, q_nan, q_fon, q_fan, imp_false, false_and, and_false, and_self, false_or, or_false, va_rf, refKind]
    refine fun mr hm0 => ?_
    refine ⟨q_one mr _, fun a e h => ?_, q_one_s, fun σm ad hm σ2 j1 j2 => ?_⟩
    · obtain ⟨e1, e2⟩ := q_one_e h
      rw [e1, e2, q_up_s]
    · simp only [c_push, c_null, c_iload, c_aload, c_istore, c_astore, c_iinc, c_iadd, c_isub, c_imul, c_iand, c_ineg, c_dup, c_dup2, c_pop, c_ifnull, c_ifnonnull, c_get, c_put, c_iald, c_zald, c_iast, c_zast, c_aald, c_aast, c_alen, c_new, c_newa, c_newq, c_mna, c_oinit, c_max, c_copy, c_iret, c_zret, c_aret, c_vret, q_do, q_rc, c_ifeq, c_ifne, c_iflt, c_ifge, c_ifgt, c_ifle, c_iceq, c_icne, c_iclt, c_icge, c_icgt, c_icle, c_call0, c_call1, c_call2, c_call3, c_call4, c_call5, c_call6, c_call7, q_L0, List.map_cons, List.map_nil, List.replicate, List.cons_append, List.nil_append, List.append_nil, List.length_cons, List.length_nil, List.length_set, Nat.reduceSub, Nat.reduceAdd, Nat.reduceLT, Nat.reduceLeDiff, Nat.zero_add, Nat.add_zero, Nat.sub_zero, Nat.sub_self, List.getElem?_cons_zero, List.getElem?_cons_succ, List.set_cons_zero, List.set_cons_succ, Option.toList_some, Option.toList_none, List.sum_cons, List.sum_nil, true_and, and_true, true_or, or_true, Nat.le_refl, Nat.zero_le, Value.category, Fin.isValue, Fin.val_zero, Fin.val_one, Fin.val_two, Fin.reduceFinMk, q_10, q_01, not_false_eq_true, not_true_eq_false, forall_const, true_implies, false_implies, implies_true, q_ni, q_fi, q_nb0, q_nb1, q_fb0, q_fb1, q_nor, q_nar, q_for, q_far, q_non, q_nan, q_fon, q_fan, imp_false, false_and, and_false, and_self, false_or, or_false, va_rf, refKind]
      have old : ∀ a e, σx a = some e → σ2 a = some e ∧ σm a = none := fun a e he => by
        have c : a ≠ mr := fun e9 => by rw [← e9, k1 a e he] at hm0; cases hm0
        exact j2 a e (q_one_n c) (by rw [q_up_n c]; exact k1 a e he)
      refine ⟨512, 0, r, mr, fun _ => 0, fun _ _ => 0, rfl, Nat.zero_le _, INV.zero, ⟨ad, σx, σm, hR, hm, fun a e he => (old a e he).1, fun a e he => ⟨j1 a e he, ?_⟩⟩, by decide, by decide, rfl⟩
      cases hc : σx a with
      | none => rfl
      | some e2 => rw [(old a e2 hc).2] at he; cases he
