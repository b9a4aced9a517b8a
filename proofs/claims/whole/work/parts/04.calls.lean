def va_AOA (t : FieldType) (U : State) : Prop := (Cond.arrayOver (.array t)).before #[] U = true
theorem va_AOA.use {t : FieldType} {A : Array Value} {U : State} (h : va_AOA t U) : (Cond.arrayOver (.array t)).before A U = true := h
/-! ===== BEGIN new T[n][m]: the outer array a place, the inner ones among the pooled ===== -/
/-- f, but v at every address of l -/
def vr_up {α : Type} (f : Nat → α) (l : List Nat) (v : α) : Nat → α := fun a => if a ∈ l then v else f a
theorem vr_up_in {α : Type} {f : Nat → α} {l : List Nat} {v : α} {a : Nat} (h : a ∈ l) : vr_up f l v a = v := if_pos h
theorem vr_up_ne {α : Type} {f : Nat → α} {l : List Nat} {v : α} {a : Nat} (h : a ∉ l) : vr_up f l v a = f a := if_neg h
theorem vr_rows {L l : List Nat} {f : Nat → va_E} {e : va_E} (h : ∀ a, a ∈ l → a ∉ L) : va_pl L f ++ l.map (fun a => (a, e)) = va_pl (L ++ l) (vr_up f l e) := by
  unfold va_pl
  rw [List.map_append]
  congr 1
  · apply List.map_congr_left
    intro a ha
    rw [vr_up_ne (fun q => h a q ha)]
  · apply List.map_congr_left
    intro a ha
    rw [vr_up_in ha]
theorem vr_lay {X rows : va_W} {x : Nat × va_E} {pl : va_W} {D : va_G} {cl : List vw_C} {H : Heap} (hP : va_P D cl (((X ++ pl) ++ [x]) ++ rows) H) : va_P D cl ((X ++ [x]) ++ (pl ++ rows)) H := by
  rw [List.append_assoc (X ++ pl)] at hP
  have h := va_P.swap hP
  rw [← List.append_assoc X] at h
  have h2 := va_P.swap h
  rw [List.append_assoc (X ++ [x])] at h2
  exact h2
theorem vr_layD {X rows : va_W} {x : Nat × va_E} {pl : va_W} {A : Nat → Prop} (hD : va_D A (((X ++ pl) ++ [x]) ++ rows)) : va_D A ((X ++ [x]) ++ (pl ++ rows)) := by
  rw [List.append_assoc (X ++ pl)] at hD
  have h := va_D.swap hD
  rw [← List.append_assoc X] at h
  have h2 := va_D.swap h
  rw [List.append_assoc (X ++ [x])] at h2
  exact h2
theorem vr_outer (c : ClassId) (N h0 : Nat) : ∀ i : Nat, Jvm.Free.Multi.outerC c N h0 i = arrV c N (fun j => va_rf (if j < i then some (h0 + 1 + j) else none))
  | 0 => by
    show ({ cls := c, slots := Array.replicate N .null, vm := .none } : Cell) = _
    rw [arrV_new]
    refine congrArg (arrV c N) (funext fun j => ?_)
    simp [va_rf]
  | i + 1 => by
    show (Jvm.Free.Multi.outerC c N h0 i).setSlot i (.ref (h0 + 1 + i)) = _
    rw [vr_outer c N h0 i, arrV_store]
    refine congrArg (arrV c N) (funext fun j => ?_)
    by_cases e : j = i
    · subst e
      simp [updV, va_rf]
    · by_cases h : j < i
      · simp [updV, e, h, Nat.lt_succ_of_lt h]
      · simp [updV, e, h, show ¬ j < i + 1 by omega]
section VGM
variable {p : Program} {l : Launch} {e : Env} {R : Room} {s : State} {m : MethodId} {args : Array Value} {below : List Frame} {meth : Method} {c : Code} {H : Heap} {locs : List Loc} {cells slots : Nat} {Q : State → Prop}
variable {cc : ByteArray} {pc : Nat} {ls : Array Slot} {rest : List Value} {D : va_G} {cl : List vw_C} {A : Nat → Prop} {a : Nat} {tys : List (ClassId × FieldType)} {ws : va_W} {H0 : Heap}
theorem va_mna {X : va_W} {L : List Nat} {f : Nat → va_E} {cc : ByteArray} (hexec : p.tables.exec = Jvm.exec) (hb : c.code = cc) {own : String} {index : Nat} {ty : FieldType} {cy : ClassId} (hown : s.vm.findClass own = some m.cls) (hclink : (Cond.classLink own index ("[" ++ (FieldType.array ty).toString)).before args s = true) (hover : va_AOA ty s) (harr : (Cond.arrayClass ty).before args s = true) (hcy : s.vm.findClass (FieldType.array ty).toString = some cy)
    (hK : va_K D cl tys s) (hP : va_P D cl (X ++ va_pl L f) H) (hD : va_D A (X ++ va_pl L f)) (hS : va_S A H0 H locs) (hA : ∀ q, H0.size ≤ q → A q) {n k : Int32} {N' K' : Nat} {z : vp_A} (hn : ¬ n < 0) (hk : ¬ k < 0) (hN : n.toNatClampNeg = N') (hM : k.toNatClampNeg = K')
    (hb1 : N' * 4 ≤ 536870912) (hb2 : K' * componentBytes ty ≤ 536870912) (hb3 : K' ≤ 536870912) (hdf : fits ty (defaultValue ty) = true) (hdd : (defaultValue ty).isDefault = true) (hcells : cells + (1 + N') ≤ R.cells) (hslots : slots + (N' + N' * K') ≤ R.slots) (hz : ∀ c : ClassId, Jvm.Free.Multi.innerC c K' (defaultValue ty) = vp_cell c z) (hdg : decode cc pc = .ok (.multianewarray index 2, 4))
    (kk : ∀ (q : Nat) (r : Nat → Nat) (cA : ClassId) (H1 : Heap), (∀ i j : Nat, i < N' → j < N' → r i = r j → i = j) → (∀ i : Nat, i < N' → r i ∉ L) → va_K D cl (tys ++ [(cA, .array ty)]) s →
      va_P D cl ((X ++ [(q, .inl (cA, N', .inr (.inr (.inr (.inr (fun i => if i < N' then some (r i) else none))))))]) ++ va_pl (L ++ (List.range N').map r) (vr_up f ((List.range N').map r) (.inl (cy, z)))) H1 → va_D A ((X ++ [(q, .inl (cA, N', .inr (.inr (.inr (.inr (fun i => if i < N' then some (r i) else none))))))]) ++ va_pl (L ++ (List.range N').map r) (vr_up f ((List.range N').map r) (.inl (cy, z)))) → va_S A H0 H1 locs →
      W p l e R s m args below meth c H1 locs (cells + 1 + N') (slots + N' + N' * K') Q (F0 m (pc + 4) ls (.ref q :: rest))) : W p l e R s m args below meth c H locs cells slots Q (F0 m pc ls (.int k :: .int n :: rest)) := by
  subst hN
  subst hM
  intro T hT Xs
  obtain ⟨vm₁, cA, comp, -, fA, fC, hO, -, X', step⟩ := Xs.multianewarray2F hexec hown hclink (va_AOA.use hover) harr (g := F0 m pc ls (.int k :: .int n :: rest)) rfl (by rw [hb]; exact hdg) rfl hn hk hb1 hb2 hb3 hdf hdd hcells hslots
  have ec : some cy = some comp := hcy.symm.trans fC
  cases ec
  generalize hF : Jvm.Free.Multi.fill (T.setVm vm₁) cA cy n.toNatClampNeg k.toNatClampNeg (defaultValue ty) n.toNatClampNeg = F at X' step
  have hTh : (T.setVm vm₁).heap = H := hT
  obtain ⟨f1, f2, -, -⟩ := Jvm.Free.Multi.fill_facts (T.setVm vm₁) cA cy n.toNatClampNeg k.toNatClampNeg (defaultValue ty) n.toNatClampNeg
  rw [hF, hTh] at f1 f2
  have hold : ∀ x : Nat, x < H.size → F.heap[x]? = H[x]? := fun x hx => by
    have := Jvm.Free.Multi.fill_old (T.setVm vm₁) cA cy n.toNatClampNeg k.toNatClampNeg (defaultValue ty) (a := x) (by rw [hTh]; exact hx) n.toNatClampNeg
    rw [hF, hTh] at this
    exact this
  have hrow : ∀ j : Nat, j < n.toNatClampNeg → F.heap[H.size + 1 + j]? = some (vp_cell cy z) := fun j hj => by
    have := Jvm.Free.Multi.fill_inner (T.setVm vm₁) cA cy n.toNatClampNeg k.toNatClampNeg (defaultValue ty) n.toNatClampNeg j hj
    rw [hF, hTh, hz] at this
    exact this
  have hout : Jvm.Free.Multi.outerC cA n.toNatClampNeg H.size n.toNatClampNeg = vp_cell cA (n.toNatClampNeg, .inr (.inr (.inr (.inr (fun i => if i < n.toNatClampNeg then some (H.size + 1 + i) else none))))) := by
    rw [vp_cell_q]
    exact vr_outer cA n.toNatClampNeg H.size n.toNatClampNeg
  rw [hout] at f2
  have hlt : ∀ a, a ∈ L → a < H.size := fun a ha => by
    obtain ⟨k9, hk9⟩ := va_pl_get (X := X) (f := f) ha
    exact (hP k9 _ hk9).lt
  have hnl : ∀ i : Nat, i < n.toNatClampNeg → H.size + 1 + i ∉ L := fun i _ h => by
    have := hlt _ h
    omega
  have hnm : ∀ a, a ∈ (List.range n.toNatClampNeg).map (fun i => H.size + 1 + i) → a ∉ L := fun a ha h => by
    obtain ⟨i, -, rfl⟩ := List.mem_map.mp ha
    have := hlt _ h
    omega
  have hP0 : va_P D cl (X ++ va_pl L f) F.heap := hP.kept (fun k9 x hx => hold x.1 ((hP k9 x hx).lt))
  have hP1 : va_P D cl ((X ++ va_pl L f) ++ [(H.size, .inl (cA, n.toNatClampNeg, .inr (.inr (.inr (.inr (fun i => if i < n.toNatClampNeg then some (H.size + 1 + i) else none))))))]) F.heap := hP0.app (fun k9 x hx => by
    have h0 : k9 < 1 := (List.getElem?_eq_some_iff.mp hx).1
    rw [show k9 = 0 by omega] at hx
    cases hx
    exact f2)
  have hP2 : va_P D cl (((X ++ va_pl L f) ++ [(H.size, .inl (cA, n.toNatClampNeg, .inr (.inr (.inr (.inr (fun i => if i < n.toNatClampNeg then some (H.size + 1 + i) else none))))))]) ++ ((List.range n.toNatClampNeg).map (fun i => H.size + 1 + i)).map (fun a => (a, .inl (cy, z)))) F.heap := hP1.app (fun k9 x hx => by
    obtain ⟨a, ha, rfl⟩ := List.mem_map.mp (List.mem_of_getElem? hx)
    obtain ⟨i, hi, rfl⟩ := List.mem_map.mp ha
    exact hrow i (List.mem_range.mp hi))
  have hD2 : va_D A (((X ++ va_pl L f) ++ [(H.size, .inl (cA, n.toNatClampNeg, .inr (.inr (.inr (.inr (fun i => if i < n.toNatClampNeg then some (H.size + 1 + i) else none))))))]) ++ ((List.range n.toNatClampNeg).map (fun i => H.size + 1 + i)).map (fun a => (a, .inl (cy, z)))) := by
    have hD1 := hD.push (e := .inl (cA, n.toNatClampNeg, .inr (.inr (.inr (.inr (fun i => if i < n.toNatClampNeg then some (H.size + 1 + i) else none)))))) hP rfl (hA _ hS.1)
    generalize hW1 : (X ++ va_pl L f) ++ [(H.size, .inl (cA, n.toNatClampNeg, .inr (.inr (.inr (.inr (fun i => if i < n.toNatClampNeg then some (H.size + 1 + i) else none))))))] = W1 at hD1 hP1 ⊢
    have hle : ∀ (k9 : Nat) (x : Nat × va_E), W1[k9]? = some x → x.1 ≤ H.size := fun k9 x hx => by
      rw [← hW1] at hx
      by_cases hl : k9 < (X ++ va_pl L f).length
      · rw [List.getElem?_append_left hl] at hx
        exact Nat.le_of_lt ((hP k9 x hx).lt)
      · rw [List.getElem?_append_right (by omega)] at hx
        have h0 : k9 - (X ++ va_pl L f).length < 1 := (List.getElem?_eq_some_iff.mp hx).1
        rw [show k9 - (X ++ va_pl L f).length = 0 by omega] at hx
        cases hx
        exact Nat.le_refl _
    have hr : ∀ (k9 : Nat) (x : Nat × va_E), (((List.range n.toNatClampNeg).map (fun i => H.size + 1 + i)).map (fun a => ((a, .inl (cy, z)) : Nat × va_E)))[k9]? = some x → x.1 = H.size + 1 + k9 := fun k9 x hx => by
      rw [List.getElem?_map, List.getElem?_map] at hx
      by_cases h9 : k9 < n.toNatClampNeg
      · rw [List.getElem?_range h9] at hx
        cases hx
        rfl
      · have hn0 : (List.range n.toNatClampNeg)[k9]? = none := List.getElem?_eq_none (by rw [List.length_range]; omega)
        rw [hn0] at hx
        cases hx
    refine ⟨fun i j x y hi hj hxy => ?_, fun k9 x hx => ?_⟩
    · by_cases h1 : i < W1.length <;> by_cases h2 : j < W1.length
      · rw [List.getElem?_append_left h1] at hi
        rw [List.getElem?_append_left h2] at hj
        exact hD1.1 i j x y hi hj hxy
      · rw [List.getElem?_append_left h1] at hi
        rw [List.getElem?_append_right (by omega)] at hj
        have := hle _ _ hi
        have := hr _ _ hj
        omega
      · rw [List.getElem?_append_right (by omega)] at hi
        rw [List.getElem?_append_left h2] at hj
        have := hle _ _ hj
        have := hr _ _ hi
        omega
      · rw [List.getElem?_append_right (by omega)] at hi hj
        have := hr _ _ hi
        have := hr _ _ hj
        omega
    · by_cases h1 : k9 < W1.length
      · rw [List.getElem?_append_left h1] at hx
        exact hD1.2 k9 x hx
      · rw [List.getElem?_append_right (by omega)] at hx
        have := hr _ _ hx
        exact hA _ (by have := hS.1; omega)
  have hAr : ArrOfT s cA (.array ty) := fun N9 z9 => by
    obtain ⟨-, k9, hk9, cm9, hkk9⟩ := (hO 0 0 0).1
    exact ⟨(fun q hq => by cases hq), k9, hk9, cm9, hkk9⟩
  have hK2 : va_K D cl (tys ++ [(cA, .array ty)]) s := ⟨hK.1, fun k9 x hx => by
    by_cases hl : k9 < tys.length
    · rw [List.getElem?_append_left hl] at hx
      exact hK.2 k9 x hx
    · rw [List.getElem?_append_right (by omega)] at hx
      have h0 : k9 - tys.length < 1 := (List.getElem?_eq_some_iff.mp hx).1
      rw [show k9 - tys.length = 0 by omega] at hx
      cases hx
      exact ⟨hAr, fA⟩⟩
  obtain ⟨t, a1, b1⟩ := kk H.size (fun i => H.size + 1 + i) cA F.heap (fun i j _ _ h => by have h9 : H.size + 1 + i = H.size + 1 + j := h; omega) hnl hK2 (by rw [← vr_rows hnm]; exact vr_lay hP2) (by rw [← vr_rows hnm]; exact vr_layD hD2) ⟨by rw [f1]; have := hS.1; omega, fun x h1 h2 => (hold x (Nat.lt_of_lt_of_le h1 hS.1)).trans (hS.2.1 x h1 h2), hS.2.2⟩ F rfl X'
  refine ⟨t, step t ?_, b1⟩
  have e : T.heap.size = H.size := by rw [hT]
  rw [e]
  exact a1
end VGM
/-! ===== END ===== -/
section QN
variable {p : Program} {l : Launch} {e : Env} {R : Room} {s : State} {m : MethodId} {args : Array Value} {below : List Frame} {meth : Method} {c : Code} {D : va_G} {A : Nat → Prop} {nL : Nat} {Q : State → Prop} {cc : ByteArray} {own mn : String} {ret : Option FieldType}
-- new int[n][k]
def q_grid (σ : q_S) (q : Nat) (rw : Nat → Nat) (N K : Nat) : q_S := fun b => if b = q then some (.inl (.array .int, N, .inr (.inr (.inr (.inr (fun i => if i < N then some (rw i) else none)))))) else if b ∈ (List.range N).map rw then some (.inl (.int, K, .inl (fun _ => 0))) else σ b
def c_mna (k : q_K) : q_K := fun L st σ cr sr => match st with | .int y :: .int x :: r => ((¬ x < 0) ∧ (¬ y < 0) ∧ x.toNatClampNeg ≤ 1000 ∧ y.toNatClampNeg ≤ 1000 ∧ 1 + x.toNatClampNeg ≤ cr ∧ x.toNatClampNeg + x.toNatClampNeg * y.toNatClampNeg ≤ sr) ∧ ∀ (q : Nat) (rw : Nat → Nat), σ q = none → (∀ i, i < x.toNatClampNeg → σ (rw i) = none ∧ rw i ≠ q) → (∀ i j, i < x.toNatClampNeg → j < x.toNatClampNeg → rw i = rw j → i = j) → k L (.ref q :: r) (q_grid σ q rw x.toNatClampNeg y.toNatClampNeg) (cr - (1 + x.toNatClampNeg)) (sr - (x.toNatClampNeg + x.toNatClampNeg * y.toNatClampNeg)) | _ => False
theorem q_mna (C : q_C p s m args meth c cc nL own mn ret A) {pc idx : Nat} {k : q_K} (hw1 : Cond.classLink own idx "[[I" ∈ lw_tbl) (hw2 : Cond.arrayClass .int ∈ lw_tbl) (d : decode cc pc = .ok (.multianewarray idx 2, 4)) (h : q_V p l e R s m args below meth c D A nL Q (pc + 4) k) : q_V p l e R s m args below meth c D A nL Q pc (c_mna k) := by
  obtain ⟨hx, hb, hml, hown, hts, hN, hA, hr, hlk, hmn⟩ := C
  intro L st σ cr sr H locs cells slots ls hl hw hS h1 h2 hk
  unfold c_mna at hk
  split at hk
  · next y x r =>
      obtain ⟨⟨hx0, hy0, hx1, hy1, hc1, hs1⟩, hk⟩ := hk
      obtain ⟨ws, tys, hK, hP, hD, hrel⟩ := hw
      have hac := hts _ (lw_mem hw2 rfl)
      obtain ⟨cy, ky, comp, f1, f2, f3⟩ := Cond.arrayClass_spec hac
      have hcy : s.vm.findClass (FieldType.array .int).toString = some cy := f1
      have hmul : x.toNatClampNeg * y.toNatClampNeg ≤ 1000 * 1000 := Nat.mul_le_mul hx1 hy1
      have hPx : va_P D q_cl (ws ++ va_pl [] (fun _ => .inr (0, []))) H := by
        show va_P D q_cl (ws ++ []) H
        rw [List.append_nil]; exact hP
      have hDx : va_D A (ws ++ va_pl [] (fun _ => .inr (0, []))) := by
        show va_D A (ws ++ [])
        rw [List.append_nil]; exact hD
      refine va_mna (X := ws) (L := []) (f := fun _ => .inr (0, [])) (ty := .int) (cy := cy) (z := (y.toNatClampNeg, .inl (fun _ => 0))) hx hb hown (hts _ (lw_mem hw1 rfl)) (hN.2.2 _ (by decide)) hac hcy hK hPx hDx hS hA hx0 hy0 rfl rfl (by omega) (by simp [componentBytes]; omega) (by omega) rfl rfl (by omega) (by omega) ?_ d ?_
      · intro c0
        show ({ cls := c0, slots := Array.replicate _ _, vm := .none } : Cell) = _
        rw [arrV_new]
        rfl
      · intro q rw cA H1 hinj hnl hK1 hP1 hD1 hS1
        have hKy : va_K D q_cl [(cy, .int)] s := ⟨hK.1, fun k9 z9 hz9 => by
          have h0 : k9 < 1 := (List.getElem?_eq_some_iff.mp hz9).1
          have h0 : k9 = 0 := by omega
          subst h0
          cases hz9
          exact ⟨fun N9 z9 => ⟨(fun q hq => by cases hq), ky, f2, comp, f3⟩, f1⟩⟩
        have hK2 := hK1.app hKy
        have hi0 : ∀ (j : Nat) (z : Nat × va_E), ws[j]? = some z → ((ws ++ [(q, .inl (cA, x.toNatClampNeg, .inr (.inr (.inr (.inr (fun i => if i < x.toNatClampNeg then some (rw i) else none))))))]) ++ va_pl ([] ++ (List.range x.toNatClampNeg).map rw) (vr_up (fun _ => .inr (0, [])) ((List.range x.toNatClampNeg).map rw) (.inl (cy, (y.toNatClampNeg, .inl (fun _ => 0))))))[j]? = some z := fun j z hj => by
          have hj1 := (List.getElem?_eq_some_iff.mp hj).1
          rw [List.getElem?_append_left (by simp; omega), List.getElem?_append_left hj1]
          exact hj
        have hiq : ((ws ++ [(q, .inl (cA, x.toNatClampNeg, .inr (.inr (.inr (.inr (fun i => if i < x.toNatClampNeg then some (rw i) else none))))))]) ++ va_pl ([] ++ (List.range x.toNatClampNeg).map rw) (vr_up (fun _ => .inr (0, [])) ((List.range x.toNatClampNeg).map rw) (.inl (cy, (y.toNatClampNeg, .inl (fun _ => 0))))))[ws.length]? = some (q, .inl (cA, x.toNatClampNeg, .inr (.inr (.inr (.inr (fun i => if i < x.toNatClampNeg then some (rw i) else none)))))) := by
          rw [List.getElem?_append_left (by simp)]
          simp
        have hir : ∀ i, i < x.toNatClampNeg → ((ws ++ [(q, .inl (cA, x.toNatClampNeg, .inr (.inr (.inr (.inr (fun i => if i < x.toNatClampNeg then some (rw i) else none))))))]) ++ va_pl ([] ++ (List.range x.toNatClampNeg).map rw) (vr_up (fun _ => .inr (0, [])) ((List.range x.toNatClampNeg).map rw) (.inl (cy, (y.toNatClampNeg, .inl (fun _ => 0))))))[ws.length + 1 + i]? = some (rw i, .inl (cy, (y.toNatClampNeg, .inl (fun _ => 0)))) := fun i hi => by
          rw [List.getElem?_append_right (by simp <;> omega)]
          simp only [va_pl, List.nil_append, List.length_append, List.length_cons, List.length_nil, List.getElem?_map]
          rw [show ws.length + 1 + i - (ws.length + (0 + 1)) = i by omega, List.getElem?_range hi]
          simp only [Option.map_some]
          rw [vr_up_in (List.mem_map.mpr ⟨i, List.mem_range.mpr hi, rfl⟩)]
        generalize hW9 : ((ws ++ [(q, .inl (cA, x.toNatClampNeg, .inr (.inr (.inr (.inr (fun i => if i < x.toNatClampNeg then some (rw i) else none))))))]) ++ va_pl ([] ++ (List.range x.toNatClampNeg).map rw) (vr_up (fun _ => .inr (0, [])) ((List.range x.toNatClampNeg).map rw) (.inl (cy, (y.toNatClampNeg, .inl (fun _ => 0)))))) = W9 at hP1 hD1 hi0 hiq hir
        have hfresh : ∀ (b j : Nat) (x9 : va_E), W9[j]? = some (b, x9) → ws.length ≤ j → σ b = none := fun b j x9 hj hle => by
          cases hb9 : σ b with
          | none => rfl
          | some e9 =>
            obtain ⟨i, y9, hi⟩ := (hrel b e9 hb9).at
            have h3 := hD1.1 _ _ _ _ (hi0 _ _ hi) hj rfl
            have h4 := (List.getElem?_eq_some_iff.mp hi).1
            omega
        refine h _ _ _ _ _ _ _ _ _ _ hl ⟨W9, (tys ++ [(cA, .array .int)]) ++ [(cy, .int)], hK2, hP1, hD1, fun b e9 hb9 => ?_⟩ hS1 (by omega) (by omega) (hk q rw (hfresh q _ _ hiq (Nat.le_refl _)) (fun i hi => ⟨hfresh _ _ _ (hir i hi) (by omega), fun h9 => ?_⟩) hinj)
        · unfold q_grid at hb9
          split at hb9
          · next e1 =>
              subst e1
              cases hb9
              exact ⟨ws.length, tys.length, cA, hiq, by simp⟩
          · split at hb9
            · next e2 =>
                obtain ⟨i, hi, rfl⟩ := List.mem_map.mp e2
                cases hb9
                exact ⟨ws.length + 1 + i, tys.length + 1, cy, hir i (List.mem_range.mp hi), by simp⟩
            · exact (hrel b e9 hb9).mono (fun j y9 hj => ⟨j, hi0 _ _ hj⟩) (fun t y9 ht => ⟨t, by
                have ht1 := (List.getElem?_eq_some_iff.mp ht).1
                rw [List.getElem?_append_left (by simp; omega), List.getElem?_append_left ht1]; exact ht⟩)
        · have h3 := hD1.1 _ _ _ _ (hir i hi) hiq (by exact h9)
          omega
  · exact hk.elim
def q_rc (oc : Option Nat) (av : List Value) (σ : q_S) : Prop := match oc with
  | none => True
  | some ci => match av with
    | .ref b :: _ => q_oc σ b = some ci
    | _ => False
def q_CO (p : Program) (l : Launch) (e : Env) (R : Room) (s : State) (m : MethodId) (args : Array Value) (below : List Frame) (meth : Method) (c : Code) (D : va_G) (A : Nat → Prop) (nL : Nat) (Q : State → Prop) (pc np : Nat) (oc : Option Nat) (sp : q_Sp) (mc ms : Nat) : Prop :=
  ∀ (L : List (Option Value)) (rest av : List Value) (σ : q_S) (post : Option Value → q_S → Prop) (H : Heap) (locs : List Loc) (cells slots : Nat) (ls : Array Slot), q_lv ls nL L → q_W D A σ s H → va_S A s.heap H locs → cells + mc ≤ R.cells → slots + ms ≤ R.slots → av.length = np → (rest.map fun v => v.category).sum ≤ 8 → q_rc oc av σ → sp av σ post →
    (∀ (r : Option Value) (σ' : q_S) (H1 : Heap) (locs1 : List Loc), post r σ' → q_W D A σ' s H1 → va_S A s.heap H1 locs1 → W p l e R s m args below meth c H1 locs1 (cells + mc) (slots + ms) Q (F0 m (pc + 3) ls (r.toList ++ rest))) → W p l e R s m args below meth c H locs cells slots Q (F0 m pc ls (av.reverse ++ rest))
theorem q_callW {H : Heap} {locs : List Loc} {cells slots mc ms pc : Nat} {ls : Array Slot} {st0 rest : List Value} {a : Array Value} {post : Option Value → q_S → Prop} (hr : va_Run p l e R s m args below meth c H locs cells slots mc ms (F0 m pc ls st0) rest (q_Qc D A post a) A) (hS : va_S A s.heap H locs)
    (kk : ∀ (r : Option Value) (σ' : q_S) (H1 : Heap) (locs1 : List Loc), post r σ' → q_W D A σ' s H1 → va_S A s.heap H1 locs1 → W p l e R s m args below meth c H1 locs1 (cells + mc) (slots + ms) Q (F0 m (pc + 3) ls (r.toList ++ rest))) : W p l e R s m args below meth c H locs cells slots Q (F0 m pc ls st0) := by
  intro T hT X
  obtain ⟨v, st₀, t, T', L, h0, X', hL, e1, e2, ⟨⟨r, σ', hv, hp, hw⟩, hz, hk⟩, st⟩ := hr T hT X
  cases hv
  rw [h0] at hz hk
  have hal : s.vm.Alike t.vm := by rw [← e2]; exact X'.warmed.alike
  obtain ⟨t2, a1, b1⟩ := kk v σ' T'.heap (locs ++ L) hp (by rw [e1]; exact q_W.moved hal.symm hw)
    ⟨Nat.le_trans hS.1 (by rw [e1]; exact hz), fun q h1 h2 => by rw [e1, hk q (Nat.lt_of_lt_of_le h1 hS.1) h2]; exact hS.2.1 q h1 h2, fun q hq => by
      rcases List.mem_append.mp hq with h | h
      · exact hS.2.2 q h
      · exact hL q h⟩ T' rfl X'
  exact ⟨t2, st t2 a1, b1⟩
theorem q_blind {σ : q_S} {av : List Value} {sz : Nat} : FrameBlind (q_Pc D A σ av sz) := fun a U g mk h => ⟨h.1, h.2.1, q_W.moved (u := U) (U := U.calling g mk a) (Vm.Alike.refl U.vm) h.2.2.1, q_N.same (u := U) (U := U.calling g mk a) rfl h.2.2.2⟩
theorem q_pre {H : Heap} {σ : q_S} (hN : q_N s) (hw : q_W D A σ s H) (av : List Value) : ∀ U : State, U.heap = H → s.WarmedH U.vm → q_Pc D A σ av H.size av.toArray U := fun U hU hW => ⟨rfl, by rw [hU], by rw [hU]; exact q_W.moved hW.alike hw, hN.warm hW⟩
theorem q_coV (C : q_C p s m args meth c cc nL own mn ret A) {pc idx np : Nat} {y : MethodName} {b : ByteArray} {n : Nat} {ret2 : Option FieldType} {ci : Nat} {rc : vw_C} {rm : Room} {sp : q_Sp} (hM : q_Ct l y b n ret2 rm sp) (hwc : Cond.code y b n ret2 ∈ lw_tbl) (hc : q_cl[ci]? = some rc) (hy : y.cls = rc.1) (w1 : Cond.methodLink own idx y ∈ lw_tbl) (w2 : Cond.instanceMethod y ∈ lw_tbl) (w3 : Cond.selects rc.1 y y ∈ lw_tbl) (w4 : Cond.initialized rc.1 ∈ lw_tbl) (hd : y.cls ≠ "java/lang/invoke/MethodHandle" ∧ y.cls ≠ "java/lang/invoke/VarHandle" ∧ (parseMethodDescriptor y.desc).map (fun d => d.parameters.length) = some np) (d : decode cc pc = .ok (.invokevirtual idx, 3)) (hR : rm.frames + 1 ≤ R.frames ∧ 8 + (n + 11) + rm.locals ≤ R.locals) : q_CO p l e R s m args below meth c D A nL Q pc (np + 1) (some ci) sp rm.cells rm.slots := by
  obtain ⟨hx, hb, hml, hown, hts, hN, hA, hr, hlk, hmn⟩ := C
  intro L rest av σ post H locs cells slots ls hl hw hS h1 h2 hn hsum hrc hsp kk
  have hA1 : ∀ q, H.size ≤ q → A q := fun q hq => hA q (Nat.le_trans hS.1 hq)
  match av, hrc with
  | .ref b0 :: As, hrc =>
    obtain ⟨fs, e1⟩ := q_oc_some hrc
    have hw0 := hw
    obtain ⟨ws, tys, hK, hP, hD, hrel⟩ := hw
    obtain ⟨q0, hq⟩ := hrel b0 _ e1
    rw [List.reverse_cons, List.append_assoc]
    refine q_callW (va_runV (C := rc.1) (As := As) (rest := rest) (n := np) ⟨hx, hb, hml, hown, hts⟩ (hM D A H.size σ (.ref b0 :: As) post hA1 hsp) ⟨callB_of np hts (q_goodIn (y := y) (b := b) (n := n) (r := ret2) hwc) rfl rfl rfl (by rw [hy]; exact hts _ (lw_mem w4 rfl)) (hts _ (lw_mem w1 rfl)) hd hR, hts _ (lw_mem w2 rfl), hts _ (lw_mem w3 rfl)⟩ ⟨q_blind, va_recv hK hP hc hq, q_pre hN hw0 _⟩ rfl (by simpa using hn) hl.2.2.1 rfl (lv_room hsum) d ⟨h1, h2⟩) hS kk
theorem q_coS (C : q_C p s m args meth c cc nL own mn ret A) {pc idx np : Nat} {y : MethodName} {b : ByteArray} {n : Nat} {ret2 : Option FieldType} {rm : Room} {sp : q_Sp} (hM : q_Ct l y b n ret2 rm sp) (hwc : Cond.code y b n ret2 ∈ lw_tbl) (w1 : Cond.methodLink own idx y ∈ lw_tbl) (w2 : Cond.static y ∈ lw_tbl) (w4 : Cond.initialized y.cls ∈ lw_tbl) (hd : y.cls ≠ "java/lang/invoke/MethodHandle" ∧ y.cls ≠ "java/lang/invoke/VarHandle" ∧ (parseMethodDescriptor y.desc).map (fun d => d.parameters.length) = some np) (d : decode cc pc = .ok (.invokestatic idx, 3)) (hR : rm.frames + 1 ≤ R.frames ∧ 8 + (n + 11) + rm.locals ≤ R.locals) : q_CO p l e R s m args below meth c D A nL Q pc np none sp rm.cells rm.slots := by
  obtain ⟨hx, hb, hml, hown, hts, hN, hA, hr, hlk, hmn⟩ := C
  intro L rest av σ post H locs cells slots ls hl hw hS h1 h2 hn hsum hrc hsp kk
  have hA1 : ∀ q, H.size ≤ q → A q := fun q hq => hA q (Nat.le_trans hS.1 hq)
  refine q_callW (va_runS (As := av) (rest := rest) (n := np) ⟨hx, hb, hml, hown, hts⟩ (hM D A H.size σ av post hA1 hsp) ⟨callB_of np hts (q_goodIn (y := y) (b := b) (n := n) (r := ret2) hwc) rfl rfl rfl (hts _ (lw_mem w4 rfl)) (hts _ (lw_mem w1 rfl)) hd hR, hts _ (lw_mem w2 rfl)⟩ ⟨q_blind, q_pre hN hw _⟩ rfl hn hl.2.2.1 rfl (lv_room hsum) d ⟨h1, h2⟩) hS kk
theorem q_coSN (C : q_C p s m args meth c cc nL own mn ret A) {pc idx np : Nat} {y : MethodName} {b : ByteArray} {n : Nat} {ret2 : Option FieldType} {rm : Room} {sp : q_Sp} (hM : q_Ct l y b n ret2 rm sp) (hwc : Cond.code y b n ret2 ∈ lw_tbl) (w1 : (own, idx, y) ∈ q_nM) (w2 : Cond.static y ∈ lw_tbl) (w4 : Cond.initialized y.cls ∈ lw_tbl) (hd : y.cls ≠ "java/lang/invoke/MethodHandle" ∧ y.cls ≠ "java/lang/invoke/VarHandle" ∧ (parseMethodDescriptor y.desc).map (fun d => d.parameters.length) = some np) (d : decode cc pc = .ok (.invokestatic idx, 3)) (hR : rm.frames + 1 ≤ R.frames ∧ 8 + (n + 11) + rm.locals ≤ R.locals) : q_CO p l e R s m args below meth c D A nL Q pc np none sp rm.cells rm.slots := by
  obtain ⟨hx, hb, hml, hown, hts, hN, hA, hr, hlk, hmn⟩ := C
  intro L rest av σ post H locs cells slots ls hl hw hS h1 h2 hn hsum hrc hsp kk
  have hA1 : ∀ q, H.size ≤ q → A q := fun q hq => hA q (Nat.le_trans hS.1 hq)
  refine q_callW (va_runSN (host := "CopyRegister") (As := av) (rest := rest) (n := np) ⟨hx, hb, hml, hown, hts⟩ (hM D A H.size σ av post hA1 hsp) ⟨va_cnB np hts (q_goodIn (y := y) (b := b) (n := n) (r := ret2) hwc) rfl rfl rfl (hN.2.1 _ w1) (hts _ (lw_mem w4 rfl)) hd hR, hts _ (lw_mem w2 rfl), trivial⟩ ⟨q_blind, q_pre hN hw _⟩ rfl hn hl.2.2.1 rfl (lv_room hsum) d ⟨h1, h2⟩) hS kk
theorem q_coI (C : q_C p s m args meth c cc nL own mn ret A) {pc idx np : Nat} {y : MethodName} {b : ByteArray} {n : Nat} {rm : Room} {sp : q_Sp} (hM : q_Ct l y b n none rm sp) (hwc : Cond.code y b n none ∈ lw_tbl) (hi : y.name = "<init>") (w1 : Cond.methodLink own idx y ∈ lw_tbl) (w2 : Cond.instanceMethod y ∈ lw_tbl) (w4 : Cond.initialized y.cls ∈ lw_tbl) (hd : y.cls ≠ "java/lang/invoke/MethodHandle" ∧ y.cls ≠ "java/lang/invoke/VarHandle" ∧ (parseMethodDescriptor y.desc).map (fun d => d.parameters.length) = some np) (d : decode cc pc = .ok (.invokespecial idx, 3)) {ci : Nat} (hR : rm.frames + 1 ≤ R.frames ∧ 8 + (n + 11) + rm.locals ≤ R.locals) : q_CO p l e R s m args below meth c D A nL Q pc (np + 1) (some ci) sp rm.cells rm.slots := by
  obtain ⟨hx, hb, hml, hown, hts, hN, hA, hr, hlk, hmn⟩ := C
  intro L rest av σ post H locs cells slots ls hl hw hS h1 h2 hn hsum hrc hsp kk
  have hA1 : ∀ q, H.size ≤ q → A q := fun q hq => hA q (Nat.le_trans hS.1 hq)
  match av, hrc with
  | .ref b0 :: As, hrc =>
    rw [List.reverse_cons, List.append_assoc]
    refine q_callW (va_runI (As := As) (rest := rest) (n := np) ⟨hx, hb, hml, hown, hts⟩ (hM D A H.size σ (.ref b0 :: As) post hA1 hsp) ⟨callB_of np hts (q_goodIn (y := y) (b := b) (n := n) (r := none) hwc) rfl rfl rfl (hts _ (lw_mem w4 rfl)) (hts _ (lw_mem w1 rfl)) hd hR, hi, hts _ (lw_mem w2 rfl)⟩ ⟨q_blind, q_pre hN hw _⟩ rfl (by simpa using hn) hl.2.2.1 rfl (lv_room hsum) d ⟨h1, h2⟩) hS kk
def q_do (oc : Option Nat) (sp : q_Sp) (mc ms : Nat) (k : q_K) (L : List (Option Value)) (σ : q_S) (cr sr : Nat) (av rest : List Value) : Prop := (mc ≤ cr ∧ ms ≤ sr ∧ (rest.map fun v => v.category).sum ≤ 8 ∧ q_rc oc av σ) ∧ sp av σ (fun r σ' => k L (r.toList ++ rest) σ' (cr - mc) (sr - ms))
def c_call0 (oc : Option Nat) (sp : q_Sp) (mc ms : Nat) (k : q_K) : q_K := fun L st σ cr sr => q_do oc sp mc ms k L σ cr sr [] st
theorem q_call0 (C : q_C p s m args meth c cc nL own mn ret A) {pc : Nat} {k : q_K} {oc : Option Nat} {sp : q_Sp} {mc ms : Nat} (hco : q_CO p l e R s m args below meth c D A nL Q pc 0 oc sp mc ms) (h : q_V p l e R s m args below meth c D A nL Q (pc + 3) k) : q_V p l e R s m args below meth c D A nL Q pc (c_call0 oc sp mc ms k) := by
  obtain ⟨hx, hb, hml, hown, hts, hN, hA, hr, hlk, hmn⟩ := C
  intro L st σ cr sr H locs cells slots ls hl hw hS h1 h2 hk
  unfold c_call0 at hk
  obtain ⟨⟨g1, g2, g3, g4⟩, hk⟩ := hk
  exact hco L st [] σ _ H locs cells slots ls hl hw hS (by omega) (by omega) rfl g3 g4 hk (fun r σ' H1 locs1 hp hw1 hS1 => h _ _ _ _ _ _ _ _ _ _ hl hw1 hS1 (by omega) (by omega) hp)
def c_call1 (oc : Option Nat) (sp : q_Sp) (mc ms : Nat) (k : q_K) : q_K := fun L st σ cr sr => match st with | a1 :: r => q_do oc sp mc ms k L σ cr sr [a1] r | _ => False
theorem q_call1 (C : q_C p s m args meth c cc nL own mn ret A) {pc : Nat} {k : q_K} {oc : Option Nat} {sp : q_Sp} {mc ms : Nat} (hco : q_CO p l e R s m args below meth c D A nL Q pc 1 oc sp mc ms) (h : q_V p l e R s m args below meth c D A nL Q (pc + 3) k) : q_V p l e R s m args below meth c D A nL Q pc (c_call1 oc sp mc ms k) := by
  obtain ⟨hx, hb, hml, hown, hts, hN, hA, hr, hlk, hmn⟩ := C
  intro L st σ cr sr H locs cells slots ls hl hw hS h1 h2 hk
  unfold c_call1 at hk
  split at hk
  · next a1 r =>
      obtain ⟨⟨g1, g2, g3, g4⟩, hk⟩ := hk
      exact hco L r [a1] σ _ H locs cells slots ls hl hw hS (by omega) (by omega) rfl g3 g4 hk (fun r9 σ' H1 locs1 hp hw1 hS1 => h _ _ _ _ _ _ _ _ _ _ hl hw1 hS1 (by omega) (by omega) hp)
  · exact hk.elim
def c_call2 (oc : Option Nat) (sp : q_Sp) (mc ms : Nat) (k : q_K) : q_K := fun L st σ cr sr => match st with | a2 :: a1 :: r => q_do oc sp mc ms k L σ cr sr [a1, a2] r | _ => False
theorem q_call2 (C : q_C p s m args meth c cc nL own mn ret A) {pc : Nat} {k : q_K} {oc : Option Nat} {sp : q_Sp} {mc ms : Nat} (hco : q_CO p l e R s m args below meth c D A nL Q pc 2 oc sp mc ms) (h : q_V p l e R s m args below meth c D A nL Q (pc + 3) k) : q_V p l e R s m args below meth c D A nL Q pc (c_call2 oc sp mc ms k) := by
  obtain ⟨hx, hb, hml, hown, hts, hN, hA, hr, hlk, hmn⟩ := C
  intro L st σ cr sr H locs cells slots ls hl hw hS h1 h2 hk
  unfold c_call2 at hk
  split at hk
  · next a2 a1 r =>
      obtain ⟨⟨g1, g2, g3, g4⟩, hk⟩ := hk
      exact hco L r [a1, a2] σ _ H locs cells slots ls hl hw hS (by omega) (by omega) rfl g3 g4 hk (fun r9 σ' H1 locs1 hp hw1 hS1 => h _ _ _ _ _ _ _ _ _ _ hl hw1 hS1 (by omega) (by omega) hp)
  · exact hk.elim
def c_call3 (oc : Option Nat) (sp : q_Sp) (mc ms : Nat) (k : q_K) : q_K := fun L st σ cr sr => match st with | a3 :: a2 :: a1 :: r => q_do oc sp mc ms k L σ cr sr [a1, a2, a3] r | _ => False
theorem q_call3 (C : q_C p s m args meth c cc nL own mn ret A) {pc : Nat} {k : q_K} {oc : Option Nat} {sp : q_Sp} {mc ms : Nat} (hco : q_CO p l e R s m args below meth c D A nL Q pc 3 oc sp mc ms) (h : q_V p l e R s m args below meth c D A nL Q (pc + 3) k) : q_V p l e R s m args below meth c D A nL Q pc (c_call3 oc sp mc ms k) := by
  obtain ⟨hx, hb, hml, hown, hts, hN, hA, hr, hlk, hmn⟩ := C
  intro L st σ cr sr H locs cells slots ls hl hw hS h1 h2 hk
  unfold c_call3 at hk
  split at hk
  · next a3 a2 a1 r =>
      obtain ⟨⟨g1, g2, g3, g4⟩, hk⟩ := hk
      exact hco L r [a1, a2, a3] σ _ H locs cells slots ls hl hw hS (by omega) (by omega) rfl g3 g4 hk (fun r9 σ' H1 locs1 hp hw1 hS1 => h _ _ _ _ _ _ _ _ _ _ hl hw1 hS1 (by omega) (by omega) hp)
  · exact hk.elim
def c_call4 (oc : Option Nat) (sp : q_Sp) (mc ms : Nat) (k : q_K) : q_K := fun L st σ cr sr => match st with | a4 :: a3 :: a2 :: a1 :: r => q_do oc sp mc ms k L σ cr sr [a1, a2, a3, a4] r | _ => False
theorem q_call4 (C : q_C p s m args meth c cc nL own mn ret A) {pc : Nat} {k : q_K} {oc : Option Nat} {sp : q_Sp} {mc ms : Nat} (hco : q_CO p l e R s m args below meth c D A nL Q pc 4 oc sp mc ms) (h : q_V p l e R s m args below meth c D A nL Q (pc + 3) k) : q_V p l e R s m args below meth c D A nL Q pc (c_call4 oc sp mc ms k) := by
  obtain ⟨hx, hb, hml, hown, hts, hN, hA, hr, hlk, hmn⟩ := C
  intro L st σ cr sr H locs cells slots ls hl hw hS h1 h2 hk
  unfold c_call4 at hk
  split at hk
  · next a4 a3 a2 a1 r =>
      obtain ⟨⟨g1, g2, g3, g4⟩, hk⟩ := hk
      exact hco L r [a1, a2, a3, a4] σ _ H locs cells slots ls hl hw hS (by omega) (by omega) rfl g3 g4 hk (fun r9 σ' H1 locs1 hp hw1 hS1 => h _ _ _ _ _ _ _ _ _ _ hl hw1 hS1 (by omega) (by omega) hp)
  · exact hk.elim
def c_call5 (oc : Option Nat) (sp : q_Sp) (mc ms : Nat) (k : q_K) : q_K := fun L st σ cr sr => match st with | a5 :: a4 :: a3 :: a2 :: a1 :: r => q_do oc sp mc ms k L σ cr sr [a1, a2, a3, a4, a5] r | _ => False
theorem q_call5 (C : q_C p s m args meth c cc nL own mn ret A) {pc : Nat} {k : q_K} {oc : Option Nat} {sp : q_Sp} {mc ms : Nat} (hco : q_CO p l e R s m args below meth c D A nL Q pc 5 oc sp mc ms) (h : q_V p l e R s m args below meth c D A nL Q (pc + 3) k) : q_V p l e R s m args below meth c D A nL Q pc (c_call5 oc sp mc ms k) := by
  obtain ⟨hx, hb, hml, hown, hts, hN, hA, hr, hlk, hmn⟩ := C
  intro L st σ cr sr H locs cells slots ls hl hw hS h1 h2 hk
  unfold c_call5 at hk
  split at hk
  · next a5 a4 a3 a2 a1 r =>
      obtain ⟨⟨g1, g2, g3, g4⟩, hk⟩ := hk
      exact hco L r [a1, a2, a3, a4, a5] σ _ H locs cells slots ls hl hw hS (by omega) (by omega) rfl g3 g4 hk (fun r9 σ' H1 locs1 hp hw1 hS1 => h _ _ _ _ _ _ _ _ _ _ hl hw1 hS1 (by omega) (by omega) hp)
  · exact hk.elim
def c_call6 (oc : Option Nat) (sp : q_Sp) (mc ms : Nat) (k : q_K) : q_K := fun L st σ cr sr => match st with | a6 :: a5 :: a4 :: a3 :: a2 :: a1 :: r => q_do oc sp mc ms k L σ cr sr [a1, a2, a3, a4, a5, a6] r | _ => False
theorem q_call6 (C : q_C p s m args meth c cc nL own mn ret A) {pc : Nat} {k : q_K} {oc : Option Nat} {sp : q_Sp} {mc ms : Nat} (hco : q_CO p l e R s m args below meth c D A nL Q pc 6 oc sp mc ms) (h : q_V p l e R s m args below meth c D A nL Q (pc + 3) k) : q_V p l e R s m args below meth c D A nL Q pc (c_call6 oc sp mc ms k) := by
  obtain ⟨hx, hb, hml, hown, hts, hN, hA, hr, hlk, hmn⟩ := C
  intro L st σ cr sr H locs cells slots ls hl hw hS h1 h2 hk
  unfold c_call6 at hk
  split at hk
  · next a6 a5 a4 a3 a2 a1 r =>
      obtain ⟨⟨g1, g2, g3, g4⟩, hk⟩ := hk
      exact hco L r [a1, a2, a3, a4, a5, a6] σ _ H locs cells slots ls hl hw hS (by omega) (by omega) rfl g3 g4 hk (fun r9 σ' H1 locs1 hp hw1 hS1 => h _ _ _ _ _ _ _ _ _ _ hl hw1 hS1 (by omega) (by omega) hp)
  · exact hk.elim
def c_call7 (oc : Option Nat) (sp : q_Sp) (mc ms : Nat) (k : q_K) : q_K := fun L st σ cr sr => match st with | a7 :: a6 :: a5 :: a4 :: a3 :: a2 :: a1 :: r => q_do oc sp mc ms k L σ cr sr [a1, a2, a3, a4, a5, a6, a7] r | _ => False
theorem q_call7 (C : q_C p s m args meth c cc nL own mn ret A) {pc : Nat} {k : q_K} {oc : Option Nat} {sp : q_Sp} {mc ms : Nat} (hco : q_CO p l e R s m args below meth c D A nL Q pc 7 oc sp mc ms) (h : q_V p l e R s m args below meth c D A nL Q (pc + 3) k) : q_V p l e R s m args below meth c D A nL Q pc (c_call7 oc sp mc ms k) := by
  obtain ⟨hx, hb, hml, hown, hts, hN, hA, hr, hlk, hmn⟩ := C
  intro L st σ cr sr H locs cells slots ls hl hw hS h1 h2 hk
  unfold c_call7 at hk
  split at hk
  · next a7 a6 a5 a4 a3 a2 a1 r =>
      obtain ⟨⟨g1, g2, g3, g4⟩, hk⟩ := hk
      exact hco L r [a1, a2, a3, a4, a5, a6, a7] σ _ H locs cells slots ls hl hw hS (by omega) (by omega) rfl g3 g4 hk (fun r9 σ' H1 locs1 hp hw1 hS1 => h _ _ _ _ _ _ _ _ _ _ hl hw1 hS1 (by omega) (by omega) hp)
  · exact hk.elim
end QN
section QR
variable {p : Program} {l : Launch} {e : Env} {R : Room} {s : State} {m : MethodId} {args : Array Value} {below : List Frame} {meth : Method} {c : Code} {D : va_G} {A : Nat → Prop} {nL : Nat} {cc : ByteArray} {own mn : String} {ret : Option FieldType} {post : Option Value → q_S → Prop}
theorem q_end {σ : q_S} {r : Option Value} {H : Heap} {locs : List Loc} (hw : q_W D A σ s H) (hS : va_S A s.heap H locs) (hp : post r σ) : ∀ t : State, t.heap = H → s.WarmedH t.vm → q_Qc D A post args s (.returned r) t := fun t ht hW => ⟨⟨r, σ, rfl, hp, by rw [ht]; exact q_W.moved hW.alike hw⟩, hS.F ht⟩
def c_iret (post : Option Value → q_S → Prop) : q_K := fun _ st σ _ _ => match st with | [.int v] => post (some (.int v)) σ | _ => False
def c_zret (post : Option Value → q_S → Prop) : q_K := fun _ st σ _ _ => match st with | [.int v] => (v = 0 ∨ v = 1) ∧ post (some (.int v)) σ | _ => False
def c_aret (post : Option Value → q_S → Prop) : q_K := fun _ st σ _ _ => match st with | [.ref a] => post (some (.ref a)) σ | [.null] => post (some .null) σ | _ => False
def c_vret (post : Option Value → q_S → Prop) : q_K := fun _ st σ _ _ => match st with | [] => post none σ | _ => False
theorem q_iret (C : q_C p s m args meth c cc nL own mn ret A) {pc : Nat} (hret : ret = some .int) (d : decode cc pc = .ok (.ireturn, 1)) : q_V p l e R s m args below meth c D A nL (MQ below (q_Qc D A post) args s R.cells R.slots A) pc (c_iret post) := by
  obtain ⟨hx, hb, hml, hown, hts, hN, hA, hr, hlk, hmn⟩ := C
  intro L st σ cr sr H locs cells slots ls hl hw hS h1 h2 hk
  refine W.widen (k := R.cells) (n := R.slots) (by omega) (by omega) ?_
  unfold c_iret at hk
  split at hk
  · exact W.iret hx hb (hr.trans hret) (q_end hw hS hk) hS.2.2 d
  · exact hk.elim
theorem q_zret (C : q_C p s m args meth c cc nL own mn ret A) {pc : Nat} (hret : ret = some .boolean) (d : decode cc pc = .ok (.ireturn, 1)) : q_V p l e R s m args below meth c D A nL (MQ below (q_Qc D A post) args s R.cells R.slots A) pc (c_zret post) := by
  obtain ⟨hx, hb, hml, hown, hts, hN, hA, hr, hlk, hmn⟩ := C
  intro L st σ cr sr H locs cells slots ls hl hw hS h1 h2 hk
  refine W.widen (k := R.cells) (n := R.slots) (by omega) (by omega) ?_
  unfold c_zret at hk
  split at hk
  · next v => exact W.zret hx hb (hr.trans hret) (by rcases hk.1 with rfl | rfl <;> decide) (q_end hw hS hk.2) hS.2.2 d
  · exact hk.elim
theorem q_aret (C : q_C p s m args meth c cc nL own mn ret A) {pc : Nat} {rt : FieldType} (hret : ret = some rt) (hrt : (∃ n, rt = .object n) ∨ ∃ t, rt = .array t) (d : decode cc pc = .ok (.areturn, 1)) : q_V p l e R s m args below meth c D A nL (MQ below (q_Qc D A post) args s R.cells R.slots A) pc (c_aret post) := by
  obtain ⟨hx, hb, hml, hown, hts, hN, hA, hr, hlk, hmn⟩ := C
  intro L st σ cr sr H locs cells slots ls hl hw hS h1 h2 hk
  refine W.widen (k := R.cells) (n := R.slots) (by omega) (by omega) ?_
  unfold c_aret at hk
  split at hk
  · next a => exact W.aret hx hb (hr.trans hret) hrt (Or.inr ⟨a, rfl⟩) (q_end hw hS hk) hS.2.2 d
  · exact W.aret hx hb (hr.trans hret) hrt (Or.inl rfl) (q_end hw hS hk) hS.2.2 d
  · exact hk.elim
theorem q_vret (C : q_C p s m args meth c cc nL own mn ret A) {pc : Nat} (hret : ret = none) (d : decode cc pc = .ok (.return_, 1)) : q_V p l e R s m args below meth c D A nL (MQ below (q_Qc D A post) args s R.cells R.slots A) pc (c_vret post) := by
  obtain ⟨hx, hb, hml, hown, hts, hN, hA, hr, hlk, hmn⟩ := C
  intro L st σ cr sr H locs cells slots ls hl hw hS h1 h2 hk
  refine W.widen (k := R.cells) (n := R.slots) (by omega) (by omega) ?_
  unfold c_vret at hk
  split at hk
  · exact W.vret hx hb (hr.trans hret) (q_end hw hS hk) hS.2.2 d
  · exact hk.elim
end QR
-- entry
theorem q_args {vs : List Value} (hc : ∀ v ∈ vs, v.category = 1) : ∀ (k i : Nat) (v : Value), vs[i]? = some v → (k + i, v) ∈ lv_args k vs := by
  induction vs with
  | nil => intro k i v h; simp at h
  | cons a t ih =>
    intro k i v h
    have ha : ¬ a.category = 2 := by rw [hc a List.mem_cons_self]; decide
    unfold lv_args
    rw [if_neg ha]
    cases i with
    | zero => simp at h; subst h; exact List.mem_cons_self
    | succ j =>
      have h3 := ih (fun v hv => hc v (List.mem_cons_of_mem _ hv)) (k + 1) j v (by simpa using h)
      rw [show k + (j + 1) = k + 1 + j by omega]
      exact List.mem_cons_of_mem _ h3
theorem q_sl {vs : List Value} (hc : ∀ v ∈ vs, v.category = 1) : (lg_sl vs).length = vs.length := by
  induction vs with
  | nil => rfl
  | cons a t ih =>
    have ha : ¬ a.category = 2 := by rw [hc a List.mem_cons_self]; decide
    have := ih (fun v hv => hc v (List.mem_cons_of_mem _ hv))
    unfold lg_sl at this ⊢
    rw [List.flatMap_cons, if_neg ha]
    simp [this]
def q_L0 (av : List Value) (n : Nat) : List (Option Value) := av.map some ++ List.replicate (n - av.length) none
theorem q_L0_get {av : List Value} {n i : Nat} {v : Value} (h : (q_L0 av n)[i]? = some (some v)) : av[i]? = some v := by
  unfold q_L0 at h
  by_cases hi : i < av.length
  · rw [List.getElem?_append_left (by simpa using hi), List.getElem?_map] at h
    cases ha : av[i]? with
    | none => rw [ha] at h; cases h
    | some w => rw [ha] at h; simpa using h
  · rw [List.getElem?_append_right (by simp; omega)] at h
    have := List.getElem?_replicate (a := (none : Option Value)) (n := n - av.length) (i := i - (av.map some).length)
    rw [this] at h
    split at h <;> cases h
theorem q_met {l : Launch} {y : MethodName} {b : ByteArray} {n : Nat} {ret : Option FieldType} {rm : Room} {sp : q_Sp} (hy : plainName y.cls = true)
    (body : ∀ (D : va_G) (A : Nat → Prop) (p : Program) (e : Env) (s : State) (m : MethodId) (args : Array Value) (below : List Frame) (meth : Method) (c : Code) (σ : q_S) (av : List Value) (post : Option Value → q_S → Prop), q_C p s m args meth c b n y.cls y.name ret A → sp av σ post →
      ∃ K : q_K, q_V p l e rm s m args below meth c D A n (MQ below (q_Qc D A post) args s rm.cells rm.slots A) 0 K ∧ K (q_L0 av n) [] σ rm.cells rm.slots ∧ av.length ≤ n ∧ ∀ v ∈ av, v.category = 1) : q_Ct l y b n ret rm sp := by
  intro D A sz σ av post hA hsp
  refine Met.ofW (cc := b) (maxL := n) (ret := ret) hy rfl ?_
  intro p e s m args below meth c s₁ B hml hv
  obtain ⟨rfl, hsz, hw, hN⟩ := hv
  have hts := atoms_spec (ws := q_ws y b n ret) B.pre
  have C : q_C p s m av.toArray meth c b n y.cls y.name ret A := ⟨B.exec, B.bytes, hml, findClass_of_methodNamed B.named, fun w hw => hts w (List.mem_cons_of_mem _ hw), hN, by rw [hsz]; exact hA, B.returns, B.notSynchronized, (name_of_methodNamed B.named B.method).1⟩
  obtain ⟨K, hV, hK, hlen, hcat⟩ := body D A p e s m av.toArray below meth c σ av post C hsp
  have hl := lv_entry av (n := n) (by rw [q_sl hcat]; exact hlen)
  rw [lg_entry_eq]
  refine hV (q_L0 av n) [] σ rm.cells rm.slots s.heap [] 0 0 _ ⟨by simp [q_L0]; omega, fun i v h => hcat v (List.mem_of_getElem? (q_L0_get h)), hl.1, hl.2.1, fun q hq => ?_⟩ hw va_S.rf (by omega) (by omega) hK
  obtain ⟨i, v⟩ := q
  have h1 := q_args hcat 0 i v (q_L0_get (q_al_mem.mp hq))
  rw [Nat.zero_add] at h1
  exact hl.2.2 _ h1
-- the rule of consequence and the frame rule
theorem q_conseq {l : Launch} {y : MethodName} {ws : List Cond} {rm : Room} {Pc Pc' : Array Value → State → Prop} {Qc Qc' : Array Value → State → Outcome → State → Prop} {mc ms : Nat} {free free' : Addr → Prop} (h : Met l y ws rm Pc Qc mc ms free) (hp : ∀ a s, Pc' a s → Pc a s) (hq : ∀ a s o t, Pc' a s → Qc a s o t → s.WarmedH t.vm → Qc' a s o t) (hf : ∀ a s, Pc' a s → ∀ q, free q → free' q) : Met l y ws rm Pc' Qc' mc ms free' := by
  intro p e h1 h2 h3 s m args below h4 h5 hP hK
  obtain ⟨n, o, a1, a2, a3, a4, L, a5, a6⟩ := h p e h1 h2 h3 s m args below h4 h5 (hp _ _ hP) hK
  exact ⟨n, o, a1, a2, a3, hq _ _ _ _ hP a4 a5.2.1, L, a5, fun q hq => hf _ _ hP _ (a6 q hq)⟩
def q_fr (sp : q_Sp) : q_Sp := fun av σ post => ∃ σ1 : q_S, (∀ a e, σ1 a = some e → σ a = some e) ∧ sp av σ1 (fun r σ2 => ∀ σ' : q_S, (∀ a e, σ2 a = some e → σ' a = some e) → (∀ a e, σ1 a = none → σ a = some e → σ' a = some e ∧ σ2 a = none) → post r σ')
theorem q_nd {ws : va_W} : (∀ (i j : Nat) (p q : Nat × va_E), ws[i]? = some p → ws[j]? = some q → p.1 = q.1 → i = j) ↔ (ws.map (fun x => x.1)).Nodup := by
  rw [List.nodup_iff_pairwise_ne, List.pairwise_iff_getElem]
  constructor
  · intro h i j hi hj hij he
    rw [List.length_map] at hi hj
    rw [List.getElem_map, List.getElem_map] at he
    have := h i j _ _ (List.getElem?_eq_getElem hi) (List.getElem?_eq_getElem hj) he
    omega
  · intro h i j p q hp hq he
    obtain ⟨hi, rfl⟩ := List.getElem?_eq_some_iff.mp hp
    obtain ⟨hj, rfl⟩ := List.getElem?_eq_some_iff.mp hq
    rcases Nat.lt_trichotomy i j with hlt | heq | hgt
    · exact absurd (by rw [List.getElem_map, List.getElem_map]; exact he) (h i j (by simpa using hi) (by simpa using hj) hlt)
    · exact heq
    · exact absurd (by rw [List.getElem_map, List.getElem_map]; exact he.symm) (h j i (by simpa using hj) (by simpa using hi) hgt)
theorem q_fil {ws : va_W} {f : Nat × va_E → Bool} {k : Nat} {q : Nat × va_E} (h : (ws.filter f)[k]? = some q) : f q = true ∧ ∃ j : Nat, ws[j]? = some q := by
  have h1 := List.mem_filter.mp (List.mem_of_getElem? h)
  exact ⟨h1.2, List.getElem?_of_mem h1.1⟩
theorem q_fil2 {ws : va_W} {f : Nat × va_E → Bool} {k : Nat} {q : Nat × va_E} (h : ws[k]? = some q) (hf : f q = true) : ∃ j : Nat, (ws.filter f)[j]? = some q :=
  List.getElem?_of_mem (List.mem_filter.mpr ⟨List.mem_of_getElem? h, hf⟩)
theorem va_D.fil {A B : Nat → Prop} {ws : va_W} (h : va_D A ws) (f : Nat × va_E → Bool) (hB : ∀ x, f x = true → A x.1 → B x.1) : va_D B (ws.filter f) := by
  refine ⟨q_nd.mpr ?_, fun k q hk => ?_⟩
  · exact (q_nd.mp h.1).sublist (List.filter_sublist.map _)
  · obtain ⟨h1, j, hj⟩ := q_fil hk
    exact hB q h1 (h.2 j q hj)
def q_mix (σ σ1 σ2 : q_S) : q_S := fun a => match σ2 a with
  | some e => some e
  | none => if (σ1 a).isSome then none else σ a
theorem q_frame {l : Launch} {y : MethodName} {b : ByteArray} {n : Nat} {ret : Option FieldType} {rm : Room} {sp : q_Sp} (h : q_Ct l y b n ret rm sp) : q_Ct l y b n ret rm (q_fr sp) := by
  intro D A sz σ av post hA hsp
  obtain ⟨σ1, hsub, hsp⟩ := hsp
  have hM := h D (fun q => (σ1 q).isSome = true ∨ sz ≤ q) sz σ1 av _ (fun q hq => Or.inr hq) hsp
  have hAA : ∀ (U : State) (H : Heap), q_W D A σ U H → ∀ q, ((σ1 q).isSome = true ∨ sz ≤ q) → A q := fun U H hw q hq => by
    rcases hq with hq | hq
    · obtain ⟨e, he⟩ := Option.isSome_iff_exists.mp hq
      obtain ⟨ws, tys, hK, hP, hD, hrel⟩ := hw
      obtain ⟨k, e', hk⟩ := (hrel q e (hsub q e he)).at
      exact hD.2 k _ hk
    · exact hA q hq
  refine q_conseq hM ?_ ?_ ?_
  · intro a U hp
    obtain ⟨ha, hsz, hw, hN⟩ := hp
    refine ⟨ha, hsz, ?_, hN⟩
    obtain ⟨ws, tys, hK, hP, hD, hrel⟩ := hw
    refine ⟨ws.filter (fun x => (σ1 x.1).isSome), tys, hK, fun k q hk => ?_, hD.fil _ (fun x hx _ => Or.inl hx), fun a e he => ?_⟩
    · obtain ⟨-, j, hj⟩ := q_fil hk
      exact hP j q hj
    · refine (hrel a e (hsub a e he)).mono (fun k x hk => q_fil2 hk (by rw [he]; rfl)) (fun t x ht => ⟨t, ht⟩)
  · intro a U o t hp hq hW
    obtain ⟨ha, hsz, hw, hN⟩ := hp
    obtain ⟨⟨r, σ2, ho, hpost, hw2⟩, hF⟩ := hq
    have hAA1 := hAA _ _ hw
    obtain ⟨ws, tys, hK, hP, hD, hrel⟩ := hw
    obtain ⟨ws2, tys2, hK2, hP2, hD2, hrel2⟩ := hw2
    have hout : ∀ (k : Nat) (x : Nat × va_E), ws[k]? = some x → (σ1 x.1).isSome = false → ¬ ((σ1 x.1).isSome = true ∨ sz ≤ x.1) := fun k x hk hx h9 => by
      have hlt := (hP k x hk).lt
      rcases h9 with h9 | h9
      · rw [hx] at h9; cases h9
      · omega
    have hnone : ∀ a e, σ1 a = none → σ a = some e → σ2 a = none := fun a e h1 h2 => by
      cases h3 : σ2 a with
      | none => rfl
      | some e2 =>
        obtain ⟨k, x, hk⟩ := (hrel2 a e2 h3).at
        obtain ⟨j, x', hj⟩ := (hrel a e h2).at
        have h4 := hD2.2 k (a, x) hk
        exact ((hout j (a, x') hj (by simp [h1])) h4).elim
    refine ⟨⟨r, q_mix σ σ1 σ2, ho, hpost _ (fun a e he => by simp [q_mix, he]) (fun a e h1 h2 => ⟨by simp [q_mix, hnone a e h1 h2, h1, h2], hnone a e h1 h2⟩), ?_⟩, hF.1, fun q h1 h2 => hF.2 q h1 (fun h9 => h2 (hAA1 q h9))⟩
    refine ⟨ws2 ++ ws.filter (fun x => !(σ1 x.1).isSome), tys2 ++ tys, hK2.app (va_K.moved hW.alike hK), hP2.app (fun k x hk => ?_), ⟨q_nd.mpr ?_, fun k x hk => ?_⟩, fun a e he => ?_⟩
    · obtain ⟨h1, j, hj⟩ := q_fil hk
      refine (hP j x hj).kept (hF.2 x.1 ?_ (hout j x hj (by simpa using h1)))
      exact (hP j x hj).lt
    · rw [List.map_append, List.nodup_append]
      refine ⟨q_nd.mp hD2.1, (q_nd.mp hD.1).sublist (List.filter_sublist.map _), fun a ha b hb hab => ?_⟩
      obtain ⟨x, hx, rfl⟩ := List.mem_map.mp ha
      obtain ⟨z, hz, rfl⟩ := List.mem_map.mp hb
      obtain ⟨k, hk⟩ := List.getElem?_of_mem hx
      obtain ⟨j, hj⟩ := List.getElem?_of_mem hz
      obtain ⟨h1, j2, hj2⟩ := q_fil hj
      have h3 := hD2.2 k _ hk
      rw [hab] at h3
      exact hout j2 z hj2 (by simpa using h1) h3
    · rcases List.mem_append.mp (List.mem_of_getElem? hk) with hm | hm
      · obtain ⟨j, hj⟩ := List.getElem?_of_mem hm
        exact hAA1 _ (hD2.2 j x hj)
      · obtain ⟨j, hj⟩ := List.getElem?_of_mem hm
        obtain ⟨-, j2, hj2⟩ := q_fil hj
        exact hD.2 j2 x hj2
    · unfold q_mix at he
      split at he
      · next e2 h2 =>
          refine (hrel2 a e (h2.trans he)).mono (fun k x hk => ⟨k, ?_⟩) (fun t x ht => ⟨t, ?_⟩)
          · rw [List.getElem?_append_left (List.getElem?_eq_some_iff.mp hk).1]; exact hk
          · rw [List.getElem?_append_left (List.getElem?_eq_some_iff.mp ht).1]; exact ht
      · next h2 =>
          split at he
          · cases he
          · next h3 =>
              refine (hrel a e he).mono (fun k x hk => ?_) (fun t x ht => ?_)
              · exact List.getElem?_of_mem (List.mem_append_right _ (List.mem_filter.mpr ⟨List.mem_of_getElem? hk, by simpa using h3⟩))
              · exact List.getElem?_of_mem (List.mem_append_right _ (List.mem_of_getElem? ht))
  · intro a U hp q hq
    exact hAA _ _ hp.2.2.1 q hq

