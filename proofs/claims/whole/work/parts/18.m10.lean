-- facts of the longest row
section RNF
variable {lk : Nat → Nat → Bool} {la lb : Nat}
theorem RN_i (i j : Nat) : RN lk la lb (i + 1) j ≤ RN lk la lb i j := by
  by_cases c : i < la ∧ j < lb
  · rw [RN_in (i := i) c]; split <;> omega
  · rw [RN_out (i := i + 1) (by omega)]; omega
theorem RN_j (i j : Nat) : RN lk la lb i (j + 1) ≤ RN lk la lb i j := by
  by_cases c : i < la ∧ j < lb
  · rw [RN_in (i := i) (j := j) c]; split <;> omega
  · rw [RN_out (i := i) (j := j + 1) (by omega)]; omega
theorem RN_anti {i j : Nat} : ∀ d : Nat, RN lk la lb i (j + d) ≤ RN lk la lb i j
  | 0 => Nat.le_refl _
  | d + 1 => Nat.le_trans (RN_j i (j + d)) (RN_anti d)
theorem RN_up {i j : Nat} (hi : i < la) (hj : j < lb) (h : lk i j = true) : 1 + RN lk la lb (i + 1) (j + 1) ≤ RN lk la lb i j := by
  rw [RN_in (i := i) (j := j) ⟨hi, hj⟩, if_pos h]; omega
theorem RN_pick {m i : Nat} (hm : 1 ≤ m) : ∀ (d j : Nat), lb - j ≤ d → m ≤ RN lk la lb i j → (∃ j', j ≤ j' ∧ j' < lb ∧ lk i j' = true ∧ m - 1 ≤ RN lk la lb (i + 1) (j' + 1)) ∨ m ≤ RN lk la lb (i + 1) j := by
  intro d
  induction d with
  | zero =>
    intro j hd h
    rw [RN_out (by omega)] at h
    omega
  | succ d ih =>
    intro j hd h
    by_cases c : i < la ∧ j < lb
    · rw [RN_in c] at h
      have hj := RN_j (lk := lk) (la := la) (lb := lb) (i + 1) j
      by_cases c2 : lk i j = true
      · rw [if_pos c2] at h
        by_cases c3 : m ≤ 1 + RN lk la lb (i + 1) (j + 1)
        · exact Or.inl ⟨j, Nat.le_refl _, c.2, c2, by omega⟩
        · by_cases c4 : m ≤ RN lk la lb i (j + 1)
          · rcases ih (j + 1) (by omega) c4 with ⟨j', q1, q2, q3, q4⟩ | q
            · exact Or.inl ⟨j', by omega, q2, q3, q4⟩
            · exact Or.inr (by omega)
          · exact Or.inr (by omega)
      · rw [if_neg c2] at h
        by_cases c4 : m ≤ RN lk la lb i (j + 1)
        · rcases ih (j + 1) (by omega) c4 with ⟨j', q1, q2, q3, q4⟩ | q
          · exact Or.inl ⟨j', by omega, q2, q3, q4⟩
          · exact Or.inr (by omega)
        · exact Or.inr (by omega)
    · rw [RN_out c] at h
      omega
end RNF
def fj (P : Nat → Bool) (lb s : Nat) : Option Nat := if s < lb then (if P s then some s else fj P lb (s + 1)) else none
termination_by lb - s
decreasing_by omega
theorem fj_some {P : Nat → Bool} {lb : Nat} : ∀ (d s j : Nat), lb - s ≤ d → s ≤ j → j < lb → P j = true → (∀ j', s ≤ j' → j' < j → P j' = false) → fj P lb s = some j := by
  intro d
  induction d with
  | zero => intro s j hd h1 h2; omega
  | succ d ih =>
    intro s j hd h1 h2 h3 h4
    rw [fj, if_pos (by omega)]
    by_cases e : s = j
    · subst e; rw [if_pos h3]
    · rw [if_neg (by rw [h4 s (Nat.le_refl _) (by omega)]; decide)]
      exact ih (s + 1) j (by omega) (by omega) h2 h3 (fun j' q1 q2 => h4 j' (by omega) q2)
theorem fj_none {P : Nat → Bool} {lb : Nat} : ∀ (d s : Nat), lb - s ≤ d → (∀ j', s ≤ j' → j' < lb → P j' = false) → fj P lb s = none := by
  intro d
  induction d with
  | zero => intro s hd h; rw [fj, if_neg (by omega)]
  | succ d ih =>
    intro s hd h
    rw [fj]
    by_cases c : s < lb
    · rw [if_pos c, if_neg (by rw [h s (Nat.le_refl _) c]; decide)]
      exact ih (s + 1) (by omega) (fun j' q1 q2 => h j' (by omega) q2)
    · rw [if_neg c]
theorem fj_cases (P : Nat → Bool) (lb : Nat) : ∀ (d s : Nat), lb - s ≤ d → (fj P lb s = none ∧ ∀ j', s ≤ j' → j' < lb → P j' = false) ∨ ∃ j, fj P lb s = some j ∧ s ≤ j ∧ j < lb ∧ P j = true ∧ ∀ j', s ≤ j' → j' < j → P j' = false := by
  intro d
  induction d with
  | zero => intro s hd; exact Or.inl ⟨by rw [fj, if_neg (by omega)], fun j' q1 q2 => by omega⟩
  | succ d ih =>
    intro s hd
    by_cases c : s < lb
    · by_cases c2 : P s = true
      · exact Or.inr ⟨s, by rw [fj, if_pos c, if_pos c2], Nat.le_refl _, c, c2, fun j' q1 q2 => by omega⟩
      · have c3 : P s = false := by simpa using c2
        have e : fj P lb s = fj P lb (s + 1) := by rw [fj, if_pos c, if_neg c2]
        rcases ih (s + 1) (by omega) with ⟨q1, q2⟩ | ⟨j, q1, q2, q3, q4, q5⟩
        · exact Or.inl ⟨e.trans q1, fun j' r1 r2 => by
            rcases Nat.lt_or_ge s j' with h | h
            · exact q2 j' h r2
            · have : j' = s := by omega
              rw [this]; exact c3⟩
        · exact Or.inr ⟨j, e.trans q1, by omega, q3, q4, fun j' r1 r2 => by
            rcases Nat.lt_or_ge s j' with h | h
            · exact q5 j' h r2
            · have : j' = s := by omega
              rw [this]; exact c3⟩
    · exact Or.inl ⟨by rw [fj, if_neg c], fun j' q1 q2 => by omega⟩
def PW (lk : Nat → Nat → Bool) (la lb i s m k : Nat) : Option (Nat × Nat) :=
  if i < la then (match fj (lk i) lb s with
    | some j => if RN lk la lb (i + 1) (j + 1) + 1 = m then (if k = 0 then some (i, j) else PW lk la lb (i + 1) (j + 1) (m - 1) (k - 1)) else PW lk la lb (i + 1) s m k
    | none => PW lk la lb (i + 1) s m k) else none
termination_by la - i
decreasing_by all_goals omega
theorem PW_hit {lk : Nat → Nat → Bool} {la lb i s m j : Nat} (k : Nat) (hm : 1 ≤ m) (hR : RN lk la lb i s = m) (h1 : s ≤ j) (h2 : j < lb) (h3 : lk i j = true) (h4 : m - 1 ≤ RN lk la lb (i + 1) (j + 1)) (h5 : ∀ j', s ≤ j' → j' < j → ¬ (lk i j' = true ∧ m - 1 ≤ RN lk la lb (i + 1) (j' + 1))) : RN lk la lb (i + 1) (j + 1) = m - 1 ∧ PW lk la lb i s m k = if k = 0 then some (i, j) else PW lk la lb (i + 1) (j + 1) (m - 1) (k - 1) := by
  have hi : i < la := by
    rcases Nat.lt_or_ge i la with h | h
    · exact h
    · rw [RN_out (by omega)] at hR; omega
  have hf : fj (lk i) lb s = some j := fj_some _ _ _ (Nat.le_refl _) h1 h2 h3 (fun j' q1 q2 => by
    have h6 := h5 j' q1 q2
    cases c : lk i j' with
    | false => rfl
    | true =>
      exfalso
      apply h6
      refine ⟨c, ?_⟩
      have := RN_anti (lk := lk) (la := la) (lb := lb) (i := i + 1) (j := j' + 1) (j - j')
      rw [show j' + 1 + (j - j') = j + 1 by omega] at this
      omega)
  have hu := RN_up (lk := lk) (la := la) (lb := lb) hi h2 h3
  have ha := RN_anti (lk := lk) (la := la) (lb := lb) (i := i) (j := s) (j - s)
  rw [show s + (j - s) = j by omega] at ha
  have e : RN lk la lb (i + 1) (j + 1) = m - 1 := by omega
  refine ⟨e, ?_⟩
  rw [PW, if_pos hi, hf]
  simp only
  rw [if_pos (by omega)]
theorem PW_miss {lk : Nat → Nat → Bool} {la lb i s m : Nat} (k : Nat) (hm : 1 ≤ m) (hR : RN lk la lb i s = m) (h5 : ∀ j', s ≤ j' → j' < lb → ¬ (lk i j' = true ∧ m - 1 ≤ RN lk la lb (i + 1) (j' + 1))) : RN lk la lb (i + 1) s = m ∧ PW lk la lb i s m k = PW lk la lb (i + 1) s m k := by
  have hi : i < la := by
    rcases Nat.lt_or_ge i la with h | h
    · exact h
    · rw [RN_out (by omega)] at hR; omega
  have h6 := RN_i (lk := lk) (la := la) (lb := lb) i s
  have e : RN lk la lb (i + 1) s = m := by
    rcases RN_pick (lk := lk) (la := la) (lb := lb) (i := i) hm _ s (Nat.le_refl _) (by omega) with ⟨j', q1, q2, q3, q4⟩ | q
    · exact absurd ⟨q3, q4⟩ (h5 j' q1 q2)
    · omega
  refine ⟨e, ?_⟩
  rw [PW, if_pos hi]
  rcases fj_cases (lk i) lb _ s (Nat.le_refl _) with ⟨q1, -⟩ | ⟨j, q1, q2, q3, q4, -⟩
  · rw [q1]
  · rw [q1]
    simp only
    rw [if_neg]
    intro e9
    exact h5 j q2 q3 ⟨q4, by omega⟩
theorem PW_over {lk : Nat → Nat → Bool} {la lb : Nat} : ∀ (d i s m k : Nat), la - i ≤ d → RN lk la lb i s = m → m ≤ k → PW lk la lb i s m k = none := by
  intro d
  induction d with
  | zero => intro i s m k hd hR hk; rw [PW, if_neg (by omega)]
  | succ d ih =>
    intro i s m k hd hR hk
    by_cases hi : i < la
    · rw [PW, if_pos hi]
      rcases Nat.eq_zero_or_pos m with h0 | h0
      · have hz := RN_i (lk := lk) (la := la) (lb := lb) i s
        rcases fj_cases (lk i) lb _ s (Nat.le_refl _) with ⟨q1, -⟩ | ⟨j, q1, q2, q3, q4, -⟩
        · rw [q1]; exact ih _ _ _ _ (by omega) (by omega) hk
        · rw [q1]
          simp only
          rw [if_neg (by omega)]
          exact ih _ _ _ _ (by omega) (by omega) hk
      · by_cases hg : ∃ j, s ≤ j ∧ j < lb ∧ lk i j = true ∧ m - 1 ≤ RN lk la lb (i + 1) (j + 1)
        · have hl : ∃ j, s ≤ j ∧ j < lb ∧ lk i j = true ∧ m - 1 ≤ RN lk la lb (i + 1) (j + 1) ∧ ∀ j', s ≤ j' → j' < j → ¬ (lk i j' = true ∧ m - 1 ≤ RN lk la lb (i + 1) (j' + 1)) := by
            obtain ⟨j, hj, hl⟩ := pk_least _ hg
            exact ⟨j, hj.1, hj.2.1, hj.2.2.1, hj.2.2.2, fun j' q1 q2 q3 => hl j' q2 ⟨q1, by omega, q3.1, q3.2⟩⟩
          obtain ⟨j, q1, q2, q3, q4, q5⟩ := hl
          have h := PW_hit k h0 hR q1 q2 q3 q4 q5
          rw [PW, if_pos hi] at h
          rw [h.2, if_neg (by omega)]
          exact ih _ _ _ _ (by omega) h.1 (by omega)
        · have h := PW_miss k h0 hR (fun j' q1 q2 q3 => hg ⟨j', q1, q2, q3.1, q3.2⟩)
          rw [PW, if_pos hi] at h
          rw [h.2]
          exact ih _ _ _ _ (by omega) h.1 hk
    · rw [PW, if_neg hi]
