-- ints and places
theorem vpi {x : Int32} {n : Nat} (hn : n < 2147483648) : vp_in x n ↔ 0 ≤ x ∧ x < Int32.ofNat n := by
  rw [vp_in_iff, Int32.le_iff_toInt_le, Int32.lt_iff_toInt_lt, Int32.toInt_ofNat_of_lt (by simpa using hn)]
  simp
theorem vpi6 {x : Int32} : vp_in x 6 ↔ 0 ≤ x ∧ x < 6 := vpi (by decide)
theorem vpi12 {x : Int32} : vp_in x 12 ↔ 0 ≤ x ∧ x < 12 := vpi (by decide)
theorem vpi13 {x : Int32} : vp_in x 13 ↔ 0 ≤ x ∧ x < 13 := vpi (by decide)
theorem vpi20 {x : Int32} : vp_in x 20 ↔ 0 ≤ x ∧ x < 20 := vpi (by decide)
theorem vpi21 {x : Int32} : vp_in x 21 ↔ 0 ≤ x ∧ x < 21 := vpi (by decide)
theorem vpi40 {x : Int32} : vp_in x 40 ↔ 0 ≤ x ∧ x < 40 := vpi (by decide)
theorem vpi240 {x : Int32} : vp_in x 240 ↔ 0 ≤ x ∧ x < 240 := vpi (by decide)
theorem vpi400 {x : Int32} : vp_in x 400 ↔ 0 ≤ x ∧ x < 400 := vpi (by decide)
theorem vpi441 {x : Int32} : vp_in x 441 ↔ 0 ≤ x ∧ x < 441 := vpi (by decide)
theorem vpi1000 {x : Int32} : vp_in x 1000 ↔ 0 ≤ x ∧ x < 1000 := vpi (by decide)
theorem vpi2880 {x : Int32} : vp_in x 2880 ↔ 0 ≤ x ∧ x < 2880 := vpi (by decide)
theorem nI_self {x : Int32} (h : 0 ≤ x) : nI x.toNatClampNeg = x := by
  obtain ⟨j, hj, rfl⟩ := nI_of (x := x) (by grind)
  rw [nI_clamp hj]
theorem clampI {x : Int32} (h : 0 ≤ x) : (x.toNatClampNeg : Int) = x.toInt := by
  obtain ⟨j, hj, rfl⟩ := nI_of (x := x) (by grind)
  rw [nI_clamp hj, nI_toInt hj]
theorem clamp_le {x : Int32} (N : Nat) (h0 : 0 ≤ x) (h : x ≤ Int32.ofNat N) (hN : N < 2147483648 := by decide) : x.toNatClampNeg ≤ N := by
  have h1 := clampI h0
  rw [Int32.le_iff_toInt_le, Int32.toInt_ofNat_of_lt (by simpa using hN)] at h
  omega
theorem clamp_lt {x : Int32} (N : Nat) (h0 : 0 ≤ x) (h : x < Int32.ofNat N) (hN : N < 2147483648 := by decide) : x.toNatClampNeg < N := by
  have h1 := clampI h0
  rw [Int32.lt_iff_toInt_lt, Int32.toInt_ofNat_of_lt (by simpa using hN)] at h
  omega
theorem nI_low {i : Nat} (h : i < 2147483648) : 0 ≤ nI i := nI_pos' h
theorem nI_ltN {i N : Nat} (h : i < N) (hN : N < 2147483648 := by decide) : nI i < Int32.ofNat N := nI_lt h hN
theorem nI_leN {i N : Nat} (h : i ≤ N) (hN : N < 2147483648 := by decide) : nI i ≤ Int32.ofNat N := nI_le h hN
theorem clN {i : Nat} (h : i < 2147483648) : (nI i).toNatClampNeg = i := nI_clamp h
theorem cl2 (a b : Int32) (x y : Nat) (ha : a = nI x) (hb : b = nI y) (h : x < 2147483648) (h2 : y < 2147483648) : (a ≤ b ↔ x ≤ y) ∧ (a < b ↔ x < y) ∧ (a = b ↔ x = y) := by
  subst ha hb
  exact ⟨nI_leI h h2, nI_ltI h h2, nI_eq h h2⟩
-- numbers of days, persons, acts, works, moves, licences, common lines
def I1 (z : Nat → Int32) : Prop := (0 ≤ z 0 ∧ z 0 ≤ 3000) ∧ (0 ≤ z 1 ∧ z 1 ≤ 12) ∧ (0 ≤ z 5 ∧ z 5 ≤ 6) ∧ (0 ≤ z 11 ∧ z 11 ≤ 20) ∧ (0 ≤ z 14 ∧ z 14 ≤ 1000) ∧ (0 ≤ z 22 ∧ z 22 ≤ 40) ∧ (-1000 ≤ z 31 ∧ z 31 ≤ 20)
