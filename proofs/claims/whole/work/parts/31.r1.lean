-- the register's representation
def PersP (σ : q_S) (R : Nat → Prop) (P : Nat) (pa : Nat → Nat) (lrn : Nat → Int32) (g : Nat → Nat → Int32) (np : Nat) : Prop := hv σ R P (refsE "CopyRegister$Person" 12 np pa) ∧ (∀ i, i < np → hv σ R (pa i) (.inr (7, [.int (g 2 i), .int (g 3 i), .int (lrn i)]))) ∧ (∀ i j, i < np → j < np → pa i = pa j → i = j) ∧ (∀ i, i < np → ¬ g 3 i = -1 → lrn i = g 4 i)
def WkP (σ : q_S) (R : Nat → Prop) (WK : Nat) (pa wa sa ga la : Nat → Nat) (g : Nat → Nat → Int32) (nw : Nat) : Prop := hv σ R WK (refsE "CopyRegister$Work" 20 nw wa) ∧ ∀ i, i < nw → hv σ R (wa i) (.inr (9, [.ref (pa (g 12 i).toNatClampNeg), .int (g 13 i), .ref (sa i), .ref (ga i), .ref (la i)]))
def AgP (σ : q_S) (R : Nat → Prop) (ga i : Nat) (g : Nat → Nat → Int32) : Prop := ∃ f, hv σ R ga (.inl (.boolean, 12, .inl f)) ∧ ∀ p, p < 12 → f p = g 21 (12 * i + p)
def LnP (σ : q_S) (R : Nat → Prop) (la lra i : Nat) (g : Nat → Nat → Int32) : Prop := hv σ R la (.inr (5, [.ref lra, .int (g 29 i)])) ∧ ∃ f, hv σ R lra (.inl (.int, 20, .inl f)) ∧ ∀ j, j < lmN g i → f j = g 30 (20 * i + j)
def LcP (σ : q_S) (R : Nat → Prop) (LC : Nat) (lc : Nat → Nat) (g : Nat → Nat → Int32) (nl : Nat) : Prop := hv σ R LC (refsE "CopyRegister$Licence" 40 nl lc) ∧ ∀ i, i < nl → hv σ R (lc i) (.inr (4, [.int (g 23 i), .int (g 24 i), .int (g 25 i), .int (g 28 i), .int (g 26 i), .int (g 27 i)]))
def CmP (σ : q_S) (R : Nat → Prop) (CL CM : Nat) (n : Int32) (g : Nat → Nat → Int32) : Prop := hv σ R CL (.inr (2, [.ref CM, .int n])) ∧ ∃ f, hv σ R CM (.inl (.boolean, 1000, .inl f)) ∧ ∀ x, x < 1000 → f x = g 32 x
def srt : List pgT → Prop
  | [] => True
  | [_] => True
  | x :: y :: t => y.1 < x.1 ∧ srt (y :: t)
def PgR (z : Nat → Int32) (g : Nat → Nat → Int32) (i : Nat) (pgs : List pgT) : Prop := (∃ x t, pgs = x :: t ∧ x.1 ≤ z 0) ∧ srt pgs ∧ ∀ t p, g 13 i ≤ t → 0 ≤ plcF p ∧ plcF p < 13 → pvF t p pgs = holdsF g (nI i) (plcF p) t (mvF z)
def ShP (σ : q_S) (R : Nat → Prop) (s i : Nat) (z : Nat → Int32) (g : Nat → Nat → Int32) : Prop := ∃ pgs, ShC σ R s (fun p q => g 20 (144 * i + 12 * p + q)) pgs ∧ PgR z g i pgs
abbrev ext (σ : q_S) (R : Nat → Prop) (σ' : q_S) (R' : Nat → Prop) : Prop := ∀ a e, R a → σ a = some e → R' a ∧ σ' a = some e
theorem hv.fr {σ σ' : q_S} {R R' : Nat → Prop} {a : Nat} {e : q_E} (h : hv σ R a e) (hm : ext σ R σ' R') : hv σ' R' a e := hm _ _ h.1 h.2
theorem PersP.fr {σ σ' : q_S} {R R' : Nat → Prop} {P np : Nat} {pa : Nat → Nat} {lrn : Nat → Int32} {g : Nat → Nat → Int32} (h : PersP σ R P pa lrn g np) (hm : ext σ R σ' R') : PersP σ' R' P pa lrn g np := ⟨h.1.fr hm, fun i hi => (h.2.1 i hi).fr hm, h.2.2⟩
theorem AcD.fr {σ σ' : q_S} {R R' : Nat → Prop} {ac AR na : Nat} {aa : Nat → Nat} {g : Nat → Nat → Int32} (h : AcD σ R ac AR aa g na) (hm : ext σ R σ' R') : AcD σ' R' ac AR aa g na := ⟨h.1.fr hm, h.2.1.fr hm, fun i hi => (h.2.2.1 i hi).fr hm, h.2.2.2⟩
theorem WkP.fr {σ σ' : q_S} {R R' : Nat → Prop} {WK nw : Nat} {pa wa sa ga la : Nat → Nat} {g : Nat → Nat → Int32} (h : WkP σ R WK pa wa sa ga la g nw) (hm : ext σ R σ' R') : WkP σ' R' WK pa wa sa ga la g nw := ⟨h.1.fr hm, fun i hi => (h.2 i hi).fr hm⟩
theorem AgP.fr {σ σ' : q_S} {R R' : Nat → Prop} {ga i : Nat} {g : Nat → Nat → Int32} (h : AgP σ R ga i g) (hm : ext σ R σ' R') : AgP σ' R' ga i g := by obtain ⟨f, h1, h2⟩ := h; exact ⟨f, h1.fr hm, h2⟩
theorem LnP.fr {σ σ' : q_S} {R R' : Nat → Prop} {la lra i : Nat} {g : Nat → Nat → Int32} (h : LnP σ R la lra i g) (hm : ext σ R σ' R') : LnP σ' R' la lra i g := by obtain ⟨h0, f, h1, h2⟩ := h; exact ⟨h0.fr hm, f, h1.fr hm, h2⟩
theorem LcP.fr {σ σ' : q_S} {R R' : Nat → Prop} {LC nl : Nat} {lc : Nat → Nat} {g : Nat → Nat → Int32} (h : LcP σ R LC lc g nl) (hm : ext σ R σ' R') : LcP σ' R' LC lc g nl := ⟨h.1.fr hm, fun i hi => (h.2 i hi).fr hm⟩
theorem CmP.fr {σ σ' : q_S} {R R' : Nat → Prop} {CL CM : Nat} {n : Int32} {g : Nat → Nat → Int32} (h : CmP σ R CL CM n g) (hm : ext σ R σ' R') : CmP σ' R' CL CM n g := by obtain ⟨h0, f, h1, h2⟩ := h; exact ⟨h0.fr hm, f, h1.fr hm, h2⟩
theorem GrP.fr {σ σ' : q_S} {R R' : Nat → Prop} {cp : Nat} {T : Nat → Nat → Int32} (h : GrP σ R cp T) (hm : ext σ R σ' R') : GrP σ' R' cp T := by
  obtain ⟨CR, rr, h1, h2, h3, h4⟩ := h
  exact ⟨CR, rr, h1.fr hm, h2.fr hm, fun i hi => (by obtain ⟨f, k1, k2⟩ := h3 i hi; exact ⟨f, k1.fr hm, k2⟩), h4⟩
theorem ShP.fr {σ σ' : q_S} {R R' : Nat → Prop} {s i : Nat} {z : Nat → Int32} {g : Nat → Nat → Int32} (h : ShP σ R s i z g) (hm : ext σ R σ' R') : ShP σ' R' s i z g := by obtain ⟨pgs, h1, h2⟩ := h; exact ⟨pgs, h1.fr hm, h2⟩
def npF (z : Nat → Int32) : Nat := (z 1).toNatClampNeg
def nwF (z : Nat → Int32) : Nat := (z 11).toNatClampNeg
def nlF (z : Nat → Int32) : Nat := (z 22).toNatClampNeg
abbrev rootE (z : Nat → Int32) (P AC WK LC CL CP : Nat) : q_E := .inr (10, [.int (z 0), .ref P, .int (z 1), .ref AC, .ref WK, .int (z 11), .ref LC, .int (z 22), .ref CL, .ref CP])
abbrev adT : Type := (Nat × Nat × Nat × Nat × Nat × Nat × Nat × Nat) × (Nat → Nat) × (Nat → Nat) × (Nat → Nat) × (Nat → Nat) × (Nat → Nat) × (Nat → Nat) × (Nat → Nat) × (Nat → Nat)
-- the part of each number
def Part (k : Nat) (σ : q_S) (R : Nat → Prop) (r : Nat) (P AC AR WK LC CL CM CP : Nat) (pa aa wa sa ga la lra lc : Nat → Nat) (lrn : Nat → Int32) (z : Nat → Int32) (g : Nat → Nat → Int32) : Prop :=
  if k = 1 then hv σ R r (rootE z P AC WK LC CL CP)
  else if k = 2 then PersP σ R P pa lrn g (npF z)
  else if k = 3 then AcD σ R AC AR aa g (naF z)
  else if k = 4 then WkP σ R WK pa wa sa ga la g (nwF z)
  else if k = 5 then LcP σ R LC lc g (nlF z)
  else if k = 6 then CmP σ R CL CM (z 31) g
  else if k = 7 then ∃ T, GrP σ R CP T
  else if 100 ≤ k ∧ k < 100 + nwF z then ShP σ R (sa (k - 100)) (k - 100) z g
  else if 200 ≤ k ∧ k < 200 + nwF z then AgP σ R (ga (k - 200)) (k - 200) g
  else if 300 ≤ k ∧ k < 300 + nwF z then LnP σ R (la (k - 300)) (lra (k - 300)) (k - 300) g
  else True
theorem Part.fr {k : Nat} {σ σ' : q_S} {R R' : Nat → Prop} {r P AC AR WK LC CL CM CP : Nat} {pa aa wa sa ga la lra lc : Nat → Nat} {lrn : Nat → Int32} {z : Nat → Int32} {g : Nat → Nat → Int32} (h : Part k σ R r P AC AR WK LC CL CM CP pa aa wa sa ga la lra lc lrn z g) (hm : ext σ R σ' R') : Part k σ' R' r P AC AR WK LC CL CM CP pa aa wa sa ga la lra lc lrn z g := by
  unfold Part at h ⊢
  split at h
  · next c => rw [if_pos c]; exact h.fr hm
  · next c1 =>
    rw [if_neg c1]
    split at h
    · next c => rw [if_pos c]; exact h.fr hm
    · next c2 =>
      rw [if_neg c2]
      split at h
      · next c => rw [if_pos c]; exact h.fr hm
      · next c3 =>
        rw [if_neg c3]
        split at h
        · next c => rw [if_pos c]; exact h.fr hm
        · next c4 =>
          rw [if_neg c4]
          split at h
          · next c => rw [if_pos c]; exact h.fr hm
          · next c5 =>
            rw [if_neg c5]
            split at h
            · next c => rw [if_pos c]; exact h.fr hm
            · next c6 =>
              rw [if_neg c6]
              split at h
              · next c => rw [if_pos c]; obtain ⟨T, h⟩ := h; exact ⟨T, h.fr hm⟩
              · next c7 =>
                rw [if_neg c7]
                split at h
                · next c => rw [if_pos c]; exact h.fr hm
                · next c8 =>
                  rw [if_neg c8]
                  split at h
                  · next c => rw [if_pos c]; exact h.fr hm
                  · next c9 =>
                    rw [if_neg c9]
                    split at h
                    · next c => rw [if_pos c]; exact h.fr hm
                    · next c10 => rw [if_neg c10]; trivial
def RegD (σ : q_S) (Rg : Nat → Nat → Prop) (r P AC AR WK LC CL CM CP : Nat) (pa aa wa sa ga la lra lc : Nat → Nat) (lrn : Nat → Int32) (z : Nat → Int32) (g : Nat → Nat → Int32) : Prop :=
  (∀ t t' a, Rg t a → Rg t' a → t = t') ∧ ∀ k, Part k σ (Rg k) r P AC AR WK LC CL CM CP pa aa wa sa ga la lra lc lrn z g
def RegOK (σ : q_S) (r : Nat) (z : Nat → Int32) (g : Nat → Nat → Int32) : Prop := ∃ Rg P AC AR WK LC CL CM CP pa aa wa sa ga la lra lc lrn, RegD σ Rg r P AC AR WK LC CL CM CP pa aa wa sa ga la lra lc lrn z g
-- one region is written
theorem Rg_upd {σ σ' : q_S} {Rg : Nat → Nat → Prop} {R' : Nat → Prop} (hd : ∀ t t' a, Rg t a → Rg t' a → t = t') (t0 : Nat) (hf : q_fm σ (Rg t0) σ' R') : ∃ Rg' : Nat → Nat → Prop, (∀ t t' a, Rg' t a → Rg' t' a → t = t') ∧ (∀ a, Rg' t0 a ↔ R' a) ∧ ∀ t, t ≠ t0 → ext σ (Rg t) σ' (Rg' t) := by
  refine ⟨fun t a => (t = t0 ∧ R' a) ∨ (t ≠ t0 ∧ Rg t a ∧ σ a ≠ none), fun t t' a h1 h2 => ?_, fun a => ⟨fun h => ?_, fun h => Or.inl ⟨rfl, h⟩⟩, fun t ht a e ha he => ?_⟩
  · rcases h1 with ⟨h1, h3⟩ | ⟨h1, h3, h4⟩ <;> rcases h2 with ⟨h2, h5⟩ | ⟨h2, h5, h6⟩
    · rw [h1, h2]
    · exfalso
      cases he : σ a with
      | none => exact h6 he
      | some e => exact (hf a e (fun h9 => h2 (hd _ _ _ h5 h9)) he).1 h3
    · exfalso
      cases he : σ a with
      | none => exact h4 he
      | some e => exact (hf a e (fun h9 => h1 (hd _ _ _ h3 h9)) he).1 h5
    · exact hd _ _ _ h3 h5
  · rcases h with h | h
    · exact h.2
    · exact absurd rfl h.1
  · exact ⟨Or.inr ⟨ht, ha, by rw [he]; exact fun h => by cases h⟩, (hf a e (fun h9 => ht (hd _ _ _ ha h9)) he).2⟩
