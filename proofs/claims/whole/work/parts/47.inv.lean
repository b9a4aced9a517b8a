-- what holds of the abstract state after n calls
def dN (g : Nat → Nat → Int32) : Nat → Nat
  | 0 => 0
  | p + 1 => dN g p + (if g 3 p = -1 then 0 else 1)
theorem dN_le (g : Nat → Nat → Int32) : ∀ n, dN g n ≤ n
  | 0 => Nat.le_refl _
  | n + 1 => by
    have := dN_le g n
    rw [dN]
    split <;> omega
theorem dN_cong {g g' : Nat → Nat → Int32} : ∀ n, (∀ p, p < n → g' 3 p = g 3 p) → dN g' n = dN g n
  | 0, _ => rfl
  | n + 1, h => by rw [dN, dN, h n (by omega), dN_cong n (fun p hp => h p (by omega))]
theorem dN_die {g g' : Nat → Nat → Int32} {p : Nat} (h1 : g 3 p = -1) (h2 : ¬ g' 3 p = -1) (h3 : ∀ q, q ≠ p → g' 3 q = g 3 q) : ∀ n, p < n → dN g' n = dN g n + 1
  | 0, h => by omega
  | n + 1, h => by
    rw [dN, dN]
    by_cases e : p = n
    · subst e
      rw [if_neg h2, if_pos h1, dN_cong p (fun q hq => h3 q (by omega))]
    · rw [h3 n (fun h => e h.symm), dN_die h1 h2 h3 n (by omega)]
      omega
def LM2 (z : Nat → Int32) (g : Nat → Nat → Int32) : Prop := ∀ w, w < nwF z → 0 ≤ g 29 w ∧ g 29 w ≤ 20
def LV2 (z : Nat → Int32) (g : Nat → Nat → Int32) : Prop := ∀ w i, w < nwF z → i < lmN g w → 1 ≤ g 30 (20 * w + i) ∧ g 30 (20 * w + i) ≤ 999
def HB (z : Nat → Int32) (g : Nat → Nat → Int32) : Prop := ∀ p, p < npF z → g 2 p = -1 ∨ 0 ≤ g 2 p ∧ g 2 p < z 1
def INV (n : Nat) (z : Nat → Int32) (g : Nat → Nat → Int32) : Prop := (0 ≤ z 0 ∧ z 0 ≤ 3000) ∧ (0 ≤ z 1 ∧ z 1 ≤ 12) ∧ (0 ≤ z 5 ∧ z 5 ≤ 6) ∧ (0 ≤ z 11 ∧ z 11 ≤ 20) ∧ (0 ≤ z 14 ∧ mvF z ≤ n + 20 * dN g (npF z)) ∧ (0 ≤ z 22 ∧ z 22 ≤ 40) ∧ (-(n : Int) ≤ (z 31).toInt ∧ z 31 ≤ 20) ∧ AU2 z g ∧ LM2 z g ∧ LV2 z g ∧ AGv z g ∧ EN z g ∧ AB z g ∧ DB z g ∧ AG0 z g ∧ HB z g ∧ MW z g ∧ ZW z g
theorem le5 {a n d : Nat} (h : a ≤ n + 20 * d) : a ≤ n + 1 + 20 * d := by omega
theorem le5c {n : Nat} {z z' : Nat → Int32} {g g' : Nat → Nat → Int32} (h : mvF z ≤ n + 20 * dN g (npF z)) (e1 : mvF z' = mvF z) (e2 : npF z' = npF z) (e3 : g' 3 = g 3) : mvF z' ≤ n + 1 + 20 * dN g' (npF z') := by
  rw [e1, e2, dN_cong (g := g) (g' := g') _ (fun p _ => by rw [e3])]
  omega
theorem le7 {n : Nat} {x : Int} (h : -(n : Int) ≤ x) : -((n + 1 : Nat) : Int) ≤ x := by omega
theorem INV.same {n : Nat} {z : Nat → Int32} {g : Nat → Nat → Int32} (h : INV n z g) : INV (n + 1) z g := by
  obtain ⟨i1, i2, i3, i4, i5, i6, i7, r⟩ := h
  exact ⟨i1, i2, i3, i4, ⟨i5.1, le5 i5.2⟩, i6, ⟨le7 i7.1, i7.2⟩, r⟩
theorem INV.mv {n : Nat} {z : Nat → Int32} {g : Nat → Nat → Int32} (h : INV n z g) (hn : n ≤ 512) : mvF z ≤ 752 := by
  obtain ⟨i1, i2, i3, i4, i5, i6, i7, r⟩ := h
  have h1 := dN_le g (npF z)
  have h2 : npF z ≤ 12 := clamp_le 12 i2.1 i2.2
  omega
theorem INV.m14 {n : Nat} {z : Nat → Int32} {g : Nat → Nat → Int32} (h : INV n z g) (hn : n ≤ 512) {N : Nat} (hN : 752 ≤ N) (hN2 : N < 2147483648) : z 14 ≤ Int32.ofNat N := by
  have h1 := h.mv hn
  have h2 := nI_self h.2.2.2.2.1.1
  rw [← h2]
  exact nI_leN (by unfold mvF at h1; omega) hN2
theorem INV.i1 {n : Nat} {z : Nat → Int32} {g : Nat → Nat → Int32} (h : INV n z g) (hn : n ≤ 512) : I1 z := by
  have h14 := h.m14 hn (N := 1000) (by decide) (by decide)
  obtain ⟨i1, i2, i3, i4, i5, i6, i7, r⟩ := h
  refine ⟨i1, i2, i3, i4, ⟨i5.1, h14⟩, i6, ?_, i7.2⟩
  rw [Int32.le_iff_toInt_le]
  have e : (-1000 : Int32).toInt = -1000 := by decide
  rw [e]
  omega
theorem ltW {z : Nat → Int32} {w : Nat} (h0 : 0 ≤ z 11) (h1 : nI w < z 11) (h2 : w < 20) : w < nwF z := by
  have := ltN (nI_low (i := w) (by omega)) h1
  rw [clN (by omega)] at this
  exact this
theorem INV.au {n : Nat} {z : Nat → Int32} {g : Nat → Nat → Int32} (h : INV n z g) : AU z g := by
  obtain ⟨i1, i2, i3, i4, i5, i6, i7, au, r⟩ := h
  intro w h1 h2
  have k := au w (ltW i4.1 h1 h2)
  exact ⟨k.1, by have := k.2; have := i2.2; grind⟩
theorem INV.lm {n : Nat} {z : Nat → Int32} {g : Nat → Nat → Int32} (h : INV n z g) : LM z g := by
  obtain ⟨i1, i2, i3, i4, i5, i6, i7, au, lm, r⟩ := h
  exact fun w h1 h2 => lm w (ltW i4.1 h1 h2)
theorem INV.lv {n : Nat} {z : Nat → Int32} {g : Nat → Nat → Int32} (h : INV n z g) : LV z g := by
  obtain ⟨i1, i2, i3, i4, i5, i6, i7, au, lm, lv, r⟩ := h
  exact fun w i h1 h2 h3 => lv w i (ltW i4.1 h1 h2) h3
theorem INV.zero : INV 0 (fun _ => 0) (fun _ _ => 0) := by
  refine ⟨by decide, by decide, by decide, by decide, ⟨by decide, Nat.zero_le _⟩, by decide, by decide, ?_, ?_, ?_, ?_, ?_, ?_, ?_, ?_, ?_, ?_, ?_⟩
  · exact fun w hw => absurd hw (Nat.not_lt_zero _)
  · exact fun w hw => absurd hw (Nat.not_lt_zero _)
  · exact fun w i hw => absurd hw (Nat.not_lt_zero _)
  · exact fun w i hw => absurd hw (Nat.not_lt_zero _)
  · exact fun w hw => absurd hw (Nat.not_lt_zero _)
  · exact fun w hw => absurd hw (Nat.not_lt_zero _)
  · exact fun w hw => absurd hw (Nat.not_lt_zero _)
  · exact fun w p hw => absurd hw (Nat.not_lt_zero _)
  · exact fun w hw => absurd hw (Nat.not_lt_zero _)
  · exact fun w hw => absurd hw (Nat.not_lt_zero _)
  · exact fun w hw h => ⟨fun _ _ _ _ => rfl, fun _ _ => rfl⟩
theorem INV.days {n : Nat} {z : Nat → Int32} {g : Nat → Nat → Int32} (h : INV n z g) (a : Int32) : INV (n + 1) (F_days z a).2 g := by
  unfold F_days
  split
  · next c =>
    obtain ⟨i1, i2, i3, i4, i5, i6, i7, au, lm, lv, ag, en, ab, db, a0, hb, mw, zw⟩ := h
    have k0 : 0 ≤ z 0 + a := by clear au lm lv ag en ab db a0 hb mw zw; grind
    have k1 : z 0 ≤ z 0 + a := by clear au lm lv ag en ab db a0 hb mw zw; grind
    exact ⟨⟨k0, c.2⟩, i2, i3, i4, ⟨i5.1, le5 i5.2⟩, i6, ⟨le7 i7.1, i7.2⟩, au, lm, lv, ag, fun w hw => ⟨(en w hw).1, Int32.le_trans (en w hw).2 k1⟩, ab, db, a0, hb, mw, zw⟩
  · exact h.same
theorem INV.person {n : Nat} {z : Nat → Int32} {g : Nat → Nat → Int32} (h : INV n z g) : INV (n + 1) (F_person z g).2.1 (F_person z g).2.2 := by
  unfold F_person
  split
  · exact h.same
  · next c =>
    obtain ⟨i1, i2, i3, i4, i5, i6, i7, au, lm, lv, ag, en, ab, db, a0, hb, mw, zw⟩ := h
    have hlt : z 1 < 12 := by clear au lm lv ag en ab db a0 hb mw zw; grind
    have k0 : 0 ≤ z 1 + 1 := by clear au lm lv ag en ab db a0 hb mw zw; grind
    have k1 : z 1 + 1 ≤ 12 := by clear au lm lv ag en ab db a0 hb mw zw; grind
    have k2 : z 1 < z 1 + 1 := by clear au lm lv ag en ab db a0 hb mw zw; grind
    have hnp := npF_s ⟨i2.1, hlt⟩
    have e5 : (z 1).toNatClampNeg = npF z := rfl
    rw [e5]
    dsimp only
    have g3 : ∀ p, gup (gup g 2 (npF z) (-1)) 3 (npF z) (-1) 3 p = if p = npF z then -1 else g 3 p := fun p => by rw [gup_s, gup_n (by decide)]
    have g2 : ∀ p, gup (gup g 2 (npF z) (-1)) 3 (npF z) (-1) 2 p = if p = npF z then -1 else g 2 p := fun p => by rw [gup_n (by decide), gup_s]
    refine ⟨i1, ⟨k0, k1⟩, i3, i4, ⟨i5.1, ?_⟩, i6, ⟨le7 i7.1, i7.2⟩, fun w hw => ⟨(au w hw).1, Int32.lt_trans (au w hw).2 k2⟩, lm, lv, ag, en, ab, fun p hp => ?_, fun w p hw hp => ?_, fun p hp => ?_, mw, zw⟩
    · rw [hnp, dN, dN_cong (npF z) (fun p hp => by rw [g3, if_neg (by omega)])]
      have := i5.2
      show mvF z ≤ _
      omega
    · rw [hnp] at hp
      rw [g3]
      by_cases e : p = npF z
      · rw [if_pos e]; exact Or.inl rfl
      · rw [if_neg e]; exact db p (by omega)
    · rw [hnp] at hp
      exact a0 w p hw (by omega)
    · rw [hnp] at hp
      rw [g2]
      by_cases e : p = npF z
      · rw [if_pos e]; exact Or.inl rfl
      · rw [if_neg e]
        rcases hb p (by omega) with k | k
        · exact Or.inl k
        · exact Or.inr ⟨k.1, Int32.lt_trans k.2 k2⟩
theorem INV.heir {n : Nat} {z : Nat → Int32} {g : Nat → Nat → Int32} (h : INV n z g) (p q : Int32) : INV (n + 1) z (F_heir z g p q).2 := by
  unfold F_heir
  split
  · next c =>
    obtain ⟨i1, i2, i3, i4, i5, i6, i7, au, lm, lv, ag, en, ab, db, a0, hb, mw, zw⟩ := h
    dsimp only
    refine ⟨i1, i2, i3, i4, ⟨i5.1, ?_⟩, i6, ⟨le7 i7.1, i7.2⟩, au, lm, lv, ag, en, ab, db, a0, fun p2 hp => ?_, mw, zw⟩
    · rw [dN_cong (npF z) (fun p hp => by rw [gup_n (by decide)])]
      exact le5 i5.2
    · rw [gup_s]
      by_cases e : p2 = p.toNatClampNeg
      · rw [if_pos e]; exact c.2.1
      · rw [if_neg e]; exact hb p2 hp
  · exact h.same
theorem INV.act {n : Nat} {z : Nat → Int32} {g : Nat → Nat → Int32} (h : INV n z g) (d f li v c : Int32) : INV (n + 1) (F_act z g d f li v c).2.1 (F_act z g d f li v c).2.2 := by
  unfold F_act
  split
  · next c0 =>
    split
    · exact h.same
    · next c6 =>
      obtain ⟨i1, i2, i3, i4, i5, i6, i7, au, lm, lv, ag, en, ab, db, a0, hb, mw, zw⟩ := h
      have hlt : z 5 < 6 := by clear au lm lv ag en ab db a0 hb mw zw c0; grind
      have k0 : 0 ≤ z 5 + 1 := by clear au lm lv ag en ab db a0 hb mw zw c0; grind
      have k1 : z 5 + 1 ≤ 6 := by clear au lm lv ag en ab db a0 hb mw zw c0; grind
      have hna := naF_s ⟨i3.1, hlt⟩
      have e5 : (z 5).toNatClampNeg = naF z := rfl
      rw [e5]
      dsimp only
      refine ⟨i1, i2, ⟨k0, k1⟩, i4, ⟨i5.1, ?_⟩, i6, ⟨le7 i7.1, i7.2⟩, au, lm, lv, ag, en, fun m hm => ?_, db, a0, hb, mw, zw⟩
      · exact le5c i5.2 rfl rfl rfl
      · rw [hna] at hm
        rw [gup_n (by decide), gup_n (by decide), gup_n (by decide), gup_n (by decide), gup_s, gup_n (by decide), gup_n (by decide), gup_n (by decide), gup_s, gup_n (by decide), gup_n (by decide), gup_n (by decide), gup_s, gup_n (by decide), gup_n (by decide)]
        by_cases e : m = naF z
        · rw [if_pos e, if_pos e, if_pos e]
          exact ⟨⟨Int32.le_trans i1.1 c0.1.1, c0.1.2⟩, c0.2.2.1, c0.2.2.2.1⟩
        · rw [if_neg e, if_neg e, if_neg e]
          exact ab m (by omega)
  · exact h.same
theorem INV.work {n : Nat} {z : Nat → Int32} {g : Nat → Nat → Int32} (h : INV n z g) (p : Int32) : INV (n + 1) (F_work z g p).2.1 (F_work z g p).2.2 := by
  unfold F_work
  split
  · next c0 =>
    split
    · exact h.same
    · split
      · exact h.same
      · next c6 =>
        obtain ⟨i1, i2, i3, i4, i5, i6, i7, au, lm, lv, ag, en, ab, db, a0, hb, mw, zw⟩ := h
        have hlt : z 11 < 20 := by clear au lm lv ag en ab db a0 hb mw zw c0; grind
        have k0 : 0 ≤ z 11 + 1 := by clear au lm lv ag en ab db a0 hb mw zw c0; grind
        have k1 : z 11 + 1 ≤ 20 := by clear au lm lv ag en ab db a0 hb mw zw c0; grind
        have k2 : z 11 < z 11 + 1 := by clear au lm lv ag en ab db a0 hb mw zw c0; grind
        have hnn := nwF_s ⟨i4.1, hlt⟩
        have hn20 : nwF z < 20 := clamp_lt 20 i4.1 hlt
        have e5 : (z 11).toNatClampNeg = nwF z := rfl
        rw [e5]
        show INV (n + 1) (upd z 11 (z 11 + 1)) (gW z g p)
        refine ⟨i1, i2, i3, ⟨k0, k1⟩, ⟨i5.1, ?_⟩, i6, ⟨le7 i7.1, i7.2⟩, fun w hw => ?_, fun w hw => ?_, fun w i hw hi => ?_, fun w q hw hq => ?_, fun w hw => ?_, ab, db, fun w q hw hq hq2 => ?_, hb, fun k hk => ⟨(mw k hk).1, Int32.lt_trans (mw k hk).2 k2⟩, fun w hw => ?_⟩
        · exact le5c i5.2 rfl rfl rfl
        · rw [hnn] at hw
          rw [gW_12]
          by_cases e : w = nwF z
          · rw [if_pos e]; exact c0
          · rw [if_neg e]; exact au w (by omega)
        · rw [hnn] at hw
          rw [gW_29]
          by_cases e : w = nwF z
          · rw [if_pos e]; decide
          · rw [if_neg e]; exact lm w (by omega)
        · rw [hnn] at hw
          unfold lmN at hi
          rw [gW_29] at hi
          rw [gW_o (by decide)]
          by_cases e : w = nwF z
          · rw [if_pos e] at hi; exact absurd hi (Nat.not_lt_zero _)
          · rw [if_neg e] at hi; exact lv w i (by omega) hi
        · rw [hnn] at hw
          rw [gW_o (by decide)]
          by_cases e : w = nwF z
          · exact Or.inl ((zw w (by omega) (by omega)).2 q hq)
          · exact ag w q (by omega) hq
        · rw [hnn] at hw
          rw [gW_13]
          by_cases e : w = nwF z
          · rw [if_pos e]; exact ⟨i1.1, Int32.le_refl _⟩
          · rw [if_neg e]; exact en w (by omega)
        · rw [hnn] at hw
          rw [gW_o (by decide)]
          by_cases e : w = nwF z
          · exact (zw w (by omega) (by omega)).2 q hq2
          · exact a0 w q (by omega) hq hq2
        · rw [hnn] at hw
          rw [gW_o (by decide), gW_o (by decide)]
          exact zw w (by omega)
  · exact h.same
theorem INV.sell {n : Nat} {z : Nat → Int32} {g : Nat → Nat → Int32} (h : INV n z g) (hn : n ≤ 512) (w a b m : Int32) : INV (n + 1) (F_sell z g w a b m).2.1 (F_sell z g w a b m).2.2 := by
  unfold F_sell
  split
  · next c0 =>
    split
    · exact h.same
    · have hmv := h.mv hn
      have h14 := h.m14 hn (N := 900) (by decide) (by decide)
      obtain ⟨i1, i2, i3, i4, i5, i6, i7, au, lm, lv, ag, en, ab, db, a0, hb, mw, zw⟩ := h
      have k9 : z 14 < 1000 := by clear au lm lv ag en ab db a0 hb mw zw c0; grind
      have k0 : 0 ≤ z 14 + 1 := by clear au lm lv ag en ab db a0 hb mw zw c0; grind
      have hms := mvF_s ⟨i5.1, k9⟩
      have o : ∀ k, k < 15 ∨ 19 < k → moveF z g w a b m k = g k := fun k hk => moveF_ne z g w a b m k hk
      dsimp only
      refine ⟨i1, i2, i3, i4, ⟨k0, ?_⟩, i6, ⟨le7 i7.1, i7.2⟩, ?_, ?_, ?_, ?_, ?_, ?_, ?_, ?_, ?_, fun k hk => ?_, ?_⟩
      · rw [hms, dN_cong (g := g) (g' := moveF z g w a b m) _ (fun p _ => by rw [o 3 (by omega)])]
        have := i5.2
        show _ ≤ n + 1 + 20 * dN g (npF z)
        omega
      · unfold AU2; rw [o 12 (by omega)]; exact au
      · unfold LM2; rw [o 29 (by omega)]; exact lm
      · unfold LV2 lmN; rw [o 29 (by omega), o 30 (by omega)]; exact lv
      · unfold AGv; rw [o 21 (by omega)]; exact ag
      · unfold EN; rw [o 13 (by omega)]; exact en
      · unfold AB; rw [o 6 (by omega), o 7 (by omega), o 8 (by omega)]; exact ab
      · unfold DB; rw [o 3 (by omega)]; exact db
      · unfold AG0; rw [o 21 (by omega)]; exact a0
      · unfold HB; rw [o 2 (by omega)]; exact hb
      · rw [hms] at hk
        by_cases e : k = mvF z
        · rw [e, (moveF_s z g w a b m).2.1]
          exact c0.1.1
        · rw [moveF_n z g w a b m e]
          exact mw k (by omega)
      · unfold ZW; rw [o 20 (by omega), o 21 (by omega)]; exact zw
  · exact h.same
theorem INV.g20 {n : Nat} {z : Nat → Int32} {g : Nat → Nat → Int32} (h : INV n z g) {w a b : Nat} (hw : w < nwF z) (ha : a < 12) (hb2 : b < 12) (v : Int32) : INV (n + 1) z (gup g 20 (144 * w + 12 * a + b) v) := by
  obtain ⟨i1, i2, i3, i4, i5, i6, i7, au, lm, lv, ag, en, ab, db, a0, hb, mw, zw⟩ := h
  refine ⟨i1, i2, i3, i4, ⟨i5.1, ?_⟩, i6, ⟨le7 i7.1, i7.2⟩, au, lm, lv, ag, en, ab, db, a0, hb, mw, fun w2 h1 h2 => ⟨fun p q hp hq => ?_, (zw w2 h1 h2).2⟩⟩
  · rw [dN_cong (npF z) (fun p hp => by rw [gup_n (by decide)])]
    exact le5 i5.2
  · rw [gup_s, if_neg (by omega)]
    exact (zw w2 h1 h2).1 p q hp hq
theorem isP12 {z : Nat → Int32} {p : Int32} (h1 : 0 ≤ z 1 ∧ z 1 ≤ 12) (h : isP z p) : p.toNatClampNeg < 12 := clamp_lt 12 h.1 (by have := h.2; have := h1.2; grind)
theorem INV.pledge {n : Nat} {z : Nat → Int32} {g : Nat → Nat → Int32} (h : INV n z g) (w a b m : Int32) : INV (n + 1) z (F_pledge z g w a b m).2 := by
  unfold F_pledge
  split
  · next c0 =>
    split
    · exact h.same
    · exact h.g20 (ltN c0.1.1.1 c0.1.1.2) (isP12 h.2.1 c0.1.2.1) (isP12 h.2.1 c0.1.2.2.1) _
  · exact h.same
theorem INV.redeem {n : Nat} {z : Nat → Int32} {g : Nat → Nat → Int32} (h : INV n z g) (w a b : Int32) : INV (n + 1) z (F_redeem z g w a b).2 := by
  unfold F_redeem
  split
  · next c0 => exact h.g20 (ltN c0.1.1 c0.1.2) (isP12 h.2.1 c0.2.1) (isP12 h.2.1 c0.2.2.1) _
  · exact h.same
theorem INV.agree {n : Nat} {z : Nat → Int32} {g : Nat → Nat → Int32} (h : INV n z g) (w p on : Int32) (ho : on = 0 ∨ on = 1) : INV (n + 1) z (F_agree z g w p on).2 := by
  unfold F_agree
  split
  · next c0 =>
    have hw : w.toNatClampNeg < nwF z := ltN c0.1.1 c0.1.2
    have hp : p.toNatClampNeg < npF z := ltN c0.2.1 c0.2.2
    have hp12 := isP12 h.2.1 c0.2
    obtain ⟨i1, i2, i3, i4, i5, i6, i7, au, lm, lv, ag, en, ab, db, a0, hb, mw, zw⟩ := h
    dsimp only
    refine ⟨i1, i2, i3, i4, ⟨i5.1, ?_⟩, i6, ⟨le7 i7.1, i7.2⟩, au, lm, lv, fun w2 p2 h1 h2 => ?_, en, ab, db, fun w2 p2 h1 h2 h3 => ?_, hb, mw, fun w2 h1 h2 => ⟨(zw w2 h1 h2).1, fun p2 h3 => ?_⟩⟩
    · rw [dN_cong (npF z) (fun p hp => by rw [gup_n (by decide)])]
      exact le5 i5.2
    · rw [gup_s]
      by_cases e : 12 * w2 + p2 = i21 w p
      · rw [if_pos e]; exact ho
      · rw [if_neg e]; exact ag w2 p2 h1 h2
    · rw [gup_s, if_neg (by unfold i21; omega)]
      exact a0 w2 p2 h1 h2 h3
    · rw [gup_s, if_neg (by unfold i21; omega)]
      exact (zw w2 h1 h2).2 p2 h3
  · exact h.same
theorem INV.license {n : Nat} {z : Nat → Int32} {g : Nat → Nat → Int32} (h : INV n z g) (w u p a b : Int32) : INV (n + 1) (F_license z g w u p a b).2.1 (F_license z g w u p a b).2.2 := by
  unfold F_license
  split
  · split
    · split
      · exact h.same
      · next c6 =>
        obtain ⟨i1, i2, i3, i4, i5, i6, i7, au, lm, lv, ag, en, ab, db, a0, hb, mw, zw⟩ := h
        have k0 : 0 ≤ z 22 + 1 := by clear au lm lv ag en ab db a0 hb mw zw; grind
        have k1 : z 22 + 1 ≤ 40 := by clear au lm lv ag en ab db a0 hb mw zw; grind
        dsimp only
        exact ⟨i1, i2, i3, i4, ⟨i5.1, by rw [dN_cong (g := g) (g' := licF z g w u p a b) _ (fun p hp => rfl)]; exact le5 i5.2⟩, ⟨k0, k1⟩, ⟨le7 i7.1, i7.2⟩, au, lm, lv, ag, en, ab, db, a0, hb, mw, zw⟩
    · exact h.same
  · exact h.same
theorem INV.line {n : Nat} {z : Nat → Int32} {g : Nat → Nat → Int32} (h : INV n z g) (w x : Int32) : INV (n + 1) z (F_line z g w x).2 := by
  unfold F_line
  split
  · next c0 =>
    split
    · exact h.same
    · next c6 =>
      have hw : w.toNatClampNeg < nwF z := ltN c0.1.1 c0.1.2
      obtain ⟨i1, i2, i3, i4, i5, i6, i7, au, lm, lv, ag, en, ab, db, a0, hb, mw, zw⟩ := h
      have hl := lm _ hw
      dsimp only
      generalize w.toNatClampNeg = j at *
      have k0 : 0 ≤ g 29 j + 1 := by clear au lm lv ag en ab db a0 hb mw zw; grind
      have k1 : g 29 j + 1 ≤ 20 := by clear au lm lv ag en ab db a0 hb mw zw; grind
      have k2 : g 29 j < 20 := by clear au lm lv ag en ab db a0 hb mw zw; grind
      have e2 := nI_self hl.1
      have hlt := clamp_lt 20 hl.1 k2
      have g29 : ∀ i, gup (gup g 30 (20 * j + (g 29 j).toNatClampNeg) x) 29 j (g 29 j + 1) 29 i = if i = j then g 29 j + 1 else g 29 i := fun i => by rw [gup_s, gup_n (by decide)]
      have g30 : ∀ i, gup (gup g 30 (20 * j + (g 29 j).toNatClampNeg) x) 29 j (g 29 j + 1) 30 i = if i = 20 * j + (g 29 j).toNatClampNeg then x else g 30 i := fun i => by rw [gup_n (by decide), gup_s]
      refine ⟨i1, i2, i3, i4, ⟨i5.1, ?_⟩, i6, ⟨le7 i7.1, i7.2⟩, au, fun w2 h1 => ?_, fun w2 i h1 h2 => ?_, ag, en, ab, db, a0, hb, mw, zw⟩
      · exact le5c i5.2 rfl rfl rfl
      · rw [g29]
        by_cases e : w2 = j
        · rw [if_pos e]; exact ⟨k0, k1⟩
        · rw [if_neg e]; exact lm w2 h1
      · unfold lmN at h2
        rw [g29] at h2
        rw [g30]
        by_cases e : w2 = j
        · subst e
          have e9 : (g 29 w2 + 1).toNatClampNeg = (g 29 w2).toNatClampNeg + 1 := by
            conv => lhs; rw [← e2, nI_1, clN (by omega)]
          rw [if_pos rfl, e9] at h2
          by_cases e3 : i = (g 29 w2).toNatClampNeg
          · rw [if_pos (by omega)]; exact c0.2
          · rw [if_neg (by omega)]; exact lv w2 i h1 (by unfold lmN; omega)
        · rw [if_neg e] at h2
          have hl2 := lm w2 h1
          have h9 := clamp_le 20 hl2.1 hl2.2
          rw [if_neg (by omega)]
          exact lv w2 i h1 h2
  · exact h.same
theorem INV.common {n : Nat} {z : Nat → Int32} {g : Nat → Nat → Int32} (h : INV n z g) (hn : n ≤ 512) (x on : Int32) (ho : on = 0 ∨ on = 1) : INV (n + 1) (F_common z g x on).2.1 (F_common z g x on).2.2 := by
  unfold F_common
  split
  · next c0 =>
    split
    · exact h.same
    · next c6 =>
      obtain ⟨i1, i2, i3, i4, i5, i6, i7, au, lm, lv, ag, en, ab, db, a0, hb, mw, zw⟩ := h
      dsimp only
      refine ⟨i1, i2, i3, i4, ⟨i5.1, ?_⟩, i6, ?_, au, lm, lv, ag, en, ab, db, a0, hb, mw, zw⟩
      · exact le5c i5.2 rfl rfl rfl
      · clear au lm lv ag en ab db a0 hb mw zw i1 i2 i3 i4 i5 i6 c0
        have h20 : (z 31).toInt ≤ 20 := by have := i7.2; rw [Int32.le_iff_toInt_le] at this; exact this
        have hlo := i7.1
        show -((n + 1 : Nat) : Int) ≤ (z 31 + (on - (if g 32 x.toNatClampNeg = 0 then 0 else 1))).toInt ∧ z 31 + (on - (if g 32 x.toNatClampNeg = 0 then 0 else 1)) ≤ 20
        have key : ∀ y : Int32, (y = 0 ∨ y = 1 ∨ y = -1) → (y = 1 → z 31 ≠ 20) → -((n + 1 : Nat) : Int) ≤ (z 31 + y).toInt ∧ z 31 + y ≤ 20 := by
          intro y hy h1
          have e : (z 31 + y).toInt = (z 31).toInt + y.toInt := by
            rw [Int32.toInt_add]
            have hb1 : y.toInt = 0 ∨ y.toInt = 1 ∨ y.toInt = -1 := by rcases hy with rfl | rfl | rfl <;> decide
            rw [Int.bmod_eq_of_le] <;> omega
          rw [Int32.le_iff_toInt_le, e, show (20 : Int32).toInt = 20 by decide]
          rcases hy with rfl | rfl | rfl
          · rw [show (0 : Int32).toInt = 0 by decide]; omega
          · rw [show (1 : Int32).toInt = 1 by decide]
            have h2 : (z 31).toInt ≠ 20 := fun h9 => h1 rfl (Int32.toInt_inj.mp (by rw [h9]; decide))
            omega
          · rw [show (-1 : Int32).toInt = -1 by decide]; omega
        by_cases cg : g 32 x.toNatClampNeg = 0
        · rw [if_pos cg]
          rcases ho with rfl | rfl
          · exact key _ (Or.inl (by decide)) (fun h9 => absurd h9 (by decide))
          · exact key _ (Or.inr (Or.inl (by decide))) (fun _ h20 => c6 ⟨rfl, cg, h20⟩)
        · rw [if_neg cg]
          rcases ho with rfl | rfl
          · exact key _ (Or.inr (Or.inr (by decide))) (fun h9 => absurd h9 (by decide))
          · exact key _ (Or.inl (by decide)) (fun h9 => absurd h9 (by decide))
  · exact h.same
-- deaths
theorem dF_mw {z : Nat → Int32} {g : Nat → Nat → Int32} {p to : Int32} (h0 : 0 ≤ z 14 ∧ z 14 ≤ 980) (h11 : 0 ≤ z 11) (h20 : nwF z ≤ 20) (mw : MW z g) : ∀ i, i ≤ nwF z → ∀ k, k < mvF (dF z g p to i).1 → 0 ≤ (dF z g p to i).2 16 k ∧ (dF z g p to i).2 16 k < z 11
  | 0, _ => mw
  | i + 1, hi => by
    intro k hk
    have ih := dF_mw (p := p) (to := to) h0 h11 h20 mw i (by omega)
    obtain ⟨m, em, hm⟩ := dF_m z g p to h0 i (by omega)
    have h980 := clamp_le 980 h0.1 h0.2
    rw [dF] at hk ⊢
    dsimp only at hk ⊢
    rw [clrF_ne _ _ _ 16 (by decide)]
    generalize dF z g p to i = s at *
    unfold dmF at hk ⊢
    by_cases c : 0 < holdsF s.2 (nI i) p (s.1 0) (mvF s.1)
    · rw [if_pos c] at hk ⊢
      dsimp only at hk ⊢
      have hs14 : 0 ≤ s.1 14 ∧ s.1 14 < 1000 := by rw [em]; exact ⟨nI_low (by omega), nI_ltN (N := 1000) (by omega)⟩
      rw [mvF_s hs14] at hk
      by_cases e : k = mvF s.1
      · rw [e, (moveF_s _ _ _ _ _ _).2.1]
        refine ⟨nI_low (by omega), ?_⟩
        have e9 := nI_self h11
        rw [← e9]
        exact (cl2 (nI i) (nI (z 11).toNatClampNeg) _ _ rfl rfl (by omega) (by unfold nwF at h20; omega)).2.1.mpr hi
      · rw [moveF_n _ _ _ _ _ _ e]
        exact ih k (by omega)
    · rw [if_neg c] at hk ⊢
      exact ih k hk
theorem dF_zw {z : Nat → Int32} {g : Nat → Nat → Int32} {p to : Int32} (hp : p.toNatClampNeg < 12) {w : Nat} (h : ∀ p q, p < 12 → q < 12 → g 20 (144 * w + 12 * p + q) = 0) : ∀ i, ∀ p2 q, p2 < 12 → q < 12 → (dF z g p to i).2 20 (144 * w + 12 * p2 + q) = 0
  | 0 => h
  | i + 1 => by
    intro p2 q hp2 hq
    rw [dF]
    dsimp only
    rw [clrF_at _ _ _ hp hp2 hq 12 (Nat.le_refl _)]
    split
    · rfl
    · rw [dmF_g _ _ _ _ 20 (by omega)]
      exact dF_zw hp h i p2 q hp2 hq
theorem INV.death {n : Nat} {z : Nat → Int32} {g : Nat → Nat → Int32} (h : INV n z g) (hn : n ≤ 512) (p on : Int32) : INV (n + 1) (F_death z g p on).2.1 (F_death z g p on).2.2 := by
  unfold F_death
  split
  · next c0 =>
    split
    · exact h.same
    · next c3 =>
      have c3' : g 3 p.toNatClampNeg = -1 := Classical.not_not.mp c3
      have h14 := h.m14 hn (N := 980) (by decide) (by decide)
      have h20 := (h.i1 hn).n20
      have hp12 := isP12 h.2.1 c0.1
      have hpn : p.toNatClampNeg < npF z := ltN c0.1.1 c0.1.2
      obtain ⟨i1, i2, i3, i4, i5, i6, i7, au, lm, lv, ag, en, ab, db, a0, hb, mw, zw⟩ := h
      have hmw := dF_mw (z := z) (g := g34 z g p on) (p := p) (to := toH z g p on) ⟨i5.1, h14⟩ i4.1 h20 mw (nwF z) (Nat.le_refl _)
      obtain ⟨m, em, hm⟩ := dF_m z (g34 z g p on) p (toH z g p on) ⟨i5.1, h14⟩ (nwF z) h20
      have h980 := clamp_le 980 i5.1 h14
      have oz : ∀ k, k ≠ 14 → (dF z (g34 z g p on) p (toH z g p on) (nwF z)).1 k = z k := fun k hk => dF_z z (g34 z g p on) p (toH z g p on) k hk (nwF z)
      have og : ∀ k, k < 15 ∨ 20 < k → (dF z (g34 z g p on) p (toH z g p on) (nwF z)).2 k = g34 z g p on k := fun k hk => dF_g z (g34 z g p on) p (toH z g p on) k hk (nwF z)
      have e3 : ∀ q, g34 z g p on 3 q = if q = p.toNatClampNeg then on else g 3 q := fun q => by unfold g34; rw [gup_n (by decide), gup_s]
      have eo : ∀ k, k ≠ 3 ∧ k ≠ 4 → g34 z g p on k = g k := fun k hk => by unfold g34; rw [gup_n hk.2, gup_n hk.1]
      have zw2 : ∀ w, nwF z ≤ w → w < 20 → ∀ p2 q, p2 < 12 → q < 12 → (dF z (g34 z g p on) p (toH z g p on) (nwF z)).2 20 (144 * w + 12 * p2 + q) = 0 := fun w h1 h2 => dF_zw hp12 (fun p q hp hq => by rw [eo 20 (by decide)]; exact (zw w h1 h2).1 p q hp hq) (nwF z)
      have e5 : (z 11).toNatClampNeg = nwF z := rfl
      rw [e5]
      dsimp only
      generalize dF z (g34 z g p on) p (toH z g p on) (nwF z) = s at *
      have hon : ¬ on = -1 := fun e => by have := c0.2.1; rw [e] at this; exact absurd this (by decide)
      have hdn := dN_die (g := g) (g' := g34 z g p on) c3' (by rw [e3, if_pos rfl]; exact hon) (fun q hq => by rw [e3, if_neg hq]) (npF z) hpn
      have nw : nwF s.1 = nwF z := by unfold nwF; rw [oz 11 (by decide)]
      have np : npF s.1 = npF z := by unfold npF; rw [oz 1 (by decide)]
      have na : naF s.1 = naF z := by unfold naF; rw [oz 5 (by decide)]
      refine ⟨by rw [oz 0 (by decide)]; exact i1, by rw [oz 1 (by decide)]; exact i2, by rw [oz 5 (by decide)]; exact i3, by rw [oz 11 (by decide)]; exact i4, ⟨by rw [em]; exact nI_low (by omega), ?_⟩, by rw [oz 22 (by decide)]; exact i6, by rw [oz 31 (by decide)]; exact ⟨le7 i7.1, i7.2⟩, ?_, ?_, ?_, ?_, ?_, ?_, ?_, ?_, ?_, ?_, ?_⟩
      · rw [np, dN_cong (g := g34 z g p on) _ (fun q _ => by rw [og 3 (by omega)]), hdn]
        have := i5.2
        unfold mvF at this ⊢
        rw [em, clN (by omega)]
        omega
      · unfold AU2; rw [nw, og 12 (by omega), eo 12 (by decide), oz 1 (by decide)]; exact au
      · unfold LM2; rw [nw, og 29 (by omega), eo 29 (by decide)]; exact lm
      · unfold LV2 lmN; rw [nw, og 29 (by omega), eo 29 (by decide), og 30 (by omega), eo 30 (by decide)]; exact lv
      · unfold AGv; rw [nw, og 21 (by omega), eo 21 (by decide)]; exact ag
      · unfold EN; rw [nw, og 13 (by omega), eo 13 (by decide), oz 0 (by decide)]; exact en
      · unfold AB; rw [na, og 6 (by omega), eo 6 (by decide), og 7 (by omega), eo 7 (by decide), og 8 (by omega), eo 8 (by decide)]; exact ab
      · intro q hq
        rw [np] at hq
        rw [og 3 (by omega), e3]
        by_cases e : q = p.toNatClampNeg
        · rw [if_pos e]; exact Or.inr ⟨c0.2.1, Int32.le_trans c0.2.2 i1.2⟩
        · rw [if_neg e]; exact db q hq
      · unfold AG0; rw [nw, np, og 21 (by omega), eo 21 (by decide)]; exact a0
      · unfold HB; rw [np, og 2 (by omega), eo 2 (by decide), oz 1 (by decide)]; exact hb
      · intro k hk
        rw [oz 11 (by decide)]
        exact hmw k hk
      · intro w h1 h2
        rw [nw] at h1
        refine ⟨zw2 w h1 h2, fun p2 hp2 => ?_⟩
        rw [og 21 (by omega), eo 21 (by decide)]
        exact (zw w h1 h2).2 p2 hp2
  · exact h.same
