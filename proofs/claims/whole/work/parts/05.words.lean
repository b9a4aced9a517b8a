theorem iX0 : ∀ w ∈ u_ws RX0 TX0 5, w ∈ lw_tbl := by decide +kernel
theorem giX0 : ∀ w ∈ u_ws RX0 TX0 5, goodWord w = true := by decide +kernel
theorem iX1 : ∀ w ∈ u_ws RX1 TX1 2, w ∈ lw_tbl := by decide +kernel
theorem giX1 : ∀ w ∈ u_ws RX1 TX1 2, goodWord w = true := by decide +kernel
theorem iX2 : ∀ w ∈ u_ws RX2 TX2 2, w ∈ lw_tbl := by decide +kernel
theorem giX2 : ∀ w ∈ u_ws RX2 TX2 2, goodWord w = true := by decide +kernel
theorem iX3 : ∀ w ∈ u_ws RX3 TX3 1, w ∈ lw_tbl := by decide +kernel
theorem giX3 : ∀ w ∈ u_ws RX3 TX3 1, goodWord w = true := by decide +kernel
theorem iX4 : ∀ w ∈ u_ws RX4 TX4 6, w ∈ lw_tbl := by decide +kernel
theorem giX4 : ∀ w ∈ u_ws RX4 TX4 6, goodWord w = true := by decide +kernel
theorem iX5 : ∀ w ∈ u_ws RX5 TX5 2, w ∈ lw_tbl := by decide +kernel
theorem giX5 : ∀ w ∈ u_ws RX5 TX5 2, goodWord w = true := by decide +kernel
theorem iX6 : ∀ w ∈ u_ws RX6 TX6 3, w ∈ lw_tbl := by decide +kernel
theorem giX6 : ∀ w ∈ u_ws RX6 TX6 3, goodWord w = true := by decide +kernel
theorem iX7 : ∀ w ∈ u_ws RX7 TX7 3, w ∈ lw_tbl := by decide +kernel
theorem giX7 : ∀ w ∈ u_ws RX7 TX7 3, goodWord w = true := by decide +kernel
theorem iX8 : ∀ w ∈ u_ws RX8 TX8 2, w ∈ lw_tbl := by decide +kernel
theorem giX8 : ∀ w ∈ u_ws RX8 TX8 2, goodWord w = true := by decide +kernel
theorem iX9 : ∀ w ∈ u_ws RX9 TX9 5, w ∈ lw_tbl := by decide +kernel
theorem giX9 : ∀ w ∈ u_ws RX9 TX9 5, goodWord w = true := by decide +kernel
theorem iX10 : ∀ w ∈ u_ws RX10 TX10 10, w ∈ lw_tbl := by decide +kernel
theorem giX10 : ∀ w ∈ u_ws RX10 TX10 10, goodWord w = true := by decide +kernel
theorem iX11 : ∀ w ∈ u_ws RX11 TX11 35, w ∈ lw_tbl := by decide +kernel
theorem giX11 : ∀ w ∈ u_ws RX11 TX11 35, goodWord w = true := by decide +kernel
theorem dvX0 : ∀ j, j < 5 → defaultValue (tyX0 j) = vp_V [.int 0, .int 0, .int 0, .int 0, .int 0] j := by decide +kernel
theorem dvX1 : ∀ j, j < 2 → defaultValue (tyX1 j) = vp_V [.null, .int 0] j := by decide +kernel
theorem dvX2 : ∀ j, j < 2 → defaultValue (tyX2 j) = vp_V [.null, .int 0] j := by decide +kernel
theorem dvX3 : ∀ j, j < 1 → defaultValue (tyX3 j) = vp_V [.null] j := by decide +kernel
theorem dvX4 : ∀ j, j < 6 → defaultValue (tyX4 j) = vp_V [.int 0, .int 0, .int 0, .int 0, .int 0, .int 0] j := by decide +kernel
theorem dvX5 : ∀ j, j < 2 → defaultValue (tyX5 j) = vp_V [.null, .int 0] j := by decide +kernel
theorem dvX6 : ∀ j, j < 3 → defaultValue (tyX6 j) = vp_V [.int 0, .null, .null] j := by decide +kernel
theorem dvX7 : ∀ j, j < 3 → defaultValue (tyX7 j) = vp_V [.int 0, .int 0, .int 0] j := by decide +kernel
theorem dvX8 : ∀ j, j < 2 → defaultValue (tyX8 j) = vp_V [.null, .null] j := by decide +kernel
theorem dvX9 : ∀ j, j < 5 → defaultValue (tyX9 j) = vp_V [.null, .int 0, .null, .null, .null] j := by decide +kernel
theorem dvX10 : ∀ j, j < 10 → defaultValue (tyX10 j) = vp_V [.int 0, .null, .int 0, .null, .null, .int 0, .null, .int 0, .null, .null] j := by decide +kernel
theorem dvX11 : ∀ j, j < 35 → defaultValue (tyX11 j) = vp_V [.int 0, .int 0, .null, .null, .null, .int 0, .null, .null, .null, .null, .null, .int 0, .null, .null, .int 0, .null, .null, .null, .null, .null, .null, .null, .int 0, .null, .null, .null, .null, .null, .null, .null, .null, .int 0, .null, .int 0, .null] j := by decide +kernel
section QL
variable {p : Program} {l : Launch} {e : Env} {R : Room} {s : State} {m : MethodId} {args : Array Value} {below : List Frame} {meth : Method} {c : Code} {D : va_G} {A : Nat → Prop} {nL : Nat} {Q : State → Prop}
theorem q_loops (heads : List Nat) (body : Nat → (Nat → q_K) → q_K) (hb : ∀ K : Nat → q_K, (∀ h ∈ heads, q_V p l e R s m args below meth c D A nL Q h (K h)) → ∀ h ∈ heads, q_V p l e R s m args below meth c D A nL Q h (body h K)) (Inv : Nat → Nat → q_K)
    (hI : ∀ (n h : Nat), h ∈ heads → ∀ (L : List (Option Value)) (st : List Value) (σ : q_S) (cr sr : Nat), Inv h n L st σ cr sr → body h (fun h L st σ cr sr => ∃ m : Nat, m < n ∧ Inv h m L st σ cr sr) L st σ cr sr) :
    ∀ h ∈ heads, q_V p l e R s m args below meth c D A nL Q h (fun L st σ cr sr => ∃ n : Nat, Inv h n L st σ cr sr) := by
  have key : ∀ n : Nat, ∀ h ∈ heads, q_V p l e R s m args below meth c D A nL Q h (Inv h n) := by
    intro n
    induction n using Nat.strongRecOn with
    | _ n ih =>
      intro h hh L st σ cr sr H locs cells slots ls a1 a2 a3 a4 a5 a6
      refine hb (fun h L st σ cr sr => ∃ m : Nat, m < n ∧ Inv h m L st σ cr sr) (fun h' hh' => ?_) h hh L st σ cr sr H locs cells slots ls a1 a2 a3 a4 a5 (hI n h hh _ _ _ _ _ a6)
      intro L st σ cr sr H locs cells slots ls b1 b2 b3 b4 b5 b6
      obtain ⟨k, hk, b6⟩ := b6
      exact ih k hk h' hh' L st σ cr sr H locs cells slots ls b1 b2 b3 b4 b5 b6
  intro h hh L st σ cr sr H locs cells slots ls a1 a2 a3 a4 a5 a6
  obtain ⟨n, a6⟩ := a6
  exact key n h hh L st σ cr sr H locs cells slots ls a1 a2 a3 a4 a5 a6
end QL
