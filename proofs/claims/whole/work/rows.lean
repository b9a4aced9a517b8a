section
-- ===== PART A: goes FIRST, ahead of the names: the tables' words, and 'selects' of the private methods out of them =====
/-- a private method of a class that the tables say can be made, by its rows of tables_1 -/
def lw_okq (q : MethodName × Nat) : Prop := (q.1.cls ≠ "java/lang/invoke/MethodHandle" ∧ q.1.cls ≠ "java/lang/invoke/VarHandle") ∧ Cond.instantiable q.1.cls q.2 ∈ tables_1 ∧ Cond.privateMethod q.1 ∈ tables_1 ∧ Cond.instanceMethod q.1 ∈ tables_1
theorem lw_p0 : lw_okq (⟨"CopyRegister", "personAt", "(I)LCopyRegister$Person;"⟩, 10) := ⟨⟨by decide +kernel, by decide +kernel⟩, List.mem_of_getElem? (i := 16) (by decide +kernel), List.mem_of_getElem? (i := 138) (by decide +kernel), List.mem_of_getElem? (i := 139) (by decide +kernel)⟩
theorem lw_p1 : lw_okq (⟨"CopyRegister", "receiverFrom", "(LCopyRegister$Person;)I"⟩, 10) := ⟨⟨by decide +kernel, by decide +kernel⟩, List.mem_of_getElem? (i := 16) (by decide +kernel), List.mem_of_getElem? (i := 154) (by decide +kernel), List.mem_of_getElem? (i := 155) (by decide +kernel)⟩
theorem lw_p2 : lw_okq (⟨"CopyRegister", "workAt", "(I)LCopyRegister$Work;"⟩, 10) := ⟨⟨by decide +kernel, by decide +kernel⟩, List.mem_of_getElem? (i := 16) (by decide +kernel), List.mem_of_getElem? (i := 158) (by decide +kernel), List.mem_of_getElem? (i := 159) (by decide +kernel)⟩
theorem lw_p3 : lw_okq (⟨"CopyRegister$Shares", "pledgedTo", "(II)I"⟩, 2) := ⟨⟨by decide +kernel, by decide +kernel⟩, List.mem_of_getElem? (i := 172) (by decide +kernel), List.mem_of_getElem? (i := 170) (by decide +kernel), List.mem_of_getElem? (i := 171) (by decide +kernel)⟩
theorem lw_p4 : lw_okq (⟨"CopyRegister$Acts", "rowAt", "(I)LCopyRegister$Act;"⟩, 2) := ⟨⟨by decide +kernel, by decide +kernel⟩, List.mem_of_getElem? (i := 26) (by decide +kernel), List.mem_of_getElem? (i := 243) (by decide +kernel), List.mem_of_getElem? (i := 244) (by decide +kernel)⟩
theorem lw_p5 : lw_okq (⟨"CopyRegister$Acts", "endAheadOf", "(ILCopyRegister$Work;I)I"⟩, 2) := ⟨⟨by decide +kernel, by decide +kernel⟩, List.mem_of_getElem? (i := 26) (by decide +kernel), List.mem_of_getElem? (i := 344) (by decide +kernel), List.mem_of_getElem? (i := 345) (by decide +kernel)⟩
theorem lw_p6 : lw_okq (⟨"CopyRegister$Acts", "leaveFree", "(LCopyRegister$Work;II)Z"⟩, 2) := ⟨⟨by decide +kernel, by decide +kernel⟩, List.mem_of_getElem? (i := 26) (by decide +kernel), List.mem_of_getElem? (i := 380) (by decide +kernel), List.mem_of_getElem? (i := 381) (by decide +kernel)⟩
theorem lw_p7 : lw_okq (⟨"CopyRegister", "areTwoPersons", "(II)Z"⟩, 10) := ⟨⟨by decide +kernel, by decide +kernel⟩, List.mem_of_getElem? (i := 16) (by decide +kernel), List.mem_of_getElem? (i := 395) (by decide +kernel), List.mem_of_getElem? (i := 396) (by decide +kernel)⟩
theorem lw_p8 : lw_okq (⟨"CopyRegister", "isLicensed", "(IIII)Z"⟩, 10) := ⟨⟨by decide +kernel, by decide +kernel⟩, List.mem_of_getElem? (i := 16) (by decide +kernel), List.mem_of_getElem? (i := 476) (by decide +kernel), List.mem_of_getElem? (i := 477) (by decide +kernel)⟩
theorem lw_p9 : lw_okq (⟨"CopyRegister$Comparison", "clearEdges", "(II)V"⟩, 1) := ⟨⟨by decide +kernel, by decide +kernel⟩, List.mem_of_getElem? (i := 61) (by decide +kernel), List.mem_of_getElem? (i := 513) (by decide +kernel), List.mem_of_getElem? (i := 514) (by decide +kernel)⟩
theorem lw_p10 : lw_okq (⟨"CopyRegister$Comparison", "setRest", "(III)V"⟩, 1) := ⟨⟨by decide +kernel, by decide +kernel⟩, List.mem_of_getElem? (i := 61) (by decide +kernel), List.mem_of_getElem? (i := 517) (by decide +kernel), List.mem_of_getElem? (i := 518) (by decide +kernel)⟩
theorem lw_p11 : lw_okq (⟨"CopyRegister$Comparison", "restFrom", "(II)I"⟩, 1) := ⟨⟨by decide +kernel, by decide +kernel⟩, List.mem_of_getElem? (i := 61) (by decide +kernel), List.mem_of_getElem? (i := 532) (by decide +kernel), List.mem_of_getElem? (i := 533) (by decide +kernel)⟩
theorem lw_p12 : lw_okq (⟨"CopyRegisterModel", "isPerson", "(I)Z"⟩, 35) := ⟨⟨by decide +kernel, by decide +kernel⟩, List.mem_of_getElem? (i := 564) (by decide +kernel), List.mem_of_getElem? (i := 691) (by decide +kernel), List.mem_of_getElem? (i := 692) (by decide +kernel)⟩
theorem lw_p13 : lw_okq (⟨"CopyRegisterModel", "holds", "(III)I"⟩, 35) := ⟨⟨by decide +kernel, by decide +kernel⟩, List.mem_of_getElem? (i := 564) (by decide +kernel), List.mem_of_getElem? (i := 699) (by decide +kernel), List.mem_of_getElem? (i := 700) (by decide +kernel)⟩
theorem lw_p14 : lw_okq (⟨"CopyRegisterModel", "move", "(IIII)V"⟩, 35) := ⟨⟨by decide +kernel, by decide +kernel⟩, List.mem_of_getElem? (i := 564) (by decide +kernel), List.mem_of_getElem? (i := 703) (by decide +kernel), List.mem_of_getElem? (i := 704) (by decide +kernel)⟩
theorem lw_p15 : lw_okq (⟨"CopyRegisterModel", "deathAt", "(II)I"⟩, 35) := ⟨⟨by decide +kernel, by decide +kernel⟩, List.mem_of_getElem? (i := 564) (by decide +kernel), List.mem_of_getElem? (i := 711) (by decide +kernel), List.mem_of_getElem? (i := 712) (by decide +kernel)⟩
def lw_privs_1 : List (MethodName × Nat) := [(⟨"CopyRegister", "personAt", "(I)LCopyRegister$Person;"⟩, 10), (⟨"CopyRegister", "receiverFrom", "(LCopyRegister$Person;)I"⟩, 10), (⟨"CopyRegister", "workAt", "(I)LCopyRegister$Work;"⟩, 10), (⟨"CopyRegister$Shares", "pledgedTo", "(II)I"⟩, 2), (⟨"CopyRegister$Acts", "rowAt", "(I)LCopyRegister$Act;"⟩, 2), (⟨"CopyRegister$Acts", "endAheadOf", "(ILCopyRegister$Work;I)I"⟩, 2), (⟨"CopyRegister$Acts", "leaveFree", "(LCopyRegister$Work;II)Z"⟩, 2), (⟨"CopyRegister", "areTwoPersons", "(II)Z"⟩, 10), (⟨"CopyRegister", "isLicensed", "(IIII)Z"⟩, 10), (⟨"CopyRegister$Comparison", "clearEdges", "(II)V"⟩, 1), (⟨"CopyRegister$Comparison", "setRest", "(III)V"⟩, 1), (⟨"CopyRegister$Comparison", "restFrom", "(II)I"⟩, 1), (⟨"CopyRegisterModel", "isPerson", "(I)Z"⟩, 35), (⟨"CopyRegisterModel", "holds", "(III)I"⟩, 35), (⟨"CopyRegisterModel", "move", "(IIII)V"⟩, 35), (⟨"CopyRegisterModel", "deathAt", "(II)I"⟩, 35)]
theorem lw_r1 : ∀ q ∈ lw_privs_1, lw_okq q := List.forall_mem_cons.mpr ⟨lw_p0, List.forall_mem_cons.mpr ⟨lw_p1, List.forall_mem_cons.mpr ⟨lw_p2, List.forall_mem_cons.mpr ⟨lw_p3, List.forall_mem_cons.mpr ⟨lw_p4, List.forall_mem_cons.mpr ⟨lw_p5, List.forall_mem_cons.mpr ⟨lw_p6, List.forall_mem_cons.mpr ⟨lw_p7, List.forall_mem_cons.mpr ⟨lw_p8, List.forall_mem_cons.mpr ⟨lw_p9, List.forall_mem_cons.mpr ⟨lw_p10, List.forall_mem_cons.mpr ⟨lw_p11, List.forall_mem_cons.mpr ⟨lw_p12, List.forall_mem_cons.mpr ⟨lw_p13, List.forall_mem_cons.mpr ⟨lw_p14, List.forall_mem_cons.mpr ⟨lw_p15, fun _ h => absurd h List.not_mem_nil⟩⟩⟩⟩⟩⟩⟩⟩⟩⟩⟩⟩⟩⟩⟩⟩
theorem lw_p16 : lw_okq (⟨"CopyRegisterModel", "isWork", "(I)Z"⟩, 35) := ⟨⟨by decide +kernel, by decide +kernel⟩, List.mem_of_getElem? (i := 564) (by decide +kernel), List.mem_of_getElem? (i := 727) (by decide +kernel), List.mem_of_getElem? (i := 728) (by decide +kernel)⟩
theorem lw_p17 : lw_okq (⟨"CopyRegisterModel", "endAt", "(III)I"⟩, 35) := ⟨⟨by decide +kernel, by decide +kernel⟩, List.mem_of_getElem? (i := 564) (by decide +kernel), List.mem_of_getElem? (i := 731) (by decide +kernel), List.mem_of_getElem? (i := 732) (by decide +kernel)⟩
theorem lw_p18 : lw_okq (⟨"CopyRegisterModel", "actAt", "(I)I"⟩, 35) := ⟨⟨by decide +kernel, by decide +kernel⟩, List.mem_of_getElem? (i := 564) (by decide +kernel), List.mem_of_getElem? (i := 735) (by decide +kernel), List.mem_of_getElem? (i := 736) (by decide +kernel)⟩
theorem lw_p19 : lw_okq (⟨"CopyRegisterModel", "endBy", "(III)I"⟩, 35) := ⟨⟨by decide +kernel, by decide +kernel⟩, List.mem_of_getElem? (i := 564) (by decide +kernel), List.mem_of_getElem? (i := 739) (by decide +kernel), List.mem_of_getElem? (i := 740) (by decide +kernel)⟩
theorem lw_p20 : lw_okq (⟨"CopyRegisterModel", "hasRight", "(III)Z"⟩, 35) := ⟨⟨by decide +kernel, by decide +kernel⟩, List.mem_of_getElem? (i := 564) (by decide +kernel), List.mem_of_getElem? (i := 751) (by decide +kernel), List.mem_of_getElem? (i := 752) (by decide +kernel)⟩
theorem lw_p21 : lw_okq (⟨"CopyRegisterModel", "areTwo", "(III)Z"⟩, 35) := ⟨⟨by decide +kernel, by decide +kernel⟩, List.mem_of_getElem? (i := 564) (by decide +kernel), List.mem_of_getElem? (i := 759) (by decide +kernel), List.mem_of_getElem? (i := 760) (by decide +kernel)⟩
theorem lw_p22 : lw_okq (⟨"CopyRegisterModel", "freeOf", "(II)I"⟩, 35) := ⟨⟨by decide +kernel, by decide +kernel⟩, List.mem_of_getElem? (i := 564) (by decide +kernel), List.mem_of_getElem? (i := 763) (by decide +kernel), List.mem_of_getElem? (i := 764) (by decide +kernel)⟩
theorem lw_p23 : lw_okq (⟨"CopyRegisterModel", "pledgedBy", "(II)I"⟩, 35) := ⟨⟨by decide +kernel, by decide +kernel⟩, List.mem_of_getElem? (i := 564) (by decide +kernel), List.mem_of_getElem? (i := 767) (by decide +kernel), List.mem_of_getElem? (i := 768) (by decide +kernel)⟩
theorem lw_p24 : lw_okq (⟨"CopyRegisterModel", "isAgreed", "(I)Z"⟩, 35) := ⟨⟨by decide +kernel, by decide +kernel⟩, List.mem_of_getElem? (i := 564) (by decide +kernel), List.mem_of_getElem? (i := 791) (by decide +kernel), List.mem_of_getElem? (i := 792) (by decide +kernel)⟩
theorem lw_p25 : lw_okq (⟨"CopyRegisterModel", "layRest", "(II)V"⟩, 35) := ⟨⟨by decide +kernel, by decide +kernel⟩, List.mem_of_getElem? (i := 564) (by decide +kernel), List.mem_of_getElem? (i := 811) (by decide +kernel), List.mem_of_getElem? (i := 812) (by decide +kernel)⟩
theorem lw_p26 : lw_okq (⟨"CopyRegisterModel", "areLike", "(IIII)Z"⟩, 35) := ⟨⟨by decide +kernel, by decide +kernel⟩, List.mem_of_getElem? (i := 564) (by decide +kernel), List.mem_of_getElem? (i := 815) (by decide +kernel), List.mem_of_getElem? (i := 816) (by decide +kernel)⟩
theorem lw_p27 : lw_okq (⟨"CopyRegisterModel", "placeFor", "(IIIII)I"⟩, 35) := ⟨⟨by decide +kernel, by decide +kernel⟩, List.mem_of_getElem? (i := 564) (by decide +kernel), List.mem_of_getElem? (i := 823) (by decide +kernel), List.mem_of_getElem? (i := 824) (by decide +kernel)⟩
def lw_privs_2 : List (MethodName × Nat) := [(⟨"CopyRegisterModel", "isWork", "(I)Z"⟩, 35), (⟨"CopyRegisterModel", "endAt", "(III)I"⟩, 35), (⟨"CopyRegisterModel", "actAt", "(I)I"⟩, 35), (⟨"CopyRegisterModel", "endBy", "(III)I"⟩, 35), (⟨"CopyRegisterModel", "hasRight", "(III)Z"⟩, 35), (⟨"CopyRegisterModel", "areTwo", "(III)Z"⟩, 35), (⟨"CopyRegisterModel", "freeOf", "(II)I"⟩, 35), (⟨"CopyRegisterModel", "pledgedBy", "(II)I"⟩, 35), (⟨"CopyRegisterModel", "isAgreed", "(I)Z"⟩, 35), (⟨"CopyRegisterModel", "layRest", "(II)V"⟩, 35), (⟨"CopyRegisterModel", "areLike", "(IIII)Z"⟩, 35), (⟨"CopyRegisterModel", "placeFor", "(IIIII)I"⟩, 35)]
theorem lw_r2 : ∀ q ∈ lw_privs_2, lw_okq q := List.forall_mem_cons.mpr ⟨lw_p16, List.forall_mem_cons.mpr ⟨lw_p17, List.forall_mem_cons.mpr ⟨lw_p18, List.forall_mem_cons.mpr ⟨lw_p19, List.forall_mem_cons.mpr ⟨lw_p20, List.forall_mem_cons.mpr ⟨lw_p21, List.forall_mem_cons.mpr ⟨lw_p22, List.forall_mem_cons.mpr ⟨lw_p23, List.forall_mem_cons.mpr ⟨lw_p24, List.forall_mem_cons.mpr ⟨lw_p25, List.forall_mem_cons.mpr ⟨lw_p26, List.forall_mem_cons.mpr ⟨lw_p27, fun _ h => absurd h List.not_mem_nil⟩⟩⟩⟩⟩⟩⟩⟩⟩⟩⟩⟩
def lw_privs : List (MethodName × Nat) := lw_privs_1 ++ (lw_privs_2)
def lw_tbl : List Cond := k2_sels lw_privs ++ tables_1
theorem lw_privs_ok : ∀ q ∈ lw_privs, lw_okq q := by
  show ∀ q ∈ lw_privs_1 ++ (lw_privs_2), lw_okq q
  exact List.forall_mem_append.mpr ⟨lw_r1, lw_r2⟩
/-! ===== BEGIN words of one list among another's, by their places ===== -/
theorem goodIn_r {big : List Cond} (ws : List Cond) (ps : List Nat) (hp : ws = ps.filterMap (fun i => big[i]?)) (h : ws.all goodWord = true) : GoodIn big ws := by
  intro w hw
  have h1 := List.all_eq_true.mp h w hw
  rw [hp] at hw
  obtain ⟨i, -, hi⟩ := List.mem_filterMap.mp hw
  have hm : w ∈ big := by first | exact List.mem_of_getElem? hi | exact List.getElem?_mem hi
  exact ⟨hm, good_of_word h1⟩
theorem goodIn_app {big a b : List Cond} (ha : GoodIn big a) (hb : GoodIn big b) : GoodIn big (a ++ b) := fun w h => (List.mem_append.mp h).elim (ha w) (hb w)
theorem goodIn_ca {big a b : List Cond} {c : Cond} (ha : GoodIn big (c :: a)) (hb : GoodIn big b) : GoodIn big (c :: (a ++ b)) := fun w h => (List.mem_cons.mp h).elim (fun e => ha w (List.mem_cons.mpr (Or.inl e))) (fun h => (List.mem_append.mp h).elim (fun h => ha w (List.mem_cons.mpr (Or.inr h))) (hb w))
theorem goodIn_sub {big ws : List Cond} (hm : ∀ w ∈ ws, w ∈ big) (h : ws.all goodWord = true) : GoodIn big ws := fun w hw => ⟨hm w hw, good_of_word (List.all_eq_true.mp h w hw)⟩
/-! ===== END ===== -/
def RX0 : String := "CopyRegister$Act"
def TX0 : u_T := fun k => match k with
  | 0 => ("CopyRegister$Act", "day", "I", true)
  | 1 => ("CopyRegister$Act", "fix", "I", true)
  | 2 => ("CopyRegister$Act", "life", "I", true)
  | 3 => ("CopyRegister$Act", "way", "I", true)
  | _ => ("CopyRegister$Act", "consent", "I", true)
def tyX0 : Nat → FieldType := fun k => match k with
  | 0 => .int
  | 1 => .int
  | 2 => .int
  | 3 => .int
  | _ => .int
abbrev wsX00 : List Cond := u_ws RX0 TX0 5
theorem nmX0 : ∀ a, a < 5 → ∀ b, b < 5 → a ≠ b → (TX0 a).2.1 ≠ (TX0 b).2.1 := by decide +kernel
theorem tyX0_ok : ∀ k, k < 5 → parseFieldDescriptor (TX0 k).2.2.1 = some (tyX0 k) := by decide +kernel
abbrev cX0_init : ByteArray := prog_2_method_1_code
def yX0_init : MethodName := ⟨RX0, "<init>", "(IIIII)V"⟩
abbrev cX0_endFor : ByteArray := prog_2_method_2_code
def yX0_endFor : MethodName := ⟨RX0, "endFor", "(LCopyRegister$Work;I)I"⟩
abbrev cX0_comesLaterTo : ByteArray := prog_2_method_3_code
def yX0_comesLaterTo : MethodName := ⟨RX0, "comesLaterTo", "(LCopyRegister$Work;I)Z"⟩
abbrev cX0_changes : ByteArray := prog_2_method_4_code
def yX0_changes : MethodName := ⟨RX0, "changes", "(I)Z"⟩
abbrev cX0_leavesFree : ByteArray := prog_2_method_5_code
def yX0_leavesFree : MethodName := ⟨RX0, "leavesFree", "(II)Z"⟩
def RX1 : String := "CopyRegister$Acts"
def TX1 : u_T := fun k => match k with
  | 0 => ("CopyRegister$Acts", "rows", "[LCopyRegister$Act;", true)
  | _ => ("CopyRegister$Acts", "size", "I", false)
def tyX1 : Nat → FieldType := fun k => match k with
  | 0 => .array (.object "CopyRegister$Act")
  | _ => .int
abbrev wsX10 : List Cond := u_ws RX1 TX1 2
theorem nmX1 : ∀ a, a < 2 → ∀ b, b < 2 → a ≠ b → (TX1 a).2.1 ≠ (TX1 b).2.1 := by decide +kernel
theorem tyX1_ok : ∀ k, k < 2 → parseFieldDescriptor (TX1 k).2.2.1 = some (tyX1 k) := by decide +kernel
abbrev cX1_init : ByteArray := prog_3_method_1_code
def yX1_init : MethodName := ⟨RX1, "<init>", "()V"⟩
abbrev cX1_rowAt : ByteArray := prog_3_method_2_code
def yX1_rowAt : MethodName := ⟨RX1, "rowAt", "(I)LCopyRegister$Act;"⟩
abbrev cX1_allEarlierThan : ByteArray := prog_3_method_3_code
def yX1_allEarlierThan : MethodName := ⟨RX1, "allEarlierThan", "(I)Z"⟩
abbrev cX1_append : ByteArray := prog_3_method_4_code
def yX1_append : MethodName := ⟨RX1, "append", "(LCopyRegister$Act;)I"⟩
abbrev cX1_inForceOn : ByteArray := prog_3_method_5_code
def yX1_inForceOn : MethodName := ⟨RX1, "inForceOn", "(I)LCopyRegister$Act;"⟩
abbrev cX1_consentOn : ByteArray := prog_3_method_6_code
def yX1_consentOn : MethodName := ⟨RX1, "consentOn", "(I)I"⟩
abbrev cX1_endKnownAt : ByteArray := prog_3_method_7_code
def yX1_endKnownAt : MethodName := ⟨RX1, "endKnownAt", "(LCopyRegister$Work;I)I"⟩
abbrev cX1_endAheadOf : ByteArray := prog_3_method_8_code
def yX1_endAheadOf : MethodName := ⟨RX1, "endAheadOf", "(ILCopyRegister$Work;I)I"⟩
abbrev cX1_protect : ByteArray := prog_3_method_9_code
def yX1_protect : MethodName := ⟨RX1, "protect", "(LCopyRegister$Work;II)Z"⟩
abbrev cX1_leaveFree : ByteArray := prog_3_method_10_code
def yX1_leaveFree : MethodName := ⟨RX1, "leaveFree", "(LCopyRegister$Work;II)Z"⟩
def RX2 : String := "CopyRegister$CommonLines"
def TX2 : u_T := fun k => match k with
  | 0 => ("CopyRegister$CommonLines", "marks", "[Z", true)
  | _ => ("CopyRegister$CommonLines", "size", "I", false)
def tyX2 : Nat → FieldType := fun k => match k with
  | 0 => .array .boolean
  | _ => .int
abbrev wsX20 : List Cond := u_ws RX2 TX2 2
theorem nmX2 : ∀ a, a < 2 → ∀ b, b < 2 → a ≠ b → (TX2 a).2.1 ≠ (TX2 b).2.1 := by decide +kernel
theorem tyX2_ok : ∀ k, k < 2 → parseFieldDescriptor (TX2 k).2.2.1 = some (tyX2 k) := by decide +kernel
abbrev cX2_init : ByteArray := prog_4_method_1_code
def yX2_init : MethodName := ⟨RX2, "<init>", "()V"⟩
abbrev cX2_contain : ByteArray := prog_4_method_2_code
def yX2_contain : MethodName := ⟨RX2, "contain", "(I)Z"⟩
abbrev cX2_mark : ByteArray := prog_4_method_3_code
def yX2_mark : MethodName := ⟨RX2, "mark", "(IZ)I"⟩
def RX3 : String := "CopyRegister$Comparison"
def TX3 : u_T := fun k => match k with
  | _ => ("CopyRegister$Comparison", "rest", "[[I", true)
def tyX3 : Nat → FieldType := fun k => match k with
  | _ => .array (.array .int)
abbrev wsX30 : List Cond := u_ws RX3 TX3 1
theorem nmX3 : ∀ a, a < 1 → ∀ b, b < 1 → a ≠ b → (TX3 a).2.1 ≠ (TX3 b).2.1 := by decide +kernel
theorem tyX3_ok : ∀ k, k < 1 → parseFieldDescriptor (TX3 k).2.2.1 = some (tyX3 k) := by decide +kernel
abbrev cX3_init : ByteArray := prog_5_method_1_code
def yX3_init : MethodName := ⟨RX3, "<init>", "()V"⟩
abbrev cX3_isPlace : ByteArray := prog_5_method_2_code
def yX3_isPlace : MethodName := ⟨RX3, "isPlace", "(I)Z"⟩
abbrev cX3_restFrom : ByteArray := prog_5_method_3_code
def yX3_restFrom : MethodName := ⟨RX3, "restFrom", "(II)I"⟩
abbrev cX3_setRest : ByteArray := prog_5_method_4_code
def yX3_setRest : MethodName := ⟨RX3, "setRest", "(III)V"⟩
abbrev cX3_measure : ByteArray := prog_5_method_5_code
def yX3_measure : MethodName := ⟨RX3, "measure", "(LCopyRegister$Lines;LCopyRegister$Lines;LCopyRegister$CommonLines;)I"⟩
abbrev cX3_clearEdges : ByteArray := prog_5_method_6_code
def yX3_clearEdges : MethodName := ⟨RX3, "clearEdges", "(II)V"⟩
abbrev cX3_placeOf : ByteArray := prog_5_method_7_code
def yX3_placeOf : MethodName := ⟨RX3, "placeOf", "(LCopyRegister$Lines;LCopyRegister$Lines;LCopyRegister$CommonLines;IZ)I"⟩
def RX4 : String := "CopyRegister$Licence"
def TX4 : u_T := fun k => match k with
  | 0 => ("CopyRegister$Licence", "work", "I", true)
  | 1 => ("CopyRegister$Licence", "use", "I", true)
  | 2 => ("CopyRegister$Licence", "person", "I", true)
  | 3 => ("CopyRegister$Licence", "givenDay", "I", true)
  | 4 => ("CopyRegister$Licence", "from", "I", true)
  | _ => ("CopyRegister$Licence", "to", "I", true)
def tyX4 : Nat → FieldType := fun k => match k with
  | 0 => .int
  | 1 => .int
  | 2 => .int
  | 3 => .int
  | 4 => .int
  | _ => .int
abbrev wsX40 : List Cond := u_ws RX4 TX4 6
theorem nmX4 : ∀ a, a < 6 → ∀ b, b < 6 → a ≠ b → (TX4 a).2.1 ≠ (TX4 b).2.1 := by decide +kernel
theorem tyX4_ok : ∀ k, k < 6 → parseFieldDescriptor (TX4 k).2.2.1 = some (tyX4 k) := by decide +kernel
abbrev cX4_init : ByteArray := prog_6_method_1_code
def yX4_init : MethodName := ⟨RX4, "<init>", "(IIIIII)V"⟩
abbrev cX4_fits : ByteArray := prog_6_method_2_code
def yX4_fits : MethodName := ⟨RX4, "fits", "(III)Z"⟩
abbrev cX4_coversDay : ByteArray := prog_6_method_3_code
def yX4_coversDay : MethodName := ⟨RX4, "coversDay", "(I)Z"⟩
def RX5 : String := "CopyRegister$Lines"
def TX5 : u_T := fun k => match k with
  | 0 => ("CopyRegister$Lines", "rows", "[I", true)
  | _ => ("CopyRegister$Lines", "size", "I", false)
def tyX5 : Nat → FieldType := fun k => match k with
  | 0 => .array .int
  | _ => .int
abbrev wsX50 : List Cond := u_ws RX5 TX5 2
theorem nmX5 : ∀ a, a < 2 → ∀ b, b < 2 → a ≠ b → (TX5 a).2.1 ≠ (TX5 b).2.1 := by decide +kernel
theorem tyX5_ok : ∀ k, k < 2 → parseFieldDescriptor (TX5 k).2.2.1 = some (tyX5 k) := by decide +kernel
abbrev cX5_init : ByteArray := prog_7_method_1_code
def yX5_init : MethodName := ⟨RX5, "<init>", "()V"⟩
abbrev cX5_append : ByteArray := prog_7_method_2_code
def yX5_append : MethodName := ⟨RX5, "append", "(I)I"⟩
abbrev cX5_rowAt : ByteArray := prog_7_method_3_code
def yX5_rowAt : MethodName := ⟨RX5, "rowAt", "(I)I"⟩
abbrev cX5_firstPlaceOf : ByteArray := prog_7_method_4_code
def yX5_firstPlaceOf : MethodName := ⟨RX5, "firstPlaceOf", "(II)I"⟩
abbrev cX5_sizeWithout : ByteArray := prog_7_method_5_code
def yX5_sizeWithout : MethodName := ⟨RX5, "sizeWithout", "(LCopyRegister$CommonLines;)I"⟩
def RX6 : String := "CopyRegister$Page"
def TX6 : u_T := fun k => match k with
  | 0 => ("CopyRegister$Page", "day", "I", true)
  | 1 => ("CopyRegister$Page", "before", "LCopyRegister$Page;", true)
  | _ => ("CopyRegister$Page", "owned", "[I", true)
def tyX6 : Nat → FieldType := fun k => match k with
  | 0 => .int
  | 1 => .object "CopyRegister$Page"
  | _ => .array .int
abbrev wsX60 : List Cond := u_ws RX6 TX6 3
theorem nmX6 : ∀ a, a < 3 → ∀ b, b < 3 → a ≠ b → (TX6 a).2.1 ≠ (TX6 b).2.1 := by decide +kernel
theorem tyX6_ok : ∀ k, k < 3 → parseFieldDescriptor (TX6 k).2.2.1 = some (tyX6 k) := by decide +kernel
abbrev cX6_init : ByteArray := prog_8_method_1_code
def yX6_init : MethodName := ⟨RX6, "<init>", "(ILCopyRegister$Page;)V"⟩
abbrev cX6_placeOf : ByteArray := prog_8_method_2_code
def yX6_placeOf : MethodName := ⟨RX6, "placeOf", "(I)I"⟩
abbrev cX6_sharesOf : ByteArray := prog_8_method_3_code
def yX6_sharesOf : MethodName := ⟨RX6, "sharesOf", "(I)I"⟩
abbrev cX6_change : ByteArray := prog_8_method_4_code
def yX6_change : MethodName := ⟨RX6, "change", "(II)V"⟩
def RX7 : String := "CopyRegister$Person"
def TX7 : u_T := fun k => match k with
  | 0 => ("CopyRegister$Person", "heirNumber", "I", false)
  | 1 => ("CopyRegister$Person", "deathDay", "I", false)
  | _ => ("CopyRegister$Person", "learntDay", "I", false)
def tyX7 : Nat → FieldType := fun k => match k with
  | 0 => .int
  | 1 => .int
  | _ => .int
abbrev wsX70 : List Cond := u_ws RX7 TX7 3
theorem nmX7 : ∀ a, a < 3 → ∀ b, b < 3 → a ≠ b → (TX7 a).2.1 ≠ (TX7 b).2.1 := by decide +kernel
theorem tyX7_ok : ∀ k, k < 3 → parseFieldDescriptor (TX7 k).2.2.1 = some (tyX7 k) := by decide +kernel
abbrev cX7_init : ByteArray := prog_9_method_1_code
def yX7_init : MethodName := ⟨RX7, "<init>", "()V"⟩
abbrev cX7_tellDead : ByteArray := prog_9_method_2_code
def yX7_tellDead : MethodName := ⟨RX7, "tellDead", "(II)V"⟩
abbrev cX7_isToldDead : ByteArray := prog_9_method_3_code
def yX7_isToldDead : MethodName := ⟨RX7, "isToldDead", "()Z"⟩
abbrev cX7_isDeathKnownAt : ByteArray := prog_9_method_4_code
def yX7_isDeathKnownAt : MethodName := ⟨RX7, "isDeathKnownAt", "(I)Z"⟩
def RX8 : String := "CopyRegister$Shares"
def TX8 : u_T := fun k => match k with
  | 0 => ("CopyRegister$Shares", "newest", "LCopyRegister$Page;", false)
  | _ => ("CopyRegister$Shares", "pledged", "[[I", true)
def tyX8 : Nat → FieldType := fun k => match k with
  | 0 => .object "CopyRegister$Page"
  | _ => .array (.array .int)
abbrev wsX80 : List Cond := u_ws RX8 TX8 2
theorem nmX8 : ∀ a, a < 2 → ∀ b, b < 2 → a ≠ b → (TX8 a).2.1 ≠ (TX8 b).2.1 := by decide +kernel
theorem tyX8_ok : ∀ k, k < 2 → parseFieldDescriptor (TX8 k).2.2.1 = some (tyX8 k) := by decide +kernel
abbrev cX8_init : ByteArray := prog_10_method_1_code
def yX8_init : MethodName := ⟨RX8, "<init>", "(II)V"⟩
abbrev cX8_ownedNow : ByteArray := prog_10_method_2_code
def yX8_ownedNow : MethodName := ⟨RX8, "ownedNow", "(I)I"⟩
abbrev cX8_ownedOn : ByteArray := prog_10_method_3_code
def yX8_ownedOn : MethodName := ⟨RX8, "ownedOn", "(II)I"⟩
abbrev cX8_freeOf : ByteArray := prog_10_method_4_code
def yX8_freeOf : MethodName := ⟨RX8, "freeOf", "(I)I"⟩
abbrev cX8_pledgedBy : ByteArray := prog_10_method_5_code
def yX8_pledgedBy : MethodName := ⟨RX8, "pledgedBy", "(I)I"⟩
abbrev cX8_pledgedTo : ByteArray := prog_10_method_6_code
def yX8_pledgedTo : MethodName := ⟨RX8, "pledgedTo", "(II)I"⟩
abbrev cX8_canPledge : ByteArray := prog_10_method_7_code
def yX8_canPledge : MethodName := ⟨RX8, "canPledge", "(II)Z"⟩
abbrev cX8_addPledge : ByteArray := prog_10_method_8_code
def yX8_addPledge : MethodName := ⟨RX8, "addPledge", "(III)V"⟩
abbrev cX8_dropPledge : ByteArray := prog_10_method_9_code
def yX8_dropPledge : MethodName := ⟨RX8, "dropPledge", "(II)I"⟩
abbrev cX8_move : ByteArray := prog_10_method_10_code
def yX8_move : MethodName := ⟨RX8, "move", "(IIII)V"⟩
abbrev cX8_passOn : ByteArray := prog_10_method_11_code
def yX8_passOn : MethodName := ⟨RX8, "passOn", "(III)V"⟩
def RX9 : String := "CopyRegister$Work"
def TX9 : u_T := fun k => match k with
  | 0 => ("CopyRegister$Work", "author", "LCopyRegister$Person;", true)
  | 1 => ("CopyRegister$Work", "entryDay", "I", true)
  | 2 => ("CopyRegister$Work", "shares", "LCopyRegister$Shares;", true)
  | 3 => ("CopyRegister$Work", "agreeing", "[Z", true)
  | _ => ("CopyRegister$Work", "lines", "LCopyRegister$Lines;", true)
def tyX9 : Nat → FieldType := fun k => match k with
  | 0 => .object "CopyRegister$Person"
  | 1 => .int
  | 2 => .object "CopyRegister$Shares"
  | 3 => .array .boolean
  | _ => .object "CopyRegister$Lines"
abbrev wsX90 : List Cond := u_ws RX9 TX9 5
theorem nmX9 : ∀ a, a < 5 → ∀ b, b < 5 → a ≠ b → (TX9 a).2.1 ≠ (TX9 b).2.1 := by decide +kernel
theorem tyX9_ok : ∀ k, k < 5 → parseFieldDescriptor (TX9 k).2.2.1 = some (tyX9 k) := by decide +kernel
abbrev cX9_init : ByteArray := prog_11_method_1_code
def yX9_init : MethodName := ⟨RX9, "<init>", "(LCopyRegister$Person;II)V"⟩
abbrev cX9_setAgreeing : ByteArray := prog_11_method_2_code
def yX9_setAgreeing : MethodName := ⟨RX9, "setAgreeing", "(IZ)Z"⟩
abbrev cX9_agreeingShares : ByteArray := prog_11_method_3_code
def yX9_agreeingShares : MethodName := ⟨RX9, "agreeingShares", "()I"⟩
def RX10 : String := "CopyRegister"
def TX10 : u_T := fun k => match k with
  | 0 => ("CopyRegister", "today", "I", false)
  | 1 => ("CopyRegister", "persons", "[LCopyRegister$Person;", true)
  | 2 => ("CopyRegister", "personCount", "I", false)
  | 3 => ("CopyRegister", "acts", "LCopyRegister$Acts;", true)
  | 4 => ("CopyRegister", "works", "[LCopyRegister$Work;", true)
  | 5 => ("CopyRegister", "workCount", "I", false)
  | 6 => ("CopyRegister", "licences", "[LCopyRegister$Licence;", true)
  | 7 => ("CopyRegister", "licenceCount", "I", false)
  | 8 => ("CopyRegister", "commonLines", "LCopyRegister$CommonLines;", true)
  | _ => ("CopyRegister", "comparison", "LCopyRegister$Comparison;", true)
def tyX10 : Nat → FieldType := fun k => match k with
  | 0 => .int
  | 1 => .array (.object "CopyRegister$Person")
  | 2 => .int
  | 3 => .object "CopyRegister$Acts"
  | 4 => .array (.object "CopyRegister$Work")
  | 5 => .int
  | 6 => .array (.object "CopyRegister$Licence")
  | 7 => .int
  | 8 => .object "CopyRegister$CommonLines"
  | _ => .object "CopyRegister$Comparison"
abbrev wsX100 : List Cond := u_ws RX10 TX10 10
theorem nmX10 : ∀ a, a < 10 → ∀ b, b < 10 → a ≠ b → (TX10 a).2.1 ≠ (TX10 b).2.1 := by decide +kernel
theorem tyX10_ok : ∀ k, k < 10 → parseFieldDescriptor (TX10 k).2.2.1 = some (tyX10 k) := by decide +kernel
abbrev cX10_init : ByteArray := prog_1_method_1_code
def yX10_init : MethodName := ⟨RX10, "<init>", "()V"⟩
abbrev cX10_days : ByteArray := prog_1_method_2_code
def yX10_days : MethodName := ⟨RX10, "days", "(I)I"⟩
abbrev cX10_person : ByteArray := prog_1_method_3_code
def yX10_person : MethodName := ⟨RX10, "person", "()I"⟩
abbrev cX10_heir : ByteArray := prog_1_method_4_code
def yX10_heir : MethodName := ⟨RX10, "heir", "(II)I"⟩
abbrev cX10_death : ByteArray := prog_1_method_5_code
def yX10_death : MethodName := ⟨RX10, "death", "(II)I"⟩
abbrev cX10_died : ByteArray := prog_1_method_6_code
def yX10_died : MethodName := ⟨RX10, "died", "(II)I"⟩
abbrev cX10_act : ByteArray := prog_1_method_7_code
def yX10_act : MethodName := ⟨RX10, "act", "(IIIII)I"⟩
abbrev cX10_work : ByteArray := prog_1_method_8_code
def yX10_work : MethodName := ⟨RX10, "work", "(I)I"⟩
abbrev cX10_end : ByteArray := prog_1_method_9_code
def yX10_end : MethodName := ⟨RX10, "end", "(II)I"⟩
abbrev cX10_inRight : ByteArray := prog_1_method_10_code
def yX10_inRight : MethodName := ⟨RX10, "inRight", "(III)I"⟩
abbrev cX10_sell : ByteArray := prog_1_method_11_code
def yX10_sell : MethodName := ⟨RX10, "sell", "(IIII)I"⟩
abbrev cX10_pledge : ByteArray := prog_1_method_12_code
def yX10_pledge : MethodName := ⟨RX10, "pledge", "(IIII)I"⟩
abbrev cX10_redeem : ByteArray := prog_1_method_13_code
def yX10_redeem : MethodName := ⟨RX10, "redeem", "(III)I"⟩
abbrev cX10_held : ByteArray := prog_1_method_14_code
def yX10_held : MethodName := ⟨RX10, "held", "(III)I"⟩
abbrev cX10_agree : ByteArray := prog_1_method_15_code
def yX10_agree : MethodName := ⟨RX10, "agree", "(IIZ)I"⟩
abbrev cX10_license : ByteArray := prog_1_method_16_code
def yX10_license : MethodName := ⟨RX10, "license", "(IIIII)I"⟩
abbrev cX10_may : ByteArray := prog_1_method_17_code
def yX10_may : MethodName := ⟨RX10, "may", "(IIIII)I"⟩
abbrev cX10_line : ByteArray := prog_1_method_18_code
def yX10_line : MethodName := ⟨RX10, "line", "(II)I"⟩
abbrev cX10_common : ByteArray := prog_1_method_19_code
def yX10_common : MethodName := ⟨RX10, "common", "(IZ)I"⟩
abbrev cX10_alike : ByteArray := prog_1_method_20_code
def yX10_alike : MethodName := ⟨RX10, "alike", "(II)I"⟩
abbrev cX10_pair : ByteArray := prog_1_method_21_code
def yX10_pair : MethodName := ⟨RX10, "pair", "(IIII)I"⟩
abbrev cX10_copied : ByteArray := prog_1_method_22_code
def yX10_copied : MethodName := ⟨RX10, "copied", "(III)I"⟩
abbrev cX10_count : ByteArray := prog_1_method_23_code
def yX10_count : MethodName := ⟨RX10, "count", "(I)I"⟩
abbrev cX10_isWithin : ByteArray := prog_1_method_24_code
def yX10_isWithin : MethodName := ⟨RX10, "isWithin", "(III)Z"⟩
abbrev cX10_isDay : ByteArray := prog_1_method_25_code
def yX10_isDay : MethodName := ⟨RX10, "isDay", "(I)Z"⟩
abbrev cX10_isDayOf : ByteArray := prog_1_method_26_code
def yX10_isDayOf : MethodName := ⟨RX10, "isDayOf", "(LCopyRegister$Work;I)Z"⟩
abbrev cX10_oneIf : ByteArray := prog_1_method_27_code
def yX10_oneIf : MethodName := ⟨RX10, "oneIf", "(Z)I"⟩
abbrev cX10_personAt : ByteArray := prog_1_method_28_code
def yX10_personAt : MethodName := ⟨RX10, "personAt", "(I)LCopyRegister$Person;"⟩
abbrev cX10_workAt : ByteArray := prog_1_method_29_code
def yX10_workAt : MethodName := ⟨RX10, "workAt", "(I)LCopyRegister$Work;"⟩
abbrev cX10_areTwoPersons : ByteArray := prog_1_method_30_code
def yX10_areTwoPersons : MethodName := ⟨RX10, "areTwoPersons", "(II)Z"⟩
abbrev cX10_receiverFrom : ByteArray := prog_1_method_31_code
def yX10_receiverFrom : MethodName := ⟨RX10, "receiverFrom", "(LCopyRegister$Person;)I"⟩
abbrev cX10_isLicensed : ByteArray := prog_1_method_32_code
def yX10_isLicensed : MethodName := ⟨RX10, "isLicensed", "(IIII)Z"⟩
def RX11 : String := "CopyRegisterModel"
def TX11 : u_T := fun k => match k with
  | 0 => ("CopyRegisterModel", "day", "I", false)
  | 1 => ("CopyRegisterModel", "persons", "I", false)
  | 2 => ("CopyRegisterModel", "heir", "[I", true)
  | 3 => ("CopyRegisterModel", "died", "[I", true)
  | 4 => ("CopyRegisterModel", "learnt", "[I", true)
  | 5 => ("CopyRegisterModel", "acts", "I", false)
  | 6 => ("CopyRegisterModel", "actDay", "[I", true)
  | 7 => ("CopyRegisterModel", "fix", "[I", true)
  | 8 => ("CopyRegisterModel", "life", "[I", true)
  | 9 => ("CopyRegisterModel", "way", "[I", true)
  | 10 => ("CopyRegisterModel", "consent", "[I", true)
  | 11 => ("CopyRegisterModel", "works", "I", false)
  | 12 => ("CopyRegisterModel", "author", "[I", true)
  | 13 => ("CopyRegisterModel", "entry", "[I", true)
  | 14 => ("CopyRegisterModel", "moves", "I", false)
  | 15 => ("CopyRegisterModel", "moveDay", "[I", true)
  | 16 => ("CopyRegisterModel", "moveWork", "[I", true)
  | 17 => ("CopyRegisterModel", "moveFrom", "[I", true)
  | 18 => ("CopyRegisterModel", "moveTo", "[I", true)
  | 19 => ("CopyRegisterModel", "moveMany", "[I", true)
  | 20 => ("CopyRegisterModel", "pledged", "[I", true)
  | 21 => ("CopyRegisterModel", "agrees", "[Z", true)
  | 22 => ("CopyRegisterModel", "licences", "I", false)
  | 23 => ("CopyRegisterModel", "licenceWork", "[I", true)
  | 24 => ("CopyRegisterModel", "licenceUse", "[I", true)
  | 25 => ("CopyRegisterModel", "licencePerson", "[I", true)
  | 26 => ("CopyRegisterModel", "licenceFrom", "[I", true)
  | 27 => ("CopyRegisterModel", "licenceTo", "[I", true)
  | 28 => ("CopyRegisterModel", "licenceDay", "[I", true)
  | 29 => ("CopyRegisterModel", "lineMany", "[I", true)
  | 30 => ("CopyRegisterModel", "lines", "[I", true)
  | 31 => ("CopyRegisterModel", "commons", "I", false)
  | 32 => ("CopyRegisterModel", "isCommon", "[Z", true)
  | 33 => ("CopyRegisterModel", "isGap", "Z", false)
  | _ => ("CopyRegisterModel", "rest", "[I", true)
def tyX11 : Nat → FieldType := fun k => match k with
  | 0 => .int
  | 1 => .int
  | 2 => .array .int
  | 3 => .array .int
  | 4 => .array .int
  | 5 => .int
  | 6 => .array .int
  | 7 => .array .int
  | 8 => .array .int
  | 9 => .array .int
  | 10 => .array .int
  | 11 => .int
  | 12 => .array .int
  | 13 => .array .int
  | 14 => .int
  | 15 => .array .int
  | 16 => .array .int
  | 17 => .array .int
  | 18 => .array .int
  | 19 => .array .int
  | 20 => .array .int
  | 21 => .array .boolean
  | 22 => .int
  | 23 => .array .int
  | 24 => .array .int
  | 25 => .array .int
  | 26 => .array .int
  | 27 => .array .int
  | 28 => .array .int
  | 29 => .array .int
  | 30 => .array .int
  | 31 => .int
  | 32 => .array .boolean
  | 33 => .boolean
  | _ => .array .int
abbrev wsX110 : List Cond := u_ws RX11 TX11 35
theorem nmX11 : ∀ a, a < 35 → ∀ b, b < 35 → a ≠ b → (TX11 a).2.1 ≠ (TX11 b).2.1 := by decide +kernel
theorem tyX11_ok : ∀ k, k < 35 → parseFieldDescriptor (TX11 k).2.2.1 = some (tyX11 k) := by decide +kernel
abbrev cX11_init : ByteArray := prog_13_method_1_code
def yX11_init : MethodName := ⟨RX11, "<init>", "()V"⟩
abbrev cX11_in : ByteArray := prog_13_method_2_code
def yX11_in : MethodName := ⟨RX11, "in", "(III)Z"⟩
abbrev cX11_greater : ByteArray := prog_13_method_3_code
def yX11_greater : MethodName := ⟨RX11, "greater", "(II)I"⟩
abbrev cX11_days : ByteArray := prog_13_method_4_code
def yX11_days : MethodName := ⟨RX11, "days", "(I)I"⟩
abbrev cX11_isPerson : ByteArray := prog_13_method_5_code
def yX11_isPerson : MethodName := ⟨RX11, "isPerson", "(I)Z"⟩
abbrev cX11_isWork : ByteArray := prog_13_method_6_code
def yX11_isWork : MethodName := ⟨RX11, "isWork", "(I)Z"⟩
abbrev cX11_person : ByteArray := prog_13_method_7_code
def yX11_person : MethodName := ⟨RX11, "person", "()I"⟩
abbrev cX11_heir : ByteArray := prog_13_method_8_code
def yX11_heir : MethodName := ⟨RX11, "heir", "(II)I"⟩
abbrev cX11_death : ByteArray := prog_13_method_9_code
def yX11_death : MethodName := ⟨RX11, "death", "(II)I"⟩
abbrev cX11_deathAt : ByteArray := prog_13_method_10_code
def yX11_deathAt : MethodName := ⟨RX11, "deathAt", "(II)I"⟩
abbrev cX11_died : ByteArray := prog_13_method_11_code
def yX11_died : MethodName := ⟨RX11, "died", "(II)I"⟩
abbrev cX11_act : ByteArray := prog_13_method_12_code
def yX11_act : MethodName := ⟨RX11, "act", "(IIIII)I"⟩
abbrev cX11_actAt : ByteArray := prog_13_method_13_code
def yX11_actAt : MethodName := ⟨RX11, "actAt", "(I)I"⟩
abbrev cX11_work : ByteArray := prog_13_method_14_code
def yX11_work : MethodName := ⟨RX11, "work", "(I)I"⟩
abbrev cX11_endBy : ByteArray := prog_13_method_15_code
def yX11_endBy : MethodName := ⟨RX11, "endBy", "(III)I"⟩
abbrev cX11_endAt : ByteArray := prog_13_method_16_code
def yX11_endAt : MethodName := ⟨RX11, "endAt", "(III)I"⟩
abbrev cX11_end : ByteArray := prog_13_method_17_code
def yX11_end : MethodName := ⟨RX11, "end", "(II)I"⟩
abbrev cX11_hasRight : ByteArray := prog_13_method_18_code
def yX11_hasRight : MethodName := ⟨RX11, "hasRight", "(III)Z"⟩
abbrev cX11_inRight : ByteArray := prog_13_method_19_code
def yX11_inRight : MethodName := ⟨RX11, "inRight", "(III)I"⟩
abbrev cX11_move : ByteArray := prog_13_method_20_code
def yX11_move : MethodName := ⟨RX11, "move", "(IIII)V"⟩
abbrev cX11_holds : ByteArray := prog_13_method_21_code
def yX11_holds : MethodName := ⟨RX11, "holds", "(III)I"⟩
abbrev cX11_pledgedBy : ByteArray := prog_13_method_22_code
def yX11_pledgedBy : MethodName := ⟨RX11, "pledgedBy", "(II)I"⟩
abbrev cX11_freeOf : ByteArray := prog_13_method_23_code
def yX11_freeOf : MethodName := ⟨RX11, "freeOf", "(II)I"⟩
abbrev cX11_areTwo : ByteArray := prog_13_method_24_code
def yX11_areTwo : MethodName := ⟨RX11, "areTwo", "(III)Z"⟩
abbrev cX11_sell : ByteArray := prog_13_method_25_code
def yX11_sell : MethodName := ⟨RX11, "sell", "(IIII)I"⟩
abbrev cX11_pledge : ByteArray := prog_13_method_26_code
def yX11_pledge : MethodName := ⟨RX11, "pledge", "(IIII)I"⟩
abbrev cX11_redeem : ByteArray := prog_13_method_27_code
def yX11_redeem : MethodName := ⟨RX11, "redeem", "(III)I"⟩
abbrev cX11_held : ByteArray := prog_13_method_28_code
def yX11_held : MethodName := ⟨RX11, "held", "(III)I"⟩
abbrev cX11_agree : ByteArray := prog_13_method_29_code
def yX11_agree : MethodName := ⟨RX11, "agree", "(IIZ)I"⟩
abbrev cX11_isAgreed : ByteArray := prog_13_method_30_code
def yX11_isAgreed : MethodName := ⟨RX11, "isAgreed", "(I)Z"⟩
abbrev cX11_license : ByteArray := prog_13_method_31_code
def yX11_license : MethodName := ⟨RX11, "license", "(IIIII)I"⟩
abbrev cX11_may : ByteArray := prog_13_method_32_code
def yX11_may : MethodName := ⟨RX11, "may", "(IIIII)I"⟩
abbrev cX11_line : ByteArray := prog_13_method_33_code
def yX11_line : MethodName := ⟨RX11, "line", "(II)I"⟩
abbrev cX11_common : ByteArray := prog_13_method_34_code
def yX11_common : MethodName := ⟨RX11, "common", "(IZ)I"⟩
abbrev cX11_areLike : ByteArray := prog_13_method_35_code
def yX11_areLike : MethodName := ⟨RX11, "areLike", "(IIII)Z"⟩
abbrev cX11_layRest : ByteArray := prog_13_method_36_code
def yX11_layRest : MethodName := ⟨RX11, "layRest", "(II)V"⟩
abbrev cX11_alike : ByteArray := prog_13_method_37_code
def yX11_alike : MethodName := ⟨RX11, "alike", "(II)I"⟩
abbrev cX11_placeFor : ByteArray := prog_13_method_38_code
def yX11_placeFor : MethodName := ⟨RX11, "placeFor", "(IIIII)I"⟩
abbrev cX11_pair : ByteArray := prog_13_method_39_code
def yX11_pair : MethodName := ⟨RX11, "pair", "(IIII)I"⟩
abbrev cX11_copied : ByteArray := prog_13_method_40_code
def yX11_copied : MethodName := ⟨RX11, "copied", "(III)I"⟩
abbrev cX11_count : ByteArray := prog_13_method_41_code
def yX11_count : MethodName := ⟨RX11, "count", "(I)I"⟩
def RJ9 : String := "java/lang/Math"
def TJ9 : u_T := fun k => match k with
  | _ => ("", "", "", false)
def tyJ9 : Nat → FieldType := fun k => match k with
  | _ => .int
abbrev wsJ90 : List Cond := u_ws RJ9 TJ9 0
theorem nmJ9 : ∀ a, a < 0 → ∀ b, b < 0 → a ≠ b → (TJ9 a).2.1 ≠ (TJ9 b).2.1 := by decide +kernel
theorem tyJ9_ok : ∀ k, k < 0 → parseFieldDescriptor (TJ9 k).2.2.1 = some (tyJ9 k) := by decide +kernel
abbrev cJ9_max_7cf53 : ByteArray := prog_14_method_65_code
def yJ9_max_7cf53 : MethodName := ⟨RJ9, "max", "(II)I"⟩
def RJ10 : String := "java/lang/System"
def TJ10 : u_T := fun k => match k with
  | _ => ("", "", "", false)
def tyJ10 : Nat → FieldType := fun k => match k with
  | _ => .int
abbrev wsJ100 : List Cond := u_ws RJ10 TJ10 0
theorem nmJ10 : ∀ a, a < 0 → ∀ b, b < 0 → a ≠ b → (TJ10 a).2.1 ≠ (TJ10 b).2.1 := by decide +kernel
theorem tyJ10_ok : ∀ k, k < 0 → parseFieldDescriptor (TJ10 k).2.2.1 = some (tyJ10 k) := by decide +kernel
def RL : String := "CopyRegisterLaw"
abbrev cL_law : ByteArray := code
def yL_law : MethodName := ⟨RL, "law", "([I)Z"⟩
end
section
-- the store: cells by address, arrays by their element's type
abbrev q_E : Type := (FieldType × vp_A) ⊕ (Nat × List Value)
abbrev q_S : Type := Nat → Option q_E
def q_up (σ : q_S) (a : Nat) (e : q_E) : q_S := fun b => if b = a then some e else σ b
theorem q_up_s {σ : q_S} {a : Nat} {e : q_E} : q_up σ a e a = some e := by simp [q_up]
theorem q_up_n {σ : q_S} {a b : Nat} {e : q_E} (h : b ≠ a) : q_up σ a e b = σ b := by simp [q_up, h]
abbrev q_K : Type := List (Option Value) → List Value → q_S → Nat → Nat → Prop
abbrev q_Sp : Type := List Value → q_S → (Option Value → q_S → Prop) → Prop
abbrev q_cl : List vw_C := [(RX0, TX0, 5), (RX1, TX1, 2), (RX2, TX2, 2), (RX3, TX3, 1), (RX4, TX4, 6), (RX5, TX5, 2), (RX6, TX6, 3), (RX7, TX7, 3), (RX8, TX8, 2), (RX9, TX9, 5), (RX10, TX10, 10), (RX11, TX11, 35)]
def q_in (ws : va_W) (tys : List (ClassId × FieldType)) (a : Nat) (e : q_E) : Prop := match e with
  | .inr o => ∃ k : Nat, ws[k]? = some (a, .inr o)
  | .inl y => ∃ (k t : Nat) (cA : ClassId), ws[k]? = some (a, .inl (cA, y.2)) ∧ tys[t]? = some (cA, y.1)
def q_rel (ws : va_W) (tys : List (ClassId × FieldType)) (σ : q_S) : Prop := ∀ (a : Nat) (e : q_E), σ a = some e → q_in ws tys a e
def q_W (D : va_G) (A : Nat → Prop) (σ : q_S) (U : State) (H : Heap) : Prop := ∃ (ws : va_W) (tys : List (ClassId × FieldType)), va_K D q_cl tys U ∧ va_P D q_cl ws H ∧ va_D A ws ∧ q_rel ws tys σ
theorem q_in.at {ws : va_W} {tys : List (ClassId × FieldType)} {a : Nat} {e : q_E} (h : q_in ws tys a e) : ∃ (k : Nat) (e' : va_E), ws[k]? = some (a, e') := by
  cases e with
  | inl y => obtain ⟨k, t, cA, h1, -⟩ := h; exact ⟨k, _, h1⟩
  | inr o => obtain ⟨k, h1⟩ := h; exact ⟨k, _, h1⟩
theorem q_in.mono {ws ws2 : va_W} {tys tys2 : List (ClassId × FieldType)} {a : Nat} {e : q_E} (h : q_in ws tys a e) (h1 : ∀ (k : Nat) (x : va_E), ws[k]? = some (a, x) → ∃ j : Nat, ws2[j]? = some (a, x)) (h2 : ∀ (t : Nat) (x : ClassId × FieldType), tys[t]? = some x → ∃ j : Nat, tys2[j]? = some x) : q_in ws2 tys2 a e := by
  cases e with
  | inl y =>
    obtain ⟨k, t, cA, e1, e2⟩ := h
    obtain ⟨j, f1⟩ := h1 _ _ e1
    obtain ⟨i, f2⟩ := h2 _ _ e2
    exact ⟨j, i, cA, f1, f2⟩
  | inr o =>
    obtain ⟨k, e1⟩ := h
    exact h1 _ _ e1
theorem q_rel.set {ws : va_W} {tys : List (ClassId × FieldType)} {σ : q_S} {A : Nat → Prop} (h : q_rel ws tys σ) (hD : va_D A ws) {k a : Nat} {e0 e' : va_E} {e : q_E} (hk : ws[k]? = some (a, e0)) (he : q_in (ws.set k (a, e')) tys a e) : q_rel (ws.set k (a, e')) tys (q_up σ a e) := by
  intro b x hb
  by_cases hba : b = a
  · subst hba
    rw [q_up_s] at hb
    cases hb
    exact he
  · rw [q_up_n hba] at hb
    refine (h b x hb).mono (fun j y hj => ⟨j, ?_⟩) (fun t y ht => ⟨t, ht⟩)
    have hne : k ≠ j := fun hkj => by
      subst hkj
      rw [hk] at hj
      cases hj
      exact hba rfl
    rw [List.getElem?_set_ne hne]
    exact hj
theorem q_rel.push {ws : va_W} {tys ts : List (ClassId × FieldType)} {σ : q_S} {A : Nat → Prop} (h : q_rel ws tys σ) {q : Nat} {e' : va_E} {e : q_E} (hD : va_D A (ws ++ [(q, e')])) (he : q_in (ws ++ [(q, e')]) (tys ++ ts) q e) : σ q = none ∧ q_rel (ws ++ [(q, e')]) (tys ++ ts) (q_up σ q e) := by
  have hap : ∀ (j : Nat) (y : Nat × va_E), ws[j]? = some y → (ws ++ [(q, e')])[j]? = some y := fun j y hj => by
    rw [List.getElem?_append_left ((List.getElem?_eq_some_iff.mp hj).1)]
    exact hj
  refine ⟨?_, fun b x hb => ?_⟩
  · cases hq : σ q with
    | none => rfl
    | some x =>
      obtain ⟨j, y, hj⟩ := (h q x hq).at
      have h1 : (ws ++ [(q, e')])[ws.length]? = some (q, e') := by simp
      have := hD.1 _ _ _ _ (hap _ _ hj) h1 rfl
      have h2 := (List.getElem?_eq_some_iff.mp hj).1
      omega
  · by_cases hba : b = q
    · subst hba
      rw [q_up_s] at hb
      cases hb
      exact he
    · rw [q_up_n hba] at hb
      refine (h b x hb).mono (fun j y hj => ⟨j, hap _ _ hj⟩) (fun t y ht => ⟨t, ?_⟩)
      rw [List.getElem?_append_left ((List.getElem?_eq_some_iff.mp ht).1)]
      exact ht
theorem q_W.moved {D : va_G} {A : Nat → Prop} {σ : q_S} {u U : State} {H : Heap} (hvm : u.vm.Alike U.vm) (h : q_W D A σ u H) : q_W D A σ U H := by
  obtain ⟨ws, tys, hK, hP, hD, hr⟩ := h
  exact ⟨ws, tys, va_K.moved hvm hK, hP, hD, hr⟩
-- what the states must keep beside the words
def q_nF : List (String × Nat × String × String × String) := [("CopyRegister", 108, "CopyRegister$Person", "deathDay", "I"), ("CopyRegister", 165, "CopyRegister$Work", "entryDay", "I"), ("CopyRegister", 189, "CopyRegister$Work", "lines", "LCopyRegister$Lines;"), ("CopyRegister", 213, "CopyRegister$Acts", "size", "I"), ("CopyRegister", 216, "CopyRegister$CommonLines", "size", "I"), ("CopyRegister", 72, "CopyRegister$Person", "heirNumber", "I"), ("CopyRegister", 91, "CopyRegister$Work", "shares", "LCopyRegister$Shares;"), ("CopyRegister$Act", 27, "CopyRegister$Work", "entryDay", "I"), ("CopyRegister$Act", 32, "CopyRegister$Work", "author", "LCopyRegister$Person;"), ("CopyRegister$Act", 43, "CopyRegister$Person", "deathDay", "I"), ("CopyRegister$Acts", 25, "CopyRegister$Act", "day", "I"), ("CopyRegister$Acts", 31, "CopyRegister$Act", "consent", "I"), ("CopyRegister$Acts", 38, "CopyRegister$Work", "entryDay", "I"), ("CopyRegister$Comparison", 20, "CopyRegister$Lines", "size", "I"), ("CopyRegister$Shares", 33, "CopyRegister$Page", "day", "I"), ("CopyRegister$Shares", 37, "CopyRegister$Page", "before", "LCopyRegister$Page;")]
def q_nM : List (String × Nat × MethodName) := [("CopyRegister$CommonLines", 19, yX10_oneIf), ("CopyRegister$Shares", 54, yX10_isWithin)]
def q_nA : List FieldType := [.object "CopyRegister$Act", .object "CopyRegister$Licence", .object "CopyRegister$Person", .object "CopyRegister$Work", .array .int]
def q_N (U : State) : Prop := (∀ w ∈ q_nF, va_Nw (.fieldLinkNest w.1 w.2.1 w.2.2.1 w.2.2.2.1 w.2.2.2.2 "CopyRegister") U) ∧ (∀ w ∈ q_nM, va_Nw (.methodLinkNest w.1 w.2.1 w.2.2 "CopyRegister") U) ∧ ∀ t ∈ q_nA, (Cond.arrayOver t).before #[] U = true
theorem q_N.warm {s U : State} (hW : s.WarmedH U.vm) (h : q_N s) : q_N U :=
  ⟨fun w hw => va_Nw.warmF hW (h.1 w hw), fun w hw => va_Nw.warmM hW (h.2.1 w hw), fun t ht => by
    have h9 : (Cond.arrayOver t).before #[] (s.setVm U.vm) = true := by rw [Cond.arrayOver_setVmC hW.alike]; exact h.2.2 t ht
    exact h9⟩
theorem q_N.same {u U : State} (hv : u.vm = U.vm) (h : q_N u) : q_N U :=
  ⟨fun w hw => va_Nw.same rfl hv (h.1 w hw), fun w hw => va_Nw.same rfl hv (h.2.1 w hw), fun t ht => by
    have h9 := h.2.2 t ht
    simp only [Cond.before, Cond.holds, Cond.value] at h9 ⊢
    rw [← hv]
    exact h9⟩
-- words
def lw_good : List Cond := lw_tbl.filter goodWord
theorem lw_mem {w : Cond} (h : w ∈ lw_tbl) (g : goodWord w = true) : w ∈ lw_good := List.mem_filter.mpr ⟨h, g⟩
def q_ws (y : MethodName) (b : ByteArray) (n : Nat) (ret : Option FieldType) : List Cond := .code y b n ret :: lw_good
theorem q_goodIn {y y2 : MethodName} {b b2 : ByteArray} {n n2 : Nat} {r r2 : Option FieldType} (h : Cond.code y2 b2 n2 r2 ∈ lw_tbl) : GoodIn lw_good (q_ws y2 b2 n2 r2) := by
  intro w hw
  rcases List.mem_cons.mp hw with rfl | hw
  · exact ⟨lw_mem h rfl, good_of_word rfl⟩
  · exact ⟨hw, good_of_word (List.mem_filter.mp hw).2⟩
-- contracts
def q_Pc (D : va_G) (A : Nat → Prop) (σ : q_S) (av : List Value) (sz : Nat) : Array Value → State → Prop := va_Pc av (fun U => U.heap.size = sz ∧ q_W D A σ U U.heap ∧ q_N U)
def q_Qc (D : va_G) (A : Nat → Prop) (post : Option Value → q_S → Prop) : Array Value → State → Outcome → State → Prop := fun _ st oc t => (∃ (r : Option Value) (σ' : q_S), oc = .returned r ∧ post r σ' ∧ q_W D A σ' t t.heap) ∧ va_F A st t
def q_Ct (l : Launch) (y : MethodName) (b : ByteArray) (n : Nat) (ret : Option FieldType) (rm : Room) (sp : q_Sp) : Prop := ∀ (D : va_G) (A : Nat → Prop) (sz : Nat) (σ : q_S) (av : List Value) (post : Option Value → q_S → Prop), (∀ q, sz ≤ q → A q) → sp av σ post → Met l y (q_ws y b n ret) rm (q_Pc D A σ av sz) (q_Qc D A post) rm.cells rm.slots A
-- locals
def q_al (L : List (Option Value)) : List (Nat × Value) := (List.range L.length).filterMap (fun i => (L[i]?).bind (fun o => o.map (fun v => (i, v))))
theorem q_al_mem {L : List (Option Value)} {i : Nat} {v : Value} : (i, v) ∈ q_al L ↔ L[i]? = some (some v) := by
  unfold q_al
  rw [List.mem_filterMap]
  constructor
  · rintro ⟨j, -, hj⟩
    cases h1 : L[j]? with
    | none => rw [h1] at hj; cases hj
    | some o =>
      rw [h1] at hj
      cases o with
      | none => cases hj
      | some w =>
        have : (j, w) = (i, v) := Option.some.inj hj
        cases this
        exact h1
  · intro h
    refine ⟨i, List.mem_range.mpr (List.getElem?_eq_some_iff.mp h).1, ?_⟩
    rw [h]
    rfl
def q_lv (ls : Array Slot) (nL : Nat) (L : List (Option Value)) : Prop := L.length = nL ∧ (∀ (i : Nat) (v : Value), L[i]? = some (some v) → v.category = 1) ∧ lv_has ls nL (q_al L)
theorem q_lv.at {ls : Array Slot} {nL : Nat} {L : List (Option Value)} (h : q_lv ls nL L) {i : Nat} {v : Value} (hi : L[i]? = some (some v)) : ls[i]? = some (.val v) := h.2.2.2.2 (i, v) (q_al_mem.mpr hi)
theorem q_lv.set {ls ls2 : Array Slot} {nL : Nat} {L : List (Option Value)} (h : q_lv ls nL L) {i : Nat} {v : Value} (hc : v.category = 1) (hi : i < L.length) (h2 : lv_has ls2 nL ((i, v) :: (q_al L).filter (fun q => !(q.1 == i) && !(q.1 + 1 == i && q.2.category == 2)))) : q_lv ls2 nL (L.set i (some v)) := by
  refine ⟨by rw [List.length_set]; exact h.1, fun j w hj => ?_, h2.1, h2.2.1, fun q hq => ?_⟩
  · by_cases e : i = j
    · subst e
      rw [List.getElem?_set_self hi] at hj
      cases hj
      exact hc
    · rw [List.getElem?_set_ne e] at hj
      exact h.2.1 j w hj
  · obtain ⟨j, w⟩ := q
    have hj := q_al_mem.mp hq
    by_cases e : i = j
    · subst e
      rw [List.getElem?_set_self hi] at hj
      cases hj
      exact h2.2.2 _ List.mem_cons_self
    · rw [List.getElem?_set_ne e] at hj
      refine h2.2.2 _ (List.mem_cons_of_mem _ (List.mem_filter.mpr ⟨q_al_mem.mpr hj, ?_⟩))
      have := h.2.1 j w hj
      simp [this, Ne.symm e]
-- the judgement
section QV
variable {p : Program} {l : Launch} {e : Env} {R : Room} {s : State} {m : MethodId} {args : Array Value} {below : List Frame} {meth : Method} {c : Code} {D : va_G} {A : Nat → Prop} {nL : Nat} {Q : State → Prop} {cc : ByteArray} {own mn : String} {ret : Option FieldType}
def q_V (p : Program) (l : Launch) (e : Env) (R : Room) (s : State) (m : MethodId) (args : Array Value) (below : List Frame) (meth : Method) (c : Code) (D : va_G) (A : Nat → Prop) (nL : Nat) (Q : State → Prop) (pc : Nat) (k : q_K) : Prop :=
  ∀ (L : List (Option Value)) (st : List Value) (σ : q_S) (cr sr : Nat) (H : Heap) (locs : List Loc) (cells slots : Nat) (ls : Array Slot), q_lv ls nL L → q_W D A σ s H → va_S A s.heap H locs → cells + cr ≤ R.cells → slots + sr ≤ R.slots → k L st σ cr sr → W p l e R s m args below meth c H locs cells slots Q (F0 m pc ls st)
def q_C (p : Program) (s : State) (m : MethodId) (args : Array Value) (meth : Method) (c : Code) (cc : ByteArray) (nL : Nat) (own mn : String) (ret : Option FieldType) (A : Nat → Prop) : Prop :=
  p.tables.exec = Jvm.exec ∧ c.code = cc ∧ c.maxLocals = nL ∧ s.vm.findClass own = some m.cls ∧ (∀ w ∈ lw_good, w.before args s = true) ∧ q_N s ∧ (∀ q, s.heap.size ≤ q → A q) ∧ meth.sig.returnType = ret ∧ meth.locks = false ∧ meth.name = mn
def c_push (v : Int32) (k : q_K) : q_K := fun L st σ cr sr => k L (.int v :: st) σ cr sr
theorem q_iconst (C : q_C p s m args meth c cc nL own mn ret A) {pc : Nat} {k : q_K} {n : Int} {v : Int32} (d : decode cc pc = .ok (.iconst n, 1)) (hv : Int32.ofInt n = v) (h : q_V p l e R s m args below meth c D A nL Q (pc + 1) k) : q_V p l e R s m args below meth c D A nL Q pc (c_push v k) := by
  obtain ⟨hx, hb, hml, hown, hts, hN, hA, hr, hlk, hmn⟩ := C
  intro L st σ cr sr H locs cells slots ls hl hw hS h1 h2 hk
  exact lv_iconst hx hb d hv (h _ _ _ _ _ _ _ _ _ _ hl hw hS h1 h2 hk)
theorem q_bipush (C : q_C p s m args meth c cc nL own mn ret A) {pc : Nat} {k : q_K} {n : Int} {v : Int32} (d : decode cc pc = .ok (.bipush n, 2)) (hv : (Int8.ofInt n).toInt32 = v) (h : q_V p l e R s m args below meth c D A nL Q (pc + 2) k) : q_V p l e R s m args below meth c D A nL Q pc (c_push v k) := by
  obtain ⟨hx, hb, hml, hown, hts, hN, hA, hr, hlk, hmn⟩ := C
  intro L st σ cr sr H locs cells slots ls hl hw hS h1 h2 hk
  exact lv_bipush hx hb d hv (h _ _ _ _ _ _ _ _ _ _ hl hw hS h1 h2 hk)
theorem q_sipush (C : q_C p s m args meth c cc nL own mn ret A) {pc : Nat} {k : q_K} {n : Int} {v : Int32} (d : decode cc pc = .ok (.sipush n, 3)) (hv : (Int16.ofInt n).toInt32 = v) (h : q_V p l e R s m args below meth c D A nL Q (pc + 3) k) : q_V p l e R s m args below meth c D A nL Q pc (c_push v k) := by
  obtain ⟨hx, hb, hml, hown, hts, hN, hA, hr, hlk, hmn⟩ := C
  intro L st σ cr sr H locs cells slots ls hl hw hS h1 h2 hk
  exact lv_sipush hx hb d hv (h _ _ _ _ _ _ _ _ _ _ hl hw hS h1 h2 hk)
theorem q_ldc (C : q_C p s m args meth c cc nL own mn ret A) {pc : Nat} {k : q_K} {n : Nat} {v : Int32} (d : decode cc pc = .ok (.ldc n, 2)) (hv : Cond.constant own n v ∈ lw_tbl) (h : q_V p l e R s m args below meth c D A nL Q (pc + 2) k) : q_V p l e R s m args below meth c D A nL Q pc (c_push v k) := by
  obtain ⟨hx, hb, hml, hown, hts, hN, hA, hr, hlk, hmn⟩ := C
  intro L st σ cr sr H locs cells slots ls hl hw hS h1 h2 hk
  exact lv_ldc hx hb hown (hts _ (lw_mem hv rfl)) d (h _ _ _ _ _ _ _ _ _ _ hl hw hS h1 h2 hk)
def c_null (k : q_K) : q_K := fun L st σ cr sr => k L (.null :: st) σ cr sr
theorem q_null (C : q_C p s m args meth c cc nL own mn ret A) {pc : Nat} {k : q_K} (d : decode cc pc = .ok (.aconst_null, 1)) (h : q_V p l e R s m args below meth c D A nL Q (pc + 1) k) : q_V p l e R s m args below meth c D A nL Q pc (c_null k) := by
  obtain ⟨hx, hb, hml, hown, hts, hN, hA, hr, hlk, hmn⟩ := C
  intro L st σ cr sr H locs cells slots ls hl hw hS h1 h2 hk
  exact lv_null hx hb d (h _ _ _ _ _ _ _ _ _ _ hl hw hS h1 h2 hk)
def c_iload (i : Nat) (k : q_K) : q_K := fun L st σ cr sr => match L[i]? with | some (some (.int x)) => k L (.int x :: st) σ cr sr | _ => False
def c_aload (i : Nat) (k : q_K) : q_K := fun L st σ cr sr => match L[i]? with | some (some (.ref x)) => k L (.ref x :: st) σ cr sr | some (some .null) => k L (.null :: st) σ cr sr | _ => False
theorem q_iload (C : q_C p s m args meth c cc nL own mn ret A) {pc : Nat} {k : q_K} {i : Nat} (d : decode cc pc = .ok (.iload i, 2)) (h : q_V p l e R s m args below meth c D A nL Q (pc + 2) k) : q_V p l e R s m args below meth c D A nL Q pc (c_iload i k) := by
  obtain ⟨hx, hb, hml, hown, hts, hN, hA, hr, hlk, hmn⟩ := C
  intro L st σ cr sr H locs cells slots ls hl hw hS h1 h2 hk
  unfold c_iload at hk
  split at hk
  · next x he => exact lv_iload hx hb d (hl.at he) (h _ _ _ _ _ _ _ _ _ _ hl hw hS h1 h2 hk)
  · exact hk.elim
theorem q_iload_n (C : q_C p s m args meth c cc nL own mn ret A) {pc : Nat} {k : q_K} {i : Fin 4} (d : decode cc pc = .ok (.iload_n i, 1)) (h : q_V p l e R s m args below meth c D A nL Q (pc + 1) k) : q_V p l e R s m args below meth c D A nL Q pc (c_iload i.val k) := by
  obtain ⟨hx, hb, hml, hown, hts, hN, hA, hr, hlk, hmn⟩ := C
  intro L st σ cr sr H locs cells slots ls hl hw hS h1 h2 hk
  unfold c_iload at hk
  split at hk
  · next x he => exact lv_iload_n hx hb d rfl (hl.at he) (h _ _ _ _ _ _ _ _ _ _ hl hw hS h1 h2 hk)
  · exact hk.elim
theorem q_aload (C : q_C p s m args meth c cc nL own mn ret A) {pc : Nat} {k : q_K} {i : Nat} (d : decode cc pc = .ok (.aload i, 2)) (h : q_V p l e R s m args below meth c D A nL Q (pc + 2) k) : q_V p l e R s m args below meth c D A nL Q pc (c_aload i k) := by
  obtain ⟨hx, hb, hml, hown, hts, hN, hA, hr, hlk, hmn⟩ := C
  intro L st σ cr sr H locs cells slots ls hl hw hS h1 h2 hk
  unfold c_aload at hk
  split at hk
  · next x he => exact lv_aload hx hb d (hl.at he) (h _ _ _ _ _ _ _ _ _ _ hl hw hS h1 h2 hk)
  · next he => exact lv_aloadN hx hb d (hl.at he) (h _ _ _ _ _ _ _ _ _ _ hl hw hS h1 h2 hk)
  · exact hk.elim
theorem q_aload_n (C : q_C p s m args meth c cc nL own mn ret A) {pc : Nat} {k : q_K} {i : Fin 4} (d : decode cc pc = .ok (.aload_n i, 1)) (h : q_V p l e R s m args below meth c D A nL Q (pc + 1) k) : q_V p l e R s m args below meth c D A nL Q pc (c_aload i.val k) := by
  obtain ⟨hx, hb, hml, hown, hts, hN, hA, hr, hlk, hmn⟩ := C
  intro L st σ cr sr H locs cells slots ls hl hw hS h1 h2 hk
  unfold c_aload at hk
  split at hk
  · next x he => exact lv_aload_n hx hb d rfl (hl.at he) (h _ _ _ _ _ _ _ _ _ _ hl hw hS h1 h2 hk)
  · next he => exact lv_aload_nN hx hb d rfl (hl.at he) (h _ _ _ _ _ _ _ _ _ _ hl hw hS h1 h2 hk)
  · exact hk.elim
def c_istore (i : Nat) (k : q_K) : q_K := fun L st σ cr sr => match st with | .int x :: r => i < L.length ∧ k (L.set i (some (.int x))) r σ cr sr | _ => False
def c_astore (i : Nat) (k : q_K) : q_K := fun L st σ cr sr => match st with | .ref x :: r => i < L.length ∧ k (L.set i (some (.ref x))) r σ cr sr | .null :: r => i < L.length ∧ k (L.set i (some .null)) r σ cr sr | _ => False
theorem q_istore (C : q_C p s m args meth c cc nL own mn ret A) {pc : Nat} {k : q_K} {i : Nat} (d : decode cc pc = .ok (.istore i, 2)) (h : q_V p l e R s m args below meth c D A nL Q (pc + 2) k) : q_V p l e R s m args below meth c D A nL Q pc (c_istore i k) := by
  obtain ⟨hx, hb, hml, hown, hts, hN, hA, hr, hlk, hmn⟩ := C
  intro L st σ cr sr H locs cells slots ls hl hw hS h1 h2 hk
  unfold c_istore at hk
  split at hk
  · next x r => exact lv_istore hx hb d hl.2.2 (by rw [← hl.1]; exact hk.1) rfl (fun ls' hl' => h _ _ _ _ _ _ _ _ _ _ (hl.set rfl hk.1 hl') hw hS h1 h2 hk.2)
  · exact hk.elim
theorem q_istore_n (C : q_C p s m args meth c cc nL own mn ret A) {pc : Nat} {k : q_K} {i : Fin 4} (d : decode cc pc = .ok (.istore_n i, 1)) (h : q_V p l e R s m args below meth c D A nL Q (pc + 1) k) : q_V p l e R s m args below meth c D A nL Q pc (c_istore i.val k) := by
  obtain ⟨hx, hb, hml, hown, hts, hN, hA, hr, hlk, hmn⟩ := C
  intro L st σ cr sr H locs cells slots ls hl hw hS h1 h2 hk
  unfold c_istore at hk
  split at hk
  · next x r => exact lv_istore_n hx hb d rfl hl.2.2 (by rw [← hl.1]; exact hk.1) rfl (fun ls' hl' => h _ _ _ _ _ _ _ _ _ _ (hl.set rfl hk.1 hl') hw hS h1 h2 hk.2)
  · exact hk.elim
theorem q_astore (C : q_C p s m args meth c cc nL own mn ret A) {pc : Nat} {k : q_K} {i : Nat} (d : decode cc pc = .ok (.astore i, 2)) (h : q_V p l e R s m args below meth c D A nL Q (pc + 2) k) : q_V p l e R s m args below meth c D A nL Q pc (c_astore i k) := by
  obtain ⟨hx, hb, hml, hown, hts, hN, hA, hr, hlk, hmn⟩ := C
  intro L st σ cr sr H locs cells slots ls hl hw hS h1 h2 hk
  unfold c_astore at hk
  split at hk
  · next x r => exact lv_astore hx hb d hl.2.2 (by rw [← hl.1]; exact hk.1) rfl (fun ls' hl' => h _ _ _ _ _ _ _ _ _ _ (hl.set rfl hk.1 hl') hw hS h1 h2 hk.2)
  · next r => exact lv_astoreN hx hb d hl.2.2 (by rw [← hl.1]; exact hk.1) rfl (fun ls' hl' => h _ _ _ _ _ _ _ _ _ _ (hl.set rfl hk.1 hl') hw hS h1 h2 hk.2)
  · exact hk.elim
theorem q_astore_n (C : q_C p s m args meth c cc nL own mn ret A) {pc : Nat} {k : q_K} {i : Fin 4} (d : decode cc pc = .ok (.astore_n i, 1)) (h : q_V p l e R s m args below meth c D A nL Q (pc + 1) k) : q_V p l e R s m args below meth c D A nL Q pc (c_astore i.val k) := by
  obtain ⟨hx, hb, hml, hown, hts, hN, hA, hr, hlk, hmn⟩ := C
  intro L st σ cr sr H locs cells slots ls hl hw hS h1 h2 hk
  unfold c_astore at hk
  split at hk
  · next x r => exact lv_astore_n hx hb d rfl hl.2.2 (by rw [← hl.1]; exact hk.1) rfl (fun ls' hl' => h _ _ _ _ _ _ _ _ _ _ (hl.set rfl hk.1 hl') hw hS h1 h2 hk.2)
  · next r => exact lv_astore_nN hx hb d rfl hl.2.2 (by rw [← hl.1]; exact hk.1) rfl (fun ls' hl' => h _ _ _ _ _ _ _ _ _ _ (hl.set rfl hk.1 hl') hw hS h1 h2 hk.2)
  · exact hk.elim
def c_iinc (i : Nat) (n : Int32) (k : q_K) : q_K := fun L st σ cr sr => match L[i]? with | some (some (.int x)) => k (L.set i (some (.int (x + n)))) st σ cr sr | _ => False
theorem q_iinc (C : q_C p s m args meth c cc nL own mn ret A) {pc : Nat} {k : q_K} {i : Nat} {n : Int} {v : Int32} (d : decode cc pc = .ok (.iinc i n, 3)) (hv : Int32.ofInt n = v) (h : q_V p l e R s m args below meth c D A nL Q (pc + 3) k) : q_V p l e R s m args below meth c D A nL Q pc (c_iinc i v k) := by
  obtain ⟨hx, hb, hml, hown, hts, hN, hA, hr, hlk, hmn⟩ := C
  intro L st σ cr sr H locs cells slots ls hl hw hS h1 h2 hk
  subst hv
  unfold c_iinc at hk
  split at hk
  · next x he =>
      obtain ⟨j, hj⟩ := List.getElem?_of_mem (q_al_mem.mpr he)
      have hi := (List.getElem?_eq_some_iff.mp he).1
      exact lv_iinc hx hb d hl.2.2 hj rfl (by rw [← hl.1]; exact hi) rfl (fun ls' hl' => h _ _ _ _ _ _ _ _ _ _ (hl.set rfl hi hl') hw hS h1 h2 hk)
  · exact hk.elim
def c_iadd (k : q_K) : q_K := fun L st σ cr sr => match st with | .int y :: .int x :: r => k L (.int (x + y) :: r) σ cr sr | _ => False
theorem q_iadd (C : q_C p s m args meth c cc nL own mn ret A) {pc : Nat} {k : q_K} (d : decode cc pc = .ok (.iadd, 1)) (h : q_V p l e R s m args below meth c D A nL Q (pc + 1) k) : q_V p l e R s m args below meth c D A nL Q pc (c_iadd k) := by
  obtain ⟨hx, hb, hml, hown, hts, hN, hA, hr, hlk, hmn⟩ := C
  intro L st σ cr sr H locs cells slots ls hl hw hS h1 h2 hk
  unfold c_iadd at hk
  split at hk
  · exact lv_iadd hx hb d (h _ _ _ _ _ _ _ _ _ _ hl hw hS h1 h2 hk)
  · exact hk.elim
def c_isub (k : q_K) : q_K := fun L st σ cr sr => match st with | .int y :: .int x :: r => k L (.int (x - y) :: r) σ cr sr | _ => False
theorem q_isub (C : q_C p s m args meth c cc nL own mn ret A) {pc : Nat} {k : q_K} (d : decode cc pc = .ok (.isub, 1)) (h : q_V p l e R s m args below meth c D A nL Q (pc + 1) k) : q_V p l e R s m args below meth c D A nL Q pc (c_isub k) := by
  obtain ⟨hx, hb, hml, hown, hts, hN, hA, hr, hlk, hmn⟩ := C
  intro L st σ cr sr H locs cells slots ls hl hw hS h1 h2 hk
  unfold c_isub at hk
  split at hk
  · exact lv_isub hx hb d (h _ _ _ _ _ _ _ _ _ _ hl hw hS h1 h2 hk)
  · exact hk.elim
def c_imul (k : q_K) : q_K := fun L st σ cr sr => match st with | .int y :: .int x :: r => k L (.int (x * y) :: r) σ cr sr | _ => False
theorem q_imul (C : q_C p s m args meth c cc nL own mn ret A) {pc : Nat} {k : q_K} (d : decode cc pc = .ok (.imul, 1)) (h : q_V p l e R s m args below meth c D A nL Q (pc + 1) k) : q_V p l e R s m args below meth c D A nL Q pc (c_imul k) := by
  obtain ⟨hx, hb, hml, hown, hts, hN, hA, hr, hlk, hmn⟩ := C
  intro L st σ cr sr H locs cells slots ls hl hw hS h1 h2 hk
  unfold c_imul at hk
  split at hk
  · exact lv_imul hx hb d (h _ _ _ _ _ _ _ _ _ _ hl hw hS h1 h2 hk)
  · exact hk.elim
def c_iand (k : q_K) : q_K := fun L st σ cr sr => match st with | .int y :: .int x :: r => k L (.int (x &&& y) :: r) σ cr sr | _ => False
theorem q_iand (C : q_C p s m args meth c cc nL own mn ret A) {pc : Nat} {k : q_K} (d : decode cc pc = .ok (.iand, 1)) (h : q_V p l e R s m args below meth c D A nL Q (pc + 1) k) : q_V p l e R s m args below meth c D A nL Q pc (c_iand k) := by
  obtain ⟨hx, hb, hml, hown, hts, hN, hA, hr, hlk, hmn⟩ := C
  intro L st σ cr sr H locs cells slots ls hl hw hS h1 h2 hk
  unfold c_iand at hk
  split at hk
  · exact lv_iand hx hb d (h _ _ _ _ _ _ _ _ _ _ hl hw hS h1 h2 hk)
  · exact hk.elim
def c_ineg (k : q_K) : q_K := fun L st σ cr sr => match st with | .int x :: r => k L (.int (-x) :: r) σ cr sr | _ => False
theorem q_ineg (C : q_C p s m args meth c cc nL own mn ret A) {pc : Nat} {k : q_K} (d : decode cc pc = .ok (.ineg, 1)) (h : q_V p l e R s m args below meth c D A nL Q (pc + 1) k) : q_V p l e R s m args below meth c D A nL Q pc (c_ineg k) := by
  obtain ⟨hx, hb, hml, hown, hts, hN, hA, hr, hlk, hmn⟩ := C
  intro L st σ cr sr H locs cells slots ls hl hw hS h1 h2 hk
  unfold c_ineg at hk
  split at hk
  · exact lv_ineg hx hb d (h _ _ _ _ _ _ _ _ _ _ hl hw hS h1 h2 hk)
  · exact hk.elim
def c_dup (k : q_K) : q_K := fun L st σ cr sr => match st with | a :: r => a.category = 1 ∧ k L (a :: a :: r) σ cr sr | _ => False
theorem q_dup (C : q_C p s m args meth c cc nL own mn ret A) {pc : Nat} {k : q_K} (d : decode cc pc = .ok (.dup, 1)) (h : q_V p l e R s m args below meth c D A nL Q (pc + 1) k) : q_V p l e R s m args below meth c D A nL Q pc (c_dup k) := by
  obtain ⟨hx, hb, hml, hown, hts, hN, hA, hr, hlk, hmn⟩ := C
  intro L st σ cr sr H locs cells slots ls hl hw hS h1 h2 hk
  unfold c_dup at hk
  split at hk
  · exact lv_dup hx hb d hk.1 (h _ _ _ _ _ _ _ _ _ _ hl hw hS h1 h2 hk.2)
  · exact hk.elim
def c_dup2 (k : q_K) : q_K := fun L st σ cr sr => match st with | a :: b :: r => (a.category = 1 ∧ b.category = 1) ∧ k L (a :: b :: a :: b :: r) σ cr sr | _ => False
theorem q_dup2 (C : q_C p s m args meth c cc nL own mn ret A) {pc : Nat} {k : q_K} (d : decode cc pc = .ok (.dup2, 1)) (h : q_V p l e R s m args below meth c D A nL Q (pc + 1) k) : q_V p l e R s m args below meth c D A nL Q pc (c_dup2 k) := by
  obtain ⟨hx, hb, hml, hown, hts, hN, hA, hr, hlk, hmn⟩ := C
  intro L st σ cr sr H locs cells slots ls hl hw hS h1 h2 hk
  unfold c_dup2 at hk
  split at hk
  · exact lv_dup2_11 hx hb d hk.1.1 hk.1.2 (h _ _ _ _ _ _ _ _ _ _ hl hw hS h1 h2 hk.2)
  · exact hk.elim
def c_pop (k : q_K) : q_K := fun L st σ cr sr => match st with | a :: r => a.category = 1 ∧ k L r σ cr sr | _ => False
theorem q_pop (C : q_C p s m args meth c cc nL own mn ret A) {pc : Nat} {k : q_K} (d : decode cc pc = .ok (.pop, 1)) (h : q_V p l e R s m args below meth c D A nL Q (pc + 1) k) : q_V p l e R s m args below meth c D A nL Q pc (c_pop k) := by
  obtain ⟨hx, hb, hml, hown, hts, hN, hA, hr, hlk, hmn⟩ := C
  intro L st σ cr sr H locs cells slots ls hl hw hS h1 h2 hk
  unfold c_pop at hk
  split at hk
  · exact lv_pop hx hb d hk.1 (h _ _ _ _ _ _ _ _ _ _ hl hw hS h1 h2 hk.2)
  · exact hk.elim
def c_ifeq (kt k : q_K) : q_K := fun L st σ cr sr => match st with | .int x :: r => (x = 0 → kt L r σ cr sr) ∧ (¬ x = 0 → k L r σ cr sr) | _ => False
theorem q_ifeq (C : q_C p s m args meth c cc nL own mn ret A) {pc tgt : Nat} {kt k : q_K} {off : Int} (d : decode cc pc = .ok (.ifCond .eq off, 3)) (ht : (pc : Int) + off = (tgt : Int)) (hT : q_V p l e R s m args below meth c D A nL Q tgt kt) (h : q_V p l e R s m args below meth c D A nL Q (pc + 3) k) : q_V p l e R s m args below meth c D A nL Q pc (c_ifeq kt k) := by
  obtain ⟨hx, hb, hml, hown, hts, hN, hA, hr, hlk, hmn⟩ := C
  intro L st σ cr sr H locs cells slots ls hl hw hS h1 h2 hk
  unfold c_ifeq at hk
  split at hk
  · exact lv_if_eq hx hb d ht (fun z => hT _ _ _ _ _ _ _ _ _ _ hl hw hS h1 h2 (hk.1 z)) (fun z => h _ _ _ _ _ _ _ _ _ _ hl hw hS h1 h2 (hk.2 z))
  · exact hk.elim
def c_ifne (kt k : q_K) : q_K := fun L st σ cr sr => match st with | .int x :: r => (¬ x = 0 → kt L r σ cr sr) ∧ (x = 0 → k L r σ cr sr) | _ => False
theorem q_ifne (C : q_C p s m args meth c cc nL own mn ret A) {pc tgt : Nat} {kt k : q_K} {off : Int} (d : decode cc pc = .ok (.ifCond .ne off, 3)) (ht : (pc : Int) + off = (tgt : Int)) (hT : q_V p l e R s m args below meth c D A nL Q tgt kt) (h : q_V p l e R s m args below meth c D A nL Q (pc + 3) k) : q_V p l e R s m args below meth c D A nL Q pc (c_ifne kt k) := by
  obtain ⟨hx, hb, hml, hown, hts, hN, hA, hr, hlk, hmn⟩ := C
  intro L st σ cr sr H locs cells slots ls hl hw hS h1 h2 hk
  unfold c_ifne at hk
  split at hk
  · exact lv_if_ne hx hb d ht (fun z => hT _ _ _ _ _ _ _ _ _ _ hl hw hS h1 h2 (hk.1 z)) (fun z => h _ _ _ _ _ _ _ _ _ _ hl hw hS h1 h2 (hk.2 z))
  · exact hk.elim
def c_iflt (kt k : q_K) : q_K := fun L st σ cr sr => match st with | .int x :: r => (x < 0 → kt L r σ cr sr) ∧ (¬ x < 0 → k L r σ cr sr) | _ => False
theorem q_iflt (C : q_C p s m args meth c cc nL own mn ret A) {pc tgt : Nat} {kt k : q_K} {off : Int} (d : decode cc pc = .ok (.ifCond .lt off, 3)) (ht : (pc : Int) + off = (tgt : Int)) (hT : q_V p l e R s m args below meth c D A nL Q tgt kt) (h : q_V p l e R s m args below meth c D A nL Q (pc + 3) k) : q_V p l e R s m args below meth c D A nL Q pc (c_iflt kt k) := by
  obtain ⟨hx, hb, hml, hown, hts, hN, hA, hr, hlk, hmn⟩ := C
  intro L st σ cr sr H locs cells slots ls hl hw hS h1 h2 hk
  unfold c_iflt at hk
  split at hk
  · exact lv_if_lt hx hb d ht (fun z => hT _ _ _ _ _ _ _ _ _ _ hl hw hS h1 h2 (hk.1 z)) (fun z => h _ _ _ _ _ _ _ _ _ _ hl hw hS h1 h2 (hk.2 z))
  · exact hk.elim
def c_ifge (kt k : q_K) : q_K := fun L st σ cr sr => match st with | .int x :: r => (0 ≤ x → kt L r σ cr sr) ∧ (¬ 0 ≤ x → k L r σ cr sr) | _ => False
theorem q_ifge (C : q_C p s m args meth c cc nL own mn ret A) {pc tgt : Nat} {kt k : q_K} {off : Int} (d : decode cc pc = .ok (.ifCond .ge off, 3)) (ht : (pc : Int) + off = (tgt : Int)) (hT : q_V p l e R s m args below meth c D A nL Q tgt kt) (h : q_V p l e R s m args below meth c D A nL Q (pc + 3) k) : q_V p l e R s m args below meth c D A nL Q pc (c_ifge kt k) := by
  obtain ⟨hx, hb, hml, hown, hts, hN, hA, hr, hlk, hmn⟩ := C
  intro L st σ cr sr H locs cells slots ls hl hw hS h1 h2 hk
  unfold c_ifge at hk
  split at hk
  · exact lv_if_ge hx hb d ht (fun z => hT _ _ _ _ _ _ _ _ _ _ hl hw hS h1 h2 (hk.1 z)) (fun z => h _ _ _ _ _ _ _ _ _ _ hl hw hS h1 h2 (hk.2 z))
  · exact hk.elim
def c_ifgt (kt k : q_K) : q_K := fun L st σ cr sr => match st with | .int x :: r => (0 < x → kt L r σ cr sr) ∧ (¬ 0 < x → k L r σ cr sr) | _ => False
theorem q_ifgt (C : q_C p s m args meth c cc nL own mn ret A) {pc tgt : Nat} {kt k : q_K} {off : Int} (d : decode cc pc = .ok (.ifCond .gt off, 3)) (ht : (pc : Int) + off = (tgt : Int)) (hT : q_V p l e R s m args below meth c D A nL Q tgt kt) (h : q_V p l e R s m args below meth c D A nL Q (pc + 3) k) : q_V p l e R s m args below meth c D A nL Q pc (c_ifgt kt k) := by
  obtain ⟨hx, hb, hml, hown, hts, hN, hA, hr, hlk, hmn⟩ := C
  intro L st σ cr sr H locs cells slots ls hl hw hS h1 h2 hk
  unfold c_ifgt at hk
  split at hk
  · exact lv_if_gt hx hb d ht (fun z => hT _ _ _ _ _ _ _ _ _ _ hl hw hS h1 h2 (hk.1 z)) (fun z => h _ _ _ _ _ _ _ _ _ _ hl hw hS h1 h2 (hk.2 z))
  · exact hk.elim
def c_ifle (kt k : q_K) : q_K := fun L st σ cr sr => match st with | .int x :: r => (x ≤ 0 → kt L r σ cr sr) ∧ (¬ x ≤ 0 → k L r σ cr sr) | _ => False
theorem q_ifle (C : q_C p s m args meth c cc nL own mn ret A) {pc tgt : Nat} {kt k : q_K} {off : Int} (d : decode cc pc = .ok (.ifCond .le off, 3)) (ht : (pc : Int) + off = (tgt : Int)) (hT : q_V p l e R s m args below meth c D A nL Q tgt kt) (h : q_V p l e R s m args below meth c D A nL Q (pc + 3) k) : q_V p l e R s m args below meth c D A nL Q pc (c_ifle kt k) := by
  obtain ⟨hx, hb, hml, hown, hts, hN, hA, hr, hlk, hmn⟩ := C
  intro L st σ cr sr H locs cells slots ls hl hw hS h1 h2 hk
  unfold c_ifle at hk
  split at hk
  · exact lv_if_le hx hb d ht (fun z => hT _ _ _ _ _ _ _ _ _ _ hl hw hS h1 h2 (hk.1 z)) (fun z => h _ _ _ _ _ _ _ _ _ _ hl hw hS h1 h2 (hk.2 z))
  · exact hk.elim
def c_iceq (kt k : q_K) : q_K := fun L st σ cr sr => match st with | .int y :: .int x :: r => (x = y → kt L r σ cr sr) ∧ (¬ x = y → k L r σ cr sr) | _ => False
theorem q_iceq (C : q_C p s m args meth c cc nL own mn ret A) {pc tgt : Nat} {kt k : q_K} {off : Int} (d : decode cc pc = .ok (.if_icmp .eq off, 3)) (ht : (pc : Int) + off = (tgt : Int)) (hT : q_V p l e R s m args below meth c D A nL Q tgt kt) (h : q_V p l e R s m args below meth c D A nL Q (pc + 3) k) : q_V p l e R s m args below meth c D A nL Q pc (c_iceq kt k) := by
  obtain ⟨hx, hb, hml, hown, hts, hN, hA, hr, hlk, hmn⟩ := C
  intro L st σ cr sr H locs cells slots ls hl hw hS h1 h2 hk
  unfold c_iceq at hk
  split at hk
  · exact lv_icmp_eq hx hb d ht (fun z => hT _ _ _ _ _ _ _ _ _ _ hl hw hS h1 h2 (hk.1 z)) (fun z => h _ _ _ _ _ _ _ _ _ _ hl hw hS h1 h2 (hk.2 z))
  · exact hk.elim
def c_icne (kt k : q_K) : q_K := fun L st σ cr sr => match st with | .int y :: .int x :: r => (¬ x = y → kt L r σ cr sr) ∧ (x = y → k L r σ cr sr) | _ => False
theorem q_icne (C : q_C p s m args meth c cc nL own mn ret A) {pc tgt : Nat} {kt k : q_K} {off : Int} (d : decode cc pc = .ok (.if_icmp .ne off, 3)) (ht : (pc : Int) + off = (tgt : Int)) (hT : q_V p l e R s m args below meth c D A nL Q tgt kt) (h : q_V p l e R s m args below meth c D A nL Q (pc + 3) k) : q_V p l e R s m args below meth c D A nL Q pc (c_icne kt k) := by
  obtain ⟨hx, hb, hml, hown, hts, hN, hA, hr, hlk, hmn⟩ := C
  intro L st σ cr sr H locs cells slots ls hl hw hS h1 h2 hk
  unfold c_icne at hk
  split at hk
  · exact lv_icmp_ne hx hb d ht (fun z => hT _ _ _ _ _ _ _ _ _ _ hl hw hS h1 h2 (hk.1 z)) (fun z => h _ _ _ _ _ _ _ _ _ _ hl hw hS h1 h2 (hk.2 z))
  · exact hk.elim
def c_iclt (kt k : q_K) : q_K := fun L st σ cr sr => match st with | .int y :: .int x :: r => (x < y → kt L r σ cr sr) ∧ (¬ x < y → k L r σ cr sr) | _ => False
theorem q_iclt (C : q_C p s m args meth c cc nL own mn ret A) {pc tgt : Nat} {kt k : q_K} {off : Int} (d : decode cc pc = .ok (.if_icmp .lt off, 3)) (ht : (pc : Int) + off = (tgt : Int)) (hT : q_V p l e R s m args below meth c D A nL Q tgt kt) (h : q_V p l e R s m args below meth c D A nL Q (pc + 3) k) : q_V p l e R s m args below meth c D A nL Q pc (c_iclt kt k) := by
  obtain ⟨hx, hb, hml, hown, hts, hN, hA, hr, hlk, hmn⟩ := C
  intro L st σ cr sr H locs cells slots ls hl hw hS h1 h2 hk
  unfold c_iclt at hk
  split at hk
  · exact lv_icmp_lt hx hb d ht (fun z => hT _ _ _ _ _ _ _ _ _ _ hl hw hS h1 h2 (hk.1 z)) (fun z => h _ _ _ _ _ _ _ _ _ _ hl hw hS h1 h2 (hk.2 z))
  · exact hk.elim
def c_icge (kt k : q_K) : q_K := fun L st σ cr sr => match st with | .int y :: .int x :: r => (y ≤ x → kt L r σ cr sr) ∧ (¬ y ≤ x → k L r σ cr sr) | _ => False
theorem q_icge (C : q_C p s m args meth c cc nL own mn ret A) {pc tgt : Nat} {kt k : q_K} {off : Int} (d : decode cc pc = .ok (.if_icmp .ge off, 3)) (ht : (pc : Int) + off = (tgt : Int)) (hT : q_V p l e R s m args below meth c D A nL Q tgt kt) (h : q_V p l e R s m args below meth c D A nL Q (pc + 3) k) : q_V p l e R s m args below meth c D A nL Q pc (c_icge kt k) := by
  obtain ⟨hx, hb, hml, hown, hts, hN, hA, hr, hlk, hmn⟩ := C
  intro L st σ cr sr H locs cells slots ls hl hw hS h1 h2 hk
  unfold c_icge at hk
  split at hk
  · exact lv_icmp_ge hx hb d ht (fun z => hT _ _ _ _ _ _ _ _ _ _ hl hw hS h1 h2 (hk.1 z)) (fun z => h _ _ _ _ _ _ _ _ _ _ hl hw hS h1 h2 (hk.2 z))
  · exact hk.elim
def c_icgt (kt k : q_K) : q_K := fun L st σ cr sr => match st with | .int y :: .int x :: r => (y < x → kt L r σ cr sr) ∧ (¬ y < x → k L r σ cr sr) | _ => False
theorem q_icgt (C : q_C p s m args meth c cc nL own mn ret A) {pc tgt : Nat} {kt k : q_K} {off : Int} (d : decode cc pc = .ok (.if_icmp .gt off, 3)) (ht : (pc : Int) + off = (tgt : Int)) (hT : q_V p l e R s m args below meth c D A nL Q tgt kt) (h : q_V p l e R s m args below meth c D A nL Q (pc + 3) k) : q_V p l e R s m args below meth c D A nL Q pc (c_icgt kt k) := by
  obtain ⟨hx, hb, hml, hown, hts, hN, hA, hr, hlk, hmn⟩ := C
  intro L st σ cr sr H locs cells slots ls hl hw hS h1 h2 hk
  unfold c_icgt at hk
  split at hk
  · exact lv_icmp_gt hx hb d ht (fun z => hT _ _ _ _ _ _ _ _ _ _ hl hw hS h1 h2 (hk.1 z)) (fun z => h _ _ _ _ _ _ _ _ _ _ hl hw hS h1 h2 (hk.2 z))
  · exact hk.elim
def c_icle (kt k : q_K) : q_K := fun L st σ cr sr => match st with | .int y :: .int x :: r => (x ≤ y → kt L r σ cr sr) ∧ (¬ x ≤ y → k L r σ cr sr) | _ => False
theorem q_icle (C : q_C p s m args meth c cc nL own mn ret A) {pc tgt : Nat} {kt k : q_K} {off : Int} (d : decode cc pc = .ok (.if_icmp .le off, 3)) (ht : (pc : Int) + off = (tgt : Int)) (hT : q_V p l e R s m args below meth c D A nL Q tgt kt) (h : q_V p l e R s m args below meth c D A nL Q (pc + 3) k) : q_V p l e R s m args below meth c D A nL Q pc (c_icle kt k) := by
  obtain ⟨hx, hb, hml, hown, hts, hN, hA, hr, hlk, hmn⟩ := C
  intro L st σ cr sr H locs cells slots ls hl hw hS h1 h2 hk
  unfold c_icle at hk
  split at hk
  · exact lv_icmp_le hx hb d ht (fun z => hT _ _ _ _ _ _ _ _ _ _ hl hw hS h1 h2 (hk.1 z)) (fun z => h _ _ _ _ _ _ _ _ _ _ hl hw hS h1 h2 (hk.2 z))
  · exact hk.elim
def c_ifnull (kt k : q_K) : q_K := fun L st σ cr sr => match st with | .null :: r => kt L r σ cr sr | .ref _ :: r => k L r σ cr sr | _ => False
theorem q_ifnull (C : q_C p s m args meth c cc nL own mn ret A) {pc tgt : Nat} {kt k : q_K} {off : Int} (d : decode cc pc = .ok (.ifnull off, 3)) (ht : (pc : Int) + off = (tgt : Int)) (hT : q_V p l e R s m args below meth c D A nL Q tgt kt) (h : q_V p l e R s m args below meth c D A nL Q (pc + 3) k) : q_V p l e R s m args below meth c D A nL Q pc (c_ifnull kt k) := by
  obtain ⟨hx, hb, hml, hown, hts, hN, hA, hr, hlk, hmn⟩ := C
  intro L st σ cr sr H locs cells slots ls hl hw hS h1 h2 hk
  unfold c_ifnull at hk
  split at hk
  · exact lv_ifnullN hx hb d ht (hT _ _ _ _ _ _ _ _ _ _ hl hw hS h1 h2 hk)
  · exact lv_ifnull hx hb d (h _ _ _ _ _ _ _ _ _ _ hl hw hS h1 h2 hk)
  · exact hk.elim
def c_ifnonnull (kt k : q_K) : q_K := fun L st σ cr sr => match st with | .ref _ :: r => kt L r σ cr sr | .null :: r => k L r σ cr sr | _ => False
theorem q_ifnonnull (C : q_C p s m args meth c cc nL own mn ret A) {pc tgt : Nat} {kt k : q_K} {off : Int} (d : decode cc pc = .ok (.ifnonnull off, 3)) (ht : (pc : Int) + off = (tgt : Int)) (hT : q_V p l e R s m args below meth c D A nL Q tgt kt) (h : q_V p l e R s m args below meth c D A nL Q (pc + 3) k) : q_V p l e R s m args below meth c D A nL Q pc (c_ifnonnull kt k) := by
  obtain ⟨hx, hb, hml, hown, hts, hN, hA, hr, hlk, hmn⟩ := C
  intro L st σ cr sr H locs cells slots ls hl hw hS h1 h2 hk
  unfold c_ifnonnull at hk
  split at hk
  · exact lv_ifnonnull hx hb d ht (hT _ _ _ _ _ _ _ _ _ _ hl hw hS h1 h2 hk)
  · exact lv_ifnonnullN hx hb d (h _ _ _ _ _ _ _ _ _ _ hl hw hS h1 h2 hk)
  · exact hk.elim
theorem q_goto (C : q_C p s m args meth c cc nL own mn ret A) {pc tgt : Nat} {k : q_K} {off : Int} (d : decode cc pc = .ok (.goto off, 3)) (ht : (pc : Int) + off = (tgt : Int)) (h : q_V p l e R s m args below meth c D A nL Q tgt k) : q_V p l e R s m args below meth c D A nL Q pc k := by
  obtain ⟨hx, hb, hml, hown, hts, hN, hA, hr, hlk, hmn⟩ := C
  intro L st σ cr sr H locs cells slots ls hl hw hS h1 h2 hk
  exact lv_goto hx hb d ht (h _ _ _ _ _ _ _ _ _ _ hl hw hS h1 h2 hk)
def c_tsw (lo : Int) (ks : List q_K) (k : q_K) : q_K := fun L st σ cr sr => match st with | .int x :: r => (∀ (i : Nat) (ki : q_K), ks[i]? = some ki → x.toInt = lo + i → ki L r σ cr sr) ∧ ((x.toInt < lo ∨ lo + ks.length ≤ x.toInt) → k L r σ cr sr) | _ => False
theorem q_tsw (C : q_C p s m args meth c cc nL own mn ret A) {pc tgt len : Nat} {ks : List q_K} {k : q_K} {lo hi dflt : Int} {offs : Array Int} (d : decode cc pc = .ok (.tableswitch dflt lo hi offs, len)) (hlen : lo + ks.length = hi + 1) (ht : (pc : Int) + dflt = (tgt : Int)) (h : q_V p l e R s m args below meth c D A nL Q tgt k) (hs : ∀ (i : Nat) (ki : q_K), ks[i]? = some ki → ∃ (off : Int) (ti : Nat), offs[i]? = some off ∧ (pc : Int) + off = (ti : Int) ∧ q_V p l e R s m args below meth c D A nL Q ti ki) : q_V p l e R s m args below meth c D A nL Q pc (c_tsw lo ks k) := by
  obtain ⟨hx, hb, hml, hown, hts, hN, hA, hr, hlk, hmn⟩ := C
  intro L st σ cr sr H locs cells slots ls hl hw hS h1 h2 hk
  unfold c_tsw at hk
  split at hk
  · next x r =>
      by_cases hlo : x.toInt < lo
      · exact lv_tableOut hx hb d (Or.inl hlo) ht (h _ _ _ _ _ _ _ _ _ _ hl hw hS h1 h2 (hk.2 (Or.inl hlo)))
      · by_cases hhi : hi < x.toInt
        · exact lv_tableOut hx hb d (Or.inr hhi) ht (h _ _ _ _ _ _ _ _ _ _ hl hw hS h1 h2 (hk.2 (Or.inr (by omega))))
        · have hi1 : (x.toInt - lo).toNat < ks.length := by omega
          obtain ⟨off, ti, ho, hti, hv⟩ := hs (x.toInt - lo).toNat _ (List.getElem?_eq_getElem hi1)
          exact lv_tableIn hx hb d hlo hhi ho hti (hv _ _ _ _ _ _ _ _ _ _ hl hw hS h1 h2 (hk.1 _ _ (List.getElem?_eq_getElem hi1) (by omega)))
  · exact hk.elim
end QV
end
