section
-- ===== PART A: goes FIRST, ahead of the names: the tables' words, and 'selects' of the private methods out of them =====
/-- a private method of a class that the tables say can be made, by its rows of tables_1 -/
def lw_okq (q : MethodName × Nat) : Prop := (q.1.cls ≠ "java/lang/invoke/MethodHandle" ∧ q.1.cls ≠ "java/lang/invoke/VarHandle") ∧ Cond.instantiable q.1.cls q.2 ∈ tables_1 ∧ Cond.privateMethod q.1 ∈ tables_1 ∧ Cond.instanceMethod q.1 ∈ tables_1
theorem lw_p0 : lw_okq (⟨"CopyRegister", "personAt", "(I)LCopyRegister$Person;"⟩, 10) := ⟨⟨by decide +kernel, by decide +kernel⟩, List.mem_of_getElem? (i := 16) (by decide +kernel), List.mem_of_getElem? (i := 138) (by decide +kernel), List.mem_of_getElem? (i := 139) (by decide +kernel)⟩
theorem lw_p1 : lw_okq (⟨"CopyRegister", "receiverFrom", "(LCopyRegister$Person;)I"⟩, 10) := ⟨⟨by decide +kernel, by decide +kernel⟩, List.mem_of_getElem? (i := 16) (by decide +kernel), List.mem_of_getElem? (i := 154) (by decide +kernel), List.mem_of_getElem? (i := 155) (by decide +kernel)⟩
theorem lw_p2 : lw_okq (⟨"CopyRegister", "workAt", "(I)LCopyRegister$Work;"⟩, 10) := ⟨⟨by decide +kernel, by decide +kernel⟩, List.mem_of_getElem? (i := 16) (by decide +kernel), List.mem_of_getElem? (i := 158) (by decide +kernel), List.mem_of_getElem? (i := 159) (by decide +kernel)⟩
theorem lw_p3 : lw_okq (⟨"CopyRegister$Shares", "pledgedTo", "(II)I"⟩, 2) := ⟨⟨by decide +kernel, by decide +kernel⟩, List.mem_of_getElem? (i := 172) (by decide +kernel), List.mem_of_getElem? (i := 170) (by decide +kernel), List.mem_of_getElem? (i := 171) (by decide +kernel)⟩
theorem lw_p4 : lw_okq (⟨"CopyRegister$Acts", "rowAt", "(I)LCopyRegister$Act;"⟩, 2) := ⟨⟨by decide +kernel, by decide +kernel⟩, List.mem_of_getElem? (i := 26) (by decide +kernel), List.mem_of_getElem? (i := 243) (by decide +kernel), List.mem_of_getElem? (i := 244) (by decide +kernel)⟩
theorem lw_p5 : lw_okq (⟨"CopyRegister$Acts", "endAheadOf", "(ILCopyRegister$Work;I)I"⟩, 2) := ⟨⟨by decide +kernel, by decide +kernel⟩, List.mem_of_getElem? (i := 26) (by decide +kernel), List.mem_of_getElem? (i := 344) (by decide +kernel), List.mem_of_getElem? (i := 345) (by decide +kernel)⟩
theorem lw_p6 : lw_okq (⟨"CopyRegister$Acts", "leaveFree", "(LCopyRegister$Work;II)Z"⟩, 2) := ⟨⟨by decide +kernel, by decide +kernel⟩, List.mem_of_getElem? (i := 26) (by decide +kernel), List.mem_of_getElem? (i := 380) (by decide +kernel), List.mem_of_getElem? (i := 381) (by decide +kernel)⟩
theorem lw_p7 : lw_okq (⟨"CopyRegister", "areTwoPersons", "(II)Z"⟩, 10) := ⟨⟨by decide +kernel, by decide +kernel⟩, List.mem_of_getElem? (i := 16) (by decide +kernel), List.mem_of_getElem? (i := 395) (by decide +kernel), List.mem_of_getElem? (i := 396) (by decide +kernel)⟩
theorem lw_p8 : lw_okq (⟨"CopyRegister", "isLicensed", "(IIII)Z"⟩, 10) := ⟨⟨by decide +kernel, by decide +kernel⟩, List.mem_of_getElem? (i := 16) (by decide +kernel), List.mem_of_getElem? (i := 476) (by decide +kernel), List.mem_of_getElem? (i := 477) (by decide +kernel)⟩
theorem lw_p9 : lw_okq (⟨"CopyRegister$Comparison", "clearEdges", "(II)V"⟩, 1) := ⟨⟨by decide +kernel, by decide +kernel⟩, List.mem_of_getElem? (i := 61) (by decide +kernel), List.mem_of_getElem? (i := 513) (by decide +kernel), List.mem_of_getElem? (i := 514) (by decide +kernel)⟩
theorem lw_p10 : lw_okq (⟨"CopyRegister$Comparison", "setRest", "(III)V"⟩, 1) := ⟨⟨by decide +kernel, by decide +kernel⟩, List.mem_of_getElem? (i := 61) (by decide +kernel), List.mem_of_getElem? (i := 517) (by decide +kernel), List.mem_of_getElem? (i := 518) (by decide +kernel)⟩
theorem lw_p11 : lw_okq (⟨"CopyRegister$Comparison", "restFrom", "(II)I"⟩, 1) := ⟨⟨by decide +kernel, by decide +kernel⟩, List.mem_of_getElem? (i := 61) (by decide +kernel), List.mem_of_getElem? (i := 532) (by decide +kernel), List.mem_of_getElem? (i := 533) (by decide +kernel)⟩
theorem lw_p12 : lw_okq (⟨"CopyRegisterModel", "isPerson", "(I)Z"⟩, 35) := ⟨⟨by decide +kernel, by decide +kernel⟩, List.mem_of_getElem? (i := 564) (by decide +kernel), List.mem_of_getElem? (i := 691) (by decide +kernel), List.mem_of_getElem? (i := 692) (by decide +kernel)⟩
theorem lw_p13 : lw_okq (⟨"CopyRegisterModel", "holds", "(III)I"⟩, 35) := ⟨⟨by decide +kernel, by decide +kernel⟩, List.mem_of_getElem? (i := 564) (by decide +kernel), List.mem_of_getElem? (i := 699) (by decide +kernel), List.mem_of_getElem? (i := 700) (by decide +kernel)⟩
theorem lw_p14 : lw_okq (⟨"CopyRegisterModel", "move", "(IIII)V"⟩, 35) := ⟨⟨by decide +kernel, by decide +kernel⟩, List.mem_of_getElem? (i := 564) (by decide +kernel), List.mem_of_getElem? (i := 703) (by decide +kernel), List.mem_of_getElem? (i := 704) (by decide +kernel)⟩
theorem lw_p15 : lw_okq (⟨"CopyRegisterModel", "deathAt", "(II)I"⟩, 35) := ⟨⟨by decide +kernel, by decide +kernel⟩, List.mem_of_getElem? (i := 564) (by decide +kernel), List.mem_of_getElem? (i := 711) (by decide +kernel), List.mem_of_getElem? (i := 712) (by decide +kernel)⟩
def lw_privs_1 : List (MethodName × Nat) := [(⟨"CopyRegister", "personAt", "(I)LCopyRegister$Person;"⟩, 10), (⟨"CopyRegister", "receiverFrom", "(LCopyRegister$Person;)I"⟩, 10), (⟨"CopyRegister", "workAt", "(I)LCopyRegister$Work;"⟩, 10), (⟨"CopyRegister$Shares", "pledgedTo", "(II)I"⟩, 2), (⟨"CopyRegister$Acts", "rowAt", "(I)LCopyRegister$Act;"⟩, 2), (⟨"CopyRegister$Acts", "endAheadOf", "(ILCopyRegister$Work;I)I"⟩, 2), (⟨"CopyRegister$Acts", "leaveFree", "(LCopyRegister$Work;II)Z"⟩, 2), (⟨"CopyRegister", "areTwoPersons", "(II)Z"⟩, 10), (⟨"CopyRegister", "isLicensed", "(IIII)Z"⟩, 10), (⟨"CopyRegister$Comparison", "clearEdges", "(II)V"⟩, 1), (⟨"CopyRegister$Comparison", "setRest", "(III)V"⟩, 1), (⟨"CopyRegister$Comparison", "restFrom", "(II)I"⟩, 1), (⟨"CopyRegisterModel", "isPerson", "(I)Z"⟩, 35), (⟨"CopyRegisterModel", "holds", "(III)I"⟩, 35), (⟨"CopyRegisterModel", "move", "(IIII)V"⟩, 35), (⟨"CopyRegisterModel", "deathAt", "(II)I"⟩, 35)]
theorem lw_r1 : ∀ q ∈ lw_privs_1, lw_okq q := List.forall_mem_cons.mpr ⟨lw_p0, List.forall_mem_cons.mpr ⟨lw_p1, List.forall_mem_cons.mpr ⟨lw_p2, List.forall_mem_cons.mpr ⟨lw_p3, List.forall_mem_cons.mpr ⟨lw_p4, List.forall_mem_cons.mpr ⟨lw_p5, List.forall_mem_cons.mpr ⟨lw_p6, List.forall_mem_cons.mpr ⟨lw_p7, List.forall_mem_cons.mpr ⟨lw_p8, List.forall_mem_cons.mpr ⟨lw_p9, List.forall_mem_cons.mpr ⟨lw_p10, List.forall_mem_cons.mpr ⟨lw_p11, List.forall_mem_cons.mpr ⟨lw_p12, List.forall_mem_cons.mpr ⟨lw_p13, List.forall_mem_cons.mpr ⟨lw_p14, List.forall_mem_cons.mpr ⟨lw_p15, fun _ h => absurd h List.not_mem_nil⟩⟩⟩⟩⟩⟩⟩⟩⟩⟩⟩⟩⟩⟩⟩⟩
theorem lw_p16 : lw_okq (⟨"CopyRegisterModel", "isWork", "(I)Z"⟩, 35) := ⟨⟨by decide +kernel, by decide +kernel⟩, List.mem_of_getElem? (i := 564) (by decide +kernel), List.mem_of_getElem? (i := 727) (by decide +kernel), List.mem_of_getElem? (i := 728) (by decide +kernel)⟩
theorem lw_p17 : lw_okq (⟨"CopyRegisterModel", "endAt", "(III)I"⟩, 35) := ⟨⟨by decide +kernel, by decide +kernel⟩, List.mem_of_getElem? (i := 564) (by decide +kernel), List.mem_of_getElem? (i := 731) (by decide +kernel), List.mem_of_getElem? (i := 732) (by decide +kernel)⟩
theorem lw_p18 : lw_okq (⟨"CopyRegisterModel", "actAt", "(I)I"⟩, 35) := ⟨⟨by decide +kernel, by decide +kernel⟩, List.mem_of_getElem? (i := 564) (by decide +kernel), List.mem_of_getElem? (i := 735) (by decide +kernel), List.mem_of_getElem? (i := 736) (by decide +kernel)⟩
theorem lw_p19 : lw_okq (⟨"CopyRegisterModel", "endBy", "(III)I"⟩, 35) := ⟨⟨by decide +kernel, by decide +kernel⟩, List.mem_of_getElem? (i := 564) (by decide +kernel), List.mem_of_getElem? (i := 739) (by decide +kernel), List.mem_of_getElem? (i := 740) (by decide +kernel)⟩
theorem lw_p20 : lw_okq (⟨"CopyRegisterModel", "hasRight", "(III)Z"⟩, 35) := ⟨⟨by decide +kernel, by decide +kernel⟩, List.mem_of_getElem? (i := 564) (by decide +kernel), List.mem_of_getElem? (i := 751) (by decide +kernel), List.mem_of_getElem? (i := 752) (by decide +kernel)⟩
theorem lw_p21 : lw_okq (⟨"CopyRegisterModel", "areTwo", "(III)Z"⟩, 35) := ⟨⟨by decide +kernel, by decide +kernel⟩, List.mem_of_getElem? (i := 564) (by decide +kernel), List.mem_of_getElem? (i := 759) (by decide +kernel), List.mem_of_getElem? (i := 760) (by decide +kernel)⟩
theorem lw_p22 : lw_okq (⟨"CopyRegisterModel", "freeOf", "(II)I"⟩, 35) := ⟨⟨by decide +kernel, by decide +kernel⟩, List.mem_of_getElem? (i := 564) (by decide +kernel), List.mem_of_getElem? (i := 763) (by decide +kernel), List.mem_of_getElem? (i := 764) (by decide +kernel)⟩
theorem lw_p23 : lw_okq (⟨"CopyRegisterModel", "pledgedBy", "(II)I"⟩, 35) := ⟨⟨by decide +kernel, by decide +kernel⟩, List.mem_of_getElem? (i := 564) (by decide +kernel), List.mem_of_getElem? (i := 767) (by decide +kernel), List.mem_of_getElem? (i := 768) (by decide +kernel)⟩
theorem lw_p24 : lw_okq (⟨"CopyRegisterModel", "isAgreed", "(I)Z"⟩, 35) := ⟨⟨by decide +kernel, by decide +kernel⟩, List.mem_of_getElem? (i := 564) (by decide +kernel), List.mem_of_getElem? (i := 791) (by decide +kernel), List.mem_of_getElem? (i := 792) (by decide +kernel)⟩
theorem lw_p25 : lw_okq (⟨"CopyRegisterModel", "layRest", "(II)V"⟩, 35) := ⟨⟨by decide +kernel, by decide +kernel⟩, List.mem_of_getElem? (i := 564) (by decide +kernel), List.mem_of_getElem? (i := 811) (by decide +kernel), List.mem_of_getElem? (i := 812) (by decide +kernel)⟩
theorem lw_p26 : lw_okq (⟨"CopyRegisterModel", "areLike", "(IIII)Z"⟩, 35) := ⟨⟨by decide +kernel, by decide +kernel⟩, List.mem_of_getElem? (i := 564) (by decide +kernel), List.mem_of_getElem? (i := 815) (by decide +kernel), List.mem_of_getElem? (i := 816) (by decide +kernel)⟩
theorem lw_p27 : lw_okq (⟨"CopyRegisterModel", "placeFor", "(IIIII)I"⟩, 35) := ⟨⟨by decide +kernel, by decide +kernel⟩, List.mem_of_getElem? (i := 564) (by decide +kernel), List.mem_of_getElem? (i := 823) (by decide +kernel), List.mem_of_getElem? (i := 824) (by decide +kernel)⟩
def lw_privs_2 : List (MethodName × Nat) := [(⟨"CopyRegisterModel", "isWork", "(I)Z"⟩, 35), (⟨"CopyRegisterModel", "endAt", "(III)I"⟩, 35), (⟨"CopyRegisterModel", "actAt", "(I)I"⟩, 35), (⟨"CopyRegisterModel", "endBy", "(III)I"⟩, 35), (⟨"CopyRegisterModel", "hasRight", "(III)Z"⟩, 35), (⟨"CopyRegisterModel", "areTwo", "(III)Z"⟩, 35), (⟨"CopyRegisterModel", "freeOf", "(II)I"⟩, 35), (⟨"CopyRegisterModel", "pledgedBy", "(II)I"⟩, 35), (⟨"CopyRegisterModel", "isAgreed", "(I)Z"⟩, 35), (⟨"CopyRegisterModel", "layRest", "(II)V"⟩, 35), (⟨"CopyRegisterModel", "areLike", "(IIII)Z"⟩, 35), (⟨"CopyRegisterModel", "placeFor", "(IIIII)I"⟩, 35)]
theorem lw_r2 : ∀ q ∈ lw_privs_2, lw_okq q := List.forall_mem_cons.mpr ⟨lw_p16, List.forall_mem_cons.mpr ⟨lw_p17, List.forall_mem_cons.mpr ⟨lw_p18, List.forall_mem_cons.mpr ⟨lw_p19, List.forall_mem_cons.mpr ⟨lw_p20, List.forall_mem_cons.mpr ⟨lw_p21, List.forall_mem_cons.mpr ⟨lw_p22, List.forall_mem_cons.mpr ⟨lw_p23, List.forall_mem_cons.mpr ⟨lw_p24, List.forall_mem_cons.mpr ⟨lw_p25, List.forall_mem_cons.mpr ⟨lw_p26, List.forall_mem_cons.mpr ⟨lw_p27, fun _ h => absurd h List.not_mem_nil⟩⟩⟩⟩⟩⟩⟩⟩⟩⟩⟩⟩
def lw_privs : List (MethodName × Nat) := lw_privs_1 ++ (lw_privs_2)
def lw_tbl : List Cond := k2_sels lw_privs ++ tables_1
theorem lw_privs_ok : ∀ q ∈ lw_privs, lw_okq q := by
  show ∀ q ∈ lw_privs_1 ++ (lw_privs_2), lw_okq q
  exact List.forall_mem_append.mpr ⟨lw_r1, lw_r2⟩
/-! ===== BEGIN words of one list among another's, by their places ===== -/
theorem goodIn_r {big : List Cond} (ws : List Cond) (ps : List Nat) (hp : ws = ps.filterMap (fun i => big[i]?)) (h : ws.all goodWord = true) : GoodIn big ws := by
  intro w hw
  have h1 := List.all_eq_true.mp h w hw
  rw [hp] at hw
  obtain ⟨i, -, hi⟩ := List.mem_filterMap.mp hw
  have hm : w ∈ big := by first | exact List.mem_of_getElem? hi | exact List.getElem?_mem hi
  exact ⟨hm, good_of_word h1⟩
theorem goodIn_app {big a b : List Cond} (ha : GoodIn big a) (hb : GoodIn big b) : GoodIn big (a ++ b) := fun w h => (List.mem_append.mp h).elim (ha w) (hb w)
theorem goodIn_ca {big a b : List Cond} {c : Cond} (ha : GoodIn big (c :: a)) (hb : GoodIn big b) : GoodIn big (c :: (a ++ b)) := fun w h => (List.mem_cons.mp h).elim (fun e => ha w (List.mem_cons.mpr (Or.inl e))) (fun h => (List.mem_append.mp h).elim (fun h => ha w (List.mem_cons.mpr (Or.inr h))) (hb w))
theorem goodIn_sub {big ws : List Cond} (hm : ∀ w ∈ ws, w ∈ big) (h : ws.all goodWord = true) : GoodIn big ws := fun w hw => ⟨hm w hw, good_of_word (List.all_eq_true.mp h w hw)⟩
/-! ===== END ===== -/
def RX0 : String := "CopyRegister$Act"
def TX0 : u_T := fun k => match k with
  | 0 => ("CopyRegister$Act", "day", "I", true)
  | 1 => ("CopyRegister$Act", "fix", "I", true)
  | 2 => ("CopyRegister$Act", "life", "I", true)
  | 3 => ("CopyRegister$Act", "way", "I", true)
  | _ => ("CopyRegister$Act", "consent", "I", true)
def tyX0 : Nat → FieldType := fun k => match k with
  | 0 => .int
  | 1 => .int
  | 2 => .int
  | 3 => .int
  | _ => .int
abbrev wsX00 : List Cond := u_ws RX0 TX0 5
theorem nmX0 : ∀ a, a < 5 → ∀ b, b < 5 → a ≠ b → (TX0 a).2.1 ≠ (TX0 b).2.1 := by decide +kernel
theorem tyX0_ok : ∀ k, k < 5 → parseFieldDescriptor (TX0 k).2.2.1 = some (tyX0 k) := by decide +kernel
abbrev cX0_init : ByteArray := prog_2_method_1_code
def yX0_init : MethodName := ⟨RX0, "<init>", "(IIIII)V"⟩
abbrev cX0_endFor : ByteArray := prog_2_method_2_code
def yX0_endFor : MethodName := ⟨RX0, "endFor", "(LCopyRegister$Work;I)I"⟩
abbrev cX0_comesLaterTo : ByteArray := prog_2_method_3_code
def yX0_comesLaterTo : MethodName := ⟨RX0, "comesLaterTo", "(LCopyRegister$Work;I)Z"⟩
abbrev cX0_changes : ByteArray := prog_2_method_4_code
def yX0_changes : MethodName := ⟨RX0, "changes", "(I)Z"⟩
abbrev cX0_leavesFree : ByteArray := prog_2_method_5_code
def yX0_leavesFree : MethodName := ⟨RX0, "leavesFree", "(II)Z"⟩
def RX1 : String := "CopyRegister$Acts"
def TX1 : u_T := fun k => match k with
  | 0 => ("CopyRegister$Acts", "rows", "[LCopyRegister$Act;", true)
  | _ => ("CopyRegister$Acts", "size", "I", false)
def tyX1 : Nat → FieldType := fun k => match k with
  | 0 => .array (.object "CopyRegister$Act")
  | _ => .int
abbrev wsX10 : List Cond := u_ws RX1 TX1 2
theorem nmX1 : ∀ a, a < 2 → ∀ b, b < 2 → a ≠ b → (TX1 a).2.1 ≠ (TX1 b).2.1 := by decide +kernel
theorem tyX1_ok : ∀ k, k < 2 → parseFieldDescriptor (TX1 k).2.2.1 = some (tyX1 k) := by decide +kernel
abbrev cX1_init : ByteArray := prog_3_method_1_code
def yX1_init : MethodName := ⟨RX1, "<init>", "()V"⟩
abbrev cX1_rowAt : ByteArray := prog_3_method_2_code
def yX1_rowAt : MethodName := ⟨RX1, "rowAt", "(I)LCopyRegister$Act;"⟩
abbrev cX1_allEarlierThan : ByteArray := prog_3_method_3_code
def yX1_allEarlierThan : MethodName := ⟨RX1, "allEarlierThan", "(I)Z"⟩
abbrev cX1_append : ByteArray := prog_3_method_4_code
def yX1_append : MethodName := ⟨RX1, "append", "(LCopyRegister$Act;)I"⟩
abbrev cX1_inForceOn : ByteArray := prog_3_method_5_code
def yX1_inForceOn : MethodName := ⟨RX1, "inForceOn", "(I)LCopyRegister$Act;"⟩
abbrev cX1_consentOn : ByteArray := prog_3_method_6_code
def yX1_consentOn : MethodName := ⟨RX1, "consentOn", "(I)I"⟩
abbrev cX1_endKnownAt : ByteArray := prog_3_method_7_code
def yX1_endKnownAt : MethodName := ⟨RX1, "endKnownAt", "(LCopyRegister$Work;I)I"⟩
abbrev cX1_endAheadOf : ByteArray := prog_3_method_8_code
def yX1_endAheadOf : MethodName := ⟨RX1, "endAheadOf", "(ILCopyRegister$Work;I)I"⟩
abbrev cX1_protect : ByteArray := prog_3_method_9_code
def yX1_protect : MethodName := ⟨RX1, "protect", "(LCopyRegister$Work;II)Z"⟩
abbrev cX1_leaveFree : ByteArray := prog_3_method_10_code
def yX1_leaveFree : MethodName := ⟨RX1, "leaveFree", "(LCopyRegister$Work;II)Z"⟩
def RX2 : String := "CopyRegister$CommonLines"
def TX2 : u_T := fun k => match k with
  | 0 => ("CopyRegister$CommonLines", "marks", "[Z", true)
  | _ => ("CopyRegister$CommonLines", "size", "I", false)
def tyX2 : Nat → FieldType := fun k => match k with
  | 0 => .array .boolean
  | _ => .int
abbrev wsX20 : List Cond := u_ws RX2 TX2 2
theorem nmX2 : ∀ a, a < 2 → ∀ b, b < 2 → a ≠ b → (TX2 a).2.1 ≠ (TX2 b).2.1 := by decide +kernel
theorem tyX2_ok : ∀ k, k < 2 → parseFieldDescriptor (TX2 k).2.2.1 = some (tyX2 k) := by decide +kernel
abbrev cX2_init : ByteArray := prog_4_method_1_code
def yX2_init : MethodName := ⟨RX2, "<init>", "()V"⟩
abbrev cX2_contain : ByteArray := prog_4_method_2_code
def yX2_contain : MethodName := ⟨RX2, "contain", "(I)Z"⟩
abbrev cX2_mark : ByteArray := prog_4_method_3_code
def yX2_mark : MethodName := ⟨RX2, "mark", "(IZ)I"⟩
def RX3 : String := "CopyRegister$Comparison"
def TX3 : u_T := fun k => match k with
  | _ => ("CopyRegister$Comparison", "rest", "[[I", true)
def tyX3 : Nat → FieldType := fun k => match k with
  | _ => .array (.array .int)
abbrev wsX30 : List Cond := u_ws RX3 TX3 1
theorem nmX3 : ∀ a, a < 1 → ∀ b, b < 1 → a ≠ b → (TX3 a).2.1 ≠ (TX3 b).2.1 := by decide +kernel
theorem tyX3_ok : ∀ k, k < 1 → parseFieldDescriptor (TX3 k).2.2.1 = some (tyX3 k) := by decide +kernel
abbrev cX3_init : ByteArray := prog_5_method_1_code
def yX3_init : MethodName := ⟨RX3, "<init>", "()V"⟩
abbrev cX3_isPlace : ByteArray := prog_5_method_2_code
def yX3_isPlace : MethodName := ⟨RX3, "isPlace", "(I)Z"⟩
abbrev cX3_restFrom : ByteArray := prog_5_method_3_code
def yX3_restFrom : MethodName := ⟨RX3, "restFrom", "(II)I"⟩
abbrev cX3_setRest : ByteArray := prog_5_method_4_code
def yX3_setRest : MethodName := ⟨RX3, "setRest", "(III)V"⟩
abbrev cX3_measure : ByteArray := prog_5_method_5_code
def yX3_measure : MethodName := ⟨RX3, "measure", "(LCopyRegister$Lines;LCopyRegister$Lines;LCopyRegister$CommonLines;)I"⟩
abbrev cX3_clearEdges : ByteArray := prog_5_method_6_code
def yX3_clearEdges : MethodName := ⟨RX3, "clearEdges", "(II)V"⟩
abbrev cX3_placeOf : ByteArray := prog_5_method_7_code
def yX3_placeOf : MethodName := ⟨RX3, "placeOf", "(LCopyRegister$Lines;LCopyRegister$Lines;LCopyRegister$CommonLines;IZ)I"⟩
def RX4 : String := "CopyRegister$Licence"
def TX4 : u_T := fun k => match k with
  | 0 => ("CopyRegister$Licence", "work", "I", true)
  | 1 => ("CopyRegister$Licence", "use", "I", true)
  | 2 => ("CopyRegister$Licence", "person", "I", true)
  | 3 => ("CopyRegister$Licence", "givenDay", "I", true)
  | 4 => ("CopyRegister$Licence", "from", "I", true)
  | _ => ("CopyRegister$Licence", "to", "I", true)
def tyX4 : Nat → FieldType := fun k => match k with
  | 0 => .int
  | 1 => .int
  | 2 => .int
  | 3 => .int
  | 4 => .int
  | _ => .int
abbrev wsX40 : List Cond := u_ws RX4 TX4 6
theorem nmX4 : ∀ a, a < 6 → ∀ b, b < 6 → a ≠ b → (TX4 a).2.1 ≠ (TX4 b).2.1 := by decide +kernel
theorem tyX4_ok : ∀ k, k < 6 → parseFieldDescriptor (TX4 k).2.2.1 = some (tyX4 k) := by decide +kernel
abbrev cX4_init : ByteArray := prog_6_method_1_code
def yX4_init : MethodName := ⟨RX4, "<init>", "(IIIIII)V"⟩
abbrev cX4_fits : ByteArray := prog_6_method_2_code
def yX4_fits : MethodName := ⟨RX4, "fits", "(III)Z"⟩
abbrev cX4_coversDay : ByteArray := prog_6_method_3_code
def yX4_coversDay : MethodName := ⟨RX4, "coversDay", "(I)Z"⟩
def RX5 : String := "CopyRegister$Lines"
def TX5 : u_T := fun k => match k with
  | 0 => ("CopyRegister$Lines", "rows", "[I", true)
  | _ => ("CopyRegister$Lines", "size", "I", false)
def tyX5 : Nat → FieldType := fun k => match k with
  | 0 => .array .int
  | _ => .int
abbrev wsX50 : List Cond := u_ws RX5 TX5 2
theorem nmX5 : ∀ a, a < 2 → ∀ b, b < 2 → a ≠ b → (TX5 a).2.1 ≠ (TX5 b).2.1 := by decide +kernel
theorem tyX5_ok : ∀ k, k < 2 → parseFieldDescriptor (TX5 k).2.2.1 = some (tyX5 k) := by decide +kernel
abbrev cX5_init : ByteArray := prog_7_method_1_code
def yX5_init : MethodName := ⟨RX5, "<init>", "()V"⟩
abbrev cX5_append : ByteArray := prog_7_method_2_code
def yX5_append : MethodName := ⟨RX5, "append", "(I)I"⟩
abbrev cX5_rowAt : ByteArray := prog_7_method_3_code
def yX5_rowAt : MethodName := ⟨RX5, "rowAt", "(I)I"⟩
abbrev cX5_firstPlaceOf : ByteArray := prog_7_method_4_code
def yX5_firstPlaceOf : MethodName := ⟨RX5, "firstPlaceOf", "(II)I"⟩
abbrev cX5_sizeWithout : ByteArray := prog_7_method_5_code
def yX5_sizeWithout : MethodName := ⟨RX5, "sizeWithout", "(LCopyRegister$CommonLines;)I"⟩
def RX6 : String := "CopyRegister$Page"
def TX6 : u_T := fun k => match k with
  | 0 => ("CopyRegister$Page", "day", "I", true)
  | 1 => ("CopyRegister$Page", "before", "LCopyRegister$Page;", true)
  | _ => ("CopyRegister$Page", "owned", "[I", true)
def tyX6 : Nat → FieldType := fun k => match k with
  | 0 => .int
  | 1 => .object "CopyRegister$Page"
  | _ => .array .int
abbrev wsX60 : List Cond := u_ws RX6 TX6 3
theorem nmX6 : ∀ a, a < 3 → ∀ b, b < 3 → a ≠ b → (TX6 a).2.1 ≠ (TX6 b).2.1 := by decide +kernel
theorem tyX6_ok : ∀ k, k < 3 → parseFieldDescriptor (TX6 k).2.2.1 = some (tyX6 k) := by decide +kernel
abbrev cX6_init : ByteArray := prog_8_method_1_code
def yX6_init : MethodName := ⟨RX6, "<init>", "(ILCopyRegister$Page;)V"⟩
abbrev cX6_placeOf : ByteArray := prog_8_method_2_code
def yX6_placeOf : MethodName := ⟨RX6, "placeOf", "(I)I"⟩
abbrev cX6_sharesOf : ByteArray := prog_8_method_3_code
def yX6_sharesOf : MethodName := ⟨RX6, "sharesOf", "(I)I"⟩
abbrev cX6_change : ByteArray := prog_8_method_4_code
def yX6_change : MethodName := ⟨RX6, "change", "(II)V"⟩
def RX7 : String := "CopyRegister$Person"
def TX7 : u_T := fun k => match k with
  | 0 => ("CopyRegister$Person", "heirNumber", "I", false)
  | 1 => ("CopyRegister$Person", "deathDay", "I", false)
  | _ => ("CopyRegister$Person", "learntDay", "I", false)
def tyX7 : Nat → FieldType := fun k => match k with
  | 0 => .int
  | 1 => .int
  | _ => .int
abbrev wsX70 : List Cond := u_ws RX7 TX7 3
theorem nmX7 : ∀ a, a < 3 → ∀ b, b < 3 → a ≠ b → (TX7 a).2.1 ≠ (TX7 b).2.1 := by decide +kernel
theorem tyX7_ok : ∀ k, k < 3 → parseFieldDescriptor (TX7 k).2.2.1 = some (tyX7 k) := by decide +kernel
abbrev cX7_init : ByteArray := prog_9_method_1_code
def yX7_init : MethodName := ⟨RX7, "<init>", "()V"⟩
abbrev cX7_tellDead : ByteArray := prog_9_method_2_code
def yX7_tellDead : MethodName := ⟨RX7, "tellDead", "(II)V"⟩
abbrev cX7_isToldDead : ByteArray := prog_9_method_3_code
def yX7_isToldDead : MethodName := ⟨RX7, "isToldDead", "()Z"⟩
abbrev cX7_isDeathKnownAt : ByteArray := prog_9_method_4_code
def yX7_isDeathKnownAt : MethodName := ⟨RX7, "isDeathKnownAt", "(I)Z"⟩
def RX8 : String := "CopyRegister$Shares"
def TX8 : u_T := fun k => match k with
  | 0 => ("CopyRegister$Shares", "newest", "LCopyRegister$Page;", false)
  | _ => ("CopyRegister$Shares", "pledged", "[[I", true)
def tyX8 : Nat → FieldType := fun k => match k with
  | 0 => .object "CopyRegister$Page"
  | _ => .array (.array .int)
abbrev wsX80 : List Cond := u_ws RX8 TX8 2
theorem nmX8 : ∀ a, a < 2 → ∀ b, b < 2 → a ≠ b → (TX8 a).2.1 ≠ (TX8 b).2.1 := by decide +kernel
theorem tyX8_ok : ∀ k, k < 2 → parseFieldDescriptor (TX8 k).2.2.1 = some (tyX8 k) := by decide +kernel
abbrev cX8_init : ByteArray := prog_10_method_1_code
def yX8_init : MethodName := ⟨RX8, "<init>", "(II)V"⟩
abbrev cX8_ownedNow : ByteArray := prog_10_method_2_code
def yX8_ownedNow : MethodName := ⟨RX8, "ownedNow", "(I)I"⟩
abbrev cX8_ownedOn : ByteArray := prog_10_method_3_code
def yX8_ownedOn : MethodName := ⟨RX8, "ownedOn", "(II)I"⟩
abbrev cX8_freeOf : ByteArray := prog_10_method_4_code
def yX8_freeOf : MethodName := ⟨RX8, "freeOf", "(I)I"⟩
abbrev cX8_pledgedBy : ByteArray := prog_10_method_5_code
def yX8_pledgedBy : MethodName := ⟨RX8, "pledgedBy", "(I)I"⟩
abbrev cX8_pledgedTo : ByteArray := prog_10_method_6_code
def yX8_pledgedTo : MethodName := ⟨RX8, "pledgedTo", "(II)I"⟩
abbrev cX8_canPledge : ByteArray := prog_10_method_7_code
def yX8_canPledge : MethodName := ⟨RX8, "canPledge", "(II)Z"⟩
abbrev cX8_addPledge : ByteArray := prog_10_method_8_code
def yX8_addPledge : MethodName := ⟨RX8, "addPledge", "(III)V"⟩
abbrev cX8_dropPledge : ByteArray := prog_10_method_9_code
def yX8_dropPledge : MethodName := ⟨RX8, "dropPledge", "(II)I"⟩
abbrev cX8_move : ByteArray := prog_10_method_10_code
def yX8_move : MethodName := ⟨RX8, "move", "(IIII)V"⟩
abbrev cX8_passOn : ByteArray := prog_10_method_11_code
def yX8_passOn : MethodName := ⟨RX8, "passOn", "(III)V"⟩
def RX9 : String := "CopyRegister$Work"
def TX9 : u_T := fun k => match k with
  | 0 => ("CopyRegister$Work", "author", "LCopyRegister$Person;", true)
  | 1 => ("CopyRegister$Work", "entryDay", "I", true)
  | 2 => ("CopyRegister$Work", "shares", "LCopyRegister$Shares;", true)
  | 3 => ("CopyRegister$Work", "agreeing", "[Z", true)
  | _ => ("CopyRegister$Work", "lines", "LCopyRegister$Lines;", true)
def tyX9 : Nat → FieldType := fun k => match k with
  | 0 => .object "CopyRegister$Person"
  | 1 => .int
  | 2 => .object "CopyRegister$Shares"
  | 3 => .array .boolean
  | _ => .object "CopyRegister$Lines"
abbrev wsX90 : List Cond := u_ws RX9 TX9 5
theorem nmX9 : ∀ a, a < 5 → ∀ b, b < 5 → a ≠ b → (TX9 a).2.1 ≠ (TX9 b).2.1 := by decide +kernel
theorem tyX9_ok : ∀ k, k < 5 → parseFieldDescriptor (TX9 k).2.2.1 = some (tyX9 k) := by decide +kernel
abbrev cX9_init : ByteArray := prog_11_method_1_code
def yX9_init : MethodName := ⟨RX9, "<init>", "(LCopyRegister$Person;II)V"⟩
abbrev cX9_setAgreeing : ByteArray := prog_11_method_2_code
def yX9_setAgreeing : MethodName := ⟨RX9, "setAgreeing", "(IZ)Z"⟩
abbrev cX9_agreeingShares : ByteArray := prog_11_method_3_code
def yX9_agreeingShares : MethodName := ⟨RX9, "agreeingShares", "()I"⟩
def RX10 : String := "CopyRegister"
def TX10 : u_T := fun k => match k with
  | 0 => ("CopyRegister", "today", "I", false)
  | 1 => ("CopyRegister", "persons", "[LCopyRegister$Person;", true)
  | 2 => ("CopyRegister", "personCount", "I", false)
  | 3 => ("CopyRegister", "acts", "LCopyRegister$Acts;", true)
  | 4 => ("CopyRegister", "works", "[LCopyRegister$Work;", true)
  | 5 => ("CopyRegister", "workCount", "I", false)
  | 6 => ("CopyRegister", "licences", "[LCopyRegister$Licence;", true)
  | 7 => ("CopyRegister", "licenceCount", "I", false)
  | 8 => ("CopyRegister", "commonLines", "LCopyRegister$CommonLines;", true)
  | _ => ("CopyRegister", "comparison", "LCopyRegister$Comparison;", true)
def tyX10 : Nat → FieldType := fun k => match k with
  | 0 => .int
  | 1 => .array (.object "CopyRegister$Person")
  | 2 => .int
  | 3 => .object "CopyRegister$Acts"
  | 4 => .array (.object "CopyRegister$Work")
  | 5 => .int
  | 6 => .array (.object "CopyRegister$Licence")
  | 7 => .int
  | 8 => .object "CopyRegister$CommonLines"
  | _ => .object "CopyRegister$Comparison"
abbrev wsX100 : List Cond := u_ws RX10 TX10 10
theorem nmX10 : ∀ a, a < 10 → ∀ b, b < 10 → a ≠ b → (TX10 a).2.1 ≠ (TX10 b).2.1 := by decide +kernel
theorem tyX10_ok : ∀ k, k < 10 → parseFieldDescriptor (TX10 k).2.2.1 = some (tyX10 k) := by decide +kernel
abbrev cX10_init : ByteArray := prog_1_method_1_code
def yX10_init : MethodName := ⟨RX10, "<init>", "()V"⟩
abbrev cX10_days : ByteArray := prog_1_method_2_code
def yX10_days : MethodName := ⟨RX10, "days", "(I)I"⟩
abbrev cX10_person : ByteArray := prog_1_method_3_code
def yX10_person : MethodName := ⟨RX10, "person", "()I"⟩
abbrev cX10_heir : ByteArray := prog_1_method_4_code
def yX10_heir : MethodName := ⟨RX10, "heir", "(II)I"⟩
abbrev cX10_death : ByteArray := prog_1_method_5_code
def yX10_death : MethodName := ⟨RX10, "death", "(II)I"⟩
abbrev cX10_died : ByteArray := prog_1_method_6_code
def yX10_died : MethodName := ⟨RX10, "died", "(II)I"⟩
abbrev cX10_act : ByteArray := prog_1_method_7_code
def yX10_act : MethodName := ⟨RX10, "act", "(IIIII)I"⟩
abbrev cX10_work : ByteArray := prog_1_method_8_code
def yX10_work : MethodName := ⟨RX10, "work", "(I)I"⟩
abbrev cX10_end : ByteArray := prog_1_method_9_code
def yX10_end : MethodName := ⟨RX10, "end", "(II)I"⟩
abbrev cX10_inRight : ByteArray := prog_1_method_10_code
def yX10_inRight : MethodName := ⟨RX10, "inRight", "(III)I"⟩
abbrev cX10_sell : ByteArray := prog_1_method_11_code
def yX10_sell : MethodName := ⟨RX10, "sell", "(IIII)I"⟩
abbrev cX10_pledge : ByteArray := prog_1_method_12_code
def yX10_pledge : MethodName := ⟨RX10, "pledge", "(IIII)I"⟩
abbrev cX10_redeem : ByteArray := prog_1_method_13_code
def yX10_redeem : MethodName := ⟨RX10, "redeem", "(III)I"⟩
abbrev cX10_held : ByteArray := prog_1_method_14_code
def yX10_held : MethodName := ⟨RX10, "held", "(III)I"⟩
abbrev cX10_agree : ByteArray := prog_1_method_15_code
def yX10_agree : MethodName := ⟨RX10, "agree", "(IIZ)I"⟩
abbrev cX10_license : ByteArray := prog_1_method_16_code
def yX10_license : MethodName := ⟨RX10, "license", "(IIIII)I"⟩
abbrev cX10_may : ByteArray := prog_1_method_17_code
def yX10_may : MethodName := ⟨RX10, "may", "(IIIII)I"⟩
abbrev cX10_line : ByteArray := prog_1_method_18_code
def yX10_line : MethodName := ⟨RX10, "line", "(II)I"⟩
abbrev cX10_common : ByteArray := prog_1_method_19_code
def yX10_common : MethodName := ⟨RX10, "common", "(IZ)I"⟩
abbrev cX10_alike : ByteArray := prog_1_method_20_code
def yX10_alike : MethodName := ⟨RX10, "alike", "(II)I"⟩
abbrev cX10_pair : ByteArray := prog_1_method_21_code
def yX10_pair : MethodName := ⟨RX10, "pair", "(IIII)I"⟩
abbrev cX10_copied : ByteArray := prog_1_method_22_code
def yX10_copied : MethodName := ⟨RX10, "copied", "(III)I"⟩
abbrev cX10_count : ByteArray := prog_1_method_23_code
def yX10_count : MethodName := ⟨RX10, "count", "(I)I"⟩
abbrev cX10_isWithin : ByteArray := prog_1_method_24_code
def yX10_isWithin : MethodName := ⟨RX10, "isWithin", "(III)Z"⟩
abbrev cX10_isDay : ByteArray := prog_1_method_25_code
def yX10_isDay : MethodName := ⟨RX10, "isDay", "(I)Z"⟩
abbrev cX10_isDayOf : ByteArray := prog_1_method_26_code
def yX10_isDayOf : MethodName := ⟨RX10, "isDayOf", "(LCopyRegister$Work;I)Z"⟩
abbrev cX10_oneIf : ByteArray := prog_1_method_27_code
def yX10_oneIf : MethodName := ⟨RX10, "oneIf", "(Z)I"⟩
abbrev cX10_personAt : ByteArray := prog_1_method_28_code
def yX10_personAt : MethodName := ⟨RX10, "personAt", "(I)LCopyRegister$Person;"⟩
abbrev cX10_workAt : ByteArray := prog_1_method_29_code
def yX10_workAt : MethodName := ⟨RX10, "workAt", "(I)LCopyRegister$Work;"⟩
abbrev cX10_areTwoPersons : ByteArray := prog_1_method_30_code
def yX10_areTwoPersons : MethodName := ⟨RX10, "areTwoPersons", "(II)Z"⟩
abbrev cX10_receiverFrom : ByteArray := prog_1_method_31_code
def yX10_receiverFrom : MethodName := ⟨RX10, "receiverFrom", "(LCopyRegister$Person;)I"⟩
abbrev cX10_isLicensed : ByteArray := prog_1_method_32_code
def yX10_isLicensed : MethodName := ⟨RX10, "isLicensed", "(IIII)Z"⟩
def RX11 : String := "CopyRegisterModel"
def TX11 : u_T := fun k => match k with
  | 0 => ("CopyRegisterModel", "day", "I", false)
  | 1 => ("CopyRegisterModel", "persons", "I", false)
  | 2 => ("CopyRegisterModel", "heir", "[I", true)
  | 3 => ("CopyRegisterModel", "died", "[I", true)
  | 4 => ("CopyRegisterModel", "learnt", "[I", true)
  | 5 => ("CopyRegisterModel", "acts", "I", false)
  | 6 => ("CopyRegisterModel", "actDay", "[I", true)
  | 7 => ("CopyRegisterModel", "fix", "[I", true)
  | 8 => ("CopyRegisterModel", "life", "[I", true)
  | 9 => ("CopyRegisterModel", "way", "[I", true)
  | 10 => ("CopyRegisterModel", "consent", "[I", true)
  | 11 => ("CopyRegisterModel", "works", "I", false)
  | 12 => ("CopyRegisterModel", "author", "[I", true)
  | 13 => ("CopyRegisterModel", "entry", "[I", true)
  | 14 => ("CopyRegisterModel", "moves", "I", false)
  | 15 => ("CopyRegisterModel", "moveDay", "[I", true)
  | 16 => ("CopyRegisterModel", "moveWork", "[I", true)
  | 17 => ("CopyRegisterModel", "moveFrom", "[I", true)
  | 18 => ("CopyRegisterModel", "moveTo", "[I", true)
  | 19 => ("CopyRegisterModel", "moveMany", "[I", true)
  | 20 => ("CopyRegisterModel", "pledged", "[I", true)
  | 21 => ("CopyRegisterModel", "agrees", "[Z", true)
  | 22 => ("CopyRegisterModel", "licences", "I", false)
  | 23 => ("CopyRegisterModel", "licenceWork", "[I", true)
  | 24 => ("CopyRegisterModel", "licenceUse", "[I", true)
  | 25 => ("CopyRegisterModel", "licencePerson", "[I", true)
  | 26 => ("CopyRegisterModel", "licenceFrom", "[I", true)
  | 27 => ("CopyRegisterModel", "licenceTo", "[I", true)
  | 28 => ("CopyRegisterModel", "licenceDay", "[I", true)
  | 29 => ("CopyRegisterModel", "lineMany", "[I", true)
  | 30 => ("CopyRegisterModel", "lines", "[I", true)
  | 31 => ("CopyRegisterModel", "commons", "I", false)
  | 32 => ("CopyRegisterModel", "isCommon", "[Z", true)
  | 33 => ("CopyRegisterModel", "isGap", "Z", false)
  | _ => ("CopyRegisterModel", "rest", "[I", true)
def tyX11 : Nat → FieldType := fun k => match k with
  | 0 => .int
  | 1 => .int
  | 2 => .array .int
  | 3 => .array .int
  | 4 => .array .int
  | 5 => .int
  | 6 => .array .int
  | 7 => .array .int
  | 8 => .array .int
  | 9 => .array .int
  | 10 => .array .int
  | 11 => .int
  | 12 => .array .int
  | 13 => .array .int
  | 14 => .int
  | 15 => .array .int
  | 16 => .array .int
  | 17 => .array .int
  | 18 => .array .int
  | 19 => .array .int
  | 20 => .array .int
  | 21 => .array .boolean
  | 22 => .int
  | 23 => .array .int
  | 24 => .array .int
  | 25 => .array .int
  | 26 => .array .int
  | 27 => .array .int
  | 28 => .array .int
  | 29 => .array .int
  | 30 => .array .int
  | 31 => .int
  | 32 => .array .boolean
  | 33 => .boolean
  | _ => .array .int
abbrev wsX110 : List Cond := u_ws RX11 TX11 35
theorem nmX11 : ∀ a, a < 35 → ∀ b, b < 35 → a ≠ b → (TX11 a).2.1 ≠ (TX11 b).2.1 := by decide +kernel
theorem tyX11_ok : ∀ k, k < 35 → parseFieldDescriptor (TX11 k).2.2.1 = some (tyX11 k) := by decide +kernel
abbrev cX11_init : ByteArray := prog_13_method_1_code
def yX11_init : MethodName := ⟨RX11, "<init>", "()V"⟩
abbrev cX11_in : ByteArray := prog_13_method_2_code
def yX11_in : MethodName := ⟨RX11, "in", "(III)Z"⟩
abbrev cX11_greater : ByteArray := prog_13_method_3_code
def yX11_greater : MethodName := ⟨RX11, "greater", "(II)I"⟩
abbrev cX11_days : ByteArray := prog_13_method_4_code
def yX11_days : MethodName := ⟨RX11, "days", "(I)I"⟩
abbrev cX11_isPerson : ByteArray := prog_13_method_5_code
def yX11_isPerson : MethodName := ⟨RX11, "isPerson", "(I)Z"⟩
abbrev cX11_isWork : ByteArray := prog_13_method_6_code
def yX11_isWork : MethodName := ⟨RX11, "isWork", "(I)Z"⟩
abbrev cX11_person : ByteArray := prog_13_method_7_code
def yX11_person : MethodName := ⟨RX11, "person", "()I"⟩
abbrev cX11_heir : ByteArray := prog_13_method_8_code
def yX11_heir : MethodName := ⟨RX11, "heir", "(II)I"⟩
abbrev cX11_death : ByteArray := prog_13_method_9_code
def yX11_death : MethodName := ⟨RX11, "death", "(II)I"⟩
abbrev cX11_deathAt : ByteArray := prog_13_method_10_code
def yX11_deathAt : MethodName := ⟨RX11, "deathAt", "(II)I"⟩
abbrev cX11_died : ByteArray := prog_13_method_11_code
def yX11_died : MethodName := ⟨RX11, "died", "(II)I"⟩
abbrev cX11_act : ByteArray := prog_13_method_12_code
def yX11_act : MethodName := ⟨RX11, "act", "(IIIII)I"⟩
abbrev cX11_actAt : ByteArray := prog_13_method_13_code
def yX11_actAt : MethodName := ⟨RX11, "actAt", "(I)I"⟩
abbrev cX11_work : ByteArray := prog_13_method_14_code
def yX11_work : MethodName := ⟨RX11, "work", "(I)I"⟩
abbrev cX11_endBy : ByteArray := prog_13_method_15_code
def yX11_endBy : MethodName := ⟨RX11, "endBy", "(III)I"⟩
abbrev cX11_endAt : ByteArray := prog_13_method_16_code
def yX11_endAt : MethodName := ⟨RX11, "endAt", "(III)I"⟩
abbrev cX11_end : ByteArray := prog_13_method_17_code
def yX11_end : MethodName := ⟨RX11, "end", "(II)I"⟩
abbrev cX11_hasRight : ByteArray := prog_13_method_18_code
def yX11_hasRight : MethodName := ⟨RX11, "hasRight", "(III)Z"⟩
abbrev cX11_inRight : ByteArray := prog_13_method_19_code
def yX11_inRight : MethodName := ⟨RX11, "inRight", "(III)I"⟩
abbrev cX11_move : ByteArray := prog_13_method_20_code
def yX11_move : MethodName := ⟨RX11, "move", "(IIII)V"⟩
abbrev cX11_holds : ByteArray := prog_13_method_21_code
def yX11_holds : MethodName := ⟨RX11, "holds", "(III)I"⟩
abbrev cX11_pledgedBy : ByteArray := prog_13_method_22_code
def yX11_pledgedBy : MethodName := ⟨RX11, "pledgedBy", "(II)I"⟩
abbrev cX11_freeOf : ByteArray := prog_13_method_23_code
def yX11_freeOf : MethodName := ⟨RX11, "freeOf", "(II)I"⟩
abbrev cX11_areTwo : ByteArray := prog_13_method_24_code
def yX11_areTwo : MethodName := ⟨RX11, "areTwo", "(III)Z"⟩
abbrev cX11_sell : ByteArray := prog_13_method_25_code
def yX11_sell : MethodName := ⟨RX11, "sell", "(IIII)I"⟩
abbrev cX11_pledge : ByteArray := prog_13_method_26_code
def yX11_pledge : MethodName := ⟨RX11, "pledge", "(IIII)I"⟩
abbrev cX11_redeem : ByteArray := prog_13_method_27_code
def yX11_redeem : MethodName := ⟨RX11, "redeem", "(III)I"⟩
abbrev cX11_held : ByteArray := prog_13_method_28_code
def yX11_held : MethodName := ⟨RX11, "held", "(III)I"⟩
abbrev cX11_agree : ByteArray := prog_13_method_29_code
def yX11_agree : MethodName := ⟨RX11, "agree", "(IIZ)I"⟩
abbrev cX11_isAgreed : ByteArray := prog_13_method_30_code
def yX11_isAgreed : MethodName := ⟨RX11, "isAgreed", "(I)Z"⟩
abbrev cX11_license : ByteArray := prog_13_method_31_code
def yX11_license : MethodName := ⟨RX11, "license", "(IIIII)I"⟩
abbrev cX11_may : ByteArray := prog_13_method_32_code
def yX11_may : MethodName := ⟨RX11, "may", "(IIIII)I"⟩
abbrev cX11_line : ByteArray := prog_13_method_33_code
def yX11_line : MethodName := ⟨RX11, "line", "(II)I"⟩
abbrev cX11_common : ByteArray := prog_13_method_34_code
def yX11_common : MethodName := ⟨RX11, "common", "(IZ)I"⟩
abbrev cX11_areLike : ByteArray := prog_13_method_35_code
def yX11_areLike : MethodName := ⟨RX11, "areLike", "(IIII)Z"⟩
abbrev cX11_layRest : ByteArray := prog_13_method_36_code
def yX11_layRest : MethodName := ⟨RX11, "layRest", "(II)V"⟩
abbrev cX11_alike : ByteArray := prog_13_method_37_code
def yX11_alike : MethodName := ⟨RX11, "alike", "(II)I"⟩
abbrev cX11_placeFor : ByteArray := prog_13_method_38_code
def yX11_placeFor : MethodName := ⟨RX11, "placeFor", "(IIIII)I"⟩
abbrev cX11_pair : ByteArray := prog_13_method_39_code
def yX11_pair : MethodName := ⟨RX11, "pair", "(IIII)I"⟩
abbrev cX11_copied : ByteArray := prog_13_method_40_code
def yX11_copied : MethodName := ⟨RX11, "copied", "(III)I"⟩
abbrev cX11_count : ByteArray := prog_13_method_41_code
def yX11_count : MethodName := ⟨RX11, "count", "(I)I"⟩
def RJ9 : String := "java/lang/Math"
def TJ9 : u_T := fun k => match k with
  | _ => ("", "", "", false)
def tyJ9 : Nat → FieldType := fun k => match k with
  | _ => .int
abbrev wsJ90 : List Cond := u_ws RJ9 TJ9 0
theorem nmJ9 : ∀ a, a < 0 → ∀ b, b < 0 → a ≠ b → (TJ9 a).2.1 ≠ (TJ9 b).2.1 := by decide +kernel
theorem tyJ9_ok : ∀ k, k < 0 → parseFieldDescriptor (TJ9 k).2.2.1 = some (tyJ9 k) := by decide +kernel
abbrev cJ9_max_7cf53 : ByteArray := prog_14_method_65_code
def yJ9_max_7cf53 : MethodName := ⟨RJ9, "max", "(II)I"⟩
def RJ10 : String := "java/lang/System"
def TJ10 : u_T := fun k => match k with
  | _ => ("", "", "", false)
def tyJ10 : Nat → FieldType := fun k => match k with
  | _ => .int
abbrev wsJ100 : List Cond := u_ws RJ10 TJ10 0
theorem nmJ10 : ∀ a, a < 0 → ∀ b, b < 0 → a ≠ b → (TJ10 a).2.1 ≠ (TJ10 b).2.1 := by decide +kernel
theorem tyJ10_ok : ∀ k, k < 0 → parseFieldDescriptor (TJ10 k).2.2.1 = some (tyJ10 k) := by decide +kernel
def RL : String := "CopyRegisterLaw"
abbrev cL_law : ByteArray := code
def yL_law : MethodName := ⟨RL, "law", "([I)Z"⟩
end
section
-- the store: cells by address, arrays by their element's type
abbrev q_E : Type := (FieldType × vp_A) ⊕ (Nat × List Value)
abbrev q_S : Type := Nat → Option q_E
def q_up (σ : q_S) (a : Nat) (e : q_E) : q_S := fun b => if b = a then some e else σ b
theorem q_up_s {σ : q_S} {a : Nat} {e : q_E} : q_up σ a e a = some e := by simp [q_up]
theorem q_up_n {σ : q_S} {a b : Nat} {e : q_E} (h : b ≠ a) : q_up σ a e b = σ b := by simp [q_up, h]
abbrev q_K : Type := List (Option Value) → List Value → q_S → Nat → Nat → Prop
abbrev q_Sp : Type := List Value → q_S → (Option Value → q_S → Prop) → Prop
abbrev q_cl : List vw_C := [(RX0, TX0, 5), (RX1, TX1, 2), (RX2, TX2, 2), (RX3, TX3, 1), (RX4, TX4, 6), (RX5, TX5, 2), (RX6, TX6, 3), (RX7, TX7, 3), (RX8, TX8, 2), (RX9, TX9, 5), (RX10, TX10, 10), (RX11, TX11, 35)]
def q_in (ws : va_W) (tys : List (ClassId × FieldType)) (a : Nat) (e : q_E) : Prop := match e with
  | .inr o => ∃ k : Nat, ws[k]? = some (a, .inr o)
  | .inl y => ∃ (k t : Nat) (cA : ClassId), ws[k]? = some (a, .inl (cA, y.2)) ∧ tys[t]? = some (cA, y.1)
def q_rel (ws : va_W) (tys : List (ClassId × FieldType)) (σ : q_S) : Prop := ∀ (a : Nat) (e : q_E), σ a = some e → q_in ws tys a e
def q_W (D : va_G) (A : Nat → Prop) (σ : q_S) (U : State) (H : Heap) : Prop := ∃ (ws : va_W) (tys : List (ClassId × FieldType)), va_K D q_cl tys U ∧ va_P D q_cl ws H ∧ va_D A ws ∧ q_rel ws tys σ
theorem q_in.at {ws : va_W} {tys : List (ClassId × FieldType)} {a : Nat} {e : q_E} (h : q_in ws tys a e) : ∃ (k : Nat) (e' : va_E), ws[k]? = some (a, e') := by
  cases e with
  | inl y => obtain ⟨k, t, cA, h1, -⟩ := h; exact ⟨k, _, h1⟩
  | inr o => obtain ⟨k, h1⟩ := h; exact ⟨k, _, h1⟩
theorem q_in.mono {ws ws2 : va_W} {tys tys2 : List (ClassId × FieldType)} {a : Nat} {e : q_E} (h : q_in ws tys a e) (h1 : ∀ (k : Nat) (x : va_E), ws[k]? = some (a, x) → ∃ j : Nat, ws2[j]? = some (a, x)) (h2 : ∀ (t : Nat) (x : ClassId × FieldType), tys[t]? = some x → ∃ j : Nat, tys2[j]? = some x) : q_in ws2 tys2 a e := by
  cases e with
  | inl y =>
    obtain ⟨k, t, cA, e1, e2⟩ := h
    obtain ⟨j, f1⟩ := h1 _ _ e1
    obtain ⟨i, f2⟩ := h2 _ _ e2
    exact ⟨j, i, cA, f1, f2⟩
  | inr o =>
    obtain ⟨k, e1⟩ := h
    exact h1 _ _ e1
theorem q_rel.set {ws : va_W} {tys : List (ClassId × FieldType)} {σ : q_S} {A : Nat → Prop} (h : q_rel ws tys σ) (hD : va_D A ws) {k a : Nat} {e0 e' : va_E} {e : q_E} (hk : ws[k]? = some (a, e0)) (he : q_in (ws.set k (a, e')) tys a e) : q_rel (ws.set k (a, e')) tys (q_up σ a e) := by
  intro b x hb
  by_cases hba : b = a
  · subst hba
    rw [q_up_s] at hb
    cases hb
    exact he
  · rw [q_up_n hba] at hb
    refine (h b x hb).mono (fun j y hj => ⟨j, ?_⟩) (fun t y ht => ⟨t, ht⟩)
    have hne : k ≠ j := fun hkj => by
      subst hkj
      rw [hk] at hj
      cases hj
      exact hba rfl
    rw [List.getElem?_set_ne hne]
    exact hj
theorem q_rel.push {ws : va_W} {tys ts : List (ClassId × FieldType)} {σ : q_S} {A : Nat → Prop} (h : q_rel ws tys σ) {q : Nat} {e' : va_E} {e : q_E} (hD : va_D A (ws ++ [(q, e')])) (he : q_in (ws ++ [(q, e')]) (tys ++ ts) q e) : σ q = none ∧ q_rel (ws ++ [(q, e')]) (tys ++ ts) (q_up σ q e) := by
  have hap : ∀ (j : Nat) (y : Nat × va_E), ws[j]? = some y → (ws ++ [(q, e')])[j]? = some y := fun j y hj => by
    rw [List.getElem?_append_left ((List.getElem?_eq_some_iff.mp hj).1)]
    exact hj
  refine ⟨?_, fun b x hb => ?_⟩
  · cases hq : σ q with
    | none => rfl
    | some x =>
      obtain ⟨j, y, hj⟩ := (h q x hq).at
      have h1 : (ws ++ [(q, e')])[ws.length]? = some (q, e') := by simp
      have := hD.1 _ _ _ _ (hap _ _ hj) h1 rfl
      have h2 := (List.getElem?_eq_some_iff.mp hj).1
      omega
  · by_cases hba : b = q
    · subst hba
      rw [q_up_s] at hb
      cases hb
      exact he
    · rw [q_up_n hba] at hb
      refine (h b x hb).mono (fun j y hj => ⟨j, hap _ _ hj⟩) (fun t y ht => ⟨t, ?_⟩)
      rw [List.getElem?_append_left ((List.getElem?_eq_some_iff.mp ht).1)]
      exact ht
theorem q_W.moved {D : va_G} {A : Nat → Prop} {σ : q_S} {u U : State} {H : Heap} (hvm : u.vm.Alike U.vm) (h : q_W D A σ u H) : q_W D A σ U H := by
  obtain ⟨ws, tys, hK, hP, hD, hr⟩ := h
  exact ⟨ws, tys, va_K.moved hvm hK, hP, hD, hr⟩
-- what the states must keep beside the words
def q_nF : List (String × Nat × String × String × String) := [("CopyRegister", 108, "CopyRegister$Person", "deathDay", "I"), ("CopyRegister", 165, "CopyRegister$Work", "entryDay", "I"), ("CopyRegister", 189, "CopyRegister$Work", "lines", "LCopyRegister$Lines;"), ("CopyRegister", 213, "CopyRegister$Acts", "size", "I"), ("CopyRegister", 216, "CopyRegister$CommonLines", "size", "I"), ("CopyRegister", 72, "CopyRegister$Person", "heirNumber", "I"), ("CopyRegister", 91, "CopyRegister$Work", "shares", "LCopyRegister$Shares;"), ("CopyRegister$Act", 27, "CopyRegister$Work", "entryDay", "I"), ("CopyRegister$Act", 32, "CopyRegister$Work", "author", "LCopyRegister$Person;"), ("CopyRegister$Act", 43, "CopyRegister$Person", "deathDay", "I"), ("CopyRegister$Acts", 25, "CopyRegister$Act", "day", "I"), ("CopyRegister$Acts", 31, "CopyRegister$Act", "consent", "I"), ("CopyRegister$Acts", 38, "CopyRegister$Work", "entryDay", "I"), ("CopyRegister$Comparison", 20, "CopyRegister$Lines", "size", "I"), ("CopyRegister$Shares", 33, "CopyRegister$Page", "day", "I"), ("CopyRegister$Shares", 37, "CopyRegister$Page", "before", "LCopyRegister$Page;")]
def q_nM : List (String × Nat × MethodName) := [("CopyRegister$CommonLines", 19, yX10_oneIf), ("CopyRegister$Shares", 54, yX10_isWithin)]
def q_nA : List FieldType := [.object "CopyRegister$Act", .object "CopyRegister$Licence", .object "CopyRegister$Person", .object "CopyRegister$Work", .array .int]
def q_N (U : State) : Prop := (∀ w ∈ q_nF, va_Nw (.fieldLinkNest w.1 w.2.1 w.2.2.1 w.2.2.2.1 w.2.2.2.2 "CopyRegister") U) ∧ (∀ w ∈ q_nM, va_Nw (.methodLinkNest w.1 w.2.1 w.2.2 "CopyRegister") U) ∧ ∀ t ∈ q_nA, (Cond.arrayOver t).before #[] U = true
theorem q_N.warm {s U : State} (hW : s.WarmedH U.vm) (h : q_N s) : q_N U :=
  ⟨fun w hw => va_Nw.warmF hW (h.1 w hw), fun w hw => va_Nw.warmM hW (h.2.1 w hw), fun t ht => by
    have h9 : (Cond.arrayOver t).before #[] (s.setVm U.vm) = true := by rw [Cond.arrayOver_setVmC hW.alike]; exact h.2.2 t ht
    exact h9⟩
theorem q_N.same {u U : State} (hv : u.vm = U.vm) (h : q_N u) : q_N U :=
  ⟨fun w hw => va_Nw.same rfl hv (h.1 w hw), fun w hw => va_Nw.same rfl hv (h.2.1 w hw), fun t ht => by
    have h9 := h.2.2 t ht
    simp only [Cond.before, Cond.holds, Cond.value] at h9 ⊢
    rw [← hv]
    exact h9⟩
-- words
def lw_good : List Cond := lw_tbl.filter goodWord
theorem lw_mem {w : Cond} (h : w ∈ lw_tbl) (g : goodWord w = true) : w ∈ lw_good := List.mem_filter.mpr ⟨h, g⟩
def q_ws (y : MethodName) (b : ByteArray) (n : Nat) (ret : Option FieldType) : List Cond := .code y b n ret :: lw_good
theorem q_goodIn {y y2 : MethodName} {b b2 : ByteArray} {n n2 : Nat} {r r2 : Option FieldType} (h : Cond.code y2 b2 n2 r2 ∈ lw_tbl) : GoodIn lw_good (q_ws y2 b2 n2 r2) := by
  intro w hw
  rcases List.mem_cons.mp hw with rfl | hw
  · exact ⟨lw_mem h rfl, good_of_word rfl⟩
  · exact ⟨hw, good_of_word (List.mem_filter.mp hw).2⟩
-- contracts
def q_Pc (D : va_G) (A : Nat → Prop) (σ : q_S) (av : List Value) (sz : Nat) : Array Value → State → Prop := va_Pc av (fun U => U.heap.size = sz ∧ q_W D A σ U U.heap ∧ q_N U)
def q_Qc (D : va_G) (A : Nat → Prop) (post : Option Value → q_S → Prop) : Array Value → State → Outcome → State → Prop := fun _ st oc t => (∃ (r : Option Value) (σ' : q_S), oc = .returned r ∧ post r σ' ∧ q_W D A σ' t t.heap) ∧ va_F A st t
def q_Ct (l : Launch) (y : MethodName) (b : ByteArray) (n : Nat) (ret : Option FieldType) (rm : Room) (sp : q_Sp) : Prop := ∀ (D : va_G) (A : Nat → Prop) (sz : Nat) (σ : q_S) (av : List Value) (post : Option Value → q_S → Prop), (∀ q, sz ≤ q → A q) → sp av σ post → Met l y (q_ws y b n ret) rm (q_Pc D A σ av sz) (q_Qc D A post) rm.cells rm.slots A
-- locals
def q_al (L : List (Option Value)) : List (Nat × Value) := (List.range L.length).filterMap (fun i => (L[i]?).bind (fun o => o.map (fun v => (i, v))))
theorem q_al_mem {L : List (Option Value)} {i : Nat} {v : Value} : (i, v) ∈ q_al L ↔ L[i]? = some (some v) := by
  unfold q_al
  rw [List.mem_filterMap]
  constructor
  · rintro ⟨j, -, hj⟩
    cases h1 : L[j]? with
    | none => rw [h1] at hj; cases hj
    | some o =>
      rw [h1] at hj
      cases o with
      | none => cases hj
      | some w =>
        have : (j, w) = (i, v) := Option.some.inj hj
        cases this
        exact h1
  · intro h
    refine ⟨i, List.mem_range.mpr (List.getElem?_eq_some_iff.mp h).1, ?_⟩
    rw [h]
    rfl
def q_lv (ls : Array Slot) (nL : Nat) (L : List (Option Value)) : Prop := L.length = nL ∧ (∀ (i : Nat) (v : Value), L[i]? = some (some v) → v.category = 1) ∧ lv_has ls nL (q_al L)
theorem q_lv.at {ls : Array Slot} {nL : Nat} {L : List (Option Value)} (h : q_lv ls nL L) {i : Nat} {v : Value} (hi : L[i]? = some (some v)) : ls[i]? = some (.val v) := h.2.2.2.2 (i, v) (q_al_mem.mpr hi)
theorem q_lv.set {ls ls2 : Array Slot} {nL : Nat} {L : List (Option Value)} (h : q_lv ls nL L) {i : Nat} {v : Value} (hc : v.category = 1) (hi : i < L.length) (h2 : lv_has ls2 nL ((i, v) :: (q_al L).filter (fun q => !(q.1 == i) && !(q.1 + 1 == i && q.2.category == 2)))) : q_lv ls2 nL (L.set i (some v)) := by
  refine ⟨by rw [List.length_set]; exact h.1, fun j w hj => ?_, h2.1, h2.2.1, fun q hq => ?_⟩
  · by_cases e : i = j
    · subst e
      rw [List.getElem?_set_self hi] at hj
      cases hj
      exact hc
    · rw [List.getElem?_set_ne e] at hj
      exact h.2.1 j w hj
  · obtain ⟨j, w⟩ := q
    have hj := q_al_mem.mp hq
    by_cases e : i = j
    · subst e
      rw [List.getElem?_set_self hi] at hj
      cases hj
      exact h2.2.2 _ List.mem_cons_self
    · rw [List.getElem?_set_ne e] at hj
      refine h2.2.2 _ (List.mem_cons_of_mem _ (List.mem_filter.mpr ⟨q_al_mem.mpr hj, ?_⟩))
      have := h.2.1 j w hj
      simp [this, Ne.symm e]
-- the judgement
section QV
variable {p : Program} {l : Launch} {e : Env} {R : Room} {s : State} {m : MethodId} {args : Array Value} {below : List Frame} {meth : Method} {c : Code} {D : va_G} {A : Nat → Prop} {nL : Nat} {Q : State → Prop} {cc : ByteArray} {own mn : String} {ret : Option FieldType}
def q_V (p : Program) (l : Launch) (e : Env) (R : Room) (s : State) (m : MethodId) (args : Array Value) (below : List Frame) (meth : Method) (c : Code) (D : va_G) (A : Nat → Prop) (nL : Nat) (Q : State → Prop) (pc : Nat) (k : q_K) : Prop :=
  ∀ (L : List (Option Value)) (st : List Value) (σ : q_S) (cr sr : Nat) (H : Heap) (locs : List Loc) (cells slots : Nat) (ls : Array Slot), q_lv ls nL L → q_W D A σ s H → va_S A s.heap H locs → cells + cr ≤ R.cells → slots + sr ≤ R.slots → k L st σ cr sr → W p l e R s m args below meth c H locs cells slots Q (F0 m pc ls st)
def q_C (p : Program) (s : State) (m : MethodId) (args : Array Value) (meth : Method) (c : Code) (cc : ByteArray) (nL : Nat) (own mn : String) (ret : Option FieldType) (A : Nat → Prop) : Prop :=
  p.tables.exec = Jvm.exec ∧ c.code = cc ∧ c.maxLocals = nL ∧ s.vm.findClass own = some m.cls ∧ (∀ w ∈ lw_good, w.before args s = true) ∧ q_N s ∧ (∀ q, s.heap.size ≤ q → A q) ∧ meth.sig.returnType = ret ∧ meth.locks = false ∧ meth.name = mn
def c_push (v : Int32) (k : q_K) : q_K := fun L st σ cr sr => k L (.int v :: st) σ cr sr
theorem q_iconst (C : q_C p s m args meth c cc nL own mn ret A) {pc : Nat} {k : q_K} {n : Int} {v : Int32} (d : decode cc pc = .ok (.iconst n, 1)) (hv : Int32.ofInt n = v) (h : q_V p l e R s m args below meth c D A nL Q (pc + 1) k) : q_V p l e R s m args below meth c D A nL Q pc (c_push v k) := by
  obtain ⟨hx, hb, hml, hown, hts, hN, hA, hr, hlk, hmn⟩ := C
  intro L st σ cr sr H locs cells slots ls hl hw hS h1 h2 hk
  exact lv_iconst hx hb d hv (h _ _ _ _ _ _ _ _ _ _ hl hw hS h1 h2 hk)
theorem q_bipush (C : q_C p s m args meth c cc nL own mn ret A) {pc : Nat} {k : q_K} {n : Int} {v : Int32} (d : decode cc pc = .ok (.bipush n, 2)) (hv : (Int8.ofInt n).toInt32 = v) (h : q_V p l e R s m args below meth c D A nL Q (pc + 2) k) : q_V p l e R s m args below meth c D A nL Q pc (c_push v k) := by
  obtain ⟨hx, hb, hml, hown, hts, hN, hA, hr, hlk, hmn⟩ := C
  intro L st σ cr sr H locs cells slots ls hl hw hS h1 h2 hk
  exact lv_bipush hx hb d hv (h _ _ _ _ _ _ _ _ _ _ hl hw hS h1 h2 hk)
theorem q_sipush (C : q_C p s m args meth c cc nL own mn ret A) {pc : Nat} {k : q_K} {n : Int} {v : Int32} (d : decode cc pc = .ok (.sipush n, 3)) (hv : (Int16.ofInt n).toInt32 = v) (h : q_V p l e R s m args below meth c D A nL Q (pc + 3) k) : q_V p l e R s m args below meth c D A nL Q pc (c_push v k) := by
  obtain ⟨hx, hb, hml, hown, hts, hN, hA, hr, hlk, hmn⟩ := C
  intro L st σ cr sr H locs cells slots ls hl hw hS h1 h2 hk
  exact lv_sipush hx hb d hv (h _ _ _ _ _ _ _ _ _ _ hl hw hS h1 h2 hk)
theorem q_ldc (C : q_C p s m args meth c cc nL own mn ret A) {pc : Nat} {k : q_K} {n : Nat} {v : Int32} (d : decode cc pc = .ok (.ldc n, 2)) (hv : Cond.constant own n v ∈ lw_tbl) (h : q_V p l e R s m args below meth c D A nL Q (pc + 2) k) : q_V p l e R s m args below meth c D A nL Q pc (c_push v k) := by
  obtain ⟨hx, hb, hml, hown, hts, hN, hA, hr, hlk, hmn⟩ := C
  intro L st σ cr sr H locs cells slots ls hl hw hS h1 h2 hk
  exact lv_ldc hx hb hown (hts _ (lw_mem hv rfl)) d (h _ _ _ _ _ _ _ _ _ _ hl hw hS h1 h2 hk)
def c_null (k : q_K) : q_K := fun L st σ cr sr => k L (.null :: st) σ cr sr
theorem q_null (C : q_C p s m args meth c cc nL own mn ret A) {pc : Nat} {k : q_K} (d : decode cc pc = .ok (.aconst_null, 1)) (h : q_V p l e R s m args below meth c D A nL Q (pc + 1) k) : q_V p l e R s m args below meth c D A nL Q pc (c_null k) := by
  obtain ⟨hx, hb, hml, hown, hts, hN, hA, hr, hlk, hmn⟩ := C
  intro L st σ cr sr H locs cells slots ls hl hw hS h1 h2 hk
  exact lv_null hx hb d (h _ _ _ _ _ _ _ _ _ _ hl hw hS h1 h2 hk)
def c_iload (i : Nat) (k : q_K) : q_K := fun L st σ cr sr => match L[i]? with | some (some (.int x)) => k L (.int x :: st) σ cr sr | _ => False
def c_aload (i : Nat) (k : q_K) : q_K := fun L st σ cr sr => match L[i]? with | some (some (.ref x)) => k L (.ref x :: st) σ cr sr | some (some .null) => k L (.null :: st) σ cr sr | _ => False
theorem q_iload (C : q_C p s m args meth c cc nL own mn ret A) {pc : Nat} {k : q_K} {i : Nat} (d : decode cc pc = .ok (.iload i, 2)) (h : q_V p l e R s m args below meth c D A nL Q (pc + 2) k) : q_V p l e R s m args below meth c D A nL Q pc (c_iload i k) := by
  obtain ⟨hx, hb, hml, hown, hts, hN, hA, hr, hlk, hmn⟩ := C
  intro L st σ cr sr H locs cells slots ls hl hw hS h1 h2 hk
  unfold c_iload at hk
  split at hk
  · next x he => exact lv_iload hx hb d (hl.at he) (h _ _ _ _ _ _ _ _ _ _ hl hw hS h1 h2 hk)
  · exact hk.elim
theorem q_iload_n (C : q_C p s m args meth c cc nL own mn ret A) {pc : Nat} {k : q_K} {i : Fin 4} (d : decode cc pc = .ok (.iload_n i, 1)) (h : q_V p l e R s m args below meth c D A nL Q (pc + 1) k) : q_V p l e R s m args below meth c D A nL Q pc (c_iload i.val k) := by
  obtain ⟨hx, hb, hml, hown, hts, hN, hA, hr, hlk, hmn⟩ := C
  intro L st σ cr sr H locs cells slots ls hl hw hS h1 h2 hk
  unfold c_iload at hk
  split at hk
  · next x he => exact lv_iload_n hx hb d rfl (hl.at he) (h _ _ _ _ _ _ _ _ _ _ hl hw hS h1 h2 hk)
  · exact hk.elim
theorem q_aload (C : q_C p s m args meth c cc nL own mn ret A) {pc : Nat} {k : q_K} {i : Nat} (d : decode cc pc = .ok (.aload i, 2)) (h : q_V p l e R s m args below meth c D A nL Q (pc + 2) k) : q_V p l e R s m args below meth c D A nL Q pc (c_aload i k) := by
  obtain ⟨hx, hb, hml, hown, hts, hN, hA, hr, hlk, hmn⟩ := C
  intro L st σ cr sr H locs cells slots ls hl hw hS h1 h2 hk
  unfold c_aload at hk
  split at hk
  · next x he => exact lv_aload hx hb d (hl.at he) (h _ _ _ _ _ _ _ _ _ _ hl hw hS h1 h2 hk)
  · next he => exact lv_aloadN hx hb d (hl.at he) (h _ _ _ _ _ _ _ _ _ _ hl hw hS h1 h2 hk)
  · exact hk.elim
theorem q_aload_n (C : q_C p s m args meth c cc nL own mn ret A) {pc : Nat} {k : q_K} {i : Fin 4} (d : decode cc pc = .ok (.aload_n i, 1)) (h : q_V p l e R s m args below meth c D A nL Q (pc + 1) k) : q_V p l e R s m args below meth c D A nL Q pc (c_aload i.val k) := by
  obtain ⟨hx, hb, hml, hown, hts, hN, hA, hr, hlk, hmn⟩ := C
  intro L st σ cr sr H locs cells slots ls hl hw hS h1 h2 hk
  unfold c_aload at hk
  split at hk
  · next x he => exact lv_aload_n hx hb d rfl (hl.at he) (h _ _ _ _ _ _ _ _ _ _ hl hw hS h1 h2 hk)
  · next he => exact lv_aload_nN hx hb d rfl (hl.at he) (h _ _ _ _ _ _ _ _ _ _ hl hw hS h1 h2 hk)
  · exact hk.elim
def c_istore (i : Nat) (k : q_K) : q_K := fun L st σ cr sr => match st with | .int x :: r => i < L.length ∧ k (L.set i (some (.int x))) r σ cr sr | _ => False
def c_astore (i : Nat) (k : q_K) : q_K := fun L st σ cr sr => match st with | .ref x :: r => i < L.length ∧ k (L.set i (some (.ref x))) r σ cr sr | .null :: r => i < L.length ∧ k (L.set i (some .null)) r σ cr sr | _ => False
theorem q_istore (C : q_C p s m args meth c cc nL own mn ret A) {pc : Nat} {k : q_K} {i : Nat} (d : decode cc pc = .ok (.istore i, 2)) (h : q_V p l e R s m args below meth c D A nL Q (pc + 2) k) : q_V p l e R s m args below meth c D A nL Q pc (c_istore i k) := by
  obtain ⟨hx, hb, hml, hown, hts, hN, hA, hr, hlk, hmn⟩ := C
  intro L st σ cr sr H locs cells slots ls hl hw hS h1 h2 hk
  unfold c_istore at hk
  split at hk
  · next x r => exact lv_istore hx hb d hl.2.2 (by rw [← hl.1]; exact hk.1) rfl (fun ls' hl' => h _ _ _ _ _ _ _ _ _ _ (hl.set rfl hk.1 hl') hw hS h1 h2 hk.2)
  · exact hk.elim
theorem q_istore_n (C : q_C p s m args meth c cc nL own mn ret A) {pc : Nat} {k : q_K} {i : Fin 4} (d : decode cc pc = .ok (.istore_n i, 1)) (h : q_V p l e R s m args below meth c D A nL Q (pc + 1) k) : q_V p l e R s m args below meth c D A nL Q pc (c_istore i.val k) := by
  obtain ⟨hx, hb, hml, hown, hts, hN, hA, hr, hlk, hmn⟩ := C
  intro L st σ cr sr H locs cells slots ls hl hw hS h1 h2 hk
  unfold c_istore at hk
  split at hk
  · next x r => exact lv_istore_n hx hb d rfl hl.2.2 (by rw [← hl.1]; exact hk.1) rfl (fun ls' hl' => h _ _ _ _ _ _ _ _ _ _ (hl.set rfl hk.1 hl') hw hS h1 h2 hk.2)
  · exact hk.elim
theorem q_astore (C : q_C p s m args meth c cc nL own mn ret A) {pc : Nat} {k : q_K} {i : Nat} (d : decode cc pc = .ok (.astore i, 2)) (h : q_V p l e R s m args below meth c D A nL Q (pc + 2) k) : q_V p l e R s m args below meth c D A nL Q pc (c_astore i k) := by
  obtain ⟨hx, hb, hml, hown, hts, hN, hA, hr, hlk, hmn⟩ := C
  intro L st σ cr sr H locs cells slots ls hl hw hS h1 h2 hk
  unfold c_astore at hk
  split at hk
  · next x r => exact lv_astore hx hb d hl.2.2 (by rw [← hl.1]; exact hk.1) rfl (fun ls' hl' => h _ _ _ _ _ _ _ _ _ _ (hl.set rfl hk.1 hl') hw hS h1 h2 hk.2)
  · next r => exact lv_astoreN hx hb d hl.2.2 (by rw [← hl.1]; exact hk.1) rfl (fun ls' hl' => h _ _ _ _ _ _ _ _ _ _ (hl.set rfl hk.1 hl') hw hS h1 h2 hk.2)
  · exact hk.elim
theorem q_astore_n (C : q_C p s m args meth c cc nL own mn ret A) {pc : Nat} {k : q_K} {i : Fin 4} (d : decode cc pc = .ok (.astore_n i, 1)) (h : q_V p l e R s m args below meth c D A nL Q (pc + 1) k) : q_V p l e R s m args below meth c D A nL Q pc (c_astore i.val k) := by
  obtain ⟨hx, hb, hml, hown, hts, hN, hA, hr, hlk, hmn⟩ := C
  intro L st σ cr sr H locs cells slots ls hl hw hS h1 h2 hk
  unfold c_astore at hk
  split at hk
  · next x r => exact lv_astore_n hx hb d rfl hl.2.2 (by rw [← hl.1]; exact hk.1) rfl (fun ls' hl' => h _ _ _ _ _ _ _ _ _ _ (hl.set rfl hk.1 hl') hw hS h1 h2 hk.2)
  · next r => exact lv_astore_nN hx hb d rfl hl.2.2 (by rw [← hl.1]; exact hk.1) rfl (fun ls' hl' => h _ _ _ _ _ _ _ _ _ _ (hl.set rfl hk.1 hl') hw hS h1 h2 hk.2)
  · exact hk.elim
def c_iinc (i : Nat) (n : Int32) (k : q_K) : q_K := fun L st σ cr sr => match L[i]? with | some (some (.int x)) => k (L.set i (some (.int (x + n)))) st σ cr sr | _ => False
theorem q_iinc (C : q_C p s m args meth c cc nL own mn ret A) {pc : Nat} {k : q_K} {i : Nat} {n : Int} {v : Int32} (d : decode cc pc = .ok (.iinc i n, 3)) (hv : Int32.ofInt n = v) (h : q_V p l e R s m args below meth c D A nL Q (pc + 3) k) : q_V p l e R s m args below meth c D A nL Q pc (c_iinc i v k) := by
  obtain ⟨hx, hb, hml, hown, hts, hN, hA, hr, hlk, hmn⟩ := C
  intro L st σ cr sr H locs cells slots ls hl hw hS h1 h2 hk
  subst hv
  unfold c_iinc at hk
  split at hk
  · next x he =>
      obtain ⟨j, hj⟩ := List.getElem?_of_mem (q_al_mem.mpr he)
      have hi := (List.getElem?_eq_some_iff.mp he).1
      exact lv_iinc hx hb d hl.2.2 hj rfl (by rw [← hl.1]; exact hi) rfl (fun ls' hl' => h _ _ _ _ _ _ _ _ _ _ (hl.set rfl hi hl') hw hS h1 h2 hk)
  · exact hk.elim
def c_iadd (k : q_K) : q_K := fun L st σ cr sr => match st with | .int y :: .int x :: r => k L (.int (x + y) :: r) σ cr sr | _ => False
theorem q_iadd (C : q_C p s m args meth c cc nL own mn ret A) {pc : Nat} {k : q_K} (d : decode cc pc = .ok (.iadd, 1)) (h : q_V p l e R s m args below meth c D A nL Q (pc + 1) k) : q_V p l e R s m args below meth c D A nL Q pc (c_iadd k) := by
  obtain ⟨hx, hb, hml, hown, hts, hN, hA, hr, hlk, hmn⟩ := C
  intro L st σ cr sr H locs cells slots ls hl hw hS h1 h2 hk
  unfold c_iadd at hk
  split at hk
  · exact lv_iadd hx hb d (h _ _ _ _ _ _ _ _ _ _ hl hw hS h1 h2 hk)
  · exact hk.elim
def c_isub (k : q_K) : q_K := fun L st σ cr sr => match st with | .int y :: .int x :: r => k L (.int (x - y) :: r) σ cr sr | _ => False
theorem q_isub (C : q_C p s m args meth c cc nL own mn ret A) {pc : Nat} {k : q_K} (d : decode cc pc = .ok (.isub, 1)) (h : q_V p l e R s m args below meth c D A nL Q (pc + 1) k) : q_V p l e R s m args below meth c D A nL Q pc (c_isub k) := by
  obtain ⟨hx, hb, hml, hown, hts, hN, hA, hr, hlk, hmn⟩ := C
  intro L st σ cr sr H locs cells slots ls hl hw hS h1 h2 hk
  unfold c_isub at hk
  split at hk
  · exact lv_isub hx hb d (h _ _ _ _ _ _ _ _ _ _ hl hw hS h1 h2 hk)
  · exact hk.elim
def c_imul (k : q_K) : q_K := fun L st σ cr sr => match st with | .int y :: .int x :: r => k L (.int (x * y) :: r) σ cr sr | _ => False
theorem q_imul (C : q_C p s m args meth c cc nL own mn ret A) {pc : Nat} {k : q_K} (d : decode cc pc = .ok (.imul, 1)) (h : q_V p l e R s m args below meth c D A nL Q (pc + 1) k) : q_V p l e R s m args below meth c D A nL Q pc (c_imul k) := by
  obtain ⟨hx, hb, hml, hown, hts, hN, hA, hr, hlk, hmn⟩ := C
  intro L st σ cr sr H locs cells slots ls hl hw hS h1 h2 hk
  unfold c_imul at hk
  split at hk
  · exact lv_imul hx hb d (h _ _ _ _ _ _ _ _ _ _ hl hw hS h1 h2 hk)
  · exact hk.elim
def c_iand (k : q_K) : q_K := fun L st σ cr sr => match st with | .int y :: .int x :: r => k L (.int (x &&& y) :: r) σ cr sr | _ => False
theorem q_iand (C : q_C p s m args meth c cc nL own mn ret A) {pc : Nat} {k : q_K} (d : decode cc pc = .ok (.iand, 1)) (h : q_V p l e R s m args below meth c D A nL Q (pc + 1) k) : q_V p l e R s m args below meth c D A nL Q pc (c_iand k) := by
  obtain ⟨hx, hb, hml, hown, hts, hN, hA, hr, hlk, hmn⟩ := C
  intro L st σ cr sr H locs cells slots ls hl hw hS h1 h2 hk
  unfold c_iand at hk
  split at hk
  · exact lv_iand hx hb d (h _ _ _ _ _ _ _ _ _ _ hl hw hS h1 h2 hk)
  · exact hk.elim
def c_ineg (k : q_K) : q_K := fun L st σ cr sr => match st with | .int x :: r => k L (.int (-x) :: r) σ cr sr | _ => False
theorem q_ineg (C : q_C p s m args meth c cc nL own mn ret A) {pc : Nat} {k : q_K} (d : decode cc pc = .ok (.ineg, 1)) (h : q_V p l e R s m args below meth c D A nL Q (pc + 1) k) : q_V p l e R s m args below meth c D A nL Q pc (c_ineg k) := by
  obtain ⟨hx, hb, hml, hown, hts, hN, hA, hr, hlk, hmn⟩ := C
  intro L st σ cr sr H locs cells slots ls hl hw hS h1 h2 hk
  unfold c_ineg at hk
  split at hk
  · exact lv_ineg hx hb d (h _ _ _ _ _ _ _ _ _ _ hl hw hS h1 h2 hk)
  · exact hk.elim
def c_dup (k : q_K) : q_K := fun L st σ cr sr => match st with | a :: r => a.category = 1 ∧ k L (a :: a :: r) σ cr sr | _ => False
theorem q_dup (C : q_C p s m args meth c cc nL own mn ret A) {pc : Nat} {k : q_K} (d : decode cc pc = .ok (.dup, 1)) (h : q_V p l e R s m args below meth c D A nL Q (pc + 1) k) : q_V p l e R s m args below meth c D A nL Q pc (c_dup k) := by
  obtain ⟨hx, hb, hml, hown, hts, hN, hA, hr, hlk, hmn⟩ := C
  intro L st σ cr sr H locs cells slots ls hl hw hS h1 h2 hk
  unfold c_dup at hk
  split at hk
  · exact lv_dup hx hb d hk.1 (h _ _ _ _ _ _ _ _ _ _ hl hw hS h1 h2 hk.2)
  · exact hk.elim
def c_dup2 (k : q_K) : q_K := fun L st σ cr sr => match st with | a :: b :: r => (a.category = 1 ∧ b.category = 1) ∧ k L (a :: b :: a :: b :: r) σ cr sr | _ => False
theorem q_dup2 (C : q_C p s m args meth c cc nL own mn ret A) {pc : Nat} {k : q_K} (d : decode cc pc = .ok (.dup2, 1)) (h : q_V p l e R s m args below meth c D A nL Q (pc + 1) k) : q_V p l e R s m args below meth c D A nL Q pc (c_dup2 k) := by
  obtain ⟨hx, hb, hml, hown, hts, hN, hA, hr, hlk, hmn⟩ := C
  intro L st σ cr sr H locs cells slots ls hl hw hS h1 h2 hk
  unfold c_dup2 at hk
  split at hk
  · exact lv_dup2_11 hx hb d hk.1.1 hk.1.2 (h _ _ _ _ _ _ _ _ _ _ hl hw hS h1 h2 hk.2)
  · exact hk.elim
def c_pop (k : q_K) : q_K := fun L st σ cr sr => match st with | a :: r => a.category = 1 ∧ k L r σ cr sr | _ => False
theorem q_pop (C : q_C p s m args meth c cc nL own mn ret A) {pc : Nat} {k : q_K} (d : decode cc pc = .ok (.pop, 1)) (h : q_V p l e R s m args below meth c D A nL Q (pc + 1) k) : q_V p l e R s m args below meth c D A nL Q pc (c_pop k) := by
  obtain ⟨hx, hb, hml, hown, hts, hN, hA, hr, hlk, hmn⟩ := C
  intro L st σ cr sr H locs cells slots ls hl hw hS h1 h2 hk
  unfold c_pop at hk
  split at hk
  · exact lv_pop hx hb d hk.1 (h _ _ _ _ _ _ _ _ _ _ hl hw hS h1 h2 hk.2)
  · exact hk.elim
def c_ifeq (kt k : q_K) : q_K := fun L st σ cr sr => match st with | .int x :: r => (x = 0 → kt L r σ cr sr) ∧ (¬ x = 0 → k L r σ cr sr) | _ => False
theorem q_ifeq (C : q_C p s m args meth c cc nL own mn ret A) {pc tgt : Nat} {kt k : q_K} {off : Int} (d : decode cc pc = .ok (.ifCond .eq off, 3)) (ht : (pc : Int) + off = (tgt : Int)) (hT : q_V p l e R s m args below meth c D A nL Q tgt kt) (h : q_V p l e R s m args below meth c D A nL Q (pc + 3) k) : q_V p l e R s m args below meth c D A nL Q pc (c_ifeq kt k) := by
  obtain ⟨hx, hb, hml, hown, hts, hN, hA, hr, hlk, hmn⟩ := C
  intro L st σ cr sr H locs cells slots ls hl hw hS h1 h2 hk
  unfold c_ifeq at hk
  split at hk
  · exact lv_if_eq hx hb d ht (fun z => hT _ _ _ _ _ _ _ _ _ _ hl hw hS h1 h2 (hk.1 z)) (fun z => h _ _ _ _ _ _ _ _ _ _ hl hw hS h1 h2 (hk.2 z))
  · exact hk.elim
def c_ifne (kt k : q_K) : q_K := fun L st σ cr sr => match st with | .int x :: r => (¬ x = 0 → kt L r σ cr sr) ∧ (x = 0 → k L r σ cr sr) | _ => False
theorem q_ifne (C : q_C p s m args meth c cc nL own mn ret A) {pc tgt : Nat} {kt k : q_K} {off : Int} (d : decode cc pc = .ok (.ifCond .ne off, 3)) (ht : (pc : Int) + off = (tgt : Int)) (hT : q_V p l e R s m args below meth c D A nL Q tgt kt) (h : q_V p l e R s m args below meth c D A nL Q (pc + 3) k) : q_V p l e R s m args below meth c D A nL Q pc (c_ifne kt k) := by
  obtain ⟨hx, hb, hml, hown, hts, hN, hA, hr, hlk, hmn⟩ := C
  intro L st σ cr sr H locs cells slots ls hl hw hS h1 h2 hk
  unfold c_ifne at hk
  split at hk
  · exact lv_if_ne hx hb d ht (fun z => hT _ _ _ _ _ _ _ _ _ _ hl hw hS h1 h2 (hk.1 z)) (fun z => h _ _ _ _ _ _ _ _ _ _ hl hw hS h1 h2 (hk.2 z))
  · exact hk.elim
def c_iflt (kt k : q_K) : q_K := fun L st σ cr sr => match st with | .int x :: r => (x < 0 → kt L r σ cr sr) ∧ (¬ x < 0 → k L r σ cr sr) | _ => False
theorem q_iflt (C : q_C p s m args meth c cc nL own mn ret A) {pc tgt : Nat} {kt k : q_K} {off : Int} (d : decode cc pc = .ok (.ifCond .lt off, 3)) (ht : (pc : Int) + off = (tgt : Int)) (hT : q_V p l e R s m args below meth c D A nL Q tgt kt) (h : q_V p l e R s m args below meth c D A nL Q (pc + 3) k) : q_V p l e R s m args below meth c D A nL Q pc (c_iflt kt k) := by
  obtain ⟨hx, hb, hml, hown, hts, hN, hA, hr, hlk, hmn⟩ := C
  intro L st σ cr sr H locs cells slots ls hl hw hS h1 h2 hk
  unfold c_iflt at hk
  split at hk
  · exact lv_if_lt hx hb d ht (fun z => hT _ _ _ _ _ _ _ _ _ _ hl hw hS h1 h2 (hk.1 z)) (fun z => h _ _ _ _ _ _ _ _ _ _ hl hw hS h1 h2 (hk.2 z))
  · exact hk.elim
def c_ifge (kt k : q_K) : q_K := fun L st σ cr sr => match st with | .int x :: r => (0 ≤ x → kt L r σ cr sr) ∧ (¬ 0 ≤ x → k L r σ cr sr) | _ => False
theorem q_ifge (C : q_C p s m args meth c cc nL own mn ret A) {pc tgt : Nat} {kt k : q_K} {off : Int} (d : decode cc pc = .ok (.ifCond .ge off, 3)) (ht : (pc : Int) + off = (tgt : Int)) (hT : q_V p l e R s m args below meth c D A nL Q tgt kt) (h : q_V p l e R s m args below meth c D A nL Q (pc + 3) k) : q_V p l e R s m args below meth c D A nL Q pc (c_ifge kt k) := by
  obtain ⟨hx, hb, hml, hown, hts, hN, hA, hr, hlk, hmn⟩ := C
  intro L st σ cr sr H locs cells slots ls hl hw hS h1 h2 hk
  unfold c_ifge at hk
  split at hk
  · exact lv_if_ge hx hb d ht (fun z => hT _ _ _ _ _ _ _ _ _ _ hl hw hS h1 h2 (hk.1 z)) (fun z => h _ _ _ _ _ _ _ _ _ _ hl hw hS h1 h2 (hk.2 z))
  · exact hk.elim
def c_ifgt (kt k : q_K) : q_K := fun L st σ cr sr => match st with | .int x :: r => (0 < x → kt L r σ cr sr) ∧ (¬ 0 < x → k L r σ cr sr) | _ => False
theorem q_ifgt (C : q_C p s m args meth c cc nL own mn ret A) {pc tgt : Nat} {kt k : q_K} {off : Int} (d : decode cc pc = .ok (.ifCond .gt off, 3)) (ht : (pc : Int) + off = (tgt : Int)) (hT : q_V p l e R s m args below meth c D A nL Q tgt kt) (h : q_V p l e R s m args below meth c D A nL Q (pc + 3) k) : q_V p l e R s m args below meth c D A nL Q pc (c_ifgt kt k) := by
  obtain ⟨hx, hb, hml, hown, hts, hN, hA, hr, hlk, hmn⟩ := C
  intro L st σ cr sr H locs cells slots ls hl hw hS h1 h2 hk
  unfold c_ifgt at hk
  split at hk
  · exact lv_if_gt hx hb d ht (fun z => hT _ _ _ _ _ _ _ _ _ _ hl hw hS h1 h2 (hk.1 z)) (fun z => h _ _ _ _ _ _ _ _ _ _ hl hw hS h1 h2 (hk.2 z))
  · exact hk.elim
def c_ifle (kt k : q_K) : q_K := fun L st σ cr sr => match st with | .int x :: r => (x ≤ 0 → kt L r σ cr sr) ∧ (¬ x ≤ 0 → k L r σ cr sr) | _ => False
theorem q_ifle (C : q_C p s m args meth c cc nL own mn ret A) {pc tgt : Nat} {kt k : q_K} {off : Int} (d : decode cc pc = .ok (.ifCond .le off, 3)) (ht : (pc : Int) + off = (tgt : Int)) (hT : q_V p l e R s m args below meth c D A nL Q tgt kt) (h : q_V p l e R s m args below meth c D A nL Q (pc + 3) k) : q_V p l e R s m args below meth c D A nL Q pc (c_ifle kt k) := by
  obtain ⟨hx, hb, hml, hown, hts, hN, hA, hr, hlk, hmn⟩ := C
  intro L st σ cr sr H locs cells slots ls hl hw hS h1 h2 hk
  unfold c_ifle at hk
  split at hk
  · exact lv_if_le hx hb d ht (fun z => hT _ _ _ _ _ _ _ _ _ _ hl hw hS h1 h2 (hk.1 z)) (fun z => h _ _ _ _ _ _ _ _ _ _ hl hw hS h1 h2 (hk.2 z))
  · exact hk.elim
def c_iceq (kt k : q_K) : q_K := fun L st σ cr sr => match st with | .int y :: .int x :: r => (x = y → kt L r σ cr sr) ∧ (¬ x = y → k L r σ cr sr) | _ => False
theorem q_iceq (C : q_C p s m args meth c cc nL own mn ret A) {pc tgt : Nat} {kt k : q_K} {off : Int} (d : decode cc pc = .ok (.if_icmp .eq off, 3)) (ht : (pc : Int) + off = (tgt : Int)) (hT : q_V p l e R s m args below meth c D A nL Q tgt kt) (h : q_V p l e R s m args below meth c D A nL Q (pc + 3) k) : q_V p l e R s m args below meth c D A nL Q pc (c_iceq kt k) := by
  obtain ⟨hx, hb, hml, hown, hts, hN, hA, hr, hlk, hmn⟩ := C
  intro L st σ cr sr H locs cells slots ls hl hw hS h1 h2 hk
  unfold c_iceq at hk
  split at hk
  · exact lv_icmp_eq hx hb d ht (fun z => hT _ _ _ _ _ _ _ _ _ _ hl hw hS h1 h2 (hk.1 z)) (fun z => h _ _ _ _ _ _ _ _ _ _ hl hw hS h1 h2 (hk.2 z))
  · exact hk.elim
def c_icne (kt k : q_K) : q_K := fun L st σ cr sr => match st with | .int y :: .int x :: r => (¬ x = y → kt L r σ cr sr) ∧ (x = y → k L r σ cr sr) | _ => False
theorem q_icne (C : q_C p s m args meth c cc nL own mn ret A) {pc tgt : Nat} {kt k : q_K} {off : Int} (d : decode cc pc = .ok (.if_icmp .ne off, 3)) (ht : (pc : Int) + off = (tgt : Int)) (hT : q_V p l e R s m args below meth c D A nL Q tgt kt) (h : q_V p l e R s m args below meth c D A nL Q (pc + 3) k) : q_V p l e R s m args below meth c D A nL Q pc (c_icne kt k) := by
  obtain ⟨hx, hb, hml, hown, hts, hN, hA, hr, hlk, hmn⟩ := C
  intro L st σ cr sr H locs cells slots ls hl hw hS h1 h2 hk
  unfold c_icne at hk
  split at hk
  · exact lv_icmp_ne hx hb d ht (fun z => hT _ _ _ _ _ _ _ _ _ _ hl hw hS h1 h2 (hk.1 z)) (fun z => h _ _ _ _ _ _ _ _ _ _ hl hw hS h1 h2 (hk.2 z))
  · exact hk.elim
def c_iclt (kt k : q_K) : q_K := fun L st σ cr sr => match st with | .int y :: .int x :: r => (x < y → kt L r σ cr sr) ∧ (¬ x < y → k L r σ cr sr) | _ => False
theorem q_iclt (C : q_C p s m args meth c cc nL own mn ret A) {pc tgt : Nat} {kt k : q_K} {off : Int} (d : decode cc pc = .ok (.if_icmp .lt off, 3)) (ht : (pc : Int) + off = (tgt : Int)) (hT : q_V p l e R s m args below meth c D A nL Q tgt kt) (h : q_V p l e R s m args below meth c D A nL Q (pc + 3) k) : q_V p l e R s m args below meth c D A nL Q pc (c_iclt kt k) := by
  obtain ⟨hx, hb, hml, hown, hts, hN, hA, hr, hlk, hmn⟩ := C
  intro L st σ cr sr H locs cells slots ls hl hw hS h1 h2 hk
  unfold c_iclt at hk
  split at hk
  · exact lv_icmp_lt hx hb d ht (fun z => hT _ _ _ _ _ _ _ _ _ _ hl hw hS h1 h2 (hk.1 z)) (fun z => h _ _ _ _ _ _ _ _ _ _ hl hw hS h1 h2 (hk.2 z))
  · exact hk.elim
def c_icge (kt k : q_K) : q_K := fun L st σ cr sr => match st with | .int y :: .int x :: r => (y ≤ x → kt L r σ cr sr) ∧ (¬ y ≤ x → k L r σ cr sr) | _ => False
theorem q_icge (C : q_C p s m args meth c cc nL own mn ret A) {pc tgt : Nat} {kt k : q_K} {off : Int} (d : decode cc pc = .ok (.if_icmp .ge off, 3)) (ht : (pc : Int) + off = (tgt : Int)) (hT : q_V p l e R s m args below meth c D A nL Q tgt kt) (h : q_V p l e R s m args below meth c D A nL Q (pc + 3) k) : q_V p l e R s m args below meth c D A nL Q pc (c_icge kt k) := by
  obtain ⟨hx, hb, hml, hown, hts, hN, hA, hr, hlk, hmn⟩ := C
  intro L st σ cr sr H locs cells slots ls hl hw hS h1 h2 hk
  unfold c_icge at hk
  split at hk
  · exact lv_icmp_ge hx hb d ht (fun z => hT _ _ _ _ _ _ _ _ _ _ hl hw hS h1 h2 (hk.1 z)) (fun z => h _ _ _ _ _ _ _ _ _ _ hl hw hS h1 h2 (hk.2 z))
  · exact hk.elim
def c_icgt (kt k : q_K) : q_K := fun L st σ cr sr => match st with | .int y :: .int x :: r => (y < x → kt L r σ cr sr) ∧ (¬ y < x → k L r σ cr sr) | _ => False
theorem q_icgt (C : q_C p s m args meth c cc nL own mn ret A) {pc tgt : Nat} {kt k : q_K} {off : Int} (d : decode cc pc = .ok (.if_icmp .gt off, 3)) (ht : (pc : Int) + off = (tgt : Int)) (hT : q_V p l e R s m args below meth c D A nL Q tgt kt) (h : q_V p l e R s m args below meth c D A nL Q (pc + 3) k) : q_V p l e R s m args below meth c D A nL Q pc (c_icgt kt k) := by
  obtain ⟨hx, hb, hml, hown, hts, hN, hA, hr, hlk, hmn⟩ := C
  intro L st σ cr sr H locs cells slots ls hl hw hS h1 h2 hk
  unfold c_icgt at hk
  split at hk
  · exact lv_icmp_gt hx hb d ht (fun z => hT _ _ _ _ _ _ _ _ _ _ hl hw hS h1 h2 (hk.1 z)) (fun z => h _ _ _ _ _ _ _ _ _ _ hl hw hS h1 h2 (hk.2 z))
  · exact hk.elim
def c_icle (kt k : q_K) : q_K := fun L st σ cr sr => match st with | .int y :: .int x :: r => (x ≤ y → kt L r σ cr sr) ∧ (¬ x ≤ y → k L r σ cr sr) | _ => False
theorem q_icle (C : q_C p s m args meth c cc nL own mn ret A) {pc tgt : Nat} {kt k : q_K} {off : Int} (d : decode cc pc = .ok (.if_icmp .le off, 3)) (ht : (pc : Int) + off = (tgt : Int)) (hT : q_V p l e R s m args below meth c D A nL Q tgt kt) (h : q_V p l e R s m args below meth c D A nL Q (pc + 3) k) : q_V p l e R s m args below meth c D A nL Q pc (c_icle kt k) := by
  obtain ⟨hx, hb, hml, hown, hts, hN, hA, hr, hlk, hmn⟩ := C
  intro L st σ cr sr H locs cells slots ls hl hw hS h1 h2 hk
  unfold c_icle at hk
  split at hk
  · exact lv_icmp_le hx hb d ht (fun z => hT _ _ _ _ _ _ _ _ _ _ hl hw hS h1 h2 (hk.1 z)) (fun z => h _ _ _ _ _ _ _ _ _ _ hl hw hS h1 h2 (hk.2 z))
  · exact hk.elim
def c_ifnull (kt k : q_K) : q_K := fun L st σ cr sr => match st with | .null :: r => kt L r σ cr sr | .ref _ :: r => k L r σ cr sr | _ => False
theorem q_ifnull (C : q_C p s m args meth c cc nL own mn ret A) {pc tgt : Nat} {kt k : q_K} {off : Int} (d : decode cc pc = .ok (.ifnull off, 3)) (ht : (pc : Int) + off = (tgt : Int)) (hT : q_V p l e R s m args below meth c D A nL Q tgt kt) (h : q_V p l e R s m args below meth c D A nL Q (pc + 3) k) : q_V p l e R s m args below meth c D A nL Q pc (c_ifnull kt k) := by
  obtain ⟨hx, hb, hml, hown, hts, hN, hA, hr, hlk, hmn⟩ := C
  intro L st σ cr sr H locs cells slots ls hl hw hS h1 h2 hk
  unfold c_ifnull at hk
  split at hk
  · exact lv_ifnullN hx hb d ht (hT _ _ _ _ _ _ _ _ _ _ hl hw hS h1 h2 hk)
  · exact lv_ifnull hx hb d (h _ _ _ _ _ _ _ _ _ _ hl hw hS h1 h2 hk)
  · exact hk.elim
def c_ifnonnull (kt k : q_K) : q_K := fun L st σ cr sr => match st with | .ref _ :: r => kt L r σ cr sr | .null :: r => k L r σ cr sr | _ => False
theorem q_ifnonnull (C : q_C p s m args meth c cc nL own mn ret A) {pc tgt : Nat} {kt k : q_K} {off : Int} (d : decode cc pc = .ok (.ifnonnull off, 3)) (ht : (pc : Int) + off = (tgt : Int)) (hT : q_V p l e R s m args below meth c D A nL Q tgt kt) (h : q_V p l e R s m args below meth c D A nL Q (pc + 3) k) : q_V p l e R s m args below meth c D A nL Q pc (c_ifnonnull kt k) := by
  obtain ⟨hx, hb, hml, hown, hts, hN, hA, hr, hlk, hmn⟩ := C
  intro L st σ cr sr H locs cells slots ls hl hw hS h1 h2 hk
  unfold c_ifnonnull at hk
  split at hk
  · exact lv_ifnonnull hx hb d ht (hT _ _ _ _ _ _ _ _ _ _ hl hw hS h1 h2 hk)
  · exact lv_ifnonnullN hx hb d (h _ _ _ _ _ _ _ _ _ _ hl hw hS h1 h2 hk)
  · exact hk.elim
theorem q_goto (C : q_C p s m args meth c cc nL own mn ret A) {pc tgt : Nat} {k : q_K} {off : Int} (d : decode cc pc = .ok (.goto off, 3)) (ht : (pc : Int) + off = (tgt : Int)) (h : q_V p l e R s m args below meth c D A nL Q tgt k) : q_V p l e R s m args below meth c D A nL Q pc k := by
  obtain ⟨hx, hb, hml, hown, hts, hN, hA, hr, hlk, hmn⟩ := C
  intro L st σ cr sr H locs cells slots ls hl hw hS h1 h2 hk
  exact lv_goto hx hb d ht (h _ _ _ _ _ _ _ _ _ _ hl hw hS h1 h2 hk)
def c_tsw (lo : Int) (ks : List q_K) (k : q_K) : q_K := fun L st σ cr sr => match st with | .int x :: r => (∀ (i : Nat) (ki : q_K), ks[i]? = some ki → x.toInt = lo + i → ki L r σ cr sr) ∧ ((x.toInt < lo ∨ lo + ks.length ≤ x.toInt) → k L r σ cr sr) | _ => False
theorem q_tsw (C : q_C p s m args meth c cc nL own mn ret A) {pc tgt len : Nat} {ks : List q_K} {k : q_K} {lo hi dflt : Int} {offs : Array Int} (d : decode cc pc = .ok (.tableswitch dflt lo hi offs, len)) (hlen : lo + ks.length = hi + 1) (ht : (pc : Int) + dflt = (tgt : Int)) (h : q_V p l e R s m args below meth c D A nL Q tgt k) (hs : ∀ (i : Nat) (ki : q_K), ks[i]? = some ki → ∃ (off : Int) (ti : Nat), offs[i]? = some off ∧ (pc : Int) + off = (ti : Int) ∧ q_V p l e R s m args below meth c D A nL Q ti ki) : q_V p l e R s m args below meth c D A nL Q pc (c_tsw lo ks k) := by
  obtain ⟨hx, hb, hml, hown, hts, hN, hA, hr, hlk, hmn⟩ := C
  intro L st σ cr sr H locs cells slots ls hl hw hS h1 h2 hk
  unfold c_tsw at hk
  split at hk
  · next x r =>
      by_cases hlo : x.toInt < lo
      · exact lv_tableOut hx hb d (Or.inl hlo) ht (h _ _ _ _ _ _ _ _ _ _ hl hw hS h1 h2 (hk.2 (Or.inl hlo)))
      · by_cases hhi : hi < x.toInt
        · exact lv_tableOut hx hb d (Or.inr hhi) ht (h _ _ _ _ _ _ _ _ _ _ hl hw hS h1 h2 (hk.2 (Or.inr (by omega))))
        · have hi1 : (x.toInt - lo).toNat < ks.length := by omega
          obtain ⟨off, ti, ho, hti, hv⟩ := hs (x.toInt - lo).toNat _ (List.getElem?_eq_getElem hi1)
          exact lv_tableIn hx hb d hlo hhi ho hti (hv _ _ _ _ _ _ _ _ _ _ hl hw hS h1 h2 (hk.1 _ _ (List.getElem?_eq_getElem hi1) (by omega)))
  · exact hk.elim
end QV
end
section
section QM
variable {p : Program} {l : Launch} {e : Env} {R : Room} {s : State} {m : MethodId} {args : Array Value} {below : List Frame} {meth : Method} {c : Code} {D : va_G} {A : Nat → Prop} {nL : Nat} {Q : State → Prop} {cc : ByteArray} {own mn : String} {ret : Option FieldType}
theorem q_rel.setO {ws : va_W} {tys : List (ClassId × FieldType)} {σ : q_S} (h : q_rel ws tys σ) (hD : va_D A ws) {k a : Nat} {e0 : va_E} (hk : ws[k]? = some (a, e0)) (o : Nat × List Value) : q_rel (ws.set k (a, .inr o)) tys (q_up σ a (.inr o)) :=
  h.set hD hk ⟨k, List.getElem?_set_self (List.getElem?_eq_some_iff.mp hk).1⟩
theorem q_rel.setA {ws : va_W} {tys : List (ClassId × FieldType)} {σ : q_S} (h : q_rel ws tys σ) (hD : va_D A ws) {k a t : Nat} {e0 : va_E} (hk : ws[k]? = some (a, e0)) {cA : ClassId} {ty : FieldType} (ht : tys[t]? = some (cA, ty)) (x : vp_A) : q_rel (ws.set k (a, .inl (cA, x))) tys (q_up σ a (.inl (ty, x))) :=
  h.set hD hk ⟨k, t, cA, List.getElem?_set_self (List.getElem?_eq_some_iff.mp hk).1, ht⟩
-- fields: class number ci, place k
def q_fld (σ : q_S) (a ci k : Nat) : Option Value := match σ a with
  | some (.inr (cj, fs)) => if cj = ci then fs[k]? else none
  | _ => none
def q_fset (σ : q_S) (a k : Nat) (v : Value) : q_S := match σ a with
  | some (.inr (cj, fs)) => q_up σ a (.inr (cj, fs.set k v))
  | _ => σ
theorem q_fld_some {σ : q_S} {a ci k : Nat} {v : Value} (h : q_fld σ a ci k = some v) : ∃ fs : List Value, σ a = some (.inr (ci, fs)) ∧ fs[k]? = some v := by
  unfold q_fld at h
  split at h
  · next cj fs he =>
      split at h
      · next e => subst e; exact ⟨fs, he, h⟩
      · cases h
  · cases h
theorem q_fset_eq {σ : q_S} {a ci k : Nat} {fs : List Value} {v : Value} (h : σ a = some (.inr (ci, fs))) : q_fset σ a k v = q_up σ a (.inr (ci, fs.set k v)) := by
  simp only [q_fset, h]
def c_get (ci j : Nat) (k : q_K) : q_K := fun L st σ cr sr => match st with | .ref a :: r => (match q_fld σ a ci j with | some v => k L (v :: r) σ cr sr | none => False) | _ => False
theorem q_get (C : q_C p s m args meth c cc nL own mn ret A) {pc : Nat} {k : q_K} {ci j idx N : Nat} {C0 : String} {T : u_T} (hc : q_cl[ci]? = some (C0, T, N)) (hin : ∀ w ∈ u_ws C0 T N, w ∈ lw_tbl) (hgw : ∀ w ∈ u_ws C0 T N, goodWord w = true) (hj : j < N) (hlk2 : Cond.fieldLink own idx (T j).1 (T j).2.1 (T j).2.2.1 ∈ lw_tbl) (d : decode cc pc = .ok (.getfield idx, 3)) (h : q_V p l e R s m args below meth c D A nL Q (pc + 3) k) : q_V p l e R s m args below meth c D A nL Q pc (c_get ci j k) := by
  obtain ⟨hx, hb, hml, hown, hts, hN, hA, hr, hlk, hmn⟩ := C
  intro L st σ cr sr H locs cells slots ls hl hw hS h1 h2 hk
  unfold c_get at hk
  split at hk
  · next a r =>
      split at hk
      · next v he =>
          obtain ⟨fs, e1, e2⟩ := q_fld_some he
          have hw0 := hw
          obtain ⟨ws, tys, hK, hP, hD, hrel⟩ := hw
          obtain ⟨q0, hq⟩ := hrel a _ e1
          exact va_get (C := C0) (T := T) (N := N) (ci := ci) hx hb hts (fun w hw => lw_mem (hin w hw) (hgw w hw)) hown hK hP q0 hq hc j hj (ref := (T j).1) (hts _ (lw_mem hlk2 rfl)) (fun _ h9 => h9) e2 d (h _ _ _ _ _ _ _ _ _ _ hl hw0 hS h1 h2 hk)
      · exact hk.elim
  · exact hk.elim
theorem q_getN (C : q_C p s m args meth c cc nL own mn ret A) {pc : Nat} {k : q_K} {ci j idx N : Nat} {C0 : String} {T : u_T} (hc : q_cl[ci]? = some (C0, T, N)) (hin : ∀ w ∈ u_ws C0 T N, w ∈ lw_tbl) (hgw : ∀ w ∈ u_ws C0 T N, goodWord w = true) (hj : j < N) (hlk2 : (own, idx, (T j).1, (T j).2.1, (T j).2.2.1) ∈ q_nF) (d : decode cc pc = .ok (.getfield idx, 3)) (h : q_V p l e R s m args below meth c D A nL Q (pc + 3) k) : q_V p l e R s m args below meth c D A nL Q pc (c_get ci j k) := by
  obtain ⟨hx, hb, hml, hown, hts, hN, hA, hr, hlk, hmn⟩ := C
  intro L st σ cr sr H locs cells slots ls hl hw hS h1 h2 hk
  unfold c_get at hk
  split at hk
  · next a r =>
      split at hk
      · next v he =>
          obtain ⟨fs, e1, e2⟩ := q_fld_some he
          have hw0 := hw
          obtain ⟨ws, tys, hK, hP, hD, hrel⟩ := hw
          obtain ⟨q0, hq⟩ := hrel a _ e1
          exact va_getN (C := C0) (T := T) (N := N) (ci := ci) hx hb hts (fun w hw => lw_mem (hin w hw) (hgw w hw)) hown hK hP q0 hq hc j hj (ref := (T j).1) (va_Nw.use rfl (hN.1 _ hlk2)) (fun _ h9 => h9) e2 d (h _ _ _ _ _ _ _ _ _ _ hl hw0 hS h1 h2 hk)
      · exact hk.elim
  · exact hk.elim
def c_put (ci j : Nat) (ty : FieldType) (k : q_K) : q_K := fun L st σ cr sr => match st with | v :: .ref a :: r => (match q_fld σ a ci j with | some _ => (narrow ty v = v ∧ fits ty v = true) ∧ k L r (q_fset σ a j v) cr sr | none => False) | _ => False
theorem q_put (C : q_C p s m args meth c cc nL own mn ret A) {pc : Nat} {k : q_K} {ci j idx N : Nat} {C0 : String} {T : u_T} {ty : FieldType} (hc : q_cl[ci]? = some (C0, T, N)) (hin : ∀ w ∈ u_ws C0 T N, w ∈ lw_tbl) (hgw : ∀ w ∈ u_ws C0 T N, goodWord w = true) (hj : j < N) (ty0 : Nat → FieldType) (hty : ∀ k, k < N → parseFieldDescriptor (T k).2.2.1 = some (ty0 k)) (hnm : ∀ a, a < N → ∀ b, b < N → a ≠ b → (T a).2.1 ≠ (T b).2.1) (hd : parseFieldDescriptor (T j).2.2.1 = some ty) (hfin : (T j).2.2.2 = false) (hlk2 : Cond.fieldLink own idx (T j).1 (T j).2.1 (T j).2.2.1 ∈ lw_tbl) (d : decode cc pc = .ok (.putfield idx, 3)) (h : q_V p l e R s m args below meth c D A nL Q (pc + 3) k) : q_V p l e R s m args below meth c D A nL Q pc (c_put ci j ty k) := by
  obtain ⟨hx, hb, hml, hown, hts, hN, hA, hr, hlk, hmn⟩ := C
  intro L st σ cr sr H locs cells slots ls hl hw hS h1 h2 hk
  unfold c_put at hk
  split at hk
  · next v a r =>
      split at hk
      · next v0 he =>
          obtain ⟨fs, e1, e2⟩ := q_fld_some he
          obtain ⟨ws, tys, hK, hP, hD, hrel⟩ := hw
          obtain ⟨q0, hq⟩ := hrel a _ e1
          rw [q_fset_eq e1] at hk
          refine va_put (C := C0) (T := T) (N := N) (ci := ci) hx hb hts (fun w hw => lw_mem (hin w hw) (hgw w hw)) ty0 hty hnm hown hK hP hD hS q0 hq hc j hj (ref := (T j).1) (hts _ (lw_mem hlk2 rfl)) (fun _ h9 => h9) hfin hd hk.1.1 hk.1.2 (List.getElem?_eq_some_iff.mp e2).1 d (fun H1 locs1 hP1 hD1 hS1 => ?_)
          exact h _ _ _ _ _ _ _ _ _ _ hl ⟨_, tys, hK, hP1, hD1, hrel.setO hD hq _⟩ hS1 h1 h2 hk.2
      · exact hk.elim
  · exact hk.elim
theorem q_putF (C : q_C p s m args meth c cc nL own mn ret A) {pc : Nat} {k : q_K} {ci j idx N : Nat} {C0 : String} {T : u_T} {ty : FieldType} (hc : q_cl[ci]? = some (C0, T, N)) (hin : ∀ w ∈ u_ws C0 T N, w ∈ lw_tbl) (hgw : ∀ w ∈ u_ws C0 T N, goodWord w = true) (hj : j < N) (ty0 : Nat → FieldType) (hty : ∀ k, k < N → parseFieldDescriptor (T k).2.2.1 = some (ty0 k)) (hnm : ∀ a, a < N → ∀ b, b < N → a ≠ b → (T a).2.1 ≠ (T b).2.1) (hd : parseFieldDescriptor (T j).2.2.1 = some ty) (hfin : (T j).2.2.2 = true) (hi : mn = "<init>") (hdecl : (T j).1 = own) (hlk2 : Cond.fieldLink own idx (T j).1 (T j).2.1 (T j).2.2.1 ∈ lw_tbl) (d : decode cc pc = .ok (.putfield idx, 3)) (h : q_V p l e R s m args below meth c D A nL Q (pc + 3) k) : q_V p l e R s m args below meth c D A nL Q pc (c_put ci j ty k) := by
  obtain ⟨hx, hb, hml, hown, hts, hN, hA, hr, hlk, hmn⟩ := C
  intro L st σ cr sr H locs cells slots ls hl hw hS h1 h2 hk
  unfold c_put at hk
  split at hk
  · next v a r =>
      split at hk
      · next v0 he =>
          obtain ⟨fs, e1, e2⟩ := q_fld_some he
          obtain ⟨ws, tys, hK, hP, hD, hrel⟩ := hw
          obtain ⟨q0, hq⟩ := hrel a _ e1
          rw [q_fset_eq e1] at hk
          refine va_putF (C := C0) (T := T) (N := N) (ci := ci) hx hb hts (fun w hw => lw_mem (hin w hw) (hgw w hw)) ty0 hty hnm hown hK hP hD hS q0 hq hc j hj (ref := (T j).1) (hts _ (lw_mem hlk2 rfl)) (fun _ h9 => h9) hfin (hmn.trans hi) hdecl hd hk.1.1 hk.1.2 (List.getElem?_eq_some_iff.mp e2).1 d (fun H1 locs1 hP1 hD1 hS1 => ?_)
          exact h _ _ _ _ _ _ _ _ _ _ hl ⟨_, tys, hK, hP1, hD1, hrel.setO hD hq _⟩ hS1 h1 h2 hk.2
      · exact hk.elim
  · exact hk.elim
theorem q_putN (C : q_C p s m args meth c cc nL own mn ret A) {pc : Nat} {k : q_K} {ci j idx N : Nat} {C0 : String} {T : u_T} {ty : FieldType} (hc : q_cl[ci]? = some (C0, T, N)) (hin : ∀ w ∈ u_ws C0 T N, w ∈ lw_tbl) (hgw : ∀ w ∈ u_ws C0 T N, goodWord w = true) (hj : j < N) (ty0 : Nat → FieldType) (hty : ∀ k, k < N → parseFieldDescriptor (T k).2.2.1 = some (ty0 k)) (hnm : ∀ a, a < N → ∀ b, b < N → a ≠ b → (T a).2.1 ≠ (T b).2.1) (hd : parseFieldDescriptor (T j).2.2.1 = some ty) (hfin : (T j).2.2.2 = false) (hlk2 : (own, idx, (T j).1, (T j).2.1, (T j).2.2.1) ∈ q_nF) (d : decode cc pc = .ok (.putfield idx, 3)) (h : q_V p l e R s m args below meth c D A nL Q (pc + 3) k) : q_V p l e R s m args below meth c D A nL Q pc (c_put ci j ty k) := by
  obtain ⟨hx, hb, hml, hown, hts, hN, hA, hr, hlk, hmn⟩ := C
  intro L st σ cr sr H locs cells slots ls hl hw hS h1 h2 hk
  unfold c_put at hk
  split at hk
  · next v a r =>
      split at hk
      · next v0 he =>
          obtain ⟨fs, e1, e2⟩ := q_fld_some he
          obtain ⟨ws, tys, hK, hP, hD, hrel⟩ := hw
          obtain ⟨q0, hq⟩ := hrel a _ e1
          rw [q_fset_eq e1] at hk
          refine va_putN (C := C0) (T := T) (N := N) (ci := ci) hx hb hts (fun w hw => lw_mem (hin w hw) (hgw w hw)) ty0 hty hnm hown hK hP hD hS q0 hq hc j hj (ref := (T j).1) (va_Nw.use rfl (hN.1 _ hlk2)) (fun _ h9 => h9) hfin hd hk.1.1 hk.1.2 (List.getElem?_eq_some_iff.mp e2).1 d (fun H1 locs1 hP1 hD1 hS1 => ?_)
          exact h _ _ _ _ _ _ _ _ _ _ hl ⟨_, tys, hK, hP1, hD1, hrel.setO hD hq _⟩ hS1 h1 h2 hk.2
      · exact hk.elim
  · exact hk.elim
def q_ai (σ : q_S) (a : Nat) (ty : FieldType) : Option (Nat × (Nat → Int32)) := match σ a with
  | some (.inl (t, n, .inl f)) => if t = ty then some (n, f) else none
  | _ => none
def q_aq (σ : q_S) (a : Nat) : Option (FieldType × Nat × (Nat → Option Nat)) := match σ a with
  | some (.inl (t, n, .inr (.inr (.inr (.inr f))))) => some (t, n, f)
  | _ => none
theorem q_ai_some {σ : q_S} {a : Nat} {ty : FieldType} {x : Nat × (Nat → Int32)} (h : q_ai σ a ty = some x) : σ a = some (.inl (ty, x.1, .inl x.2)) := by
  unfold q_ai at h
  split at h
  · next t n f he =>
      split at h
      · next e => subst e; cases h; exact he
      · cases h
  · cases h
theorem q_aq_some {σ : q_S} {a : Nat} {x : FieldType × Nat × (Nat → Option Nat)} (h : q_aq σ a = some x) : σ a = some (.inl (x.1, x.2.1, .inr (.inr (.inr (.inr x.2.2))))) := by
  unfold q_aq at h
  split at h
  · next t n f he => cases h; exact he
  · cases h
def c_iald (k : q_K) : q_K := fun L st σ cr sr => match st with | .int i :: .ref a :: r => (match q_ai σ a .int with | some x => vp_in i x.1 ∧ k L (.int (x.2 i.toNatClampNeg) :: r) σ cr sr | none => False) | _ => False
theorem q_iald (C : q_C p s m args meth c cc nL own mn ret A) {pc : Nat} {k : q_K} (d : decode cc pc = .ok (.iaload, 1)) (h : q_V p l e R s m args below meth c D A nL Q (pc + 1) k) : q_V p l e R s m args below meth c D A nL Q pc (c_iald k) := by
  obtain ⟨hx, hb, hml, hown, hts, hN, hA, hr, hlk, hmn⟩ := C
  intro L st σ cr sr H locs cells slots ls hl hw hS h1 h2 hk
  unfold c_iald at hk
  split at hk
  · next i a r =>
      split at hk
      · next x he =>
          have e1 := q_ai_some he
          have hw0 := hw
          obtain ⟨ws, tys, hK, hP, hD, hrel⟩ := hw
          obtain ⟨q0, t0, cA, hq, ht⟩ := hrel a _ e1
          exact va_iald hx hb hK hP q0 t0 hq ht hk.1 d (h _ _ _ _ _ _ _ _ _ _ hl hw0 hS h1 h2 hk.2)
      · exact hk.elim
  · exact hk.elim
def c_zald (k : q_K) : q_K := fun L st σ cr sr => match st with | .int i :: .ref a :: r => (match q_ai σ a .boolean with | some x => vp_in i x.1 ∧ k L (.int (x.2 i.toNatClampNeg) :: r) σ cr sr | none => False) | _ => False
theorem q_zald (C : q_C p s m args meth c cc nL own mn ret A) {pc : Nat} {k : q_K} (d : decode cc pc = .ok (.baload, 1)) (h : q_V p l e R s m args below meth c D A nL Q (pc + 1) k) : q_V p l e R s m args below meth c D A nL Q pc (c_zald k) := by
  obtain ⟨hx, hb, hml, hown, hts, hN, hA, hr, hlk, hmn⟩ := C
  intro L st σ cr sr H locs cells slots ls hl hw hS h1 h2 hk
  unfold c_zald at hk
  split at hk
  · next i a r =>
      split at hk
      · next x he =>
          have e1 := q_ai_some he
          have hw0 := hw
          obtain ⟨ws, tys, hK, hP, hD, hrel⟩ := hw
          obtain ⟨q0, t0, cA, hq, ht⟩ := hrel a _ e1
          exact va_zald hx hb hK hP q0 t0 hq ht hk.1 d (h _ _ _ _ _ _ _ _ _ _ hl hw0 hS h1 h2 hk.2)
      · exact hk.elim
  · exact hk.elim
def c_iast (k : q_K) : q_K := fun L st σ cr sr => match st with | .int x :: .int i :: .ref a :: r => (match q_ai σ a .int with | some y => vp_in i y.1 ∧ k L r (q_up σ a (.inl (.int, y.1, .inl (upd y.2 i.toNatClampNeg x)))) cr sr | none => False) | _ => False
theorem q_iast (C : q_C p s m args meth c cc nL own mn ret A) {pc : Nat} {k : q_K} (d : decode cc pc = .ok (.iastore, 1)) (h : q_V p l e R s m args below meth c D A nL Q (pc + 1) k) : q_V p l e R s m args below meth c D A nL Q pc (c_iast k) := by
  obtain ⟨hx, hb, hml, hown, hts, hN, hA, hr, hlk, hmn⟩ := C
  intro L st σ cr sr H locs cells slots ls hl hw hS h1 h2 hk
  unfold c_iast at hk
  split at hk
  · next x i a r =>
      split at hk
      · next y he =>
          have e1 := q_ai_some he
          obtain ⟨ws, tys, hK, hP, hD, hrel⟩ := hw
          obtain ⟨q0, t0, cA, hq, ht⟩ := hrel a _ e1
          refine va_iast hx hb hK hP hD hS q0 t0 hq ht hk.1 d (fun H1 locs1 hP1 hD1 hS1 => ?_)
          exact h _ _ _ _ _ _ _ _ _ _ hl ⟨_, tys, hK, hP1, hD1, hrel.setA hD hq ht _⟩ hS1 h1 h2 hk.2
      · exact hk.elim
  · exact hk.elim
def c_zast (k : q_K) : q_K := fun L st σ cr sr => match st with | .int x :: .int i :: .ref a :: r => (match q_ai σ a .boolean with | some y => vp_in i y.1 ∧ k L r (q_up σ a (.inl (.boolean, y.1, .inl (upd y.2 i.toNatClampNeg (vp_nar .boolean x))))) cr sr | none => False) | _ => False
theorem q_zast (C : q_C p s m args meth c cc nL own mn ret A) {pc : Nat} {k : q_K} (d : decode cc pc = .ok (.bastore, 1)) (h : q_V p l e R s m args below meth c D A nL Q (pc + 1) k) : q_V p l e R s m args below meth c D A nL Q pc (c_zast k) := by
  obtain ⟨hx, hb, hml, hown, hts, hN, hA, hr, hlk, hmn⟩ := C
  intro L st σ cr sr H locs cells slots ls hl hw hS h1 h2 hk
  unfold c_zast at hk
  split at hk
  · next x i a r =>
      split at hk
      · next y he =>
          have e1 := q_ai_some he
          obtain ⟨ws, tys, hK, hP, hD, hrel⟩ := hw
          obtain ⟨q0, t0, cA, hq, ht⟩ := hrel a _ e1
          refine va_zast hx hb hK hP hD hS q0 t0 hq ht hk.1 d (fun H1 locs1 hP1 hD1 hS1 => ?_)
          exact h _ _ _ _ _ _ _ _ _ _ hl ⟨_, tys, hK, hP1, hD1, hrel.setA hD hq ht _⟩ hS1 h1 h2 hk.2
      · exact hk.elim
  · exact hk.elim
theorem va_aldt {H : Heap} {locs : List Loc} {cells slots pc : Nat} {ls : Array Slot} {rest : List Value} {a : Nat} {cl : List vw_C} {tys : List (ClassId × FieldType)} {ws : va_W} (hexec : p.tables.exec = Jvm.exec) (hb : c.code = cc) (hK : va_K D cl tys s) (hP : va_P D cl ws H) (q0 t0 : Nat) {cA : ClassId} {ty : FieldType} {n : Nat} {f : Nat → Option Nat} (ha : ws[q0]? = some (a, .inl (cA, n, .inr (.inr (.inr (.inr f)))))) (ht : tys[t0]? = some (cA, ty)) (hk : refKind ty = true) {i : Int32} (hin : vp_in i n) (hdg : decode cc pc = .ok (.aaload, 1))
    (kk : W p l e R s m args below meth c H locs cells slots Q (F0 m (pc + 1) ls (va_rf (f i.toNatClampNeg) :: rest))) : W p l e R s m args below meth c H locs cells slots Q (F0 m pc ls (.int i :: .ref a :: rest)) := by
  have hlt : i.toNatClampNeg < n := Nat.not_le.mp fun q => hin (Or.inr q)
  exact W.aald (v := va_rf (f i.toNatClampNeg)) (ty := ty) hexec hb (hP q0 _ ha) ((hK.2 t0 _ ht).1 n (fun j => va_rf (f j))) hk (fun q => by cases q) (by show ¬ (i < 0 ∨ (arrV _ _ _).slots.size ≤ _); rw [arrV_size]; exact hin) (by show (arrV _ _ _).slots[_]? = _; rw [arrV_read _ _ hlt]) rfl rfl hdg kk
def c_aald (k : q_K) : q_K := fun L st σ cr sr => match st with | .int i :: .ref a :: r => (match q_aq σ a with | some x => (refKind x.1 = true ∧ vp_in i x.2.1) ∧ k L (va_rf (x.2.2 i.toNatClampNeg) :: r) σ cr sr | none => False) | _ => False
theorem q_aald (C : q_C p s m args meth c cc nL own mn ret A) {pc : Nat} {k : q_K} (d : decode cc pc = .ok (.aaload, 1)) (h : q_V p l e R s m args below meth c D A nL Q (pc + 1) k) : q_V p l e R s m args below meth c D A nL Q pc (c_aald k) := by
  obtain ⟨hx, hb, hml, hown, hts, hN, hA, hr, hlk, hmn⟩ := C
  intro L st σ cr sr H locs cells slots ls hl hw hS h1 h2 hk
  unfold c_aald at hk
  split at hk
  · next i a r =>
      split at hk
      · next x he =>
          have e1 := q_aq_some he
          have hw0 := hw
          obtain ⟨ws, tys, hK, hP, hD, hrel⟩ := hw
          obtain ⟨q0, t0, cA, hq, ht⟩ := hrel a _ e1
          exact va_aldt hx hb hK hP q0 t0 hq ht hk.1.1 hk.1.2 d (h _ _ _ _ _ _ _ _ _ _ hl hw0 hS h1 h2 hk.2)
      · exact hk.elim
  · exact hk.elim
def q_oc (σ : q_S) (v : Nat) : Option Nat := match σ v with
  | some (.inr (ci, _)) => some ci
  | _ => none
theorem q_oc_some {σ : q_S} {v ci : Nat} (h : q_oc σ v = some ci) : ∃ fs : List Value, σ v = some (.inr (ci, fs)) := by
  unfold q_oc at h
  split at h
  · next cj fs he => cases h; exact ⟨fs, he⟩
  · cases h
def q_nm (ci : Nat) : String := match q_cl[ci]? with
  | some r => r.1
  | none => ""

def c_aast (ci : Nat) (k : q_K) : q_K := fun L st σ cr sr => match st with | .ref v :: .int i :: .ref a :: r => (match q_aq σ a with | some x => (q_oc σ v = some ci ∧ x.1 = .object (q_nm ci) ∧ vp_in i x.2.1) ∧ k L r (q_up σ a (.inl (x.1, x.2.1, .inr (.inr (.inr (.inr (va_up x.2.2 i.toNatClampNeg (some v)))))))) cr sr | none => False) | _ => False
theorem q_aast (C : q_C p s m args meth c cc nL own mn ret A) {pc : Nat} {k : q_K} {ci : Nat} {rc : vw_C} (hc : q_cl[ci]? = some rc) (d : decode cc pc = .ok (.aastore, 1)) (h : q_V p l e R s m args below meth c D A nL Q (pc + 1) k) : q_V p l e R s m args below meth c D A nL Q pc (c_aast ci k) := by
  obtain ⟨hx, hb, hml, hown, hts, hN, hA, hr, hlk, hmn⟩ := C
  intro L st σ cr sr H locs cells slots ls hl hw hS h1 h2 hk
  unfold c_aast at hk
  split at hk
  · next v i a r =>
      split at hk
      · next x he =>
          have e1 := q_aq_some he
          obtain ⟨ws, tys, hK, hP, hD, hrel⟩ := hw
          obtain ⟨q0, t0, cA, hq, ht⟩ := hrel a _ e1
          obtain ⟨fs, e2⟩ := q_oc_some hk.1.1
          obtain ⟨qk, hqk⟩ := hrel v _ e2
          have hnm : q_nm ci = rc.1 := by unfold q_nm; rw [hc]
          refine va_astq hx hb hK hP hD hS q0 t0 qk ci hq (by rw [← hnm, ← hk.1.2.1]; exact ht) hqk hc hk.1.2.2 d (fun H1 locs1 hP1 hD1 hS1 => ?_)
          exact h _ _ _ _ _ _ _ _ _ _ hl ⟨_, tys, hK, hP1, hD1, hrel.setA hD hq ht _⟩ hS1 h1 h2 hk.2
      · exact hk.elim
  · exact hk.elim
def q_len (σ : q_S) (a : Nat) : Option Nat := match σ a with
  | some (.inl (_, n, _)) => some n
  | _ => none
theorem q_len_some {σ : q_S} {a n : Nat} (h : q_len σ a = some n) : ∃ (ty : FieldType) (x : vp_A), σ a = some (.inl (ty, x)) ∧ x.1 = n := by
  unfold q_len at h
  split at h
  · next t n f he => cases h; exact ⟨t, (n, f), he, rfl⟩
  · cases h
def c_alen (k : q_K) : q_K := fun L st σ cr sr => match st with | .ref a :: r => (match q_len σ a with | some n => k L (.int (Int32.ofNat n) :: r) σ cr sr | none => False) | _ => False
theorem q_alen (C : q_C p s m args meth c cc nL own mn ret A) {pc : Nat} {k : q_K} (d : decode cc pc = .ok (.arraylength, 1)) (h : q_V p l e R s m args below meth c D A nL Q (pc + 1) k) : q_V p l e R s m args below meth c D A nL Q pc (c_alen k) := by
  obtain ⟨hx, hb, hml, hown, hts, hN, hA, hr, hlk, hmn⟩ := C
  intro L st σ cr sr H locs cells slots ls hl hw hS h1 h2 hk
  unfold c_alen at hk
  split at hk
  · next a r =>
      split at hk
      · next n he =>
          obtain ⟨ty, x, e1, e2⟩ := q_len_some he
          subst e2
          have hw0 := hw
          obtain ⟨ws, tys, hK, hP, hD, hrel⟩ := hw
          obtain ⟨q0, t0, cA, hq, ht⟩ := hrel a _ e1
          exact va_alen hx hb hK hP q0 t0 hq ht rfl d (h _ _ _ _ _ _ _ _ _ _ hl hw0 hS h1 h2 hk)
      · exact hk.elim
  · exact hk.elim
def c_new (ci N : Nat) (fs : List Value) (k : q_K) : q_K := fun L st σ cr sr => (1 ≤ cr ∧ N ≤ sr) ∧ ∀ q : Nat, σ q = none → k L (.ref q :: st) (q_up σ q (.inr (ci, fs))) (cr - 1) (sr - N)
theorem q_new (C : q_C p s m args meth c cc nL own mn ret A) {pc : Nat} {k : q_K} {ci idx N : Nat} {C0 : String} {T : u_T} {fs : List Value} (hc : q_cl[ci]? = some (C0, T, N)) (hin : ∀ w ∈ u_ws C0 T N, w ∈ lw_tbl) (hgw : ∀ w ∈ u_ws C0 T N, goodWord w = true) (ty0 : Nat → FieldType) (hty : ∀ k, k < N → parseFieldDescriptor (T k).2.2.1 = some (ty0 k)) (hw1 : Cond.classLink own idx C0 ∈ lw_tbl) (hw2 : Cond.instantiable C0 N ∈ lw_tbl) (hw3 : Cond.initialized C0 ∈ lw_tbl) (hfs : ∀ j, j < N → defaultValue (ty0 j) = vp_V fs j) (d : decode cc pc = .ok (.new idx, 3)) (h : q_V p l e R s m args below meth c D A nL Q (pc + 3) k) : q_V p l e R s m args below meth c D A nL Q pc (c_new ci N fs k) := by
  obtain ⟨hx, hb, hml, hown, hts, hN, hA, hr, hlk, hmn⟩ := C
  intro L st σ cr sr H locs cells slots ls hl hw hS h1 h2 hk
  obtain ⟨⟨hc1, hs1⟩, hk⟩ := hk
  obtain ⟨ws, tys, hK, hP, hD, hrel⟩ := hw
  refine va_new (C := C0) (T := T) (N := N) (ci := ci) hx hb hts (fun w hw => lw_mem (hin w hw) (hgw w hw)) ty0 hty hown (hts _ (lw_mem hw1 rfl)) (hts _ (lw_mem hw2 rfl)) (hts _ (lw_mem hw3 rfl)) hK hP hD hS hA hc hfs (by omega) (by omega) d (fun q H1 hP1 hD1 hS1 => ?_)
  have hp := hrel.push (ts := []) (e := .inr (ci, fs)) hD1 ⟨ws.length, by simp⟩
  rw [List.append_nil] at hp
  exact h _ _ _ _ _ _ _ _ _ _ hl ⟨_, tys, hK, hP1, hD1, hp.2⟩ hS1 (by omega) (by omega) (hk q hp.1)
def c_newa (ty : FieldType) (k : q_K) : q_K := fun L st σ cr sr => match st with | .int n :: r => ((¬ n < 0) ∧ n.toNatClampNeg ≤ 65536 ∧ 1 ≤ cr ∧ n.toNatClampNeg ≤ sr) ∧ ∀ q : Nat, σ q = none → k L (.ref q :: r) (q_up σ q (.inl (ty, n.toNatClampNeg, .inl (fun _ => 0)))) (cr - 1) (sr - n.toNatClampNeg) | _ => False
theorem q_newaI (C : q_C p s m args meth c cc nL own mn ret A) {pc : Nat} {k : q_K} (hw1 : Cond.arrayClass .int ∈ lw_tbl) (d : decode cc pc = .ok (.newarray .int, 2)) (h : q_V p l e R s m args below meth c D A nL Q (pc + 2) k) : q_V p l e R s m args below meth c D A nL Q pc (c_newa .int k) := by
  obtain ⟨hx, hb, hml, hown, hts, hN, hA, hr, hlk, hmn⟩ := C
  intro L st σ cr sr H locs cells slots ls hl hw hS h1 h2 hk
  unfold c_newa at hk
  split at hk
  · next n r =>
      obtain ⟨⟨hn, hn2, hc1, hs1⟩, hk⟩ := hk
      obtain ⟨ws, tys, hK, hP, hD, hrel⟩ := hw
      refine va_newa (atype := .int) (ty := .int) (a0 := (n.toNatClampNeg, .inl (fun _ => 0))) hx hb (hts _ (lw_mem hw1 rfl)) rfl hK hP hD hS hA (fun cA => rfl) hn rfl (by simp [componentBytes] <;> omega) (by omega) (by omega) d (fun q cA H1 hK1 hP1 hD1 hS1 => ?_)
      have hp := hrel.push (ts := [(cA, .int)]) (e := .inl (.int, n.toNatClampNeg, .inl (fun _ => 0))) hD1 ⟨ws.length, tys.length, cA, by simp, by simp⟩
      exact h _ _ _ _ _ _ _ _ _ _ hl ⟨_, _, hK1, hP1, hD1, hp.2⟩ hS1 (by omega) (by omega) (hk q hp.1)
  · exact hk.elim
theorem q_newaZ (C : q_C p s m args meth c cc nL own mn ret A) {pc : Nat} {k : q_K} (hw1 : Cond.arrayClass .boolean ∈ lw_tbl) (d : decode cc pc = .ok (.newarray .boolean, 2)) (h : q_V p l e R s m args below meth c D A nL Q (pc + 2) k) : q_V p l e R s m args below meth c D A nL Q pc (c_newa .boolean k) := by
  obtain ⟨hx, hb, hml, hown, hts, hN, hA, hr, hlk, hmn⟩ := C
  intro L st σ cr sr H locs cells slots ls hl hw hS h1 h2 hk
  unfold c_newa at hk
  split at hk
  · next n r =>
      obtain ⟨⟨hn, hn2, hc1, hs1⟩, hk⟩ := hk
      obtain ⟨ws, tys, hK, hP, hD, hrel⟩ := hw
      refine va_newa (atype := .boolean) (ty := .boolean) (a0 := (n.toNatClampNeg, .inl (fun _ => 0))) hx hb (hts _ (lw_mem hw1 rfl)) rfl hK hP hD hS hA (fun cA => rfl) hn rfl (by simp [componentBytes] <;> omega) (by omega) (by omega) d (fun q cA H1 hK1 hP1 hD1 hS1 => ?_)
      have hp := hrel.push (ts := [(cA, .boolean)]) (e := .inl (.boolean, n.toNatClampNeg, .inl (fun _ => 0))) hD1 ⟨ws.length, tys.length, cA, by simp, by simp⟩
      exact h _ _ _ _ _ _ _ _ _ _ hl ⟨_, _, hK1, hP1, hD1, hp.2⟩ hS1 (by omega) (by omega) (hk q hp.1)
  · exact hk.elim
def c_newq (ty : FieldType) (k : q_K) : q_K := fun L st σ cr sr => match st with | .int n :: r => ((¬ n < 0) ∧ n.toNatClampNeg ≤ 65536 ∧ 1 ≤ cr ∧ n.toNatClampNeg ≤ sr) ∧ ∀ q : Nat, σ q = none → k L (.ref q :: r) (q_up σ q (.inl (ty, n.toNatClampNeg, .inr (.inr (.inr (.inr (fun _ => none))))))) (cr - 1) (sr - n.toNatClampNeg) | _ => False
theorem q_newq (C : q_C p s m args meth c cc nL own mn ret A) {pc idx : Nat} {k : q_K} {C0 : String} (hw1 : Cond.classLink own idx C0 ∈ lw_tbl) (hw2 : (.object C0 : FieldType) ∈ q_nA) (d : decode cc pc = .ok (.anewarray idx, 3)) (h : q_V p l e R s m args below meth c D A nL Q (pc + 3) k) : q_V p l e R s m args below meth c D A nL Q pc (c_newq (.object C0) k) := by
  obtain ⟨hx, hb, hml, hown, hts, hN, hA, hr, hlk, hmn⟩ := C
  intro L st σ cr sr H locs cells slots ls hl hw hS h1 h2 hk
  unfold c_newq at hk
  split at hk
  · next n r =>
      obtain ⟨⟨hn, hn2, hc1, hs1⟩, hk⟩ := hk
      obtain ⟨ws, tys, hK, hP, hD, hrel⟩ := hw
      refine va_newq (C := C0) hx hb hown (hts _ (lw_mem hw1 rfl)) (hN.2.2 _ hw2) hK hP hD hS hA hn rfl (by omega) (by omega) (by omega) d (fun q cA H1 hK1 hP1 hD1 hS1 => ?_)
      have hp := hrel.push (ts := [(cA, .object C0)]) (e := .inl (.object C0, n.toNatClampNeg, .inr (.inr (.inr (.inr (fun _ => none)))))) hD1 ⟨ws.length, tys.length, cA, by simp, by simp⟩
      exact h _ _ _ _ _ _ _ _ _ _ hl ⟨_, _, hK1, hP1, hD1, hp.2⟩ hS1 (by omega) (by omega) (hk q hp.1)
  · exact hk.elim
def c_oinit (k : q_K) : q_K := fun L st σ cr sr => match st with | .ref _ :: r => (r.map fun v => v.category).sum ≤ 8 ∧ k L r σ cr sr | _ => False
theorem q_oinit (C : q_C p s m args meth c cc nL own mn ret A) {pc idx : Nat} {k : q_K} (hw1 : Cond.methodLink own idx objectInit ∈ lw_tbl) (hw2 : Cond.instanceMethod objectInit ∈ lw_tbl) (hw3 : Cond.code objectInit ⟨#[0xb1]⟩ 1 none ∈ lw_tbl) (hR : 1 ≤ R.frames ∧ 20 ≤ R.locals) (d : decode cc pc = .ok (.invokespecial idx, 3)) (h : q_V p l e R s m args below meth c D A nL Q (pc + 3) k) : q_V p l e R s m args below meth c D A nL Q pc (c_oinit k) := by
  obtain ⟨hx, hb, hml, hown, hts, hN, hA, hr, hlk, hmn⟩ := C
  intro L st σ cr sr H locs cells slots ls hl hw hS h1 h2 hk
  unfold c_oinit at hk
  split at hk
  · next a r =>
      have hsum := hk.1
      exact W.objInit hx hb hown (hts _ (lw_mem hw1 rfl)) (hts _ (lw_mem hw2 rfl)) (hts _ (lw_mem hw3 rfl)) rfl (by rw [hml]; exact hl.2.2.1) rfl d hR.1 (by show 2 * 0 + _ + 12 ≤ _; omega) (h _ _ _ _ _ _ _ _ _ _ hl hw hS h1 h2 hk.2)
  · exact hk.elim
def c_max (k : q_K) : q_K := fun L st σ cr sr => match st with | .int y :: .int x :: r => (r.map fun v => v.category).sum ≤ 8 ∧ k L (.int (if x < y then y else x) :: r) σ cr sr | _ => False
theorem q_max (C : q_C p s m args meth c cc nL own mn ret A) {pc idx : Nat} {k : q_K} (hw1 : Cond.methodLink own idx Lib.Math.max.name ∈ lw_tbl) (hw2 : Cond.static Lib.Math.max.name ∈ lw_tbl) (hw3 : Cond.initialized "java/lang/Math" ∈ lw_tbl) (hw4 : Cond.code Lib.Math.max.name Lib.Math.max.code 2 (some .int) ∈ lw_tbl) (hR : 1 ≤ R.frames ∧ 21 ≤ R.locals) (d : decode cc pc = .ok (.invokestatic idx, 3)) (h : q_V p l e R s m args below meth c D A nL Q (pc + 3) k) : q_V p l e R s m args below meth c D A nL Q pc (c_max k) := by
  obtain ⟨hx, hb, hml, hown, hts, hN, hA, hr, hlk, hmn⟩ := C
  intro L st σ cr sr H locs cells slots ls hl hw hS h1 h2 hk
  unfold c_max at hk
  split at hk
  · next y x r =>
      have hsum := hk.1
      exact va_mmax hx hb (hml.trans hl.2.2.1.symm) hown (hts _ (lw_mem hw1 rfl)) (hts _ (lw_mem hw2 rfl)) (hts _ (lw_mem hw3 rfl)) (hts _ (lw_mem hw4 rfl)) hR.1 (by omega) (by omega) (by omega) d (h _ _ _ _ _ _ _ _ _ _ hl hw hS h1 h2 hk.2)
  · exact hk.elim
def c_copy (k : q_K) : q_K := fun L st σ cr sr => match st with | .int n :: .int dp :: .ref b :: .int sp :: .ref a :: r => (match q_ai σ a .int with | some x => (match q_ai σ b .int with | some y => ((¬ sp < 0) ∧ (¬ dp < 0) ∧ (¬ n < 0) ∧ sp.toNatClampNeg + n.toNatClampNeg ≤ x.1 ∧ dp.toNatClampNeg + n.toNatClampNeg ≤ y.1 ∧ (r.map fun v => v.category).sum ≤ 8) ∧ k L r (q_up σ b (.inl (.int, y.1, .inl (va_cpy x.2 y.2 sp.toNatClampNeg dp.toNatClampNeg n.toNatClampNeg)))) cr sr | none => False) | none => False) | _ => False
theorem q_copy (C : q_C p s m args meth c cc nL own mn ret A) {pc idx : Nat} {k : q_K} (hw1 : Cond.methodLink own idx arraycopyName ∈ lw_tbl) (hw2 : Cond.native arraycopyName ∈ lw_tbl) (hw3 : Cond.static arraycopyName ∈ lw_tbl) (hw4 : Cond.initialized "java/lang/System" ∈ lw_tbl) (hR : 1 ≤ R.frames ∧ 8 + (nativeFrameWords "java/lang/System" "arraycopy" 5 + 11) ≤ R.locals) (d : decode cc pc = .ok (.invokestatic idx, 3)) (h : q_V p l e R s m args below meth c D A nL Q (pc + 3) k) : q_V p l e R s m args below meth c D A nL Q pc (c_copy k) := by
  obtain ⟨hx, hb, hml, hown, hts, hN, hA, hr, hlk, hmn⟩ := C
  intro L st σ cr sr H locs cells slots ls hl hw hS h1 h2 hk
  unfold c_copy at hk
  split at hk
  · next n dp b sp a r =>
      split at hk
      · next x hx1 =>
          split at hk
          · next y hy1 =>
              have e1 := q_ai_some hx1
              have e2 := q_ai_some hy1
              obtain ⟨⟨g1, g2, g3, g4, g5, g6⟩, hk⟩ := hk
              obtain ⟨ws, tys, hK, hP, hD, hrel⟩ := hw
              obtain ⟨q0, t0, c0, hq0, ht0⟩ := hrel a _ e1
              obtain ⟨q1, t1, c1, hq1, ht1⟩ := hrel b _ e2
              refine va_copyi hx hb (hml.trans hl.2.2.1.symm) hown (hts _ (lw_mem hw1 rfl)) (hts _ (lw_mem hw2 rfl)) (hts _ (lw_mem hw3 rfl)) (hts _ (lw_mem hw4 rfl)) hK hP hD hS q0 q1 t0 t1 hq0 hq1 ht0 ht1 rfl g1 g2 g3 g4 g5 (fun i hi => rfl) hR.1 (by omega) d (fun H1 locs1 hP1 hD1 hS1 => ?_)
              exact h _ _ _ _ _ _ _ _ _ _ hl ⟨_, tys, hK, hP1, hD1, hrel.setA hD hq1 ht1 _⟩ hS1 h1 h2 hk
          · exact hk.elim
      · exact hk.elim
  · exact hk.elim
end QM
end
section
def va_AOA (t : FieldType) (U : State) : Prop := (Cond.arrayOver (.array t)).before #[] U = true
theorem va_AOA.use {t : FieldType} {A : Array Value} {U : State} (h : va_AOA t U) : (Cond.arrayOver (.array t)).before A U = true := h
/-! ===== BEGIN new T[n][m]: the outer array a place, the inner ones among the pooled ===== -/
/-- f, but v at every address of l -/
def vr_up {α : Type} (f : Nat → α) (l : List Nat) (v : α) : Nat → α := fun a => if a ∈ l then v else f a
theorem vr_up_in {α : Type} {f : Nat → α} {l : List Nat} {v : α} {a : Nat} (h : a ∈ l) : vr_up f l v a = v := if_pos h
theorem vr_up_ne {α : Type} {f : Nat → α} {l : List Nat} {v : α} {a : Nat} (h : a ∉ l) : vr_up f l v a = f a := if_neg h
theorem vr_rows {L l : List Nat} {f : Nat → va_E} {e : va_E} (h : ∀ a, a ∈ l → a ∉ L) : va_pl L f ++ l.map (fun a => (a, e)) = va_pl (L ++ l) (vr_up f l e) := by
  unfold va_pl
  rw [List.map_append]
  congr 1
  · apply List.map_congr_left
    intro a ha
    rw [vr_up_ne (fun q => h a q ha)]
  · apply List.map_congr_left
    intro a ha
    rw [vr_up_in ha]
theorem vr_lay {X rows : va_W} {x : Nat × va_E} {pl : va_W} {D : va_G} {cl : List vw_C} {H : Heap} (hP : va_P D cl (((X ++ pl) ++ [x]) ++ rows) H) : va_P D cl ((X ++ [x]) ++ (pl ++ rows)) H := by
  rw [List.append_assoc (X ++ pl)] at hP
  have h := va_P.swap hP
  rw [← List.append_assoc X] at h
  have h2 := va_P.swap h
  rw [List.append_assoc (X ++ [x])] at h2
  exact h2
theorem vr_layD {X rows : va_W} {x : Nat × va_E} {pl : va_W} {A : Nat → Prop} (hD : va_D A (((X ++ pl) ++ [x]) ++ rows)) : va_D A ((X ++ [x]) ++ (pl ++ rows)) := by
  rw [List.append_assoc (X ++ pl)] at hD
  have h := va_D.swap hD
  rw [← List.append_assoc X] at h
  have h2 := va_D.swap h
  rw [List.append_assoc (X ++ [x])] at h2
  exact h2
theorem vr_outer (c : ClassId) (N h0 : Nat) : ∀ i : Nat, Jvm.Free.Multi.outerC c N h0 i = arrV c N (fun j => va_rf (if j < i then some (h0 + 1 + j) else none))
  | 0 => by
    show ({ cls := c, slots := Array.replicate N .null, vm := .none } : Cell) = _
    rw [arrV_new]
    refine congrArg (arrV c N) (funext fun j => ?_)
    simp [va_rf]
  | i + 1 => by
    show (Jvm.Free.Multi.outerC c N h0 i).setSlot i (.ref (h0 + 1 + i)) = _
    rw [vr_outer c N h0 i, arrV_store]
    refine congrArg (arrV c N) (funext fun j => ?_)
    by_cases e : j = i
    · subst e
      simp [updV, va_rf]
    · by_cases h : j < i
      · simp [updV, e, h, Nat.lt_succ_of_lt h]
      · simp [updV, e, h, show ¬ j < i + 1 by omega]
section VGM
variable {p : Program} {l : Launch} {e : Env} {R : Room} {s : State} {m : MethodId} {args : Array Value} {below : List Frame} {meth : Method} {c : Code} {H : Heap} {locs : List Loc} {cells slots : Nat} {Q : State → Prop}
variable {cc : ByteArray} {pc : Nat} {ls : Array Slot} {rest : List Value} {D : va_G} {cl : List vw_C} {A : Nat → Prop} {a : Nat} {tys : List (ClassId × FieldType)} {ws : va_W} {H0 : Heap}
theorem va_mna {X : va_W} {L : List Nat} {f : Nat → va_E} {cc : ByteArray} (hexec : p.tables.exec = Jvm.exec) (hb : c.code = cc) {own : String} {index : Nat} {ty : FieldType} {cy : ClassId} (hown : s.vm.findClass own = some m.cls) (hclink : (Cond.classLink own index ("[" ++ (FieldType.array ty).toString)).before args s = true) (hover : va_AOA ty s) (harr : (Cond.arrayClass ty).before args s = true) (hcy : s.vm.findClass (FieldType.array ty).toString = some cy)
    (hK : va_K D cl tys s) (hP : va_P D cl (X ++ va_pl L f) H) (hD : va_D A (X ++ va_pl L f)) (hS : va_S A H0 H locs) (hA : ∀ q, H0.size ≤ q → A q) {n k : Int32} {N' K' : Nat} {z : vp_A} (hn : ¬ n < 0) (hk : ¬ k < 0) (hN : n.toNatClampNeg = N') (hM : k.toNatClampNeg = K')
    (hb1 : N' * 4 ≤ 536870912) (hb2 : K' * componentBytes ty ≤ 536870912) (hb3 : K' ≤ 536870912) (hdf : fits ty (defaultValue ty) = true) (hdd : (defaultValue ty).isDefault = true) (hcells : cells + (1 + N') ≤ R.cells) (hslots : slots + (N' + N' * K') ≤ R.slots) (hz : ∀ c : ClassId, Jvm.Free.Multi.innerC c K' (defaultValue ty) = vp_cell c z) (hdg : decode cc pc = .ok (.multianewarray index 2, 4))
    (kk : ∀ (q : Nat) (r : Nat → Nat) (cA : ClassId) (H1 : Heap), (∀ i j : Nat, i < N' → j < N' → r i = r j → i = j) → (∀ i : Nat, i < N' → r i ∉ L) → va_K D cl (tys ++ [(cA, .array ty)]) s →
      va_P D cl ((X ++ [(q, .inl (cA, N', .inr (.inr (.inr (.inr (fun i => if i < N' then some (r i) else none))))))]) ++ va_pl (L ++ (List.range N').map r) (vr_up f ((List.range N').map r) (.inl (cy, z)))) H1 → va_D A ((X ++ [(q, .inl (cA, N', .inr (.inr (.inr (.inr (fun i => if i < N' then some (r i) else none))))))]) ++ va_pl (L ++ (List.range N').map r) (vr_up f ((List.range N').map r) (.inl (cy, z)))) → va_S A H0 H1 locs →
      W p l e R s m args below meth c H1 locs (cells + 1 + N') (slots + N' + N' * K') Q (F0 m (pc + 4) ls (.ref q :: rest))) : W p l e R s m args below meth c H locs cells slots Q (F0 m pc ls (.int k :: .int n :: rest)) := by
  subst hN
  subst hM
  intro T hT Xs
  obtain ⟨vm₁, cA, comp, -, fA, fC, hO, -, X', step⟩ := Xs.multianewarray2F hexec hown hclink (va_AOA.use hover) harr (g := F0 m pc ls (.int k :: .int n :: rest)) rfl (by rw [hb]; exact hdg) rfl hn hk hb1 hb2 hb3 hdf hdd hcells hslots
  have ec : some cy = some comp := hcy.symm.trans fC
  cases ec
  generalize hF : Jvm.Free.Multi.fill (T.setVm vm₁) cA cy n.toNatClampNeg k.toNatClampNeg (defaultValue ty) n.toNatClampNeg = F at X' step
  have hTh : (T.setVm vm₁).heap = H := hT
  obtain ⟨f1, f2, -, -⟩ := Jvm.Free.Multi.fill_facts (T.setVm vm₁) cA cy n.toNatClampNeg k.toNatClampNeg (defaultValue ty) n.toNatClampNeg
  rw [hF, hTh] at f1 f2
  have hold : ∀ x : Nat, x < H.size → F.heap[x]? = H[x]? := fun x hx => by
    have := Jvm.Free.Multi.fill_old (T.setVm vm₁) cA cy n.toNatClampNeg k.toNatClampNeg (defaultValue ty) (a := x) (by rw [hTh]; exact hx) n.toNatClampNeg
    rw [hF, hTh] at this
    exact this
  have hrow : ∀ j : Nat, j < n.toNatClampNeg → F.heap[H.size + 1 + j]? = some (vp_cell cy z) := fun j hj => by
    have := Jvm.Free.Multi.fill_inner (T.setVm vm₁) cA cy n.toNatClampNeg k.toNatClampNeg (defaultValue ty) n.toNatClampNeg j hj
    rw [hF, hTh, hz] at this
    exact this
  have hout : Jvm.Free.Multi.outerC cA n.toNatClampNeg H.size n.toNatClampNeg = vp_cell cA (n.toNatClampNeg, .inr (.inr (.inr (.inr (fun i => if i < n.toNatClampNeg then some (H.size + 1 + i) else none))))) := by
    rw [vp_cell_q]
    exact vr_outer cA n.toNatClampNeg H.size n.toNatClampNeg
  rw [hout] at f2
  have hlt : ∀ a, a ∈ L → a < H.size := fun a ha => by
    obtain ⟨k9, hk9⟩ := va_pl_get (X := X) (f := f) ha
    exact (hP k9 _ hk9).lt
  have hnl : ∀ i : Nat, i < n.toNatClampNeg → H.size + 1 + i ∉ L := fun i _ h => by
    have := hlt _ h
    omega
  have hnm : ∀ a, a ∈ (List.range n.toNatClampNeg).map (fun i => H.size + 1 + i) → a ∉ L := fun a ha h => by
    obtain ⟨i, -, rfl⟩ := List.mem_map.mp ha
    have := hlt _ h
    omega
  have hP0 : va_P D cl (X ++ va_pl L f) F.heap := hP.kept (fun k9 x hx => hold x.1 ((hP k9 x hx).lt))
  have hP1 : va_P D cl ((X ++ va_pl L f) ++ [(H.size, .inl (cA, n.toNatClampNeg, .inr (.inr (.inr (.inr (fun i => if i < n.toNatClampNeg then some (H.size + 1 + i) else none))))))]) F.heap := hP0.app (fun k9 x hx => by
    have h0 : k9 < 1 := (List.getElem?_eq_some_iff.mp hx).1
    rw [show k9 = 0 by omega] at hx
    cases hx
    exact f2)
  have hP2 : va_P D cl (((X ++ va_pl L f) ++ [(H.size, .inl (cA, n.toNatClampNeg, .inr (.inr (.inr (.inr (fun i => if i < n.toNatClampNeg then some (H.size + 1 + i) else none))))))]) ++ ((List.range n.toNatClampNeg).map (fun i => H.size + 1 + i)).map (fun a => (a, .inl (cy, z)))) F.heap := hP1.app (fun k9 x hx => by
    obtain ⟨a, ha, rfl⟩ := List.mem_map.mp (List.mem_of_getElem? hx)
    obtain ⟨i, hi, rfl⟩ := List.mem_map.mp ha
    exact hrow i (List.mem_range.mp hi))
  have hD2 : va_D A (((X ++ va_pl L f) ++ [(H.size, .inl (cA, n.toNatClampNeg, .inr (.inr (.inr (.inr (fun i => if i < n.toNatClampNeg then some (H.size + 1 + i) else none))))))]) ++ ((List.range n.toNatClampNeg).map (fun i => H.size + 1 + i)).map (fun a => (a, .inl (cy, z)))) := by
    have hD1 := hD.push (e := .inl (cA, n.toNatClampNeg, .inr (.inr (.inr (.inr (fun i => if i < n.toNatClampNeg then some (H.size + 1 + i) else none)))))) hP rfl (hA _ hS.1)
    generalize hW1 : (X ++ va_pl L f) ++ [(H.size, .inl (cA, n.toNatClampNeg, .inr (.inr (.inr (.inr (fun i => if i < n.toNatClampNeg then some (H.size + 1 + i) else none))))))] = W1 at hD1 hP1 ⊢
    have hle : ∀ (k9 : Nat) (x : Nat × va_E), W1[k9]? = some x → x.1 ≤ H.size := fun k9 x hx => by
      rw [← hW1] at hx
      by_cases hl : k9 < (X ++ va_pl L f).length
      · rw [List.getElem?_append_left hl] at hx
        exact Nat.le_of_lt ((hP k9 x hx).lt)
      · rw [List.getElem?_append_right (by omega)] at hx
        have h0 : k9 - (X ++ va_pl L f).length < 1 := (List.getElem?_eq_some_iff.mp hx).1
        rw [show k9 - (X ++ va_pl L f).length = 0 by omega] at hx
        cases hx
        exact Nat.le_refl _
    have hr : ∀ (k9 : Nat) (x : Nat × va_E), (((List.range n.toNatClampNeg).map (fun i => H.size + 1 + i)).map (fun a => ((a, .inl (cy, z)) : Nat × va_E)))[k9]? = some x → x.1 = H.size + 1 + k9 := fun k9 x hx => by
      rw [List.getElem?_map, List.getElem?_map] at hx
      by_cases h9 : k9 < n.toNatClampNeg
      · rw [List.getElem?_range h9] at hx
        cases hx
        rfl
      · have hn0 : (List.range n.toNatClampNeg)[k9]? = none := List.getElem?_eq_none (by rw [List.length_range]; omega)
        rw [hn0] at hx
        cases hx
    refine ⟨fun i j x y hi hj hxy => ?_, fun k9 x hx => ?_⟩
    · by_cases h1 : i < W1.length <;> by_cases h2 : j < W1.length
      · rw [List.getElem?_append_left h1] at hi
        rw [List.getElem?_append_left h2] at hj
        exact hD1.1 i j x y hi hj hxy
      · rw [List.getElem?_append_left h1] at hi
        rw [List.getElem?_append_right (by omega)] at hj
        have := hle _ _ hi
        have := hr _ _ hj
        omega
      · rw [List.getElem?_append_right (by omega)] at hi
        rw [List.getElem?_append_left h2] at hj
        have := hle _ _ hj
        have := hr _ _ hi
        omega
      · rw [List.getElem?_append_right (by omega)] at hi hj
        have := hr _ _ hi
        have := hr _ _ hj
        omega
    · by_cases h1 : k9 < W1.length
      · rw [List.getElem?_append_left h1] at hx
        exact hD1.2 k9 x hx
      · rw [List.getElem?_append_right (by omega)] at hx
        have := hr _ _ hx
        exact hA _ (by have := hS.1; omega)
  have hAr : ArrOfT s cA (.array ty) := fun N9 z9 => by
    obtain ⟨-, k9, hk9, cm9, hkk9⟩ := (hO 0 0 0).1
    exact ⟨(fun q hq => by cases hq), k9, hk9, cm9, hkk9⟩
  have hK2 : va_K D cl (tys ++ [(cA, .array ty)]) s := ⟨hK.1, fun k9 x hx => by
    by_cases hl : k9 < tys.length
    · rw [List.getElem?_append_left hl] at hx
      exact hK.2 k9 x hx
    · rw [List.getElem?_append_right (by omega)] at hx
      have h0 : k9 - tys.length < 1 := (List.getElem?_eq_some_iff.mp hx).1
      rw [show k9 - tys.length = 0 by omega] at hx
      cases hx
      exact ⟨hAr, fA⟩⟩
  obtain ⟨t, a1, b1⟩ := kk H.size (fun i => H.size + 1 + i) cA F.heap (fun i j _ _ h => by have h9 : H.size + 1 + i = H.size + 1 + j := h; omega) hnl hK2 (by rw [← vr_rows hnm]; exact vr_lay hP2) (by rw [← vr_rows hnm]; exact vr_layD hD2) ⟨by rw [f1]; have := hS.1; omega, fun x h1 h2 => (hold x (Nat.lt_of_lt_of_le h1 hS.1)).trans (hS.2.1 x h1 h2), hS.2.2⟩ F rfl X'
  refine ⟨t, step t ?_, b1⟩
  have e : T.heap.size = H.size := by rw [hT]
  rw [e]
  exact a1
end VGM
/-! ===== END ===== -/
section QN
variable {p : Program} {l : Launch} {e : Env} {R : Room} {s : State} {m : MethodId} {args : Array Value} {below : List Frame} {meth : Method} {c : Code} {D : va_G} {A : Nat → Prop} {nL : Nat} {Q : State → Prop} {cc : ByteArray} {own mn : String} {ret : Option FieldType}
-- new int[n][k]
def q_grid (σ : q_S) (q : Nat) (rw : Nat → Nat) (N K : Nat) : q_S := fun b => if b = q then some (.inl (.array .int, N, .inr (.inr (.inr (.inr (fun i => if i < N then some (rw i) else none)))))) else if b ∈ (List.range N).map rw then some (.inl (.int, K, .inl (fun _ => 0))) else σ b
def c_mna (k : q_K) : q_K := fun L st σ cr sr => match st with | .int y :: .int x :: r => ((¬ x < 0) ∧ (¬ y < 0) ∧ x.toNatClampNeg ≤ 1000 ∧ y.toNatClampNeg ≤ 1000 ∧ 1 + x.toNatClampNeg ≤ cr ∧ x.toNatClampNeg + x.toNatClampNeg * y.toNatClampNeg ≤ sr) ∧ ∀ (q : Nat) (rw : Nat → Nat), σ q = none → (∀ i, i < x.toNatClampNeg → σ (rw i) = none ∧ rw i ≠ q) → (∀ i j, i < x.toNatClampNeg → j < x.toNatClampNeg → rw i = rw j → i = j) → k L (.ref q :: r) (q_grid σ q rw x.toNatClampNeg y.toNatClampNeg) (cr - (1 + x.toNatClampNeg)) (sr - (x.toNatClampNeg + x.toNatClampNeg * y.toNatClampNeg)) | _ => False
theorem q_mna (C : q_C p s m args meth c cc nL own mn ret A) {pc idx : Nat} {k : q_K} (hw1 : Cond.classLink own idx "[[I" ∈ lw_tbl) (hw2 : Cond.arrayClass .int ∈ lw_tbl) (d : decode cc pc = .ok (.multianewarray idx 2, 4)) (h : q_V p l e R s m args below meth c D A nL Q (pc + 4) k) : q_V p l e R s m args below meth c D A nL Q pc (c_mna k) := by
  obtain ⟨hx, hb, hml, hown, hts, hN, hA, hr, hlk, hmn⟩ := C
  intro L st σ cr sr H locs cells slots ls hl hw hS h1 h2 hk
  unfold c_mna at hk
  split at hk
  · next y x r =>
      obtain ⟨⟨hx0, hy0, hx1, hy1, hc1, hs1⟩, hk⟩ := hk
      obtain ⟨ws, tys, hK, hP, hD, hrel⟩ := hw
      have hac := hts _ (lw_mem hw2 rfl)
      obtain ⟨cy, ky, comp, f1, f2, f3⟩ := Cond.arrayClass_spec hac
      have hcy : s.vm.findClass (FieldType.array .int).toString = some cy := f1
      have hmul : x.toNatClampNeg * y.toNatClampNeg ≤ 1000 * 1000 := Nat.mul_le_mul hx1 hy1
      have hPx : va_P D q_cl (ws ++ va_pl [] (fun _ => .inr (0, []))) H := by
        show va_P D q_cl (ws ++ []) H
        rw [List.append_nil]; exact hP
      have hDx : va_D A (ws ++ va_pl [] (fun _ => .inr (0, []))) := by
        show va_D A (ws ++ [])
        rw [List.append_nil]; exact hD
      refine va_mna (X := ws) (L := []) (f := fun _ => .inr (0, [])) (ty := .int) (cy := cy) (z := (y.toNatClampNeg, .inl (fun _ => 0))) hx hb hown (hts _ (lw_mem hw1 rfl)) (hN.2.2 _ (by decide)) hac hcy hK hPx hDx hS hA hx0 hy0 rfl rfl (by omega) (by simp [componentBytes]; omega) (by omega) rfl rfl (by omega) (by omega) ?_ d ?_
      · intro c0
        show ({ cls := c0, slots := Array.replicate _ _, vm := .none } : Cell) = _
        rw [arrV_new]
        rfl
      · intro q rw cA H1 hinj hnl hK1 hP1 hD1 hS1
        have hKy : va_K D q_cl [(cy, .int)] s := ⟨hK.1, fun k9 z9 hz9 => by
          have h0 : k9 < 1 := (List.getElem?_eq_some_iff.mp hz9).1
          have h0 : k9 = 0 := by omega
          subst h0
          cases hz9
          exact ⟨fun N9 z9 => ⟨(fun q hq => by cases hq), ky, f2, comp, f3⟩, f1⟩⟩
        have hK2 := hK1.app hKy
        have hi0 : ∀ (j : Nat) (z : Nat × va_E), ws[j]? = some z → ((ws ++ [(q, .inl (cA, x.toNatClampNeg, .inr (.inr (.inr (.inr (fun i => if i < x.toNatClampNeg then some (rw i) else none))))))]) ++ va_pl ([] ++ (List.range x.toNatClampNeg).map rw) (vr_up (fun _ => .inr (0, [])) ((List.range x.toNatClampNeg).map rw) (.inl (cy, (y.toNatClampNeg, .inl (fun _ => 0))))))[j]? = some z := fun j z hj => by
          have hj1 := (List.getElem?_eq_some_iff.mp hj).1
          rw [List.getElem?_append_left (by simp; omega), List.getElem?_append_left hj1]
          exact hj
        have hiq : ((ws ++ [(q, .inl (cA, x.toNatClampNeg, .inr (.inr (.inr (.inr (fun i => if i < x.toNatClampNeg then some (rw i) else none))))))]) ++ va_pl ([] ++ (List.range x.toNatClampNeg).map rw) (vr_up (fun _ => .inr (0, [])) ((List.range x.toNatClampNeg).map rw) (.inl (cy, (y.toNatClampNeg, .inl (fun _ => 0))))))[ws.length]? = some (q, .inl (cA, x.toNatClampNeg, .inr (.inr (.inr (.inr (fun i => if i < x.toNatClampNeg then some (rw i) else none)))))) := by
          rw [List.getElem?_append_left (by simp)]
          simp
        have hir : ∀ i, i < x.toNatClampNeg → ((ws ++ [(q, .inl (cA, x.toNatClampNeg, .inr (.inr (.inr (.inr (fun i => if i < x.toNatClampNeg then some (rw i) else none))))))]) ++ va_pl ([] ++ (List.range x.toNatClampNeg).map rw) (vr_up (fun _ => .inr (0, [])) ((List.range x.toNatClampNeg).map rw) (.inl (cy, (y.toNatClampNeg, .inl (fun _ => 0))))))[ws.length + 1 + i]? = some (rw i, .inl (cy, (y.toNatClampNeg, .inl (fun _ => 0)))) := fun i hi => by
          rw [List.getElem?_append_right (by simp <;> omega)]
          simp only [va_pl, List.nil_append, List.length_append, List.length_cons, List.length_nil, List.getElem?_map]
          rw [show ws.length + 1 + i - (ws.length + (0 + 1)) = i by omega, List.getElem?_range hi]
          simp only [Option.map_some]
          rw [vr_up_in (List.mem_map.mpr ⟨i, List.mem_range.mpr hi, rfl⟩)]
        generalize hW9 : ((ws ++ [(q, .inl (cA, x.toNatClampNeg, .inr (.inr (.inr (.inr (fun i => if i < x.toNatClampNeg then some (rw i) else none))))))]) ++ va_pl ([] ++ (List.range x.toNatClampNeg).map rw) (vr_up (fun _ => .inr (0, [])) ((List.range x.toNatClampNeg).map rw) (.inl (cy, (y.toNatClampNeg, .inl (fun _ => 0)))))) = W9 at hP1 hD1 hi0 hiq hir
        have hfresh : ∀ (b j : Nat) (x9 : va_E), W9[j]? = some (b, x9) → ws.length ≤ j → σ b = none := fun b j x9 hj hle => by
          cases hb9 : σ b with
          | none => rfl
          | some e9 =>
            obtain ⟨i, y9, hi⟩ := (hrel b e9 hb9).at
            have h3 := hD1.1 _ _ _ _ (hi0 _ _ hi) hj rfl
            have h4 := (List.getElem?_eq_some_iff.mp hi).1
            omega
        refine h _ _ _ _ _ _ _ _ _ _ hl ⟨W9, (tys ++ [(cA, .array .int)]) ++ [(cy, .int)], hK2, hP1, hD1, fun b e9 hb9 => ?_⟩ hS1 (by omega) (by omega) (hk q rw (hfresh q _ _ hiq (Nat.le_refl _)) (fun i hi => ⟨hfresh _ _ _ (hir i hi) (by omega), fun h9 => ?_⟩) hinj)
        · unfold q_grid at hb9
          split at hb9
          · next e1 =>
              subst e1
              cases hb9
              exact ⟨ws.length, tys.length, cA, hiq, by simp⟩
          · split at hb9
            · next e2 =>
                obtain ⟨i, hi, rfl⟩ := List.mem_map.mp e2
                cases hb9
                exact ⟨ws.length + 1 + i, tys.length + 1, cy, hir i (List.mem_range.mp hi), by simp⟩
            · exact (hrel b e9 hb9).mono (fun j y9 hj => ⟨j, hi0 _ _ hj⟩) (fun t y9 ht => ⟨t, by
                have ht1 := (List.getElem?_eq_some_iff.mp ht).1
                rw [List.getElem?_append_left (by simp; omega), List.getElem?_append_left ht1]; exact ht⟩)
        · have h3 := hD1.1 _ _ _ _ (hir i hi) hiq (by exact h9)
          omega
  · exact hk.elim
def q_rc (oc : Option Nat) (av : List Value) (σ : q_S) : Prop := match oc with
  | none => True
  | some ci => match av with
    | .ref b :: _ => q_oc σ b = some ci
    | _ => False
def q_CO (p : Program) (l : Launch) (e : Env) (R : Room) (s : State) (m : MethodId) (args : Array Value) (below : List Frame) (meth : Method) (c : Code) (D : va_G) (A : Nat → Prop) (nL : Nat) (Q : State → Prop) (pc np : Nat) (oc : Option Nat) (sp : q_Sp) (mc ms : Nat) : Prop :=
  ∀ (L : List (Option Value)) (rest av : List Value) (σ : q_S) (post : Option Value → q_S → Prop) (H : Heap) (locs : List Loc) (cells slots : Nat) (ls : Array Slot), q_lv ls nL L → q_W D A σ s H → va_S A s.heap H locs → cells + mc ≤ R.cells → slots + ms ≤ R.slots → av.length = np → (rest.map fun v => v.category).sum ≤ 8 → q_rc oc av σ → sp av σ post →
    (∀ (r : Option Value) (σ' : q_S) (H1 : Heap) (locs1 : List Loc), post r σ' → q_W D A σ' s H1 → va_S A s.heap H1 locs1 → W p l e R s m args below meth c H1 locs1 (cells + mc) (slots + ms) Q (F0 m (pc + 3) ls (r.toList ++ rest))) → W p l e R s m args below meth c H locs cells slots Q (F0 m pc ls (av.reverse ++ rest))
theorem q_callW {H : Heap} {locs : List Loc} {cells slots mc ms pc : Nat} {ls : Array Slot} {st0 rest : List Value} {a : Array Value} {post : Option Value → q_S → Prop} (hr : va_Run p l e R s m args below meth c H locs cells slots mc ms (F0 m pc ls st0) rest (q_Qc D A post a) A) (hS : va_S A s.heap H locs)
    (kk : ∀ (r : Option Value) (σ' : q_S) (H1 : Heap) (locs1 : List Loc), post r σ' → q_W D A σ' s H1 → va_S A s.heap H1 locs1 → W p l e R s m args below meth c H1 locs1 (cells + mc) (slots + ms) Q (F0 m (pc + 3) ls (r.toList ++ rest))) : W p l e R s m args below meth c H locs cells slots Q (F0 m pc ls st0) := by
  intro T hT X
  obtain ⟨v, st₀, t, T', L, h0, X', hL, e1, e2, ⟨⟨r, σ', hv, hp, hw⟩, hz, hk⟩, st⟩ := hr T hT X
  cases hv
  rw [h0] at hz hk
  have hal : s.vm.Alike t.vm := by rw [← e2]; exact X'.warmed.alike
  obtain ⟨t2, a1, b1⟩ := kk v σ' T'.heap (locs ++ L) hp (by rw [e1]; exact q_W.moved hal.symm hw)
    ⟨Nat.le_trans hS.1 (by rw [e1]; exact hz), fun q h1 h2 => by rw [e1, hk q (Nat.lt_of_lt_of_le h1 hS.1) h2]; exact hS.2.1 q h1 h2, fun q hq => by
      rcases List.mem_append.mp hq with h | h
      · exact hS.2.2 q h
      · exact hL q h⟩ T' rfl X'
  exact ⟨t2, st t2 a1, b1⟩
theorem q_blind {σ : q_S} {av : List Value} {sz : Nat} : FrameBlind (q_Pc D A σ av sz) := fun a U g mk h => ⟨h.1, h.2.1, q_W.moved (u := U) (U := U.calling g mk a) (Vm.Alike.refl U.vm) h.2.2.1, q_N.same (u := U) (U := U.calling g mk a) rfl h.2.2.2⟩
theorem q_pre {H : Heap} {σ : q_S} (hN : q_N s) (hw : q_W D A σ s H) (av : List Value) : ∀ U : State, U.heap = H → s.WarmedH U.vm → q_Pc D A σ av H.size av.toArray U := fun U hU hW => ⟨rfl, by rw [hU], by rw [hU]; exact q_W.moved hW.alike hw, hN.warm hW⟩
theorem q_coV (C : q_C p s m args meth c cc nL own mn ret A) {pc idx np : Nat} {y : MethodName} {b : ByteArray} {n : Nat} {ret2 : Option FieldType} {ci : Nat} {rc : vw_C} {rm : Room} {sp : q_Sp} (hM : q_Ct l y b n ret2 rm sp) (hwc : Cond.code y b n ret2 ∈ lw_tbl) (hc : q_cl[ci]? = some rc) (hy : y.cls = rc.1) (w1 : Cond.methodLink own idx y ∈ lw_tbl) (w2 : Cond.instanceMethod y ∈ lw_tbl) (w3 : Cond.selects rc.1 y y ∈ lw_tbl) (w4 : Cond.initialized rc.1 ∈ lw_tbl) (hd : y.cls ≠ "java/lang/invoke/MethodHandle" ∧ y.cls ≠ "java/lang/invoke/VarHandle" ∧ (parseMethodDescriptor y.desc).map (fun d => d.parameters.length) = some np) (d : decode cc pc = .ok (.invokevirtual idx, 3)) (hR : rm.frames + 1 ≤ R.frames ∧ 8 + (n + 11) + rm.locals ≤ R.locals) : q_CO p l e R s m args below meth c D A nL Q pc (np + 1) (some ci) sp rm.cells rm.slots := by
  obtain ⟨hx, hb, hml, hown, hts, hN, hA, hr, hlk, hmn⟩ := C
  intro L rest av σ post H locs cells slots ls hl hw hS h1 h2 hn hsum hrc hsp kk
  have hA1 : ∀ q, H.size ≤ q → A q := fun q hq => hA q (Nat.le_trans hS.1 hq)
  match av, hrc with
  | .ref b0 :: As, hrc =>
    obtain ⟨fs, e1⟩ := q_oc_some hrc
    have hw0 := hw
    obtain ⟨ws, tys, hK, hP, hD, hrel⟩ := hw
    obtain ⟨q0, hq⟩ := hrel b0 _ e1
    rw [List.reverse_cons, List.append_assoc]
    refine q_callW (va_runV (C := rc.1) (As := As) (rest := rest) (n := np) ⟨hx, hb, hml, hown, hts⟩ (hM D A H.size σ (.ref b0 :: As) post hA1 hsp) ⟨callB_of np hts (q_goodIn (y := y) (b := b) (n := n) (r := ret2) hwc) rfl rfl rfl (by rw [hy]; exact hts _ (lw_mem w4 rfl)) (hts _ (lw_mem w1 rfl)) hd hR, hts _ (lw_mem w2 rfl), hts _ (lw_mem w3 rfl)⟩ ⟨q_blind, va_recv hK hP hc hq, q_pre hN hw0 _⟩ rfl (by simpa using hn) hl.2.2.1 rfl (lv_room hsum) d ⟨h1, h2⟩) hS kk
theorem q_coS (C : q_C p s m args meth c cc nL own mn ret A) {pc idx np : Nat} {y : MethodName} {b : ByteArray} {n : Nat} {ret2 : Option FieldType} {rm : Room} {sp : q_Sp} (hM : q_Ct l y b n ret2 rm sp) (hwc : Cond.code y b n ret2 ∈ lw_tbl) (w1 : Cond.methodLink own idx y ∈ lw_tbl) (w2 : Cond.static y ∈ lw_tbl) (w4 : Cond.initialized y.cls ∈ lw_tbl) (hd : y.cls ≠ "java/lang/invoke/MethodHandle" ∧ y.cls ≠ "java/lang/invoke/VarHandle" ∧ (parseMethodDescriptor y.desc).map (fun d => d.parameters.length) = some np) (d : decode cc pc = .ok (.invokestatic idx, 3)) (hR : rm.frames + 1 ≤ R.frames ∧ 8 + (n + 11) + rm.locals ≤ R.locals) : q_CO p l e R s m args below meth c D A nL Q pc np none sp rm.cells rm.slots := by
  obtain ⟨hx, hb, hml, hown, hts, hN, hA, hr, hlk, hmn⟩ := C
  intro L rest av σ post H locs cells slots ls hl hw hS h1 h2 hn hsum hrc hsp kk
  have hA1 : ∀ q, H.size ≤ q → A q := fun q hq => hA q (Nat.le_trans hS.1 hq)
  refine q_callW (va_runS (As := av) (rest := rest) (n := np) ⟨hx, hb, hml, hown, hts⟩ (hM D A H.size σ av post hA1 hsp) ⟨callB_of np hts (q_goodIn (y := y) (b := b) (n := n) (r := ret2) hwc) rfl rfl rfl (hts _ (lw_mem w4 rfl)) (hts _ (lw_mem w1 rfl)) hd hR, hts _ (lw_mem w2 rfl)⟩ ⟨q_blind, q_pre hN hw _⟩ rfl hn hl.2.2.1 rfl (lv_room hsum) d ⟨h1, h2⟩) hS kk
theorem q_coSN (C : q_C p s m args meth c cc nL own mn ret A) {pc idx np : Nat} {y : MethodName} {b : ByteArray} {n : Nat} {ret2 : Option FieldType} {rm : Room} {sp : q_Sp} (hM : q_Ct l y b n ret2 rm sp) (hwc : Cond.code y b n ret2 ∈ lw_tbl) (w1 : (own, idx, y) ∈ q_nM) (w2 : Cond.static y ∈ lw_tbl) (w4 : Cond.initialized y.cls ∈ lw_tbl) (hd : y.cls ≠ "java/lang/invoke/MethodHandle" ∧ y.cls ≠ "java/lang/invoke/VarHandle" ∧ (parseMethodDescriptor y.desc).map (fun d => d.parameters.length) = some np) (d : decode cc pc = .ok (.invokestatic idx, 3)) (hR : rm.frames + 1 ≤ R.frames ∧ 8 + (n + 11) + rm.locals ≤ R.locals) : q_CO p l e R s m args below meth c D A nL Q pc np none sp rm.cells rm.slots := by
  obtain ⟨hx, hb, hml, hown, hts, hN, hA, hr, hlk, hmn⟩ := C
  intro L rest av σ post H locs cells slots ls hl hw hS h1 h2 hn hsum hrc hsp kk
  have hA1 : ∀ q, H.size ≤ q → A q := fun q hq => hA q (Nat.le_trans hS.1 hq)
  refine q_callW (va_runSN (host := "CopyRegister") (As := av) (rest := rest) (n := np) ⟨hx, hb, hml, hown, hts⟩ (hM D A H.size σ av post hA1 hsp) ⟨va_cnB np hts (q_goodIn (y := y) (b := b) (n := n) (r := ret2) hwc) rfl rfl rfl (hN.2.1 _ w1) (hts _ (lw_mem w4 rfl)) hd hR, hts _ (lw_mem w2 rfl), trivial⟩ ⟨q_blind, q_pre hN hw _⟩ rfl hn hl.2.2.1 rfl (lv_room hsum) d ⟨h1, h2⟩) hS kk
theorem q_coI (C : q_C p s m args meth c cc nL own mn ret A) {pc idx np : Nat} {y : MethodName} {b : ByteArray} {n : Nat} {rm : Room} {sp : q_Sp} (hM : q_Ct l y b n none rm sp) (hwc : Cond.code y b n none ∈ lw_tbl) (hi : y.name = "<init>") (w1 : Cond.methodLink own idx y ∈ lw_tbl) (w2 : Cond.instanceMethod y ∈ lw_tbl) (w4 : Cond.initialized y.cls ∈ lw_tbl) (hd : y.cls ≠ "java/lang/invoke/MethodHandle" ∧ y.cls ≠ "java/lang/invoke/VarHandle" ∧ (parseMethodDescriptor y.desc).map (fun d => d.parameters.length) = some np) (d : decode cc pc = .ok (.invokespecial idx, 3)) {ci : Nat} (hR : rm.frames + 1 ≤ R.frames ∧ 8 + (n + 11) + rm.locals ≤ R.locals) : q_CO p l e R s m args below meth c D A nL Q pc (np + 1) (some ci) sp rm.cells rm.slots := by
  obtain ⟨hx, hb, hml, hown, hts, hN, hA, hr, hlk, hmn⟩ := C
  intro L rest av σ post H locs cells slots ls hl hw hS h1 h2 hn hsum hrc hsp kk
  have hA1 : ∀ q, H.size ≤ q → A q := fun q hq => hA q (Nat.le_trans hS.1 hq)
  match av, hrc with
  | .ref b0 :: As, hrc =>
    rw [List.reverse_cons, List.append_assoc]
    refine q_callW (va_runI (As := As) (rest := rest) (n := np) ⟨hx, hb, hml, hown, hts⟩ (hM D A H.size σ (.ref b0 :: As) post hA1 hsp) ⟨callB_of np hts (q_goodIn (y := y) (b := b) (n := n) (r := none) hwc) rfl rfl rfl (hts _ (lw_mem w4 rfl)) (hts _ (lw_mem w1 rfl)) hd hR, hi, hts _ (lw_mem w2 rfl)⟩ ⟨q_blind, q_pre hN hw _⟩ rfl (by simpa using hn) hl.2.2.1 rfl (lv_room hsum) d ⟨h1, h2⟩) hS kk
def q_do (oc : Option Nat) (sp : q_Sp) (mc ms : Nat) (k : q_K) (L : List (Option Value)) (σ : q_S) (cr sr : Nat) (av rest : List Value) : Prop := (mc ≤ cr ∧ ms ≤ sr ∧ (rest.map fun v => v.category).sum ≤ 8 ∧ q_rc oc av σ) ∧ sp av σ (fun r σ' => k L (r.toList ++ rest) σ' (cr - mc) (sr - ms))
def c_call0 (oc : Option Nat) (sp : q_Sp) (mc ms : Nat) (k : q_K) : q_K := fun L st σ cr sr => q_do oc sp mc ms k L σ cr sr [] st
theorem q_call0 (C : q_C p s m args meth c cc nL own mn ret A) {pc : Nat} {k : q_K} {oc : Option Nat} {sp : q_Sp} {mc ms : Nat} (hco : q_CO p l e R s m args below meth c D A nL Q pc 0 oc sp mc ms) (h : q_V p l e R s m args below meth c D A nL Q (pc + 3) k) : q_V p l e R s m args below meth c D A nL Q pc (c_call0 oc sp mc ms k) := by
  obtain ⟨hx, hb, hml, hown, hts, hN, hA, hr, hlk, hmn⟩ := C
  intro L st σ cr sr H locs cells slots ls hl hw hS h1 h2 hk
  unfold c_call0 at hk
  obtain ⟨⟨g1, g2, g3, g4⟩, hk⟩ := hk
  exact hco L st [] σ _ H locs cells slots ls hl hw hS (by omega) (by omega) rfl g3 g4 hk (fun r σ' H1 locs1 hp hw1 hS1 => h _ _ _ _ _ _ _ _ _ _ hl hw1 hS1 (by omega) (by omega) hp)
def c_call1 (oc : Option Nat) (sp : q_Sp) (mc ms : Nat) (k : q_K) : q_K := fun L st σ cr sr => match st with | a1 :: r => q_do oc sp mc ms k L σ cr sr [a1] r | _ => False
theorem q_call1 (C : q_C p s m args meth c cc nL own mn ret A) {pc : Nat} {k : q_K} {oc : Option Nat} {sp : q_Sp} {mc ms : Nat} (hco : q_CO p l e R s m args below meth c D A nL Q pc 1 oc sp mc ms) (h : q_V p l e R s m args below meth c D A nL Q (pc + 3) k) : q_V p l e R s m args below meth c D A nL Q pc (c_call1 oc sp mc ms k) := by
  obtain ⟨hx, hb, hml, hown, hts, hN, hA, hr, hlk, hmn⟩ := C
  intro L st σ cr sr H locs cells slots ls hl hw hS h1 h2 hk
  unfold c_call1 at hk
  split at hk
  · next a1 r =>
      obtain ⟨⟨g1, g2, g3, g4⟩, hk⟩ := hk
      exact hco L r [a1] σ _ H locs cells slots ls hl hw hS (by omega) (by omega) rfl g3 g4 hk (fun r9 σ' H1 locs1 hp hw1 hS1 => h _ _ _ _ _ _ _ _ _ _ hl hw1 hS1 (by omega) (by omega) hp)
  · exact hk.elim
def c_call2 (oc : Option Nat) (sp : q_Sp) (mc ms : Nat) (k : q_K) : q_K := fun L st σ cr sr => match st with | a2 :: a1 :: r => q_do oc sp mc ms k L σ cr sr [a1, a2] r | _ => False
theorem q_call2 (C : q_C p s m args meth c cc nL own mn ret A) {pc : Nat} {k : q_K} {oc : Option Nat} {sp : q_Sp} {mc ms : Nat} (hco : q_CO p l e R s m args below meth c D A nL Q pc 2 oc sp mc ms) (h : q_V p l e R s m args below meth c D A nL Q (pc + 3) k) : q_V p l e R s m args below meth c D A nL Q pc (c_call2 oc sp mc ms k) := by
  obtain ⟨hx, hb, hml, hown, hts, hN, hA, hr, hlk, hmn⟩ := C
  intro L st σ cr sr H locs cells slots ls hl hw hS h1 h2 hk
  unfold c_call2 at hk
  split at hk
  · next a2 a1 r =>
      obtain ⟨⟨g1, g2, g3, g4⟩, hk⟩ := hk
      exact hco L r [a1, a2] σ _ H locs cells slots ls hl hw hS (by omega) (by omega) rfl g3 g4 hk (fun r9 σ' H1 locs1 hp hw1 hS1 => h _ _ _ _ _ _ _ _ _ _ hl hw1 hS1 (by omega) (by omega) hp)
  · exact hk.elim
def c_call3 (oc : Option Nat) (sp : q_Sp) (mc ms : Nat) (k : q_K) : q_K := fun L st σ cr sr => match st with | a3 :: a2 :: a1 :: r => q_do oc sp mc ms k L σ cr sr [a1, a2, a3] r | _ => False
theorem q_call3 (C : q_C p s m args meth c cc nL own mn ret A) {pc : Nat} {k : q_K} {oc : Option Nat} {sp : q_Sp} {mc ms : Nat} (hco : q_CO p l e R s m args below meth c D A nL Q pc 3 oc sp mc ms) (h : q_V p l e R s m args below meth c D A nL Q (pc + 3) k) : q_V p l e R s m args below meth c D A nL Q pc (c_call3 oc sp mc ms k) := by
  obtain ⟨hx, hb, hml, hown, hts, hN, hA, hr, hlk, hmn⟩ := C
  intro L st σ cr sr H locs cells slots ls hl hw hS h1 h2 hk
  unfold c_call3 at hk
  split at hk
  · next a3 a2 a1 r =>
      obtain ⟨⟨g1, g2, g3, g4⟩, hk⟩ := hk
      exact hco L r [a1, a2, a3] σ _ H locs cells slots ls hl hw hS (by omega) (by omega) rfl g3 g4 hk (fun r9 σ' H1 locs1 hp hw1 hS1 => h _ _ _ _ _ _ _ _ _ _ hl hw1 hS1 (by omega) (by omega) hp)
  · exact hk.elim
def c_call4 (oc : Option Nat) (sp : q_Sp) (mc ms : Nat) (k : q_K) : q_K := fun L st σ cr sr => match st with | a4 :: a3 :: a2 :: a1 :: r => q_do oc sp mc ms k L σ cr sr [a1, a2, a3, a4] r | _ => False
theorem q_call4 (C : q_C p s m args meth c cc nL own mn ret A) {pc : Nat} {k : q_K} {oc : Option Nat} {sp : q_Sp} {mc ms : Nat} (hco : q_CO p l e R s m args below meth c D A nL Q pc 4 oc sp mc ms) (h : q_V p l e R s m args below meth c D A nL Q (pc + 3) k) : q_V p l e R s m args below meth c D A nL Q pc (c_call4 oc sp mc ms k) := by
  obtain ⟨hx, hb, hml, hown, hts, hN, hA, hr, hlk, hmn⟩ := C
  intro L st σ cr sr H locs cells slots ls hl hw hS h1 h2 hk
  unfold c_call4 at hk
  split at hk
  · next a4 a3 a2 a1 r =>
      obtain ⟨⟨g1, g2, g3, g4⟩, hk⟩ := hk
      exact hco L r [a1, a2, a3, a4] σ _ H locs cells slots ls hl hw hS (by omega) (by omega) rfl g3 g4 hk (fun r9 σ' H1 locs1 hp hw1 hS1 => h _ _ _ _ _ _ _ _ _ _ hl hw1 hS1 (by omega) (by omega) hp)
  · exact hk.elim
def c_call5 (oc : Option Nat) (sp : q_Sp) (mc ms : Nat) (k : q_K) : q_K := fun L st σ cr sr => match st with | a5 :: a4 :: a3 :: a2 :: a1 :: r => q_do oc sp mc ms k L σ cr sr [a1, a2, a3, a4, a5] r | _ => False
theorem q_call5 (C : q_C p s m args meth c cc nL own mn ret A) {pc : Nat} {k : q_K} {oc : Option Nat} {sp : q_Sp} {mc ms : Nat} (hco : q_CO p l e R s m args below meth c D A nL Q pc 5 oc sp mc ms) (h : q_V p l e R s m args below meth c D A nL Q (pc + 3) k) : q_V p l e R s m args below meth c D A nL Q pc (c_call5 oc sp mc ms k) := by
  obtain ⟨hx, hb, hml, hown, hts, hN, hA, hr, hlk, hmn⟩ := C
  intro L st σ cr sr H locs cells slots ls hl hw hS h1 h2 hk
  unfold c_call5 at hk
  split at hk
  · next a5 a4 a3 a2 a1 r =>
      obtain ⟨⟨g1, g2, g3, g4⟩, hk⟩ := hk
      exact hco L r [a1, a2, a3, a4, a5] σ _ H locs cells slots ls hl hw hS (by omega) (by omega) rfl g3 g4 hk (fun r9 σ' H1 locs1 hp hw1 hS1 => h _ _ _ _ _ _ _ _ _ _ hl hw1 hS1 (by omega) (by omega) hp)
  · exact hk.elim
def c_call6 (oc : Option Nat) (sp : q_Sp) (mc ms : Nat) (k : q_K) : q_K := fun L st σ cr sr => match st with | a6 :: a5 :: a4 :: a3 :: a2 :: a1 :: r => q_do oc sp mc ms k L σ cr sr [a1, a2, a3, a4, a5, a6] r | _ => False
theorem q_call6 (C : q_C p s m args meth c cc nL own mn ret A) {pc : Nat} {k : q_K} {oc : Option Nat} {sp : q_Sp} {mc ms : Nat} (hco : q_CO p l e R s m args below meth c D A nL Q pc 6 oc sp mc ms) (h : q_V p l e R s m args below meth c D A nL Q (pc + 3) k) : q_V p l e R s m args below meth c D A nL Q pc (c_call6 oc sp mc ms k) := by
  obtain ⟨hx, hb, hml, hown, hts, hN, hA, hr, hlk, hmn⟩ := C
  intro L st σ cr sr H locs cells slots ls hl hw hS h1 h2 hk
  unfold c_call6 at hk
  split at hk
  · next a6 a5 a4 a3 a2 a1 r =>
      obtain ⟨⟨g1, g2, g3, g4⟩, hk⟩ := hk
      exact hco L r [a1, a2, a3, a4, a5, a6] σ _ H locs cells slots ls hl hw hS (by omega) (by omega) rfl g3 g4 hk (fun r9 σ' H1 locs1 hp hw1 hS1 => h _ _ _ _ _ _ _ _ _ _ hl hw1 hS1 (by omega) (by omega) hp)
  · exact hk.elim
def c_call7 (oc : Option Nat) (sp : q_Sp) (mc ms : Nat) (k : q_K) : q_K := fun L st σ cr sr => match st with | a7 :: a6 :: a5 :: a4 :: a3 :: a2 :: a1 :: r => q_do oc sp mc ms k L σ cr sr [a1, a2, a3, a4, a5, a6, a7] r | _ => False
theorem q_call7 (C : q_C p s m args meth c cc nL own mn ret A) {pc : Nat} {k : q_K} {oc : Option Nat} {sp : q_Sp} {mc ms : Nat} (hco : q_CO p l e R s m args below meth c D A nL Q pc 7 oc sp mc ms) (h : q_V p l e R s m args below meth c D A nL Q (pc + 3) k) : q_V p l e R s m args below meth c D A nL Q pc (c_call7 oc sp mc ms k) := by
  obtain ⟨hx, hb, hml, hown, hts, hN, hA, hr, hlk, hmn⟩ := C
  intro L st σ cr sr H locs cells slots ls hl hw hS h1 h2 hk
  unfold c_call7 at hk
  split at hk
  · next a7 a6 a5 a4 a3 a2 a1 r =>
      obtain ⟨⟨g1, g2, g3, g4⟩, hk⟩ := hk
      exact hco L r [a1, a2, a3, a4, a5, a6, a7] σ _ H locs cells slots ls hl hw hS (by omega) (by omega) rfl g3 g4 hk (fun r9 σ' H1 locs1 hp hw1 hS1 => h _ _ _ _ _ _ _ _ _ _ hl hw1 hS1 (by omega) (by omega) hp)
  · exact hk.elim
end QN
section QR
variable {p : Program} {l : Launch} {e : Env} {R : Room} {s : State} {m : MethodId} {args : Array Value} {below : List Frame} {meth : Method} {c : Code} {D : va_G} {A : Nat → Prop} {nL : Nat} {cc : ByteArray} {own mn : String} {ret : Option FieldType} {post : Option Value → q_S → Prop}
theorem q_end {σ : q_S} {r : Option Value} {H : Heap} {locs : List Loc} (hw : q_W D A σ s H) (hS : va_S A s.heap H locs) (hp : post r σ) : ∀ t : State, t.heap = H → s.WarmedH t.vm → q_Qc D A post args s (.returned r) t := fun t ht hW => ⟨⟨r, σ, rfl, hp, by rw [ht]; exact q_W.moved hW.alike hw⟩, hS.F ht⟩
def c_iret (post : Option Value → q_S → Prop) : q_K := fun _ st σ _ _ => match st with | [.int v] => post (some (.int v)) σ | _ => False
def c_zret (post : Option Value → q_S → Prop) : q_K := fun _ st σ _ _ => match st with | [.int v] => (v = 0 ∨ v = 1) ∧ post (some (.int v)) σ | _ => False
def c_aret (post : Option Value → q_S → Prop) : q_K := fun _ st σ _ _ => match st with | [.ref a] => post (some (.ref a)) σ | [.null] => post (some .null) σ | _ => False
def c_vret (post : Option Value → q_S → Prop) : q_K := fun _ st σ _ _ => match st with | [] => post none σ | _ => False
theorem q_iret (C : q_C p s m args meth c cc nL own mn ret A) {pc : Nat} (hret : ret = some .int) (d : decode cc pc = .ok (.ireturn, 1)) : q_V p l e R s m args below meth c D A nL (MQ below (q_Qc D A post) args s R.cells R.slots A) pc (c_iret post) := by
  obtain ⟨hx, hb, hml, hown, hts, hN, hA, hr, hlk, hmn⟩ := C
  intro L st σ cr sr H locs cells slots ls hl hw hS h1 h2 hk
  refine W.widen (k := R.cells) (n := R.slots) (by omega) (by omega) ?_
  unfold c_iret at hk
  split at hk
  · exact W.iret hx hb (hr.trans hret) (q_end hw hS hk) hS.2.2 d
  · exact hk.elim
theorem q_zret (C : q_C p s m args meth c cc nL own mn ret A) {pc : Nat} (hret : ret = some .boolean) (d : decode cc pc = .ok (.ireturn, 1)) : q_V p l e R s m args below meth c D A nL (MQ below (q_Qc D A post) args s R.cells R.slots A) pc (c_zret post) := by
  obtain ⟨hx, hb, hml, hown, hts, hN, hA, hr, hlk, hmn⟩ := C
  intro L st σ cr sr H locs cells slots ls hl hw hS h1 h2 hk
  refine W.widen (k := R.cells) (n := R.slots) (by omega) (by omega) ?_
  unfold c_zret at hk
  split at hk
  · next v => exact W.zret hx hb (hr.trans hret) (by rcases hk.1 with rfl | rfl <;> decide) (q_end hw hS hk.2) hS.2.2 d
  · exact hk.elim
theorem q_aret (C : q_C p s m args meth c cc nL own mn ret A) {pc : Nat} {rt : FieldType} (hret : ret = some rt) (hrt : (∃ n, rt = .object n) ∨ ∃ t, rt = .array t) (d : decode cc pc = .ok (.areturn, 1)) : q_V p l e R s m args below meth c D A nL (MQ below (q_Qc D A post) args s R.cells R.slots A) pc (c_aret post) := by
  obtain ⟨hx, hb, hml, hown, hts, hN, hA, hr, hlk, hmn⟩ := C
  intro L st σ cr sr H locs cells slots ls hl hw hS h1 h2 hk
  refine W.widen (k := R.cells) (n := R.slots) (by omega) (by omega) ?_
  unfold c_aret at hk
  split at hk
  · next a => exact W.aret hx hb (hr.trans hret) hrt (Or.inr ⟨a, rfl⟩) (q_end hw hS hk) hS.2.2 d
  · exact W.aret hx hb (hr.trans hret) hrt (Or.inl rfl) (q_end hw hS hk) hS.2.2 d
  · exact hk.elim
theorem q_vret (C : q_C p s m args meth c cc nL own mn ret A) {pc : Nat} (hret : ret = none) (d : decode cc pc = .ok (.return_, 1)) : q_V p l e R s m args below meth c D A nL (MQ below (q_Qc D A post) args s R.cells R.slots A) pc (c_vret post) := by
  obtain ⟨hx, hb, hml, hown, hts, hN, hA, hr, hlk, hmn⟩ := C
  intro L st σ cr sr H locs cells slots ls hl hw hS h1 h2 hk
  refine W.widen (k := R.cells) (n := R.slots) (by omega) (by omega) ?_
  unfold c_vret at hk
  split at hk
  · exact W.vret hx hb (hr.trans hret) (q_end hw hS hk) hS.2.2 d
  · exact hk.elim
end QR
-- entry
theorem q_args {vs : List Value} (hc : ∀ v ∈ vs, v.category = 1) : ∀ (k i : Nat) (v : Value), vs[i]? = some v → (k + i, v) ∈ lv_args k vs := by
  induction vs with
  | nil => intro k i v h; simp at h
  | cons a t ih =>
    intro k i v h
    have ha : ¬ a.category = 2 := by rw [hc a List.mem_cons_self]; decide
    unfold lv_args
    rw [if_neg ha]
    cases i with
    | zero => simp at h; subst h; exact List.mem_cons_self
    | succ j =>
      have h3 := ih (fun v hv => hc v (List.mem_cons_of_mem _ hv)) (k + 1) j v (by simpa using h)
      rw [show k + (j + 1) = k + 1 + j by omega]
      exact List.mem_cons_of_mem _ h3
theorem q_sl {vs : List Value} (hc : ∀ v ∈ vs, v.category = 1) : (lg_sl vs).length = vs.length := by
  induction vs with
  | nil => rfl
  | cons a t ih =>
    have ha : ¬ a.category = 2 := by rw [hc a List.mem_cons_self]; decide
    have := ih (fun v hv => hc v (List.mem_cons_of_mem _ hv))
    unfold lg_sl at this ⊢
    rw [List.flatMap_cons, if_neg ha]
    simp [this]
def q_L0 (av : List Value) (n : Nat) : List (Option Value) := av.map some ++ List.replicate (n - av.length) none
theorem q_L0_get {av : List Value} {n i : Nat} {v : Value} (h : (q_L0 av n)[i]? = some (some v)) : av[i]? = some v := by
  unfold q_L0 at h
  by_cases hi : i < av.length
  · rw [List.getElem?_append_left (by simpa using hi), List.getElem?_map] at h
    cases ha : av[i]? with
    | none => rw [ha] at h; cases h
    | some w => rw [ha] at h; simpa using h
  · rw [List.getElem?_append_right (by simp; omega)] at h
    have := List.getElem?_replicate (a := (none : Option Value)) (n := n - av.length) (i := i - (av.map some).length)
    rw [this] at h
    split at h <;> cases h
theorem q_met {l : Launch} {y : MethodName} {b : ByteArray} {n : Nat} {ret : Option FieldType} {rm : Room} {sp : q_Sp} (hy : plainName y.cls = true)
    (body : ∀ (D : va_G) (A : Nat → Prop) (p : Program) (e : Env) (s : State) (m : MethodId) (args : Array Value) (below : List Frame) (meth : Method) (c : Code) (σ : q_S) (av : List Value) (post : Option Value → q_S → Prop), q_C p s m args meth c b n y.cls y.name ret A → sp av σ post →
      ∃ K : q_K, q_V p l e rm s m args below meth c D A n (MQ below (q_Qc D A post) args s rm.cells rm.slots A) 0 K ∧ K (q_L0 av n) [] σ rm.cells rm.slots ∧ av.length ≤ n ∧ ∀ v ∈ av, v.category = 1) : q_Ct l y b n ret rm sp := by
  intro D A sz σ av post hA hsp
  refine Met.ofW (cc := b) (maxL := n) (ret := ret) hy rfl ?_
  intro p e s m args below meth c s₁ B hml hv
  obtain ⟨rfl, hsz, hw, hN⟩ := hv
  have hts := atoms_spec (ws := q_ws y b n ret) B.pre
  have C : q_C p s m av.toArray meth c b n y.cls y.name ret A := ⟨B.exec, B.bytes, hml, findClass_of_methodNamed B.named, fun w hw => hts w (List.mem_cons_of_mem _ hw), hN, by rw [hsz]; exact hA, B.returns, B.notSynchronized, (name_of_methodNamed B.named B.method).1⟩
  obtain ⟨K, hV, hK, hlen, hcat⟩ := body D A p e s m av.toArray below meth c σ av post C hsp
  have hl := lv_entry av (n := n) (by rw [q_sl hcat]; exact hlen)
  rw [lg_entry_eq]
  refine hV (q_L0 av n) [] σ rm.cells rm.slots s.heap [] 0 0 _ ⟨by simp [q_L0]; omega, fun i v h => hcat v (List.mem_of_getElem? (q_L0_get h)), hl.1, hl.2.1, fun q hq => ?_⟩ hw va_S.rf (by omega) (by omega) hK
  obtain ⟨i, v⟩ := q
  have h1 := q_args hcat 0 i v (q_L0_get (q_al_mem.mp hq))
  rw [Nat.zero_add] at h1
  exact hl.2.2 _ h1
-- the rule of consequence and the frame rule
theorem q_conseq {l : Launch} {y : MethodName} {ws : List Cond} {rm : Room} {Pc Pc' : Array Value → State → Prop} {Qc Qc' : Array Value → State → Outcome → State → Prop} {mc ms : Nat} {free free' : Addr → Prop} (h : Met l y ws rm Pc Qc mc ms free) (hp : ∀ a s, Pc' a s → Pc a s) (hq : ∀ a s o t, Pc' a s → Qc a s o t → s.WarmedH t.vm → Qc' a s o t) (hf : ∀ a s, Pc' a s → ∀ q, free q → free' q) : Met l y ws rm Pc' Qc' mc ms free' := by
  intro p e h1 h2 h3 s m args below h4 h5 hP hK
  obtain ⟨n, o, a1, a2, a3, a4, L, a5, a6⟩ := h p e h1 h2 h3 s m args below h4 h5 (hp _ _ hP) hK
  exact ⟨n, o, a1, a2, a3, hq _ _ _ _ hP a4 a5.2.1, L, a5, fun q hq => hf _ _ hP _ (a6 q hq)⟩
def q_fr (sp : q_Sp) : q_Sp := fun av σ post => ∃ σ1 : q_S, (∀ a e, σ1 a = some e → σ a = some e) ∧ sp av σ1 (fun r σ2 => ∀ σ' : q_S, (∀ a e, σ2 a = some e → σ' a = some e) → (∀ a e, σ1 a = none → σ a = some e → σ' a = some e ∧ σ2 a = none) → post r σ')
theorem q_nd {ws : va_W} : (∀ (i j : Nat) (p q : Nat × va_E), ws[i]? = some p → ws[j]? = some q → p.1 = q.1 → i = j) ↔ (ws.map (fun x => x.1)).Nodup := by
  rw [List.nodup_iff_pairwise_ne, List.pairwise_iff_getElem]
  constructor
  · intro h i j hi hj hij he
    rw [List.length_map] at hi hj
    rw [List.getElem_map, List.getElem_map] at he
    have := h i j _ _ (List.getElem?_eq_getElem hi) (List.getElem?_eq_getElem hj) he
    omega
  · intro h i j p q hp hq he
    obtain ⟨hi, rfl⟩ := List.getElem?_eq_some_iff.mp hp
    obtain ⟨hj, rfl⟩ := List.getElem?_eq_some_iff.mp hq
    rcases Nat.lt_trichotomy i j with hlt | heq | hgt
    · exact absurd (by rw [List.getElem_map, List.getElem_map]; exact he) (h i j (by simpa using hi) (by simpa using hj) hlt)
    · exact heq
    · exact absurd (by rw [List.getElem_map, List.getElem_map]; exact he.symm) (h j i (by simpa using hj) (by simpa using hi) hgt)
theorem q_fil {ws : va_W} {f : Nat × va_E → Bool} {k : Nat} {q : Nat × va_E} (h : (ws.filter f)[k]? = some q) : f q = true ∧ ∃ j : Nat, ws[j]? = some q := by
  have h1 := List.mem_filter.mp (List.mem_of_getElem? h)
  exact ⟨h1.2, List.getElem?_of_mem h1.1⟩
theorem q_fil2 {ws : va_W} {f : Nat × va_E → Bool} {k : Nat} {q : Nat × va_E} (h : ws[k]? = some q) (hf : f q = true) : ∃ j : Nat, (ws.filter f)[j]? = some q :=
  List.getElem?_of_mem (List.mem_filter.mpr ⟨List.mem_of_getElem? h, hf⟩)
theorem va_D.fil {A B : Nat → Prop} {ws : va_W} (h : va_D A ws) (f : Nat × va_E → Bool) (hB : ∀ x, f x = true → A x.1 → B x.1) : va_D B (ws.filter f) := by
  refine ⟨q_nd.mpr ?_, fun k q hk => ?_⟩
  · exact (q_nd.mp h.1).sublist (List.filter_sublist.map _)
  · obtain ⟨h1, j, hj⟩ := q_fil hk
    exact hB q h1 (h.2 j q hj)
def q_mix (σ σ1 σ2 : q_S) : q_S := fun a => match σ2 a with
  | some e => some e
  | none => if (σ1 a).isSome then none else σ a
theorem q_frame {l : Launch} {y : MethodName} {b : ByteArray} {n : Nat} {ret : Option FieldType} {rm : Room} {sp : q_Sp} (h : q_Ct l y b n ret rm sp) : q_Ct l y b n ret rm (q_fr sp) := by
  intro D A sz σ av post hA hsp
  obtain ⟨σ1, hsub, hsp⟩ := hsp
  have hM := h D (fun q => (σ1 q).isSome = true ∨ sz ≤ q) sz σ1 av _ (fun q hq => Or.inr hq) hsp
  have hAA : ∀ (U : State) (H : Heap), q_W D A σ U H → ∀ q, ((σ1 q).isSome = true ∨ sz ≤ q) → A q := fun U H hw q hq => by
    rcases hq with hq | hq
    · obtain ⟨e, he⟩ := Option.isSome_iff_exists.mp hq
      obtain ⟨ws, tys, hK, hP, hD, hrel⟩ := hw
      obtain ⟨k, e', hk⟩ := (hrel q e (hsub q e he)).at
      exact hD.2 k _ hk
    · exact hA q hq
  refine q_conseq hM ?_ ?_ ?_
  · intro a U hp
    obtain ⟨ha, hsz, hw, hN⟩ := hp
    refine ⟨ha, hsz, ?_, hN⟩
    obtain ⟨ws, tys, hK, hP, hD, hrel⟩ := hw
    refine ⟨ws.filter (fun x => (σ1 x.1).isSome), tys, hK, fun k q hk => ?_, hD.fil _ (fun x hx _ => Or.inl hx), fun a e he => ?_⟩
    · obtain ⟨-, j, hj⟩ := q_fil hk
      exact hP j q hj
    · refine (hrel a e (hsub a e he)).mono (fun k x hk => q_fil2 hk (by rw [he]; rfl)) (fun t x ht => ⟨t, ht⟩)
  · intro a U o t hp hq hW
    obtain ⟨ha, hsz, hw, hN⟩ := hp
    obtain ⟨⟨r, σ2, ho, hpost, hw2⟩, hF⟩ := hq
    have hAA1 := hAA _ _ hw
    obtain ⟨ws, tys, hK, hP, hD, hrel⟩ := hw
    obtain ⟨ws2, tys2, hK2, hP2, hD2, hrel2⟩ := hw2
    have hout : ∀ (k : Nat) (x : Nat × va_E), ws[k]? = some x → (σ1 x.1).isSome = false → ¬ ((σ1 x.1).isSome = true ∨ sz ≤ x.1) := fun k x hk hx h9 => by
      have hlt := (hP k x hk).lt
      rcases h9 with h9 | h9
      · rw [hx] at h9; cases h9
      · omega
    have hnone : ∀ a e, σ1 a = none → σ a = some e → σ2 a = none := fun a e h1 h2 => by
      cases h3 : σ2 a with
      | none => rfl
      | some e2 =>
        obtain ⟨k, x, hk⟩ := (hrel2 a e2 h3).at
        obtain ⟨j, x', hj⟩ := (hrel a e h2).at
        have h4 := hD2.2 k (a, x) hk
        exact ((hout j (a, x') hj (by simp [h1])) h4).elim
    refine ⟨⟨r, q_mix σ σ1 σ2, ho, hpost _ (fun a e he => by simp [q_mix, he]) (fun a e h1 h2 => ⟨by simp [q_mix, hnone a e h1 h2, h1, h2], hnone a e h1 h2⟩), ?_⟩, hF.1, fun q h1 h2 => hF.2 q h1 (fun h9 => h2 (hAA1 q h9))⟩
    refine ⟨ws2 ++ ws.filter (fun x => !(σ1 x.1).isSome), tys2 ++ tys, hK2.app (va_K.moved hW.alike hK), hP2.app (fun k x hk => ?_), ⟨q_nd.mpr ?_, fun k x hk => ?_⟩, fun a e he => ?_⟩
    · obtain ⟨h1, j, hj⟩ := q_fil hk
      refine (hP j x hj).kept (hF.2 x.1 ?_ (hout j x hj (by simpa using h1)))
      exact (hP j x hj).lt
    · rw [List.map_append, List.nodup_append]
      refine ⟨q_nd.mp hD2.1, (q_nd.mp hD.1).sublist (List.filter_sublist.map _), fun a ha b hb hab => ?_⟩
      obtain ⟨x, hx, rfl⟩ := List.mem_map.mp ha
      obtain ⟨z, hz, rfl⟩ := List.mem_map.mp hb
      obtain ⟨k, hk⟩ := List.getElem?_of_mem hx
      obtain ⟨j, hj⟩ := List.getElem?_of_mem hz
      obtain ⟨h1, j2, hj2⟩ := q_fil hj
      have h3 := hD2.2 k _ hk
      rw [hab] at h3
      exact hout j2 z hj2 (by simpa using h1) h3
    · rcases List.mem_append.mp (List.mem_of_getElem? hk) with hm | hm
      · obtain ⟨j, hj⟩ := List.getElem?_of_mem hm
        exact hAA1 _ (hD2.2 j x hj)
      · obtain ⟨j, hj⟩ := List.getElem?_of_mem hm
        obtain ⟨-, j2, hj2⟩ := q_fil hj
        exact hD.2 j2 x hj2
    · unfold q_mix at he
      split at he
      · next e2 h2 =>
          refine (hrel2 a e (h2.trans he)).mono (fun k x hk => ⟨k, ?_⟩) (fun t x ht => ⟨t, ?_⟩)
          · rw [List.getElem?_append_left (List.getElem?_eq_some_iff.mp hk).1]; exact hk
          · rw [List.getElem?_append_left (List.getElem?_eq_some_iff.mp ht).1]; exact ht
      · next h2 =>
          split at he
          · cases he
          · next h3 =>
              refine (hrel a e he).mono (fun k x hk => ?_) (fun t x ht => ?_)
              · exact List.getElem?_of_mem (List.mem_append_right _ (List.mem_filter.mpr ⟨List.mem_of_getElem? hk, by simpa using h3⟩))
              · exact List.getElem?_of_mem (List.mem_append_right _ (List.mem_of_getElem? ht))
  · intro a U hp q hq
    exact hAA _ _ hp.2.2.1 q hq
end
section
theorem iX0 : ∀ w ∈ u_ws RX0 TX0 5, w ∈ lw_tbl := by decide +kernel
theorem giX0 : ∀ w ∈ u_ws RX0 TX0 5, goodWord w = true := by decide +kernel
theorem iX1 : ∀ w ∈ u_ws RX1 TX1 2, w ∈ lw_tbl := by decide +kernel
theorem giX1 : ∀ w ∈ u_ws RX1 TX1 2, goodWord w = true := by decide +kernel
theorem iX2 : ∀ w ∈ u_ws RX2 TX2 2, w ∈ lw_tbl := by decide +kernel
theorem giX2 : ∀ w ∈ u_ws RX2 TX2 2, goodWord w = true := by decide +kernel
theorem iX3 : ∀ w ∈ u_ws RX3 TX3 1, w ∈ lw_tbl := by decide +kernel
theorem giX3 : ∀ w ∈ u_ws RX3 TX3 1, goodWord w = true := by decide +kernel
theorem iX4 : ∀ w ∈ u_ws RX4 TX4 6, w ∈ lw_tbl := by decide +kernel
theorem giX4 : ∀ w ∈ u_ws RX4 TX4 6, goodWord w = true := by decide +kernel
theorem iX5 : ∀ w ∈ u_ws RX5 TX5 2, w ∈ lw_tbl := by decide +kernel
theorem giX5 : ∀ w ∈ u_ws RX5 TX5 2, goodWord w = true := by decide +kernel
theorem iX6 : ∀ w ∈ u_ws RX6 TX6 3, w ∈ lw_tbl := by decide +kernel
theorem giX6 : ∀ w ∈ u_ws RX6 TX6 3, goodWord w = true := by decide +kernel
theorem iX7 : ∀ w ∈ u_ws RX7 TX7 3, w ∈ lw_tbl := by decide +kernel
theorem giX7 : ∀ w ∈ u_ws RX7 TX7 3, goodWord w = true := by decide +kernel
theorem iX8 : ∀ w ∈ u_ws RX8 TX8 2, w ∈ lw_tbl := by decide +kernel
theorem giX8 : ∀ w ∈ u_ws RX8 TX8 2, goodWord w = true := by decide +kernel
theorem iX9 : ∀ w ∈ u_ws RX9 TX9 5, w ∈ lw_tbl := by decide +kernel
theorem giX9 : ∀ w ∈ u_ws RX9 TX9 5, goodWord w = true := by decide +kernel
theorem iX10 : ∀ w ∈ u_ws RX10 TX10 10, w ∈ lw_tbl := by decide +kernel
theorem giX10 : ∀ w ∈ u_ws RX10 TX10 10, goodWord w = true := by decide +kernel
theorem iX11 : ∀ w ∈ u_ws RX11 TX11 35, w ∈ lw_tbl := by decide +kernel
theorem giX11 : ∀ w ∈ u_ws RX11 TX11 35, goodWord w = true := by decide +kernel
theorem dvX0 : ∀ j, j < 5 → defaultValue (tyX0 j) = vp_V [.int 0, .int 0, .int 0, .int 0, .int 0] j := by decide +kernel
theorem dvX1 : ∀ j, j < 2 → defaultValue (tyX1 j) = vp_V [.null, .int 0] j := by decide +kernel
theorem dvX2 : ∀ j, j < 2 → defaultValue (tyX2 j) = vp_V [.null, .int 0] j := by decide +kernel
theorem dvX3 : ∀ j, j < 1 → defaultValue (tyX3 j) = vp_V [.null] j := by decide +kernel
theorem dvX4 : ∀ j, j < 6 → defaultValue (tyX4 j) = vp_V [.int 0, .int 0, .int 0, .int 0, .int 0, .int 0] j := by decide +kernel
theorem dvX5 : ∀ j, j < 2 → defaultValue (tyX5 j) = vp_V [.null, .int 0] j := by decide +kernel
theorem dvX6 : ∀ j, j < 3 → defaultValue (tyX6 j) = vp_V [.int 0, .null, .null] j := by decide +kernel
theorem dvX7 : ∀ j, j < 3 → defaultValue (tyX7 j) = vp_V [.int 0, .int 0, .int 0] j := by decide +kernel
theorem dvX8 : ∀ j, j < 2 → defaultValue (tyX8 j) = vp_V [.null, .null] j := by decide +kernel
theorem dvX9 : ∀ j, j < 5 → defaultValue (tyX9 j) = vp_V [.null, .int 0, .null, .null, .null] j := by decide +kernel
theorem dvX10 : ∀ j, j < 10 → defaultValue (tyX10 j) = vp_V [.int 0, .null, .int 0, .null, .null, .int 0, .null, .int 0, .null, .null] j := by decide +kernel
theorem dvX11 : ∀ j, j < 35 → defaultValue (tyX11 j) = vp_V [.int 0, .int 0, .null, .null, .null, .int 0, .null, .null, .null, .null, .null, .int 0, .null, .null, .int 0, .null, .null, .null, .null, .null, .null, .null, .int 0, .null, .null, .null, .null, .null, .null, .null, .null, .int 0, .null, .int 0, .null] j := by decide +kernel
section QL
variable {p : Program} {l : Launch} {e : Env} {R : Room} {s : State} {m : MethodId} {args : Array Value} {below : List Frame} {meth : Method} {c : Code} {D : va_G} {A : Nat → Prop} {nL : Nat} {Q : State → Prop}
theorem q_loops (heads : List Nat) (body : Nat → (Nat → q_K) → q_K) (hb : ∀ K : Nat → q_K, (∀ h ∈ heads, q_V p l e R s m args below meth c D A nL Q h (K h)) → ∀ h ∈ heads, q_V p l e R s m args below meth c D A nL Q h (body h K)) (Inv : Nat → Nat → q_K)
    (hI : ∀ (n h : Nat), h ∈ heads → ∀ (L : List (Option Value)) (st : List Value) (σ : q_S) (cr sr : Nat), Inv h n L st σ cr sr → body h (fun h L st σ cr sr => ∃ m : Nat, m < n ∧ Inv h m L st σ cr sr) L st σ cr sr) :
    ∀ h ∈ heads, q_V p l e R s m args below meth c D A nL Q h (fun L st σ cr sr => ∃ n : Nat, Inv h n L st σ cr sr) := by
  have key : ∀ n : Nat, ∀ h ∈ heads, q_V p l e R s m args below meth c D A nL Q h (Inv h n) := by
    intro n
    induction n using Nat.strongRecOn with
    | _ n ih =>
      intro h hh L st σ cr sr H locs cells slots ls a1 a2 a3 a4 a5 a6
      refine hb (fun h L st σ cr sr => ∃ m : Nat, m < n ∧ Inv h m L st σ cr sr) (fun h' hh' => ?_) h hh L st σ cr sr H locs cells slots ls a1 a2 a3 a4 a5 (hI n h hh _ _ _ _ _ a6)
      intro L st σ cr sr H locs cells slots ls b1 b2 b3 b4 b5 b6
      obtain ⟨k, hk, b6⟩ := b6
      exact ih k hk h' hh' L st σ cr sr H locs cells slots ls b1 b2 b3 b4 b5 b6
  intro h hh L st σ cr sr H locs cells slots ls a1 a2 a3 a4 a5 a6
  obtain ⟨n, a6⟩ := a6
  exact key n h hh L st σ cr sr H locs cells slots ls a1 a2 a3 a4 a5 a6
end QL
end
section
-- small functions over ints
theorem q_10 : ((1 : Int32) = 0) = False := by decide
theorem q_01 : ((0 : Int32) = 1) = False := by decide
theorem q_ni (x : Int32) : (narrow .int (.int x) = .int x) = True := eq_true rfl
theorem q_fi (x : Int32) : (fits .int (.int x) = true) = True := eq_true rfl
theorem q_nb0 : (narrow .boolean (.int 0) = .int 0) = True := eq_true rfl
theorem q_nb1 : (narrow .boolean (.int 1) = .int 1) = True := eq_true rfl
theorem q_fb0 : (fits .boolean (.int 0) = true) = True := eq_true rfl
theorem q_fb1 : (fits .boolean (.int 1) = true) = True := eq_true rfl
theorem q_nor (C : String) (a : Nat) : (narrow (.object C) (.ref a) = .ref a) = True := eq_true rfl
theorem q_nar (t : FieldType) (a : Nat) : (narrow (.array t) (.ref a) = .ref a) = True := eq_true rfl
theorem q_for (C : String) (a : Nat) : (fits (.object C) (.ref a) = true) = True := eq_true rfl
theorem q_far (t : FieldType) (a : Nat) : (fits (.array t) (.ref a) = true) = True := eq_true rfl
theorem q_non (C : String) : (narrow (.object C) .null = .null) = True := eq_true rfl
theorem q_nan (t : FieldType) : (narrow (.array t) .null = .null) = True := eq_true rfl
theorem q_fon (C : String) : (fits (.object C) .null = true) = True := eq_true rfl
theorem q_fan (t : FieldType) : (fits (.array t) .null = true) = True := eq_true rfl
def s_X10_isWithin : q_Sp := fun av σ post => match av with
  | [.int x, .int a, .int b] => (a ≤ x ∧ x ≤ b → post (some (.int 1)) σ) ∧ (¬ (a ≤ x ∧ x ≤ b) → post (some (.int 0)) σ)
  | _ => False
def rm_X10_isWithin : Room := { frames := 0, cells := 0, slots := 0, locals := 0 }
def k_X10_isWithin_15 (post : Option Value → q_S → Prop) (K : Nat → q_K) : q_K := (c_zret post)
def k_X10_isWithin_14 (post : Option Value → q_S → Prop) (K : Nat → q_K) : q_K := (c_push 0 (k_X10_isWithin_15 post K))
def k_X10_isWithin_0 (post : Option Value → q_S → Prop) (K : Nat → q_K) : q_K := (c_iload 0 (c_iload 1 (c_iclt (k_X10_isWithin_14 post K) (c_iload 0 (c_iload 2 (c_icgt (k_X10_isWithin_14 post K) (c_push 1 (k_X10_isWithin_15 post K))))))))
set_option maxRecDepth 100000 in
theorem v_X10_isWithin_15 {p : Program} {l : Launch} {e : Env} {s : State} {m : MethodId} {args : Array Value} {below : List Frame} {meth : Method} {c : Code} {D : va_G} {A : Nat → Prop} {post : Option Value → q_S → Prop} {K : Nat → q_K} (C : q_C p s m args meth c cX10_isWithin 3 RX10 "isWithin" (some .boolean) A) (hK : ∀ h ∈ ([] : List Nat), q_V p l e rm_X10_isWithin s m args below meth c D A 3 (MQ below (q_Qc D A post) args s rm_X10_isWithin.cells rm_X10_isWithin.slots A) h (K h)) : q_V p l e rm_X10_isWithin s m args below meth c D A 3 (MQ below (q_Qc D A post) args s rm_X10_isWithin.cells rm_X10_isWithin.slots A) 15 (k_X10_isWithin_15 post K) := by
  unfold k_X10_isWithin_15
  exact q_zret C rfl (by decide +kernel : decode cX10_isWithin 15 = .ok (.ireturn, 1))
set_option maxRecDepth 100000 in
theorem v_X10_isWithin_14 {p : Program} {l : Launch} {e : Env} {s : State} {m : MethodId} {args : Array Value} {below : List Frame} {meth : Method} {c : Code} {D : va_G} {A : Nat → Prop} {post : Option Value → q_S → Prop} {K : Nat → q_K} (C : q_C p s m args meth c cX10_isWithin 3 RX10 "isWithin" (some .boolean) A) (hK : ∀ h ∈ ([] : List Nat), q_V p l e rm_X10_isWithin s m args below meth c D A 3 (MQ below (q_Qc D A post) args s rm_X10_isWithin.cells rm_X10_isWithin.slots A) h (K h)) : q_V p l e rm_X10_isWithin s m args below meth c D A 3 (MQ below (q_Qc D A post) args s rm_X10_isWithin.cells rm_X10_isWithin.slots A) 14 (k_X10_isWithin_14 post K) := by
  unfold k_X10_isWithin_14
  refine q_iconst C (by decide +kernel : decode cX10_isWithin 14 = .ok (.iconst 0, 1)) (by decide) ?_
  exact v_X10_isWithin_15 C hK
set_option maxRecDepth 100000 in
theorem v_X10_isWithin_0 {p : Program} {l : Launch} {e : Env} {s : State} {m : MethodId} {args : Array Value} {below : List Frame} {meth : Method} {c : Code} {D : va_G} {A : Nat → Prop} {post : Option Value → q_S → Prop} {K : Nat → q_K} (C : q_C p s m args meth c cX10_isWithin 3 RX10 "isWithin" (some .boolean) A) (hK : ∀ h ∈ ([] : List Nat), q_V p l e rm_X10_isWithin s m args below meth c D A 3 (MQ below (q_Qc D A post) args s rm_X10_isWithin.cells rm_X10_isWithin.slots A) h (K h)) : q_V p l e rm_X10_isWithin s m args below meth c D A 3 (MQ below (q_Qc D A post) args s rm_X10_isWithin.cells rm_X10_isWithin.slots A) 0 (k_X10_isWithin_0 post K) := by
  unfold k_X10_isWithin_0
  refine q_iload_n C (by decide +kernel : decode cX10_isWithin 0 = .ok (.iload_n 0, 1)) ?_
  refine q_iload_n C (by decide +kernel : decode cX10_isWithin 1 = .ok (.iload_n 1, 1)) ?_
  refine q_iclt C (tgt := 14) (by decide +kernel : decode cX10_isWithin 2 = .ok (.if_icmp .lt 12, 3)) (by decide) ?_ ?_
  · exact v_X10_isWithin_14 C hK
  · refine q_iload_n C (by decide +kernel : decode cX10_isWithin 5 = .ok (.iload_n 0, 1)) ?_
    refine q_iload_n C (by decide +kernel : decode cX10_isWithin 6 = .ok (.iload_n 2, 1)) ?_
    refine q_icgt C (tgt := 14) (by decide +kernel : decode cX10_isWithin 7 = .ok (.if_icmp .gt 7, 3)) (by decide) ?_ ?_
    · exact v_X10_isWithin_14 C hK
    · refine q_iconst C (by decide +kernel : decode cX10_isWithin 10 = .ok (.iconst 1, 1)) (by decide) ?_
      refine q_goto C (tgt := 15) (by decide +kernel : decode cX10_isWithin 11 = .ok (.goto 4, 3)) (by decide) ?_
      exact v_X10_isWithin_15 C hK
theorem u_X10_isWithin (l : Launch) {sp : q_Sp} (H : ∀ (av : List Value) (σ : q_S) (post : Option Value → q_S → Prop), sp av σ post → k_X10_isWithin_0 post (fun _ _ _ _ _ _ => False) (q_L0 av 3) [] σ 0 0 ∧ av.length ≤ 3 ∧ ∀ v ∈ av, v.category = 1) : q_Ct l yX10_isWithin cX10_isWithin 3 (some .boolean) rm_X10_isWithin sp := by
  refine q_met (by decide) ?_
  intro D A p e s m args below meth c σ av post C hsp
  obtain ⟨h1, h2, h3⟩ := H av σ post hsp
  exact ⟨_, v_X10_isWithin_0 (K := fun _ _ _ _ _ _ => False) C (fun h hh => by cases hh), h1, h2, h3⟩
theorem t_X10_isWithin (l : Launch) : q_Ct l yX10_isWithin cX10_isWithin 3 (some .boolean) rm_X10_isWithin s_X10_isWithin := u_X10_isWithin l (by
  intro av σ post h
  unfold s_X10_isWithin at h
  split at h
  · refine ⟨?_, by simp, by simp [Value.category]⟩
    simp only [c_push, c_null, c_iload, c_aload, c_istore, c_astore, c_iinc, c_iadd, c_isub, c_imul, c_iand, c_ineg, c_dup, c_dup2, c_pop, c_ifnull, c_ifnonnull, c_get, c_put, c_iald, c_zald, c_iast, c_zast, c_aald, c_aast, c_alen, c_new, c_newa, c_newq, c_mna, c_oinit, c_max, c_copy, c_iret, c_zret, c_aret, c_vret, q_do, q_rc, c_ifeq, c_ifne, c_iflt, c_ifge, c_ifgt, c_ifle, c_iceq, c_icne, c_iclt, c_icge, c_icgt, c_icle, c_call0, c_call1, c_call2, c_call3, c_call4, c_call5, c_call6, c_call7, q_L0, List.map_cons, List.map_nil, List.replicate, List.cons_append, List.nil_append, List.append_nil, List.length_cons, List.length_nil, List.length_set, Nat.reduceSub, Nat.reduceAdd, Nat.reduceLT, Nat.reduceLeDiff, Nat.zero_add, Nat.add_zero, Nat.sub_zero, Nat.sub_self, List.getElem?_cons_zero, List.getElem?_cons_succ, List.set_cons_zero, List.set_cons_succ, Option.toList_some, Option.toList_none, List.sum_cons, List.sum_nil, true_and, and_true, true_or, or_true, Nat.le_refl, Nat.zero_le, Value.category, Fin.isValue, Fin.val_zero, Fin.val_one, Fin.val_two, Fin.reduceFinMk, q_10, q_01, not_false_eq_true, not_true_eq_false, forall_const, true_implies, false_implies, implies_true, q_ni, q_fi, q_nb0, q_nb1, q_fb0, q_fb1, q_nor, q_nar, q_for, q_far, q_non, q_nan, q_fon, q_fan, imp_false, false_and, and_false, and_self, false_or, or_false, va_rf, refKind, k_X10_isWithin_0, k_X10_isWithin_14, k_X10_isWithin_15]
    grind
  · exact h.elim)
def s_X11_in : q_Sp := s_X10_isWithin
def rm_X11_in : Room := { frames := 0, cells := 0, slots := 0, locals := 0 }
def k_X11_in_15 (post : Option Value → q_S → Prop) (K : Nat → q_K) : q_K := (c_zret post)
def k_X11_in_14 (post : Option Value → q_S → Prop) (K : Nat → q_K) : q_K := (c_push 0 (k_X11_in_15 post K))
def k_X11_in_0 (post : Option Value → q_S → Prop) (K : Nat → q_K) : q_K := (c_iload 0 (c_iload 1 (c_iclt (k_X11_in_14 post K) (c_iload 0 (c_iload 2 (c_icgt (k_X11_in_14 post K) (c_push 1 (k_X11_in_15 post K))))))))
set_option maxRecDepth 100000 in
theorem v_X11_in_15 {p : Program} {l : Launch} {e : Env} {s : State} {m : MethodId} {args : Array Value} {below : List Frame} {meth : Method} {c : Code} {D : va_G} {A : Nat → Prop} {post : Option Value → q_S → Prop} {K : Nat → q_K} (C : q_C p s m args meth c cX11_in 3 RX11 "in" (some .boolean) A) (hK : ∀ h ∈ ([] : List Nat), q_V p l e rm_X11_in s m args below meth c D A 3 (MQ below (q_Qc D A post) args s rm_X11_in.cells rm_X11_in.slots A) h (K h)) : q_V p l e rm_X11_in s m args below meth c D A 3 (MQ below (q_Qc D A post) args s rm_X11_in.cells rm_X11_in.slots A) 15 (k_X11_in_15 post K) := by
  unfold k_X11_in_15
  exact q_zret C rfl (by decide +kernel : decode cX11_in 15 = .ok (.ireturn, 1))
set_option maxRecDepth 100000 in
theorem v_X11_in_14 {p : Program} {l : Launch} {e : Env} {s : State} {m : MethodId} {args : Array Value} {below : List Frame} {meth : Method} {c : Code} {D : va_G} {A : Nat → Prop} {post : Option Value → q_S → Prop} {K : Nat → q_K} (C : q_C p s m args meth c cX11_in 3 RX11 "in" (some .boolean) A) (hK : ∀ h ∈ ([] : List Nat), q_V p l e rm_X11_in s m args below meth c D A 3 (MQ below (q_Qc D A post) args s rm_X11_in.cells rm_X11_in.slots A) h (K h)) : q_V p l e rm_X11_in s m args below meth c D A 3 (MQ below (q_Qc D A post) args s rm_X11_in.cells rm_X11_in.slots A) 14 (k_X11_in_14 post K) := by
  unfold k_X11_in_14
  refine q_iconst C (by decide +kernel : decode cX11_in 14 = .ok (.iconst 0, 1)) (by decide) ?_
  exact v_X11_in_15 C hK
set_option maxRecDepth 100000 in
theorem v_X11_in_0 {p : Program} {l : Launch} {e : Env} {s : State} {m : MethodId} {args : Array Value} {below : List Frame} {meth : Method} {c : Code} {D : va_G} {A : Nat → Prop} {post : Option Value → q_S → Prop} {K : Nat → q_K} (C : q_C p s m args meth c cX11_in 3 RX11 "in" (some .boolean) A) (hK : ∀ h ∈ ([] : List Nat), q_V p l e rm_X11_in s m args below meth c D A 3 (MQ below (q_Qc D A post) args s rm_X11_in.cells rm_X11_in.slots A) h (K h)) : q_V p l e rm_X11_in s m args below meth c D A 3 (MQ below (q_Qc D A post) args s rm_X11_in.cells rm_X11_in.slots A) 0 (k_X11_in_0 post K) := by
  unfold k_X11_in_0
  refine q_iload_n C (by decide +kernel : decode cX11_in 0 = .ok (.iload_n 0, 1)) ?_
  refine q_iload_n C (by decide +kernel : decode cX11_in 1 = .ok (.iload_n 1, 1)) ?_
  refine q_iclt C (tgt := 14) (by decide +kernel : decode cX11_in 2 = .ok (.if_icmp .lt 12, 3)) (by decide) ?_ ?_
  · exact v_X11_in_14 C hK
  · refine q_iload_n C (by decide +kernel : decode cX11_in 5 = .ok (.iload_n 0, 1)) ?_
    refine q_iload_n C (by decide +kernel : decode cX11_in 6 = .ok (.iload_n 2, 1)) ?_
    refine q_icgt C (tgt := 14) (by decide +kernel : decode cX11_in 7 = .ok (.if_icmp .gt 7, 3)) (by decide) ?_ ?_
    · exact v_X11_in_14 C hK
    · refine q_iconst C (by decide +kernel : decode cX11_in 10 = .ok (.iconst 1, 1)) (by decide) ?_
      refine q_goto C (tgt := 15) (by decide +kernel : decode cX11_in 11 = .ok (.goto 4, 3)) (by decide) ?_
      exact v_X11_in_15 C hK
theorem u_X11_in (l : Launch) {sp : q_Sp} (H : ∀ (av : List Value) (σ : q_S) (post : Option Value → q_S → Prop), sp av σ post → k_X11_in_0 post (fun _ _ _ _ _ _ => False) (q_L0 av 3) [] σ 0 0 ∧ av.length ≤ 3 ∧ ∀ v ∈ av, v.category = 1) : q_Ct l yX11_in cX11_in 3 (some .boolean) rm_X11_in sp := by
  refine q_met (by decide) ?_
  intro D A p e s m args below meth c σ av post C hsp
  obtain ⟨h1, h2, h3⟩ := H av σ post hsp
  exact ⟨_, v_X11_in_0 (K := fun _ _ _ _ _ _ => False) C (fun h hh => by cases hh), h1, h2, h3⟩
theorem t_X11_in (l : Launch) : q_Ct l yX11_in cX11_in 3 (some .boolean) rm_X11_in s_X11_in := u_X11_in l (by
  intro av σ post h
  unfold s_X11_in s_X10_isWithin at h
  split at h
  · refine ⟨?_, by simp, by simp [Value.category]⟩
    simp only [c_push, c_null, c_iload, c_aload, c_istore, c_astore, c_iinc, c_iadd, c_isub, c_imul, c_iand, c_ineg, c_dup, c_dup2, c_pop, c_ifnull, c_ifnonnull, c_get, c_put, c_iald, c_zald, c_iast, c_zast, c_aald, c_aast, c_alen, c_new, c_newa, c_newq, c_mna, c_oinit, c_max, c_copy, c_iret, c_zret, c_aret, c_vret, q_do, q_rc, c_ifeq, c_ifne, c_iflt, c_ifge, c_ifgt, c_ifle, c_iceq, c_icne, c_iclt, c_icge, c_icgt, c_icle, c_call0, c_call1, c_call2, c_call3, c_call4, c_call5, c_call6, c_call7, q_L0, List.map_cons, List.map_nil, List.replicate, List.cons_append, List.nil_append, List.append_nil, List.length_cons, List.length_nil, List.length_set, Nat.reduceSub, Nat.reduceAdd, Nat.reduceLT, Nat.reduceLeDiff, Nat.zero_add, Nat.add_zero, Nat.sub_zero, Nat.sub_self, List.getElem?_cons_zero, List.getElem?_cons_succ, List.set_cons_zero, List.set_cons_succ, Option.toList_some, Option.toList_none, List.sum_cons, List.sum_nil, true_and, and_true, true_or, or_true, Nat.le_refl, Nat.zero_le, Value.category, Fin.isValue, Fin.val_zero, Fin.val_one, Fin.val_two, Fin.reduceFinMk, q_10, q_01, not_false_eq_true, not_true_eq_false, forall_const, true_implies, false_implies, implies_true, q_ni, q_fi, q_nb0, q_nb1, q_fb0, q_fb1, q_nor, q_nar, q_for, q_far, q_non, q_nan, q_fon, q_fan, imp_false, false_and, and_false, and_self, false_or, or_false, va_rf, refKind, k_X11_in_0, k_X11_in_14, k_X11_in_15]
    grind
  · exact h.elim)
def s_X10_isDay : q_Sp := fun av σ post => match av with
  | [.int x] => (0 ≤ x ∧ x ≤ 3000 → post (some (.int 1)) σ) ∧ (¬ (0 ≤ x ∧ x ≤ 3000) → post (some (.int 0)) σ)
  | _ => False
theorem w9_0 : (.code yX10_isWithin cX10_isWithin 3 (some .boolean) : Cond) ∈ lw_tbl := by decide +kernel
theorem w9_1 : (.initialized RX10 : Cond) ∈ lw_tbl := by decide +kernel
theorem w9_2 : (.static yX10_isWithin : Cond) ∈ lw_tbl := by decide +kernel
theorem w9_3 : (.methodLink RX10 63 yX10_isWithin : Cond) ∈ lw_tbl := by decide +kernel
def rm_X10_isDay : Room := { frames := 1, cells := 0, slots := 0, locals := 22 }
def k_X10_isDay_0 (post : Option Value → q_S → Prop) (K : Nat → q_K) : q_K := (c_iload 0 (c_push 0 (c_push 3000 (c_call3 none s_X10_isWithin 0 0 (c_zret post)))))
set_option maxRecDepth 100000 in
theorem v_X10_isDay_0 {p : Program} {l : Launch} {e : Env} {s : State} {m : MethodId} {args : Array Value} {below : List Frame} {meth : Method} {c : Code} {D : va_G} {A : Nat → Prop} {post : Option Value → q_S → Prop} {K : Nat → q_K} (C : q_C p s m args meth c cX10_isDay 1 RX10 "isDay" (some .boolean) A) (hK : ∀ h ∈ ([] : List Nat), q_V p l e rm_X10_isDay s m args below meth c D A 1 (MQ below (q_Qc D A post) args s rm_X10_isDay.cells rm_X10_isDay.slots A) h (K h)) : q_V p l e rm_X10_isDay s m args below meth c D A 1 (MQ below (q_Qc D A post) args s rm_X10_isDay.cells rm_X10_isDay.slots A) 0 (k_X10_isDay_0 post K) := by
  unfold k_X10_isDay_0
  refine q_iload_n C (by decide +kernel : decode cX10_isDay 0 = .ok (.iload_n 0, 1)) ?_
  refine q_iconst C (by decide +kernel : decode cX10_isDay 1 = .ok (.iconst 0, 1)) (by decide) ?_
  refine q_sipush C (by decide +kernel : decode cX10_isDay 2 = .ok (.sipush 3000, 3)) (by decide) ?_
  refine q_call3 C (q_coS C (np := 3) (t_X10_isWithin l) w9_0 w9_3 w9_2 w9_1 (by decide +kernel) (by decide +kernel : decode cX10_isDay 5 = .ok (.invokestatic 63, 3)) (by decide)) ?_
  exact q_zret C rfl (by decide +kernel : decode cX10_isDay 8 = .ok (.ireturn, 1))
theorem u_X10_isDay (l : Launch) {sp : q_Sp} (H : ∀ (av : List Value) (σ : q_S) (post : Option Value → q_S → Prop), sp av σ post → k_X10_isDay_0 post (fun _ _ _ _ _ _ => False) (q_L0 av 1) [] σ 0 0 ∧ av.length ≤ 1 ∧ ∀ v ∈ av, v.category = 1) : q_Ct l yX10_isDay cX10_isDay 1 (some .boolean) rm_X10_isDay sp := by
  refine q_met (by decide) ?_
  intro D A p e s m args below meth c σ av post C hsp
  obtain ⟨h1, h2, h3⟩ := H av σ post hsp
  exact ⟨_, v_X10_isDay_0 (K := fun _ _ _ _ _ _ => False) C (fun h hh => by cases hh), h1, h2, h3⟩
theorem t_X10_isDay (l : Launch) : q_Ct l yX10_isDay cX10_isDay 1 (some .boolean) rm_X10_isDay s_X10_isDay := u_X10_isDay l (by
  intro av σ post h
  unfold s_X10_isDay at h
  split at h
  · refine ⟨?_, by simp, by simp [Value.category]⟩
    simp only [c_push, c_null, c_iload, c_aload, c_istore, c_astore, c_iinc, c_iadd, c_isub, c_imul, c_iand, c_ineg, c_dup, c_dup2, c_pop, c_ifnull, c_ifnonnull, c_get, c_put, c_iald, c_zald, c_iast, c_zast, c_aald, c_aast, c_alen, c_new, c_newa, c_newq, c_mna, c_oinit, c_max, c_copy, c_iret, c_zret, c_aret, c_vret, q_do, q_rc, c_ifeq, c_ifne, c_iflt, c_ifge, c_ifgt, c_ifle, c_iceq, c_icne, c_iclt, c_icge, c_icgt, c_icle, c_call0, c_call1, c_call2, c_call3, c_call4, c_call5, c_call6, c_call7, q_L0, List.map_cons, List.map_nil, List.replicate, List.cons_append, List.nil_append, List.append_nil, List.length_cons, List.length_nil, List.length_set, Nat.reduceSub, Nat.reduceAdd, Nat.reduceLT, Nat.reduceLeDiff, Nat.zero_add, Nat.add_zero, Nat.sub_zero, Nat.sub_self, List.getElem?_cons_zero, List.getElem?_cons_succ, List.set_cons_zero, List.set_cons_succ, Option.toList_some, Option.toList_none, List.sum_cons, List.sum_nil, true_and, and_true, true_or, or_true, Nat.le_refl, Nat.zero_le, Value.category, Fin.isValue, Fin.val_zero, Fin.val_one, Fin.val_two, Fin.reduceFinMk, q_10, q_01, not_false_eq_true, not_true_eq_false, forall_const, true_implies, false_implies, implies_true, q_ni, q_fi, q_nb0, q_nb1, q_fb0, q_fb1, q_nor, q_nar, q_for, q_far, q_non, q_nan, q_fon, q_fan, imp_false, false_and, and_false, and_self, false_or, or_false, va_rf, refKind, k_X10_isDay_0, s_X10_isWithin]
    grind
  · exact h.elim)
def s_X10_oneIf : q_Sp := fun av σ post => match av with
  | [.int x] => (x = 0 → post (some (.int 0)) σ) ∧ (¬ x = 0 → post (some (.int 1)) σ)
  | _ => False
def rm_X10_oneIf : Room := { frames := 0, cells := 0, slots := 0, locals := 0 }
def k_X10_oneIf_9 (post : Option Value → q_S → Prop) (K : Nat → q_K) : q_K := (c_iret post)
def k_X10_oneIf_0 (post : Option Value → q_S → Prop) (K : Nat → q_K) : q_K := (c_iload 0 (c_ifeq (c_push 0 (k_X10_oneIf_9 post K)) (c_push 1 (k_X10_oneIf_9 post K))))
set_option maxRecDepth 100000 in
theorem v_X10_oneIf_9 {p : Program} {l : Launch} {e : Env} {s : State} {m : MethodId} {args : Array Value} {below : List Frame} {meth : Method} {c : Code} {D : va_G} {A : Nat → Prop} {post : Option Value → q_S → Prop} {K : Nat → q_K} (C : q_C p s m args meth c cX10_oneIf 1 RX10 "oneIf" (some .int) A) (hK : ∀ h ∈ ([] : List Nat), q_V p l e rm_X10_oneIf s m args below meth c D A 1 (MQ below (q_Qc D A post) args s rm_X10_oneIf.cells rm_X10_oneIf.slots A) h (K h)) : q_V p l e rm_X10_oneIf s m args below meth c D A 1 (MQ below (q_Qc D A post) args s rm_X10_oneIf.cells rm_X10_oneIf.slots A) 9 (k_X10_oneIf_9 post K) := by
  unfold k_X10_oneIf_9
  exact q_iret C rfl (by decide +kernel : decode cX10_oneIf 9 = .ok (.ireturn, 1))
set_option maxRecDepth 100000 in
theorem v_X10_oneIf_0 {p : Program} {l : Launch} {e : Env} {s : State} {m : MethodId} {args : Array Value} {below : List Frame} {meth : Method} {c : Code} {D : va_G} {A : Nat → Prop} {post : Option Value → q_S → Prop} {K : Nat → q_K} (C : q_C p s m args meth c cX10_oneIf 1 RX10 "oneIf" (some .int) A) (hK : ∀ h ∈ ([] : List Nat), q_V p l e rm_X10_oneIf s m args below meth c D A 1 (MQ below (q_Qc D A post) args s rm_X10_oneIf.cells rm_X10_oneIf.slots A) h (K h)) : q_V p l e rm_X10_oneIf s m args below meth c D A 1 (MQ below (q_Qc D A post) args s rm_X10_oneIf.cells rm_X10_oneIf.slots A) 0 (k_X10_oneIf_0 post K) := by
  unfold k_X10_oneIf_0
  refine q_iload_n C (by decide +kernel : decode cX10_oneIf 0 = .ok (.iload_n 0, 1)) ?_
  refine q_ifeq C (tgt := 8) (by decide +kernel : decode cX10_oneIf 1 = .ok (.ifCond .eq 7, 3)) (by decide) ?_ ?_
  · refine q_iconst C (by decide +kernel : decode cX10_oneIf 8 = .ok (.iconst 0, 1)) (by decide) ?_
    exact v_X10_oneIf_9 C hK
  · refine q_iconst C (by decide +kernel : decode cX10_oneIf 4 = .ok (.iconst 1, 1)) (by decide) ?_
    refine q_goto C (tgt := 9) (by decide +kernel : decode cX10_oneIf 5 = .ok (.goto 4, 3)) (by decide) ?_
    exact v_X10_oneIf_9 C hK
theorem u_X10_oneIf (l : Launch) {sp : q_Sp} (H : ∀ (av : List Value) (σ : q_S) (post : Option Value → q_S → Prop), sp av σ post → k_X10_oneIf_0 post (fun _ _ _ _ _ _ => False) (q_L0 av 1) [] σ 0 0 ∧ av.length ≤ 1 ∧ ∀ v ∈ av, v.category = 1) : q_Ct l yX10_oneIf cX10_oneIf 1 (some .int) rm_X10_oneIf sp := by
  refine q_met (by decide) ?_
  intro D A p e s m args below meth c σ av post C hsp
  obtain ⟨h1, h2, h3⟩ := H av σ post hsp
  exact ⟨_, v_X10_oneIf_0 (K := fun _ _ _ _ _ _ => False) C (fun h hh => by cases hh), h1, h2, h3⟩
theorem t_X10_oneIf (l : Launch) : q_Ct l yX10_oneIf cX10_oneIf 1 (some .int) rm_X10_oneIf s_X10_oneIf := u_X10_oneIf l (by
  intro av σ post h
  unfold s_X10_oneIf at h
  split at h
  · refine ⟨?_, by simp, by simp [Value.category]⟩
    simp only [c_push, c_null, c_iload, c_aload, c_istore, c_astore, c_iinc, c_iadd, c_isub, c_imul, c_iand, c_ineg, c_dup, c_dup2, c_pop, c_ifnull, c_ifnonnull, c_get, c_put, c_iald, c_zald, c_iast, c_zast, c_aald, c_aast, c_alen, c_new, c_newa, c_newq, c_mna, c_oinit, c_max, c_copy, c_iret, c_zret, c_aret, c_vret, q_do, q_rc, c_ifeq, c_ifne, c_iflt, c_ifge, c_ifgt, c_ifle, c_iceq, c_icne, c_iclt, c_icge, c_icgt, c_icle, c_call0, c_call1, c_call2, c_call3, c_call4, c_call5, c_call6, c_call7, q_L0, List.map_cons, List.map_nil, List.replicate, List.cons_append, List.nil_append, List.append_nil, List.length_cons, List.length_nil, List.length_set, Nat.reduceSub, Nat.reduceAdd, Nat.reduceLT, Nat.reduceLeDiff, Nat.zero_add, Nat.add_zero, Nat.sub_zero, Nat.sub_self, List.getElem?_cons_zero, List.getElem?_cons_succ, List.set_cons_zero, List.set_cons_succ, Option.toList_some, Option.toList_none, List.sum_cons, List.sum_nil, true_and, and_true, true_or, or_true, Nat.le_refl, Nat.zero_le, Value.category, Fin.isValue, Fin.val_zero, Fin.val_one, Fin.val_two, Fin.reduceFinMk, q_10, q_01, not_false_eq_true, not_true_eq_false, forall_const, true_implies, false_implies, implies_true, q_ni, q_fi, q_nb0, q_nb1, q_fb0, q_fb1, q_nor, q_nar, q_for, q_far, q_non, q_nan, q_fon, q_fan, imp_false, false_and, and_false, and_self, false_or, or_false, va_rf, refKind, k_X10_oneIf_0, k_X10_oneIf_9]
    grind
  · exact h.elim)
def s_X11_greater : q_Sp := fun av σ post => match av with
  | [.int a, .int b] => (b < a → post (some (.int a)) σ) ∧ (¬ b < a → post (some (.int b)) σ)
  | _ => False
def rm_X11_greater : Room := { frames := 0, cells := 0, slots := 0, locals := 0 }
def k_X11_greater_10 (post : Option Value → q_S → Prop) (K : Nat → q_K) : q_K := (c_iret post)
def k_X11_greater_0 (post : Option Value → q_S → Prop) (K : Nat → q_K) : q_K := (c_iload 0 (c_iload 1 (c_icle (c_iload 1 (k_X11_greater_10 post K)) (c_iload 0 (k_X11_greater_10 post K)))))
set_option maxRecDepth 100000 in
theorem v_X11_greater_10 {p : Program} {l : Launch} {e : Env} {s : State} {m : MethodId} {args : Array Value} {below : List Frame} {meth : Method} {c : Code} {D : va_G} {A : Nat → Prop} {post : Option Value → q_S → Prop} {K : Nat → q_K} (C : q_C p s m args meth c cX11_greater 2 RX11 "greater" (some .int) A) (hK : ∀ h ∈ ([] : List Nat), q_V p l e rm_X11_greater s m args below meth c D A 2 (MQ below (q_Qc D A post) args s rm_X11_greater.cells rm_X11_greater.slots A) h (K h)) : q_V p l e rm_X11_greater s m args below meth c D A 2 (MQ below (q_Qc D A post) args s rm_X11_greater.cells rm_X11_greater.slots A) 10 (k_X11_greater_10 post K) := by
  unfold k_X11_greater_10
  exact q_iret C rfl (by decide +kernel : decode cX11_greater 10 = .ok (.ireturn, 1))
set_option maxRecDepth 100000 in
theorem v_X11_greater_0 {p : Program} {l : Launch} {e : Env} {s : State} {m : MethodId} {args : Array Value} {below : List Frame} {meth : Method} {c : Code} {D : va_G} {A : Nat → Prop} {post : Option Value → q_S → Prop} {K : Nat → q_K} (C : q_C p s m args meth c cX11_greater 2 RX11 "greater" (some .int) A) (hK : ∀ h ∈ ([] : List Nat), q_V p l e rm_X11_greater s m args below meth c D A 2 (MQ below (q_Qc D A post) args s rm_X11_greater.cells rm_X11_greater.slots A) h (K h)) : q_V p l e rm_X11_greater s m args below meth c D A 2 (MQ below (q_Qc D A post) args s rm_X11_greater.cells rm_X11_greater.slots A) 0 (k_X11_greater_0 post K) := by
  unfold k_X11_greater_0
  refine q_iload_n C (by decide +kernel : decode cX11_greater 0 = .ok (.iload_n 0, 1)) ?_
  refine q_iload_n C (by decide +kernel : decode cX11_greater 1 = .ok (.iload_n 1, 1)) ?_
  refine q_icle C (tgt := 9) (by decide +kernel : decode cX11_greater 2 = .ok (.if_icmp .le 7, 3)) (by decide) ?_ ?_
  · refine q_iload_n C (by decide +kernel : decode cX11_greater 9 = .ok (.iload_n 1, 1)) ?_
    exact v_X11_greater_10 C hK
  · refine q_iload_n C (by decide +kernel : decode cX11_greater 5 = .ok (.iload_n 0, 1)) ?_
    refine q_goto C (tgt := 10) (by decide +kernel : decode cX11_greater 6 = .ok (.goto 4, 3)) (by decide) ?_
    exact v_X11_greater_10 C hK
theorem u_X11_greater (l : Launch) {sp : q_Sp} (H : ∀ (av : List Value) (σ : q_S) (post : Option Value → q_S → Prop), sp av σ post → k_X11_greater_0 post (fun _ _ _ _ _ _ => False) (q_L0 av 2) [] σ 0 0 ∧ av.length ≤ 2 ∧ ∀ v ∈ av, v.category = 1) : q_Ct l yX11_greater cX11_greater 2 (some .int) rm_X11_greater sp := by
  refine q_met (by decide) ?_
  intro D A p e s m args below meth c σ av post C hsp
  obtain ⟨h1, h2, h3⟩ := H av σ post hsp
  exact ⟨_, v_X11_greater_0 (K := fun _ _ _ _ _ _ => False) C (fun h hh => by cases hh), h1, h2, h3⟩
theorem t_X11_greater (l : Launch) : q_Ct l yX11_greater cX11_greater 2 (some .int) rm_X11_greater s_X11_greater := u_X11_greater l (by
  intro av σ post h
  unfold s_X11_greater at h
  split at h
  · refine ⟨?_, by simp, by simp [Value.category]⟩
    simp only [c_push, c_null, c_iload, c_aload, c_istore, c_astore, c_iinc, c_iadd, c_isub, c_imul, c_iand, c_ineg, c_dup, c_dup2, c_pop, c_ifnull, c_ifnonnull, c_get, c_put, c_iald, c_zald, c_iast, c_zast, c_aald, c_aast, c_alen, c_new, c_newa, c_newq, c_mna, c_oinit, c_max, c_copy, c_iret, c_zret, c_aret, c_vret, q_do, q_rc, c_ifeq, c_ifne, c_iflt, c_ifge, c_ifgt, c_ifle, c_iceq, c_icne, c_iclt, c_icge, c_icgt, c_icle, c_call0, c_call1, c_call2, c_call3, c_call4, c_call5, c_call6, c_call7, q_L0, List.map_cons, List.map_nil, List.replicate, List.cons_append, List.nil_append, List.append_nil, List.length_cons, List.length_nil, List.length_set, Nat.reduceSub, Nat.reduceAdd, Nat.reduceLT, Nat.reduceLeDiff, Nat.zero_add, Nat.add_zero, Nat.sub_zero, Nat.sub_self, List.getElem?_cons_zero, List.getElem?_cons_succ, List.set_cons_zero, List.set_cons_succ, Option.toList_some, Option.toList_none, List.sum_cons, List.sum_nil, true_and, and_true, true_or, or_true, Nat.le_refl, Nat.zero_le, Value.category, Fin.isValue, Fin.val_zero, Fin.val_one, Fin.val_two, Fin.reduceFinMk, q_10, q_01, not_false_eq_true, not_true_eq_false, forall_const, true_implies, false_implies, implies_true, q_ni, q_fi, q_nb0, q_nb1, q_fb0, q_fb1, q_nor, q_nar, q_for, q_far, q_non, q_nan, q_fon, q_fan, imp_false, false_and, and_false, and_self, false_or, or_false, va_rf, refKind, k_X11_greater_0, k_X11_greater_10]
    grind
  · exact h.elim)
def s_X3_isPlace : q_Sp := fun av σ post => match av with
  | [.int x] => (0 ≤ x ∧ x ≤ 20 → post (some (.int 1)) σ) ∧ (¬ (0 ≤ x ∧ x ≤ 20) → post (some (.int 0)) σ)
  | _ => False
def rm_X3_isPlace : Room := { frames := 0, cells := 0, slots := 0, locals := 0 }
def k_X3_isPlace_15 (post : Option Value → q_S → Prop) (K : Nat → q_K) : q_K := (c_zret post)
def k_X3_isPlace_14 (post : Option Value → q_S → Prop) (K : Nat → q_K) : q_K := (c_push 0 (k_X3_isPlace_15 post K))
def k_X3_isPlace_0 (post : Option Value → q_S → Prop) (K : Nat → q_K) : q_K := (c_iload 0 (c_iflt (k_X3_isPlace_14 post K) (c_iload 0 (c_push 20 (c_icgt (k_X3_isPlace_14 post K) (c_push 1 (k_X3_isPlace_15 post K)))))))
set_option maxRecDepth 100000 in
theorem v_X3_isPlace_15 {p : Program} {l : Launch} {e : Env} {s : State} {m : MethodId} {args : Array Value} {below : List Frame} {meth : Method} {c : Code} {D : va_G} {A : Nat → Prop} {post : Option Value → q_S → Prop} {K : Nat → q_K} (C : q_C p s m args meth c cX3_isPlace 1 RX3 "isPlace" (some .boolean) A) (hK : ∀ h ∈ ([] : List Nat), q_V p l e rm_X3_isPlace s m args below meth c D A 1 (MQ below (q_Qc D A post) args s rm_X3_isPlace.cells rm_X3_isPlace.slots A) h (K h)) : q_V p l e rm_X3_isPlace s m args below meth c D A 1 (MQ below (q_Qc D A post) args s rm_X3_isPlace.cells rm_X3_isPlace.slots A) 15 (k_X3_isPlace_15 post K) := by
  unfold k_X3_isPlace_15
  exact q_zret C rfl (by decide +kernel : decode cX3_isPlace 15 = .ok (.ireturn, 1))
set_option maxRecDepth 100000 in
theorem v_X3_isPlace_14 {p : Program} {l : Launch} {e : Env} {s : State} {m : MethodId} {args : Array Value} {below : List Frame} {meth : Method} {c : Code} {D : va_G} {A : Nat → Prop} {post : Option Value → q_S → Prop} {K : Nat → q_K} (C : q_C p s m args meth c cX3_isPlace 1 RX3 "isPlace" (some .boolean) A) (hK : ∀ h ∈ ([] : List Nat), q_V p l e rm_X3_isPlace s m args below meth c D A 1 (MQ below (q_Qc D A post) args s rm_X3_isPlace.cells rm_X3_isPlace.slots A) h (K h)) : q_V p l e rm_X3_isPlace s m args below meth c D A 1 (MQ below (q_Qc D A post) args s rm_X3_isPlace.cells rm_X3_isPlace.slots A) 14 (k_X3_isPlace_14 post K) := by
  unfold k_X3_isPlace_14
  refine q_iconst C (by decide +kernel : decode cX3_isPlace 14 = .ok (.iconst 0, 1)) (by decide) ?_
  exact v_X3_isPlace_15 C hK
set_option maxRecDepth 100000 in
theorem v_X3_isPlace_0 {p : Program} {l : Launch} {e : Env} {s : State} {m : MethodId} {args : Array Value} {below : List Frame} {meth : Method} {c : Code} {D : va_G} {A : Nat → Prop} {post : Option Value → q_S → Prop} {K : Nat → q_K} (C : q_C p s m args meth c cX3_isPlace 1 RX3 "isPlace" (some .boolean) A) (hK : ∀ h ∈ ([] : List Nat), q_V p l e rm_X3_isPlace s m args below meth c D A 1 (MQ below (q_Qc D A post) args s rm_X3_isPlace.cells rm_X3_isPlace.slots A) h (K h)) : q_V p l e rm_X3_isPlace s m args below meth c D A 1 (MQ below (q_Qc D A post) args s rm_X3_isPlace.cells rm_X3_isPlace.slots A) 0 (k_X3_isPlace_0 post K) := by
  unfold k_X3_isPlace_0
  refine q_iload_n C (by decide +kernel : decode cX3_isPlace 0 = .ok (.iload_n 0, 1)) ?_
  refine q_iflt C (tgt := 14) (by decide +kernel : decode cX3_isPlace 1 = .ok (.ifCond .lt 13, 3)) (by decide) ?_ ?_
  · exact v_X3_isPlace_14 C hK
  · refine q_iload_n C (by decide +kernel : decode cX3_isPlace 4 = .ok (.iload_n 0, 1)) ?_
    refine q_bipush C (by decide +kernel : decode cX3_isPlace 5 = .ok (.bipush 20, 2)) (by decide) ?_
    refine q_icgt C (tgt := 14) (by decide +kernel : decode cX3_isPlace 7 = .ok (.if_icmp .gt 7, 3)) (by decide) ?_ ?_
    · exact v_X3_isPlace_14 C hK
    · refine q_iconst C (by decide +kernel : decode cX3_isPlace 10 = .ok (.iconst 1, 1)) (by decide) ?_
      refine q_goto C (tgt := 15) (by decide +kernel : decode cX3_isPlace 11 = .ok (.goto 4, 3)) (by decide) ?_
      exact v_X3_isPlace_15 C hK
theorem u_X3_isPlace (l : Launch) {sp : q_Sp} (H : ∀ (av : List Value) (σ : q_S) (post : Option Value → q_S → Prop), sp av σ post → k_X3_isPlace_0 post (fun _ _ _ _ _ _ => False) (q_L0 av 1) [] σ 0 0 ∧ av.length ≤ 1 ∧ ∀ v ∈ av, v.category = 1) : q_Ct l yX3_isPlace cX3_isPlace 1 (some .boolean) rm_X3_isPlace sp := by
  refine q_met (by decide) ?_
  intro D A p e s m args below meth c σ av post C hsp
  obtain ⟨h1, h2, h3⟩ := H av σ post hsp
  exact ⟨_, v_X3_isPlace_0 (K := fun _ _ _ _ _ _ => False) C (fun h hh => by cases hh), h1, h2, h3⟩
theorem t_X3_isPlace (l : Launch) : q_Ct l yX3_isPlace cX3_isPlace 1 (some .boolean) rm_X3_isPlace s_X3_isPlace := u_X3_isPlace l (by
  intro av σ post h
  unfold s_X3_isPlace at h
  split at h
  · refine ⟨?_, by simp, by simp [Value.category]⟩
    simp only [c_push, c_null, c_iload, c_aload, c_istore, c_astore, c_iinc, c_iadd, c_isub, c_imul, c_iand, c_ineg, c_dup, c_dup2, c_pop, c_ifnull, c_ifnonnull, c_get, c_put, c_iald, c_zald, c_iast, c_zast, c_aald, c_aast, c_alen, c_new, c_newa, c_newq, c_mna, c_oinit, c_max, c_copy, c_iret, c_zret, c_aret, c_vret, q_do, q_rc, c_ifeq, c_ifne, c_iflt, c_ifge, c_ifgt, c_ifle, c_iceq, c_icne, c_iclt, c_icge, c_icgt, c_icle, c_call0, c_call1, c_call2, c_call3, c_call4, c_call5, c_call6, c_call7, q_L0, List.map_cons, List.map_nil, List.replicate, List.cons_append, List.nil_append, List.append_nil, List.length_cons, List.length_nil, List.length_set, Nat.reduceSub, Nat.reduceAdd, Nat.reduceLT, Nat.reduceLeDiff, Nat.zero_add, Nat.add_zero, Nat.sub_zero, Nat.sub_self, List.getElem?_cons_zero, List.getElem?_cons_succ, List.set_cons_zero, List.set_cons_succ, Option.toList_some, Option.toList_none, List.sum_cons, List.sum_nil, true_and, and_true, true_or, or_true, Nat.le_refl, Nat.zero_le, Value.category, Fin.isValue, Fin.val_zero, Fin.val_one, Fin.val_two, Fin.reduceFinMk, q_10, q_01, not_false_eq_true, not_true_eq_false, forall_const, true_implies, false_implies, implies_true, q_ni, q_fi, q_nb0, q_nb1, q_fb0, q_fb1, q_nor, q_nar, q_for, q_far, q_non, q_nan, q_fon, q_fan, imp_false, false_and, and_false, and_self, false_or, or_false, va_rf, refKind, k_X3_isPlace_0, k_X3_isPlace_14, k_X3_isPlace_15]
    grind
  · exact h.elim)
def s_X6_placeOf : q_Sp := fun av σ post => match av with
  | [.int x] => (x = -5 → post (some (.int 12)) σ) ∧ (¬ x = -5 → post (some (.int x)) σ)
  | _ => False
def rm_X6_placeOf : Room := { frames := 0, cells := 0, slots := 0, locals := 0 }
def k_X6_placeOf_12 (post : Option Value → q_S → Prop) (K : Nat → q_K) : q_K := (c_iret post)
def k_X6_placeOf_0 (post : Option Value → q_S → Prop) (K : Nat → q_K) : q_K := (c_iload 0 (c_push (-5) (c_icne (c_iload 0 (k_X6_placeOf_12 post K)) (c_push 12 (k_X6_placeOf_12 post K)))))
set_option maxRecDepth 100000 in
theorem v_X6_placeOf_12 {p : Program} {l : Launch} {e : Env} {s : State} {m : MethodId} {args : Array Value} {below : List Frame} {meth : Method} {c : Code} {D : va_G} {A : Nat → Prop} {post : Option Value → q_S → Prop} {K : Nat → q_K} (C : q_C p s m args meth c cX6_placeOf 1 RX6 "placeOf" (some .int) A) (hK : ∀ h ∈ ([] : List Nat), q_V p l e rm_X6_placeOf s m args below meth c D A 1 (MQ below (q_Qc D A post) args s rm_X6_placeOf.cells rm_X6_placeOf.slots A) h (K h)) : q_V p l e rm_X6_placeOf s m args below meth c D A 1 (MQ below (q_Qc D A post) args s rm_X6_placeOf.cells rm_X6_placeOf.slots A) 12 (k_X6_placeOf_12 post K) := by
  unfold k_X6_placeOf_12
  exact q_iret C rfl (by decide +kernel : decode cX6_placeOf 12 = .ok (.ireturn, 1))
set_option maxRecDepth 100000 in
theorem v_X6_placeOf_0 {p : Program} {l : Launch} {e : Env} {s : State} {m : MethodId} {args : Array Value} {below : List Frame} {meth : Method} {c : Code} {D : va_G} {A : Nat → Prop} {post : Option Value → q_S → Prop} {K : Nat → q_K} (C : q_C p s m args meth c cX6_placeOf 1 RX6 "placeOf" (some .int) A) (hK : ∀ h ∈ ([] : List Nat), q_V p l e rm_X6_placeOf s m args below meth c D A 1 (MQ below (q_Qc D A post) args s rm_X6_placeOf.cells rm_X6_placeOf.slots A) h (K h)) : q_V p l e rm_X6_placeOf s m args below meth c D A 1 (MQ below (q_Qc D A post) args s rm_X6_placeOf.cells rm_X6_placeOf.slots A) 0 (k_X6_placeOf_0 post K) := by
  unfold k_X6_placeOf_0
  refine q_iload_n C (by decide +kernel : decode cX6_placeOf 0 = .ok (.iload_n 0, 1)) ?_
  refine q_bipush C (by decide +kernel : decode cX6_placeOf 1 = .ok (.bipush (-5), 2)) (by decide) ?_
  refine q_icne C (tgt := 11) (by decide +kernel : decode cX6_placeOf 3 = .ok (.if_icmp .ne 8, 3)) (by decide) ?_ ?_
  · refine q_iload_n C (by decide +kernel : decode cX6_placeOf 11 = .ok (.iload_n 0, 1)) ?_
    exact v_X6_placeOf_12 C hK
  · refine q_bipush C (by decide +kernel : decode cX6_placeOf 6 = .ok (.bipush 12, 2)) (by decide) ?_
    refine q_goto C (tgt := 12) (by decide +kernel : decode cX6_placeOf 8 = .ok (.goto 4, 3)) (by decide) ?_
    exact v_X6_placeOf_12 C hK
theorem u_X6_placeOf (l : Launch) {sp : q_Sp} (H : ∀ (av : List Value) (σ : q_S) (post : Option Value → q_S → Prop), sp av σ post → k_X6_placeOf_0 post (fun _ _ _ _ _ _ => False) (q_L0 av 1) [] σ 0 0 ∧ av.length ≤ 1 ∧ ∀ v ∈ av, v.category = 1) : q_Ct l yX6_placeOf cX6_placeOf 1 (some .int) rm_X6_placeOf sp := by
  refine q_met (by decide) ?_
  intro D A p e s m args below meth c σ av post C hsp
  obtain ⟨h1, h2, h3⟩ := H av σ post hsp
  exact ⟨_, v_X6_placeOf_0 (K := fun _ _ _ _ _ _ => False) C (fun h hh => by cases hh), h1, h2, h3⟩
theorem t_X6_placeOf (l : Launch) : q_Ct l yX6_placeOf cX6_placeOf 1 (some .int) rm_X6_placeOf s_X6_placeOf := u_X6_placeOf l (by
  intro av σ post h
  unfold s_X6_placeOf at h
  split at h
  · refine ⟨?_, by simp, by simp [Value.category]⟩
    simp only [c_push, c_null, c_iload, c_aload, c_istore, c_astore, c_iinc, c_iadd, c_isub, c_imul, c_iand, c_ineg, c_dup, c_dup2, c_pop, c_ifnull, c_ifnonnull, c_get, c_put, c_iald, c_zald, c_iast, c_zast, c_aald, c_aast, c_alen, c_new, c_newa, c_newq, c_mna, c_oinit, c_max, c_copy, c_iret, c_zret, c_aret, c_vret, q_do, q_rc, c_ifeq, c_ifne, c_iflt, c_ifge, c_ifgt, c_ifle, c_iceq, c_icne, c_iclt, c_icge, c_icgt, c_icle, c_call0, c_call1, c_call2, c_call3, c_call4, c_call5, c_call6, c_call7, q_L0, List.map_cons, List.map_nil, List.replicate, List.cons_append, List.nil_append, List.append_nil, List.length_cons, List.length_nil, List.length_set, Nat.reduceSub, Nat.reduceAdd, Nat.reduceLT, Nat.reduceLeDiff, Nat.zero_add, Nat.add_zero, Nat.sub_zero, Nat.sub_self, List.getElem?_cons_zero, List.getElem?_cons_succ, List.set_cons_zero, List.set_cons_succ, Option.toList_some, Option.toList_none, List.sum_cons, List.sum_nil, true_and, and_true, true_or, or_true, Nat.le_refl, Nat.zero_le, Value.category, Fin.isValue, Fin.val_zero, Fin.val_one, Fin.val_two, Fin.reduceFinMk, q_10, q_01, not_false_eq_true, not_true_eq_false, forall_const, true_implies, false_implies, implies_true, q_ni, q_fi, q_nb0, q_nb1, q_fb0, q_fb1, q_nor, q_nar, q_for, q_far, q_non, q_nan, q_fon, q_fan, imp_false, false_and, and_false, and_self, false_or, or_false, va_rf, refKind, k_X6_placeOf_0, k_X6_placeOf_12]
    grind
  · exact h.elim)
def s_X8_canPledge : q_Sp := fun av σ post => match av with
  | [.int x, .int y] => ((0 ≤ x ∧ x ≤ 11) ∧ 0 ≤ y ∧ y ≤ 11 → post (some (.int 1)) σ) ∧ (¬ ((0 ≤ x ∧ x ≤ 11) ∧ 0 ≤ y ∧ y ≤ 11) → post (some (.int 0)) σ)
  | _ => False
def rm_X8_canPledge : Room := { frames := 1, cells := 0, slots := 0, locals := 22 }
def k_X8_canPledge_25 (post : Option Value → q_S → Prop) (K : Nat → q_K) : q_K := (c_zret post)
def k_X8_canPledge_24 (post : Option Value → q_S → Prop) (K : Nat → q_K) : q_K := (c_push 0 (k_X8_canPledge_25 post K))
def k_X8_canPledge_0 (post : Option Value → q_S → Prop) (K : Nat → q_K) : q_K := (c_iload 0 (c_push 0 (c_push 11 (c_call3 none s_X10_isWithin 0 0 (c_ifeq (k_X8_canPledge_24 post K) (c_iload 1 (c_push 0 (c_push 11 (c_call3 none s_X10_isWithin 0 0 (c_ifeq (k_X8_canPledge_24 post K) (c_push 1 (k_X8_canPledge_25 post K))))))))))))
set_option maxRecDepth 100000 in
theorem v_X8_canPledge_25 {p : Program} {l : Launch} {e : Env} {s : State} {m : MethodId} {args : Array Value} {below : List Frame} {meth : Method} {c : Code} {D : va_G} {A : Nat → Prop} {post : Option Value → q_S → Prop} {K : Nat → q_K} (C : q_C p s m args meth c cX8_canPledge 2 RX8 "canPledge" (some .boolean) A) (hK : ∀ h ∈ ([] : List Nat), q_V p l e rm_X8_canPledge s m args below meth c D A 2 (MQ below (q_Qc D A post) args s rm_X8_canPledge.cells rm_X8_canPledge.slots A) h (K h)) : q_V p l e rm_X8_canPledge s m args below meth c D A 2 (MQ below (q_Qc D A post) args s rm_X8_canPledge.cells rm_X8_canPledge.slots A) 25 (k_X8_canPledge_25 post K) := by
  unfold k_X8_canPledge_25
  exact q_zret C rfl (by decide +kernel : decode cX8_canPledge 25 = .ok (.ireturn, 1))
set_option maxRecDepth 100000 in
theorem v_X8_canPledge_24 {p : Program} {l : Launch} {e : Env} {s : State} {m : MethodId} {args : Array Value} {below : List Frame} {meth : Method} {c : Code} {D : va_G} {A : Nat → Prop} {post : Option Value → q_S → Prop} {K : Nat → q_K} (C : q_C p s m args meth c cX8_canPledge 2 RX8 "canPledge" (some .boolean) A) (hK : ∀ h ∈ ([] : List Nat), q_V p l e rm_X8_canPledge s m args below meth c D A 2 (MQ below (q_Qc D A post) args s rm_X8_canPledge.cells rm_X8_canPledge.slots A) h (K h)) : q_V p l e rm_X8_canPledge s m args below meth c D A 2 (MQ below (q_Qc D A post) args s rm_X8_canPledge.cells rm_X8_canPledge.slots A) 24 (k_X8_canPledge_24 post K) := by
  unfold k_X8_canPledge_24
  refine q_iconst C (by decide +kernel : decode cX8_canPledge 24 = .ok (.iconst 0, 1)) (by decide) ?_
  exact v_X8_canPledge_25 C hK
set_option maxRecDepth 100000 in
theorem v_X8_canPledge_0 {p : Program} {l : Launch} {e : Env} {s : State} {m : MethodId} {args : Array Value} {below : List Frame} {meth : Method} {c : Code} {D : va_G} {A : Nat → Prop} {post : Option Value → q_S → Prop} {K : Nat → q_K} (C : q_C p s m args meth c cX8_canPledge 2 RX8 "canPledge" (some .boolean) A) (hK : ∀ h ∈ ([] : List Nat), q_V p l e rm_X8_canPledge s m args below meth c D A 2 (MQ below (q_Qc D A post) args s rm_X8_canPledge.cells rm_X8_canPledge.slots A) h (K h)) : q_V p l e rm_X8_canPledge s m args below meth c D A 2 (MQ below (q_Qc D A post) args s rm_X8_canPledge.cells rm_X8_canPledge.slots A) 0 (k_X8_canPledge_0 post K) := by
  unfold k_X8_canPledge_0
  refine q_iload_n C (by decide +kernel : decode cX8_canPledge 0 = .ok (.iload_n 0, 1)) ?_
  refine q_iconst C (by decide +kernel : decode cX8_canPledge 1 = .ok (.iconst 0, 1)) (by decide) ?_
  refine q_bipush C (by decide +kernel : decode cX8_canPledge 2 = .ok (.bipush 11, 2)) (by decide) ?_
  refine q_call3 C (q_coSN C (np := 3) (t_X10_isWithin l) w9_0 (by decide +kernel) w9_2 w9_1 (by decide +kernel) (by decide +kernel : decode cX8_canPledge 4 = .ok (.invokestatic 54, 3)) (by decide)) ?_
  refine q_ifeq C (tgt := 24) (by decide +kernel : decode cX8_canPledge 7 = .ok (.ifCond .eq 17, 3)) (by decide) ?_ ?_
  · exact v_X8_canPledge_24 C hK
  · refine q_iload_n C (by decide +kernel : decode cX8_canPledge 10 = .ok (.iload_n 1, 1)) ?_
    refine q_iconst C (by decide +kernel : decode cX8_canPledge 11 = .ok (.iconst 0, 1)) (by decide) ?_
    refine q_bipush C (by decide +kernel : decode cX8_canPledge 12 = .ok (.bipush 11, 2)) (by decide) ?_
    refine q_call3 C (q_coSN C (np := 3) (t_X10_isWithin l) w9_0 (by decide +kernel) w9_2 w9_1 (by decide +kernel) (by decide +kernel : decode cX8_canPledge 14 = .ok (.invokestatic 54, 3)) (by decide)) ?_
    refine q_ifeq C (tgt := 24) (by decide +kernel : decode cX8_canPledge 17 = .ok (.ifCond .eq 7, 3)) (by decide) ?_ ?_
    · exact v_X8_canPledge_24 C hK
    · refine q_iconst C (by decide +kernel : decode cX8_canPledge 20 = .ok (.iconst 1, 1)) (by decide) ?_
      refine q_goto C (tgt := 25) (by decide +kernel : decode cX8_canPledge 21 = .ok (.goto 4, 3)) (by decide) ?_
      exact v_X8_canPledge_25 C hK
theorem u_X8_canPledge (l : Launch) {sp : q_Sp} (H : ∀ (av : List Value) (σ : q_S) (post : Option Value → q_S → Prop), sp av σ post → k_X8_canPledge_0 post (fun _ _ _ _ _ _ => False) (q_L0 av 2) [] σ 0 0 ∧ av.length ≤ 2 ∧ ∀ v ∈ av, v.category = 1) : q_Ct l yX8_canPledge cX8_canPledge 2 (some .boolean) rm_X8_canPledge sp := by
  refine q_met (by decide) ?_
  intro D A p e s m args below meth c σ av post C hsp
  obtain ⟨h1, h2, h3⟩ := H av σ post hsp
  exact ⟨_, v_X8_canPledge_0 (K := fun _ _ _ _ _ _ => False) C (fun h hh => by cases hh), h1, h2, h3⟩
theorem t_X8_canPledge (l : Launch) : q_Ct l yX8_canPledge cX8_canPledge 2 (some .boolean) rm_X8_canPledge s_X8_canPledge := u_X8_canPledge l (by
  intro av σ post h
  unfold s_X8_canPledge at h
  split at h
  · refine ⟨?_, by simp, by simp [Value.category]⟩
    simp only [c_push, c_null, c_iload, c_aload, c_istore, c_astore, c_iinc, c_iadd, c_isub, c_imul, c_iand, c_ineg, c_dup, c_dup2, c_pop, c_ifnull, c_ifnonnull, c_get, c_put, c_iald, c_zald, c_iast, c_zast, c_aald, c_aast, c_alen, c_new, c_newa, c_newq, c_mna, c_oinit, c_max, c_copy, c_iret, c_zret, c_aret, c_vret, q_do, q_rc, c_ifeq, c_ifne, c_iflt, c_ifge, c_ifgt, c_ifle, c_iceq, c_icne, c_iclt, c_icge, c_icgt, c_icle, c_call0, c_call1, c_call2, c_call3, c_call4, c_call5, c_call6, c_call7, q_L0, List.map_cons, List.map_nil, List.replicate, List.cons_append, List.nil_append, List.append_nil, List.length_cons, List.length_nil, List.length_set, Nat.reduceSub, Nat.reduceAdd, Nat.reduceLT, Nat.reduceLeDiff, Nat.zero_add, Nat.add_zero, Nat.sub_zero, Nat.sub_self, List.getElem?_cons_zero, List.getElem?_cons_succ, List.set_cons_zero, List.set_cons_succ, Option.toList_some, Option.toList_none, List.sum_cons, List.sum_nil, true_and, and_true, true_or, or_true, Nat.le_refl, Nat.zero_le, Value.category, Fin.isValue, Fin.val_zero, Fin.val_one, Fin.val_two, Fin.reduceFinMk, q_10, q_01, not_false_eq_true, not_true_eq_false, forall_const, true_implies, false_implies, implies_true, q_ni, q_fi, q_nb0, q_nb1, q_fb0, q_fb1, q_nor, q_nar, q_for, q_far, q_non, q_nan, q_fon, q_fan, imp_false, false_and, and_false, and_self, false_or, or_false, va_rf, refKind, k_X8_canPledge_0, k_X8_canPledge_24, k_X8_canPledge_25, s_X10_isWithin]
    grind
  · exact h.elim)
end
section
-- the reference's object: ints z, the gap gp, arrays g at ad, the table r
def mF (ad : Nat → Nat) (z : Nat → Int32) (gp : Int32) : List Value := [.int (z 0), .int (z 1), .ref (ad 2), .ref (ad 3), .ref (ad 4), .int (z 5), .ref (ad 6), .ref (ad 7), .ref (ad 8), .ref (ad 9), .ref (ad 10), .int (z 11), .ref (ad 12), .ref (ad 13), .int (z 14), .ref (ad 15), .ref (ad 16), .ref (ad 17), .ref (ad 18), .ref (ad 19), .ref (ad 20), .ref (ad 21), .int (z 22), .ref (ad 23), .ref (ad 24), .ref (ad 25), .ref (ad 26), .ref (ad 27), .ref (ad 28), .ref (ad 29), .ref (ad 30), .int (z 31), .ref (ad 32), .int gp, .ref (ad 34)]
def mA : List Nat := [2, 3, 4, 6, 7, 8, 9, 10, 12, 13, 15, 16, 17, 18, 19, 20, 21, 23, 24, 25, 26, 27, 28, 29, 30, 32, 34]
def mT (k : Nat) : FieldType := if k = 21 ∨ k = 32 then .boolean else .int
def mN (k : Nat) : Nat := match k with
  | 2 => 12
  | 3 => 12
  | 4 => 12
  | 6 => 6
  | 7 => 6
  | 8 => 6
  | 9 => 6
  | 10 => 6
  | 12 => 20
  | 13 => 20
  | 15 => 1000
  | 16 => 1000
  | 17 => 1000
  | 18 => 1000
  | 19 => 1000
  | 20 => 2880
  | 21 => 240
  | 23 => 40
  | 24 => 40
  | 25 => 40
  | 26 => 40
  | 27 => 40
  | 28 => 40
  | 29 => 20
  | 30 => 400
  | 32 => 1000
  | 34 => 441
  | _ => 0
def mG (g : Nat → Nat → Int32) (r : Nat → Int32) (k : Nat) : Nat → Int32 := if k = 34 then r else g k
def gup (g : Nat → Nat → Int32) (k i : Nat) (v : Int32) : Nat → Nat → Int32 := fun j => if j = k then upd (g k) i v else g j
def mOKx (σ : q_S) (mr : Nat) (ad : Nat → Nat) (z : Nat → Int32) (g : Nat → Nat → Int32) (gp : Int32) (r : Nat → Int32) : Prop := σ mr = some (.inr (11, mF ad z gp)) ∧ (∀ k ∈ mA, σ (ad k) = some (.inl (mT k, mN k, .inl (mG g r k)))) ∧ ∀ k ∈ mA, ∀ j ∈ mA, ad k = ad j → k = j
theorem mOKx.rd {σ : q_S} {mr : Nat} {ad : Nat → Nat} {z : Nat → Int32} {g : Nat → Nat → Int32} {gp : Int32} {r : Nat → Int32} (h : mOKx σ mr ad z g gp r) : q_oc σ mr = some 11 ∧ q_fld σ mr 11 0 = some (.int (z 0)) ∧ q_fld σ mr 11 1 = some (.int (z 1)) ∧ q_fld σ mr 11 2 = some (.ref (ad 2)) ∧ q_fld σ mr 11 3 = some (.ref (ad 3)) ∧ q_fld σ mr 11 4 = some (.ref (ad 4)) ∧ q_fld σ mr 11 5 = some (.int (z 5)) ∧ q_fld σ mr 11 6 = some (.ref (ad 6)) ∧ q_fld σ mr 11 7 = some (.ref (ad 7)) ∧ q_fld σ mr 11 8 = some (.ref (ad 8)) ∧ q_fld σ mr 11 9 = some (.ref (ad 9)) ∧ q_fld σ mr 11 10 = some (.ref (ad 10)) ∧ q_fld σ mr 11 11 = some (.int (z 11)) ∧ q_fld σ mr 11 12 = some (.ref (ad 12)) ∧ q_fld σ mr 11 13 = some (.ref (ad 13)) ∧ q_fld σ mr 11 14 = some (.int (z 14)) ∧ q_fld σ mr 11 15 = some (.ref (ad 15)) ∧ q_fld σ mr 11 16 = some (.ref (ad 16)) ∧ q_fld σ mr 11 17 = some (.ref (ad 17)) ∧ q_fld σ mr 11 18 = some (.ref (ad 18)) ∧ q_fld σ mr 11 19 = some (.ref (ad 19)) ∧ q_fld σ mr 11 20 = some (.ref (ad 20)) ∧ q_fld σ mr 11 21 = some (.ref (ad 21)) ∧ q_fld σ mr 11 22 = some (.int (z 22)) ∧ q_fld σ mr 11 23 = some (.ref (ad 23)) ∧ q_fld σ mr 11 24 = some (.ref (ad 24)) ∧ q_fld σ mr 11 25 = some (.ref (ad 25)) ∧ q_fld σ mr 11 26 = some (.ref (ad 26)) ∧ q_fld σ mr 11 27 = some (.ref (ad 27)) ∧ q_fld σ mr 11 28 = some (.ref (ad 28)) ∧ q_fld σ mr 11 29 = some (.ref (ad 29)) ∧ q_fld σ mr 11 30 = some (.ref (ad 30)) ∧ q_fld σ mr 11 31 = some (.int (z 31)) ∧ q_fld σ mr 11 32 = some (.ref (ad 32)) ∧ q_fld σ mr 11 33 = some (.int gp) ∧ q_fld σ mr 11 34 = some (.ref (ad 34)) ∧ q_ai σ (ad 2) .int = some (12, g 2) ∧ q_ai σ (ad 3) .int = some (12, g 3) ∧ q_ai σ (ad 4) .int = some (12, g 4) ∧ q_ai σ (ad 6) .int = some (6, g 6) ∧ q_ai σ (ad 7) .int = some (6, g 7) ∧ q_ai σ (ad 8) .int = some (6, g 8) ∧ q_ai σ (ad 9) .int = some (6, g 9) ∧ q_ai σ (ad 10) .int = some (6, g 10) ∧ q_ai σ (ad 12) .int = some (20, g 12) ∧ q_ai σ (ad 13) .int = some (20, g 13) ∧ q_ai σ (ad 15) .int = some (1000, g 15) ∧ q_ai σ (ad 16) .int = some (1000, g 16) ∧ q_ai σ (ad 17) .int = some (1000, g 17) ∧ q_ai σ (ad 18) .int = some (1000, g 18) ∧ q_ai σ (ad 19) .int = some (1000, g 19) ∧ q_ai σ (ad 20) .int = some (2880, g 20) ∧ q_ai σ (ad 21) .boolean = some (240, g 21) ∧ q_ai σ (ad 23) .int = some (40, g 23) ∧ q_ai σ (ad 24) .int = some (40, g 24) ∧ q_ai σ (ad 25) .int = some (40, g 25) ∧ q_ai σ (ad 26) .int = some (40, g 26) ∧ q_ai σ (ad 27) .int = some (40, g 27) ∧ q_ai σ (ad 28) .int = some (40, g 28) ∧ q_ai σ (ad 29) .int = some (20, g 29) ∧ q_ai σ (ad 30) .int = some (400, g 30) ∧ q_ai σ (ad 32) .boolean = some (1000, g 32) ∧ q_ai σ (ad 34) .int = some (441, r) := by
  obtain ⟨h1, h2, -⟩ := h
  have a : ∀ k ∈ mA, q_ai σ (ad k) (mT k) = some (mN k, mG g r k) := fun k hk => by simp only [q_ai, h2 k hk, if_true]
  refine ⟨by simp only [q_oc, h1], by simp only [q_fld, h1]; rfl, by simp only [q_fld, h1]; rfl, by simp only [q_fld, h1]; rfl, by simp only [q_fld, h1]; rfl, by simp only [q_fld, h1]; rfl, by simp only [q_fld, h1]; rfl, by simp only [q_fld, h1]; rfl, by simp only [q_fld, h1]; rfl, by simp only [q_fld, h1]; rfl, by simp only [q_fld, h1]; rfl, by simp only [q_fld, h1]; rfl, by simp only [q_fld, h1]; rfl, by simp only [q_fld, h1]; rfl, by simp only [q_fld, h1]; rfl, by simp only [q_fld, h1]; rfl, by simp only [q_fld, h1]; rfl, by simp only [q_fld, h1]; rfl, by simp only [q_fld, h1]; rfl, by simp only [q_fld, h1]; rfl, by simp only [q_fld, h1]; rfl, by simp only [q_fld, h1]; rfl, by simp only [q_fld, h1]; rfl, by simp only [q_fld, h1]; rfl, by simp only [q_fld, h1]; rfl, by simp only [q_fld, h1]; rfl, by simp only [q_fld, h1]; rfl, by simp only [q_fld, h1]; rfl, by simp only [q_fld, h1]; rfl, by simp only [q_fld, h1]; rfl, by simp only [q_fld, h1]; rfl, by simp only [q_fld, h1]; rfl, by simp only [q_fld, h1]; rfl, by simp only [q_fld, h1]; rfl, by simp only [q_fld, h1]; rfl, by simp only [q_fld, h1]; rfl, a 2 (by decide), a 3 (by decide), a 4 (by decide), a 6 (by decide), a 7 (by decide), a 8 (by decide), a 9 (by decide), a 10 (by decide), a 12 (by decide), a 13 (by decide), a 15 (by decide), a 16 (by decide), a 17 (by decide), a 18 (by decide), a 19 (by decide), a 20 (by decide), a 21 (by decide), a 23 (by decide), a 24 (by decide), a 25 (by decide), a 26 (by decide), a 27 (by decide), a 28 (by decide), a 29 (by decide), a 30 (by decide), a 32 (by decide), a 34 (by decide)⟩
theorem mOKx.mra {σ : q_S} {mr : Nat} {ad : Nat → Nat} {z : Nat → Int32} {g : Nat → Nat → Int32} {gp : Int32} {r : Nat → Int32} (h : mOKx σ mr ad z g gp r) {k : Nat} (hk : k ∈ mA) : mr ≠ ad k := fun e => by
  have h1 := h.1
  have h2 := h.2.1 k hk
  rw [← e, h1] at h2
  cases h2
theorem mOKx.fs {σ : q_S} {mr : Nat} {ad : Nat → Nat} {z z2 : Nat → Int32} {g : Nat → Nat → Int32} {gp gp2 : Int32} {r : Nat → Int32} (h : mOKx σ mr ad z g gp r) (k : Nat) (v : Value) (e : (mF ad z gp).set k v = mF ad z2 gp2) : mOKx (q_fset σ mr k v) mr ad z2 g gp2 r := by
  rw [q_fset_eq h.1, e]
  refine ⟨q_up_s, fun j hj => ?_, h.2.2⟩
  rw [q_up_n (h.mra hj).symm]
  exact h.2.1 j hj
theorem mOKx.p0 {σ : q_S} {mr : Nat} {ad : Nat → Nat} {z : Nat → Int32} {g : Nat → Nat → Int32} {gp : Int32} {r : Nat → Int32} (h : mOKx σ mr ad z g gp r) (v : Int32) : mOKx (q_fset σ mr 0 (.int v)) mr ad (upd z 0 v) g gp r := h.fs 0 _ rfl
theorem mOKx.p1 {σ : q_S} {mr : Nat} {ad : Nat → Nat} {z : Nat → Int32} {g : Nat → Nat → Int32} {gp : Int32} {r : Nat → Int32} (h : mOKx σ mr ad z g gp r) (v : Int32) : mOKx (q_fset σ mr 1 (.int v)) mr ad (upd z 1 v) g gp r := h.fs 1 _ rfl
theorem mOKx.p5 {σ : q_S} {mr : Nat} {ad : Nat → Nat} {z : Nat → Int32} {g : Nat → Nat → Int32} {gp : Int32} {r : Nat → Int32} (h : mOKx σ mr ad z g gp r) (v : Int32) : mOKx (q_fset σ mr 5 (.int v)) mr ad (upd z 5 v) g gp r := h.fs 5 _ rfl
theorem mOKx.p11 {σ : q_S} {mr : Nat} {ad : Nat → Nat} {z : Nat → Int32} {g : Nat → Nat → Int32} {gp : Int32} {r : Nat → Int32} (h : mOKx σ mr ad z g gp r) (v : Int32) : mOKx (q_fset σ mr 11 (.int v)) mr ad (upd z 11 v) g gp r := h.fs 11 _ rfl
theorem mOKx.p14 {σ : q_S} {mr : Nat} {ad : Nat → Nat} {z : Nat → Int32} {g : Nat → Nat → Int32} {gp : Int32} {r : Nat → Int32} (h : mOKx σ mr ad z g gp r) (v : Int32) : mOKx (q_fset σ mr 14 (.int v)) mr ad (upd z 14 v) g gp r := h.fs 14 _ rfl
theorem mOKx.p22 {σ : q_S} {mr : Nat} {ad : Nat → Nat} {z : Nat → Int32} {g : Nat → Nat → Int32} {gp : Int32} {r : Nat → Int32} (h : mOKx σ mr ad z g gp r) (v : Int32) : mOKx (q_fset σ mr 22 (.int v)) mr ad (upd z 22 v) g gp r := h.fs 22 _ rfl
theorem mOKx.p31 {σ : q_S} {mr : Nat} {ad : Nat → Nat} {z : Nat → Int32} {g : Nat → Nat → Int32} {gp : Int32} {r : Nat → Int32} (h : mOKx σ mr ad z g gp r) (v : Int32) : mOKx (q_fset σ mr 31 (.int v)) mr ad (upd z 31 v) g gp r := h.fs 31 _ rfl
theorem mOKx.p33 {σ : q_S} {mr : Nat} {ad : Nat → Nat} {z : Nat → Int32} {g : Nat → Nat → Int32} {gp : Int32} {r : Nat → Int32} (h : mOKx σ mr ad z g gp r) (v : Int32) : mOKx (q_fset σ mr 33 (.int v)) mr ad z g v r := h.fs 33 _ rfl
theorem mOKx.st {σ : q_S} {mr : Nat} {ad : Nat → Nat} {z : Nat → Int32} {g g2 : Nat → Nat → Int32} {gp : Int32} {r r2 : Nat → Int32} (h : mOKx σ mr ad z g gp r) {k : Nat} (hk : k ∈ mA) {f : Nat → Int32} (e : ∀ j, mG g2 r2 j = if j = k then f else mG g r j) : mOKx (q_up σ (ad k) (.inl (mT k, mN k, .inl f))) mr ad z g2 gp r2 := by
  refine ⟨?_, fun j hj => ?_, h.2.2⟩
  · rw [q_up_n (h.mra hk)]; exact h.1
  · rw [e j]
    by_cases hjk : j = k
    · subst hjk; rw [q_up_s, if_pos rfl]
    · rw [q_up_n (fun e9 => hjk (h.2.2 j hj k hk e9)), if_neg hjk]; exact h.2.1 j hj
theorem mOKx.a2 {σ : q_S} {mr : Nat} {ad : Nat → Nat} {z : Nat → Int32} {g : Nat → Nat → Int32} {gp : Int32} {r : Nat → Int32} (h : mOKx σ mr ad z g gp r) (i : Nat) (v : Int32) : mOKx (q_up σ (ad 2) (.inl (.int, 12, .inl (upd (g 2) i v)))) mr ad z (gup g 2 i v) gp r := h.st (k := 2) (by decide) (fun j => by unfold mG gup; split <;> split <;> first | rfl | omega)
theorem mOKx.a3 {σ : q_S} {mr : Nat} {ad : Nat → Nat} {z : Nat → Int32} {g : Nat → Nat → Int32} {gp : Int32} {r : Nat → Int32} (h : mOKx σ mr ad z g gp r) (i : Nat) (v : Int32) : mOKx (q_up σ (ad 3) (.inl (.int, 12, .inl (upd (g 3) i v)))) mr ad z (gup g 3 i v) gp r := h.st (k := 3) (by decide) (fun j => by unfold mG gup; split <;> split <;> first | rfl | omega)
theorem mOKx.a4 {σ : q_S} {mr : Nat} {ad : Nat → Nat} {z : Nat → Int32} {g : Nat → Nat → Int32} {gp : Int32} {r : Nat → Int32} (h : mOKx σ mr ad z g gp r) (i : Nat) (v : Int32) : mOKx (q_up σ (ad 4) (.inl (.int, 12, .inl (upd (g 4) i v)))) mr ad z (gup g 4 i v) gp r := h.st (k := 4) (by decide) (fun j => by unfold mG gup; split <;> split <;> first | rfl | omega)
theorem mOKx.a6 {σ : q_S} {mr : Nat} {ad : Nat → Nat} {z : Nat → Int32} {g : Nat → Nat → Int32} {gp : Int32} {r : Nat → Int32} (h : mOKx σ mr ad z g gp r) (i : Nat) (v : Int32) : mOKx (q_up σ (ad 6) (.inl (.int, 6, .inl (upd (g 6) i v)))) mr ad z (gup g 6 i v) gp r := h.st (k := 6) (by decide) (fun j => by unfold mG gup; split <;> split <;> first | rfl | omega)
theorem mOKx.a7 {σ : q_S} {mr : Nat} {ad : Nat → Nat} {z : Nat → Int32} {g : Nat → Nat → Int32} {gp : Int32} {r : Nat → Int32} (h : mOKx σ mr ad z g gp r) (i : Nat) (v : Int32) : mOKx (q_up σ (ad 7) (.inl (.int, 6, .inl (upd (g 7) i v)))) mr ad z (gup g 7 i v) gp r := h.st (k := 7) (by decide) (fun j => by unfold mG gup; split <;> split <;> first | rfl | omega)
theorem mOKx.a8 {σ : q_S} {mr : Nat} {ad : Nat → Nat} {z : Nat → Int32} {g : Nat → Nat → Int32} {gp : Int32} {r : Nat → Int32} (h : mOKx σ mr ad z g gp r) (i : Nat) (v : Int32) : mOKx (q_up σ (ad 8) (.inl (.int, 6, .inl (upd (g 8) i v)))) mr ad z (gup g 8 i v) gp r := h.st (k := 8) (by decide) (fun j => by unfold mG gup; split <;> split <;> first | rfl | omega)
theorem mOKx.a9 {σ : q_S} {mr : Nat} {ad : Nat → Nat} {z : Nat → Int32} {g : Nat → Nat → Int32} {gp : Int32} {r : Nat → Int32} (h : mOKx σ mr ad z g gp r) (i : Nat) (v : Int32) : mOKx (q_up σ (ad 9) (.inl (.int, 6, .inl (upd (g 9) i v)))) mr ad z (gup g 9 i v) gp r := h.st (k := 9) (by decide) (fun j => by unfold mG gup; split <;> split <;> first | rfl | omega)
theorem mOKx.a10 {σ : q_S} {mr : Nat} {ad : Nat → Nat} {z : Nat → Int32} {g : Nat → Nat → Int32} {gp : Int32} {r : Nat → Int32} (h : mOKx σ mr ad z g gp r) (i : Nat) (v : Int32) : mOKx (q_up σ (ad 10) (.inl (.int, 6, .inl (upd (g 10) i v)))) mr ad z (gup g 10 i v) gp r := h.st (k := 10) (by decide) (fun j => by unfold mG gup; split <;> split <;> first | rfl | omega)
theorem mOKx.a12 {σ : q_S} {mr : Nat} {ad : Nat → Nat} {z : Nat → Int32} {g : Nat → Nat → Int32} {gp : Int32} {r : Nat → Int32} (h : mOKx σ mr ad z g gp r) (i : Nat) (v : Int32) : mOKx (q_up σ (ad 12) (.inl (.int, 20, .inl (upd (g 12) i v)))) mr ad z (gup g 12 i v) gp r := h.st (k := 12) (by decide) (fun j => by unfold mG gup; split <;> split <;> first | rfl | omega)
theorem mOKx.a13 {σ : q_S} {mr : Nat} {ad : Nat → Nat} {z : Nat → Int32} {g : Nat → Nat → Int32} {gp : Int32} {r : Nat → Int32} (h : mOKx σ mr ad z g gp r) (i : Nat) (v : Int32) : mOKx (q_up σ (ad 13) (.inl (.int, 20, .inl (upd (g 13) i v)))) mr ad z (gup g 13 i v) gp r := h.st (k := 13) (by decide) (fun j => by unfold mG gup; split <;> split <;> first | rfl | omega)
theorem mOKx.a15 {σ : q_S} {mr : Nat} {ad : Nat → Nat} {z : Nat → Int32} {g : Nat → Nat → Int32} {gp : Int32} {r : Nat → Int32} (h : mOKx σ mr ad z g gp r) (i : Nat) (v : Int32) : mOKx (q_up σ (ad 15) (.inl (.int, 1000, .inl (upd (g 15) i v)))) mr ad z (gup g 15 i v) gp r := h.st (k := 15) (by decide) (fun j => by unfold mG gup; split <;> split <;> first | rfl | omega)
theorem mOKx.a16 {σ : q_S} {mr : Nat} {ad : Nat → Nat} {z : Nat → Int32} {g : Nat → Nat → Int32} {gp : Int32} {r : Nat → Int32} (h : mOKx σ mr ad z g gp r) (i : Nat) (v : Int32) : mOKx (q_up σ (ad 16) (.inl (.int, 1000, .inl (upd (g 16) i v)))) mr ad z (gup g 16 i v) gp r := h.st (k := 16) (by decide) (fun j => by unfold mG gup; split <;> split <;> first | rfl | omega)
theorem mOKx.a17 {σ : q_S} {mr : Nat} {ad : Nat → Nat} {z : Nat → Int32} {g : Nat → Nat → Int32} {gp : Int32} {r : Nat → Int32} (h : mOKx σ mr ad z g gp r) (i : Nat) (v : Int32) : mOKx (q_up σ (ad 17) (.inl (.int, 1000, .inl (upd (g 17) i v)))) mr ad z (gup g 17 i v) gp r := h.st (k := 17) (by decide) (fun j => by unfold mG gup; split <;> split <;> first | rfl | omega)
theorem mOKx.a18 {σ : q_S} {mr : Nat} {ad : Nat → Nat} {z : Nat → Int32} {g : Nat → Nat → Int32} {gp : Int32} {r : Nat → Int32} (h : mOKx σ mr ad z g gp r) (i : Nat) (v : Int32) : mOKx (q_up σ (ad 18) (.inl (.int, 1000, .inl (upd (g 18) i v)))) mr ad z (gup g 18 i v) gp r := h.st (k := 18) (by decide) (fun j => by unfold mG gup; split <;> split <;> first | rfl | omega)
theorem mOKx.a19 {σ : q_S} {mr : Nat} {ad : Nat → Nat} {z : Nat → Int32} {g : Nat → Nat → Int32} {gp : Int32} {r : Nat → Int32} (h : mOKx σ mr ad z g gp r) (i : Nat) (v : Int32) : mOKx (q_up σ (ad 19) (.inl (.int, 1000, .inl (upd (g 19) i v)))) mr ad z (gup g 19 i v) gp r := h.st (k := 19) (by decide) (fun j => by unfold mG gup; split <;> split <;> first | rfl | omega)
theorem mOKx.a20 {σ : q_S} {mr : Nat} {ad : Nat → Nat} {z : Nat → Int32} {g : Nat → Nat → Int32} {gp : Int32} {r : Nat → Int32} (h : mOKx σ mr ad z g gp r) (i : Nat) (v : Int32) : mOKx (q_up σ (ad 20) (.inl (.int, 2880, .inl (upd (g 20) i v)))) mr ad z (gup g 20 i v) gp r := h.st (k := 20) (by decide) (fun j => by unfold mG gup; split <;> split <;> first | rfl | omega)
theorem mOKx.a21 {σ : q_S} {mr : Nat} {ad : Nat → Nat} {z : Nat → Int32} {g : Nat → Nat → Int32} {gp : Int32} {r : Nat → Int32} (h : mOKx σ mr ad z g gp r) (i : Nat) (v : Int32) : mOKx (q_up σ (ad 21) (.inl (.boolean, 240, .inl (upd (g 21) i v)))) mr ad z (gup g 21 i v) gp r := h.st (k := 21) (by decide) (fun j => by unfold mG gup; split <;> split <;> first | rfl | omega)
theorem mOKx.a23 {σ : q_S} {mr : Nat} {ad : Nat → Nat} {z : Nat → Int32} {g : Nat → Nat → Int32} {gp : Int32} {r : Nat → Int32} (h : mOKx σ mr ad z g gp r) (i : Nat) (v : Int32) : mOKx (q_up σ (ad 23) (.inl (.int, 40, .inl (upd (g 23) i v)))) mr ad z (gup g 23 i v) gp r := h.st (k := 23) (by decide) (fun j => by unfold mG gup; split <;> split <;> first | rfl | omega)
theorem mOKx.a24 {σ : q_S} {mr : Nat} {ad : Nat → Nat} {z : Nat → Int32} {g : Nat → Nat → Int32} {gp : Int32} {r : Nat → Int32} (h : mOKx σ mr ad z g gp r) (i : Nat) (v : Int32) : mOKx (q_up σ (ad 24) (.inl (.int, 40, .inl (upd (g 24) i v)))) mr ad z (gup g 24 i v) gp r := h.st (k := 24) (by decide) (fun j => by unfold mG gup; split <;> split <;> first | rfl | omega)
theorem mOKx.a25 {σ : q_S} {mr : Nat} {ad : Nat → Nat} {z : Nat → Int32} {g : Nat → Nat → Int32} {gp : Int32} {r : Nat → Int32} (h : mOKx σ mr ad z g gp r) (i : Nat) (v : Int32) : mOKx (q_up σ (ad 25) (.inl (.int, 40, .inl (upd (g 25) i v)))) mr ad z (gup g 25 i v) gp r := h.st (k := 25) (by decide) (fun j => by unfold mG gup; split <;> split <;> first | rfl | omega)
theorem mOKx.a26 {σ : q_S} {mr : Nat} {ad : Nat → Nat} {z : Nat → Int32} {g : Nat → Nat → Int32} {gp : Int32} {r : Nat → Int32} (h : mOKx σ mr ad z g gp r) (i : Nat) (v : Int32) : mOKx (q_up σ (ad 26) (.inl (.int, 40, .inl (upd (g 26) i v)))) mr ad z (gup g 26 i v) gp r := h.st (k := 26) (by decide) (fun j => by unfold mG gup; split <;> split <;> first | rfl | omega)
theorem mOKx.a27 {σ : q_S} {mr : Nat} {ad : Nat → Nat} {z : Nat → Int32} {g : Nat → Nat → Int32} {gp : Int32} {r : Nat → Int32} (h : mOKx σ mr ad z g gp r) (i : Nat) (v : Int32) : mOKx (q_up σ (ad 27) (.inl (.int, 40, .inl (upd (g 27) i v)))) mr ad z (gup g 27 i v) gp r := h.st (k := 27) (by decide) (fun j => by unfold mG gup; split <;> split <;> first | rfl | omega)
theorem mOKx.a28 {σ : q_S} {mr : Nat} {ad : Nat → Nat} {z : Nat → Int32} {g : Nat → Nat → Int32} {gp : Int32} {r : Nat → Int32} (h : mOKx σ mr ad z g gp r) (i : Nat) (v : Int32) : mOKx (q_up σ (ad 28) (.inl (.int, 40, .inl (upd (g 28) i v)))) mr ad z (gup g 28 i v) gp r := h.st (k := 28) (by decide) (fun j => by unfold mG gup; split <;> split <;> first | rfl | omega)
theorem mOKx.a29 {σ : q_S} {mr : Nat} {ad : Nat → Nat} {z : Nat → Int32} {g : Nat → Nat → Int32} {gp : Int32} {r : Nat → Int32} (h : mOKx σ mr ad z g gp r) (i : Nat) (v : Int32) : mOKx (q_up σ (ad 29) (.inl (.int, 20, .inl (upd (g 29) i v)))) mr ad z (gup g 29 i v) gp r := h.st (k := 29) (by decide) (fun j => by unfold mG gup; split <;> split <;> first | rfl | omega)
theorem mOKx.a30 {σ : q_S} {mr : Nat} {ad : Nat → Nat} {z : Nat → Int32} {g : Nat → Nat → Int32} {gp : Int32} {r : Nat → Int32} (h : mOKx σ mr ad z g gp r) (i : Nat) (v : Int32) : mOKx (q_up σ (ad 30) (.inl (.int, 400, .inl (upd (g 30) i v)))) mr ad z (gup g 30 i v) gp r := h.st (k := 30) (by decide) (fun j => by unfold mG gup; split <;> split <;> first | rfl | omega)
theorem mOKx.a32 {σ : q_S} {mr : Nat} {ad : Nat → Nat} {z : Nat → Int32} {g : Nat → Nat → Int32} {gp : Int32} {r : Nat → Int32} (h : mOKx σ mr ad z g gp r) (i : Nat) (v : Int32) : mOKx (q_up σ (ad 32) (.inl (.boolean, 1000, .inl (upd (g 32) i v)))) mr ad z (gup g 32 i v) gp r := h.st (k := 32) (by decide) (fun j => by unfold mG gup; split <;> split <;> first | rfl | omega)
theorem mOKx.a34 {σ : q_S} {mr : Nat} {ad : Nat → Nat} {z : Nat → Int32} {g : Nat → Nat → Int32} {gp : Int32} {r : Nat → Int32} (h : mOKx σ mr ad z g gp r) (f : Nat → Int32) : mOKx (q_up σ (ad 34) (.inl (.int, 441, .inl f))) mr ad z g gp f := h.st (k := 34) (by decide) (fun j => by unfold mG; split <;> rfl)
def mOK (σ : q_S) (mr : Nat) (ad : Nat → Nat) (z : Nat → Int32) (g : Nat → Nat → Int32) : Prop := ∃ (gp : Int32) (r : Nat → Int32), mOKx σ mr ad z g gp r
end
section
-- ints and places
theorem vpi {x : Int32} {n : Nat} (hn : n < 2147483648) : vp_in x n ↔ 0 ≤ x ∧ x < Int32.ofNat n := by
  rw [vp_in_iff, Int32.le_iff_toInt_le, Int32.lt_iff_toInt_lt, Int32.toInt_ofNat_of_lt (by simpa using hn)]
  simp
theorem vpi6 {x : Int32} : vp_in x 6 ↔ 0 ≤ x ∧ x < 6 := vpi (by decide)
theorem vpi12 {x : Int32} : vp_in x 12 ↔ 0 ≤ x ∧ x < 12 := vpi (by decide)
theorem vpi13 {x : Int32} : vp_in x 13 ↔ 0 ≤ x ∧ x < 13 := vpi (by decide)
theorem vpi20 {x : Int32} : vp_in x 20 ↔ 0 ≤ x ∧ x < 20 := vpi (by decide)
theorem vpi21 {x : Int32} : vp_in x 21 ↔ 0 ≤ x ∧ x < 21 := vpi (by decide)
theorem vpi40 {x : Int32} : vp_in x 40 ↔ 0 ≤ x ∧ x < 40 := vpi (by decide)
theorem vpi240 {x : Int32} : vp_in x 240 ↔ 0 ≤ x ∧ x < 240 := vpi (by decide)
theorem vpi400 {x : Int32} : vp_in x 400 ↔ 0 ≤ x ∧ x < 400 := vpi (by decide)
theorem vpi441 {x : Int32} : vp_in x 441 ↔ 0 ≤ x ∧ x < 441 := vpi (by decide)
theorem vpi1000 {x : Int32} : vp_in x 1000 ↔ 0 ≤ x ∧ x < 1000 := vpi (by decide)
theorem vpi2880 {x : Int32} : vp_in x 2880 ↔ 0 ≤ x ∧ x < 2880 := vpi (by decide)
theorem nI_self {x : Int32} (h : 0 ≤ x) : nI x.toNatClampNeg = x := by
  obtain ⟨j, hj, rfl⟩ := nI_of (x := x) (by grind)
  rw [nI_clamp hj]
theorem clampI {x : Int32} (h : 0 ≤ x) : (x.toNatClampNeg : Int) = x.toInt := by
  obtain ⟨j, hj, rfl⟩ := nI_of (x := x) (by grind)
  rw [nI_clamp hj, nI_toInt hj]
theorem clamp_le {x : Int32} (N : Nat) (h0 : 0 ≤ x) (h : x ≤ Int32.ofNat N) (hN : N < 2147483648 := by decide) : x.toNatClampNeg ≤ N := by
  have h1 := clampI h0
  rw [Int32.le_iff_toInt_le, Int32.toInt_ofNat_of_lt (by simpa using hN)] at h
  omega
theorem clamp_lt {x : Int32} (N : Nat) (h0 : 0 ≤ x) (h : x < Int32.ofNat N) (hN : N < 2147483648 := by decide) : x.toNatClampNeg < N := by
  have h1 := clampI h0
  rw [Int32.lt_iff_toInt_lt, Int32.toInt_ofNat_of_lt (by simpa using hN)] at h
  omega
theorem nI_low {i : Nat} (h : i < 2147483648) : 0 ≤ nI i := nI_pos' h
theorem nI_ltN {i N : Nat} (h : i < N) (hN : N < 2147483648 := by decide) : nI i < Int32.ofNat N := nI_lt h hN
theorem nI_leN {i N : Nat} (h : i ≤ N) (hN : N < 2147483648 := by decide) : nI i ≤ Int32.ofNat N := nI_le h hN
theorem clN {i : Nat} (h : i < 2147483648) : (nI i).toNatClampNeg = i := nI_clamp h
theorem cl2 (a b : Int32) (x y : Nat) (ha : a = nI x) (hb : b = nI y) (h : x < 2147483648) (h2 : y < 2147483648) : (a ≤ b ↔ x ≤ y) ∧ (a < b ↔ x < y) ∧ (a = b ↔ x = y) := by
  subst ha hb
  exact ⟨nI_leI h h2, nI_ltI h h2, nI_eq h h2⟩
-- numbers of days, persons, acts, works, moves, licences, common lines
def I1 (z : Nat → Int32) : Prop := (0 ≤ z 0 ∧ z 0 ≤ 3000) ∧ (0 ≤ z 1 ∧ z 1 ≤ 12) ∧ (0 ≤ z 5 ∧ z 5 ≤ 6) ∧ (0 ≤ z 11 ∧ z 11 ≤ 20) ∧ (0 ≤ z 14 ∧ z 14 ≤ 1000) ∧ (0 ≤ z 22 ∧ z 22 ≤ 40) ∧ (-1000 ≤ z 31 ∧ z 31 ≤ 20)
end
section
def s_X11_isPerson : q_Sp := fun av σ post => match av with
  | [.ref mr, .int p] => (match q_fld σ mr 11 1 with
    | some (.int n) => (0 ≤ n ∧ n ≤ 12) ∧ (0 ≤ p ∧ p < n → post (some (.int 1)) σ) ∧ (¬ (0 ≤ p ∧ p < n) → post (some (.int 0)) σ)
    | _ => False)
  | _ => False
theorem w9_4 : (.fieldLink RX11 100 (TX11 1).1 (TX11 1).2.1 (TX11 1).2.2.1 : Cond) ∈ lw_tbl := by decide +kernel
theorem w9_5 : (.code yX11_in cX11_in 3 (some .boolean) : Cond) ∈ lw_tbl := by decide +kernel
theorem w9_6 : (.initialized RX11 : Cond) ∈ lw_tbl := by decide +kernel
theorem w9_7 : (.static yX11_in : Cond) ∈ lw_tbl := by decide +kernel
theorem w9_8 : (.methodLink RX11 92 yX11_in : Cond) ∈ lw_tbl := by decide +kernel
def rm_X11_isPerson : Room := { frames := 1, cells := 0, slots := 0, locals := 22 }
def k_X11_isPerson_0 (post : Option Value → q_S → Prop) (K : Nat → q_K) : q_K := (c_iload 1 (c_push 0 (c_aload 0 (c_get 11 1 (c_push 1 (c_isub (c_call3 none s_X11_in 0 0 (c_zret post))))))))
set_option maxRecDepth 100000 in
theorem v_X11_isPerson_0 {p : Program} {l : Launch} {e : Env} {s : State} {m : MethodId} {args : Array Value} {below : List Frame} {meth : Method} {c : Code} {D : va_G} {A : Nat → Prop} {post : Option Value → q_S → Prop} {K : Nat → q_K} (C : q_C p s m args meth c cX11_isPerson 2 RX11 "isPerson" (some .boolean) A) (hK : ∀ h ∈ ([] : List Nat), q_V p l e rm_X11_isPerson s m args below meth c D A 2 (MQ below (q_Qc D A post) args s rm_X11_isPerson.cells rm_X11_isPerson.slots A) h (K h)) : q_V p l e rm_X11_isPerson s m args below meth c D A 2 (MQ below (q_Qc D A post) args s rm_X11_isPerson.cells rm_X11_isPerson.slots A) 0 (k_X11_isPerson_0 post K) := by
  unfold k_X11_isPerson_0
  refine q_iload_n C (by decide +kernel : decode cX11_isPerson 0 = .ok (.iload_n 1, 1)) ?_
  refine q_iconst C (by decide +kernel : decode cX11_isPerson 1 = .ok (.iconst 0, 1)) (by decide) ?_
  refine q_aload_n C (by decide +kernel : decode cX11_isPerson 2 = .ok (.aload_n 0, 1)) ?_
  refine q_get C (ci := 11) (j := 1) (C0 := RX11) (T := TX11) (N := 35) rfl iX11 giX11 (by decide) w9_4 (by decide +kernel : decode cX11_isPerson 3 = .ok (.getfield 100, 3)) ?_
  refine q_iconst C (by decide +kernel : decode cX11_isPerson 6 = .ok (.iconst 1, 1)) (by decide) ?_
  refine q_isub C (by decide +kernel : decode cX11_isPerson 7 = .ok (.isub, 1)) ?_
  refine q_call3 C (q_coS C (np := 3) (t_X11_in l) w9_5 w9_8 w9_7 w9_6 (by decide +kernel) (by decide +kernel : decode cX11_isPerson 8 = .ok (.invokestatic 92, 3)) (by decide)) ?_
  exact q_zret C rfl (by decide +kernel : decode cX11_isPerson 11 = .ok (.ireturn, 1))
theorem u_X11_isPerson (l : Launch) {sp : q_Sp} (H : ∀ (av : List Value) (σ : q_S) (post : Option Value → q_S → Prop), sp av σ post → k_X11_isPerson_0 post (fun _ _ _ _ _ _ => False) (q_L0 av 2) [] σ 0 0 ∧ av.length ≤ 2 ∧ ∀ v ∈ av, v.category = 1) : q_Ct l yX11_isPerson cX11_isPerson 2 (some .boolean) rm_X11_isPerson sp := by
  refine q_met (by decide) ?_
  intro D A p e s m args below meth c σ av post C hsp
  obtain ⟨h1, h2, h3⟩ := H av σ post hsp
  exact ⟨_, v_X11_isPerson_0 (K := fun _ _ _ _ _ _ => False) C (fun h hh => by cases hh), h1, h2, h3⟩
theorem t_X11_isPerson (l : Launch) : q_Ct l yX11_isPerson cX11_isPerson 2 (some .boolean) rm_X11_isPerson s_X11_isPerson := u_X11_isPerson l (by
  intro av σ post h
  unfold s_X11_isPerson at h
  split at h
  · split at h
    · next hf =>
      refine ⟨?_, by simp, by simp [Value.category]⟩
      simp only [c_push, c_null, c_iload, c_aload, c_istore, c_astore, c_iinc, c_iadd, c_isub, c_imul, c_iand, c_ineg, c_dup, c_dup2, c_pop, c_ifnull, c_ifnonnull, c_get, c_put, c_iald, c_zald, c_iast, c_zast, c_aald, c_aast, c_alen, c_new, c_newa, c_newq, c_mna, c_oinit, c_max, c_copy, c_iret, c_zret, c_aret, c_vret, q_do, q_rc, c_ifeq, c_ifne, c_iflt, c_ifge, c_ifgt, c_ifle, c_iceq, c_icne, c_iclt, c_icge, c_icgt, c_icle, c_call0, c_call1, c_call2, c_call3, c_call4, c_call5, c_call6, c_call7, q_L0, List.map_cons, List.map_nil, List.replicate, List.cons_append, List.nil_append, List.append_nil, List.length_cons, List.length_nil, List.length_set, Nat.reduceSub, Nat.reduceAdd, Nat.reduceLT, Nat.reduceLeDiff, Nat.zero_add, Nat.add_zero, Nat.sub_zero, Nat.sub_self, List.getElem?_cons_zero, List.getElem?_cons_succ, List.set_cons_zero, List.set_cons_succ, Option.toList_some, Option.toList_none, List.sum_cons, List.sum_nil, true_and, and_true, true_or, or_true, Nat.le_refl, Nat.zero_le, Value.category, Fin.isValue, Fin.val_zero, Fin.val_one, Fin.val_two, Fin.reduceFinMk, q_10, q_01, not_false_eq_true, not_true_eq_false, forall_const, true_implies, false_implies, implies_true, q_ni, q_fi, q_nb0, q_nb1, q_fb0, q_fb1, q_nor, q_nar, q_for, q_far, q_non, q_nan, q_fon, q_fan, imp_false, false_and, and_false, and_self, false_or, or_false, va_rf, refKind, k_X11_isPerson_0, hf, s_X11_in, s_X10_isWithin]
      grind
    · exact h.elim
  · exact h.elim)
def s_X11_isWork : q_Sp := fun av σ post => match av with
  | [.ref mr, .int p] => (match q_fld σ mr 11 11 with
    | some (.int n) => (0 ≤ n ∧ n ≤ 20) ∧ (0 ≤ p ∧ p < n → post (some (.int 1)) σ) ∧ (¬ (0 ≤ p ∧ p < n) → post (some (.int 0)) σ)
    | _ => False)
  | _ => False
theorem w9_9 : (.fieldLink RX11 103 (TX11 11).1 (TX11 11).2.1 (TX11 11).2.2.1 : Cond) ∈ lw_tbl := by decide +kernel
def rm_X11_isWork : Room := { frames := 1, cells := 0, slots := 0, locals := 22 }
def k_X11_isWork_0 (post : Option Value → q_S → Prop) (K : Nat → q_K) : q_K := (c_iload 1 (c_push 0 (c_aload 0 (c_get 11 11 (c_push 1 (c_isub (c_call3 none s_X11_in 0 0 (c_zret post))))))))
set_option maxRecDepth 100000 in
theorem v_X11_isWork_0 {p : Program} {l : Launch} {e : Env} {s : State} {m : MethodId} {args : Array Value} {below : List Frame} {meth : Method} {c : Code} {D : va_G} {A : Nat → Prop} {post : Option Value → q_S → Prop} {K : Nat → q_K} (C : q_C p s m args meth c cX11_isWork 2 RX11 "isWork" (some .boolean) A) (hK : ∀ h ∈ ([] : List Nat), q_V p l e rm_X11_isWork s m args below meth c D A 2 (MQ below (q_Qc D A post) args s rm_X11_isWork.cells rm_X11_isWork.slots A) h (K h)) : q_V p l e rm_X11_isWork s m args below meth c D A 2 (MQ below (q_Qc D A post) args s rm_X11_isWork.cells rm_X11_isWork.slots A) 0 (k_X11_isWork_0 post K) := by
  unfold k_X11_isWork_0
  refine q_iload_n C (by decide +kernel : decode cX11_isWork 0 = .ok (.iload_n 1, 1)) ?_
  refine q_iconst C (by decide +kernel : decode cX11_isWork 1 = .ok (.iconst 0, 1)) (by decide) ?_
  refine q_aload_n C (by decide +kernel : decode cX11_isWork 2 = .ok (.aload_n 0, 1)) ?_
  refine q_get C (ci := 11) (j := 11) (C0 := RX11) (T := TX11) (N := 35) rfl iX11 giX11 (by decide) w9_9 (by decide +kernel : decode cX11_isWork 3 = .ok (.getfield 103, 3)) ?_
  refine q_iconst C (by decide +kernel : decode cX11_isWork 6 = .ok (.iconst 1, 1)) (by decide) ?_
  refine q_isub C (by decide +kernel : decode cX11_isWork 7 = .ok (.isub, 1)) ?_
  refine q_call3 C (q_coS C (np := 3) (t_X11_in l) w9_5 w9_8 w9_7 w9_6 (by decide +kernel) (by decide +kernel : decode cX11_isWork 8 = .ok (.invokestatic 92, 3)) (by decide)) ?_
  exact q_zret C rfl (by decide +kernel : decode cX11_isWork 11 = .ok (.ireturn, 1))
theorem u_X11_isWork (l : Launch) {sp : q_Sp} (H : ∀ (av : List Value) (σ : q_S) (post : Option Value → q_S → Prop), sp av σ post → k_X11_isWork_0 post (fun _ _ _ _ _ _ => False) (q_L0 av 2) [] σ 0 0 ∧ av.length ≤ 2 ∧ ∀ v ∈ av, v.category = 1) : q_Ct l yX11_isWork cX11_isWork 2 (some .boolean) rm_X11_isWork sp := by
  refine q_met (by decide) ?_
  intro D A p e s m args below meth c σ av post C hsp
  obtain ⟨h1, h2, h3⟩ := H av σ post hsp
  exact ⟨_, v_X11_isWork_0 (K := fun _ _ _ _ _ _ => False) C (fun h hh => by cases hh), h1, h2, h3⟩
theorem t_X11_isWork (l : Launch) : q_Ct l yX11_isWork cX11_isWork 2 (some .boolean) rm_X11_isWork s_X11_isWork := u_X11_isWork l (by
  intro av σ post h
  unfold s_X11_isWork at h
  split at h
  · split at h
    · next hf =>
      refine ⟨?_, by simp, by simp [Value.category]⟩
      simp only [c_push, c_null, c_iload, c_aload, c_istore, c_astore, c_iinc, c_iadd, c_isub, c_imul, c_iand, c_ineg, c_dup, c_dup2, c_pop, c_ifnull, c_ifnonnull, c_get, c_put, c_iald, c_zald, c_iast, c_zast, c_aald, c_aast, c_alen, c_new, c_newa, c_newq, c_mna, c_oinit, c_max, c_copy, c_iret, c_zret, c_aret, c_vret, q_do, q_rc, c_ifeq, c_ifne, c_iflt, c_ifge, c_ifgt, c_ifle, c_iceq, c_icne, c_iclt, c_icge, c_icgt, c_icle, c_call0, c_call1, c_call2, c_call3, c_call4, c_call5, c_call6, c_call7, q_L0, List.map_cons, List.map_nil, List.replicate, List.cons_append, List.nil_append, List.append_nil, List.length_cons, List.length_nil, List.length_set, Nat.reduceSub, Nat.reduceAdd, Nat.reduceLT, Nat.reduceLeDiff, Nat.zero_add, Nat.add_zero, Nat.sub_zero, Nat.sub_self, List.getElem?_cons_zero, List.getElem?_cons_succ, List.set_cons_zero, List.set_cons_succ, Option.toList_some, Option.toList_none, List.sum_cons, List.sum_nil, true_and, and_true, true_or, or_true, Nat.le_refl, Nat.zero_le, Value.category, Fin.isValue, Fin.val_zero, Fin.val_one, Fin.val_two, Fin.reduceFinMk, q_10, q_01, not_false_eq_true, not_true_eq_false, forall_const, true_implies, false_implies, implies_true, q_ni, q_fi, q_nb0, q_nb1, q_fb0, q_fb1, q_nor, q_nar, q_for, q_far, q_non, q_nan, q_fon, q_fan, imp_false, false_and, and_false, and_self, false_or, or_false, va_rf, refKind, k_X11_isWork_0, hf, s_X11_in, s_X10_isWithin]
      grind
    · exact h.elim
  · exact h.elim)
-- days
def F_days (z : Nat → Int32) (n : Int32) : Int32 × (Nat → Int32) := if (1 ≤ n ∧ n ≤ 500) ∧ z 0 + n ≤ 3000 then (z 0 + n, upd z 0 (z 0 + n)) else (-2, z)
def s_X11_days : q_Sp := fun av σ post => match av with
  | [.ref mr, .int n] => ∃ ad z g, mOK σ mr ad z g ∧ I1 z ∧ ∀ σ', mOK σ' mr ad (F_days z n).2 g → post (some (.int (F_days z n).1)) σ'
  | _ => False
theorem w9_10 : (.fieldLink RX11 96 (TX11 0).1 (TX11 0).2.1 (TX11 0).2.2.1 : Cond) ∈ lw_tbl := by decide +kernel
def rm_X11_days : Room := { frames := 1, cells := 0, slots := 0, locals := 22 }
def k_X11_days_23 (post : Option Value → q_S → Prop) (K : Nat → q_K) : q_K := (c_push (-2) (c_iret post))
def k_X11_days_0 (post : Option Value → q_S → Prop) (K : Nat → q_K) : q_K := (c_iload 1 (c_push 1 (c_push 500 (c_call3 none s_X11_in 0 0 (c_ifeq (k_X11_days_23 post K) (c_aload 0 (c_get 11 0 (c_iload 1 (c_iadd (c_push 3000 (c_icle (c_aload 0 (c_dup (c_get 11 0 (c_iload 1 (c_iadd (c_put 11 0 (.int) (c_aload 0 (c_get 11 0 (c_iret post))))))))) (k_X11_days_23 post K))))))))))))
set_option maxRecDepth 100000 in
theorem v_X11_days_23 {p : Program} {l : Launch} {e : Env} {s : State} {m : MethodId} {args : Array Value} {below : List Frame} {meth : Method} {c : Code} {D : va_G} {A : Nat → Prop} {post : Option Value → q_S → Prop} {K : Nat → q_K} (C : q_C p s m args meth c cX11_days 2 RX11 "days" (some .int) A) (hK : ∀ h ∈ ([] : List Nat), q_V p l e rm_X11_days s m args below meth c D A 2 (MQ below (q_Qc D A post) args s rm_X11_days.cells rm_X11_days.slots A) h (K h)) : q_V p l e rm_X11_days s m args below meth c D A 2 (MQ below (q_Qc D A post) args s rm_X11_days.cells rm_X11_days.slots A) 23 (k_X11_days_23 post K) := by
  unfold k_X11_days_23
  refine q_bipush C (by decide +kernel : decode cX11_days 23 = .ok (.bipush (-2), 2)) (by decide) ?_
  exact q_iret C rfl (by decide +kernel : decode cX11_days 25 = .ok (.ireturn, 1))
set_option maxRecDepth 100000 in
theorem v_X11_days_0 {p : Program} {l : Launch} {e : Env} {s : State} {m : MethodId} {args : Array Value} {below : List Frame} {meth : Method} {c : Code} {D : va_G} {A : Nat → Prop} {post : Option Value → q_S → Prop} {K : Nat → q_K} (C : q_C p s m args meth c cX11_days 2 RX11 "days" (some .int) A) (hK : ∀ h ∈ ([] : List Nat), q_V p l e rm_X11_days s m args below meth c D A 2 (MQ below (q_Qc D A post) args s rm_X11_days.cells rm_X11_days.slots A) h (K h)) : q_V p l e rm_X11_days s m args below meth c D A 2 (MQ below (q_Qc D A post) args s rm_X11_days.cells rm_X11_days.slots A) 0 (k_X11_days_0 post K) := by
  unfold k_X11_days_0
  refine q_iload_n C (by decide +kernel : decode cX11_days 0 = .ok (.iload_n 1, 1)) ?_
  refine q_iconst C (by decide +kernel : decode cX11_days 1 = .ok (.iconst 1, 1)) (by decide) ?_
  refine q_sipush C (by decide +kernel : decode cX11_days 2 = .ok (.sipush 500, 3)) (by decide) ?_
  refine q_call3 C (q_coS C (np := 3) (t_X11_in l) w9_5 w9_8 w9_7 w9_6 (by decide +kernel) (by decide +kernel : decode cX11_days 5 = .ok (.invokestatic 92, 3)) (by decide)) ?_
  refine q_ifeq C (tgt := 23) (by decide +kernel : decode cX11_days 8 = .ok (.ifCond .eq 15, 3)) (by decide) ?_ ?_
  · exact v_X11_days_23 C hK
  · refine q_aload_n C (by decide +kernel : decode cX11_days 11 = .ok (.aload_n 0, 1)) ?_
    refine q_get C (ci := 11) (j := 0) (C0 := RX11) (T := TX11) (N := 35) rfl iX11 giX11 (by decide) w9_10 (by decide +kernel : decode cX11_days 12 = .ok (.getfield 96, 3)) ?_
    refine q_iload_n C (by decide +kernel : decode cX11_days 15 = .ok (.iload_n 1, 1)) ?_
    refine q_iadd C (by decide +kernel : decode cX11_days 16 = .ok (.iadd, 1)) ?_
    refine q_sipush C (by decide +kernel : decode cX11_days 17 = .ok (.sipush 3000, 3)) (by decide) ?_
    refine q_icle C (tgt := 26) (by decide +kernel : decode cX11_days 20 = .ok (.if_icmp .le 6, 3)) (by decide) ?_ ?_
    · refine q_aload_n C (by decide +kernel : decode cX11_days 26 = .ok (.aload_n 0, 1)) ?_
      refine q_dup C (by decide +kernel : decode cX11_days 27 = .ok (.dup, 1)) ?_
      refine q_get C (ci := 11) (j := 0) (C0 := RX11) (T := TX11) (N := 35) rfl iX11 giX11 (by decide) w9_10 (by decide +kernel : decode cX11_days 28 = .ok (.getfield 96, 3)) ?_
      refine q_iload_n C (by decide +kernel : decode cX11_days 31 = .ok (.iload_n 1, 1)) ?_
      refine q_iadd C (by decide +kernel : decode cX11_days 32 = .ok (.iadd, 1)) ?_
      refine q_put C (ci := 11) (j := 0) (C0 := RX11) (T := TX11) (N := 35) (ty := .int) rfl iX11 giX11 (by decide) tyX11 tyX11_ok nmX11 (by decide +kernel) rfl w9_10 (by decide +kernel : decode cX11_days 33 = .ok (.putfield 96, 3)) ?_
      refine q_aload_n C (by decide +kernel : decode cX11_days 36 = .ok (.aload_n 0, 1)) ?_
      refine q_get C (ci := 11) (j := 0) (C0 := RX11) (T := TX11) (N := 35) rfl iX11 giX11 (by decide) w9_10 (by decide +kernel : decode cX11_days 37 = .ok (.getfield 96, 3)) ?_
      exact q_iret C rfl (by decide +kernel : decode cX11_days 40 = .ok (.ireturn, 1))
    · exact v_X11_days_23 C hK
theorem u_X11_days (l : Launch) {sp : q_Sp} (H : ∀ (av : List Value) (σ : q_S) (post : Option Value → q_S → Prop), sp av σ post → k_X11_days_0 post (fun _ _ _ _ _ _ => False) (q_L0 av 2) [] σ 0 0 ∧ av.length ≤ 2 ∧ ∀ v ∈ av, v.category = 1) : q_Ct l yX11_days cX11_days 2 (some .int) rm_X11_days sp := by
  refine q_met (by decide) ?_
  intro D A p e s m args below meth c σ av post C hsp
  obtain ⟨h1, h2, h3⟩ := H av σ post hsp
  exact ⟨_, v_X11_days_0 (K := fun _ _ _ _ _ _ => False) C (fun h hh => by cases hh), h1, h2, h3⟩
theorem t_X11_days (l : Launch) : q_Ct l yX11_days cX11_days 2 (some .int) rm_X11_days s_X11_days := u_X11_days l (by
  intro av σ post h
  unfold s_X11_days at h
  split at h
  · next mr n =>
    refine ⟨?_, by simp, by simp [Value.category]⟩
    obtain ⟨ad, z, g, ⟨gp, r, hm⟩, hI, h1⟩ := h
    have hm1 := hm.p0 (z 0 + n)
    simp only [c_push, c_null, c_iload, c_aload, c_istore, c_astore, c_iinc, c_iadd, c_isub, c_imul, c_iand, c_ineg, c_dup, c_dup2, c_pop, c_ifnull, c_ifnonnull, c_get, c_put, c_iald, c_zald, c_iast, c_zast, c_aald, c_aast, c_alen, c_new, c_newa, c_newq, c_mna, c_oinit, c_max, c_copy, c_iret, c_zret, c_aret, c_vret, q_do, q_rc, c_ifeq, c_ifne, c_iflt, c_ifge, c_ifgt, c_ifle, c_iceq, c_icne, c_iclt, c_icge, c_icgt, c_icle, c_call0, c_call1, c_call2, c_call3, c_call4, c_call5, c_call6, c_call7, q_L0, List.map_cons, List.map_nil, List.replicate, List.cons_append, List.nil_append, List.append_nil, List.length_cons, List.length_nil, List.length_set, Nat.reduceSub, Nat.reduceAdd, Nat.reduceLT, Nat.reduceLeDiff, Nat.zero_add, Nat.add_zero, Nat.sub_zero, Nat.sub_self, List.getElem?_cons_zero, List.getElem?_cons_succ, List.set_cons_zero, List.set_cons_succ, Option.toList_some, Option.toList_none, List.sum_cons, List.sum_nil, true_and, and_true, true_or, or_true, Nat.le_refl, Nat.zero_le, Value.category, Fin.isValue, Fin.val_zero, Fin.val_one, Fin.val_two, Fin.reduceFinMk, q_10, q_01, not_false_eq_true, not_true_eq_false, forall_const, true_implies, false_implies, implies_true, q_ni, q_fi, q_nb0, q_nb1, q_fb0, q_fb1, q_nor, q_nar, q_for, q_far, q_non, q_nan, q_fon, q_fan, imp_false, false_and, and_false, and_self, false_or, or_false, va_rf, refKind, k_X11_days_0, k_X11_days_23, hm.rd, hm1.rd, s_X11_in, s_X10_isWithin]
    unfold F_days at h1
    split at h1
    · have a := h1 _ ⟨gp, r, hm1⟩
      grind [upd]
    · have a := h1 _ ⟨gp, r, hm⟩
      grind
  · exact h.elim)
-- person
def F_person (z : Nat → Int32) (g : Nat → Nat → Int32) : Int32 × (Nat → Int32) × (Nat → Nat → Int32) := if z 1 = 12 then (-4, z, g) else (z 1, upd z 1 (z 1 + 1), gup (gup g 2 (z 1).toNatClampNeg (-1)) 3 (z 1).toNatClampNeg (-1))
def s_X11_person : q_Sp := fun av σ post => match av with
  | [.ref mr] => ∃ ad z g, mOK σ mr ad z g ∧ I1 z ∧ ∀ σ', mOK σ' mr ad (F_person z g).2.1 (F_person z g).2.2 → post (some (.int (F_person z g).1)) σ'
  | _ => False
theorem w9_11 : (.fieldLink RX11 7 (TX11 2).1 (TX11 2).2.1 (TX11 2).2.2.1 : Cond) ∈ lw_tbl := by decide +kernel
theorem w9_12 : (.fieldLink RX11 13 (TX11 3).1 (TX11 3).2.1 (TX11 3).2.2.1 : Cond) ∈ lw_tbl := by decide +kernel
def rm_X11_person : Room := { frames := 0, cells := 0, slots := 0, locals := 0 }
def k_X11_person_0 (post : Option Value → q_S → Prop) (K : Nat → q_K) : q_K := (c_aload 0 (c_get 11 1 (c_push 12 (c_icne (c_aload 0 (c_get 11 2 (c_aload 0 (c_get 11 1 (c_push (-1) (c_iast (c_aload 0 (c_get 11 3 (c_aload 0 (c_get 11 1 (c_push (-1) (c_iast (c_aload 0 (c_dup (c_get 11 1 (c_push 1 (c_iadd (c_put 11 1 (.int) (c_aload 0 (c_get 11 1 (c_push 1 (c_isub (c_iret post))))))))))))))))))))))) (c_push (-4) (c_iret post))))))
set_option maxRecDepth 100000 in
theorem v_X11_person_0 {p : Program} {l : Launch} {e : Env} {s : State} {m : MethodId} {args : Array Value} {below : List Frame} {meth : Method} {c : Code} {D : va_G} {A : Nat → Prop} {post : Option Value → q_S → Prop} {K : Nat → q_K} (C : q_C p s m args meth c cX11_person 1 RX11 "person" (some .int) A) (hK : ∀ h ∈ ([] : List Nat), q_V p l e rm_X11_person s m args below meth c D A 1 (MQ below (q_Qc D A post) args s rm_X11_person.cells rm_X11_person.slots A) h (K h)) : q_V p l e rm_X11_person s m args below meth c D A 1 (MQ below (q_Qc D A post) args s rm_X11_person.cells rm_X11_person.slots A) 0 (k_X11_person_0 post K) := by
  unfold k_X11_person_0
  refine q_aload_n C (by decide +kernel : decode cX11_person 0 = .ok (.aload_n 0, 1)) ?_
  refine q_get C (ci := 11) (j := 1) (C0 := RX11) (T := TX11) (N := 35) rfl iX11 giX11 (by decide) w9_4 (by decide +kernel : decode cX11_person 1 = .ok (.getfield 100, 3)) ?_
  refine q_bipush C (by decide +kernel : decode cX11_person 4 = .ok (.bipush 12, 2)) (by decide) ?_
  refine q_icne C (tgt := 12) (by decide +kernel : decode cX11_person 6 = .ok (.if_icmp .ne 6, 3)) (by decide) ?_ ?_
  · refine q_aload_n C (by decide +kernel : decode cX11_person 12 = .ok (.aload_n 0, 1)) ?_
    refine q_get C (ci := 11) (j := 2) (C0 := RX11) (T := TX11) (N := 35) rfl iX11 giX11 (by decide) w9_11 (by decide +kernel : decode cX11_person 13 = .ok (.getfield 7, 3)) ?_
    refine q_aload_n C (by decide +kernel : decode cX11_person 16 = .ok (.aload_n 0, 1)) ?_
    refine q_get C (ci := 11) (j := 1) (C0 := RX11) (T := TX11) (N := 35) rfl iX11 giX11 (by decide) w9_4 (by decide +kernel : decode cX11_person 17 = .ok (.getfield 100, 3)) ?_
    refine q_iconst C (by decide +kernel : decode cX11_person 20 = .ok (.iconst (-1), 1)) (by decide) ?_
    refine q_iast C (by decide +kernel : decode cX11_person 21 = .ok (.iastore, 1)) ?_
    refine q_aload_n C (by decide +kernel : decode cX11_person 22 = .ok (.aload_n 0, 1)) ?_
    refine q_get C (ci := 11) (j := 3) (C0 := RX11) (T := TX11) (N := 35) rfl iX11 giX11 (by decide) w9_12 (by decide +kernel : decode cX11_person 23 = .ok (.getfield 13, 3)) ?_
    refine q_aload_n C (by decide +kernel : decode cX11_person 26 = .ok (.aload_n 0, 1)) ?_
    refine q_get C (ci := 11) (j := 1) (C0 := RX11) (T := TX11) (N := 35) rfl iX11 giX11 (by decide) w9_4 (by decide +kernel : decode cX11_person 27 = .ok (.getfield 100, 3)) ?_
    refine q_iconst C (by decide +kernel : decode cX11_person 30 = .ok (.iconst (-1), 1)) (by decide) ?_
    refine q_iast C (by decide +kernel : decode cX11_person 31 = .ok (.iastore, 1)) ?_
    refine q_aload_n C (by decide +kernel : decode cX11_person 32 = .ok (.aload_n 0, 1)) ?_
    refine q_dup C (by decide +kernel : decode cX11_person 33 = .ok (.dup, 1)) ?_
    refine q_get C (ci := 11) (j := 1) (C0 := RX11) (T := TX11) (N := 35) rfl iX11 giX11 (by decide) w9_4 (by decide +kernel : decode cX11_person 34 = .ok (.getfield 100, 3)) ?_
    refine q_iconst C (by decide +kernel : decode cX11_person 37 = .ok (.iconst 1, 1)) (by decide) ?_
    refine q_iadd C (by decide +kernel : decode cX11_person 38 = .ok (.iadd, 1)) ?_
    refine q_put C (ci := 11) (j := 1) (C0 := RX11) (T := TX11) (N := 35) (ty := .int) rfl iX11 giX11 (by decide) tyX11 tyX11_ok nmX11 (by decide +kernel) rfl w9_4 (by decide +kernel : decode cX11_person 39 = .ok (.putfield 100, 3)) ?_
    refine q_aload_n C (by decide +kernel : decode cX11_person 42 = .ok (.aload_n 0, 1)) ?_
    refine q_get C (ci := 11) (j := 1) (C0 := RX11) (T := TX11) (N := 35) rfl iX11 giX11 (by decide) w9_4 (by decide +kernel : decode cX11_person 43 = .ok (.getfield 100, 3)) ?_
    refine q_iconst C (by decide +kernel : decode cX11_person 46 = .ok (.iconst 1, 1)) (by decide) ?_
    refine q_isub C (by decide +kernel : decode cX11_person 47 = .ok (.isub, 1)) ?_
    exact q_iret C rfl (by decide +kernel : decode cX11_person 48 = .ok (.ireturn, 1))
  · refine q_bipush C (by decide +kernel : decode cX11_person 9 = .ok (.bipush (-4), 2)) (by decide) ?_
    exact q_iret C rfl (by decide +kernel : decode cX11_person 11 = .ok (.ireturn, 1))
theorem u_X11_person (l : Launch) {sp : q_Sp} (H : ∀ (av : List Value) (σ : q_S) (post : Option Value → q_S → Prop), sp av σ post → k_X11_person_0 post (fun _ _ _ _ _ _ => False) (q_L0 av 1) [] σ 0 0 ∧ av.length ≤ 1 ∧ ∀ v ∈ av, v.category = 1) : q_Ct l yX11_person cX11_person 1 (some .int) rm_X11_person sp := by
  refine q_met (by decide) ?_
  intro D A p e s m args below meth c σ av post C hsp
  obtain ⟨h1, h2, h3⟩ := H av σ post hsp
  exact ⟨_, v_X11_person_0 (K := fun _ _ _ _ _ _ => False) C (fun h hh => by cases hh), h1, h2, h3⟩
theorem t_X11_person (l : Launch) : q_Ct l yX11_person cX11_person 1 (some .int) rm_X11_person s_X11_person := u_X11_person l (by
  intro av σ post h
  unfold s_X11_person at h
  split at h
  · next mr =>
    refine ⟨?_, by simp, by simp [Value.category]⟩
    obtain ⟨ad, z, g, ⟨gp, r, hm⟩, hI, h1⟩ := h
    have hm1 := hm.a2 (z 1).toNatClampNeg (-1)
    have hm2 := hm1.a3 (z 1).toNatClampNeg (-1)
    have hm3 := hm2.p1 (z 1 + 1)
    simp only [c_push, c_null, c_iload, c_aload, c_istore, c_astore, c_iinc, c_iadd, c_isub, c_imul, c_iand, c_ineg, c_dup, c_dup2, c_pop, c_ifnull, c_ifnonnull, c_get, c_put, c_iald, c_zald, c_iast, c_zast, c_aald, c_aast, c_alen, c_new, c_newa, c_newq, c_mna, c_oinit, c_max, c_copy, c_iret, c_zret, c_aret, c_vret, q_do, q_rc, c_ifeq, c_ifne, c_iflt, c_ifge, c_ifgt, c_ifle, c_iceq, c_icne, c_iclt, c_icge, c_icgt, c_icle, c_call0, c_call1, c_call2, c_call3, c_call4, c_call5, c_call6, c_call7, q_L0, List.map_cons, List.map_nil, List.replicate, List.cons_append, List.nil_append, List.append_nil, List.length_cons, List.length_nil, List.length_set, Nat.reduceSub, Nat.reduceAdd, Nat.reduceLT, Nat.reduceLeDiff, Nat.zero_add, Nat.add_zero, Nat.sub_zero, Nat.sub_self, List.getElem?_cons_zero, List.getElem?_cons_succ, List.set_cons_zero, List.set_cons_succ, Option.toList_some, Option.toList_none, List.sum_cons, List.sum_nil, true_and, and_true, true_or, or_true, Nat.le_refl, Nat.zero_le, Value.category, Fin.isValue, Fin.val_zero, Fin.val_one, Fin.val_two, Fin.reduceFinMk, q_10, q_01, not_false_eq_true, not_true_eq_false, forall_const, true_implies, false_implies, implies_true, q_ni, q_fi, q_nb0, q_nb1, q_fb0, q_fb1, q_nor, q_nar, q_for, q_far, q_non, q_nan, q_fon, q_fan, imp_false, false_and, and_false, and_self, false_or, or_false, va_rf, refKind, k_X11_person_0, hm.rd, hm1.rd, hm2.rd, hm3.rd, vpi12]
    unfold F_person at h1
    unfold I1 at hI
    split at h1
    · have a := h1 _ ⟨gp, r, hm⟩
      grind
    · have a := h1 _ ⟨gp, r, hm3⟩
      grind [upd]
  · exact h.elim)
-- heir
def F_heir (z : Nat → Int32) (g : Nat → Nat → Int32) (p h : Int32) : Int32 × (Nat → Nat → Int32) := if (0 ≤ p ∧ p < z 1) ∧ (h = -1 ∨ 0 ≤ h ∧ h < z 1) ∧ h ≠ p then (g 2 p.toNatClampNeg, gup g 2 p.toNatClampNeg h) else (-2, g)
def s_X11_heir : q_Sp := fun av σ post => match av with
  | [.ref mr, .int p, .int h] => ∃ ad z g, mOK σ mr ad z g ∧ I1 z ∧ ∀ σ', mOK σ' mr ad z (F_heir z g p h).2 → post (some (.int (F_heir z g p h).1)) σ'
  | _ => False
theorem w9_13 : (.code yX11_isPerson cX11_isPerson 2 (some .boolean) : Cond) ∈ lw_tbl := by decide +kernel
theorem w9_14 : (.methodLink RX11 106 yX11_isPerson : Cond) ∈ lw_tbl := by decide +kernel
theorem w9_15 : (.instanceMethod yX11_isPerson : Cond) ∈ lw_tbl := by decide +kernel
theorem w9_16 : (.selects RX11 yX11_isPerson yX11_isPerson : Cond) ∈ lw_tbl := by decide +kernel
def rm_X11_heir : Room := { frames := 2, cells := 0, slots := 0, locals := 43 }
def k_X11_heir_26 (post : Option Value → q_S → Prop) (K : Nat → q_K) : q_K := (c_push (-2) (c_iret post))
def k_X11_heir_21 (post : Option Value → q_S → Prop) (K : Nat → q_K) : q_K := (c_iload 2 (c_iload 1 (c_icne (c_aload 0 (c_get 11 2 (c_iload 1 (c_iald (c_istore 3 (c_aload 0 (c_get 11 2 (c_iload 1 (c_iload 2 (c_iast (c_iload 3 (c_iret post)))))))))))) (k_X11_heir_26 post K))))
def k_X11_heir_0 (post : Option Value → q_S → Prop) (K : Nat → q_K) : q_K := (c_aload 0 (c_iload 1 (c_call2 (some 11) s_X11_isPerson 0 0 (c_ifeq (k_X11_heir_26 post K) (c_iload 2 (c_push (-1) (c_iceq (k_X11_heir_21 post K) (c_aload 0 (c_iload 2 (c_call2 (some 11) s_X11_isPerson 0 0 (c_ifeq (k_X11_heir_26 post K) (k_X11_heir_21 post K))))))))))))
set_option maxRecDepth 100000 in
theorem v_X11_heir_26 {p : Program} {l : Launch} {e : Env} {s : State} {m : MethodId} {args : Array Value} {below : List Frame} {meth : Method} {c : Code} {D : va_G} {A : Nat → Prop} {post : Option Value → q_S → Prop} {K : Nat → q_K} (C : q_C p s m args meth c cX11_heir 4 RX11 "heir" (some .int) A) (hK : ∀ h ∈ ([] : List Nat), q_V p l e rm_X11_heir s m args below meth c D A 4 (MQ below (q_Qc D A post) args s rm_X11_heir.cells rm_X11_heir.slots A) h (K h)) : q_V p l e rm_X11_heir s m args below meth c D A 4 (MQ below (q_Qc D A post) args s rm_X11_heir.cells rm_X11_heir.slots A) 26 (k_X11_heir_26 post K) := by
  unfold k_X11_heir_26
  refine q_bipush C (by decide +kernel : decode cX11_heir 26 = .ok (.bipush (-2), 2)) (by decide) ?_
  exact q_iret C rfl (by decide +kernel : decode cX11_heir 28 = .ok (.ireturn, 1))
set_option maxRecDepth 100000 in
theorem v_X11_heir_21 {p : Program} {l : Launch} {e : Env} {s : State} {m : MethodId} {args : Array Value} {below : List Frame} {meth : Method} {c : Code} {D : va_G} {A : Nat → Prop} {post : Option Value → q_S → Prop} {K : Nat → q_K} (C : q_C p s m args meth c cX11_heir 4 RX11 "heir" (some .int) A) (hK : ∀ h ∈ ([] : List Nat), q_V p l e rm_X11_heir s m args below meth c D A 4 (MQ below (q_Qc D A post) args s rm_X11_heir.cells rm_X11_heir.slots A) h (K h)) : q_V p l e rm_X11_heir s m args below meth c D A 4 (MQ below (q_Qc D A post) args s rm_X11_heir.cells rm_X11_heir.slots A) 21 (k_X11_heir_21 post K) := by
  unfold k_X11_heir_21
  refine q_iload_n C (by decide +kernel : decode cX11_heir 21 = .ok (.iload_n 2, 1)) ?_
  refine q_iload_n C (by decide +kernel : decode cX11_heir 22 = .ok (.iload_n 1, 1)) ?_
  refine q_icne C (tgt := 29) (by decide +kernel : decode cX11_heir 23 = .ok (.if_icmp .ne 6, 3)) (by decide) ?_ ?_
  · refine q_aload_n C (by decide +kernel : decode cX11_heir 29 = .ok (.aload_n 0, 1)) ?_
    refine q_get C (ci := 11) (j := 2) (C0 := RX11) (T := TX11) (N := 35) rfl iX11 giX11 (by decide) w9_11 (by decide +kernel : decode cX11_heir 30 = .ok (.getfield 7, 3)) ?_
    refine q_iload_n C (by decide +kernel : decode cX11_heir 33 = .ok (.iload_n 1, 1)) ?_
    refine q_iald C (by decide +kernel : decode cX11_heir 34 = .ok (.iaload, 1)) ?_
    refine q_istore_n C (by decide +kernel : decode cX11_heir 35 = .ok (.istore_n 3, 1)) ?_
    refine q_aload_n C (by decide +kernel : decode cX11_heir 36 = .ok (.aload_n 0, 1)) ?_
    refine q_get C (ci := 11) (j := 2) (C0 := RX11) (T := TX11) (N := 35) rfl iX11 giX11 (by decide) w9_11 (by decide +kernel : decode cX11_heir 37 = .ok (.getfield 7, 3)) ?_
    refine q_iload_n C (by decide +kernel : decode cX11_heir 40 = .ok (.iload_n 1, 1)) ?_
    refine q_iload_n C (by decide +kernel : decode cX11_heir 41 = .ok (.iload_n 2, 1)) ?_
    refine q_iast C (by decide +kernel : decode cX11_heir 42 = .ok (.iastore, 1)) ?_
    refine q_iload_n C (by decide +kernel : decode cX11_heir 43 = .ok (.iload_n 3, 1)) ?_
    exact q_iret C rfl (by decide +kernel : decode cX11_heir 44 = .ok (.ireturn, 1))
  · exact v_X11_heir_26 C hK
set_option maxRecDepth 100000 in
theorem v_X11_heir_0 {p : Program} {l : Launch} {e : Env} {s : State} {m : MethodId} {args : Array Value} {below : List Frame} {meth : Method} {c : Code} {D : va_G} {A : Nat → Prop} {post : Option Value → q_S → Prop} {K : Nat → q_K} (C : q_C p s m args meth c cX11_heir 4 RX11 "heir" (some .int) A) (hK : ∀ h ∈ ([] : List Nat), q_V p l e rm_X11_heir s m args below meth c D A 4 (MQ below (q_Qc D A post) args s rm_X11_heir.cells rm_X11_heir.slots A) h (K h)) : q_V p l e rm_X11_heir s m args below meth c D A 4 (MQ below (q_Qc D A post) args s rm_X11_heir.cells rm_X11_heir.slots A) 0 (k_X11_heir_0 post K) := by
  unfold k_X11_heir_0
  refine q_aload_n C (by decide +kernel : decode cX11_heir 0 = .ok (.aload_n 0, 1)) ?_
  refine q_iload_n C (by decide +kernel : decode cX11_heir 1 = .ok (.iload_n 1, 1)) ?_
  refine q_call2 C (q_coV C (np := 1) (ci := 11) (rc := (RX11, TX11, 35)) (t_X11_isPerson l) w9_13 rfl rfl w9_14 w9_15 w9_16 w9_6 (by decide +kernel) (by decide +kernel : decode cX11_heir 2 = .ok (.invokevirtual 106, 3)) (by decide)) ?_
  refine q_ifeq C (tgt := 26) (by decide +kernel : decode cX11_heir 5 = .ok (.ifCond .eq 21, 3)) (by decide) ?_ ?_
  · exact v_X11_heir_26 C hK
  · refine q_iload_n C (by decide +kernel : decode cX11_heir 8 = .ok (.iload_n 2, 1)) ?_
    refine q_iconst C (by decide +kernel : decode cX11_heir 9 = .ok (.iconst (-1), 1)) (by decide) ?_
    refine q_iceq C (tgt := 21) (by decide +kernel : decode cX11_heir 10 = .ok (.if_icmp .eq 11, 3)) (by decide) ?_ ?_
    · exact v_X11_heir_21 C hK
    · refine q_aload_n C (by decide +kernel : decode cX11_heir 13 = .ok (.aload_n 0, 1)) ?_
      refine q_iload_n C (by decide +kernel : decode cX11_heir 14 = .ok (.iload_n 2, 1)) ?_
      refine q_call2 C (q_coV C (np := 1) (ci := 11) (rc := (RX11, TX11, 35)) (t_X11_isPerson l) w9_13 rfl rfl w9_14 w9_15 w9_16 w9_6 (by decide +kernel) (by decide +kernel : decode cX11_heir 15 = .ok (.invokevirtual 106, 3)) (by decide)) ?_
      refine q_ifeq C (tgt := 26) (by decide +kernel : decode cX11_heir 18 = .ok (.ifCond .eq 8, 3)) (by decide) ?_ ?_
      · exact v_X11_heir_26 C hK
      · exact v_X11_heir_21 C hK
theorem u_X11_heir (l : Launch) {sp : q_Sp} (H : ∀ (av : List Value) (σ : q_S) (post : Option Value → q_S → Prop), sp av σ post → k_X11_heir_0 post (fun _ _ _ _ _ _ => False) (q_L0 av 4) [] σ 0 0 ∧ av.length ≤ 4 ∧ ∀ v ∈ av, v.category = 1) : q_Ct l yX11_heir cX11_heir 4 (some .int) rm_X11_heir sp := by
  refine q_met (by decide) ?_
  intro D A p e s m args below meth c σ av post C hsp
  obtain ⟨h1, h2, h3⟩ := H av σ post hsp
  exact ⟨_, v_X11_heir_0 (K := fun _ _ _ _ _ _ => False) C (fun h hh => by cases hh), h1, h2, h3⟩
theorem t_X11_heir (l : Launch) : q_Ct l yX11_heir cX11_heir 4 (some .int) rm_X11_heir s_X11_heir := u_X11_heir l (by
  intro av σ post h
  unfold s_X11_heir at h
  split at h
  · next mr p q =>
    refine ⟨?_, by simp, by simp [Value.category]⟩
    obtain ⟨ad, z, g, ⟨gp, r, hm⟩, hI, h1⟩ := h
    have hm1 := hm.a2 p.toNatClampNeg q
    simp only [c_push, c_null, c_iload, c_aload, c_istore, c_astore, c_iinc, c_iadd, c_isub, c_imul, c_iand, c_ineg, c_dup, c_dup2, c_pop, c_ifnull, c_ifnonnull, c_get, c_put, c_iald, c_zald, c_iast, c_zast, c_aald, c_aast, c_alen, c_new, c_newa, c_newq, c_mna, c_oinit, c_max, c_copy, c_iret, c_zret, c_aret, c_vret, q_do, q_rc, c_ifeq, c_ifne, c_iflt, c_ifge, c_ifgt, c_ifle, c_iceq, c_icne, c_iclt, c_icge, c_icgt, c_icle, c_call0, c_call1, c_call2, c_call3, c_call4, c_call5, c_call6, c_call7, q_L0, List.map_cons, List.map_nil, List.replicate, List.cons_append, List.nil_append, List.append_nil, List.length_cons, List.length_nil, List.length_set, Nat.reduceSub, Nat.reduceAdd, Nat.reduceLT, Nat.reduceLeDiff, Nat.zero_add, Nat.add_zero, Nat.sub_zero, Nat.sub_self, List.getElem?_cons_zero, List.getElem?_cons_succ, List.set_cons_zero, List.set_cons_succ, Option.toList_some, Option.toList_none, List.sum_cons, List.sum_nil, true_and, and_true, true_or, or_true, Nat.le_refl, Nat.zero_le, Value.category, Fin.isValue, Fin.val_zero, Fin.val_one, Fin.val_two, Fin.reduceFinMk, q_10, q_01, not_false_eq_true, not_true_eq_false, forall_const, true_implies, false_implies, implies_true, q_ni, q_fi, q_nb0, q_nb1, q_fb0, q_fb1, q_nor, q_nar, q_for, q_far, q_non, q_nan, q_fon, q_fan, imp_false, false_and, and_false, and_self, false_or, or_false, va_rf, refKind, k_X11_heir_0, k_X11_heir_21, k_X11_heir_26, hm.rd, hm1.rd, vpi12, s_X11_isPerson]
    unfold F_heir at h1
    unfold I1 at hI
    split at h1
    · have a := h1 _ ⟨gp, r, hm1⟩
      grind
    · have a := h1 _ ⟨gp, r, hm⟩
      grind
  · exact h.elim)
-- deathAt, died
def deathF (g : Nat → Nat → Int32) (p : Nat) (k : Int32) : Int32 := if g 3 p ≠ -1 ∧ g 4 p ≤ k then g 3 p else -1
def s_X11_deathAt : q_Sp := fun av σ post => match av with
  | [.ref mr, .int p, .int k] => ∃ ad z g gp r, mOKx σ mr ad z g gp r ∧ (0 ≤ p ∧ p < 12) ∧ post (some (.int (deathF g p.toNatClampNeg k))) σ
  | _ => False
theorem w9_17 : (.fieldLink RX11 16 (TX11 4).1 (TX11 4).2.1 (TX11 4).2.2.1 : Cond) ∈ lw_tbl := by decide +kernel
def rm_X11_deathAt : Room := { frames := 0, cells := 0, slots := 0, locals := 0 }
def k_X11_deathAt_30 (post : Option Value → q_S → Prop) (K : Nat → q_K) : q_K := (c_iret post)
def k_X11_deathAt_29 (post : Option Value → q_S → Prop) (K : Nat → q_K) : q_K := (c_push (-1) (k_X11_deathAt_30 post K))
def k_X11_deathAt_0 (post : Option Value → q_S → Prop) (K : Nat → q_K) : q_K := (c_aload 0 (c_get 11 3 (c_iload 1 (c_iald (c_push (-1) (c_iceq (k_X11_deathAt_29 post K) (c_aload 0 (c_get 11 4 (c_iload 1 (c_iald (c_iload 2 (c_icgt (k_X11_deathAt_29 post K) (c_aload 0 (c_get 11 3 (c_iload 1 (c_iald (k_X11_deathAt_30 post K)))))))))))))))))
set_option maxRecDepth 100000 in
theorem v_X11_deathAt_30 {p : Program} {l : Launch} {e : Env} {s : State} {m : MethodId} {args : Array Value} {below : List Frame} {meth : Method} {c : Code} {D : va_G} {A : Nat → Prop} {post : Option Value → q_S → Prop} {K : Nat → q_K} (C : q_C p s m args meth c cX11_deathAt 3 RX11 "deathAt" (some .int) A) (hK : ∀ h ∈ ([] : List Nat), q_V p l e rm_X11_deathAt s m args below meth c D A 3 (MQ below (q_Qc D A post) args s rm_X11_deathAt.cells rm_X11_deathAt.slots A) h (K h)) : q_V p l e rm_X11_deathAt s m args below meth c D A 3 (MQ below (q_Qc D A post) args s rm_X11_deathAt.cells rm_X11_deathAt.slots A) 30 (k_X11_deathAt_30 post K) := by
  unfold k_X11_deathAt_30
  exact q_iret C rfl (by decide +kernel : decode cX11_deathAt 30 = .ok (.ireturn, 1))
set_option maxRecDepth 100000 in
theorem v_X11_deathAt_29 {p : Program} {l : Launch} {e : Env} {s : State} {m : MethodId} {args : Array Value} {below : List Frame} {meth : Method} {c : Code} {D : va_G} {A : Nat → Prop} {post : Option Value → q_S → Prop} {K : Nat → q_K} (C : q_C p s m args meth c cX11_deathAt 3 RX11 "deathAt" (some .int) A) (hK : ∀ h ∈ ([] : List Nat), q_V p l e rm_X11_deathAt s m args below meth c D A 3 (MQ below (q_Qc D A post) args s rm_X11_deathAt.cells rm_X11_deathAt.slots A) h (K h)) : q_V p l e rm_X11_deathAt s m args below meth c D A 3 (MQ below (q_Qc D A post) args s rm_X11_deathAt.cells rm_X11_deathAt.slots A) 29 (k_X11_deathAt_29 post K) := by
  unfold k_X11_deathAt_29
  refine q_iconst C (by decide +kernel : decode cX11_deathAt 29 = .ok (.iconst (-1), 1)) (by decide) ?_
  exact v_X11_deathAt_30 C hK
set_option maxRecDepth 100000 in
theorem v_X11_deathAt_0 {p : Program} {l : Launch} {e : Env} {s : State} {m : MethodId} {args : Array Value} {below : List Frame} {meth : Method} {c : Code} {D : va_G} {A : Nat → Prop} {post : Option Value → q_S → Prop} {K : Nat → q_K} (C : q_C p s m args meth c cX11_deathAt 3 RX11 "deathAt" (some .int) A) (hK : ∀ h ∈ ([] : List Nat), q_V p l e rm_X11_deathAt s m args below meth c D A 3 (MQ below (q_Qc D A post) args s rm_X11_deathAt.cells rm_X11_deathAt.slots A) h (K h)) : q_V p l e rm_X11_deathAt s m args below meth c D A 3 (MQ below (q_Qc D A post) args s rm_X11_deathAt.cells rm_X11_deathAt.slots A) 0 (k_X11_deathAt_0 post K) := by
  unfold k_X11_deathAt_0
  refine q_aload_n C (by decide +kernel : decode cX11_deathAt 0 = .ok (.aload_n 0, 1)) ?_
  refine q_get C (ci := 11) (j := 3) (C0 := RX11) (T := TX11) (N := 35) rfl iX11 giX11 (by decide) w9_12 (by decide +kernel : decode cX11_deathAt 1 = .ok (.getfield 13, 3)) ?_
  refine q_iload_n C (by decide +kernel : decode cX11_deathAt 4 = .ok (.iload_n 1, 1)) ?_
  refine q_iald C (by decide +kernel : decode cX11_deathAt 5 = .ok (.iaload, 1)) ?_
  refine q_iconst C (by decide +kernel : decode cX11_deathAt 6 = .ok (.iconst (-1), 1)) (by decide) ?_
  refine q_iceq C (tgt := 29) (by decide +kernel : decode cX11_deathAt 7 = .ok (.if_icmp .eq 22, 3)) (by decide) ?_ ?_
  · exact v_X11_deathAt_29 C hK
  · refine q_aload_n C (by decide +kernel : decode cX11_deathAt 10 = .ok (.aload_n 0, 1)) ?_
    refine q_get C (ci := 11) (j := 4) (C0 := RX11) (T := TX11) (N := 35) rfl iX11 giX11 (by decide) w9_17 (by decide +kernel : decode cX11_deathAt 11 = .ok (.getfield 16, 3)) ?_
    refine q_iload_n C (by decide +kernel : decode cX11_deathAt 14 = .ok (.iload_n 1, 1)) ?_
    refine q_iald C (by decide +kernel : decode cX11_deathAt 15 = .ok (.iaload, 1)) ?_
    refine q_iload_n C (by decide +kernel : decode cX11_deathAt 16 = .ok (.iload_n 2, 1)) ?_
    refine q_icgt C (tgt := 29) (by decide +kernel : decode cX11_deathAt 17 = .ok (.if_icmp .gt 12, 3)) (by decide) ?_ ?_
    · exact v_X11_deathAt_29 C hK
    · refine q_aload_n C (by decide +kernel : decode cX11_deathAt 20 = .ok (.aload_n 0, 1)) ?_
      refine q_get C (ci := 11) (j := 3) (C0 := RX11) (T := TX11) (N := 35) rfl iX11 giX11 (by decide) w9_12 (by decide +kernel : decode cX11_deathAt 21 = .ok (.getfield 13, 3)) ?_
      refine q_iload_n C (by decide +kernel : decode cX11_deathAt 24 = .ok (.iload_n 1, 1)) ?_
      refine q_iald C (by decide +kernel : decode cX11_deathAt 25 = .ok (.iaload, 1)) ?_
      refine q_goto C (tgt := 30) (by decide +kernel : decode cX11_deathAt 26 = .ok (.goto 4, 3)) (by decide) ?_
      exact v_X11_deathAt_30 C hK
theorem u_X11_deathAt (l : Launch) {sp : q_Sp} (H : ∀ (av : List Value) (σ : q_S) (post : Option Value → q_S → Prop), sp av σ post → k_X11_deathAt_0 post (fun _ _ _ _ _ _ => False) (q_L0 av 3) [] σ 0 0 ∧ av.length ≤ 3 ∧ ∀ v ∈ av, v.category = 1) : q_Ct l yX11_deathAt cX11_deathAt 3 (some .int) rm_X11_deathAt sp := by
  refine q_met (by decide) ?_
  intro D A p e s m args below meth c σ av post C hsp
  obtain ⟨h1, h2, h3⟩ := H av σ post hsp
  exact ⟨_, v_X11_deathAt_0 (K := fun _ _ _ _ _ _ => False) C (fun h hh => by cases hh), h1, h2, h3⟩
theorem t_X11_deathAt (l : Launch) : q_Ct l yX11_deathAt cX11_deathAt 3 (some .int) rm_X11_deathAt s_X11_deathAt := u_X11_deathAt l (by
  intro av σ post h
  unfold s_X11_deathAt at h
  split at h
  · next mr p k =>
    refine ⟨?_, by simp, by simp [Value.category]⟩
    obtain ⟨ad, z, g, gp, r, hm, hI, h1⟩ := h
    simp only [c_push, c_null, c_iload, c_aload, c_istore, c_astore, c_iinc, c_iadd, c_isub, c_imul, c_iand, c_ineg, c_dup, c_dup2, c_pop, c_ifnull, c_ifnonnull, c_get, c_put, c_iald, c_zald, c_iast, c_zast, c_aald, c_aast, c_alen, c_new, c_newa, c_newq, c_mna, c_oinit, c_max, c_copy, c_iret, c_zret, c_aret, c_vret, q_do, q_rc, c_ifeq, c_ifne, c_iflt, c_ifge, c_ifgt, c_ifle, c_iceq, c_icne, c_iclt, c_icge, c_icgt, c_icle, c_call0, c_call1, c_call2, c_call3, c_call4, c_call5, c_call6, c_call7, q_L0, List.map_cons, List.map_nil, List.replicate, List.cons_append, List.nil_append, List.append_nil, List.length_cons, List.length_nil, List.length_set, Nat.reduceSub, Nat.reduceAdd, Nat.reduceLT, Nat.reduceLeDiff, Nat.zero_add, Nat.add_zero, Nat.sub_zero, Nat.sub_self, List.getElem?_cons_zero, List.getElem?_cons_succ, List.set_cons_zero, List.set_cons_succ, Option.toList_some, Option.toList_none, List.sum_cons, List.sum_nil, true_and, and_true, true_or, or_true, Nat.le_refl, Nat.zero_le, Value.category, Fin.isValue, Fin.val_zero, Fin.val_one, Fin.val_two, Fin.reduceFinMk, q_10, q_01, not_false_eq_true, not_true_eq_false, forall_const, true_implies, false_implies, implies_true, q_ni, q_fi, q_nb0, q_nb1, q_fb0, q_fb1, q_nor, q_nar, q_for, q_far, q_non, q_nan, q_fon, q_fan, imp_false, false_and, and_false, and_self, false_or, or_false, va_rf, refKind, k_X11_deathAt_0, k_X11_deathAt_29, k_X11_deathAt_30, hm.rd, vpi12]
    unfold deathF at h1
    grind
  · exact h.elim)
def F_died (z : Nat → Int32) (g : Nat → Nat → Int32) (p k : Int32) : Int32 := if (0 ≤ p ∧ p < z 1) ∧ 0 ≤ k ∧ k ≤ 3000 then deathF g p.toNatClampNeg k else -2
def s_X11_died : q_Sp := fun av σ post => match av with
  | [.ref mr, .int p, .int k] => ∃ ad z g, mOK σ mr ad z g ∧ I1 z ∧ ∀ σ', mOK σ' mr ad z g → post (some (.int (F_died z g p k))) σ'
  | _ => False
theorem w9_18 : (.code yX11_deathAt cX11_deathAt 3 (some .int) : Cond) ∈ lw_tbl := by decide +kernel
theorem w9_19 : (.methodLink RX11 118 yX11_deathAt : Cond) ∈ lw_tbl := by decide +kernel
theorem w9_20 : (.instanceMethod yX11_deathAt : Cond) ∈ lw_tbl := by decide +kernel
theorem w9_21 : (.selects RX11 yX11_deathAt yX11_deathAt : Cond) ∈ lw_tbl := by decide +kernel
def rm_X11_died : Room := { frames := 2, cells := 0, slots := 0, locals := 43 }
def k_X11_died_30 (post : Option Value → q_S → Prop) (K : Nat → q_K) : q_K := (c_iret post)
def k_X11_died_28 (post : Option Value → q_S → Prop) (K : Nat → q_K) : q_K := (c_push (-2) (k_X11_died_30 post K))
def k_X11_died_0 (post : Option Value → q_S → Prop) (K : Nat → q_K) : q_K := (c_aload 0 (c_iload 1 (c_call2 (some 11) s_X11_isPerson 0 0 (c_ifeq (k_X11_died_28 post K) (c_iload 2 (c_push 0 (c_push 3000 (c_call3 none s_X11_in 0 0 (c_ifeq (k_X11_died_28 post K) (c_aload 0 (c_iload 1 (c_iload 2 (c_call3 (some 11) s_X11_deathAt 0 0 (k_X11_died_30 post K))))))))))))))
set_option maxRecDepth 100000 in
theorem v_X11_died_30 {p : Program} {l : Launch} {e : Env} {s : State} {m : MethodId} {args : Array Value} {below : List Frame} {meth : Method} {c : Code} {D : va_G} {A : Nat → Prop} {post : Option Value → q_S → Prop} {K : Nat → q_K} (C : q_C p s m args meth c cX11_died 3 RX11 "died" (some .int) A) (hK : ∀ h ∈ ([] : List Nat), q_V p l e rm_X11_died s m args below meth c D A 3 (MQ below (q_Qc D A post) args s rm_X11_died.cells rm_X11_died.slots A) h (K h)) : q_V p l e rm_X11_died s m args below meth c D A 3 (MQ below (q_Qc D A post) args s rm_X11_died.cells rm_X11_died.slots A) 30 (k_X11_died_30 post K) := by
  unfold k_X11_died_30
  exact q_iret C rfl (by decide +kernel : decode cX11_died 30 = .ok (.ireturn, 1))
set_option maxRecDepth 100000 in
theorem v_X11_died_28 {p : Program} {l : Launch} {e : Env} {s : State} {m : MethodId} {args : Array Value} {below : List Frame} {meth : Method} {c : Code} {D : va_G} {A : Nat → Prop} {post : Option Value → q_S → Prop} {K : Nat → q_K} (C : q_C p s m args meth c cX11_died 3 RX11 "died" (some .int) A) (hK : ∀ h ∈ ([] : List Nat), q_V p l e rm_X11_died s m args below meth c D A 3 (MQ below (q_Qc D A post) args s rm_X11_died.cells rm_X11_died.slots A) h (K h)) : q_V p l e rm_X11_died s m args below meth c D A 3 (MQ below (q_Qc D A post) args s rm_X11_died.cells rm_X11_died.slots A) 28 (k_X11_died_28 post K) := by
  unfold k_X11_died_28
  refine q_bipush C (by decide +kernel : decode cX11_died 28 = .ok (.bipush (-2), 2)) (by decide) ?_
  exact v_X11_died_30 C hK
set_option maxRecDepth 100000 in
theorem v_X11_died_0 {p : Program} {l : Launch} {e : Env} {s : State} {m : MethodId} {args : Array Value} {below : List Frame} {meth : Method} {c : Code} {D : va_G} {A : Nat → Prop} {post : Option Value → q_S → Prop} {K : Nat → q_K} (C : q_C p s m args meth c cX11_died 3 RX11 "died" (some .int) A) (hK : ∀ h ∈ ([] : List Nat), q_V p l e rm_X11_died s m args below meth c D A 3 (MQ below (q_Qc D A post) args s rm_X11_died.cells rm_X11_died.slots A) h (K h)) : q_V p l e rm_X11_died s m args below meth c D A 3 (MQ below (q_Qc D A post) args s rm_X11_died.cells rm_X11_died.slots A) 0 (k_X11_died_0 post K) := by
  unfold k_X11_died_0
  refine q_aload_n C (by decide +kernel : decode cX11_died 0 = .ok (.aload_n 0, 1)) ?_
  refine q_iload_n C (by decide +kernel : decode cX11_died 1 = .ok (.iload_n 1, 1)) ?_
  refine q_call2 C (q_coV C (np := 1) (ci := 11) (rc := (RX11, TX11, 35)) (t_X11_isPerson l) w9_13 rfl rfl w9_14 w9_15 w9_16 w9_6 (by decide +kernel) (by decide +kernel : decode cX11_died 2 = .ok (.invokevirtual 106, 3)) (by decide)) ?_
  refine q_ifeq C (tgt := 28) (by decide +kernel : decode cX11_died 5 = .ok (.ifCond .eq 23, 3)) (by decide) ?_ ?_
  · exact v_X11_died_28 C hK
  · refine q_iload_n C (by decide +kernel : decode cX11_died 8 = .ok (.iload_n 2, 1)) ?_
    refine q_iconst C (by decide +kernel : decode cX11_died 9 = .ok (.iconst 0, 1)) (by decide) ?_
    refine q_sipush C (by decide +kernel : decode cX11_died 10 = .ok (.sipush 3000, 3)) (by decide) ?_
    refine q_call3 C (q_coS C (np := 3) (t_X11_in l) w9_5 w9_8 w9_7 w9_6 (by decide +kernel) (by decide +kernel : decode cX11_died 13 = .ok (.invokestatic 92, 3)) (by decide)) ?_
    refine q_ifeq C (tgt := 28) (by decide +kernel : decode cX11_died 16 = .ok (.ifCond .eq 12, 3)) (by decide) ?_ ?_
    · exact v_X11_died_28 C hK
    · refine q_aload_n C (by decide +kernel : decode cX11_died 19 = .ok (.aload_n 0, 1)) ?_
      refine q_iload_n C (by decide +kernel : decode cX11_died 20 = .ok (.iload_n 1, 1)) ?_
      refine q_iload_n C (by decide +kernel : decode cX11_died 21 = .ok (.iload_n 2, 1)) ?_
      refine q_call3 C (q_coV C (np := 2) (ci := 11) (rc := (RX11, TX11, 35)) (t_X11_deathAt l) w9_18 rfl rfl w9_19 w9_20 w9_21 w9_6 (by decide +kernel) (by decide +kernel : decode cX11_died 22 = .ok (.invokevirtual 118, 3)) (by decide)) ?_
      refine q_goto C (tgt := 30) (by decide +kernel : decode cX11_died 25 = .ok (.goto 5, 3)) (by decide) ?_
      exact v_X11_died_30 C hK
theorem u_X11_died (l : Launch) {sp : q_Sp} (H : ∀ (av : List Value) (σ : q_S) (post : Option Value → q_S → Prop), sp av σ post → k_X11_died_0 post (fun _ _ _ _ _ _ => False) (q_L0 av 3) [] σ 0 0 ∧ av.length ≤ 3 ∧ ∀ v ∈ av, v.category = 1) : q_Ct l yX11_died cX11_died 3 (some .int) rm_X11_died sp := by
  refine q_met (by decide) ?_
  intro D A p e s m args below meth c σ av post C hsp
  obtain ⟨h1, h2, h3⟩ := H av σ post hsp
  exact ⟨_, v_X11_died_0 (K := fun _ _ _ _ _ _ => False) C (fun h hh => by cases hh), h1, h2, h3⟩
theorem t_X11_died (l : Launch) : q_Ct l yX11_died cX11_died 3 (some .int) rm_X11_died s_X11_died := u_X11_died l (by
  intro av σ post h
  unfold s_X11_died at h
  split at h
  · next mr p k =>
    refine ⟨?_, by simp, by simp [Value.category]⟩
    obtain ⟨ad, z, g, ⟨gp, r, hm⟩, hI, h1⟩ := h
    simp only [c_push, c_null, c_iload, c_aload, c_istore, c_astore, c_iinc, c_iadd, c_isub, c_imul, c_iand, c_ineg, c_dup, c_dup2, c_pop, c_ifnull, c_ifnonnull, c_get, c_put, c_iald, c_zald, c_iast, c_zast, c_aald, c_aast, c_alen, c_new, c_newa, c_newq, c_mna, c_oinit, c_max, c_copy, c_iret, c_zret, c_aret, c_vret, q_do, q_rc, c_ifeq, c_ifne, c_iflt, c_ifge, c_ifgt, c_ifle, c_iceq, c_icne, c_iclt, c_icge, c_icgt, c_icle, c_call0, c_call1, c_call2, c_call3, c_call4, c_call5, c_call6, c_call7, q_L0, List.map_cons, List.map_nil, List.replicate, List.cons_append, List.nil_append, List.append_nil, List.length_cons, List.length_nil, List.length_set, Nat.reduceSub, Nat.reduceAdd, Nat.reduceLT, Nat.reduceLeDiff, Nat.zero_add, Nat.add_zero, Nat.sub_zero, Nat.sub_self, List.getElem?_cons_zero, List.getElem?_cons_succ, List.set_cons_zero, List.set_cons_succ, Option.toList_some, Option.toList_none, List.sum_cons, List.sum_nil, true_and, and_true, true_or, or_true, Nat.le_refl, Nat.zero_le, Value.category, Fin.isValue, Fin.val_zero, Fin.val_one, Fin.val_two, Fin.reduceFinMk, q_10, q_01, not_false_eq_true, not_true_eq_false, forall_const, true_implies, false_implies, implies_true, q_ni, q_fi, q_nb0, q_nb1, q_fb0, q_fb1, q_nor, q_nar, q_for, q_far, q_non, q_nan, q_fon, q_fan, imp_false, false_and, and_false, and_self, false_or, or_false, va_rf, refKind, k_X11_died_0, k_X11_died_28, k_X11_died_30, hm.rd, vpi12, s_X11_isPerson, s_X11_in, s_X10_isWithin, s_X11_deathAt]
    have a := h1 _ ⟨gp, r, hm⟩
    unfold F_died at a
    unfold I1 at hI
    grind
  · exact h.elim)
-- act
def F_act (z : Nat → Int32) (g : Nat → Nat → Int32) (d f li v c : Int32) : Int32 × (Nat → Int32) × (Nat → Nat → Int32) :=
  if (z 0 ≤ d ∧ d ≤ 3000) ∧ (0 < z 5 → g 6 (z 5 - 1).toNatClampNeg < d) ∧ (0 ≤ f ∧ f ≤ 2000) ∧ (-1 ≤ li ∧ li ≤ 2000) ∧ (0 ≤ v ∧ v ≤ 2) ∧ (1 ≤ c ∧ c ≤ 16) then
    if z 5 = 6 then (-4, z, g) else (z 5, upd z 5 (z 5 + 1), gup (gup (gup (gup (gup g 6 (z 5).toNatClampNeg d) 7 (z 5).toNatClampNeg f) 8 (z 5).toNatClampNeg li) 9 (z 5).toNatClampNeg v) 10 (z 5).toNatClampNeg c)
  else (-2, z, g)
def s_X11_act : q_Sp := fun av σ post => match av with
  | [.ref mr, .int d, .int f, .int li, .int v, .int c] => ∃ ad z g, mOK σ mr ad z g ∧ I1 z ∧ ∀ σ', mOK σ' mr ad (F_act z g d f li v c).2.1 (F_act z g d f li v c).2.2 → post (some (.int (F_act z g d f li v c).1)) σ'
  | _ => False
theorem w9_22 : (.fieldLink RX11 122 (TX11 5).1 (TX11 5).2.1 (TX11 5).2.2.1 : Cond) ∈ lw_tbl := by decide +kernel
theorem w9_23 : (.fieldLink RX11 19 (TX11 6).1 (TX11 6).2.1 (TX11 6).2.2.1 : Cond) ∈ lw_tbl := by decide +kernel
theorem w9_24 : (.fieldLink RX11 22 (TX11 7).1 (TX11 7).2.1 (TX11 7).2.2.1 : Cond) ∈ lw_tbl := by decide +kernel
theorem w9_25 : (.fieldLink RX11 25 (TX11 8).1 (TX11 8).2.1 (TX11 8).2.2.1 : Cond) ∈ lw_tbl := by decide +kernel
theorem w9_26 : (.fieldLink RX11 28 (TX11 9).1 (TX11 9).2.1 (TX11 9).2.2.1 : Cond) ∈ lw_tbl := by decide +kernel
theorem w9_27 : (.fieldLink RX11 31 (TX11 10).1 (TX11 10).2.1 (TX11 10).2.2.1 : Cond) ∈ lw_tbl := by decide +kernel
def rm_X11_act : Room := { frames := 1, cells := 0, slots := 0, locals := 22 }
def k_X11_act_79 (post : Option Value → q_S → Prop) (K : Nat → q_K) : q_K := (c_push (-2) (c_iret post))
def k_X11_act_36 (post : Option Value → q_S → Prop) (K : Nat → q_K) : q_K := (c_iload 2 (c_push 0 (c_push 2000 (c_call3 none s_X11_in 0 0 (c_ifeq (k_X11_act_79 post K) (c_iload 3 (c_push (-1) (c_push 2000 (c_call3 none s_X11_in 0 0 (c_ifeq (k_X11_act_79 post K) (c_iload 4 (c_push 0 (c_push 2 (c_call3 none s_X11_in 0 0 (c_ifeq (k_X11_act_79 post K) (c_iload 5 (c_push 1 (c_push 16 (c_call3 none s_X11_in 0 0 (c_ifne (c_aload 0 (c_get 11 5 (c_push 6 (c_icne (c_aload 0 (c_get 11 6 (c_aload 0 (c_get 11 5 (c_iload 1 (c_iast (c_aload 0 (c_get 11 7 (c_aload 0 (c_get 11 5 (c_iload 2 (c_iast (c_aload 0 (c_get 11 8 (c_aload 0 (c_get 11 5 (c_iload 3 (c_iast (c_aload 0 (c_get 11 9 (c_aload 0 (c_get 11 5 (c_iload 4 (c_iast (c_aload 0 (c_get 11 10 (c_aload 0 (c_get 11 5 (c_iload 5 (c_iast (c_aload 0 (c_dup (c_get 11 5 (c_push 1 (c_iadd (c_put 11 5 (.int) (c_aload 0 (c_get 11 5 (c_push 1 (c_isub (c_iret post))))))))))))))))))))))))))))))))))))))))) (c_push (-4) (c_iret post)))))) (k_X11_act_79 post K)))))))))))))))))))))
def k_X11_act_0 (post : Option Value → q_S → Prop) (K : Nat → q_K) : q_K := (c_iload 1 (c_aload 0 (c_get 11 0 (c_push 3000 (c_call3 none s_X11_in 0 0 (c_ifeq (k_X11_act_79 post K) (c_aload 0 (c_get 11 5 (c_ifle (k_X11_act_36 post K) (c_iload 1 (c_aload 0 (c_get 11 6 (c_aload 0 (c_get 11 5 (c_push 1 (c_isub (c_iald (c_icle (k_X11_act_79 post K) (k_X11_act_36 post K)))))))))))))))))))
set_option maxRecDepth 100000 in
theorem v_X11_act_79 {p : Program} {l : Launch} {e : Env} {s : State} {m : MethodId} {args : Array Value} {below : List Frame} {meth : Method} {c : Code} {D : va_G} {A : Nat → Prop} {post : Option Value → q_S → Prop} {K : Nat → q_K} (C : q_C p s m args meth c cX11_act 6 RX11 "act" (some .int) A) (hK : ∀ h ∈ ([] : List Nat), q_V p l e rm_X11_act s m args below meth c D A 6 (MQ below (q_Qc D A post) args s rm_X11_act.cells rm_X11_act.slots A) h (K h)) : q_V p l e rm_X11_act s m args below meth c D A 6 (MQ below (q_Qc D A post) args s rm_X11_act.cells rm_X11_act.slots A) 79 (k_X11_act_79 post K) := by
  unfold k_X11_act_79
  refine q_bipush C (by decide +kernel : decode cX11_act 79 = .ok (.bipush (-2), 2)) (by decide) ?_
  exact q_iret C rfl (by decide +kernel : decode cX11_act 81 = .ok (.ireturn, 1))
set_option maxRecDepth 100000 in
theorem v_X11_act_36 {p : Program} {l : Launch} {e : Env} {s : State} {m : MethodId} {args : Array Value} {below : List Frame} {meth : Method} {c : Code} {D : va_G} {A : Nat → Prop} {post : Option Value → q_S → Prop} {K : Nat → q_K} (C : q_C p s m args meth c cX11_act 6 RX11 "act" (some .int) A) (hK : ∀ h ∈ ([] : List Nat), q_V p l e rm_X11_act s m args below meth c D A 6 (MQ below (q_Qc D A post) args s rm_X11_act.cells rm_X11_act.slots A) h (K h)) : q_V p l e rm_X11_act s m args below meth c D A 6 (MQ below (q_Qc D A post) args s rm_X11_act.cells rm_X11_act.slots A) 36 (k_X11_act_36 post K) := by
  unfold k_X11_act_36
  refine q_iload_n C (by decide +kernel : decode cX11_act 36 = .ok (.iload_n 2, 1)) ?_
  refine q_iconst C (by decide +kernel : decode cX11_act 37 = .ok (.iconst 0, 1)) (by decide) ?_
  refine q_sipush C (by decide +kernel : decode cX11_act 38 = .ok (.sipush 2000, 3)) (by decide) ?_
  refine q_call3 C (q_coS C (np := 3) (t_X11_in l) w9_5 w9_8 w9_7 w9_6 (by decide +kernel) (by decide +kernel : decode cX11_act 41 = .ok (.invokestatic 92, 3)) (by decide)) ?_
  refine q_ifeq C (tgt := 79) (by decide +kernel : decode cX11_act 44 = .ok (.ifCond .eq 35, 3)) (by decide) ?_ ?_
  · exact v_X11_act_79 C hK
  · refine q_iload_n C (by decide +kernel : decode cX11_act 47 = .ok (.iload_n 3, 1)) ?_
    refine q_iconst C (by decide +kernel : decode cX11_act 48 = .ok (.iconst (-1), 1)) (by decide) ?_
    refine q_sipush C (by decide +kernel : decode cX11_act 49 = .ok (.sipush 2000, 3)) (by decide) ?_
    refine q_call3 C (q_coS C (np := 3) (t_X11_in l) w9_5 w9_8 w9_7 w9_6 (by decide +kernel) (by decide +kernel : decode cX11_act 52 = .ok (.invokestatic 92, 3)) (by decide)) ?_
    refine q_ifeq C (tgt := 79) (by decide +kernel : decode cX11_act 55 = .ok (.ifCond .eq 24, 3)) (by decide) ?_ ?_
    · exact v_X11_act_79 C hK
    · refine q_iload C (by decide +kernel : decode cX11_act 58 = .ok (.iload 4, 2)) ?_
      refine q_iconst C (by decide +kernel : decode cX11_act 60 = .ok (.iconst 0, 1)) (by decide) ?_
      refine q_iconst C (by decide +kernel : decode cX11_act 61 = .ok (.iconst 2, 1)) (by decide) ?_
      refine q_call3 C (q_coS C (np := 3) (t_X11_in l) w9_5 w9_8 w9_7 w9_6 (by decide +kernel) (by decide +kernel : decode cX11_act 62 = .ok (.invokestatic 92, 3)) (by decide)) ?_
      refine q_ifeq C (tgt := 79) (by decide +kernel : decode cX11_act 65 = .ok (.ifCond .eq 14, 3)) (by decide) ?_ ?_
      · exact v_X11_act_79 C hK
      · refine q_iload C (by decide +kernel : decode cX11_act 68 = .ok (.iload 5, 2)) ?_
        refine q_iconst C (by decide +kernel : decode cX11_act 70 = .ok (.iconst 1, 1)) (by decide) ?_
        refine q_bipush C (by decide +kernel : decode cX11_act 71 = .ok (.bipush 16, 2)) (by decide) ?_
        refine q_call3 C (q_coS C (np := 3) (t_X11_in l) w9_5 w9_8 w9_7 w9_6 (by decide +kernel) (by decide +kernel : decode cX11_act 73 = .ok (.invokestatic 92, 3)) (by decide)) ?_
        refine q_ifne C (tgt := 82) (by decide +kernel : decode cX11_act 76 = .ok (.ifCond .ne 6, 3)) (by decide) ?_ ?_
        · refine q_aload_n C (by decide +kernel : decode cX11_act 82 = .ok (.aload_n 0, 1)) ?_
          refine q_get C (ci := 11) (j := 5) (C0 := RX11) (T := TX11) (N := 35) rfl iX11 giX11 (by decide) w9_22 (by decide +kernel : decode cX11_act 83 = .ok (.getfield 122, 3)) ?_
          refine q_bipush C (by decide +kernel : decode cX11_act 86 = .ok (.bipush 6, 2)) (by decide) ?_
          refine q_icne C (tgt := 94) (by decide +kernel : decode cX11_act 88 = .ok (.if_icmp .ne 6, 3)) (by decide) ?_ ?_
          · refine q_aload_n C (by decide +kernel : decode cX11_act 94 = .ok (.aload_n 0, 1)) ?_
            refine q_get C (ci := 11) (j := 6) (C0 := RX11) (T := TX11) (N := 35) rfl iX11 giX11 (by decide) w9_23 (by decide +kernel : decode cX11_act 95 = .ok (.getfield 19, 3)) ?_
            refine q_aload_n C (by decide +kernel : decode cX11_act 98 = .ok (.aload_n 0, 1)) ?_
            refine q_get C (ci := 11) (j := 5) (C0 := RX11) (T := TX11) (N := 35) rfl iX11 giX11 (by decide) w9_22 (by decide +kernel : decode cX11_act 99 = .ok (.getfield 122, 3)) ?_
            refine q_iload_n C (by decide +kernel : decode cX11_act 102 = .ok (.iload_n 1, 1)) ?_
            refine q_iast C (by decide +kernel : decode cX11_act 103 = .ok (.iastore, 1)) ?_
            refine q_aload_n C (by decide +kernel : decode cX11_act 104 = .ok (.aload_n 0, 1)) ?_
            refine q_get C (ci := 11) (j := 7) (C0 := RX11) (T := TX11) (N := 35) rfl iX11 giX11 (by decide) w9_24 (by decide +kernel : decode cX11_act 105 = .ok (.getfield 22, 3)) ?_
            refine q_aload_n C (by decide +kernel : decode cX11_act 108 = .ok (.aload_n 0, 1)) ?_
            refine q_get C (ci := 11) (j := 5) (C0 := RX11) (T := TX11) (N := 35) rfl iX11 giX11 (by decide) w9_22 (by decide +kernel : decode cX11_act 109 = .ok (.getfield 122, 3)) ?_
            refine q_iload_n C (by decide +kernel : decode cX11_act 112 = .ok (.iload_n 2, 1)) ?_
            refine q_iast C (by decide +kernel : decode cX11_act 113 = .ok (.iastore, 1)) ?_
            refine q_aload_n C (by decide +kernel : decode cX11_act 114 = .ok (.aload_n 0, 1)) ?_
            refine q_get C (ci := 11) (j := 8) (C0 := RX11) (T := TX11) (N := 35) rfl iX11 giX11 (by decide) w9_25 (by decide +kernel : decode cX11_act 115 = .ok (.getfield 25, 3)) ?_
            refine q_aload_n C (by decide +kernel : decode cX11_act 118 = .ok (.aload_n 0, 1)) ?_
            refine q_get C (ci := 11) (j := 5) (C0 := RX11) (T := TX11) (N := 35) rfl iX11 giX11 (by decide) w9_22 (by decide +kernel : decode cX11_act 119 = .ok (.getfield 122, 3)) ?_
            refine q_iload_n C (by decide +kernel : decode cX11_act 122 = .ok (.iload_n 3, 1)) ?_
            refine q_iast C (by decide +kernel : decode cX11_act 123 = .ok (.iastore, 1)) ?_
            refine q_aload_n C (by decide +kernel : decode cX11_act 124 = .ok (.aload_n 0, 1)) ?_
            refine q_get C (ci := 11) (j := 9) (C0 := RX11) (T := TX11) (N := 35) rfl iX11 giX11 (by decide) w9_26 (by decide +kernel : decode cX11_act 125 = .ok (.getfield 28, 3)) ?_
            refine q_aload_n C (by decide +kernel : decode cX11_act 128 = .ok (.aload_n 0, 1)) ?_
            refine q_get C (ci := 11) (j := 5) (C0 := RX11) (T := TX11) (N := 35) rfl iX11 giX11 (by decide) w9_22 (by decide +kernel : decode cX11_act 129 = .ok (.getfield 122, 3)) ?_
            refine q_iload C (by decide +kernel : decode cX11_act 132 = .ok (.iload 4, 2)) ?_
            refine q_iast C (by decide +kernel : decode cX11_act 134 = .ok (.iastore, 1)) ?_
            refine q_aload_n C (by decide +kernel : decode cX11_act 135 = .ok (.aload_n 0, 1)) ?_
            refine q_get C (ci := 11) (j := 10) (C0 := RX11) (T := TX11) (N := 35) rfl iX11 giX11 (by decide) w9_27 (by decide +kernel : decode cX11_act 136 = .ok (.getfield 31, 3)) ?_
            refine q_aload_n C (by decide +kernel : decode cX11_act 139 = .ok (.aload_n 0, 1)) ?_
            refine q_get C (ci := 11) (j := 5) (C0 := RX11) (T := TX11) (N := 35) rfl iX11 giX11 (by decide) w9_22 (by decide +kernel : decode cX11_act 140 = .ok (.getfield 122, 3)) ?_
            refine q_iload C (by decide +kernel : decode cX11_act 143 = .ok (.iload 5, 2)) ?_
            refine q_iast C (by decide +kernel : decode cX11_act 145 = .ok (.iastore, 1)) ?_
            refine q_aload_n C (by decide +kernel : decode cX11_act 146 = .ok (.aload_n 0, 1)) ?_
            refine q_dup C (by decide +kernel : decode cX11_act 147 = .ok (.dup, 1)) ?_
            refine q_get C (ci := 11) (j := 5) (C0 := RX11) (T := TX11) (N := 35) rfl iX11 giX11 (by decide) w9_22 (by decide +kernel : decode cX11_act 148 = .ok (.getfield 122, 3)) ?_
            refine q_iconst C (by decide +kernel : decode cX11_act 151 = .ok (.iconst 1, 1)) (by decide) ?_
            refine q_iadd C (by decide +kernel : decode cX11_act 152 = .ok (.iadd, 1)) ?_
            refine q_put C (ci := 11) (j := 5) (C0 := RX11) (T := TX11) (N := 35) (ty := .int) rfl iX11 giX11 (by decide) tyX11 tyX11_ok nmX11 (by decide +kernel) rfl w9_22 (by decide +kernel : decode cX11_act 153 = .ok (.putfield 122, 3)) ?_
            refine q_aload_n C (by decide +kernel : decode cX11_act 156 = .ok (.aload_n 0, 1)) ?_
            refine q_get C (ci := 11) (j := 5) (C0 := RX11) (T := TX11) (N := 35) rfl iX11 giX11 (by decide) w9_22 (by decide +kernel : decode cX11_act 157 = .ok (.getfield 122, 3)) ?_
            refine q_iconst C (by decide +kernel : decode cX11_act 160 = .ok (.iconst 1, 1)) (by decide) ?_
            refine q_isub C (by decide +kernel : decode cX11_act 161 = .ok (.isub, 1)) ?_
            exact q_iret C rfl (by decide +kernel : decode cX11_act 162 = .ok (.ireturn, 1))
          · refine q_bipush C (by decide +kernel : decode cX11_act 91 = .ok (.bipush (-4), 2)) (by decide) ?_
            exact q_iret C rfl (by decide +kernel : decode cX11_act 93 = .ok (.ireturn, 1))
        · exact v_X11_act_79 C hK
set_option maxRecDepth 100000 in
theorem v_X11_act_0 {p : Program} {l : Launch} {e : Env} {s : State} {m : MethodId} {args : Array Value} {below : List Frame} {meth : Method} {c : Code} {D : va_G} {A : Nat → Prop} {post : Option Value → q_S → Prop} {K : Nat → q_K} (C : q_C p s m args meth c cX11_act 6 RX11 "act" (some .int) A) (hK : ∀ h ∈ ([] : List Nat), q_V p l e rm_X11_act s m args below meth c D A 6 (MQ below (q_Qc D A post) args s rm_X11_act.cells rm_X11_act.slots A) h (K h)) : q_V p l e rm_X11_act s m args below meth c D A 6 (MQ below (q_Qc D A post) args s rm_X11_act.cells rm_X11_act.slots A) 0 (k_X11_act_0 post K) := by
  unfold k_X11_act_0
  refine q_iload_n C (by decide +kernel : decode cX11_act 0 = .ok (.iload_n 1, 1)) ?_
  refine q_aload_n C (by decide +kernel : decode cX11_act 1 = .ok (.aload_n 0, 1)) ?_
  refine q_get C (ci := 11) (j := 0) (C0 := RX11) (T := TX11) (N := 35) rfl iX11 giX11 (by decide) w9_10 (by decide +kernel : decode cX11_act 2 = .ok (.getfield 96, 3)) ?_
  refine q_sipush C (by decide +kernel : decode cX11_act 5 = .ok (.sipush 3000, 3)) (by decide) ?_
  refine q_call3 C (q_coS C (np := 3) (t_X11_in l) w9_5 w9_8 w9_7 w9_6 (by decide +kernel) (by decide +kernel : decode cX11_act 8 = .ok (.invokestatic 92, 3)) (by decide)) ?_
  refine q_ifeq C (tgt := 79) (by decide +kernel : decode cX11_act 11 = .ok (.ifCond .eq 68, 3)) (by decide) ?_ ?_
  · exact v_X11_act_79 C hK
  · refine q_aload_n C (by decide +kernel : decode cX11_act 14 = .ok (.aload_n 0, 1)) ?_
    refine q_get C (ci := 11) (j := 5) (C0 := RX11) (T := TX11) (N := 35) rfl iX11 giX11 (by decide) w9_22 (by decide +kernel : decode cX11_act 15 = .ok (.getfield 122, 3)) ?_
    refine q_ifle C (tgt := 36) (by decide +kernel : decode cX11_act 18 = .ok (.ifCond .le 18, 3)) (by decide) ?_ ?_
    · exact v_X11_act_36 C hK
    · refine q_iload_n C (by decide +kernel : decode cX11_act 21 = .ok (.iload_n 1, 1)) ?_
      refine q_aload_n C (by decide +kernel : decode cX11_act 22 = .ok (.aload_n 0, 1)) ?_
      refine q_get C (ci := 11) (j := 6) (C0 := RX11) (T := TX11) (N := 35) rfl iX11 giX11 (by decide) w9_23 (by decide +kernel : decode cX11_act 23 = .ok (.getfield 19, 3)) ?_
      refine q_aload_n C (by decide +kernel : decode cX11_act 26 = .ok (.aload_n 0, 1)) ?_
      refine q_get C (ci := 11) (j := 5) (C0 := RX11) (T := TX11) (N := 35) rfl iX11 giX11 (by decide) w9_22 (by decide +kernel : decode cX11_act 27 = .ok (.getfield 122, 3)) ?_
      refine q_iconst C (by decide +kernel : decode cX11_act 30 = .ok (.iconst 1, 1)) (by decide) ?_
      refine q_isub C (by decide +kernel : decode cX11_act 31 = .ok (.isub, 1)) ?_
      refine q_iald C (by decide +kernel : decode cX11_act 32 = .ok (.iaload, 1)) ?_
      refine q_icle C (tgt := 79) (by decide +kernel : decode cX11_act 33 = .ok (.if_icmp .le 46, 3)) (by decide) ?_ ?_
      · exact v_X11_act_79 C hK
      · exact v_X11_act_36 C hK
theorem u_X11_act (l : Launch) {sp : q_Sp} (H : ∀ (av : List Value) (σ : q_S) (post : Option Value → q_S → Prop), sp av σ post → k_X11_act_0 post (fun _ _ _ _ _ _ => False) (q_L0 av 6) [] σ 0 0 ∧ av.length ≤ 6 ∧ ∀ v ∈ av, v.category = 1) : q_Ct l yX11_act cX11_act 6 (some .int) rm_X11_act sp := by
  refine q_met (by decide) ?_
  intro D A p e s m args below meth c σ av post C hsp
  obtain ⟨h1, h2, h3⟩ := H av σ post hsp
  exact ⟨_, v_X11_act_0 (K := fun _ _ _ _ _ _ => False) C (fun h hh => by cases hh), h1, h2, h3⟩
theorem t_X11_act (l : Launch) : q_Ct l yX11_act cX11_act 6 (some .int) rm_X11_act s_X11_act := u_X11_act l (by
  intro av σ post h
  unfold s_X11_act at h
  split at h
  · next mr d f li v c =>
    refine ⟨?_, by simp, by simp [Value.category]⟩
    obtain ⟨ad, z, g, ⟨gp, r, hm⟩, hI, h1⟩ := h
    have hm1 := hm.a6 (z 5).toNatClampNeg d
    have hm2 := hm1.a7 (z 5).toNatClampNeg f
    have hm3 := hm2.a8 (z 5).toNatClampNeg li
    have hm4 := hm3.a9 (z 5).toNatClampNeg v
    have hm5 := hm4.a10 (z 5).toNatClampNeg c
    have hm6 := hm5.p5 (z 5 + 1)
    simp only [c_push, c_null, c_iload, c_aload, c_istore, c_astore, c_iinc, c_iadd, c_isub, c_imul, c_iand, c_ineg, c_dup, c_dup2, c_pop, c_ifnull, c_ifnonnull, c_get, c_put, c_iald, c_zald, c_iast, c_zast, c_aald, c_aast, c_alen, c_new, c_newa, c_newq, c_mna, c_oinit, c_max, c_copy, c_iret, c_zret, c_aret, c_vret, q_do, q_rc, c_ifeq, c_ifne, c_iflt, c_ifge, c_ifgt, c_ifle, c_iceq, c_icne, c_iclt, c_icge, c_icgt, c_icle, c_call0, c_call1, c_call2, c_call3, c_call4, c_call5, c_call6, c_call7, q_L0, List.map_cons, List.map_nil, List.replicate, List.cons_append, List.nil_append, List.append_nil, List.length_cons, List.length_nil, List.length_set, Nat.reduceSub, Nat.reduceAdd, Nat.reduceLT, Nat.reduceLeDiff, Nat.zero_add, Nat.add_zero, Nat.sub_zero, Nat.sub_self, List.getElem?_cons_zero, List.getElem?_cons_succ, List.set_cons_zero, List.set_cons_succ, Option.toList_some, Option.toList_none, List.sum_cons, List.sum_nil, true_and, and_true, true_or, or_true, Nat.le_refl, Nat.zero_le, Value.category, Fin.isValue, Fin.val_zero, Fin.val_one, Fin.val_two, Fin.reduceFinMk, q_10, q_01, not_false_eq_true, not_true_eq_false, forall_const, true_implies, false_implies, implies_true, q_ni, q_fi, q_nb0, q_nb1, q_fb0, q_fb1, q_nor, q_nar, q_for, q_far, q_non, q_nan, q_fon, q_fan, imp_false, false_and, and_false, and_self, false_or, or_false, va_rf, refKind, k_X11_act_0, k_X11_act_36, k_X11_act_79, hm.rd, hm1.rd, hm2.rd, hm3.rd, hm4.rd, hm5.rd, hm6.rd, vpi6, s_X11_in, s_X10_isWithin]
    unfold F_act at h1
    unfold I1 at hI
    split at h1
    · split at h1
      · have a := h1 _ ⟨gp, r, hm⟩
        clear h1 hm1 hm2 hm3 hm4 hm5 hm6 hm
        grind (splits := 40)
      · have a := h1 _ ⟨gp, r, hm6⟩
        clear h1 hm1 hm2 hm3 hm4 hm5 hm6 hm
        grind (splits := 40) [upd]
    · have a := h1 _ ⟨gp, r, hm⟩
      clear h1 hm1 hm2 hm3 hm4 hm5 hm6 hm
      grind (splits := 40)
  · exact h.elim)
end
section
-- actAt
def actF (g : Nat → Nat → Int32) (on : Int32) : Nat → Int32
  | 0 => -1
  | n + 1 => if g 6 n ≤ on then nI n else actF g on n
def s_X11_actAt : q_Sp := fun av σ post => match av with
  | [.ref mr, .int on] => ∃ ad z g gp r, mOKx σ mr ad z g gp r ∧ (0 ≤ z 5 ∧ z 5 ≤ 6) ∧ post (some (.int (actF g on (z 5).toNatClampNeg))) σ
  | _ => False
def rm_X11_actAt : Room := { frames := 0, cells := 0, slots := 0, locals := 0 }
def k_X11_actAt_0 (post : Option Value → q_S → Prop) (K : Nat → q_K) : q_K := (c_push (-1) (c_istore 2 (c_push 0 (c_istore 3 (K 4)))))
def k_X11_actAt_27 (post : Option Value → q_S → Prop) (K : Nat → q_K) : q_K := (c_istore 2 (c_iinc 3 1 (K 4)))
def k_X11_actAt_4 (post : Option Value → q_S → Prop) (K : Nat → q_K) : q_K := (c_iload 3 (c_aload 0 (c_get 11 5 (c_icge (c_iload 2 (c_iret post)) (c_aload 0 (c_get 11 6 (c_iload 3 (c_iald (c_iload 1 (c_icgt (c_iload 2 (k_X11_actAt_27 post K)) (c_iload 3 (k_X11_actAt_27 post K))))))))))))
set_option maxRecDepth 100000 in
theorem v_X11_actAt_0 {p : Program} {l : Launch} {e : Env} {s : State} {m : MethodId} {args : Array Value} {below : List Frame} {meth : Method} {c : Code} {D : va_G} {A : Nat → Prop} {post : Option Value → q_S → Prop} {K : Nat → q_K} (C : q_C p s m args meth c cX11_actAt 4 RX11 "actAt" (some .int) A) (hK : ∀ h ∈ ([4] : List Nat), q_V p l e rm_X11_actAt s m args below meth c D A 4 (MQ below (q_Qc D A post) args s rm_X11_actAt.cells rm_X11_actAt.slots A) h (K h)) : q_V p l e rm_X11_actAt s m args below meth c D A 4 (MQ below (q_Qc D A post) args s rm_X11_actAt.cells rm_X11_actAt.slots A) 0 (k_X11_actAt_0 post K) := by
  unfold k_X11_actAt_0
  refine q_iconst C (by decide +kernel : decode cX11_actAt 0 = .ok (.iconst (-1), 1)) (by decide) ?_
  refine q_istore_n C (by decide +kernel : decode cX11_actAt 1 = .ok (.istore_n 2, 1)) ?_
  refine q_iconst C (by decide +kernel : decode cX11_actAt 2 = .ok (.iconst 0, 1)) (by decide) ?_
  refine q_istore_n C (by decide +kernel : decode cX11_actAt 3 = .ok (.istore_n 3, 1)) ?_
  exact hK 4 (by decide)
set_option maxRecDepth 100000 in
theorem v_X11_actAt_27 {p : Program} {l : Launch} {e : Env} {s : State} {m : MethodId} {args : Array Value} {below : List Frame} {meth : Method} {c : Code} {D : va_G} {A : Nat → Prop} {post : Option Value → q_S → Prop} {K : Nat → q_K} (C : q_C p s m args meth c cX11_actAt 4 RX11 "actAt" (some .int) A) (hK : ∀ h ∈ ([4] : List Nat), q_V p l e rm_X11_actAt s m args below meth c D A 4 (MQ below (q_Qc D A post) args s rm_X11_actAt.cells rm_X11_actAt.slots A) h (K h)) : q_V p l e rm_X11_actAt s m args below meth c D A 4 (MQ below (q_Qc D A post) args s rm_X11_actAt.cells rm_X11_actAt.slots A) 27 (k_X11_actAt_27 post K) := by
  unfold k_X11_actAt_27
  refine q_istore_n C (by decide +kernel : decode cX11_actAt 27 = .ok (.istore_n 2, 1)) ?_
  refine q_iinc C (by decide +kernel : decode cX11_actAt 28 = .ok (.iinc 3 1, 3)) (by decide) ?_
  refine q_goto C (tgt := 4) (by decide +kernel : decode cX11_actAt 31 = .ok (.goto (-27), 3)) (by decide) ?_
  exact hK 4 (by decide)
set_option maxRecDepth 100000 in
theorem v_X11_actAt_4 {p : Program} {l : Launch} {e : Env} {s : State} {m : MethodId} {args : Array Value} {below : List Frame} {meth : Method} {c : Code} {D : va_G} {A : Nat → Prop} {post : Option Value → q_S → Prop} {K : Nat → q_K} (C : q_C p s m args meth c cX11_actAt 4 RX11 "actAt" (some .int) A) (hK : ∀ h ∈ ([4] : List Nat), q_V p l e rm_X11_actAt s m args below meth c D A 4 (MQ below (q_Qc D A post) args s rm_X11_actAt.cells rm_X11_actAt.slots A) h (K h)) : q_V p l e rm_X11_actAt s m args below meth c D A 4 (MQ below (q_Qc D A post) args s rm_X11_actAt.cells rm_X11_actAt.slots A) 4 (k_X11_actAt_4 post K) := by
  unfold k_X11_actAt_4
  refine q_iload_n C (by decide +kernel : decode cX11_actAt 4 = .ok (.iload_n 3, 1)) ?_
  refine q_aload_n C (by decide +kernel : decode cX11_actAt 5 = .ok (.aload_n 0, 1)) ?_
  refine q_get C (ci := 11) (j := 5) (C0 := RX11) (T := TX11) (N := 35) rfl iX11 giX11 (by decide) w9_22 (by decide +kernel : decode cX11_actAt 6 = .ok (.getfield 122, 3)) ?_
  refine q_icge C (tgt := 34) (by decide +kernel : decode cX11_actAt 9 = .ok (.if_icmp .ge 25, 3)) (by decide) ?_ ?_
  · refine q_iload_n C (by decide +kernel : decode cX11_actAt 34 = .ok (.iload_n 2, 1)) ?_
    exact q_iret C rfl (by decide +kernel : decode cX11_actAt 35 = .ok (.ireturn, 1))
  · refine q_aload_n C (by decide +kernel : decode cX11_actAt 12 = .ok (.aload_n 0, 1)) ?_
    refine q_get C (ci := 11) (j := 6) (C0 := RX11) (T := TX11) (N := 35) rfl iX11 giX11 (by decide) w9_23 (by decide +kernel : decode cX11_actAt 13 = .ok (.getfield 19, 3)) ?_
    refine q_iload_n C (by decide +kernel : decode cX11_actAt 16 = .ok (.iload_n 3, 1)) ?_
    refine q_iald C (by decide +kernel : decode cX11_actAt 17 = .ok (.iaload, 1)) ?_
    refine q_iload_n C (by decide +kernel : decode cX11_actAt 18 = .ok (.iload_n 1, 1)) ?_
    refine q_icgt C (tgt := 26) (by decide +kernel : decode cX11_actAt 19 = .ok (.if_icmp .gt 7, 3)) (by decide) ?_ ?_
    · refine q_iload_n C (by decide +kernel : decode cX11_actAt 26 = .ok (.iload_n 2, 1)) ?_
      exact v_X11_actAt_27 C hK
    · refine q_iload_n C (by decide +kernel : decode cX11_actAt 22 = .ok (.iload_n 3, 1)) ?_
      refine q_goto C (tgt := 27) (by decide +kernel : decode cX11_actAt 23 = .ok (.goto 4, 3)) (by decide) ?_
      exact v_X11_actAt_27 C hK
theorem u_X11_actAt (l : Launch) {sp : q_Sp} (H : ∀ (av : List Value) (σ : q_S) (post : Option Value → q_S → Prop), sp av σ post → ∃ Inv : Nat → Nat → q_K, (∀ K : Nat → q_K, (∀ (h n : Nat) (L : List (Option Value)) (st : List Value) (σ : q_S) (cr sr : Nat), Inv h n L st σ cr sr → K h L st σ cr sr) → k_X11_actAt_0 post K (q_L0 av 4) [] σ 0 0) ∧ (∀ (K : Nat → q_K) (n : Nat), (∀ (h m : Nat) (L : List (Option Value)) (st : List Value) (σ : q_S) (cr sr : Nat), m < n → Inv h m L st σ cr sr → K h L st σ cr sr) → ∀ (L : List (Option Value)) (st : List Value) (σ : q_S) (cr sr : Nat), Inv 4 n L st σ cr sr → k_X11_actAt_4 post K L st σ cr sr) ∧ av.length ≤ 4 ∧ ∀ v ∈ av, v.category = 1) : q_Ct l yX11_actAt cX11_actAt 4 (some .int) rm_X11_actAt sp := by
  refine q_met (by decide) ?_
  intro D A p e s m args below meth c σ av post C hsp
  obtain ⟨Inv, h1, hh4, h2, h3⟩ := H av σ post hsp
  have hV := q_loops (p := p) (l := l) (e := e) (R := rm_X11_actAt) (s := s) (m := m) (args := args) (below := below) (meth := meth) (c := c) (D := D) (A := A) (nL := 4) (Q := MQ below (q_Qc D A post) args s rm_X11_actAt.cells rm_X11_actAt.slots A) [4] (fun h =>  k_X11_actAt_4 post) (fun K hK h hh => ?_) Inv (fun n h hh => ?_)
  · exact ⟨_, v_X11_actAt_0 C hV, h1 _ (fun h n L st σ cr sr hi => ⟨n, hi⟩), h2, h3⟩
  · have e9 : h = 4 := by simpa using hh
    subst e9
    exact v_X11_actAt_4 C hK
  · have e9 : h = 4 := by simpa using hh
    subst e9
    exact hh4 (fun h L st σ cr sr => ∃ m : Nat, m < n ∧ Inv h m L st σ cr sr) n (fun h m L st σ cr sr hm hi => ⟨m, hm, hi⟩)
theorem t_X11_actAt (l : Launch) : q_Ct l yX11_actAt cX11_actAt 4 (some .int) rm_X11_actAt s_X11_actAt := u_X11_actAt l (by
  intro av σ post h
  unfold s_X11_actAt at h
  split at h
  · next mr on =>
    obtain ⟨ad, z, g, gp, r, hm, hI, h1⟩ := h
    have ez := nI_self hI.1
    generalize hna : (z 5).toNatClampNeg = na at h1 ez
    have hna6 : na ≤ 6 := hna ▸ clamp_le 6 hI.1 hI.2
    refine ⟨fun _ n L st σ' cr sr => ∃ i : Nat, i ≤ na ∧ n = na - i ∧ σ' = σ ∧ st = [] ∧ L = [some (.ref mr), some (.int on), some (.int (actF g on i)), some (.int (nI i))], ?_, ?_, by simp, by simp [Value.category]⟩
    · intro K hK
      simp only [c_push, c_null, c_iload, c_aload, c_istore, c_astore, c_iinc, c_iadd, c_isub, c_imul, c_iand, c_ineg, c_dup, c_dup2, c_pop, c_ifnull, c_ifnonnull, c_get, c_put, c_iald, c_zald, c_iast, c_zast, c_aald, c_aast, c_alen, c_new, c_newa, c_newq, c_mna, c_oinit, c_max, c_copy, c_iret, c_zret, c_aret, c_vret, q_do, q_rc, c_ifeq, c_ifne, c_iflt, c_ifge, c_ifgt, c_ifle, c_iceq, c_icne, c_iclt, c_icge, c_icgt, c_icle, c_call0, c_call1, c_call2, c_call3, c_call4, c_call5, c_call6, c_call7, q_L0, List.map_cons, List.map_nil, List.replicate, List.cons_append, List.nil_append, List.append_nil, List.length_cons, List.length_nil, List.length_set, Nat.reduceSub, Nat.reduceAdd, Nat.reduceLT, Nat.reduceLeDiff, Nat.zero_add, Nat.add_zero, Nat.sub_zero, Nat.sub_self, List.getElem?_cons_zero, List.getElem?_cons_succ, List.set_cons_zero, List.set_cons_succ, Option.toList_some, Option.toList_none, List.sum_cons, List.sum_nil, true_and, and_true, true_or, or_true, Nat.le_refl, Nat.zero_le, Value.category, Fin.isValue, Fin.val_zero, Fin.val_one, Fin.val_two, Fin.reduceFinMk, q_10, q_01, not_false_eq_true, not_true_eq_false, forall_const, true_implies, false_implies, implies_true, q_ni, q_fi, q_nb0, q_nb1, q_fb0, q_fb1, q_nor, q_nar, q_for, q_far, q_non, q_nan, q_fon, q_fan, imp_false, false_and, and_false, and_self, false_or, or_false, va_rf, refKind, k_X11_actAt_0, k_X11_actAt_27, k_X11_actAt_4]
      exact hK 4 na _ _ _ _ _ ⟨0, Nat.zero_le _, rfl, rfl, rfl, rfl⟩
    · rintro K n hK L st σ' cr sr ⟨i, hi, rfl, rfl, rfl, rfl⟩
      simp only [c_push, c_null, c_iload, c_aload, c_istore, c_astore, c_iinc, c_iadd, c_isub, c_imul, c_iand, c_ineg, c_dup, c_dup2, c_pop, c_ifnull, c_ifnonnull, c_get, c_put, c_iald, c_zald, c_iast, c_zast, c_aald, c_aast, c_alen, c_new, c_newa, c_newq, c_mna, c_oinit, c_max, c_copy, c_iret, c_zret, c_aret, c_vret, q_do, q_rc, c_ifeq, c_ifne, c_iflt, c_ifge, c_ifgt, c_ifle, c_iceq, c_icne, c_iclt, c_icge, c_icgt, c_icle, c_call0, c_call1, c_call2, c_call3, c_call4, c_call5, c_call6, c_call7, q_L0, List.map_cons, List.map_nil, List.replicate, List.cons_append, List.nil_append, List.append_nil, List.length_cons, List.length_nil, List.length_set, Nat.reduceSub, Nat.reduceAdd, Nat.reduceLT, Nat.reduceLeDiff, Nat.zero_add, Nat.add_zero, Nat.sub_zero, Nat.sub_self, List.getElem?_cons_zero, List.getElem?_cons_succ, List.set_cons_zero, List.set_cons_succ, Option.toList_some, Option.toList_none, List.sum_cons, List.sum_nil, true_and, and_true, true_or, or_true, Nat.le_refl, Nat.zero_le, Value.category, Fin.isValue, Fin.val_zero, Fin.val_one, Fin.val_two, Fin.reduceFinMk, q_10, q_01, not_false_eq_true, not_true_eq_false, forall_const, true_implies, false_implies, implies_true, q_ni, q_fi, q_nb0, q_nb1, q_fb0, q_fb1, q_nor, q_nar, q_for, q_far, q_non, q_nan, q_fon, q_fan, imp_false, false_and, and_false, and_self, false_or, or_false, va_rf, refKind, k_X11_actAt_0, k_X11_actAt_27, k_X11_actAt_4, hm.rd, vpi6]
      rw [← ez]
      have E := cl2 (nI na) (nI i) na i rfl rfl (by omega) (by omega)
      rw [E.1, clN (by omega)]
      refine ⟨fun c => ?_, fun c => ⟨⟨nI_low (by omega), nI_ltN (N := 6) (by omega)⟩, fun c2 => hK 4 (na - (i + 1)) _ _ _ _ _ (by omega) ⟨i + 1, by omega, rfl, rfl, rfl, ?_⟩, fun c2 => hK 4 (na - (i + 1)) _ _ _ _ _ (by omega) ⟨i + 1, by omega, rfl, rfl, rfl, ?_⟩⟩⟩
      · have e : i = na := by omega
        subst e; exact h1
      · rw [nI_1, actF, if_neg (by grind)]
      · rw [nI_1, actF, if_pos (by grind)]
  · exact h.elim)
-- work
def F_work (z : Nat → Int32) (g : Nat → Nat → Int32) (p : Int32) : Int32 × (Nat → Int32) × (Nat → Nat → Int32) :=
  if 0 ≤ p ∧ p < z 1 then if g 3 p.toNatClampNeg ≠ -1 then (-3, z, g) else if z 11 = 20 then (-4, z, g) else (z 11, upd z 11 (z 11 + 1), gup (gup (gup g 12 (z 11).toNatClampNeg p) 13 (z 11).toNatClampNeg (z 0)) 29 (z 11).toNatClampNeg 0)
  else (-2, z, g)
def s_X11_work : q_Sp := fun av σ post => match av with
  | [.ref mr, .int p] => ∃ ad z g, mOK σ mr ad z g ∧ I1 z ∧ ∀ σ', mOK σ' mr ad (F_work z g p).2.1 (F_work z g p).2.2 → post (some (.int (F_work z g p).1)) σ'
  | _ => False
theorem w9_28 : (.fieldLink RX11 34 (TX11 12).1 (TX11 12).2.1 (TX11 12).2.2.1 : Cond) ∈ lw_tbl := by decide +kernel
theorem w9_29 : (.fieldLink RX11 37 (TX11 13).1 (TX11 13).2.1 (TX11 13).2.2.1 : Cond) ∈ lw_tbl := by decide +kernel
theorem w9_30 : (.fieldLink RX11 80 (TX11 29).1 (TX11 29).2.1 (TX11 29).2.2.1 : Cond) ∈ lw_tbl := by decide +kernel
def rm_X11_work : Room := { frames := 2, cells := 0, slots := 0, locals := 43 }
def k_X11_work_0 (post : Option Value → q_S → Prop) (K : Nat → q_K) : q_K := (c_aload 0 (c_iload 1 (c_call2 (some 11) s_X11_isPerson 0 0 (c_ifne (c_aload 0 (c_get 11 3 (c_iload 1 (c_iald (c_push (-1) (c_iceq (c_aload 0 (c_get 11 11 (c_push 20 (c_icne (c_aload 0 (c_get 11 12 (c_aload 0 (c_get 11 11 (c_iload 1 (c_iast (c_aload 0 (c_get 11 13 (c_aload 0 (c_get 11 11 (c_aload 0 (c_get 11 0 (c_iast (c_aload 0 (c_get 11 29 (c_aload 0 (c_get 11 11 (c_push 0 (c_iast (c_aload 0 (c_dup (c_get 11 11 (c_push 1 (c_iadd (c_put 11 11 (.int) (c_aload 0 (c_get 11 11 (c_push 1 (c_isub (c_iret post)))))))))))))))))))))))))))))) (c_push (-4) (c_iret post)))))) (c_push (-3) (c_iret post)))))))) (c_push (-2) (c_iret post))))))
set_option maxRecDepth 100000 in
theorem v_X11_work_0 {p : Program} {l : Launch} {e : Env} {s : State} {m : MethodId} {args : Array Value} {below : List Frame} {meth : Method} {c : Code} {D : va_G} {A : Nat → Prop} {post : Option Value → q_S → Prop} {K : Nat → q_K} (C : q_C p s m args meth c cX11_work 2 RX11 "work" (some .int) A) (hK : ∀ h ∈ ([] : List Nat), q_V p l e rm_X11_work s m args below meth c D A 2 (MQ below (q_Qc D A post) args s rm_X11_work.cells rm_X11_work.slots A) h (K h)) : q_V p l e rm_X11_work s m args below meth c D A 2 (MQ below (q_Qc D A post) args s rm_X11_work.cells rm_X11_work.slots A) 0 (k_X11_work_0 post K) := by
  unfold k_X11_work_0
  refine q_aload_n C (by decide +kernel : decode cX11_work 0 = .ok (.aload_n 0, 1)) ?_
  refine q_iload_n C (by decide +kernel : decode cX11_work 1 = .ok (.iload_n 1, 1)) ?_
  refine q_call2 C (q_coV C (np := 1) (ci := 11) (rc := (RX11, TX11, 35)) (t_X11_isPerson l) w9_13 rfl rfl w9_14 w9_15 w9_16 w9_6 (by decide +kernel) (by decide +kernel : decode cX11_work 2 = .ok (.invokevirtual 106, 3)) (by decide)) ?_
  refine q_ifne C (tgt := 11) (by decide +kernel : decode cX11_work 5 = .ok (.ifCond .ne 6, 3)) (by decide) ?_ ?_
  · refine q_aload_n C (by decide +kernel : decode cX11_work 11 = .ok (.aload_n 0, 1)) ?_
    refine q_get C (ci := 11) (j := 3) (C0 := RX11) (T := TX11) (N := 35) rfl iX11 giX11 (by decide) w9_12 (by decide +kernel : decode cX11_work 12 = .ok (.getfield 13, 3)) ?_
    refine q_iload_n C (by decide +kernel : decode cX11_work 15 = .ok (.iload_n 1, 1)) ?_
    refine q_iald C (by decide +kernel : decode cX11_work 16 = .ok (.iaload, 1)) ?_
    refine q_iconst C (by decide +kernel : decode cX11_work 17 = .ok (.iconst (-1), 1)) (by decide) ?_
    refine q_iceq C (tgt := 24) (by decide +kernel : decode cX11_work 18 = .ok (.if_icmp .eq 6, 3)) (by decide) ?_ ?_
    · refine q_aload_n C (by decide +kernel : decode cX11_work 24 = .ok (.aload_n 0, 1)) ?_
      refine q_get C (ci := 11) (j := 11) (C0 := RX11) (T := TX11) (N := 35) rfl iX11 giX11 (by decide) w9_9 (by decide +kernel : decode cX11_work 25 = .ok (.getfield 103, 3)) ?_
      refine q_bipush C (by decide +kernel : decode cX11_work 28 = .ok (.bipush 20, 2)) (by decide) ?_
      refine q_icne C (tgt := 36) (by decide +kernel : decode cX11_work 30 = .ok (.if_icmp .ne 6, 3)) (by decide) ?_ ?_
      · refine q_aload_n C (by decide +kernel : decode cX11_work 36 = .ok (.aload_n 0, 1)) ?_
        refine q_get C (ci := 11) (j := 12) (C0 := RX11) (T := TX11) (N := 35) rfl iX11 giX11 (by decide) w9_28 (by decide +kernel : decode cX11_work 37 = .ok (.getfield 34, 3)) ?_
        refine q_aload_n C (by decide +kernel : decode cX11_work 40 = .ok (.aload_n 0, 1)) ?_
        refine q_get C (ci := 11) (j := 11) (C0 := RX11) (T := TX11) (N := 35) rfl iX11 giX11 (by decide) w9_9 (by decide +kernel : decode cX11_work 41 = .ok (.getfield 103, 3)) ?_
        refine q_iload_n C (by decide +kernel : decode cX11_work 44 = .ok (.iload_n 1, 1)) ?_
        refine q_iast C (by decide +kernel : decode cX11_work 45 = .ok (.iastore, 1)) ?_
        refine q_aload_n C (by decide +kernel : decode cX11_work 46 = .ok (.aload_n 0, 1)) ?_
        refine q_get C (ci := 11) (j := 13) (C0 := RX11) (T := TX11) (N := 35) rfl iX11 giX11 (by decide) w9_29 (by decide +kernel : decode cX11_work 47 = .ok (.getfield 37, 3)) ?_
        refine q_aload_n C (by decide +kernel : decode cX11_work 50 = .ok (.aload_n 0, 1)) ?_
        refine q_get C (ci := 11) (j := 11) (C0 := RX11) (T := TX11) (N := 35) rfl iX11 giX11 (by decide) w9_9 (by decide +kernel : decode cX11_work 51 = .ok (.getfield 103, 3)) ?_
        refine q_aload_n C (by decide +kernel : decode cX11_work 54 = .ok (.aload_n 0, 1)) ?_
        refine q_get C (ci := 11) (j := 0) (C0 := RX11) (T := TX11) (N := 35) rfl iX11 giX11 (by decide) w9_10 (by decide +kernel : decode cX11_work 55 = .ok (.getfield 96, 3)) ?_
        refine q_iast C (by decide +kernel : decode cX11_work 58 = .ok (.iastore, 1)) ?_
        refine q_aload_n C (by decide +kernel : decode cX11_work 59 = .ok (.aload_n 0, 1)) ?_
        refine q_get C (ci := 11) (j := 29) (C0 := RX11) (T := TX11) (N := 35) rfl iX11 giX11 (by decide) w9_30 (by decide +kernel : decode cX11_work 60 = .ok (.getfield 80, 3)) ?_
        refine q_aload_n C (by decide +kernel : decode cX11_work 63 = .ok (.aload_n 0, 1)) ?_
        refine q_get C (ci := 11) (j := 11) (C0 := RX11) (T := TX11) (N := 35) rfl iX11 giX11 (by decide) w9_9 (by decide +kernel : decode cX11_work 64 = .ok (.getfield 103, 3)) ?_
        refine q_iconst C (by decide +kernel : decode cX11_work 67 = .ok (.iconst 0, 1)) (by decide) ?_
        refine q_iast C (by decide +kernel : decode cX11_work 68 = .ok (.iastore, 1)) ?_
        refine q_aload_n C (by decide +kernel : decode cX11_work 69 = .ok (.aload_n 0, 1)) ?_
        refine q_dup C (by decide +kernel : decode cX11_work 70 = .ok (.dup, 1)) ?_
        refine q_get C (ci := 11) (j := 11) (C0 := RX11) (T := TX11) (N := 35) rfl iX11 giX11 (by decide) w9_9 (by decide +kernel : decode cX11_work 71 = .ok (.getfield 103, 3)) ?_
        refine q_iconst C (by decide +kernel : decode cX11_work 74 = .ok (.iconst 1, 1)) (by decide) ?_
        refine q_iadd C (by decide +kernel : decode cX11_work 75 = .ok (.iadd, 1)) ?_
        refine q_put C (ci := 11) (j := 11) (C0 := RX11) (T := TX11) (N := 35) (ty := .int) rfl iX11 giX11 (by decide) tyX11 tyX11_ok nmX11 (by decide +kernel) rfl w9_9 (by decide +kernel : decode cX11_work 76 = .ok (.putfield 103, 3)) ?_
        refine q_aload_n C (by decide +kernel : decode cX11_work 79 = .ok (.aload_n 0, 1)) ?_
        refine q_get C (ci := 11) (j := 11) (C0 := RX11) (T := TX11) (N := 35) rfl iX11 giX11 (by decide) w9_9 (by decide +kernel : decode cX11_work 80 = .ok (.getfield 103, 3)) ?_
        refine q_iconst C (by decide +kernel : decode cX11_work 83 = .ok (.iconst 1, 1)) (by decide) ?_
        refine q_isub C (by decide +kernel : decode cX11_work 84 = .ok (.isub, 1)) ?_
        exact q_iret C rfl (by decide +kernel : decode cX11_work 85 = .ok (.ireturn, 1))
      · refine q_bipush C (by decide +kernel : decode cX11_work 33 = .ok (.bipush (-4), 2)) (by decide) ?_
        exact q_iret C rfl (by decide +kernel : decode cX11_work 35 = .ok (.ireturn, 1))
    · refine q_bipush C (by decide +kernel : decode cX11_work 21 = .ok (.bipush (-3), 2)) (by decide) ?_
      exact q_iret C rfl (by decide +kernel : decode cX11_work 23 = .ok (.ireturn, 1))
  · refine q_bipush C (by decide +kernel : decode cX11_work 8 = .ok (.bipush (-2), 2)) (by decide) ?_
    exact q_iret C rfl (by decide +kernel : decode cX11_work 10 = .ok (.ireturn, 1))
theorem u_X11_work (l : Launch) {sp : q_Sp} (H : ∀ (av : List Value) (σ : q_S) (post : Option Value → q_S → Prop), sp av σ post → k_X11_work_0 post (fun _ _ _ _ _ _ => False) (q_L0 av 2) [] σ 0 0 ∧ av.length ≤ 2 ∧ ∀ v ∈ av, v.category = 1) : q_Ct l yX11_work cX11_work 2 (some .int) rm_X11_work sp := by
  refine q_met (by decide) ?_
  intro D A p e s m args below meth c σ av post C hsp
  obtain ⟨h1, h2, h3⟩ := H av σ post hsp
  exact ⟨_, v_X11_work_0 (K := fun _ _ _ _ _ _ => False) C (fun h hh => by cases hh), h1, h2, h3⟩
theorem t_X11_work (l : Launch) : q_Ct l yX11_work cX11_work 2 (some .int) rm_X11_work s_X11_work := u_X11_work l (by
  intro av σ post h
  unfold s_X11_work at h
  split at h
  · next mr p =>
    refine ⟨?_, by simp, by simp [Value.category]⟩
    obtain ⟨ad, z, g, ⟨gp, r, hm⟩, hI, h1⟩ := h
    have hm1 := hm.a12 (z 11).toNatClampNeg p
    have hm2 := hm1.a13 (z 11).toNatClampNeg (z 0)
    have hm3 := hm2.a29 (z 11).toNatClampNeg 0
    have hm4 := hm3.p11 (z 11 + 1)
    simp only [c_push, c_null, c_iload, c_aload, c_istore, c_astore, c_iinc, c_iadd, c_isub, c_imul, c_iand, c_ineg, c_dup, c_dup2, c_pop, c_ifnull, c_ifnonnull, c_get, c_put, c_iald, c_zald, c_iast, c_zast, c_aald, c_aast, c_alen, c_new, c_newa, c_newq, c_mna, c_oinit, c_max, c_copy, c_iret, c_zret, c_aret, c_vret, q_do, q_rc, c_ifeq, c_ifne, c_iflt, c_ifge, c_ifgt, c_ifle, c_iceq, c_icne, c_iclt, c_icge, c_icgt, c_icle, c_call0, c_call1, c_call2, c_call3, c_call4, c_call5, c_call6, c_call7, q_L0, List.map_cons, List.map_nil, List.replicate, List.cons_append, List.nil_append, List.append_nil, List.length_cons, List.length_nil, List.length_set, Nat.reduceSub, Nat.reduceAdd, Nat.reduceLT, Nat.reduceLeDiff, Nat.zero_add, Nat.add_zero, Nat.sub_zero, Nat.sub_self, List.getElem?_cons_zero, List.getElem?_cons_succ, List.set_cons_zero, List.set_cons_succ, Option.toList_some, Option.toList_none, List.sum_cons, List.sum_nil, true_and, and_true, true_or, or_true, Nat.le_refl, Nat.zero_le, Value.category, Fin.isValue, Fin.val_zero, Fin.val_one, Fin.val_two, Fin.reduceFinMk, q_10, q_01, not_false_eq_true, not_true_eq_false, forall_const, true_implies, false_implies, implies_true, q_ni, q_fi, q_nb0, q_nb1, q_fb0, q_fb1, q_nor, q_nar, q_for, q_far, q_non, q_nan, q_fon, q_fan, imp_false, false_and, and_false, and_self, false_or, or_false, va_rf, refKind, k_X11_work_0, hm.rd, hm1.rd, hm2.rd, hm3.rd, hm4.rd, vpi12, vpi20, s_X11_isPerson]
    unfold F_work at h1
    unfold I1 at hI
    split at h1
    · split at h1
      · have a := h1 _ ⟨gp, r, hm⟩
        grind
      · split at h1
        · have a := h1 _ ⟨gp, r, hm⟩
          grind
        · have a := h1 _ ⟨gp, r, hm4⟩
          grind [upd]
    · have a := h1 _ ⟨gp, r, hm⟩
      grind
  · exact h.elim)
-- endBy
def endByF (g : Nat → Nat → Int32) (w a : Nat) (k : Int32) : Int32 :=
  if g 8 a = -1 then g 13 w + g 7 a else if deathF g (g 12 w).toNatClampNeg k = -1 then 1000000 else if deathF g (g 12 w).toNatClampNeg k + g 8 a < g 13 w + g 7 a then g 13 w + g 7 a else deathF g (g 12 w).toNatClampNeg k + g 8 a
def s_X11_endBy : q_Sp := fun av σ post => match av with
  | [.ref mr, .int w, .int a, .int k] => ∃ ad z g gp r, mOKx σ mr ad z g gp r ∧ (0 ≤ w ∧ w < 20) ∧ (0 ≤ a ∧ a < 6) ∧ (0 ≤ g 12 w.toNatClampNeg ∧ g 12 w.toNatClampNeg < 12) ∧ post (some (.int (endByF g w.toNatClampNeg a.toNatClampNeg k))) σ
  | _ => False
theorem w9_31 : (.code yX11_greater cX11_greater 2 (some .int) : Cond) ∈ lw_tbl := by decide +kernel
theorem w9_32 : (.static yX11_greater : Cond) ∈ lw_tbl := by decide +kernel
theorem w9_33 : (.methodLink RX11 126 yX11_greater : Cond) ∈ lw_tbl := by decide +kernel
theorem w9_34 : (.constant RX11 125 1000000 : Cond) ∈ lw_tbl := by decide +kernel
def rm_X11_endBy : Room := { frames := 1, cells := 0, slots := 0, locals := 22 }
def k_X11_endBy_68 (post : Option Value → q_S → Prop) (K : Nat → q_K) : q_K := (c_iret post)
def k_X11_endBy_0 (post : Option Value → q_S → Prop) (K : Nat → q_K) : q_K := (c_aload 0 (c_get 11 13 (c_iload 1 (c_iald (c_aload 0 (c_get 11 7 (c_iload 2 (c_iald (c_iadd (c_istore 4 (c_aload 0 (c_aload 0 (c_get 11 12 (c_iload 1 (c_iald (c_iload 3 (c_call3 (some 11) s_X11_deathAt 0 0 (c_istore 5 (c_aload 0 (c_get 11 8 (c_iload 2 (c_iald (c_push (-1) (c_icne (c_iload 5 (c_push (-1) (c_icne (c_iload 4 (c_iload 5 (c_aload 0 (c_get 11 8 (c_iload 2 (c_iald (c_iadd (c_call2 none s_X11_greater 0 0 (k_X11_endBy_68 post K))))))))) (c_push 1000000 (k_X11_endBy_68 post K))))) (c_iload 4 (k_X11_endBy_68 post K))))))))))))))))))))))))))
set_option maxRecDepth 100000 in
theorem v_X11_endBy_68 {p : Program} {l : Launch} {e : Env} {s : State} {m : MethodId} {args : Array Value} {below : List Frame} {meth : Method} {c : Code} {D : va_G} {A : Nat → Prop} {post : Option Value → q_S → Prop} {K : Nat → q_K} (C : q_C p s m args meth c cX11_endBy 6 RX11 "endBy" (some .int) A) (hK : ∀ h ∈ ([] : List Nat), q_V p l e rm_X11_endBy s m args below meth c D A 6 (MQ below (q_Qc D A post) args s rm_X11_endBy.cells rm_X11_endBy.slots A) h (K h)) : q_V p l e rm_X11_endBy s m args below meth c D A 6 (MQ below (q_Qc D A post) args s rm_X11_endBy.cells rm_X11_endBy.slots A) 68 (k_X11_endBy_68 post K) := by
  unfold k_X11_endBy_68
  exact q_iret C rfl (by decide +kernel : decode cX11_endBy 68 = .ok (.ireturn, 1))
set_option maxRecDepth 100000 in
theorem v_X11_endBy_0 {p : Program} {l : Launch} {e : Env} {s : State} {m : MethodId} {args : Array Value} {below : List Frame} {meth : Method} {c : Code} {D : va_G} {A : Nat → Prop} {post : Option Value → q_S → Prop} {K : Nat → q_K} (C : q_C p s m args meth c cX11_endBy 6 RX11 "endBy" (some .int) A) (hK : ∀ h ∈ ([] : List Nat), q_V p l e rm_X11_endBy s m args below meth c D A 6 (MQ below (q_Qc D A post) args s rm_X11_endBy.cells rm_X11_endBy.slots A) h (K h)) : q_V p l e rm_X11_endBy s m args below meth c D A 6 (MQ below (q_Qc D A post) args s rm_X11_endBy.cells rm_X11_endBy.slots A) 0 (k_X11_endBy_0 post K) := by
  unfold k_X11_endBy_0
  refine q_aload_n C (by decide +kernel : decode cX11_endBy 0 = .ok (.aload_n 0, 1)) ?_
  refine q_get C (ci := 11) (j := 13) (C0 := RX11) (T := TX11) (N := 35) rfl iX11 giX11 (by decide) w9_29 (by decide +kernel : decode cX11_endBy 1 = .ok (.getfield 37, 3)) ?_
  refine q_iload_n C (by decide +kernel : decode cX11_endBy 4 = .ok (.iload_n 1, 1)) ?_
  refine q_iald C (by decide +kernel : decode cX11_endBy 5 = .ok (.iaload, 1)) ?_
  refine q_aload_n C (by decide +kernel : decode cX11_endBy 6 = .ok (.aload_n 0, 1)) ?_
  refine q_get C (ci := 11) (j := 7) (C0 := RX11) (T := TX11) (N := 35) rfl iX11 giX11 (by decide) w9_24 (by decide +kernel : decode cX11_endBy 7 = .ok (.getfield 22, 3)) ?_
  refine q_iload_n C (by decide +kernel : decode cX11_endBy 10 = .ok (.iload_n 2, 1)) ?_
  refine q_iald C (by decide +kernel : decode cX11_endBy 11 = .ok (.iaload, 1)) ?_
  refine q_iadd C (by decide +kernel : decode cX11_endBy 12 = .ok (.iadd, 1)) ?_
  refine q_istore C (by decide +kernel : decode cX11_endBy 13 = .ok (.istore 4, 2)) ?_
  refine q_aload_n C (by decide +kernel : decode cX11_endBy 15 = .ok (.aload_n 0, 1)) ?_
  refine q_aload_n C (by decide +kernel : decode cX11_endBy 16 = .ok (.aload_n 0, 1)) ?_
  refine q_get C (ci := 11) (j := 12) (C0 := RX11) (T := TX11) (N := 35) rfl iX11 giX11 (by decide) w9_28 (by decide +kernel : decode cX11_endBy 17 = .ok (.getfield 34, 3)) ?_
  refine q_iload_n C (by decide +kernel : decode cX11_endBy 20 = .ok (.iload_n 1, 1)) ?_
  refine q_iald C (by decide +kernel : decode cX11_endBy 21 = .ok (.iaload, 1)) ?_
  refine q_iload_n C (by decide +kernel : decode cX11_endBy 22 = .ok (.iload_n 3, 1)) ?_
  refine q_call3 C (q_coV C (np := 2) (ci := 11) (rc := (RX11, TX11, 35)) (t_X11_deathAt l) w9_18 rfl rfl w9_19 w9_20 w9_21 w9_6 (by decide +kernel) (by decide +kernel : decode cX11_endBy 23 = .ok (.invokevirtual 118, 3)) (by decide)) ?_
  refine q_istore C (by decide +kernel : decode cX11_endBy 26 = .ok (.istore 5, 2)) ?_
  refine q_aload_n C (by decide +kernel : decode cX11_endBy 28 = .ok (.aload_n 0, 1)) ?_
  refine q_get C (ci := 11) (j := 8) (C0 := RX11) (T := TX11) (N := 35) rfl iX11 giX11 (by decide) w9_25 (by decide +kernel : decode cX11_endBy 29 = .ok (.getfield 25, 3)) ?_
  refine q_iload_n C (by decide +kernel : decode cX11_endBy 32 = .ok (.iload_n 2, 1)) ?_
  refine q_iald C (by decide +kernel : decode cX11_endBy 33 = .ok (.iaload, 1)) ?_
  refine q_iconst C (by decide +kernel : decode cX11_endBy 34 = .ok (.iconst (-1), 1)) (by decide) ?_
  refine q_icne C (tgt := 43) (by decide +kernel : decode cX11_endBy 35 = .ok (.if_icmp .ne 8, 3)) (by decide) ?_ ?_
  · refine q_iload C (by decide +kernel : decode cX11_endBy 43 = .ok (.iload 5, 2)) ?_
    refine q_iconst C (by decide +kernel : decode cX11_endBy 45 = .ok (.iconst (-1), 1)) (by decide) ?_
    refine q_icne C (tgt := 54) (by decide +kernel : decode cX11_endBy 46 = .ok (.if_icmp .ne 8, 3)) (by decide) ?_ ?_
    · refine q_iload C (by decide +kernel : decode cX11_endBy 54 = .ok (.iload 4, 2)) ?_
      refine q_iload C (by decide +kernel : decode cX11_endBy 56 = .ok (.iload 5, 2)) ?_
      refine q_aload_n C (by decide +kernel : decode cX11_endBy 58 = .ok (.aload_n 0, 1)) ?_
      refine q_get C (ci := 11) (j := 8) (C0 := RX11) (T := TX11) (N := 35) rfl iX11 giX11 (by decide) w9_25 (by decide +kernel : decode cX11_endBy 59 = .ok (.getfield 25, 3)) ?_
      refine q_iload_n C (by decide +kernel : decode cX11_endBy 62 = .ok (.iload_n 2, 1)) ?_
      refine q_iald C (by decide +kernel : decode cX11_endBy 63 = .ok (.iaload, 1)) ?_
      refine q_iadd C (by decide +kernel : decode cX11_endBy 64 = .ok (.iadd, 1)) ?_
      refine q_call2 C (q_coS C (np := 2) (t_X11_greater l) w9_31 w9_33 w9_32 w9_6 (by decide +kernel) (by decide +kernel : decode cX11_endBy 65 = .ok (.invokestatic 126, 3)) (by decide)) ?_
      exact v_X11_endBy_68 C hK
    · refine q_ldc C (by decide +kernel : decode cX11_endBy 49 = .ok (.ldc 125, 2)) w9_34 ?_
      refine q_goto C (tgt := 68) (by decide +kernel : decode cX11_endBy 51 = .ok (.goto 17, 3)) (by decide) ?_
      exact v_X11_endBy_68 C hK
  · refine q_iload C (by decide +kernel : decode cX11_endBy 38 = .ok (.iload 4, 2)) ?_
    refine q_goto C (tgt := 68) (by decide +kernel : decode cX11_endBy 40 = .ok (.goto 28, 3)) (by decide) ?_
    exact v_X11_endBy_68 C hK
theorem u_X11_endBy (l : Launch) {sp : q_Sp} (H : ∀ (av : List Value) (σ : q_S) (post : Option Value → q_S → Prop), sp av σ post → k_X11_endBy_0 post (fun _ _ _ _ _ _ => False) (q_L0 av 6) [] σ 0 0 ∧ av.length ≤ 6 ∧ ∀ v ∈ av, v.category = 1) : q_Ct l yX11_endBy cX11_endBy 6 (some .int) rm_X11_endBy sp := by
  refine q_met (by decide) ?_
  intro D A p e s m args below meth c σ av post C hsp
  obtain ⟨h1, h2, h3⟩ := H av σ post hsp
  exact ⟨_, v_X11_endBy_0 (K := fun _ _ _ _ _ _ => False) C (fun h hh => by cases hh), h1, h2, h3⟩
theorem t_X11_endBy (l : Launch) : q_Ct l yX11_endBy cX11_endBy 6 (some .int) rm_X11_endBy s_X11_endBy := u_X11_endBy l (by
  intro av σ post h
  unfold s_X11_endBy at h
  split at h
  · next mr w a k =>
    refine ⟨?_, by simp, by simp [Value.category]⟩
    obtain ⟨ad, z, g, gp, r, hm, hw, ha, hau, h1⟩ := h
    simp only [c_push, c_null, c_iload, c_aload, c_istore, c_astore, c_iinc, c_iadd, c_isub, c_imul, c_iand, c_ineg, c_dup, c_dup2, c_pop, c_ifnull, c_ifnonnull, c_get, c_put, c_iald, c_zald, c_iast, c_zast, c_aald, c_aast, c_alen, c_new, c_newa, c_newq, c_mna, c_oinit, c_max, c_copy, c_iret, c_zret, c_aret, c_vret, q_do, q_rc, c_ifeq, c_ifne, c_iflt, c_ifge, c_ifgt, c_ifle, c_iceq, c_icne, c_iclt, c_icge, c_icgt, c_icle, c_call0, c_call1, c_call2, c_call3, c_call4, c_call5, c_call6, c_call7, q_L0, List.map_cons, List.map_nil, List.replicate, List.cons_append, List.nil_append, List.append_nil, List.length_cons, List.length_nil, List.length_set, Nat.reduceSub, Nat.reduceAdd, Nat.reduceLT, Nat.reduceLeDiff, Nat.zero_add, Nat.add_zero, Nat.sub_zero, Nat.sub_self, List.getElem?_cons_zero, List.getElem?_cons_succ, List.set_cons_zero, List.set_cons_succ, Option.toList_some, Option.toList_none, List.sum_cons, List.sum_nil, true_and, and_true, true_or, or_true, Nat.le_refl, Nat.zero_le, Value.category, Fin.isValue, Fin.val_zero, Fin.val_one, Fin.val_two, Fin.reduceFinMk, q_10, q_01, not_false_eq_true, not_true_eq_false, forall_const, true_implies, false_implies, implies_true, q_ni, q_fi, q_nb0, q_nb1, q_fb0, q_fb1, q_nor, q_nar, q_for, q_far, q_non, q_nan, q_fon, q_fan, imp_false, false_and, and_false, and_self, false_or, or_false, va_rf, refKind, k_X11_endBy_0, k_X11_endBy_68, hm.rd, vpi6, vpi20, hw, ha]
    refine ⟨ad, z, g, gp, r, hm, hau, ?_⟩
    simp only [c_push, c_null, c_iload, c_aload, c_istore, c_astore, c_iinc, c_iadd, c_isub, c_imul, c_iand, c_ineg, c_dup, c_dup2, c_pop, c_ifnull, c_ifnonnull, c_get, c_put, c_iald, c_zald, c_iast, c_zast, c_aald, c_aast, c_alen, c_new, c_newa, c_newq, c_mna, c_oinit, c_max, c_copy, c_iret, c_zret, c_aret, c_vret, q_do, q_rc, c_ifeq, c_ifne, c_iflt, c_ifge, c_ifgt, c_ifle, c_iceq, c_icne, c_iclt, c_icge, c_icgt, c_icle, c_call0, c_call1, c_call2, c_call3, c_call4, c_call5, c_call6, c_call7, q_L0, List.map_cons, List.map_nil, List.replicate, List.cons_append, List.nil_append, List.append_nil, List.length_cons, List.length_nil, List.length_set, Nat.reduceSub, Nat.reduceAdd, Nat.reduceLT, Nat.reduceLeDiff, Nat.zero_add, Nat.add_zero, Nat.sub_zero, Nat.sub_self, List.getElem?_cons_zero, List.getElem?_cons_succ, List.set_cons_zero, List.set_cons_succ, Option.toList_some, Option.toList_none, List.sum_cons, List.sum_nil, true_and, and_true, true_or, or_true, Nat.le_refl, Nat.zero_le, Value.category, Fin.isValue, Fin.val_zero, Fin.val_one, Fin.val_two, Fin.reduceFinMk, q_10, q_01, not_false_eq_true, not_true_eq_false, forall_const, true_implies, false_implies, implies_true, q_ni, q_fi, q_nb0, q_nb1, q_fb0, q_fb1, q_nor, q_nar, q_for, q_far, q_non, q_nan, q_fon, q_fan, imp_false, false_and, and_false, and_self, false_or, or_false, va_rf, refKind, k_X11_endBy_0, k_X11_endBy_68, hm.rd, vpi6, vpi20, hw, ha, s_X11_greater]
    unfold endByF at h1
    grind
  · exact h.elim)
end
section
-- endAt, hasRight, end, inRight
theorem actF_cases (g : Nat → Nat → Int32) (on : Int32) : ∀ n : Nat, actF g on n = -1 ∨ ∃ i : Nat, i < n ∧ actF g on n = nI i
  | 0 => Or.inl rfl
  | n + 1 => by
    rw [actF]
    split
    · exact Or.inr ⟨n, by omega, rfl⟩
    · rcases actF_cases g on n with h | ⟨i, h, e⟩
      · exact Or.inl h
      · exact Or.inr ⟨i, by omega, e⟩
theorem nI_m1 {i : Nat} (h : i < 2147483648) : nI i ≠ -1 := fun e => by
  have := nI_low h
  rw [e] at this
  exact absurd this (by decide)
def firstF (g : Nat → Nat → Int32) (w : Nat) (k : Int32) (na : Nat) : Int32 := if actF g (g 13 w) na = -1 then g 13 w else endByF g w (actF g (g 13 w) na).toNatClampNeg k
def mxF (a b : Int32) : Int32 := if b < a then a else b
def endF (g : Nat → Nat → Int32) (w : Nat) (k t : Int32) (na : Nat) : Nat → Int32 × Int32
  | 0 => (firstF g w k na, 0)
  | n + 1 => if g 13 w < g 6 n ∧ g 6 n ≤ k ∧ (g 9 n = 2 ∨ g 9 n = 1 ∧ g 6 n ≤ (endF g w k t na n).1) then (mxF (endF g w k t na n).1 (endByF g w n k), if (endF g w k t na n).2 ≠ 0 ∨ (endF g w k t na n).1 < t ∧ t < g 6 n then 1 else 0) else endF g w k t na n
theorem endF_gap (g : Nat → Nat → Int32) (w : Nat) (k t : Int32) (na : Nat) : ∀ n : Nat, (endF g w k t na n).2 = 0 ∨ (endF g w k t na n).2 = 1
  | 0 => Or.inl rfl
  | n + 1 => by
    rw [endF]
    split
    · dsimp only
      split
      · exact Or.inr rfl
      · exact Or.inl rfl
    · exact endF_gap g w k t na n
def s_X11_endAt : q_Sp := fun av σ post => match av with
  | [.ref mr, .int w, .int k, .int t] => ∃ ad z g gp r, mOKx σ mr ad z g gp r ∧ (0 ≤ w ∧ w < 20) ∧ (0 ≤ z 5 ∧ z 5 ≤ 6) ∧ (0 ≤ g 12 w.toNatClampNeg ∧ g 12 w.toNatClampNeg < 12) ∧ ∀ σ', mOKx σ' mr ad z g (endF g w.toNatClampNeg k t (z 5).toNatClampNeg (z 5).toNatClampNeg).2 r → post (some (.int (endF g w.toNatClampNeg k t (z 5).toNatClampNeg (z 5).toNatClampNeg).1)) σ'
  | _ => False
theorem w9_35 : (.code yX11_actAt cX11_actAt 4 (some .int) : Cond) ∈ lw_tbl := by decide +kernel
theorem w9_36 : (.methodLink RX11 129 yX11_actAt : Cond) ∈ lw_tbl := by decide +kernel
theorem w9_37 : (.instanceMethod yX11_actAt : Cond) ∈ lw_tbl := by decide +kernel
theorem w9_38 : (.selects RX11 yX11_actAt yX11_actAt : Cond) ∈ lw_tbl := by decide +kernel
theorem w9_39 : (.code yX11_endBy cX11_endBy 6 (some .int) : Cond) ∈ lw_tbl := by decide +kernel
theorem w9_40 : (.methodLink RX11 133 yX11_endBy : Cond) ∈ lw_tbl := by decide +kernel
theorem w9_41 : (.instanceMethod yX11_endBy : Cond) ∈ lw_tbl := by decide +kernel
theorem w9_42 : (.selects RX11 yX11_endBy yX11_endBy : Cond) ∈ lw_tbl := by decide +kernel
theorem w9_43 : (.fieldLink RX11 136 (TX11 33).1 (TX11 33).2.1 (TX11 33).2.2.1 : Cond) ∈ lw_tbl := by decide +kernel
def rm_X11_endAt : Room := { frames := 2, cells := 0, slots := 0, locals := 47 }
def k_X11_endAt_35 (post : Option Value → q_S → Prop) (K : Nat → q_K) : q_K := (c_istore 5 (c_aload 0 (c_push 0 (c_put 11 33 (.boolean) (c_push 0 (c_istore 6 (K 45)))))))
def k_X11_endAt_0 (post : Option Value → q_S → Prop) (K : Nat → q_K) : q_K := (c_aload 0 (c_aload 0 (c_get 11 13 (c_iload 1 (c_iald (c_call2 (some 11) s_X11_actAt 0 0 (c_istore 4 (c_iload 4 (c_push (-1) (c_icne (c_aload 0 (c_iload 1 (c_iload 4 (c_iload 2 (c_call4 (some 11) s_X11_endBy 0 0 (k_X11_endAt_35 post K)))))) (c_aload 0 (c_get 11 13 (c_iload 1 (c_iald (k_X11_endAt_35 post K)))))))))))))))
def k_X11_endAt_152 (post : Option Value → q_S → Prop) (K : Nat → q_K) : q_K := (c_iinc 6 1 (K 45))
def k_X11_endAt_134 (post : Option Value → q_S → Prop) (K : Nat → q_K) : q_K := (c_put 11 33 (.boolean) (c_iload 5 (c_aload 0 (c_iload 1 (c_iload 6 (c_iload 2 (c_call4 (some 11) s_X11_endBy 0 0 (c_call2 none s_X11_greater 0 0 (c_istore 5 (k_X11_endAt_152 post K))))))))))
def k_X11_endAt_129 (post : Option Value → q_S → Prop) (K : Nat → q_K) : q_K := (c_push 1 (k_X11_endAt_134 post K))
def k_X11_endAt_133 (post : Option Value → q_S → Prop) (K : Nat → q_K) : q_K := (c_push 0 (k_X11_endAt_134 post K))
def k_X11_endAt_109 (post : Option Value → q_S → Prop) (K : Nat → q_K) : q_K := (c_aload 0 (c_aload 0 (c_get 11 33 (c_ifne (k_X11_endAt_129 post K) (c_iload 5 (c_iload 3 (c_icge (k_X11_endAt_133 post K) (c_iload 3 (c_iload 7 (c_icge (k_X11_endAt_133 post K) (k_X11_endAt_129 post K)))))))))))
def k_X11_endAt_45 (post : Option Value → q_S → Prop) (K : Nat → q_K) : q_K := (c_iload 6 (c_aload 0 (c_get 11 5 (c_icge (c_iload 5 (c_iret post)) (c_aload 0 (c_get 11 6 (c_iload 6 (c_iald (c_istore 7 (c_iload 7 (c_aload 0 (c_get 11 13 (c_iload 1 (c_iald (c_icle (k_X11_endAt_152 post K) (c_iload 7 (c_iload 2 (c_icgt (k_X11_endAt_152 post K) (c_aload 0 (c_get 11 9 (c_iload 6 (c_iald (c_push 2 (c_iceq (k_X11_endAt_109 post K) (c_aload 0 (c_get 11 9 (c_iload 6 (c_iald (c_push 1 (c_icne (k_X11_endAt_152 post K) (c_iload 5 (c_iload 7 (c_iclt (k_X11_endAt_152 post K) (k_X11_endAt_109 post K))))))))))))))))))))))))))))))))))
set_option maxRecDepth 100000 in
theorem v_X11_endAt_35 {p : Program} {l : Launch} {e : Env} {s : State} {m : MethodId} {args : Array Value} {below : List Frame} {meth : Method} {c : Code} {D : va_G} {A : Nat → Prop} {post : Option Value → q_S → Prop} {K : Nat → q_K} (C : q_C p s m args meth c cX11_endAt 8 RX11 "endAt" (some .int) A) (hK : ∀ h ∈ ([45] : List Nat), q_V p l e rm_X11_endAt s m args below meth c D A 8 (MQ below (q_Qc D A post) args s rm_X11_endAt.cells rm_X11_endAt.slots A) h (K h)) : q_V p l e rm_X11_endAt s m args below meth c D A 8 (MQ below (q_Qc D A post) args s rm_X11_endAt.cells rm_X11_endAt.slots A) 35 (k_X11_endAt_35 post K) := by
  unfold k_X11_endAt_35
  refine q_istore C (by decide +kernel : decode cX11_endAt 35 = .ok (.istore 5, 2)) ?_
  refine q_aload_n C (by decide +kernel : decode cX11_endAt 37 = .ok (.aload_n 0, 1)) ?_
  refine q_iconst C (by decide +kernel : decode cX11_endAt 38 = .ok (.iconst 0, 1)) (by decide) ?_
  refine q_put C (ci := 11) (j := 33) (C0 := RX11) (T := TX11) (N := 35) (ty := .boolean) rfl iX11 giX11 (by decide) tyX11 tyX11_ok nmX11 (by decide +kernel) rfl w9_43 (by decide +kernel : decode cX11_endAt 39 = .ok (.putfield 136, 3)) ?_
  refine q_iconst C (by decide +kernel : decode cX11_endAt 42 = .ok (.iconst 0, 1)) (by decide) ?_
  refine q_istore C (by decide +kernel : decode cX11_endAt 43 = .ok (.istore 6, 2)) ?_
  exact hK 45 (by decide)
set_option maxRecDepth 100000 in
theorem v_X11_endAt_0 {p : Program} {l : Launch} {e : Env} {s : State} {m : MethodId} {args : Array Value} {below : List Frame} {meth : Method} {c : Code} {D : va_G} {A : Nat → Prop} {post : Option Value → q_S → Prop} {K : Nat → q_K} (C : q_C p s m args meth c cX11_endAt 8 RX11 "endAt" (some .int) A) (hK : ∀ h ∈ ([45] : List Nat), q_V p l e rm_X11_endAt s m args below meth c D A 8 (MQ below (q_Qc D A post) args s rm_X11_endAt.cells rm_X11_endAt.slots A) h (K h)) : q_V p l e rm_X11_endAt s m args below meth c D A 8 (MQ below (q_Qc D A post) args s rm_X11_endAt.cells rm_X11_endAt.slots A) 0 (k_X11_endAt_0 post K) := by
  unfold k_X11_endAt_0
  refine q_aload_n C (by decide +kernel : decode cX11_endAt 0 = .ok (.aload_n 0, 1)) ?_
  refine q_aload_n C (by decide +kernel : decode cX11_endAt 1 = .ok (.aload_n 0, 1)) ?_
  refine q_get C (ci := 11) (j := 13) (C0 := RX11) (T := TX11) (N := 35) rfl iX11 giX11 (by decide) w9_29 (by decide +kernel : decode cX11_endAt 2 = .ok (.getfield 37, 3)) ?_
  refine q_iload_n C (by decide +kernel : decode cX11_endAt 5 = .ok (.iload_n 1, 1)) ?_
  refine q_iald C (by decide +kernel : decode cX11_endAt 6 = .ok (.iaload, 1)) ?_
  refine q_call2 C (q_coV C (np := 1) (ci := 11) (rc := (RX11, TX11, 35)) (t_X11_actAt l) w9_35 rfl rfl w9_36 w9_37 w9_38 w9_6 (by decide +kernel) (by decide +kernel : decode cX11_endAt 7 = .ok (.invokevirtual 129, 3)) (by decide)) ?_
  refine q_istore C (by decide +kernel : decode cX11_endAt 10 = .ok (.istore 4, 2)) ?_
  refine q_iload C (by decide +kernel : decode cX11_endAt 12 = .ok (.iload 4, 2)) ?_
  refine q_iconst C (by decide +kernel : decode cX11_endAt 14 = .ok (.iconst (-1), 1)) (by decide) ?_
  refine q_icne C (tgt := 27) (by decide +kernel : decode cX11_endAt 15 = .ok (.if_icmp .ne 12, 3)) (by decide) ?_ ?_
  · refine q_aload_n C (by decide +kernel : decode cX11_endAt 27 = .ok (.aload_n 0, 1)) ?_
    refine q_iload_n C (by decide +kernel : decode cX11_endAt 28 = .ok (.iload_n 1, 1)) ?_
    refine q_iload C (by decide +kernel : decode cX11_endAt 29 = .ok (.iload 4, 2)) ?_
    refine q_iload_n C (by decide +kernel : decode cX11_endAt 31 = .ok (.iload_n 2, 1)) ?_
    refine q_call4 C (q_coV C (np := 3) (ci := 11) (rc := (RX11, TX11, 35)) (t_X11_endBy l) w9_39 rfl rfl w9_40 w9_41 w9_42 w9_6 (by decide +kernel) (by decide +kernel : decode cX11_endAt 32 = .ok (.invokevirtual 133, 3)) (by decide)) ?_
    exact v_X11_endAt_35 C hK
  · refine q_aload_n C (by decide +kernel : decode cX11_endAt 18 = .ok (.aload_n 0, 1)) ?_
    refine q_get C (ci := 11) (j := 13) (C0 := RX11) (T := TX11) (N := 35) rfl iX11 giX11 (by decide) w9_29 (by decide +kernel : decode cX11_endAt 19 = .ok (.getfield 37, 3)) ?_
    refine q_iload_n C (by decide +kernel : decode cX11_endAt 22 = .ok (.iload_n 1, 1)) ?_
    refine q_iald C (by decide +kernel : decode cX11_endAt 23 = .ok (.iaload, 1)) ?_
    refine q_goto C (tgt := 35) (by decide +kernel : decode cX11_endAt 24 = .ok (.goto 11, 3)) (by decide) ?_
    exact v_X11_endAt_35 C hK
set_option maxRecDepth 100000 in
theorem v_X11_endAt_152 {p : Program} {l : Launch} {e : Env} {s : State} {m : MethodId} {args : Array Value} {below : List Frame} {meth : Method} {c : Code} {D : va_G} {A : Nat → Prop} {post : Option Value → q_S → Prop} {K : Nat → q_K} (C : q_C p s m args meth c cX11_endAt 8 RX11 "endAt" (some .int) A) (hK : ∀ h ∈ ([45] : List Nat), q_V p l e rm_X11_endAt s m args below meth c D A 8 (MQ below (q_Qc D A post) args s rm_X11_endAt.cells rm_X11_endAt.slots A) h (K h)) : q_V p l e rm_X11_endAt s m args below meth c D A 8 (MQ below (q_Qc D A post) args s rm_X11_endAt.cells rm_X11_endAt.slots A) 152 (k_X11_endAt_152 post K) := by
  unfold k_X11_endAt_152
  refine q_iinc C (by decide +kernel : decode cX11_endAt 152 = .ok (.iinc 6 1, 3)) (by decide) ?_
  refine q_goto C (tgt := 45) (by decide +kernel : decode cX11_endAt 155 = .ok (.goto (-110), 3)) (by decide) ?_
  exact hK 45 (by decide)
set_option maxRecDepth 100000 in
theorem v_X11_endAt_134 {p : Program} {l : Launch} {e : Env} {s : State} {m : MethodId} {args : Array Value} {below : List Frame} {meth : Method} {c : Code} {D : va_G} {A : Nat → Prop} {post : Option Value → q_S → Prop} {K : Nat → q_K} (C : q_C p s m args meth c cX11_endAt 8 RX11 "endAt" (some .int) A) (hK : ∀ h ∈ ([45] : List Nat), q_V p l e rm_X11_endAt s m args below meth c D A 8 (MQ below (q_Qc D A post) args s rm_X11_endAt.cells rm_X11_endAt.slots A) h (K h)) : q_V p l e rm_X11_endAt s m args below meth c D A 8 (MQ below (q_Qc D A post) args s rm_X11_endAt.cells rm_X11_endAt.slots A) 134 (k_X11_endAt_134 post K) := by
  unfold k_X11_endAt_134
  refine q_put C (ci := 11) (j := 33) (C0 := RX11) (T := TX11) (N := 35) (ty := .boolean) rfl iX11 giX11 (by decide) tyX11 tyX11_ok nmX11 (by decide +kernel) rfl w9_43 (by decide +kernel : decode cX11_endAt 134 = .ok (.putfield 136, 3)) ?_
  refine q_iload C (by decide +kernel : decode cX11_endAt 137 = .ok (.iload 5, 2)) ?_
  refine q_aload_n C (by decide +kernel : decode cX11_endAt 139 = .ok (.aload_n 0, 1)) ?_
  refine q_iload_n C (by decide +kernel : decode cX11_endAt 140 = .ok (.iload_n 1, 1)) ?_
  refine q_iload C (by decide +kernel : decode cX11_endAt 141 = .ok (.iload 6, 2)) ?_
  refine q_iload_n C (by decide +kernel : decode cX11_endAt 143 = .ok (.iload_n 2, 1)) ?_
  refine q_call4 C (q_coV C (np := 3) (ci := 11) (rc := (RX11, TX11, 35)) (t_X11_endBy l) w9_39 rfl rfl w9_40 w9_41 w9_42 w9_6 (by decide +kernel) (by decide +kernel : decode cX11_endAt 144 = .ok (.invokevirtual 133, 3)) (by decide)) ?_
  refine q_call2 C (q_coS C (np := 2) (t_X11_greater l) w9_31 w9_33 w9_32 w9_6 (by decide +kernel) (by decide +kernel : decode cX11_endAt 147 = .ok (.invokestatic 126, 3)) (by decide)) ?_
  refine q_istore C (by decide +kernel : decode cX11_endAt 150 = .ok (.istore 5, 2)) ?_
  exact v_X11_endAt_152 C hK
set_option maxRecDepth 100000 in
theorem v_X11_endAt_129 {p : Program} {l : Launch} {e : Env} {s : State} {m : MethodId} {args : Array Value} {below : List Frame} {meth : Method} {c : Code} {D : va_G} {A : Nat → Prop} {post : Option Value → q_S → Prop} {K : Nat → q_K} (C : q_C p s m args meth c cX11_endAt 8 RX11 "endAt" (some .int) A) (hK : ∀ h ∈ ([45] : List Nat), q_V p l e rm_X11_endAt s m args below meth c D A 8 (MQ below (q_Qc D A post) args s rm_X11_endAt.cells rm_X11_endAt.slots A) h (K h)) : q_V p l e rm_X11_endAt s m args below meth c D A 8 (MQ below (q_Qc D A post) args s rm_X11_endAt.cells rm_X11_endAt.slots A) 129 (k_X11_endAt_129 post K) := by
  unfold k_X11_endAt_129
  refine q_iconst C (by decide +kernel : decode cX11_endAt 129 = .ok (.iconst 1, 1)) (by decide) ?_
  refine q_goto C (tgt := 134) (by decide +kernel : decode cX11_endAt 130 = .ok (.goto 4, 3)) (by decide) ?_
  exact v_X11_endAt_134 C hK
set_option maxRecDepth 100000 in
theorem v_X11_endAt_133 {p : Program} {l : Launch} {e : Env} {s : State} {m : MethodId} {args : Array Value} {below : List Frame} {meth : Method} {c : Code} {D : va_G} {A : Nat → Prop} {post : Option Value → q_S → Prop} {K : Nat → q_K} (C : q_C p s m args meth c cX11_endAt 8 RX11 "endAt" (some .int) A) (hK : ∀ h ∈ ([45] : List Nat), q_V p l e rm_X11_endAt s m args below meth c D A 8 (MQ below (q_Qc D A post) args s rm_X11_endAt.cells rm_X11_endAt.slots A) h (K h)) : q_V p l e rm_X11_endAt s m args below meth c D A 8 (MQ below (q_Qc D A post) args s rm_X11_endAt.cells rm_X11_endAt.slots A) 133 (k_X11_endAt_133 post K) := by
  unfold k_X11_endAt_133
  refine q_iconst C (by decide +kernel : decode cX11_endAt 133 = .ok (.iconst 0, 1)) (by decide) ?_
  exact v_X11_endAt_134 C hK
set_option maxRecDepth 100000 in
theorem v_X11_endAt_109 {p : Program} {l : Launch} {e : Env} {s : State} {m : MethodId} {args : Array Value} {below : List Frame} {meth : Method} {c : Code} {D : va_G} {A : Nat → Prop} {post : Option Value → q_S → Prop} {K : Nat → q_K} (C : q_C p s m args meth c cX11_endAt 8 RX11 "endAt" (some .int) A) (hK : ∀ h ∈ ([45] : List Nat), q_V p l e rm_X11_endAt s m args below meth c D A 8 (MQ below (q_Qc D A post) args s rm_X11_endAt.cells rm_X11_endAt.slots A) h (K h)) : q_V p l e rm_X11_endAt s m args below meth c D A 8 (MQ below (q_Qc D A post) args s rm_X11_endAt.cells rm_X11_endAt.slots A) 109 (k_X11_endAt_109 post K) := by
  unfold k_X11_endAt_109
  refine q_aload_n C (by decide +kernel : decode cX11_endAt 109 = .ok (.aload_n 0, 1)) ?_
  refine q_aload_n C (by decide +kernel : decode cX11_endAt 110 = .ok (.aload_n 0, 1)) ?_
  refine q_get C (ci := 11) (j := 33) (C0 := RX11) (T := TX11) (N := 35) rfl iX11 giX11 (by decide) w9_43 (by decide +kernel : decode cX11_endAt 111 = .ok (.getfield 136, 3)) ?_
  refine q_ifne C (tgt := 129) (by decide +kernel : decode cX11_endAt 114 = .ok (.ifCond .ne 15, 3)) (by decide) ?_ ?_
  · exact v_X11_endAt_129 C hK
  · refine q_iload C (by decide +kernel : decode cX11_endAt 117 = .ok (.iload 5, 2)) ?_
    refine q_iload_n C (by decide +kernel : decode cX11_endAt 119 = .ok (.iload_n 3, 1)) ?_
    refine q_icge C (tgt := 133) (by decide +kernel : decode cX11_endAt 120 = .ok (.if_icmp .ge 13, 3)) (by decide) ?_ ?_
    · exact v_X11_endAt_133 C hK
    · refine q_iload_n C (by decide +kernel : decode cX11_endAt 123 = .ok (.iload_n 3, 1)) ?_
      refine q_iload C (by decide +kernel : decode cX11_endAt 124 = .ok (.iload 7, 2)) ?_
      refine q_icge C (tgt := 133) (by decide +kernel : decode cX11_endAt 126 = .ok (.if_icmp .ge 7, 3)) (by decide) ?_ ?_
      · exact v_X11_endAt_133 C hK
      · exact v_X11_endAt_129 C hK
set_option maxRecDepth 100000 in
theorem v_X11_endAt_45 {p : Program} {l : Launch} {e : Env} {s : State} {m : MethodId} {args : Array Value} {below : List Frame} {meth : Method} {c : Code} {D : va_G} {A : Nat → Prop} {post : Option Value → q_S → Prop} {K : Nat → q_K} (C : q_C p s m args meth c cX11_endAt 8 RX11 "endAt" (some .int) A) (hK : ∀ h ∈ ([45] : List Nat), q_V p l e rm_X11_endAt s m args below meth c D A 8 (MQ below (q_Qc D A post) args s rm_X11_endAt.cells rm_X11_endAt.slots A) h (K h)) : q_V p l e rm_X11_endAt s m args below meth c D A 8 (MQ below (q_Qc D A post) args s rm_X11_endAt.cells rm_X11_endAt.slots A) 45 (k_X11_endAt_45 post K) := by
  unfold k_X11_endAt_45
  refine q_iload C (by decide +kernel : decode cX11_endAt 45 = .ok (.iload 6, 2)) ?_
  refine q_aload_n C (by decide +kernel : decode cX11_endAt 47 = .ok (.aload_n 0, 1)) ?_
  refine q_get C (ci := 11) (j := 5) (C0 := RX11) (T := TX11) (N := 35) rfl iX11 giX11 (by decide) w9_22 (by decide +kernel : decode cX11_endAt 48 = .ok (.getfield 122, 3)) ?_
  refine q_icge C (tgt := 158) (by decide +kernel : decode cX11_endAt 51 = .ok (.if_icmp .ge 107, 3)) (by decide) ?_ ?_
  · refine q_iload C (by decide +kernel : decode cX11_endAt 158 = .ok (.iload 5, 2)) ?_
    exact q_iret C rfl (by decide +kernel : decode cX11_endAt 160 = .ok (.ireturn, 1))
  · refine q_aload_n C (by decide +kernel : decode cX11_endAt 54 = .ok (.aload_n 0, 1)) ?_
    refine q_get C (ci := 11) (j := 6) (C0 := RX11) (T := TX11) (N := 35) rfl iX11 giX11 (by decide) w9_23 (by decide +kernel : decode cX11_endAt 55 = .ok (.getfield 19, 3)) ?_
    refine q_iload C (by decide +kernel : decode cX11_endAt 58 = .ok (.iload 6, 2)) ?_
    refine q_iald C (by decide +kernel : decode cX11_endAt 60 = .ok (.iaload, 1)) ?_
    refine q_istore C (by decide +kernel : decode cX11_endAt 61 = .ok (.istore 7, 2)) ?_
    refine q_iload C (by decide +kernel : decode cX11_endAt 63 = .ok (.iload 7, 2)) ?_
    refine q_aload_n C (by decide +kernel : decode cX11_endAt 65 = .ok (.aload_n 0, 1)) ?_
    refine q_get C (ci := 11) (j := 13) (C0 := RX11) (T := TX11) (N := 35) rfl iX11 giX11 (by decide) w9_29 (by decide +kernel : decode cX11_endAt 66 = .ok (.getfield 37, 3)) ?_
    refine q_iload_n C (by decide +kernel : decode cX11_endAt 69 = .ok (.iload_n 1, 1)) ?_
    refine q_iald C (by decide +kernel : decode cX11_endAt 70 = .ok (.iaload, 1)) ?_
    refine q_icle C (tgt := 152) (by decide +kernel : decode cX11_endAt 71 = .ok (.if_icmp .le 81, 3)) (by decide) ?_ ?_
    · exact v_X11_endAt_152 C hK
    · refine q_iload C (by decide +kernel : decode cX11_endAt 74 = .ok (.iload 7, 2)) ?_
      refine q_iload_n C (by decide +kernel : decode cX11_endAt 76 = .ok (.iload_n 2, 1)) ?_
      refine q_icgt C (tgt := 152) (by decide +kernel : decode cX11_endAt 77 = .ok (.if_icmp .gt 75, 3)) (by decide) ?_ ?_
      · exact v_X11_endAt_152 C hK
      · refine q_aload_n C (by decide +kernel : decode cX11_endAt 80 = .ok (.aload_n 0, 1)) ?_
        refine q_get C (ci := 11) (j := 9) (C0 := RX11) (T := TX11) (N := 35) rfl iX11 giX11 (by decide) w9_26 (by decide +kernel : decode cX11_endAt 81 = .ok (.getfield 28, 3)) ?_
        refine q_iload C (by decide +kernel : decode cX11_endAt 84 = .ok (.iload 6, 2)) ?_
        refine q_iald C (by decide +kernel : decode cX11_endAt 86 = .ok (.iaload, 1)) ?_
        refine q_iconst C (by decide +kernel : decode cX11_endAt 87 = .ok (.iconst 2, 1)) (by decide) ?_
        refine q_iceq C (tgt := 109) (by decide +kernel : decode cX11_endAt 88 = .ok (.if_icmp .eq 21, 3)) (by decide) ?_ ?_
        · exact v_X11_endAt_109 C hK
        · refine q_aload_n C (by decide +kernel : decode cX11_endAt 91 = .ok (.aload_n 0, 1)) ?_
          refine q_get C (ci := 11) (j := 9) (C0 := RX11) (T := TX11) (N := 35) rfl iX11 giX11 (by decide) w9_26 (by decide +kernel : decode cX11_endAt 92 = .ok (.getfield 28, 3)) ?_
          refine q_iload C (by decide +kernel : decode cX11_endAt 95 = .ok (.iload 6, 2)) ?_
          refine q_iald C (by decide +kernel : decode cX11_endAt 97 = .ok (.iaload, 1)) ?_
          refine q_iconst C (by decide +kernel : decode cX11_endAt 98 = .ok (.iconst 1, 1)) (by decide) ?_
          refine q_icne C (tgt := 152) (by decide +kernel : decode cX11_endAt 99 = .ok (.if_icmp .ne 53, 3)) (by decide) ?_ ?_
          · exact v_X11_endAt_152 C hK
          · refine q_iload C (by decide +kernel : decode cX11_endAt 102 = .ok (.iload 5, 2)) ?_
            refine q_iload C (by decide +kernel : decode cX11_endAt 104 = .ok (.iload 7, 2)) ?_
            refine q_iclt C (tgt := 152) (by decide +kernel : decode cX11_endAt 106 = .ok (.if_icmp .lt 46, 3)) (by decide) ?_ ?_
            · exact v_X11_endAt_152 C hK
            · exact v_X11_endAt_109 C hK
theorem u_X11_endAt (l : Launch) {sp : q_Sp} (H : ∀ (av : List Value) (σ : q_S) (post : Option Value → q_S → Prop), sp av σ post → ∃ Inv : Nat → Nat → q_K, (∀ K : Nat → q_K, (∀ (h n : Nat) (L : List (Option Value)) (st : List Value) (σ : q_S) (cr sr : Nat), Inv h n L st σ cr sr → K h L st σ cr sr) → k_X11_endAt_0 post K (q_L0 av 8) [] σ 0 0) ∧ (∀ (K : Nat → q_K) (n : Nat), (∀ (h m : Nat) (L : List (Option Value)) (st : List Value) (σ : q_S) (cr sr : Nat), m < n → Inv h m L st σ cr sr → K h L st σ cr sr) → ∀ (L : List (Option Value)) (st : List Value) (σ : q_S) (cr sr : Nat), Inv 45 n L st σ cr sr → k_X11_endAt_45 post K L st σ cr sr) ∧ av.length ≤ 8 ∧ ∀ v ∈ av, v.category = 1) : q_Ct l yX11_endAt cX11_endAt 8 (some .int) rm_X11_endAt sp := by
  refine q_met (by decide) ?_
  intro D A p e s m args below meth c σ av post C hsp
  obtain ⟨Inv, h1, hh45, h2, h3⟩ := H av σ post hsp
  have hV := q_loops (p := p) (l := l) (e := e) (R := rm_X11_endAt) (s := s) (m := m) (args := args) (below := below) (meth := meth) (c := c) (D := D) (A := A) (nL := 8) (Q := MQ below (q_Qc D A post) args s rm_X11_endAt.cells rm_X11_endAt.slots A) [45] (fun h =>  k_X11_endAt_45 post) (fun K hK h hh => ?_) Inv (fun n h hh => ?_)
  · exact ⟨_, v_X11_endAt_0 C hV, h1 _ (fun h n L st σ cr sr hi => ⟨n, hi⟩), h2, h3⟩
  · have e9 : h = 45 := by simpa using hh
    subst e9
    exact v_X11_endAt_45 C hK
  · have e9 : h = 45 := by simpa using hh
    subst e9
    exact hh45 (fun h L st σ cr sr => ∃ m : Nat, m < n ∧ Inv h m L st σ cr sr) n (fun h m L st σ cr sr hm hi => ⟨m, hm, hi⟩)
theorem t_X11_endAt (l : Launch) : q_Ct l yX11_endAt cX11_endAt 8 (some .int) rm_X11_endAt s_X11_endAt := u_X11_endAt l (by
  intro av σ post h
  unfold s_X11_endAt at h
  split at h
  · next mr w k t =>
    obtain ⟨ad, z, g, gp, r, hm, hw, hI, hau, h1⟩ := h
    have ez := nI_self hI.1
    generalize hna : (z 5).toNatClampNeg = na at h1 ez
    have hna6 : na ≤ 6 := hna ▸ clamp_le 6 hI.1 hI.2
    generalize hwn : w.toNatClampNeg = wn at h1 hau
    refine ⟨fun _ n L st σ' cr sr => ∃ (i : Nat) (d0 f0 : Option Value), i ≤ na ∧ n = na - i ∧ mOKx σ' mr ad z g (endF g wn k t na i).2 r ∧ st = [] ∧ L = [some (.ref mr), some (.int w), some (.int k), some (.int t), f0, some (.int (endF g wn k t na i).1), some (.int (nI i)), d0], ?_, ?_, by simp, by simp [Value.category]⟩
    · intro K hK
      have J35 : ∀ f0 : Option Value, k_X11_endAt_35 post K [some (.ref mr), some (.int w), some (.int k), some (.int t), f0, none, none, none] [.int (firstF g wn k na)] σ 0 0 := fun f0 => by
        have hm1 := hm.p33 0
        simp only [c_push, c_null, c_iload, c_aload, c_istore, c_astore, c_iinc, c_iadd, c_isub, c_imul, c_iand, c_ineg, c_dup, c_dup2, c_pop, c_ifnull, c_ifnonnull, c_get, c_put, c_iald, c_zald, c_iast, c_zast, c_aald, c_aast, c_alen, c_new, c_newa, c_newq, c_mna, c_oinit, c_max, c_copy, c_iret, c_zret, c_aret, c_vret, q_do, q_rc, c_ifeq, c_ifne, c_iflt, c_ifge, c_ifgt, c_ifle, c_iceq, c_icne, c_iclt, c_icge, c_icgt, c_icle, c_call0, c_call1, c_call2, c_call3, c_call4, c_call5, c_call6, c_call7, q_L0, List.map_cons, List.map_nil, List.replicate, List.cons_append, List.nil_append, List.append_nil, List.length_cons, List.length_nil, List.length_set, Nat.reduceSub, Nat.reduceAdd, Nat.reduceLT, Nat.reduceLeDiff, Nat.zero_add, Nat.add_zero, Nat.sub_zero, Nat.sub_self, List.getElem?_cons_zero, List.getElem?_cons_succ, List.set_cons_zero, List.set_cons_succ, Option.toList_some, Option.toList_none, List.sum_cons, List.sum_nil, true_and, and_true, true_or, or_true, Nat.le_refl, Nat.zero_le, Value.category, Fin.isValue, Fin.val_zero, Fin.val_one, Fin.val_two, Fin.reduceFinMk, q_10, q_01, not_false_eq_true, not_true_eq_false, forall_const, true_implies, false_implies, implies_true, q_ni, q_fi, q_nb0, q_nb1, q_fb0, q_fb1, q_nor, q_nar, q_for, q_far, q_non, q_nan, q_fon, q_fan, imp_false, false_and, and_false, and_self, false_or, or_false, va_rf, refKind, k_X11_endAt_35, hm.rd]
        exact hK 45 na _ _ _ _ _ ⟨0, none, f0, Nat.zero_le _, rfl, hm1, rfl, rfl⟩
      simp only [c_push, c_null, c_iload, c_aload, c_istore, c_astore, c_iinc, c_iadd, c_isub, c_imul, c_iand, c_ineg, c_dup, c_dup2, c_pop, c_ifnull, c_ifnonnull, c_get, c_put, c_iald, c_zald, c_iast, c_zast, c_aald, c_aast, c_alen, c_new, c_newa, c_newq, c_mna, c_oinit, c_max, c_copy, c_iret, c_zret, c_aret, c_vret, q_do, q_rc, c_ifeq, c_ifne, c_iflt, c_ifge, c_ifgt, c_ifle, c_iceq, c_icne, c_iclt, c_icge, c_icgt, c_icle, c_call0, c_call1, c_call2, c_call3, c_call4, c_call5, c_call6, c_call7, q_L0, List.map_cons, List.map_nil, List.replicate, List.cons_append, List.nil_append, List.append_nil, List.length_cons, List.length_nil, List.length_set, Nat.reduceSub, Nat.reduceAdd, Nat.reduceLT, Nat.reduceLeDiff, Nat.zero_add, Nat.add_zero, Nat.sub_zero, Nat.sub_self, List.getElem?_cons_zero, List.getElem?_cons_succ, List.set_cons_zero, List.set_cons_succ, Option.toList_some, Option.toList_none, List.sum_cons, List.sum_nil, true_and, and_true, true_or, or_true, Nat.le_refl, Nat.zero_le, Value.category, Fin.isValue, Fin.val_zero, Fin.val_one, Fin.val_two, Fin.reduceFinMk, q_10, q_01, not_false_eq_true, not_true_eq_false, forall_const, true_implies, false_implies, implies_true, q_ni, q_fi, q_nb0, q_nb1, q_fb0, q_fb1, q_nor, q_nar, q_for, q_far, q_non, q_nan, q_fon, q_fan, imp_false, false_and, and_false, and_self, false_or, or_false, va_rf, refKind, k_X11_endAt_0, hm.rd, vpi20, hw]
      refine ⟨ad, z, g, gp, r, hm, hI, ?_⟩
      rw [hna, hwn]
      simp only [c_push, c_null, c_iload, c_aload, c_istore, c_astore, c_iinc, c_iadd, c_isub, c_imul, c_iand, c_ineg, c_dup, c_dup2, c_pop, c_ifnull, c_ifnonnull, c_get, c_put, c_iald, c_zald, c_iast, c_zast, c_aald, c_aast, c_alen, c_new, c_newa, c_newq, c_mna, c_oinit, c_max, c_copy, c_iret, c_zret, c_aret, c_vret, q_do, q_rc, c_ifeq, c_ifne, c_iflt, c_ifge, c_ifgt, c_ifle, c_iceq, c_icne, c_iclt, c_icge, c_icgt, c_icle, c_call0, c_call1, c_call2, c_call3, c_call4, c_call5, c_call6, c_call7, q_L0, List.map_cons, List.map_nil, List.replicate, List.cons_append, List.nil_append, List.append_nil, List.length_cons, List.length_nil, List.length_set, Nat.reduceSub, Nat.reduceAdd, Nat.reduceLT, Nat.reduceLeDiff, Nat.zero_add, Nat.add_zero, Nat.sub_zero, Nat.sub_self, List.getElem?_cons_zero, List.getElem?_cons_succ, List.set_cons_zero, List.set_cons_succ, Option.toList_some, Option.toList_none, List.sum_cons, List.sum_nil, true_and, and_true, true_or, or_true, Nat.le_refl, Nat.zero_le, Value.category, Fin.isValue, Fin.val_zero, Fin.val_one, Fin.val_two, Fin.reduceFinMk, q_10, q_01, not_false_eq_true, not_true_eq_false, forall_const, true_implies, false_implies, implies_true, q_ni, q_fi, q_nb0, q_nb1, q_fb0, q_fb1, q_nor, q_nar, q_for, q_far, q_non, q_nan, q_fon, q_fan, imp_false, false_and, and_false, and_self, false_or, or_false, va_rf, refKind, hm.rd, vpi20, hw, hwn]
      refine ⟨fun c => ?_, fun c => ?_⟩
      · refine ⟨ad, z, g, gp, r, hm, hw, ?_, by rw [hwn]; exact hau, ?_⟩
        · rcases actF_cases g (g 13 wn) na with h | ⟨i, h, e⟩
          · exact absurd h c
          · rw [e]; exact ⟨nI_low (by omega), nI_ltN (N := 6) (by omega)⟩
        · have := J35 (some (.int (actF g (g 13 wn) na)))
          rw [firstF, if_neg c] at this
          rw [hwn]
          simp only [c_push, c_null, c_iload, c_aload, c_istore, c_astore, c_iinc, c_iadd, c_isub, c_imul, c_iand, c_ineg, c_dup, c_dup2, c_pop, c_ifnull, c_ifnonnull, c_get, c_put, c_iald, c_zald, c_iast, c_zast, c_aald, c_aast, c_alen, c_new, c_newa, c_newq, c_mna, c_oinit, c_max, c_copy, c_iret, c_zret, c_aret, c_vret, q_do, q_rc, c_ifeq, c_ifne, c_iflt, c_ifge, c_ifgt, c_ifle, c_iceq, c_icne, c_iclt, c_icge, c_icgt, c_icle, c_call0, c_call1, c_call2, c_call3, c_call4, c_call5, c_call6, c_call7, q_L0, List.map_cons, List.map_nil, List.replicate, List.cons_append, List.nil_append, List.append_nil, List.length_cons, List.length_nil, List.length_set, Nat.reduceSub, Nat.reduceAdd, Nat.reduceLT, Nat.reduceLeDiff, Nat.zero_add, Nat.add_zero, Nat.sub_zero, Nat.sub_self, List.getElem?_cons_zero, List.getElem?_cons_succ, List.set_cons_zero, List.set_cons_succ, Option.toList_some, Option.toList_none, List.sum_cons, List.sum_nil, true_and, and_true, true_or, or_true, Nat.le_refl, Nat.zero_le, Value.category, Fin.isValue, Fin.val_zero, Fin.val_one, Fin.val_two, Fin.reduceFinMk, q_10, q_01, not_false_eq_true, not_true_eq_false, forall_const, true_implies, false_implies, implies_true, q_ni, q_fi, q_nb0, q_nb1, q_fb0, q_fb1, q_nor, q_nar, q_for, q_far, q_non, q_nan, q_fon, q_fan, imp_false, false_and, and_false, and_self, false_or, or_false, va_rf, refKind]
          exact this
      · have := J35 (some (.int (actF g (g 13 wn) na)))
        rw [firstF, if_pos c] at this
        exact this
    · rintro K n hK L st σ' cr sr ⟨i, d0, f0, hi, rfl, hm, rfl, rfl⟩
      have J152 : i < na → ∀ σ2 d1, mOKx σ2 mr ad z g (endF g wn k t na (i + 1)).2 r → k_X11_endAt_152 post K [some (.ref mr), some (.int w), some (.int k), some (.int t), f0, some (.int (endF g wn k t na (i + 1)).1), some (.int (nI i)), d1] [] σ2 cr sr := fun hlt σ2 d1 hm2 => by
        simp only [c_push, c_null, c_iload, c_aload, c_istore, c_astore, c_iinc, c_iadd, c_isub, c_imul, c_iand, c_ineg, c_dup, c_dup2, c_pop, c_ifnull, c_ifnonnull, c_get, c_put, c_iald, c_zald, c_iast, c_zast, c_aald, c_aast, c_alen, c_new, c_newa, c_newq, c_mna, c_oinit, c_max, c_copy, c_iret, c_zret, c_aret, c_vret, q_do, q_rc, c_ifeq, c_ifne, c_iflt, c_ifge, c_ifgt, c_ifle, c_iceq, c_icne, c_iclt, c_icge, c_icgt, c_icle, c_call0, c_call1, c_call2, c_call3, c_call4, c_call5, c_call6, c_call7, q_L0, List.map_cons, List.map_nil, List.replicate, List.cons_append, List.nil_append, List.append_nil, List.length_cons, List.length_nil, List.length_set, Nat.reduceSub, Nat.reduceAdd, Nat.reduceLT, Nat.reduceLeDiff, Nat.zero_add, Nat.add_zero, Nat.sub_zero, Nat.sub_self, List.getElem?_cons_zero, List.getElem?_cons_succ, List.set_cons_zero, List.set_cons_succ, Option.toList_some, Option.toList_none, List.sum_cons, List.sum_nil, true_and, and_true, true_or, or_true, Nat.le_refl, Nat.zero_le, Value.category, Fin.isValue, Fin.val_zero, Fin.val_one, Fin.val_two, Fin.reduceFinMk, q_10, q_01, not_false_eq_true, not_true_eq_false, forall_const, true_implies, false_implies, implies_true, q_ni, q_fi, q_nb0, q_nb1, q_fb0, q_fb1, q_nor, q_nar, q_for, q_far, q_non, q_nan, q_fon, q_fan, imp_false, false_and, and_false, and_self, false_or, or_false, va_rf, refKind, k_X11_endAt_152]
        exact hK 45 (na - (i + 1)) _ _ _ _ _ (by omega) ⟨i + 1, d1, f0, by omega, rfl, hm2, rfl, by rw [nI_1]⟩
      have hgap := endF_gap g wn k t na i
      have J134 : i < na → (g 13 wn < g 6 i ∧ g 6 i ≤ k ∧ (g 9 i = 2 ∨ g 9 i = 1 ∧ g 6 i ≤ (endF g wn k t na i).1)) → ∀ b : Int32, b = (if (endF g wn k t na i).2 ≠ 0 ∨ (endF g wn k t na i).1 < t ∧ t < g 6 i then 1 else 0) → k_X11_endAt_134 post K [some (.ref mr), some (.int w), some (.int k), some (.int t), f0, some (.int (endF g wn k t na i).1), some (.int (nI i)), some (.int (g 6 i))] [.int b, .ref mr] σ' cr sr := fun hlt hc b hb => by
        have hm1 := hm.p33 b
        have hb01 : b = 0 ∨ b = 1 := by rw [hb]; split <;> simp
        have hnar : narrow .boolean (.int b) = .int b ∧ fits .boolean (.int b) = true := by rcases hb01 with rfl | rfl <;> decide
        have J := J152 hlt (q_fset σ' mr 33 (.int b)) (some (.int (g 6 i)))
        rw [endF, if_pos hc] at J
        dsimp only at J
        rw [← hb] at J
        simp only [c_push, c_null, c_iload, c_aload, c_istore, c_astore, c_iinc, c_iadd, c_isub, c_imul, c_iand, c_ineg, c_dup, c_dup2, c_pop, c_ifnull, c_ifnonnull, c_get, c_put, c_iald, c_zald, c_iast, c_zast, c_aald, c_aast, c_alen, c_new, c_newa, c_newq, c_mna, c_oinit, c_max, c_copy, c_iret, c_zret, c_aret, c_vret, q_do, q_rc, c_ifeq, c_ifne, c_iflt, c_ifge, c_ifgt, c_ifle, c_iceq, c_icne, c_iclt, c_icge, c_icgt, c_icle, c_call0, c_call1, c_call2, c_call3, c_call4, c_call5, c_call6, c_call7, q_L0, List.map_cons, List.map_nil, List.replicate, List.cons_append, List.nil_append, List.append_nil, List.length_cons, List.length_nil, List.length_set, Nat.reduceSub, Nat.reduceAdd, Nat.reduceLT, Nat.reduceLeDiff, Nat.zero_add, Nat.add_zero, Nat.sub_zero, Nat.sub_self, List.getElem?_cons_zero, List.getElem?_cons_succ, List.set_cons_zero, List.set_cons_succ, Option.toList_some, Option.toList_none, List.sum_cons, List.sum_nil, true_and, and_true, true_or, or_true, Nat.le_refl, Nat.zero_le, Value.category, Fin.isValue, Fin.val_zero, Fin.val_one, Fin.val_two, Fin.reduceFinMk, q_10, q_01, not_false_eq_true, not_true_eq_false, forall_const, true_implies, false_implies, implies_true, q_ni, q_fi, q_nb0, q_nb1, q_fb0, q_fb1, q_nor, q_nar, q_for, q_far, q_non, q_nan, q_fon, q_fan, imp_false, false_and, and_false, and_self, false_or, or_false, va_rf, refKind, k_X11_endAt_134, hm.rd, hm1.rd, hnar]
        refine ⟨ad, z, g, b, r, hm1, hw, ⟨nI_low (by omega), nI_ltN (N := 6) (by omega)⟩, by rw [hwn]; exact hau, ?_⟩
        rw [hwn, clN (by omega)]
        simp only [c_push, c_null, c_iload, c_aload, c_istore, c_astore, c_iinc, c_iadd, c_isub, c_imul, c_iand, c_ineg, c_dup, c_dup2, c_pop, c_ifnull, c_ifnonnull, c_get, c_put, c_iald, c_zald, c_iast, c_zast, c_aald, c_aast, c_alen, c_new, c_newa, c_newq, c_mna, c_oinit, c_max, c_copy, c_iret, c_zret, c_aret, c_vret, q_do, q_rc, c_ifeq, c_ifne, c_iflt, c_ifge, c_ifgt, c_ifle, c_iceq, c_icne, c_iclt, c_icge, c_icgt, c_icle, c_call0, c_call1, c_call2, c_call3, c_call4, c_call5, c_call6, c_call7, q_L0, List.map_cons, List.map_nil, List.replicate, List.cons_append, List.nil_append, List.append_nil, List.length_cons, List.length_nil, List.length_set, Nat.reduceSub, Nat.reduceAdd, Nat.reduceLT, Nat.reduceLeDiff, Nat.zero_add, Nat.add_zero, Nat.sub_zero, Nat.sub_self, List.getElem?_cons_zero, List.getElem?_cons_succ, List.set_cons_zero, List.set_cons_succ, Option.toList_some, Option.toList_none, List.sum_cons, List.sum_nil, true_and, and_true, true_or, or_true, Nat.le_refl, Nat.zero_le, Value.category, Fin.isValue, Fin.val_zero, Fin.val_one, Fin.val_two, Fin.reduceFinMk, q_10, q_01, not_false_eq_true, not_true_eq_false, forall_const, true_implies, false_implies, implies_true, q_ni, q_fi, q_nb0, q_nb1, q_fb0, q_fb1, q_nor, q_nar, q_for, q_far, q_non, q_nan, q_fon, q_fan, imp_false, false_and, and_false, and_self, false_or, or_false, va_rf, refKind, s_X11_greater]
        refine ⟨fun c => ?_, fun c => ?_⟩
        · have := J hm1
          rw [mxF, if_pos c] at this
          exact this
        · have := J hm1
          rw [mxF, if_neg c] at this
          exact this
      simp only [c_push, c_null, c_iload, c_aload, c_istore, c_astore, c_iinc, c_iadd, c_isub, c_imul, c_iand, c_ineg, c_dup, c_dup2, c_pop, c_ifnull, c_ifnonnull, c_get, c_put, c_iald, c_zald, c_iast, c_zast, c_aald, c_aast, c_alen, c_new, c_newa, c_newq, c_mna, c_oinit, c_max, c_copy, c_iret, c_zret, c_aret, c_vret, q_do, q_rc, c_ifeq, c_ifne, c_iflt, c_ifge, c_ifgt, c_ifle, c_iceq, c_icne, c_iclt, c_icge, c_icgt, c_icle, c_call0, c_call1, c_call2, c_call3, c_call4, c_call5, c_call6, c_call7, q_L0, List.map_cons, List.map_nil, List.replicate, List.cons_append, List.nil_append, List.append_nil, List.length_cons, List.length_nil, List.length_set, Nat.reduceSub, Nat.reduceAdd, Nat.reduceLT, Nat.reduceLeDiff, Nat.zero_add, Nat.add_zero, Nat.sub_zero, Nat.sub_self, List.getElem?_cons_zero, List.getElem?_cons_succ, List.set_cons_zero, List.set_cons_succ, Option.toList_some, Option.toList_none, List.sum_cons, List.sum_nil, true_and, and_true, true_or, or_true, Nat.le_refl, Nat.zero_le, Value.category, Fin.isValue, Fin.val_zero, Fin.val_one, Fin.val_two, Fin.reduceFinMk, q_10, q_01, not_false_eq_true, not_true_eq_false, forall_const, true_implies, false_implies, implies_true, q_ni, q_fi, q_nb0, q_nb1, q_fb0, q_fb1, q_nor, q_nar, q_for, q_far, q_non, q_nan, q_fon, q_fan, imp_false, false_and, and_false, and_self, false_or, or_false, va_rf, refKind, k_X11_endAt_45, k_X11_endAt_109, k_X11_endAt_129, k_X11_endAt_133, hm.rd, vpi6, vpi20, hw, hwn]
      rw [← ez]
      have E := cl2 (nI na) (nI i) na i rfl rfl (by omega) (by omega)
      rw [E.1, clN (by omega)]
      refine ⟨fun c => ?_, fun c => ?_⟩
      · have e : i = na := by omega
        subst e; exact h1 _ hm
      · have hlt : i < na := by omega
        have J152' : ¬ (g 13 wn < g 6 i ∧ g 6 i ≤ k ∧ (g 9 i = 2 ∨ g 9 i = 1 ∧ g 6 i ≤ (endF g wn k t na i).1)) → ∀ d1, k_X11_endAt_152 post K [some (.ref mr), some (.int w), some (.int k), some (.int t), f0, some (.int (endF g wn k t na i).1), some (.int (nI i)), d1] [] σ' cr sr := fun hc d1 => by
          have := J152 hlt σ' d1
          rw [endF, if_neg hc] at this
          exact this hm
        replace J134 := J134 hlt
        have hlo : 0 ≤ nI i := nI_low (by omega)
        have hhi : nI i < 6 := nI_ltN (N := 6) (by omega)
        clear hK J152 h1 hm E
        grind (splits := 40)
  · exact h.elim)
end
section
theorem inR {x : Int32} (N : Nat) (h0 : 0 ≤ x) (h : x < Int32.ofNat N) (hN : N < 2147483648 := by decide) : ∃ j : Nat, j < N ∧ x = nI j ∧ x.toNatClampNeg = j := ⟨x.toNatClampNeg, clamp_lt N h0 h hN, (nI_self h0).symm, rfl⟩
theorem idx20 (w p q : Nat) : (144 : Int32) * nI w + 12 * nI p + nI q = nI (144 * w + 12 * p + q) := by
  rw [show (144 : Int32) = nI 144 from rfl, show (12 : Int32) = nI 12 from rfl, pk_mul, pk_mul, nI_add, nI_add]
theorem idx21 (w p : Nat) : (12 : Int32) * nI w + nI p = nI (12 * w + p) := by
  rw [show (12 : Int32) = nI 12 from rfl, pk_mul, nI_add]
theorem idx30 (w p : Nat) : (20 : Int32) * nI w + nI p = nI (20 * w + p) := by
  rw [show (20 : Int32) = nI 20 from rfl, pk_mul, nI_add]
-- hasRight, end, inRight
def naF (z : Nat → Int32) : Nat := (z 5).toNatClampNeg
def EF (z : Nat → Int32) (g : Nat → Nat → Int32) (w : Nat) (k t : Int32) : Int32 × Int32 := endF g w k t (naF z) (naF z)
abbrev HR (z : Nat → Int32) (g : Nat → Nat → Int32) (w : Nat) (t k : Int32) : Prop := g 13 w ≤ t ∧ t ≤ (EF z g w k t).1 ∧ (EF z g w k t).2 = 0
def s_X11_hasRight : q_Sp := fun av σ post => match av with
  | [.ref mr, .int w, .int t, .int k] => ∃ ad z g gp r, mOKx σ mr ad z g gp r ∧ (0 ≤ w ∧ w < 20) ∧ (0 ≤ z 5 ∧ z 5 ≤ 6) ∧ (0 ≤ g 12 w.toNatClampNeg ∧ g 12 w.toNatClampNeg < 12) ∧ ∀ σ' gp', mOKx σ' mr ad z g gp' r → (HR z g w.toNatClampNeg t k → post (some (.int 1)) σ') ∧ (¬ HR z g w.toNatClampNeg t k → post (some (.int 0)) σ')
  | _ => False
theorem w9_44 : (.code yX11_endAt cX11_endAt 8 (some .int) : Cond) ∈ lw_tbl := by decide +kernel
theorem w9_45 : (.methodLink RX11 143 yX11_endAt : Cond) ∈ lw_tbl := by decide +kernel
theorem w9_46 : (.instanceMethod yX11_endAt : Cond) ∈ lw_tbl := by decide +kernel
theorem w9_47 : (.selects RX11 yX11_endAt yX11_endAt : Cond) ∈ lw_tbl := by decide +kernel
def rm_X11_hasRight : Room := { frames := 3, cells := 0, slots := 0, locals := 74 }
def k_X11_hasRight_33 (post : Option Value → q_S → Prop) (K : Nat → q_K) : q_K := (c_zret post)
def k_X11_hasRight_32 (post : Option Value → q_S → Prop) (K : Nat → q_K) : q_K := (c_push 0 (k_X11_hasRight_33 post K))
def k_X11_hasRight_0 (post : Option Value → q_S → Prop) (K : Nat → q_K) : q_K := (c_iload 2 (c_aload 0 (c_get 11 13 (c_iload 1 (c_iald (c_iclt (k_X11_hasRight_32 post K) (c_aload 0 (c_iload 1 (c_iload 3 (c_iload 2 (c_call4 (some 11) s_X11_endAt 0 0 (c_iload 2 (c_iclt (k_X11_hasRight_32 post K) (c_aload 0 (c_get 11 33 (c_ifne (k_X11_hasRight_32 post K) (c_push 1 (k_X11_hasRight_33 post K))))))))))))))))))
set_option maxRecDepth 100000 in
theorem v_X11_hasRight_33 {p : Program} {l : Launch} {e : Env} {s : State} {m : MethodId} {args : Array Value} {below : List Frame} {meth : Method} {c : Code} {D : va_G} {A : Nat → Prop} {post : Option Value → q_S → Prop} {K : Nat → q_K} (C : q_C p s m args meth c cX11_hasRight 4 RX11 "hasRight" (some .boolean) A) (hK : ∀ h ∈ ([] : List Nat), q_V p l e rm_X11_hasRight s m args below meth c D A 4 (MQ below (q_Qc D A post) args s rm_X11_hasRight.cells rm_X11_hasRight.slots A) h (K h)) : q_V p l e rm_X11_hasRight s m args below meth c D A 4 (MQ below (q_Qc D A post) args s rm_X11_hasRight.cells rm_X11_hasRight.slots A) 33 (k_X11_hasRight_33 post K) := by
  unfold k_X11_hasRight_33
  exact q_zret C rfl (by decide +kernel : decode cX11_hasRight 33 = .ok (.ireturn, 1))
set_option maxRecDepth 100000 in
theorem v_X11_hasRight_32 {p : Program} {l : Launch} {e : Env} {s : State} {m : MethodId} {args : Array Value} {below : List Frame} {meth : Method} {c : Code} {D : va_G} {A : Nat → Prop} {post : Option Value → q_S → Prop} {K : Nat → q_K} (C : q_C p s m args meth c cX11_hasRight 4 RX11 "hasRight" (some .boolean) A) (hK : ∀ h ∈ ([] : List Nat), q_V p l e rm_X11_hasRight s m args below meth c D A 4 (MQ below (q_Qc D A post) args s rm_X11_hasRight.cells rm_X11_hasRight.slots A) h (K h)) : q_V p l e rm_X11_hasRight s m args below meth c D A 4 (MQ below (q_Qc D A post) args s rm_X11_hasRight.cells rm_X11_hasRight.slots A) 32 (k_X11_hasRight_32 post K) := by
  unfold k_X11_hasRight_32
  refine q_iconst C (by decide +kernel : decode cX11_hasRight 32 = .ok (.iconst 0, 1)) (by decide) ?_
  exact v_X11_hasRight_33 C hK
set_option maxRecDepth 100000 in
theorem v_X11_hasRight_0 {p : Program} {l : Launch} {e : Env} {s : State} {m : MethodId} {args : Array Value} {below : List Frame} {meth : Method} {c : Code} {D : va_G} {A : Nat → Prop} {post : Option Value → q_S → Prop} {K : Nat → q_K} (C : q_C p s m args meth c cX11_hasRight 4 RX11 "hasRight" (some .boolean) A) (hK : ∀ h ∈ ([] : List Nat), q_V p l e rm_X11_hasRight s m args below meth c D A 4 (MQ below (q_Qc D A post) args s rm_X11_hasRight.cells rm_X11_hasRight.slots A) h (K h)) : q_V p l e rm_X11_hasRight s m args below meth c D A 4 (MQ below (q_Qc D A post) args s rm_X11_hasRight.cells rm_X11_hasRight.slots A) 0 (k_X11_hasRight_0 post K) := by
  unfold k_X11_hasRight_0
  refine q_iload_n C (by decide +kernel : decode cX11_hasRight 0 = .ok (.iload_n 2, 1)) ?_
  refine q_aload_n C (by decide +kernel : decode cX11_hasRight 1 = .ok (.aload_n 0, 1)) ?_
  refine q_get C (ci := 11) (j := 13) (C0 := RX11) (T := TX11) (N := 35) rfl iX11 giX11 (by decide) w9_29 (by decide +kernel : decode cX11_hasRight 2 = .ok (.getfield 37, 3)) ?_
  refine q_iload_n C (by decide +kernel : decode cX11_hasRight 5 = .ok (.iload_n 1, 1)) ?_
  refine q_iald C (by decide +kernel : decode cX11_hasRight 6 = .ok (.iaload, 1)) ?_
  refine q_iclt C (tgt := 32) (by decide +kernel : decode cX11_hasRight 7 = .ok (.if_icmp .lt 25, 3)) (by decide) ?_ ?_
  · exact v_X11_hasRight_32 C hK
  · refine q_aload_n C (by decide +kernel : decode cX11_hasRight 10 = .ok (.aload_n 0, 1)) ?_
    refine q_iload_n C (by decide +kernel : decode cX11_hasRight 11 = .ok (.iload_n 1, 1)) ?_
    refine q_iload_n C (by decide +kernel : decode cX11_hasRight 12 = .ok (.iload_n 3, 1)) ?_
    refine q_iload_n C (by decide +kernel : decode cX11_hasRight 13 = .ok (.iload_n 2, 1)) ?_
    refine q_call4 C (q_coV C (np := 3) (ci := 11) (rc := (RX11, TX11, 35)) (t_X11_endAt l) w9_44 rfl rfl w9_45 w9_46 w9_47 w9_6 (by decide +kernel) (by decide +kernel : decode cX11_hasRight 14 = .ok (.invokevirtual 143, 3)) (by decide)) ?_
    refine q_iload_n C (by decide +kernel : decode cX11_hasRight 17 = .ok (.iload_n 2, 1)) ?_
    refine q_iclt C (tgt := 32) (by decide +kernel : decode cX11_hasRight 18 = .ok (.if_icmp .lt 14, 3)) (by decide) ?_ ?_
    · exact v_X11_hasRight_32 C hK
    · refine q_aload_n C (by decide +kernel : decode cX11_hasRight 21 = .ok (.aload_n 0, 1)) ?_
      refine q_get C (ci := 11) (j := 33) (C0 := RX11) (T := TX11) (N := 35) rfl iX11 giX11 (by decide) w9_43 (by decide +kernel : decode cX11_hasRight 22 = .ok (.getfield 136, 3)) ?_
      refine q_ifne C (tgt := 32) (by decide +kernel : decode cX11_hasRight 25 = .ok (.ifCond .ne 7, 3)) (by decide) ?_ ?_
      · exact v_X11_hasRight_32 C hK
      · refine q_iconst C (by decide +kernel : decode cX11_hasRight 28 = .ok (.iconst 1, 1)) (by decide) ?_
        refine q_goto C (tgt := 33) (by decide +kernel : decode cX11_hasRight 29 = .ok (.goto 4, 3)) (by decide) ?_
        exact v_X11_hasRight_33 C hK
theorem u_X11_hasRight (l : Launch) {sp : q_Sp} (H : ∀ (av : List Value) (σ : q_S) (post : Option Value → q_S → Prop), sp av σ post → k_X11_hasRight_0 post (fun _ _ _ _ _ _ => False) (q_L0 av 4) [] σ 0 0 ∧ av.length ≤ 4 ∧ ∀ v ∈ av, v.category = 1) : q_Ct l yX11_hasRight cX11_hasRight 4 (some .boolean) rm_X11_hasRight sp := by
  refine q_met (by decide) ?_
  intro D A p e s m args below meth c σ av post C hsp
  obtain ⟨h1, h2, h3⟩ := H av σ post hsp
  exact ⟨_, v_X11_hasRight_0 (K := fun _ _ _ _ _ _ => False) C (fun h hh => by cases hh), h1, h2, h3⟩
theorem t_X11_hasRight (l : Launch) : q_Ct l yX11_hasRight cX11_hasRight 4 (some .boolean) rm_X11_hasRight s_X11_hasRight := u_X11_hasRight l (by
  intro av σ post h
  unfold s_X11_hasRight at h
  split at h
  · next mr w t k =>
    refine ⟨?_, by simp, by simp [Value.category]⟩
    obtain ⟨ad, z, g, gp, r, hm, hw, hI, hau, h1⟩ := h
    simp only [c_push, c_null, c_iload, c_aload, c_istore, c_astore, c_iinc, c_iadd, c_isub, c_imul, c_iand, c_ineg, c_dup, c_dup2, c_pop, c_ifnull, c_ifnonnull, c_get, c_put, c_iald, c_zald, c_iast, c_zast, c_aald, c_aast, c_alen, c_new, c_newa, c_newq, c_mna, c_oinit, c_max, c_copy, c_iret, c_zret, c_aret, c_vret, q_do, q_rc, c_ifeq, c_ifne, c_iflt, c_ifge, c_ifgt, c_ifle, c_iceq, c_icne, c_iclt, c_icge, c_icgt, c_icle, c_call0, c_call1, c_call2, c_call3, c_call4, c_call5, c_call6, c_call7, q_L0, List.map_cons, List.map_nil, List.replicate, List.cons_append, List.nil_append, List.append_nil, List.length_cons, List.length_nil, List.length_set, Nat.reduceSub, Nat.reduceAdd, Nat.reduceLT, Nat.reduceLeDiff, Nat.zero_add, Nat.add_zero, Nat.sub_zero, Nat.sub_self, List.getElem?_cons_zero, List.getElem?_cons_succ, List.set_cons_zero, List.set_cons_succ, Option.toList_some, Option.toList_none, List.sum_cons, List.sum_nil, true_and, and_true, true_or, or_true, Nat.le_refl, Nat.zero_le, Value.category, Fin.isValue, Fin.val_zero, Fin.val_one, Fin.val_two, Fin.reduceFinMk, q_10, q_01, not_false_eq_true, not_true_eq_false, forall_const, true_implies, false_implies, implies_true, q_ni, q_fi, q_nb0, q_nb1, q_fb0, q_fb1, q_nor, q_nar, q_for, q_far, q_non, q_nan, q_fon, q_fan, imp_false, false_and, and_false, and_self, false_or, or_false, va_rf, refKind, k_X11_hasRight_0, k_X11_hasRight_32, k_X11_hasRight_33, hm.rd, vpi20, hw]
    have h0 := h1 σ gp hm
    unfold HR EF naF at h1 h0
    refine ⟨fun c => by grind, fun c => ?_⟩
    refine ⟨ad, z, g, gp, r, hm, hw, hI, hau, fun σ' hm' => ?_⟩
    simp only [c_push, c_null, c_iload, c_aload, c_istore, c_astore, c_iinc, c_iadd, c_isub, c_imul, c_iand, c_ineg, c_dup, c_dup2, c_pop, c_ifnull, c_ifnonnull, c_get, c_put, c_iald, c_zald, c_iast, c_zast, c_aald, c_aast, c_alen, c_new, c_newa, c_newq, c_mna, c_oinit, c_max, c_copy, c_iret, c_zret, c_aret, c_vret, q_do, q_rc, c_ifeq, c_ifne, c_iflt, c_ifge, c_ifgt, c_ifle, c_iceq, c_icne, c_iclt, c_icge, c_icgt, c_icle, c_call0, c_call1, c_call2, c_call3, c_call4, c_call5, c_call6, c_call7, q_L0, List.map_cons, List.map_nil, List.replicate, List.cons_append, List.nil_append, List.append_nil, List.length_cons, List.length_nil, List.length_set, Nat.reduceSub, Nat.reduceAdd, Nat.reduceLT, Nat.reduceLeDiff, Nat.zero_add, Nat.add_zero, Nat.sub_zero, Nat.sub_self, List.getElem?_cons_zero, List.getElem?_cons_succ, List.set_cons_zero, List.set_cons_succ, Option.toList_some, Option.toList_none, List.sum_cons, List.sum_nil, true_and, and_true, true_or, or_true, Nat.le_refl, Nat.zero_le, Value.category, Fin.isValue, Fin.val_zero, Fin.val_one, Fin.val_two, Fin.reduceFinMk, q_10, q_01, not_false_eq_true, not_true_eq_false, forall_const, true_implies, false_implies, implies_true, q_ni, q_fi, q_nb0, q_nb1, q_fb0, q_fb1, q_nor, q_nar, q_for, q_far, q_non, q_nan, q_fon, q_fan, imp_false, false_and, and_false, and_self, false_or, or_false, va_rf, refKind, hm'.rd]
    have h2 := h1 σ' _ hm'
    clear h1 h0
    grind
  · exact h.elim)
def F_end (z : Nat → Int32) (g : Nat → Nat → Int32) (w k : Int32) : Int32 := if (0 ≤ w ∧ w < z 11) ∧ g 13 w.toNatClampNeg ≤ k ∧ k ≤ 3000 then if (EF z g w.toNatClampNeg k 0).1 = 1000000 then -1 else (EF z g w.toNatClampNeg k 0).1 else -2
def AU (z : Nat → Int32) (g : Nat → Nat → Int32) : Prop := ∀ w : Nat, nI w < z 11 → w < 20 → 0 ≤ g 12 w ∧ g 12 w < 12
theorem AU.at {z : Nat → Int32} {g : Nat → Nat → Int32} (h : AU z g) {w : Int32} (h0 : 0 ≤ w) (h1 : w < z 11) (h2 : w < 20) : 0 ≤ g 12 w.toNatClampNeg ∧ g 12 w.toNatClampNeg < 12 := h _ (by rw [nI_self h0]; exact h1) (clamp_lt 20 h0 h2)
def s_X11_end : q_Sp := fun av σ post => match av with
  | [.ref mr, .int w, .int k] => ∃ ad z g, mOK σ mr ad z g ∧ I1 z ∧ AU z g ∧ ∀ σ', mOK σ' mr ad z g → post (some (.int (F_end z g w k))) σ'
  | _ => False
theorem w9_48 : (.code yX11_isWork cX11_isWork 2 (some .boolean) : Cond) ∈ lw_tbl := by decide +kernel
theorem w9_49 : (.methodLink RX11 140 yX11_isWork : Cond) ∈ lw_tbl := by decide +kernel
theorem w9_50 : (.instanceMethod yX11_isWork : Cond) ∈ lw_tbl := by decide +kernel
theorem w9_51 : (.selects RX11 yX11_isWork yX11_isWork : Cond) ∈ lw_tbl := by decide +kernel
def rm_X11_end : Room := { frames := 3, cells := 0, slots := 0, locals := 74 }
def k_X11_end_24 (post : Option Value → q_S → Prop) (K : Nat → q_K) : q_K := (c_push (-2) (c_iret post))
def k_X11_end_46 (post : Option Value → q_S → Prop) (K : Nat → q_K) : q_K := (c_iret post)
def k_X11_end_0 (post : Option Value → q_S → Prop) (K : Nat → q_K) : q_K := (c_aload 0 (c_iload 1 (c_call2 (some 11) s_X11_isWork 0 0 (c_ifeq (k_X11_end_24 post K) (c_iload 2 (c_aload 0 (c_get 11 13 (c_iload 1 (c_iald (c_push 3000 (c_call3 none s_X11_in 0 0 (c_ifne (c_aload 0 (c_iload 1 (c_iload 2 (c_push 0 (c_call4 (some 11) s_X11_endAt 0 0 (c_istore 3 (c_iload 3 (c_push 1000000 (c_icne (c_iload 3 (k_X11_end_46 post K)) (c_push (-1) (k_X11_end_46 post K))))))))))) (k_X11_end_24 post K)))))))))))))
set_option maxRecDepth 100000 in
theorem v_X11_end_24 {p : Program} {l : Launch} {e : Env} {s : State} {m : MethodId} {args : Array Value} {below : List Frame} {meth : Method} {c : Code} {D : va_G} {A : Nat → Prop} {post : Option Value → q_S → Prop} {K : Nat → q_K} (C : q_C p s m args meth c cX11_end 4 RX11 "end" (some .int) A) (hK : ∀ h ∈ ([] : List Nat), q_V p l e rm_X11_end s m args below meth c D A 4 (MQ below (q_Qc D A post) args s rm_X11_end.cells rm_X11_end.slots A) h (K h)) : q_V p l e rm_X11_end s m args below meth c D A 4 (MQ below (q_Qc D A post) args s rm_X11_end.cells rm_X11_end.slots A) 24 (k_X11_end_24 post K) := by
  unfold k_X11_end_24
  refine q_bipush C (by decide +kernel : decode cX11_end 24 = .ok (.bipush (-2), 2)) (by decide) ?_
  exact q_iret C rfl (by decide +kernel : decode cX11_end 26 = .ok (.ireturn, 1))
set_option maxRecDepth 100000 in
theorem v_X11_end_46 {p : Program} {l : Launch} {e : Env} {s : State} {m : MethodId} {args : Array Value} {below : List Frame} {meth : Method} {c : Code} {D : va_G} {A : Nat → Prop} {post : Option Value → q_S → Prop} {K : Nat → q_K} (C : q_C p s m args meth c cX11_end 4 RX11 "end" (some .int) A) (hK : ∀ h ∈ ([] : List Nat), q_V p l e rm_X11_end s m args below meth c D A 4 (MQ below (q_Qc D A post) args s rm_X11_end.cells rm_X11_end.slots A) h (K h)) : q_V p l e rm_X11_end s m args below meth c D A 4 (MQ below (q_Qc D A post) args s rm_X11_end.cells rm_X11_end.slots A) 46 (k_X11_end_46 post K) := by
  unfold k_X11_end_46
  exact q_iret C rfl (by decide +kernel : decode cX11_end 46 = .ok (.ireturn, 1))
set_option maxRecDepth 100000 in
theorem v_X11_end_0 {p : Program} {l : Launch} {e : Env} {s : State} {m : MethodId} {args : Array Value} {below : List Frame} {meth : Method} {c : Code} {D : va_G} {A : Nat → Prop} {post : Option Value → q_S → Prop} {K : Nat → q_K} (C : q_C p s m args meth c cX11_end 4 RX11 "end" (some .int) A) (hK : ∀ h ∈ ([] : List Nat), q_V p l e rm_X11_end s m args below meth c D A 4 (MQ below (q_Qc D A post) args s rm_X11_end.cells rm_X11_end.slots A) h (K h)) : q_V p l e rm_X11_end s m args below meth c D A 4 (MQ below (q_Qc D A post) args s rm_X11_end.cells rm_X11_end.slots A) 0 (k_X11_end_0 post K) := by
  unfold k_X11_end_0
  refine q_aload_n C (by decide +kernel : decode cX11_end 0 = .ok (.aload_n 0, 1)) ?_
  refine q_iload_n C (by decide +kernel : decode cX11_end 1 = .ok (.iload_n 1, 1)) ?_
  refine q_call2 C (q_coV C (np := 1) (ci := 11) (rc := (RX11, TX11, 35)) (t_X11_isWork l) w9_48 rfl rfl w9_49 w9_50 w9_51 w9_6 (by decide +kernel) (by decide +kernel : decode cX11_end 2 = .ok (.invokevirtual 140, 3)) (by decide)) ?_
  refine q_ifeq C (tgt := 24) (by decide +kernel : decode cX11_end 5 = .ok (.ifCond .eq 19, 3)) (by decide) ?_ ?_
  · exact v_X11_end_24 C hK
  · refine q_iload_n C (by decide +kernel : decode cX11_end 8 = .ok (.iload_n 2, 1)) ?_
    refine q_aload_n C (by decide +kernel : decode cX11_end 9 = .ok (.aload_n 0, 1)) ?_
    refine q_get C (ci := 11) (j := 13) (C0 := RX11) (T := TX11) (N := 35) rfl iX11 giX11 (by decide) w9_29 (by decide +kernel : decode cX11_end 10 = .ok (.getfield 37, 3)) ?_
    refine q_iload_n C (by decide +kernel : decode cX11_end 13 = .ok (.iload_n 1, 1)) ?_
    refine q_iald C (by decide +kernel : decode cX11_end 14 = .ok (.iaload, 1)) ?_
    refine q_sipush C (by decide +kernel : decode cX11_end 15 = .ok (.sipush 3000, 3)) (by decide) ?_
    refine q_call3 C (q_coS C (np := 3) (t_X11_in l) w9_5 w9_8 w9_7 w9_6 (by decide +kernel) (by decide +kernel : decode cX11_end 18 = .ok (.invokestatic 92, 3)) (by decide)) ?_
    refine q_ifne C (tgt := 27) (by decide +kernel : decode cX11_end 21 = .ok (.ifCond .ne 6, 3)) (by decide) ?_ ?_
    · refine q_aload_n C (by decide +kernel : decode cX11_end 27 = .ok (.aload_n 0, 1)) ?_
      refine q_iload_n C (by decide +kernel : decode cX11_end 28 = .ok (.iload_n 1, 1)) ?_
      refine q_iload_n C (by decide +kernel : decode cX11_end 29 = .ok (.iload_n 2, 1)) ?_
      refine q_iconst C (by decide +kernel : decode cX11_end 30 = .ok (.iconst 0, 1)) (by decide) ?_
      refine q_call4 C (q_coV C (np := 3) (ci := 11) (rc := (RX11, TX11, 35)) (t_X11_endAt l) w9_44 rfl rfl w9_45 w9_46 w9_47 w9_6 (by decide +kernel) (by decide +kernel : decode cX11_end 31 = .ok (.invokevirtual 143, 3)) (by decide)) ?_
      refine q_istore_n C (by decide +kernel : decode cX11_end 34 = .ok (.istore_n 3, 1)) ?_
      refine q_iload_n C (by decide +kernel : decode cX11_end 35 = .ok (.iload_n 3, 1)) ?_
      refine q_ldc C (by decide +kernel : decode cX11_end 36 = .ok (.ldc 125, 2)) w9_34 ?_
      refine q_icne C (tgt := 45) (by decide +kernel : decode cX11_end 38 = .ok (.if_icmp .ne 7, 3)) (by decide) ?_ ?_
      · refine q_iload_n C (by decide +kernel : decode cX11_end 45 = .ok (.iload_n 3, 1)) ?_
        exact v_X11_end_46 C hK
      · refine q_iconst C (by decide +kernel : decode cX11_end 41 = .ok (.iconst (-1), 1)) (by decide) ?_
        refine q_goto C (tgt := 46) (by decide +kernel : decode cX11_end 42 = .ok (.goto 4, 3)) (by decide) ?_
        exact v_X11_end_46 C hK
    · exact v_X11_end_24 C hK
theorem u_X11_end (l : Launch) {sp : q_Sp} (H : ∀ (av : List Value) (σ : q_S) (post : Option Value → q_S → Prop), sp av σ post → k_X11_end_0 post (fun _ _ _ _ _ _ => False) (q_L0 av 4) [] σ 0 0 ∧ av.length ≤ 4 ∧ ∀ v ∈ av, v.category = 1) : q_Ct l yX11_end cX11_end 4 (some .int) rm_X11_end sp := by
  refine q_met (by decide) ?_
  intro D A p e s m args below meth c σ av post C hsp
  obtain ⟨h1, h2, h3⟩ := H av σ post hsp
  exact ⟨_, v_X11_end_0 (K := fun _ _ _ _ _ _ => False) C (fun h hh => by cases hh), h1, h2, h3⟩
theorem t_X11_end (l : Launch) : q_Ct l yX11_end cX11_end 4 (some .int) rm_X11_end s_X11_end := u_X11_end l (by
  intro av σ post h
  unfold s_X11_end at h
  split at h
  · next mr w k =>
    refine ⟨?_, by simp, by simp [Value.category]⟩
    obtain ⟨ad, z, g, ⟨gp, r, hm⟩, hI, hA, h1⟩ := h
    simp only [c_push, c_null, c_iload, c_aload, c_istore, c_astore, c_iinc, c_iadd, c_isub, c_imul, c_iand, c_ineg, c_dup, c_dup2, c_pop, c_ifnull, c_ifnonnull, c_get, c_put, c_iald, c_zald, c_iast, c_zast, c_aald, c_aast, c_alen, c_new, c_newa, c_newq, c_mna, c_oinit, c_max, c_copy, c_iret, c_zret, c_aret, c_vret, q_do, q_rc, c_ifeq, c_ifne, c_iflt, c_ifge, c_ifgt, c_ifle, c_iceq, c_icne, c_iclt, c_icge, c_icgt, c_icle, c_call0, c_call1, c_call2, c_call3, c_call4, c_call5, c_call6, c_call7, q_L0, List.map_cons, List.map_nil, List.replicate, List.cons_append, List.nil_append, List.append_nil, List.length_cons, List.length_nil, List.length_set, Nat.reduceSub, Nat.reduceAdd, Nat.reduceLT, Nat.reduceLeDiff, Nat.zero_add, Nat.add_zero, Nat.sub_zero, Nat.sub_self, List.getElem?_cons_zero, List.getElem?_cons_succ, List.set_cons_zero, List.set_cons_succ, Option.toList_some, Option.toList_none, List.sum_cons, List.sum_nil, true_and, and_true, true_or, or_true, Nat.le_refl, Nat.zero_le, Value.category, Fin.isValue, Fin.val_zero, Fin.val_one, Fin.val_two, Fin.reduceFinMk, q_10, q_01, not_false_eq_true, not_true_eq_false, forall_const, true_implies, false_implies, implies_true, q_ni, q_fi, q_nb0, q_nb1, q_fb0, q_fb1, q_nor, q_nar, q_for, q_far, q_non, q_nan, q_fon, q_fan, imp_false, false_and, and_false, and_self, false_or, or_false, va_rf, refKind, k_X11_end_0, k_X11_end_24, k_X11_end_46, hm.rd, vpi20, s_X11_isWork, s_X11_in, s_X10_isWithin]
    have h0 := h1 σ ⟨gp, r, hm⟩
    have hau := fun c0 c1 c2 => hA.at (w := w) c0 c1 c2
    unfold I1 at hI
    unfold F_end at h0
    refine ⟨hI.2.2.2.1, fun c => ?_, fun c => by grind⟩
    have cw : 0 ≤ w ∧ w < 20 := by grind
    refine ⟨cw, fun c2 => ?_, fun c2 => by grind⟩
    refine ⟨ad, z, g, gp, r, hm, cw, hI.2.2.1, hau c.1 c.2 cw.2, fun σ' hm' => ?_⟩
    have h2 := h1 σ' ⟨_, r, hm'⟩
    unfold F_end EF naF at h2
    simp only [c_push, c_null, c_iload, c_aload, c_istore, c_astore, c_iinc, c_iadd, c_isub, c_imul, c_iand, c_ineg, c_dup, c_dup2, c_pop, c_ifnull, c_ifnonnull, c_get, c_put, c_iald, c_zald, c_iast, c_zast, c_aald, c_aast, c_alen, c_new, c_newa, c_newq, c_mna, c_oinit, c_max, c_copy, c_iret, c_zret, c_aret, c_vret, q_do, q_rc, c_ifeq, c_ifne, c_iflt, c_ifge, c_ifgt, c_ifle, c_iceq, c_icne, c_iclt, c_icge, c_icgt, c_icle, c_call0, c_call1, c_call2, c_call3, c_call4, c_call5, c_call6, c_call7, q_L0, List.map_cons, List.map_nil, List.replicate, List.cons_append, List.nil_append, List.append_nil, List.length_cons, List.length_nil, List.length_set, Nat.reduceSub, Nat.reduceAdd, Nat.reduceLT, Nat.reduceLeDiff, Nat.zero_add, Nat.add_zero, Nat.sub_zero, Nat.sub_self, List.getElem?_cons_zero, List.getElem?_cons_succ, List.set_cons_zero, List.set_cons_succ, Option.toList_some, Option.toList_none, List.sum_cons, List.sum_nil, true_and, and_true, true_or, or_true, Nat.le_refl, Nat.zero_le, Value.category, Fin.isValue, Fin.val_zero, Fin.val_one, Fin.val_two, Fin.reduceFinMk, q_10, q_01, not_false_eq_true, not_true_eq_false, forall_const, true_implies, false_implies, implies_true, q_ni, q_fi, q_nb0, q_nb1, q_fb0, q_fb1, q_nor, q_nar, q_for, q_far, q_non, q_nan, q_fon, q_fan, imp_false, false_and, and_false, and_self, false_or, or_false, va_rf, refKind, hm'.rd]
    clear h1 h0
    grind
  · exact h.elim)
def F_inRight (z : Nat → Int32) (g : Nat → Nat → Int32) (w t k : Int32) : Int32 := if (0 ≤ w ∧ w < z 11) ∧ (0 ≤ t ∧ t ≤ 3000) ∧ g 13 w.toNatClampNeg ≤ k ∧ k ≤ 3000 then if HR z g w.toNatClampNeg t k then 1 else 0 else -2
def s_X11_inRight : q_Sp := fun av σ post => match av with
  | [.ref mr, .int w, .int t, .int k] => ∃ ad z g, mOK σ mr ad z g ∧ I1 z ∧ AU z g ∧ ∀ σ', mOK σ' mr ad z g → post (some (.int (F_inRight z g w t k))) σ'
  | _ => False
theorem w9_52 : (.code yX11_hasRight cX11_hasRight 4 (some .boolean) : Cond) ∈ lw_tbl := by decide +kernel
theorem w9_53 : (.methodLink RX11 146 yX11_hasRight : Cond) ∈ lw_tbl := by decide +kernel
theorem w9_54 : (.instanceMethod yX11_hasRight : Cond) ∈ lw_tbl := by decide +kernel
theorem w9_55 : (.selects RX11 yX11_hasRight yX11_hasRight : Cond) ∈ lw_tbl := by decide +kernel
def rm_X11_inRight : Room := { frames := 4, cells := 0, slots := 0, locals := 97 }
def k_X11_inRight_35 (post : Option Value → q_S → Prop) (K : Nat → q_K) : q_K := (c_push (-2) (c_iret post))
def k_X11_inRight_53 (post : Option Value → q_S → Prop) (K : Nat → q_K) : q_K := (c_iret post)
def k_X11_inRight_0 (post : Option Value → q_S → Prop) (K : Nat → q_K) : q_K := (c_aload 0 (c_iload 1 (c_call2 (some 11) s_X11_isWork 0 0 (c_ifeq (k_X11_inRight_35 post K) (c_iload 2 (c_push 0 (c_push 3000 (c_call3 none s_X11_in 0 0 (c_ifeq (k_X11_inRight_35 post K) (c_iload 3 (c_aload 0 (c_get 11 13 (c_iload 1 (c_iald (c_push 3000 (c_call3 none s_X11_in 0 0 (c_ifne (c_aload 0 (c_iload 1 (c_iload 2 (c_iload 3 (c_call4 (some 11) s_X11_hasRight 0 0 (c_ifeq (c_push 0 (k_X11_inRight_53 post K)) (c_push 1 (k_X11_inRight_53 post K)))))))) (k_X11_inRight_35 post K))))))))))))))))))
set_option maxRecDepth 100000 in
theorem v_X11_inRight_35 {p : Program} {l : Launch} {e : Env} {s : State} {m : MethodId} {args : Array Value} {below : List Frame} {meth : Method} {c : Code} {D : va_G} {A : Nat → Prop} {post : Option Value → q_S → Prop} {K : Nat → q_K} (C : q_C p s m args meth c cX11_inRight 4 RX11 "inRight" (some .int) A) (hK : ∀ h ∈ ([] : List Nat), q_V p l e rm_X11_inRight s m args below meth c D A 4 (MQ below (q_Qc D A post) args s rm_X11_inRight.cells rm_X11_inRight.slots A) h (K h)) : q_V p l e rm_X11_inRight s m args below meth c D A 4 (MQ below (q_Qc D A post) args s rm_X11_inRight.cells rm_X11_inRight.slots A) 35 (k_X11_inRight_35 post K) := by
  unfold k_X11_inRight_35
  refine q_bipush C (by decide +kernel : decode cX11_inRight 35 = .ok (.bipush (-2), 2)) (by decide) ?_
  exact q_iret C rfl (by decide +kernel : decode cX11_inRight 37 = .ok (.ireturn, 1))
set_option maxRecDepth 100000 in
theorem v_X11_inRight_53 {p : Program} {l : Launch} {e : Env} {s : State} {m : MethodId} {args : Array Value} {below : List Frame} {meth : Method} {c : Code} {D : va_G} {A : Nat → Prop} {post : Option Value → q_S → Prop} {K : Nat → q_K} (C : q_C p s m args meth c cX11_inRight 4 RX11 "inRight" (some .int) A) (hK : ∀ h ∈ ([] : List Nat), q_V p l e rm_X11_inRight s m args below meth c D A 4 (MQ below (q_Qc D A post) args s rm_X11_inRight.cells rm_X11_inRight.slots A) h (K h)) : q_V p l e rm_X11_inRight s m args below meth c D A 4 (MQ below (q_Qc D A post) args s rm_X11_inRight.cells rm_X11_inRight.slots A) 53 (k_X11_inRight_53 post K) := by
  unfold k_X11_inRight_53
  exact q_iret C rfl (by decide +kernel : decode cX11_inRight 53 = .ok (.ireturn, 1))
set_option maxRecDepth 100000 in
theorem v_X11_inRight_0 {p : Program} {l : Launch} {e : Env} {s : State} {m : MethodId} {args : Array Value} {below : List Frame} {meth : Method} {c : Code} {D : va_G} {A : Nat → Prop} {post : Option Value → q_S → Prop} {K : Nat → q_K} (C : q_C p s m args meth c cX11_inRight 4 RX11 "inRight" (some .int) A) (hK : ∀ h ∈ ([] : List Nat), q_V p l e rm_X11_inRight s m args below meth c D A 4 (MQ below (q_Qc D A post) args s rm_X11_inRight.cells rm_X11_inRight.slots A) h (K h)) : q_V p l e rm_X11_inRight s m args below meth c D A 4 (MQ below (q_Qc D A post) args s rm_X11_inRight.cells rm_X11_inRight.slots A) 0 (k_X11_inRight_0 post K) := by
  unfold k_X11_inRight_0
  refine q_aload_n C (by decide +kernel : decode cX11_inRight 0 = .ok (.aload_n 0, 1)) ?_
  refine q_iload_n C (by decide +kernel : decode cX11_inRight 1 = .ok (.iload_n 1, 1)) ?_
  refine q_call2 C (q_coV C (np := 1) (ci := 11) (rc := (RX11, TX11, 35)) (t_X11_isWork l) w9_48 rfl rfl w9_49 w9_50 w9_51 w9_6 (by decide +kernel) (by decide +kernel : decode cX11_inRight 2 = .ok (.invokevirtual 140, 3)) (by decide)) ?_
  refine q_ifeq C (tgt := 35) (by decide +kernel : decode cX11_inRight 5 = .ok (.ifCond .eq 30, 3)) (by decide) ?_ ?_
  · exact v_X11_inRight_35 C hK
  · refine q_iload_n C (by decide +kernel : decode cX11_inRight 8 = .ok (.iload_n 2, 1)) ?_
    refine q_iconst C (by decide +kernel : decode cX11_inRight 9 = .ok (.iconst 0, 1)) (by decide) ?_
    refine q_sipush C (by decide +kernel : decode cX11_inRight 10 = .ok (.sipush 3000, 3)) (by decide) ?_
    refine q_call3 C (q_coS C (np := 3) (t_X11_in l) w9_5 w9_8 w9_7 w9_6 (by decide +kernel) (by decide +kernel : decode cX11_inRight 13 = .ok (.invokestatic 92, 3)) (by decide)) ?_
    refine q_ifeq C (tgt := 35) (by decide +kernel : decode cX11_inRight 16 = .ok (.ifCond .eq 19, 3)) (by decide) ?_ ?_
    · exact v_X11_inRight_35 C hK
    · refine q_iload_n C (by decide +kernel : decode cX11_inRight 19 = .ok (.iload_n 3, 1)) ?_
      refine q_aload_n C (by decide +kernel : decode cX11_inRight 20 = .ok (.aload_n 0, 1)) ?_
      refine q_get C (ci := 11) (j := 13) (C0 := RX11) (T := TX11) (N := 35) rfl iX11 giX11 (by decide) w9_29 (by decide +kernel : decode cX11_inRight 21 = .ok (.getfield 37, 3)) ?_
      refine q_iload_n C (by decide +kernel : decode cX11_inRight 24 = .ok (.iload_n 1, 1)) ?_
      refine q_iald C (by decide +kernel : decode cX11_inRight 25 = .ok (.iaload, 1)) ?_
      refine q_sipush C (by decide +kernel : decode cX11_inRight 26 = .ok (.sipush 3000, 3)) (by decide) ?_
      refine q_call3 C (q_coS C (np := 3) (t_X11_in l) w9_5 w9_8 w9_7 w9_6 (by decide +kernel) (by decide +kernel : decode cX11_inRight 29 = .ok (.invokestatic 92, 3)) (by decide)) ?_
      refine q_ifne C (tgt := 38) (by decide +kernel : decode cX11_inRight 32 = .ok (.ifCond .ne 6, 3)) (by decide) ?_ ?_
      · refine q_aload_n C (by decide +kernel : decode cX11_inRight 38 = .ok (.aload_n 0, 1)) ?_
        refine q_iload_n C (by decide +kernel : decode cX11_inRight 39 = .ok (.iload_n 1, 1)) ?_
        refine q_iload_n C (by decide +kernel : decode cX11_inRight 40 = .ok (.iload_n 2, 1)) ?_
        refine q_iload_n C (by decide +kernel : decode cX11_inRight 41 = .ok (.iload_n 3, 1)) ?_
        refine q_call4 C (q_coV C (np := 3) (ci := 11) (rc := (RX11, TX11, 35)) (t_X11_hasRight l) w9_52 rfl rfl w9_53 w9_54 w9_55 w9_6 (by decide +kernel) (by decide +kernel : decode cX11_inRight 42 = .ok (.invokevirtual 146, 3)) (by decide)) ?_
        refine q_ifeq C (tgt := 52) (by decide +kernel : decode cX11_inRight 45 = .ok (.ifCond .eq 7, 3)) (by decide) ?_ ?_
        · refine q_iconst C (by decide +kernel : decode cX11_inRight 52 = .ok (.iconst 0, 1)) (by decide) ?_
          exact v_X11_inRight_53 C hK
        · refine q_iconst C (by decide +kernel : decode cX11_inRight 48 = .ok (.iconst 1, 1)) (by decide) ?_
          refine q_goto C (tgt := 53) (by decide +kernel : decode cX11_inRight 49 = .ok (.goto 4, 3)) (by decide) ?_
          exact v_X11_inRight_53 C hK
      · exact v_X11_inRight_35 C hK
theorem u_X11_inRight (l : Launch) {sp : q_Sp} (H : ∀ (av : List Value) (σ : q_S) (post : Option Value → q_S → Prop), sp av σ post → k_X11_inRight_0 post (fun _ _ _ _ _ _ => False) (q_L0 av 4) [] σ 0 0 ∧ av.length ≤ 4 ∧ ∀ v ∈ av, v.category = 1) : q_Ct l yX11_inRight cX11_inRight 4 (some .int) rm_X11_inRight sp := by
  refine q_met (by decide) ?_
  intro D A p e s m args below meth c σ av post C hsp
  obtain ⟨h1, h2, h3⟩ := H av σ post hsp
  exact ⟨_, v_X11_inRight_0 (K := fun _ _ _ _ _ _ => False) C (fun h hh => by cases hh), h1, h2, h3⟩
theorem t_X11_inRight (l : Launch) : q_Ct l yX11_inRight cX11_inRight 4 (some .int) rm_X11_inRight s_X11_inRight := u_X11_inRight l (by
  intro av σ post h
  unfold s_X11_inRight at h
  split at h
  · next mr w t k =>
    refine ⟨?_, by simp, by simp [Value.category]⟩
    obtain ⟨ad, z, g, ⟨gp, r, hm⟩, hI, hA, h1⟩ := h
    simp only [c_push, c_null, c_iload, c_aload, c_istore, c_astore, c_iinc, c_iadd, c_isub, c_imul, c_iand, c_ineg, c_dup, c_dup2, c_pop, c_ifnull, c_ifnonnull, c_get, c_put, c_iald, c_zald, c_iast, c_zast, c_aald, c_aast, c_alen, c_new, c_newa, c_newq, c_mna, c_oinit, c_max, c_copy, c_iret, c_zret, c_aret, c_vret, q_do, q_rc, c_ifeq, c_ifne, c_iflt, c_ifge, c_ifgt, c_ifle, c_iceq, c_icne, c_iclt, c_icge, c_icgt, c_icle, c_call0, c_call1, c_call2, c_call3, c_call4, c_call5, c_call6, c_call7, q_L0, List.map_cons, List.map_nil, List.replicate, List.cons_append, List.nil_append, List.append_nil, List.length_cons, List.length_nil, List.length_set, Nat.reduceSub, Nat.reduceAdd, Nat.reduceLT, Nat.reduceLeDiff, Nat.zero_add, Nat.add_zero, Nat.sub_zero, Nat.sub_self, List.getElem?_cons_zero, List.getElem?_cons_succ, List.set_cons_zero, List.set_cons_succ, Option.toList_some, Option.toList_none, List.sum_cons, List.sum_nil, true_and, and_true, true_or, or_true, Nat.le_refl, Nat.zero_le, Value.category, Fin.isValue, Fin.val_zero, Fin.val_one, Fin.val_two, Fin.reduceFinMk, q_10, q_01, not_false_eq_true, not_true_eq_false, forall_const, true_implies, false_implies, implies_true, q_ni, q_fi, q_nb0, q_nb1, q_fb0, q_fb1, q_nor, q_nar, q_for, q_far, q_non, q_nan, q_fon, q_fan, imp_false, false_and, and_false, and_self, false_or, or_false, va_rf, refKind, k_X11_inRight_0, k_X11_inRight_35, k_X11_inRight_53, hm.rd, vpi20, s_X11_isWork, s_X11_in, s_X10_isWithin]
    have h0 := h1 σ ⟨gp, r, hm⟩
    have hau := fun c0 c1 c2 => hA.at (w := w) c0 c1 c2
    unfold I1 at hI
    unfold F_inRight at h0
    refine ⟨hI.2.2.2.1, fun c => ?_, fun c => by grind⟩
    have cw : 0 ≤ w ∧ w < 20 := by grind
    refine ⟨fun c1 => ?_, fun c1 => by grind⟩
    refine ⟨cw, fun c2 => ?_, fun c2 => by grind⟩
    refine ⟨ad, z, g, gp, r, hm, cw, hI.2.2.1, hau c.1 c.2 cw.2, fun σ' gp' hm' => ?_⟩
    have h2 := h1 σ' ⟨_, r, hm'⟩
    rw [F_inRight, if_pos ⟨c, c1, c2⟩] at h2
    refine ⟨fun c3 => ?_, fun c3 => ?_⟩
    · rw [if_pos c3] at h2
      simp only [c_push, c_null, c_iload, c_aload, c_istore, c_astore, c_iinc, c_iadd, c_isub, c_imul, c_iand, c_ineg, c_dup, c_dup2, c_pop, c_ifnull, c_ifnonnull, c_get, c_put, c_iald, c_zald, c_iast, c_zast, c_aald, c_aast, c_alen, c_new, c_newa, c_newq, c_mna, c_oinit, c_max, c_copy, c_iret, c_zret, c_aret, c_vret, q_do, q_rc, c_ifeq, c_ifne, c_iflt, c_ifge, c_ifgt, c_ifle, c_iceq, c_icne, c_iclt, c_icge, c_icgt, c_icle, c_call0, c_call1, c_call2, c_call3, c_call4, c_call5, c_call6, c_call7, q_L0, List.map_cons, List.map_nil, List.replicate, List.cons_append, List.nil_append, List.append_nil, List.length_cons, List.length_nil, List.length_set, Nat.reduceSub, Nat.reduceAdd, Nat.reduceLT, Nat.reduceLeDiff, Nat.zero_add, Nat.add_zero, Nat.sub_zero, Nat.sub_self, List.getElem?_cons_zero, List.getElem?_cons_succ, List.set_cons_zero, List.set_cons_succ, Option.toList_some, Option.toList_none, List.sum_cons, List.sum_nil, true_and, and_true, true_or, or_true, Nat.le_refl, Nat.zero_le, Value.category, Fin.isValue, Fin.val_zero, Fin.val_one, Fin.val_two, Fin.reduceFinMk, q_10, q_01, not_false_eq_true, not_true_eq_false, forall_const, true_implies, false_implies, implies_true, q_ni, q_fi, q_nb0, q_nb1, q_fb0, q_fb1, q_nor, q_nar, q_for, q_far, q_non, q_nan, q_fon, q_fan, imp_false, false_and, and_false, and_self, false_or, or_false, va_rf, refKind]
      exact h2
    · rw [if_neg c3] at h2
      simp only [c_push, c_null, c_iload, c_aload, c_istore, c_astore, c_iinc, c_iadd, c_isub, c_imul, c_iand, c_ineg, c_dup, c_dup2, c_pop, c_ifnull, c_ifnonnull, c_get, c_put, c_iald, c_zald, c_iast, c_zast, c_aald, c_aast, c_alen, c_new, c_newa, c_newq, c_mna, c_oinit, c_max, c_copy, c_iret, c_zret, c_aret, c_vret, q_do, q_rc, c_ifeq, c_ifne, c_iflt, c_ifge, c_ifgt, c_ifle, c_iceq, c_icne, c_iclt, c_icge, c_icgt, c_icle, c_call0, c_call1, c_call2, c_call3, c_call4, c_call5, c_call6, c_call7, q_L0, List.map_cons, List.map_nil, List.replicate, List.cons_append, List.nil_append, List.append_nil, List.length_cons, List.length_nil, List.length_set, Nat.reduceSub, Nat.reduceAdd, Nat.reduceLT, Nat.reduceLeDiff, Nat.zero_add, Nat.add_zero, Nat.sub_zero, Nat.sub_self, List.getElem?_cons_zero, List.getElem?_cons_succ, List.set_cons_zero, List.set_cons_succ, Option.toList_some, Option.toList_none, List.sum_cons, List.sum_nil, true_and, and_true, true_or, or_true, Nat.le_refl, Nat.zero_le, Value.category, Fin.isValue, Fin.val_zero, Fin.val_one, Fin.val_two, Fin.reduceFinMk, q_10, q_01, not_false_eq_true, not_true_eq_false, forall_const, true_implies, false_implies, implies_true, q_ni, q_fi, q_nb0, q_nb1, q_fb0, q_fb1, q_nor, q_nar, q_for, q_far, q_non, q_nan, q_fon, q_fan, imp_false, false_and, and_false, and_self, false_or, or_false, va_rf, refKind]
      exact h2
  · exact h.elim)
-- move
def moveF (z : Nat → Int32) (g : Nat → Nat → Int32) (w a b n : Int32) : Nat → Nat → Int32 := gup (gup (gup (gup (gup g 15 (z 14).toNatClampNeg (z 0)) 16 (z 14).toNatClampNeg w) 17 (z 14).toNatClampNeg a) 18 (z 14).toNatClampNeg b) 19 (z 14).toNatClampNeg n
def s_X11_move : q_Sp := fun av σ post => match av with
  | [.ref mr, .int w, .int a, .int b, .int n] => ∃ ad z g gp r, mOKx σ mr ad z g gp r ∧ (0 ≤ z 14 ∧ z 14 < 1000) ∧ ∀ σ', mOKx σ' mr ad (upd z 14 (z 14 + 1)) (moveF z g w a b n) gp r → post none σ'
  | _ => False
theorem w9_56 : (.fieldLink RX11 40 (TX11 15).1 (TX11 15).2.1 (TX11 15).2.2.1 : Cond) ∈ lw_tbl := by decide +kernel
theorem w9_57 : (.fieldLink RX11 149 (TX11 14).1 (TX11 14).2.1 (TX11 14).2.2.1 : Cond) ∈ lw_tbl := by decide +kernel
theorem w9_58 : (.fieldLink RX11 43 (TX11 16).1 (TX11 16).2.1 (TX11 16).2.2.1 : Cond) ∈ lw_tbl := by decide +kernel
theorem w9_59 : (.fieldLink RX11 46 (TX11 17).1 (TX11 17).2.1 (TX11 17).2.2.1 : Cond) ∈ lw_tbl := by decide +kernel
theorem w9_60 : (.fieldLink RX11 49 (TX11 18).1 (TX11 18).2.1 (TX11 18).2.2.1 : Cond) ∈ lw_tbl := by decide +kernel
theorem w9_61 : (.fieldLink RX11 52 (TX11 19).1 (TX11 19).2.1 (TX11 19).2.2.1 : Cond) ∈ lw_tbl := by decide +kernel
def rm_X11_move : Room := { frames := 0, cells := 0, slots := 0, locals := 0 }
def k_X11_move_0 (post : Option Value → q_S → Prop) (K : Nat → q_K) : q_K := (c_aload 0 (c_get 11 15 (c_aload 0 (c_get 11 14 (c_aload 0 (c_get 11 0 (c_iast (c_aload 0 (c_get 11 16 (c_aload 0 (c_get 11 14 (c_iload 1 (c_iast (c_aload 0 (c_get 11 17 (c_aload 0 (c_get 11 14 (c_iload 2 (c_iast (c_aload 0 (c_get 11 18 (c_aload 0 (c_get 11 14 (c_iload 3 (c_iast (c_aload 0 (c_get 11 19 (c_aload 0 (c_get 11 14 (c_iload 4 (c_iast (c_aload 0 (c_dup (c_get 11 14 (c_push 1 (c_iadd (c_put 11 14 (.int) (c_vret post))))))))))))))))))))))))))))))))))))))
set_option maxRecDepth 100000 in
theorem v_X11_move_0 {p : Program} {l : Launch} {e : Env} {s : State} {m : MethodId} {args : Array Value} {below : List Frame} {meth : Method} {c : Code} {D : va_G} {A : Nat → Prop} {post : Option Value → q_S → Prop} {K : Nat → q_K} (C : q_C p s m args meth c cX11_move 5 RX11 "move" none A) (hK : ∀ h ∈ ([] : List Nat), q_V p l e rm_X11_move s m args below meth c D A 5 (MQ below (q_Qc D A post) args s rm_X11_move.cells rm_X11_move.slots A) h (K h)) : q_V p l e rm_X11_move s m args below meth c D A 5 (MQ below (q_Qc D A post) args s rm_X11_move.cells rm_X11_move.slots A) 0 (k_X11_move_0 post K) := by
  unfold k_X11_move_0
  refine q_aload_n C (by decide +kernel : decode cX11_move 0 = .ok (.aload_n 0, 1)) ?_
  refine q_get C (ci := 11) (j := 15) (C0 := RX11) (T := TX11) (N := 35) rfl iX11 giX11 (by decide) w9_56 (by decide +kernel : decode cX11_move 1 = .ok (.getfield 40, 3)) ?_
  refine q_aload_n C (by decide +kernel : decode cX11_move 4 = .ok (.aload_n 0, 1)) ?_
  refine q_get C (ci := 11) (j := 14) (C0 := RX11) (T := TX11) (N := 35) rfl iX11 giX11 (by decide) w9_57 (by decide +kernel : decode cX11_move 5 = .ok (.getfield 149, 3)) ?_
  refine q_aload_n C (by decide +kernel : decode cX11_move 8 = .ok (.aload_n 0, 1)) ?_
  refine q_get C (ci := 11) (j := 0) (C0 := RX11) (T := TX11) (N := 35) rfl iX11 giX11 (by decide) w9_10 (by decide +kernel : decode cX11_move 9 = .ok (.getfield 96, 3)) ?_
  refine q_iast C (by decide +kernel : decode cX11_move 12 = .ok (.iastore, 1)) ?_
  refine q_aload_n C (by decide +kernel : decode cX11_move 13 = .ok (.aload_n 0, 1)) ?_
  refine q_get C (ci := 11) (j := 16) (C0 := RX11) (T := TX11) (N := 35) rfl iX11 giX11 (by decide) w9_58 (by decide +kernel : decode cX11_move 14 = .ok (.getfield 43, 3)) ?_
  refine q_aload_n C (by decide +kernel : decode cX11_move 17 = .ok (.aload_n 0, 1)) ?_
  refine q_get C (ci := 11) (j := 14) (C0 := RX11) (T := TX11) (N := 35) rfl iX11 giX11 (by decide) w9_57 (by decide +kernel : decode cX11_move 18 = .ok (.getfield 149, 3)) ?_
  refine q_iload_n C (by decide +kernel : decode cX11_move 21 = .ok (.iload_n 1, 1)) ?_
  refine q_iast C (by decide +kernel : decode cX11_move 22 = .ok (.iastore, 1)) ?_
  refine q_aload_n C (by decide +kernel : decode cX11_move 23 = .ok (.aload_n 0, 1)) ?_
  refine q_get C (ci := 11) (j := 17) (C0 := RX11) (T := TX11) (N := 35) rfl iX11 giX11 (by decide) w9_59 (by decide +kernel : decode cX11_move 24 = .ok (.getfield 46, 3)) ?_
  refine q_aload_n C (by decide +kernel : decode cX11_move 27 = .ok (.aload_n 0, 1)) ?_
  refine q_get C (ci := 11) (j := 14) (C0 := RX11) (T := TX11) (N := 35) rfl iX11 giX11 (by decide) w9_57 (by decide +kernel : decode cX11_move 28 = .ok (.getfield 149, 3)) ?_
  refine q_iload_n C (by decide +kernel : decode cX11_move 31 = .ok (.iload_n 2, 1)) ?_
  refine q_iast C (by decide +kernel : decode cX11_move 32 = .ok (.iastore, 1)) ?_
  refine q_aload_n C (by decide +kernel : decode cX11_move 33 = .ok (.aload_n 0, 1)) ?_
  refine q_get C (ci := 11) (j := 18) (C0 := RX11) (T := TX11) (N := 35) rfl iX11 giX11 (by decide) w9_60 (by decide +kernel : decode cX11_move 34 = .ok (.getfield 49, 3)) ?_
  refine q_aload_n C (by decide +kernel : decode cX11_move 37 = .ok (.aload_n 0, 1)) ?_
  refine q_get C (ci := 11) (j := 14) (C0 := RX11) (T := TX11) (N := 35) rfl iX11 giX11 (by decide) w9_57 (by decide +kernel : decode cX11_move 38 = .ok (.getfield 149, 3)) ?_
  refine q_iload_n C (by decide +kernel : decode cX11_move 41 = .ok (.iload_n 3, 1)) ?_
  refine q_iast C (by decide +kernel : decode cX11_move 42 = .ok (.iastore, 1)) ?_
  refine q_aload_n C (by decide +kernel : decode cX11_move 43 = .ok (.aload_n 0, 1)) ?_
  refine q_get C (ci := 11) (j := 19) (C0 := RX11) (T := TX11) (N := 35) rfl iX11 giX11 (by decide) w9_61 (by decide +kernel : decode cX11_move 44 = .ok (.getfield 52, 3)) ?_
  refine q_aload_n C (by decide +kernel : decode cX11_move 47 = .ok (.aload_n 0, 1)) ?_
  refine q_get C (ci := 11) (j := 14) (C0 := RX11) (T := TX11) (N := 35) rfl iX11 giX11 (by decide) w9_57 (by decide +kernel : decode cX11_move 48 = .ok (.getfield 149, 3)) ?_
  refine q_iload C (by decide +kernel : decode cX11_move 51 = .ok (.iload 4, 2)) ?_
  refine q_iast C (by decide +kernel : decode cX11_move 53 = .ok (.iastore, 1)) ?_
  refine q_aload_n C (by decide +kernel : decode cX11_move 54 = .ok (.aload_n 0, 1)) ?_
  refine q_dup C (by decide +kernel : decode cX11_move 55 = .ok (.dup, 1)) ?_
  refine q_get C (ci := 11) (j := 14) (C0 := RX11) (T := TX11) (N := 35) rfl iX11 giX11 (by decide) w9_57 (by decide +kernel : decode cX11_move 56 = .ok (.getfield 149, 3)) ?_
  refine q_iconst C (by decide +kernel : decode cX11_move 59 = .ok (.iconst 1, 1)) (by decide) ?_
  refine q_iadd C (by decide +kernel : decode cX11_move 60 = .ok (.iadd, 1)) ?_
  refine q_put C (ci := 11) (j := 14) (C0 := RX11) (T := TX11) (N := 35) (ty := .int) rfl iX11 giX11 (by decide) tyX11 tyX11_ok nmX11 (by decide +kernel) rfl w9_57 (by decide +kernel : decode cX11_move 61 = .ok (.putfield 149, 3)) ?_
  exact q_vret C rfl (by decide +kernel : decode cX11_move 64 = .ok (.return_, 1))
theorem u_X11_move (l : Launch) {sp : q_Sp} (H : ∀ (av : List Value) (σ : q_S) (post : Option Value → q_S → Prop), sp av σ post → k_X11_move_0 post (fun _ _ _ _ _ _ => False) (q_L0 av 5) [] σ 0 0 ∧ av.length ≤ 5 ∧ ∀ v ∈ av, v.category = 1) : q_Ct l yX11_move cX11_move 5 none rm_X11_move sp := by
  refine q_met (by decide) ?_
  intro D A p e s m args below meth c σ av post C hsp
  obtain ⟨h1, h2, h3⟩ := H av σ post hsp
  exact ⟨_, v_X11_move_0 (K := fun _ _ _ _ _ _ => False) C (fun h hh => by cases hh), h1, h2, h3⟩
theorem t_X11_move (l : Launch) : q_Ct l yX11_move cX11_move 5 none rm_X11_move s_X11_move := u_X11_move l (by
  intro av σ post h
  unfold s_X11_move at h
  split at h
  · next mr w a b n =>
    refine ⟨?_, by simp, by simp [Value.category]⟩
    obtain ⟨ad, z, g, gp, r, hm, hI, h1⟩ := h
    have hm1 := hm.a15 (z 14).toNatClampNeg (z 0)
    have hm2 := hm1.a16 (z 14).toNatClampNeg w
    have hm3 := hm2.a17 (z 14).toNatClampNeg a
    have hm4 := hm3.a18 (z 14).toNatClampNeg b
    have hm5 := hm4.a19 (z 14).toNatClampNeg n
    have hm6 := hm5.p14 (z 14 + 1)
    simp only [c_push, c_null, c_iload, c_aload, c_istore, c_astore, c_iinc, c_iadd, c_isub, c_imul, c_iand, c_ineg, c_dup, c_dup2, c_pop, c_ifnull, c_ifnonnull, c_get, c_put, c_iald, c_zald, c_iast, c_zast, c_aald, c_aast, c_alen, c_new, c_newa, c_newq, c_mna, c_oinit, c_max, c_copy, c_iret, c_zret, c_aret, c_vret, q_do, q_rc, c_ifeq, c_ifne, c_iflt, c_ifge, c_ifgt, c_ifle, c_iceq, c_icne, c_iclt, c_icge, c_icgt, c_icle, c_call0, c_call1, c_call2, c_call3, c_call4, c_call5, c_call6, c_call7, q_L0, List.map_cons, List.map_nil, List.replicate, List.cons_append, List.nil_append, List.append_nil, List.length_cons, List.length_nil, List.length_set, Nat.reduceSub, Nat.reduceAdd, Nat.reduceLT, Nat.reduceLeDiff, Nat.zero_add, Nat.add_zero, Nat.sub_zero, Nat.sub_self, List.getElem?_cons_zero, List.getElem?_cons_succ, List.set_cons_zero, List.set_cons_succ, Option.toList_some, Option.toList_none, List.sum_cons, List.sum_nil, true_and, and_true, true_or, or_true, Nat.le_refl, Nat.zero_le, Value.category, Fin.isValue, Fin.val_zero, Fin.val_one, Fin.val_two, Fin.reduceFinMk, q_10, q_01, not_false_eq_true, not_true_eq_false, forall_const, true_implies, false_implies, implies_true, q_ni, q_fi, q_nb0, q_nb1, q_fb0, q_fb1, q_nor, q_nar, q_for, q_far, q_non, q_nan, q_fon, q_fan, imp_false, false_and, and_false, and_self, false_or, or_false, va_rf, refKind, k_X11_move_0, hm.rd, hm1.rd, hm2.rd, hm3.rd, hm4.rd, hm5.rd, hm6.rd, vpi1000, hI]
    exact h1 _ hm6
  · exact h.elim)
-- holds
def holdsF (g : Nat → Nat → Int32) (w p t : Int32) : Nat → Int32
  | 0 => if g 12 w.toNatClampNeg = p then 16 else 0
  | n + 1 => if g 16 n = w ∧ g 15 n ≤ t then holdsF g w p t n + (if g 18 n = p then g 19 n else 0) - (if g 17 n = p then g 19 n else 0) else holdsF g w p t n
def s_X11_holds : q_Sp := fun av σ post => match av with
  | [.ref mr, .int w, .int p, .int t] => ∃ ad z g gp r, mOKx σ mr ad z g gp r ∧ (0 ≤ w ∧ w < 20) ∧ (0 ≤ z 14 ∧ z 14 ≤ 1000) ∧ post (some (.int (holdsF g w p t (z 14).toNatClampNeg))) σ
  | _ => False
def rm_X11_holds : Room := { frames := 0, cells := 0, slots := 0, locals := 0 }
def k_X11_holds_16 (post : Option Value → q_S → Prop) (K : Nat → q_K) : q_K := (c_istore 4 (c_push 0 (c_istore 5 (K 21))))
def k_X11_holds_0 (post : Option Value → q_S → Prop) (K : Nat → q_K) : q_K := (c_aload 0 (c_get 11 12 (c_iload 1 (c_iald (c_iload 2 (c_icne (c_push 0 (k_X11_holds_16 post K)) (c_push 16 (k_X11_holds_16 post K))))))))
def k_X11_holds_106 (post : Option Value → q_S → Prop) (K : Nat → q_K) : q_K := (c_iinc 5 1 (K 21))
def k_X11_holds_103 (post : Option Value → q_S → Prop) (K : Nat → q_K) : q_K := (c_isub (c_istore 4 (k_X11_holds_106 post K)))
def k_X11_holds_76 (post : Option Value → q_S → Prop) (K : Nat → q_K) : q_K := (c_iadd (c_istore 4 (c_iload 4 (c_aload 0 (c_get 11 17 (c_iload 5 (c_iald (c_iload 2 (c_icne (c_push 0 (k_X11_holds_103 post K)) (c_aload 0 (c_get 11 19 (c_iload 5 (c_iald (k_X11_holds_103 post K))))))))))))))
def k_X11_holds_21 (post : Option Value → q_S → Prop) (K : Nat → q_K) : q_K := (c_iload 5 (c_aload 0 (c_get 11 14 (c_icge (c_iload 4 (c_iret post)) (c_aload 0 (c_get 11 16 (c_iload 5 (c_iald (c_iload 1 (c_icne (k_X11_holds_106 post K) (c_aload 0 (c_get 11 15 (c_iload 5 (c_iald (c_iload 3 (c_icgt (k_X11_holds_106 post K) (c_iload 4 (c_aload 0 (c_get 11 18 (c_iload 5 (c_iald (c_iload 2 (c_icne (c_push 0 (k_X11_holds_76 post K)) (c_aload 0 (c_get 11 19 (c_iload 5 (c_iald (k_X11_holds_76 post K))))))))))))))))))))))))))))
set_option maxRecDepth 100000 in
theorem v_X11_holds_16 {p : Program} {l : Launch} {e : Env} {s : State} {m : MethodId} {args : Array Value} {below : List Frame} {meth : Method} {c : Code} {D : va_G} {A : Nat → Prop} {post : Option Value → q_S → Prop} {K : Nat → q_K} (C : q_C p s m args meth c cX11_holds 6 RX11 "holds" (some .int) A) (hK : ∀ h ∈ ([21] : List Nat), q_V p l e rm_X11_holds s m args below meth c D A 6 (MQ below (q_Qc D A post) args s rm_X11_holds.cells rm_X11_holds.slots A) h (K h)) : q_V p l e rm_X11_holds s m args below meth c D A 6 (MQ below (q_Qc D A post) args s rm_X11_holds.cells rm_X11_holds.slots A) 16 (k_X11_holds_16 post K) := by
  unfold k_X11_holds_16
  refine q_istore C (by decide +kernel : decode cX11_holds 16 = .ok (.istore 4, 2)) ?_
  refine q_iconst C (by decide +kernel : decode cX11_holds 18 = .ok (.iconst 0, 1)) (by decide) ?_
  refine q_istore C (by decide +kernel : decode cX11_holds 19 = .ok (.istore 5, 2)) ?_
  exact hK 21 (by decide)
set_option maxRecDepth 100000 in
theorem v_X11_holds_0 {p : Program} {l : Launch} {e : Env} {s : State} {m : MethodId} {args : Array Value} {below : List Frame} {meth : Method} {c : Code} {D : va_G} {A : Nat → Prop} {post : Option Value → q_S → Prop} {K : Nat → q_K} (C : q_C p s m args meth c cX11_holds 6 RX11 "holds" (some .int) A) (hK : ∀ h ∈ ([21] : List Nat), q_V p l e rm_X11_holds s m args below meth c D A 6 (MQ below (q_Qc D A post) args s rm_X11_holds.cells rm_X11_holds.slots A) h (K h)) : q_V p l e rm_X11_holds s m args below meth c D A 6 (MQ below (q_Qc D A post) args s rm_X11_holds.cells rm_X11_holds.slots A) 0 (k_X11_holds_0 post K) := by
  unfold k_X11_holds_0
  refine q_aload_n C (by decide +kernel : decode cX11_holds 0 = .ok (.aload_n 0, 1)) ?_
  refine q_get C (ci := 11) (j := 12) (C0 := RX11) (T := TX11) (N := 35) rfl iX11 giX11 (by decide) w9_28 (by decide +kernel : decode cX11_holds 1 = .ok (.getfield 34, 3)) ?_
  refine q_iload_n C (by decide +kernel : decode cX11_holds 4 = .ok (.iload_n 1, 1)) ?_
  refine q_iald C (by decide +kernel : decode cX11_holds 5 = .ok (.iaload, 1)) ?_
  refine q_iload_n C (by decide +kernel : decode cX11_holds 6 = .ok (.iload_n 2, 1)) ?_
  refine q_icne C (tgt := 15) (by decide +kernel : decode cX11_holds 7 = .ok (.if_icmp .ne 8, 3)) (by decide) ?_ ?_
  · refine q_iconst C (by decide +kernel : decode cX11_holds 15 = .ok (.iconst 0, 1)) (by decide) ?_
    exact v_X11_holds_16 C hK
  · refine q_bipush C (by decide +kernel : decode cX11_holds 10 = .ok (.bipush 16, 2)) (by decide) ?_
    refine q_goto C (tgt := 16) (by decide +kernel : decode cX11_holds 12 = .ok (.goto 4, 3)) (by decide) ?_
    exact v_X11_holds_16 C hK
set_option maxRecDepth 100000 in
theorem v_X11_holds_106 {p : Program} {l : Launch} {e : Env} {s : State} {m : MethodId} {args : Array Value} {below : List Frame} {meth : Method} {c : Code} {D : va_G} {A : Nat → Prop} {post : Option Value → q_S → Prop} {K : Nat → q_K} (C : q_C p s m args meth c cX11_holds 6 RX11 "holds" (some .int) A) (hK : ∀ h ∈ ([21] : List Nat), q_V p l e rm_X11_holds s m args below meth c D A 6 (MQ below (q_Qc D A post) args s rm_X11_holds.cells rm_X11_holds.slots A) h (K h)) : q_V p l e rm_X11_holds s m args below meth c D A 6 (MQ below (q_Qc D A post) args s rm_X11_holds.cells rm_X11_holds.slots A) 106 (k_X11_holds_106 post K) := by
  unfold k_X11_holds_106
  refine q_iinc C (by decide +kernel : decode cX11_holds 106 = .ok (.iinc 5 1, 3)) (by decide) ?_
  refine q_goto C (tgt := 21) (by decide +kernel : decode cX11_holds 109 = .ok (.goto (-88), 3)) (by decide) ?_
  exact hK 21 (by decide)
set_option maxRecDepth 100000 in
theorem v_X11_holds_103 {p : Program} {l : Launch} {e : Env} {s : State} {m : MethodId} {args : Array Value} {below : List Frame} {meth : Method} {c : Code} {D : va_G} {A : Nat → Prop} {post : Option Value → q_S → Prop} {K : Nat → q_K} (C : q_C p s m args meth c cX11_holds 6 RX11 "holds" (some .int) A) (hK : ∀ h ∈ ([21] : List Nat), q_V p l e rm_X11_holds s m args below meth c D A 6 (MQ below (q_Qc D A post) args s rm_X11_holds.cells rm_X11_holds.slots A) h (K h)) : q_V p l e rm_X11_holds s m args below meth c D A 6 (MQ below (q_Qc D A post) args s rm_X11_holds.cells rm_X11_holds.slots A) 103 (k_X11_holds_103 post K) := by
  unfold k_X11_holds_103
  refine q_isub C (by decide +kernel : decode cX11_holds 103 = .ok (.isub, 1)) ?_
  refine q_istore C (by decide +kernel : decode cX11_holds 104 = .ok (.istore 4, 2)) ?_
  exact v_X11_holds_106 C hK
set_option maxRecDepth 100000 in
theorem v_X11_holds_76 {p : Program} {l : Launch} {e : Env} {s : State} {m : MethodId} {args : Array Value} {below : List Frame} {meth : Method} {c : Code} {D : va_G} {A : Nat → Prop} {post : Option Value → q_S → Prop} {K : Nat → q_K} (C : q_C p s m args meth c cX11_holds 6 RX11 "holds" (some .int) A) (hK : ∀ h ∈ ([21] : List Nat), q_V p l e rm_X11_holds s m args below meth c D A 6 (MQ below (q_Qc D A post) args s rm_X11_holds.cells rm_X11_holds.slots A) h (K h)) : q_V p l e rm_X11_holds s m args below meth c D A 6 (MQ below (q_Qc D A post) args s rm_X11_holds.cells rm_X11_holds.slots A) 76 (k_X11_holds_76 post K) := by
  unfold k_X11_holds_76
  refine q_iadd C (by decide +kernel : decode cX11_holds 76 = .ok (.iadd, 1)) ?_
  refine q_istore C (by decide +kernel : decode cX11_holds 77 = .ok (.istore 4, 2)) ?_
  refine q_iload C (by decide +kernel : decode cX11_holds 79 = .ok (.iload 4, 2)) ?_
  refine q_aload_n C (by decide +kernel : decode cX11_holds 81 = .ok (.aload_n 0, 1)) ?_
  refine q_get C (ci := 11) (j := 17) (C0 := RX11) (T := TX11) (N := 35) rfl iX11 giX11 (by decide) w9_59 (by decide +kernel : decode cX11_holds 82 = .ok (.getfield 46, 3)) ?_
  refine q_iload C (by decide +kernel : decode cX11_holds 85 = .ok (.iload 5, 2)) ?_
  refine q_iald C (by decide +kernel : decode cX11_holds 87 = .ok (.iaload, 1)) ?_
  refine q_iload_n C (by decide +kernel : decode cX11_holds 88 = .ok (.iload_n 2, 1)) ?_
  refine q_icne C (tgt := 102) (by decide +kernel : decode cX11_holds 89 = .ok (.if_icmp .ne 13, 3)) (by decide) ?_ ?_
  · refine q_iconst C (by decide +kernel : decode cX11_holds 102 = .ok (.iconst 0, 1)) (by decide) ?_
    exact v_X11_holds_103 C hK
  · refine q_aload_n C (by decide +kernel : decode cX11_holds 92 = .ok (.aload_n 0, 1)) ?_
    refine q_get C (ci := 11) (j := 19) (C0 := RX11) (T := TX11) (N := 35) rfl iX11 giX11 (by decide) w9_61 (by decide +kernel : decode cX11_holds 93 = .ok (.getfield 52, 3)) ?_
    refine q_iload C (by decide +kernel : decode cX11_holds 96 = .ok (.iload 5, 2)) ?_
    refine q_iald C (by decide +kernel : decode cX11_holds 98 = .ok (.iaload, 1)) ?_
    refine q_goto C (tgt := 103) (by decide +kernel : decode cX11_holds 99 = .ok (.goto 4, 3)) (by decide) ?_
    exact v_X11_holds_103 C hK
set_option maxRecDepth 100000 in
theorem v_X11_holds_21 {p : Program} {l : Launch} {e : Env} {s : State} {m : MethodId} {args : Array Value} {below : List Frame} {meth : Method} {c : Code} {D : va_G} {A : Nat → Prop} {post : Option Value → q_S → Prop} {K : Nat → q_K} (C : q_C p s m args meth c cX11_holds 6 RX11 "holds" (some .int) A) (hK : ∀ h ∈ ([21] : List Nat), q_V p l e rm_X11_holds s m args below meth c D A 6 (MQ below (q_Qc D A post) args s rm_X11_holds.cells rm_X11_holds.slots A) h (K h)) : q_V p l e rm_X11_holds s m args below meth c D A 6 (MQ below (q_Qc D A post) args s rm_X11_holds.cells rm_X11_holds.slots A) 21 (k_X11_holds_21 post K) := by
  unfold k_X11_holds_21
  refine q_iload C (by decide +kernel : decode cX11_holds 21 = .ok (.iload 5, 2)) ?_
  refine q_aload_n C (by decide +kernel : decode cX11_holds 23 = .ok (.aload_n 0, 1)) ?_
  refine q_get C (ci := 11) (j := 14) (C0 := RX11) (T := TX11) (N := 35) rfl iX11 giX11 (by decide) w9_57 (by decide +kernel : decode cX11_holds 24 = .ok (.getfield 149, 3)) ?_
  refine q_icge C (tgt := 112) (by decide +kernel : decode cX11_holds 27 = .ok (.if_icmp .ge 85, 3)) (by decide) ?_ ?_
  · refine q_iload C (by decide +kernel : decode cX11_holds 112 = .ok (.iload 4, 2)) ?_
    exact q_iret C rfl (by decide +kernel : decode cX11_holds 114 = .ok (.ireturn, 1))
  · refine q_aload_n C (by decide +kernel : decode cX11_holds 30 = .ok (.aload_n 0, 1)) ?_
    refine q_get C (ci := 11) (j := 16) (C0 := RX11) (T := TX11) (N := 35) rfl iX11 giX11 (by decide) w9_58 (by decide +kernel : decode cX11_holds 31 = .ok (.getfield 43, 3)) ?_
    refine q_iload C (by decide +kernel : decode cX11_holds 34 = .ok (.iload 5, 2)) ?_
    refine q_iald C (by decide +kernel : decode cX11_holds 36 = .ok (.iaload, 1)) ?_
    refine q_iload_n C (by decide +kernel : decode cX11_holds 37 = .ok (.iload_n 1, 1)) ?_
    refine q_icne C (tgt := 106) (by decide +kernel : decode cX11_holds 38 = .ok (.if_icmp .ne 68, 3)) (by decide) ?_ ?_
    · exact v_X11_holds_106 C hK
    · refine q_aload_n C (by decide +kernel : decode cX11_holds 41 = .ok (.aload_n 0, 1)) ?_
      refine q_get C (ci := 11) (j := 15) (C0 := RX11) (T := TX11) (N := 35) rfl iX11 giX11 (by decide) w9_56 (by decide +kernel : decode cX11_holds 42 = .ok (.getfield 40, 3)) ?_
      refine q_iload C (by decide +kernel : decode cX11_holds 45 = .ok (.iload 5, 2)) ?_
      refine q_iald C (by decide +kernel : decode cX11_holds 47 = .ok (.iaload, 1)) ?_
      refine q_iload_n C (by decide +kernel : decode cX11_holds 48 = .ok (.iload_n 3, 1)) ?_
      refine q_icgt C (tgt := 106) (by decide +kernel : decode cX11_holds 49 = .ok (.if_icmp .gt 57, 3)) (by decide) ?_ ?_
      · exact v_X11_holds_106 C hK
      · refine q_iload C (by decide +kernel : decode cX11_holds 52 = .ok (.iload 4, 2)) ?_
        refine q_aload_n C (by decide +kernel : decode cX11_holds 54 = .ok (.aload_n 0, 1)) ?_
        refine q_get C (ci := 11) (j := 18) (C0 := RX11) (T := TX11) (N := 35) rfl iX11 giX11 (by decide) w9_60 (by decide +kernel : decode cX11_holds 55 = .ok (.getfield 49, 3)) ?_
        refine q_iload C (by decide +kernel : decode cX11_holds 58 = .ok (.iload 5, 2)) ?_
        refine q_iald C (by decide +kernel : decode cX11_holds 60 = .ok (.iaload, 1)) ?_
        refine q_iload_n C (by decide +kernel : decode cX11_holds 61 = .ok (.iload_n 2, 1)) ?_
        refine q_icne C (tgt := 75) (by decide +kernel : decode cX11_holds 62 = .ok (.if_icmp .ne 13, 3)) (by decide) ?_ ?_
        · refine q_iconst C (by decide +kernel : decode cX11_holds 75 = .ok (.iconst 0, 1)) (by decide) ?_
          exact v_X11_holds_76 C hK
        · refine q_aload_n C (by decide +kernel : decode cX11_holds 65 = .ok (.aload_n 0, 1)) ?_
          refine q_get C (ci := 11) (j := 19) (C0 := RX11) (T := TX11) (N := 35) rfl iX11 giX11 (by decide) w9_61 (by decide +kernel : decode cX11_holds 66 = .ok (.getfield 52, 3)) ?_
          refine q_iload C (by decide +kernel : decode cX11_holds 69 = .ok (.iload 5, 2)) ?_
          refine q_iald C (by decide +kernel : decode cX11_holds 71 = .ok (.iaload, 1)) ?_
          refine q_goto C (tgt := 76) (by decide +kernel : decode cX11_holds 72 = .ok (.goto 4, 3)) (by decide) ?_
          exact v_X11_holds_76 C hK
theorem u_X11_holds (l : Launch) {sp : q_Sp} (H : ∀ (av : List Value) (σ : q_S) (post : Option Value → q_S → Prop), sp av σ post → ∃ Inv : Nat → Nat → q_K, (∀ K : Nat → q_K, (∀ (h n : Nat) (L : List (Option Value)) (st : List Value) (σ : q_S) (cr sr : Nat), Inv h n L st σ cr sr → K h L st σ cr sr) → k_X11_holds_0 post K (q_L0 av 6) [] σ 0 0) ∧ (∀ (K : Nat → q_K) (n : Nat), (∀ (h m : Nat) (L : List (Option Value)) (st : List Value) (σ : q_S) (cr sr : Nat), m < n → Inv h m L st σ cr sr → K h L st σ cr sr) → ∀ (L : List (Option Value)) (st : List Value) (σ : q_S) (cr sr : Nat), Inv 21 n L st σ cr sr → k_X11_holds_21 post K L st σ cr sr) ∧ av.length ≤ 6 ∧ ∀ v ∈ av, v.category = 1) : q_Ct l yX11_holds cX11_holds 6 (some .int) rm_X11_holds sp := by
  refine q_met (by decide) ?_
  intro D A p e s m args below meth c σ av post C hsp
  obtain ⟨Inv, h1, hh21, h2, h3⟩ := H av σ post hsp
  have hV := q_loops (p := p) (l := l) (e := e) (R := rm_X11_holds) (s := s) (m := m) (args := args) (below := below) (meth := meth) (c := c) (D := D) (A := A) (nL := 6) (Q := MQ below (q_Qc D A post) args s rm_X11_holds.cells rm_X11_holds.slots A) [21] (fun h =>  k_X11_holds_21 post) (fun K hK h hh => ?_) Inv (fun n h hh => ?_)
  · exact ⟨_, v_X11_holds_0 C hV, h1 _ (fun h n L st σ cr sr hi => ⟨n, hi⟩), h2, h3⟩
  · have e9 : h = 21 := by simpa using hh
    subst e9
    exact v_X11_holds_21 C hK
  · have e9 : h = 21 := by simpa using hh
    subst e9
    exact hh21 (fun h L st σ cr sr => ∃ m : Nat, m < n ∧ Inv h m L st σ cr sr) n (fun h m L st σ cr sr hm hi => ⟨m, hm, hi⟩)
theorem t_X11_holds (l : Launch) : q_Ct l yX11_holds cX11_holds 6 (some .int) rm_X11_holds s_X11_holds := u_X11_holds l (by
  intro av σ post h
  unfold s_X11_holds at h
  split at h
  · next mr w p t =>
    obtain ⟨ad, z, g, gp, r, hm, hw, hI, h1⟩ := h
    have ez := nI_self hI.1
    generalize hna : (z 14).toNatClampNeg = na at h1 ez
    have hna6 : na ≤ 1000 := hna ▸ clamp_le 1000 hI.1 hI.2
    refine ⟨fun _ n L st σ' cr sr => ∃ i : Nat, i ≤ na ∧ n = na - i ∧ σ' = σ ∧ st = [] ∧ L = [some (.ref mr), some (.int w), some (.int p), some (.int t), some (.int (holdsF g w p t i)), some (.int (nI i))], ?_, ?_, by simp, by simp [Value.category]⟩
    · intro K hK
      simp only [c_push, c_null, c_iload, c_aload, c_istore, c_astore, c_iinc, c_iadd, c_isub, c_imul, c_iand, c_ineg, c_dup, c_dup2, c_pop, c_ifnull, c_ifnonnull, c_get, c_put, c_iald, c_zald, c_iast, c_zast, c_aald, c_aast, c_alen, c_new, c_newa, c_newq, c_mna, c_oinit, c_max, c_copy, c_iret, c_zret, c_aret, c_vret, q_do, q_rc, c_ifeq, c_ifne, c_iflt, c_ifge, c_ifgt, c_ifle, c_iceq, c_icne, c_iclt, c_icge, c_icgt, c_icle, c_call0, c_call1, c_call2, c_call3, c_call4, c_call5, c_call6, c_call7, q_L0, List.map_cons, List.map_nil, List.replicate, List.cons_append, List.nil_append, List.append_nil, List.length_cons, List.length_nil, List.length_set, Nat.reduceSub, Nat.reduceAdd, Nat.reduceLT, Nat.reduceLeDiff, Nat.zero_add, Nat.add_zero, Nat.sub_zero, Nat.sub_self, List.getElem?_cons_zero, List.getElem?_cons_succ, List.set_cons_zero, List.set_cons_succ, Option.toList_some, Option.toList_none, List.sum_cons, List.sum_nil, true_and, and_true, true_or, or_true, Nat.le_refl, Nat.zero_le, Value.category, Fin.isValue, Fin.val_zero, Fin.val_one, Fin.val_two, Fin.reduceFinMk, q_10, q_01, not_false_eq_true, not_true_eq_false, forall_const, true_implies, false_implies, implies_true, q_ni, q_fi, q_nb0, q_nb1, q_fb0, q_fb1, q_nor, q_nar, q_for, q_far, q_non, q_nan, q_fon, q_fan, imp_false, false_and, and_false, and_self, false_or, or_false, va_rf, refKind, k_X11_holds_0, k_X11_holds_16, k_X11_holds_76, k_X11_holds_103, k_X11_holds_106, k_X11_holds_21, hm.rd, vpi20, hw]
      refine ⟨fun c => hK 21 na _ _ _ _ _ ⟨0, Nat.zero_le _, rfl, rfl, rfl, ?_⟩, fun c => hK 21 na _ _ _ _ _ ⟨0, Nat.zero_le _, rfl, rfl, rfl, ?_⟩⟩
      · rw [holdsF, if_neg c]; rfl
      · rw [holdsF, if_pos c]; rfl
    · rintro K n hK L st σ' cr sr ⟨i, hi, rfl, rfl, rfl, rfl⟩
      have J106 : i < na → k_X11_holds_106 post K [some (.ref mr), some (.int w), some (.int p), some (.int t), some (.int (holdsF g w p t (i + 1))), some (.int (nI i))] [] σ' cr sr := fun hlt => by
        simp only [c_push, c_null, c_iload, c_aload, c_istore, c_astore, c_iinc, c_iadd, c_isub, c_imul, c_iand, c_ineg, c_dup, c_dup2, c_pop, c_ifnull, c_ifnonnull, c_get, c_put, c_iald, c_zald, c_iast, c_zast, c_aald, c_aast, c_alen, c_new, c_newa, c_newq, c_mna, c_oinit, c_max, c_copy, c_iret, c_zret, c_aret, c_vret, q_do, q_rc, c_ifeq, c_ifne, c_iflt, c_ifge, c_ifgt, c_ifle, c_iceq, c_icne, c_iclt, c_icge, c_icgt, c_icle, c_call0, c_call1, c_call2, c_call3, c_call4, c_call5, c_call6, c_call7, q_L0, List.map_cons, List.map_nil, List.replicate, List.cons_append, List.nil_append, List.append_nil, List.length_cons, List.length_nil, List.length_set, Nat.reduceSub, Nat.reduceAdd, Nat.reduceLT, Nat.reduceLeDiff, Nat.zero_add, Nat.add_zero, Nat.sub_zero, Nat.sub_self, List.getElem?_cons_zero, List.getElem?_cons_succ, List.set_cons_zero, List.set_cons_succ, Option.toList_some, Option.toList_none, List.sum_cons, List.sum_nil, true_and, and_true, true_or, or_true, Nat.le_refl, Nat.zero_le, Value.category, Fin.isValue, Fin.val_zero, Fin.val_one, Fin.val_two, Fin.reduceFinMk, q_10, q_01, not_false_eq_true, not_true_eq_false, forall_const, true_implies, false_implies, implies_true, q_ni, q_fi, q_nb0, q_nb1, q_fb0, q_fb1, q_nor, q_nar, q_for, q_far, q_non, q_nan, q_fon, q_fan, imp_false, false_and, and_false, and_self, false_or, or_false, va_rf, refKind, k_X11_holds_106]
        exact hK 21 (na - (i + 1)) _ _ _ _ _ (by omega) ⟨i + 1, by omega, rfl, rfl, rfl, by rw [nI_1]⟩
      simp only [c_push, c_null, c_iload, c_aload, c_istore, c_astore, c_iinc, c_iadd, c_isub, c_imul, c_iand, c_ineg, c_dup, c_dup2, c_pop, c_ifnull, c_ifnonnull, c_get, c_put, c_iald, c_zald, c_iast, c_zast, c_aald, c_aast, c_alen, c_new, c_newa, c_newq, c_mna, c_oinit, c_max, c_copy, c_iret, c_zret, c_aret, c_vret, q_do, q_rc, c_ifeq, c_ifne, c_iflt, c_ifge, c_ifgt, c_ifle, c_iceq, c_icne, c_iclt, c_icge, c_icgt, c_icle, c_call0, c_call1, c_call2, c_call3, c_call4, c_call5, c_call6, c_call7, q_L0, List.map_cons, List.map_nil, List.replicate, List.cons_append, List.nil_append, List.append_nil, List.length_cons, List.length_nil, List.length_set, Nat.reduceSub, Nat.reduceAdd, Nat.reduceLT, Nat.reduceLeDiff, Nat.zero_add, Nat.add_zero, Nat.sub_zero, Nat.sub_self, List.getElem?_cons_zero, List.getElem?_cons_succ, List.set_cons_zero, List.set_cons_succ, Option.toList_some, Option.toList_none, List.sum_cons, List.sum_nil, true_and, and_true, true_or, or_true, Nat.le_refl, Nat.zero_le, Value.category, Fin.isValue, Fin.val_zero, Fin.val_one, Fin.val_two, Fin.reduceFinMk, q_10, q_01, not_false_eq_true, not_true_eq_false, forall_const, true_implies, false_implies, implies_true, q_ni, q_fi, q_nb0, q_nb1, q_fb0, q_fb1, q_nor, q_nar, q_for, q_far, q_non, q_nan, q_fon, q_fan, imp_false, false_and, and_false, and_self, false_or, or_false, va_rf, refKind, k_X11_holds_21, k_X11_holds_76, k_X11_holds_103, hm.rd, vpi1000]
      rw [← ez]
      have E := cl2 (nI na) (nI i) na i rfl rfl (by omega) (by omega)
      rw [E.1, clN (by omega)]
      refine ⟨fun c => ?_, fun c => ?_⟩
      · have e : i = na := by omega
        subst e; exact h1
      · replace J106 := J106 (by omega)
        rw [holdsF] at J106
        have hlo : 0 ≤ nI i := nI_low (by omega)
        have hhi : nI i < 1000 := nI_ltN (N := 1000) (by omega)
        clear hK h1 hm E
        grind (splits := 40)
  · exact h.elim)
end
section
-- pledgedBy, freeOf, areTwo
def plF (g : Nat → Nat → Int32) (w p : Nat) : Nat → Int32
  | 0 => 0
  | q + 1 => plF g w p q + g 20 (144 * w + 12 * p + q)
def s_X11_pledgedBy : q_Sp := fun av σ post => match av with
  | [.ref mr, .int w, .int p] => ∃ ad z g gp r, mOKx σ mr ad z g gp r ∧ (0 ≤ w ∧ w < 20) ∧ (0 ≤ p ∧ p < 12) ∧ post (some (.int (plF g w.toNatClampNeg p.toNatClampNeg 12))) σ
  | _ => False
theorem w9_62 : (.fieldLink RX11 55 (TX11 20).1 (TX11 20).2.1 (TX11 20).2.2.1 : Cond) ∈ lw_tbl := by decide +kernel
def rm_X11_pledgedBy : Room := { frames := 0, cells := 0, slots := 0, locals := 0 }
def k_X11_pledgedBy_0 (post : Option Value → q_S → Prop) (K : Nat → q_K) : q_K := (c_push 0 (c_istore 3 (c_push 0 (c_istore 4 (K 5)))))
def k_X11_pledgedBy_5 (post : Option Value → q_S → Prop) (K : Nat → q_K) : q_K := (c_iload 4 (c_push 12 (c_icge (c_iload 3 (c_iret post)) (c_iload 3 (c_aload 0 (c_get 11 20 (c_push 144 (c_iload 1 (c_imul (c_push 12 (c_iload 2 (c_imul (c_iadd (c_iload 4 (c_iadd (c_iald (c_iadd (c_istore 3 (c_iinc 4 1 (K 5))))))))))))))))))))
set_option maxRecDepth 100000 in
theorem v_X11_pledgedBy_0 {p : Program} {l : Launch} {e : Env} {s : State} {m : MethodId} {args : Array Value} {below : List Frame} {meth : Method} {c : Code} {D : va_G} {A : Nat → Prop} {post : Option Value → q_S → Prop} {K : Nat → q_K} (C : q_C p s m args meth c cX11_pledgedBy 5 RX11 "pledgedBy" (some .int) A) (hK : ∀ h ∈ ([5] : List Nat), q_V p l e rm_X11_pledgedBy s m args below meth c D A 5 (MQ below (q_Qc D A post) args s rm_X11_pledgedBy.cells rm_X11_pledgedBy.slots A) h (K h)) : q_V p l e rm_X11_pledgedBy s m args below meth c D A 5 (MQ below (q_Qc D A post) args s rm_X11_pledgedBy.cells rm_X11_pledgedBy.slots A) 0 (k_X11_pledgedBy_0 post K) := by
  unfold k_X11_pledgedBy_0
  refine q_iconst C (by decide +kernel : decode cX11_pledgedBy 0 = .ok (.iconst 0, 1)) (by decide) ?_
  refine q_istore_n C (by decide +kernel : decode cX11_pledgedBy 1 = .ok (.istore_n 3, 1)) ?_
  refine q_iconst C (by decide +kernel : decode cX11_pledgedBy 2 = .ok (.iconst 0, 1)) (by decide) ?_
  refine q_istore C (by decide +kernel : decode cX11_pledgedBy 3 = .ok (.istore 4, 2)) ?_
  exact hK 5 (by decide)
set_option maxRecDepth 100000 in
theorem v_X11_pledgedBy_5 {p : Program} {l : Launch} {e : Env} {s : State} {m : MethodId} {args : Array Value} {below : List Frame} {meth : Method} {c : Code} {D : va_G} {A : Nat → Prop} {post : Option Value → q_S → Prop} {K : Nat → q_K} (C : q_C p s m args meth c cX11_pledgedBy 5 RX11 "pledgedBy" (some .int) A) (hK : ∀ h ∈ ([5] : List Nat), q_V p l e rm_X11_pledgedBy s m args below meth c D A 5 (MQ below (q_Qc D A post) args s rm_X11_pledgedBy.cells rm_X11_pledgedBy.slots A) h (K h)) : q_V p l e rm_X11_pledgedBy s m args below meth c D A 5 (MQ below (q_Qc D A post) args s rm_X11_pledgedBy.cells rm_X11_pledgedBy.slots A) 5 (k_X11_pledgedBy_5 post K) := by
  unfold k_X11_pledgedBy_5
  refine q_iload C (by decide +kernel : decode cX11_pledgedBy 5 = .ok (.iload 4, 2)) ?_
  refine q_bipush C (by decide +kernel : decode cX11_pledgedBy 7 = .ok (.bipush 12, 2)) (by decide) ?_
  refine q_icge C (tgt := 39) (by decide +kernel : decode cX11_pledgedBy 9 = .ok (.if_icmp .ge 30, 3)) (by decide) ?_ ?_
  · refine q_iload_n C (by decide +kernel : decode cX11_pledgedBy 39 = .ok (.iload_n 3, 1)) ?_
    exact q_iret C rfl (by decide +kernel : decode cX11_pledgedBy 40 = .ok (.ireturn, 1))
  · refine q_iload_n C (by decide +kernel : decode cX11_pledgedBy 12 = .ok (.iload_n 3, 1)) ?_
    refine q_aload_n C (by decide +kernel : decode cX11_pledgedBy 13 = .ok (.aload_n 0, 1)) ?_
    refine q_get C (ci := 11) (j := 20) (C0 := RX11) (T := TX11) (N := 35) rfl iX11 giX11 (by decide) w9_62 (by decide +kernel : decode cX11_pledgedBy 14 = .ok (.getfield 55, 3)) ?_
    refine q_sipush C (by decide +kernel : decode cX11_pledgedBy 17 = .ok (.sipush 144, 3)) (by decide) ?_
    refine q_iload_n C (by decide +kernel : decode cX11_pledgedBy 20 = .ok (.iload_n 1, 1)) ?_
    refine q_imul C (by decide +kernel : decode cX11_pledgedBy 21 = .ok (.imul, 1)) ?_
    refine q_bipush C (by decide +kernel : decode cX11_pledgedBy 22 = .ok (.bipush 12, 2)) (by decide) ?_
    refine q_iload_n C (by decide +kernel : decode cX11_pledgedBy 24 = .ok (.iload_n 2, 1)) ?_
    refine q_imul C (by decide +kernel : decode cX11_pledgedBy 25 = .ok (.imul, 1)) ?_
    refine q_iadd C (by decide +kernel : decode cX11_pledgedBy 26 = .ok (.iadd, 1)) ?_
    refine q_iload C (by decide +kernel : decode cX11_pledgedBy 27 = .ok (.iload 4, 2)) ?_
    refine q_iadd C (by decide +kernel : decode cX11_pledgedBy 29 = .ok (.iadd, 1)) ?_
    refine q_iald C (by decide +kernel : decode cX11_pledgedBy 30 = .ok (.iaload, 1)) ?_
    refine q_iadd C (by decide +kernel : decode cX11_pledgedBy 31 = .ok (.iadd, 1)) ?_
    refine q_istore_n C (by decide +kernel : decode cX11_pledgedBy 32 = .ok (.istore_n 3, 1)) ?_
    refine q_iinc C (by decide +kernel : decode cX11_pledgedBy 33 = .ok (.iinc 4 1, 3)) (by decide) ?_
    refine q_goto C (tgt := 5) (by decide +kernel : decode cX11_pledgedBy 36 = .ok (.goto (-31), 3)) (by decide) ?_
    exact hK 5 (by decide)
theorem u_X11_pledgedBy (l : Launch) {sp : q_Sp} (H : ∀ (av : List Value) (σ : q_S) (post : Option Value → q_S → Prop), sp av σ post → ∃ Inv : Nat → Nat → q_K, (∀ K : Nat → q_K, (∀ (h n : Nat) (L : List (Option Value)) (st : List Value) (σ : q_S) (cr sr : Nat), Inv h n L st σ cr sr → K h L st σ cr sr) → k_X11_pledgedBy_0 post K (q_L0 av 5) [] σ 0 0) ∧ (∀ (K : Nat → q_K) (n : Nat), (∀ (h m : Nat) (L : List (Option Value)) (st : List Value) (σ : q_S) (cr sr : Nat), m < n → Inv h m L st σ cr sr → K h L st σ cr sr) → ∀ (L : List (Option Value)) (st : List Value) (σ : q_S) (cr sr : Nat), Inv 5 n L st σ cr sr → k_X11_pledgedBy_5 post K L st σ cr sr) ∧ av.length ≤ 5 ∧ ∀ v ∈ av, v.category = 1) : q_Ct l yX11_pledgedBy cX11_pledgedBy 5 (some .int) rm_X11_pledgedBy sp := by
  refine q_met (by decide) ?_
  intro D A p e s m args below meth c σ av post C hsp
  obtain ⟨Inv, h1, hh5, h2, h3⟩ := H av σ post hsp
  have hV := q_loops (p := p) (l := l) (e := e) (R := rm_X11_pledgedBy) (s := s) (m := m) (args := args) (below := below) (meth := meth) (c := c) (D := D) (A := A) (nL := 5) (Q := MQ below (q_Qc D A post) args s rm_X11_pledgedBy.cells rm_X11_pledgedBy.slots A) [5] (fun h =>  k_X11_pledgedBy_5 post) (fun K hK h hh => ?_) Inv (fun n h hh => ?_)
  · exact ⟨_, v_X11_pledgedBy_0 C hV, h1 _ (fun h n L st σ cr sr hi => ⟨n, hi⟩), h2, h3⟩
  · have e9 : h = 5 := by simpa using hh
    subst e9
    exact v_X11_pledgedBy_5 C hK
  · have e9 : h = 5 := by simpa using hh
    subst e9
    exact hh5 (fun h L st σ cr sr => ∃ m : Nat, m < n ∧ Inv h m L st σ cr sr) n (fun h m L st σ cr sr hm hi => ⟨m, hm, hi⟩)
theorem t_X11_pledgedBy (l : Launch) : q_Ct l yX11_pledgedBy cX11_pledgedBy 5 (some .int) rm_X11_pledgedBy s_X11_pledgedBy := u_X11_pledgedBy l (by
  intro av σ post h
  unfold s_X11_pledgedBy at h
  split at h
  · next mr w p =>
    obtain ⟨ad, z, g, gp, r, hm, hw, hp, h1⟩ := h
    obtain ⟨wn, hwn, rfl, e1⟩ := inR 20 hw.1 hw.2
    obtain ⟨pn, hpn, rfl, e2⟩ := inR 12 hp.1 hp.2
    rw [e1, e2] at h1
    refine ⟨fun _ n L st σ' cr sr => ∃ i : Nat, i ≤ 12 ∧ n = 12 - i ∧ σ' = σ ∧ st = [] ∧ L = [some (.ref mr), some (.int (nI wn)), some (.int (nI pn)), some (.int (plF g wn pn i)), some (.int (nI i))], ?_, ?_, by simp, by simp [Value.category]⟩
    · intro K hK
      simp only [c_push, c_null, c_iload, c_aload, c_istore, c_astore, c_iinc, c_iadd, c_isub, c_imul, c_iand, c_ineg, c_dup, c_dup2, c_pop, c_ifnull, c_ifnonnull, c_get, c_put, c_iald, c_zald, c_iast, c_zast, c_aald, c_aast, c_alen, c_new, c_newa, c_newq, c_mna, c_oinit, c_max, c_copy, c_iret, c_zret, c_aret, c_vret, q_do, q_rc, c_ifeq, c_ifne, c_iflt, c_ifge, c_ifgt, c_ifle, c_iceq, c_icne, c_iclt, c_icge, c_icgt, c_icle, c_call0, c_call1, c_call2, c_call3, c_call4, c_call5, c_call6, c_call7, q_L0, List.map_cons, List.map_nil, List.replicate, List.cons_append, List.nil_append, List.append_nil, List.length_cons, List.length_nil, List.length_set, Nat.reduceSub, Nat.reduceAdd, Nat.reduceLT, Nat.reduceLeDiff, Nat.zero_add, Nat.add_zero, Nat.sub_zero, Nat.sub_self, List.getElem?_cons_zero, List.getElem?_cons_succ, List.set_cons_zero, List.set_cons_succ, Option.toList_some, Option.toList_none, List.sum_cons, List.sum_nil, true_and, and_true, true_or, or_true, Nat.le_refl, Nat.zero_le, Value.category, Fin.isValue, Fin.val_zero, Fin.val_one, Fin.val_two, Fin.reduceFinMk, q_10, q_01, not_false_eq_true, not_true_eq_false, forall_const, true_implies, false_implies, implies_true, q_ni, q_fi, q_nb0, q_nb1, q_fb0, q_fb1, q_nor, q_nar, q_for, q_far, q_non, q_nan, q_fon, q_fan, imp_false, false_and, and_false, and_self, false_or, or_false, va_rf, refKind, k_X11_pledgedBy_0, k_X11_pledgedBy_5]
      exact hK _ 12 _ _ _ _ _ ⟨0, Nat.zero_le _, rfl, rfl, rfl, rfl⟩
    · rintro K n hK L st σ' cr sr ⟨i, hi, rfl, rfl, rfl, rfl⟩
      simp only [c_push, c_null, c_iload, c_aload, c_istore, c_astore, c_iinc, c_iadd, c_isub, c_imul, c_iand, c_ineg, c_dup, c_dup2, c_pop, c_ifnull, c_ifnonnull, c_get, c_put, c_iald, c_zald, c_iast, c_zast, c_aald, c_aast, c_alen, c_new, c_newa, c_newq, c_mna, c_oinit, c_max, c_copy, c_iret, c_zret, c_aret, c_vret, q_do, q_rc, c_ifeq, c_ifne, c_iflt, c_ifge, c_ifgt, c_ifle, c_iceq, c_icne, c_iclt, c_icge, c_icgt, c_icle, c_call0, c_call1, c_call2, c_call3, c_call4, c_call5, c_call6, c_call7, q_L0, List.map_cons, List.map_nil, List.replicate, List.cons_append, List.nil_append, List.append_nil, List.length_cons, List.length_nil, List.length_set, Nat.reduceSub, Nat.reduceAdd, Nat.reduceLT, Nat.reduceLeDiff, Nat.zero_add, Nat.add_zero, Nat.sub_zero, Nat.sub_self, List.getElem?_cons_zero, List.getElem?_cons_succ, List.set_cons_zero, List.set_cons_succ, Option.toList_some, Option.toList_none, List.sum_cons, List.sum_nil, true_and, and_true, true_or, or_true, Nat.le_refl, Nat.zero_le, Value.category, Fin.isValue, Fin.val_zero, Fin.val_one, Fin.val_two, Fin.reduceFinMk, q_10, q_01, not_false_eq_true, not_true_eq_false, forall_const, true_implies, false_implies, implies_true, q_ni, q_fi, q_nb0, q_nb1, q_fb0, q_fb1, q_nor, q_nar, q_for, q_far, q_non, q_nan, q_fon, q_fan, imp_false, false_and, and_false, and_self, false_or, or_false, va_rf, refKind, k_X11_pledgedBy_0, k_X11_pledgedBy_5, hm.rd, vpi2880]
      have E := cl2 12 (nI i) 12 i rfl rfl (by omega) (by omega)
      rw [E.1, idx20, clN (by omega)]
      refine ⟨fun c => ?_, fun c => ⟨⟨nI_low (by omega), nI_ltN (N := 2880) (by omega)⟩, hK _ (12 - (i + 1)) _ _ _ _ _ (by omega) ⟨i + 1, by omega, rfl, rfl, rfl, ?_⟩⟩⟩
      · have e : i = 12 := by omega
        subst e; exact h1
      · rw [nI_1, plF]
  · exact h.elim)
def mvF (z : Nat → Int32) : Nat := (z 14).toNatClampNeg
def freeF (z : Nat → Int32) (g : Nat → Nat → Int32) (w p : Int32) : Int32 := holdsF g w p (z 0) (mvF z) - plF g w.toNatClampNeg p.toNatClampNeg 12
def s_X11_freeOf : q_Sp := fun av σ post => match av with
  | [.ref mr, .int w, .int p] => ∃ ad z g gp r, mOKx σ mr ad z g gp r ∧ (0 ≤ w ∧ w < 20) ∧ (0 ≤ p ∧ p < 12) ∧ (0 ≤ z 14 ∧ z 14 ≤ 1000) ∧ post (some (.int (freeF z g w p))) σ
  | _ => False
theorem w9_63 : (.code yX11_holds cX11_holds 6 (some .int) : Cond) ∈ lw_tbl := by decide +kernel
theorem w9_64 : (.methodLink RX11 110 yX11_holds : Cond) ∈ lw_tbl := by decide +kernel
theorem w9_65 : (.instanceMethod yX11_holds : Cond) ∈ lw_tbl := by decide +kernel
theorem w9_66 : (.selects RX11 yX11_holds yX11_holds : Cond) ∈ lw_tbl := by decide +kernel
theorem w9_67 : (.code yX11_pledgedBy cX11_pledgedBy 5 (some .int) : Cond) ∈ lw_tbl := by decide +kernel
theorem w9_68 : (.methodLink RX11 152 yX11_pledgedBy : Cond) ∈ lw_tbl := by decide +kernel
theorem w9_69 : (.instanceMethod yX11_pledgedBy : Cond) ∈ lw_tbl := by decide +kernel
theorem w9_70 : (.selects RX11 yX11_pledgedBy yX11_pledgedBy : Cond) ∈ lw_tbl := by decide +kernel
def rm_X11_freeOf : Room := { frames := 1, cells := 0, slots := 0, locals := 25 }
def k_X11_freeOf_0 (post : Option Value → q_S → Prop) (K : Nat → q_K) : q_K := (c_aload 0 (c_iload 1 (c_iload 2 (c_aload 0 (c_get 11 0 (c_call4 (some 11) s_X11_holds 0 0 (c_aload 0 (c_iload 1 (c_iload 2 (c_call3 (some 11) s_X11_pledgedBy 0 0 (c_isub (c_iret post))))))))))))
set_option maxRecDepth 100000 in
theorem v_X11_freeOf_0 {p : Program} {l : Launch} {e : Env} {s : State} {m : MethodId} {args : Array Value} {below : List Frame} {meth : Method} {c : Code} {D : va_G} {A : Nat → Prop} {post : Option Value → q_S → Prop} {K : Nat → q_K} (C : q_C p s m args meth c cX11_freeOf 3 RX11 "freeOf" (some .int) A) (hK : ∀ h ∈ ([] : List Nat), q_V p l e rm_X11_freeOf s m args below meth c D A 3 (MQ below (q_Qc D A post) args s rm_X11_freeOf.cells rm_X11_freeOf.slots A) h (K h)) : q_V p l e rm_X11_freeOf s m args below meth c D A 3 (MQ below (q_Qc D A post) args s rm_X11_freeOf.cells rm_X11_freeOf.slots A) 0 (k_X11_freeOf_0 post K) := by
  unfold k_X11_freeOf_0
  refine q_aload_n C (by decide +kernel : decode cX11_freeOf 0 = .ok (.aload_n 0, 1)) ?_
  refine q_iload_n C (by decide +kernel : decode cX11_freeOf 1 = .ok (.iload_n 1, 1)) ?_
  refine q_iload_n C (by decide +kernel : decode cX11_freeOf 2 = .ok (.iload_n 2, 1)) ?_
  refine q_aload_n C (by decide +kernel : decode cX11_freeOf 3 = .ok (.aload_n 0, 1)) ?_
  refine q_get C (ci := 11) (j := 0) (C0 := RX11) (T := TX11) (N := 35) rfl iX11 giX11 (by decide) w9_10 (by decide +kernel : decode cX11_freeOf 4 = .ok (.getfield 96, 3)) ?_
  refine q_call4 C (q_coV C (np := 3) (ci := 11) (rc := (RX11, TX11, 35)) (t_X11_holds l) w9_63 rfl rfl w9_64 w9_65 w9_66 w9_6 (by decide +kernel) (by decide +kernel : decode cX11_freeOf 7 = .ok (.invokevirtual 110, 3)) (by decide)) ?_
  refine q_aload_n C (by decide +kernel : decode cX11_freeOf 10 = .ok (.aload_n 0, 1)) ?_
  refine q_iload_n C (by decide +kernel : decode cX11_freeOf 11 = .ok (.iload_n 1, 1)) ?_
  refine q_iload_n C (by decide +kernel : decode cX11_freeOf 12 = .ok (.iload_n 2, 1)) ?_
  refine q_call3 C (q_coV C (np := 2) (ci := 11) (rc := (RX11, TX11, 35)) (t_X11_pledgedBy l) w9_67 rfl rfl w9_68 w9_69 w9_70 w9_6 (by decide +kernel) (by decide +kernel : decode cX11_freeOf 13 = .ok (.invokevirtual 152, 3)) (by decide)) ?_
  refine q_isub C (by decide +kernel : decode cX11_freeOf 16 = .ok (.isub, 1)) ?_
  exact q_iret C rfl (by decide +kernel : decode cX11_freeOf 17 = .ok (.ireturn, 1))
theorem u_X11_freeOf (l : Launch) {sp : q_Sp} (H : ∀ (av : List Value) (σ : q_S) (post : Option Value → q_S → Prop), sp av σ post → k_X11_freeOf_0 post (fun _ _ _ _ _ _ => False) (q_L0 av 3) [] σ 0 0 ∧ av.length ≤ 3 ∧ ∀ v ∈ av, v.category = 1) : q_Ct l yX11_freeOf cX11_freeOf 3 (some .int) rm_X11_freeOf sp := by
  refine q_met (by decide) ?_
  intro D A p e s m args below meth c σ av post C hsp
  obtain ⟨h1, h2, h3⟩ := H av σ post hsp
  exact ⟨_, v_X11_freeOf_0 (K := fun _ _ _ _ _ _ => False) C (fun h hh => by cases hh), h1, h2, h3⟩
theorem t_X11_freeOf (l : Launch) : q_Ct l yX11_freeOf cX11_freeOf 3 (some .int) rm_X11_freeOf s_X11_freeOf := u_X11_freeOf l (by
  intro av σ post h
  unfold s_X11_freeOf at h
  split at h
  · next mr w p =>
    refine ⟨?_, by simp, by simp [Value.category]⟩
    obtain ⟨ad, z, g, gp, r, hm, hw, hp, hI, h1⟩ := h
    simp only [c_push, c_null, c_iload, c_aload, c_istore, c_astore, c_iinc, c_iadd, c_isub, c_imul, c_iand, c_ineg, c_dup, c_dup2, c_pop, c_ifnull, c_ifnonnull, c_get, c_put, c_iald, c_zald, c_iast, c_zast, c_aald, c_aast, c_alen, c_new, c_newa, c_newq, c_mna, c_oinit, c_max, c_copy, c_iret, c_zret, c_aret, c_vret, q_do, q_rc, c_ifeq, c_ifne, c_iflt, c_ifge, c_ifgt, c_ifle, c_iceq, c_icne, c_iclt, c_icge, c_icgt, c_icle, c_call0, c_call1, c_call2, c_call3, c_call4, c_call5, c_call6, c_call7, q_L0, List.map_cons, List.map_nil, List.replicate, List.cons_append, List.nil_append, List.append_nil, List.length_cons, List.length_nil, List.length_set, Nat.reduceSub, Nat.reduceAdd, Nat.reduceLT, Nat.reduceLeDiff, Nat.zero_add, Nat.add_zero, Nat.sub_zero, Nat.sub_self, List.getElem?_cons_zero, List.getElem?_cons_succ, List.set_cons_zero, List.set_cons_succ, Option.toList_some, Option.toList_none, List.sum_cons, List.sum_nil, true_and, and_true, true_or, or_true, Nat.le_refl, Nat.zero_le, Value.category, Fin.isValue, Fin.val_zero, Fin.val_one, Fin.val_two, Fin.reduceFinMk, q_10, q_01, not_false_eq_true, not_true_eq_false, forall_const, true_implies, false_implies, implies_true, q_ni, q_fi, q_nb0, q_nb1, q_fb0, q_fb1, q_nor, q_nar, q_for, q_far, q_non, q_nan, q_fon, q_fan, imp_false, false_and, and_false, and_self, false_or, or_false, va_rf, refKind, k_X11_freeOf_0, hm.rd]
    refine ⟨ad, z, g, gp, r, hm, hw, hI, ?_⟩
    simp only [c_push, c_null, c_iload, c_aload, c_istore, c_astore, c_iinc, c_iadd, c_isub, c_imul, c_iand, c_ineg, c_dup, c_dup2, c_pop, c_ifnull, c_ifnonnull, c_get, c_put, c_iald, c_zald, c_iast, c_zast, c_aald, c_aast, c_alen, c_new, c_newa, c_newq, c_mna, c_oinit, c_max, c_copy, c_iret, c_zret, c_aret, c_vret, q_do, q_rc, c_ifeq, c_ifne, c_iflt, c_ifge, c_ifgt, c_ifle, c_iceq, c_icne, c_iclt, c_icge, c_icgt, c_icle, c_call0, c_call1, c_call2, c_call3, c_call4, c_call5, c_call6, c_call7, q_L0, List.map_cons, List.map_nil, List.replicate, List.cons_append, List.nil_append, List.append_nil, List.length_cons, List.length_nil, List.length_set, Nat.reduceSub, Nat.reduceAdd, Nat.reduceLT, Nat.reduceLeDiff, Nat.zero_add, Nat.add_zero, Nat.sub_zero, Nat.sub_self, List.getElem?_cons_zero, List.getElem?_cons_succ, List.set_cons_zero, List.set_cons_succ, Option.toList_some, Option.toList_none, List.sum_cons, List.sum_nil, true_and, and_true, true_or, or_true, Nat.le_refl, Nat.zero_le, Value.category, Fin.isValue, Fin.val_zero, Fin.val_one, Fin.val_two, Fin.reduceFinMk, q_10, q_01, not_false_eq_true, not_true_eq_false, forall_const, true_implies, false_implies, implies_true, q_ni, q_fi, q_nb0, q_nb1, q_fb0, q_fb1, q_nor, q_nar, q_for, q_far, q_non, q_nan, q_fon, q_fan, imp_false, false_and, and_false, and_self, false_or, or_false, va_rf, refKind, hm.rd]
    refine ⟨ad, z, g, gp, r, hm, hw, hp, ?_⟩
    simp only [c_push, c_null, c_iload, c_aload, c_istore, c_astore, c_iinc, c_iadd, c_isub, c_imul, c_iand, c_ineg, c_dup, c_dup2, c_pop, c_ifnull, c_ifnonnull, c_get, c_put, c_iald, c_zald, c_iast, c_zast, c_aald, c_aast, c_alen, c_new, c_newa, c_newq, c_mna, c_oinit, c_max, c_copy, c_iret, c_zret, c_aret, c_vret, q_do, q_rc, c_ifeq, c_ifne, c_iflt, c_ifge, c_ifgt, c_ifle, c_iceq, c_icne, c_iclt, c_icge, c_icgt, c_icle, c_call0, c_call1, c_call2, c_call3, c_call4, c_call5, c_call6, c_call7, q_L0, List.map_cons, List.map_nil, List.replicate, List.cons_append, List.nil_append, List.append_nil, List.length_cons, List.length_nil, List.length_set, Nat.reduceSub, Nat.reduceAdd, Nat.reduceLT, Nat.reduceLeDiff, Nat.zero_add, Nat.add_zero, Nat.sub_zero, Nat.sub_self, List.getElem?_cons_zero, List.getElem?_cons_succ, List.set_cons_zero, List.set_cons_succ, Option.toList_some, Option.toList_none, List.sum_cons, List.sum_nil, true_and, and_true, true_or, or_true, Nat.le_refl, Nat.zero_le, Value.category, Fin.isValue, Fin.val_zero, Fin.val_one, Fin.val_two, Fin.reduceFinMk, q_10, q_01, not_false_eq_true, not_true_eq_false, forall_const, true_implies, false_implies, implies_true, q_ni, q_fi, q_nb0, q_nb1, q_fb0, q_fb1, q_nor, q_nar, q_for, q_far, q_non, q_nan, q_fon, q_fan, imp_false, false_and, and_false, and_self, false_or, or_false, va_rf, refKind]
    exact h1
  · exact h.elim)
def s_X11_areTwo : q_Sp := fun av σ post => match av with
  | [.ref mr, .int w, .int p, .int q] => (match q_fld σ mr 11 11 with
    | some (.int nw) => (match q_fld σ mr 11 1 with
      | some (.int np) => ((0 ≤ nw ∧ nw ≤ 20) ∧ (0 ≤ np ∧ np ≤ 12)) ∧ ((0 ≤ w ∧ w < nw) ∧ (0 ≤ p ∧ p < np) ∧ (0 ≤ q ∧ q < np) ∧ ¬ p = q → post (some (.int 1)) σ) ∧ (¬ ((0 ≤ w ∧ w < nw) ∧ (0 ≤ p ∧ p < np) ∧ (0 ≤ q ∧ q < np) ∧ ¬ p = q) → post (some (.int 0)) σ)
      | _ => False)
    | _ => False)
  | _ => False
theorem q_fld_oc {σ : q_S} {a ci k : Nat} {v : Value} (h : q_fld σ a ci k = some v) : q_oc σ a = some ci := by
  obtain ⟨fs, e, -⟩ := q_fld_some h
  simp only [q_oc, e]
def rm_X11_areTwo : Room := { frames := 2, cells := 0, slots := 0, locals := 43 }
def k_X11_areTwo_34 (post : Option Value → q_S → Prop) (K : Nat → q_K) : q_K := (c_zret post)
def k_X11_areTwo_33 (post : Option Value → q_S → Prop) (K : Nat → q_K) : q_K := (c_push 0 (k_X11_areTwo_34 post K))
def k_X11_areTwo_0 (post : Option Value → q_S → Prop) (K : Nat → q_K) : q_K := (c_aload 0 (c_iload 1 (c_call2 (some 11) s_X11_isWork 0 0 (c_ifeq (k_X11_areTwo_33 post K) (c_aload 0 (c_iload 2 (c_call2 (some 11) s_X11_isPerson 0 0 (c_ifeq (k_X11_areTwo_33 post K) (c_aload 0 (c_iload 3 (c_call2 (some 11) s_X11_isPerson 0 0 (c_ifeq (k_X11_areTwo_33 post K) (c_iload 2 (c_iload 3 (c_iceq (k_X11_areTwo_33 post K) (c_push 1 (k_X11_areTwo_34 post K)))))))))))))))))
set_option maxRecDepth 100000 in
theorem v_X11_areTwo_34 {p : Program} {l : Launch} {e : Env} {s : State} {m : MethodId} {args : Array Value} {below : List Frame} {meth : Method} {c : Code} {D : va_G} {A : Nat → Prop} {post : Option Value → q_S → Prop} {K : Nat → q_K} (C : q_C p s m args meth c cX11_areTwo 4 RX11 "areTwo" (some .boolean) A) (hK : ∀ h ∈ ([] : List Nat), q_V p l e rm_X11_areTwo s m args below meth c D A 4 (MQ below (q_Qc D A post) args s rm_X11_areTwo.cells rm_X11_areTwo.slots A) h (K h)) : q_V p l e rm_X11_areTwo s m args below meth c D A 4 (MQ below (q_Qc D A post) args s rm_X11_areTwo.cells rm_X11_areTwo.slots A) 34 (k_X11_areTwo_34 post K) := by
  unfold k_X11_areTwo_34
  exact q_zret C rfl (by decide +kernel : decode cX11_areTwo 34 = .ok (.ireturn, 1))
set_option maxRecDepth 100000 in
theorem v_X11_areTwo_33 {p : Program} {l : Launch} {e : Env} {s : State} {m : MethodId} {args : Array Value} {below : List Frame} {meth : Method} {c : Code} {D : va_G} {A : Nat → Prop} {post : Option Value → q_S → Prop} {K : Nat → q_K} (C : q_C p s m args meth c cX11_areTwo 4 RX11 "areTwo" (some .boolean) A) (hK : ∀ h ∈ ([] : List Nat), q_V p l e rm_X11_areTwo s m args below meth c D A 4 (MQ below (q_Qc D A post) args s rm_X11_areTwo.cells rm_X11_areTwo.slots A) h (K h)) : q_V p l e rm_X11_areTwo s m args below meth c D A 4 (MQ below (q_Qc D A post) args s rm_X11_areTwo.cells rm_X11_areTwo.slots A) 33 (k_X11_areTwo_33 post K) := by
  unfold k_X11_areTwo_33
  refine q_iconst C (by decide +kernel : decode cX11_areTwo 33 = .ok (.iconst 0, 1)) (by decide) ?_
  exact v_X11_areTwo_34 C hK
set_option maxRecDepth 100000 in
theorem v_X11_areTwo_0 {p : Program} {l : Launch} {e : Env} {s : State} {m : MethodId} {args : Array Value} {below : List Frame} {meth : Method} {c : Code} {D : va_G} {A : Nat → Prop} {post : Option Value → q_S → Prop} {K : Nat → q_K} (C : q_C p s m args meth c cX11_areTwo 4 RX11 "areTwo" (some .boolean) A) (hK : ∀ h ∈ ([] : List Nat), q_V p l e rm_X11_areTwo s m args below meth c D A 4 (MQ below (q_Qc D A post) args s rm_X11_areTwo.cells rm_X11_areTwo.slots A) h (K h)) : q_V p l e rm_X11_areTwo s m args below meth c D A 4 (MQ below (q_Qc D A post) args s rm_X11_areTwo.cells rm_X11_areTwo.slots A) 0 (k_X11_areTwo_0 post K) := by
  unfold k_X11_areTwo_0
  refine q_aload_n C (by decide +kernel : decode cX11_areTwo 0 = .ok (.aload_n 0, 1)) ?_
  refine q_iload_n C (by decide +kernel : decode cX11_areTwo 1 = .ok (.iload_n 1, 1)) ?_
  refine q_call2 C (q_coV C (np := 1) (ci := 11) (rc := (RX11, TX11, 35)) (t_X11_isWork l) w9_48 rfl rfl w9_49 w9_50 w9_51 w9_6 (by decide +kernel) (by decide +kernel : decode cX11_areTwo 2 = .ok (.invokevirtual 140, 3)) (by decide)) ?_
  refine q_ifeq C (tgt := 33) (by decide +kernel : decode cX11_areTwo 5 = .ok (.ifCond .eq 28, 3)) (by decide) ?_ ?_
  · exact v_X11_areTwo_33 C hK
  · refine q_aload_n C (by decide +kernel : decode cX11_areTwo 8 = .ok (.aload_n 0, 1)) ?_
    refine q_iload_n C (by decide +kernel : decode cX11_areTwo 9 = .ok (.iload_n 2, 1)) ?_
    refine q_call2 C (q_coV C (np := 1) (ci := 11) (rc := (RX11, TX11, 35)) (t_X11_isPerson l) w9_13 rfl rfl w9_14 w9_15 w9_16 w9_6 (by decide +kernel) (by decide +kernel : decode cX11_areTwo 10 = .ok (.invokevirtual 106, 3)) (by decide)) ?_
    refine q_ifeq C (tgt := 33) (by decide +kernel : decode cX11_areTwo 13 = .ok (.ifCond .eq 20, 3)) (by decide) ?_ ?_
    · exact v_X11_areTwo_33 C hK
    · refine q_aload_n C (by decide +kernel : decode cX11_areTwo 16 = .ok (.aload_n 0, 1)) ?_
      refine q_iload_n C (by decide +kernel : decode cX11_areTwo 17 = .ok (.iload_n 3, 1)) ?_
      refine q_call2 C (q_coV C (np := 1) (ci := 11) (rc := (RX11, TX11, 35)) (t_X11_isPerson l) w9_13 rfl rfl w9_14 w9_15 w9_16 w9_6 (by decide +kernel) (by decide +kernel : decode cX11_areTwo 18 = .ok (.invokevirtual 106, 3)) (by decide)) ?_
      refine q_ifeq C (tgt := 33) (by decide +kernel : decode cX11_areTwo 21 = .ok (.ifCond .eq 12, 3)) (by decide) ?_ ?_
      · exact v_X11_areTwo_33 C hK
      · refine q_iload_n C (by decide +kernel : decode cX11_areTwo 24 = .ok (.iload_n 2, 1)) ?_
        refine q_iload_n C (by decide +kernel : decode cX11_areTwo 25 = .ok (.iload_n 3, 1)) ?_
        refine q_iceq C (tgt := 33) (by decide +kernel : decode cX11_areTwo 26 = .ok (.if_icmp .eq 7, 3)) (by decide) ?_ ?_
        · exact v_X11_areTwo_33 C hK
        · refine q_iconst C (by decide +kernel : decode cX11_areTwo 29 = .ok (.iconst 1, 1)) (by decide) ?_
          refine q_goto C (tgt := 34) (by decide +kernel : decode cX11_areTwo 30 = .ok (.goto 4, 3)) (by decide) ?_
          exact v_X11_areTwo_34 C hK
theorem u_X11_areTwo (l : Launch) {sp : q_Sp} (H : ∀ (av : List Value) (σ : q_S) (post : Option Value → q_S → Prop), sp av σ post → k_X11_areTwo_0 post (fun _ _ _ _ _ _ => False) (q_L0 av 4) [] σ 0 0 ∧ av.length ≤ 4 ∧ ∀ v ∈ av, v.category = 1) : q_Ct l yX11_areTwo cX11_areTwo 4 (some .boolean) rm_X11_areTwo sp := by
  refine q_met (by decide) ?_
  intro D A p e s m args below meth c σ av post C hsp
  obtain ⟨h1, h2, h3⟩ := H av σ post hsp
  exact ⟨_, v_X11_areTwo_0 (K := fun _ _ _ _ _ _ => False) C (fun h hh => by cases hh), h1, h2, h3⟩
theorem t_X11_areTwo (l : Launch) : q_Ct l yX11_areTwo cX11_areTwo 4 (some .boolean) rm_X11_areTwo s_X11_areTwo := u_X11_areTwo l (by
  intro av σ post h
  unfold s_X11_areTwo at h
  split at h
  · split at h
    · next hf =>
      split at h
      · next hf2 =>
        refine ⟨?_, by simp, by simp [Value.category]⟩
        simp only [c_push, c_null, c_iload, c_aload, c_istore, c_astore, c_iinc, c_iadd, c_isub, c_imul, c_iand, c_ineg, c_dup, c_dup2, c_pop, c_ifnull, c_ifnonnull, c_get, c_put, c_iald, c_zald, c_iast, c_zast, c_aald, c_aast, c_alen, c_new, c_newa, c_newq, c_mna, c_oinit, c_max, c_copy, c_iret, c_zret, c_aret, c_vret, q_do, q_rc, c_ifeq, c_ifne, c_iflt, c_ifge, c_ifgt, c_ifle, c_iceq, c_icne, c_iclt, c_icge, c_icgt, c_icle, c_call0, c_call1, c_call2, c_call3, c_call4, c_call5, c_call6, c_call7, q_L0, List.map_cons, List.map_nil, List.replicate, List.cons_append, List.nil_append, List.append_nil, List.length_cons, List.length_nil, List.length_set, Nat.reduceSub, Nat.reduceAdd, Nat.reduceLT, Nat.reduceLeDiff, Nat.zero_add, Nat.add_zero, Nat.sub_zero, Nat.sub_self, List.getElem?_cons_zero, List.getElem?_cons_succ, List.set_cons_zero, List.set_cons_succ, Option.toList_some, Option.toList_none, List.sum_cons, List.sum_nil, true_and, and_true, true_or, or_true, Nat.le_refl, Nat.zero_le, Value.category, Fin.isValue, Fin.val_zero, Fin.val_one, Fin.val_two, Fin.reduceFinMk, q_10, q_01, not_false_eq_true, not_true_eq_false, forall_const, true_implies, false_implies, implies_true, q_ni, q_fi, q_nb0, q_nb1, q_fb0, q_fb1, q_nor, q_nar, q_for, q_far, q_non, q_nan, q_fon, q_fan, imp_false, false_and, and_false, and_self, false_or, or_false, va_rf, refKind, k_X11_areTwo_0, k_X11_areTwo_33, k_X11_areTwo_34, hf, hf2, q_fld_oc hf, s_X11_isWork, s_X11_isPerson]
        grind (splits := 40)
      · exact h.elim
    · exact h.elim
  · exact h.elim)
-- sell
abbrev isW (z : Nat → Int32) (w : Int32) : Prop := 0 ≤ w ∧ w < z 11
abbrev isP (z : Nat → Int32) (p : Int32) : Prop := 0 ≤ p ∧ p < z 1
abbrev twoF (z : Nat → Int32) (w p q : Int32) : Prop := isW z w ∧ isP z p ∧ isP z q ∧ ¬ p = q
def F_sell (z : Nat → Int32) (g : Nat → Nat → Int32) (w a b n : Int32) : Int32 × (Nat → Int32) × (Nat → Nat → Int32) :=
  if twoF z w a b ∧ 1 ≤ n ∧ n ≤ 16 then if freeF z g w a < n ∨ ¬ g 3 b.toNatClampNeg = -1 then (-3, z, g) else (1, upd z 14 (z 14 + 1), moveF z g w a b n) else (-2, z, g)
def s_X11_sell : q_Sp := fun av σ post => match av with
  | [.ref mr, .int w, .int a, .int b, .int n] => ∃ ad z g, mOK σ mr ad z g ∧ I1 z ∧ z 14 < 1000 ∧ ∀ σ', mOK σ' mr ad (F_sell z g w a b n).2.1 (F_sell z g w a b n).2.2 → post (some (.int (F_sell z g w a b n).1)) σ'
  | _ => False
theorem w9_71 : (.code yX11_areTwo cX11_areTwo 4 (some .boolean) : Cond) ∈ lw_tbl := by decide +kernel
theorem w9_72 : (.methodLink RX11 155 yX11_areTwo : Cond) ∈ lw_tbl := by decide +kernel
theorem w9_73 : (.instanceMethod yX11_areTwo : Cond) ∈ lw_tbl := by decide +kernel
theorem w9_74 : (.selects RX11 yX11_areTwo yX11_areTwo : Cond) ∈ lw_tbl := by decide +kernel
theorem w9_75 : (.code yX11_freeOf cX11_freeOf 3 (some .int) : Cond) ∈ lw_tbl := by decide +kernel
theorem w9_76 : (.methodLink RX11 158 yX11_freeOf : Cond) ∈ lw_tbl := by decide +kernel
theorem w9_77 : (.instanceMethod yX11_freeOf : Cond) ∈ lw_tbl := by decide +kernel
theorem w9_78 : (.selects RX11 yX11_freeOf yX11_freeOf : Cond) ∈ lw_tbl := by decide +kernel
theorem w9_79 : (.code yX11_move cX11_move 5 none : Cond) ∈ lw_tbl := by decide +kernel
theorem w9_80 : (.methodLink RX11 114 yX11_move : Cond) ∈ lw_tbl := by decide +kernel
theorem w9_81 : (.instanceMethod yX11_move : Cond) ∈ lw_tbl := by decide +kernel
theorem w9_82 : (.selects RX11 yX11_move yX11_move : Cond) ∈ lw_tbl := by decide +kernel
def rm_X11_sell : Room := { frames := 3, cells := 0, slots := 0, locals := 66 }
def k_X11_sell_21 (post : Option Value → q_S → Prop) (K : Nat → q_K) : q_K := (c_push (-2) (c_iret post))
def k_X11_sell_45 (post : Option Value → q_S → Prop) (K : Nat → q_K) : q_K := (c_push (-3) (c_iret post))
def k_X11_sell_0 (post : Option Value → q_S → Prop) (K : Nat → q_K) : q_K := (c_aload 0 (c_iload 1 (c_iload 2 (c_iload 3 (c_call4 (some 11) s_X11_areTwo 0 0 (c_ifeq (k_X11_sell_21 post K) (c_iload 4 (c_push 1 (c_push 16 (c_call3 none s_X11_in 0 0 (c_ifne (c_aload 0 (c_iload 1 (c_iload 2 (c_call3 (some 11) s_X11_freeOf 0 0 (c_iload 4 (c_iclt (k_X11_sell_45 post K) (c_aload 0 (c_get 11 3 (c_iload 3 (c_iald (c_push (-1) (c_iceq (c_aload 0 (c_iload 1 (c_iload 2 (c_iload 3 (c_iload 4 (c_call5 (some 11) s_X11_move 0 0 (c_push 1 (c_iret post)))))))) (k_X11_sell_45 post K))))))))))))) (k_X11_sell_21 post K))))))))))))
set_option maxRecDepth 100000 in
theorem v_X11_sell_21 {p : Program} {l : Launch} {e : Env} {s : State} {m : MethodId} {args : Array Value} {below : List Frame} {meth : Method} {c : Code} {D : va_G} {A : Nat → Prop} {post : Option Value → q_S → Prop} {K : Nat → q_K} (C : q_C p s m args meth c cX11_sell 5 RX11 "sell" (some .int) A) (hK : ∀ h ∈ ([] : List Nat), q_V p l e rm_X11_sell s m args below meth c D A 5 (MQ below (q_Qc D A post) args s rm_X11_sell.cells rm_X11_sell.slots A) h (K h)) : q_V p l e rm_X11_sell s m args below meth c D A 5 (MQ below (q_Qc D A post) args s rm_X11_sell.cells rm_X11_sell.slots A) 21 (k_X11_sell_21 post K) := by
  unfold k_X11_sell_21
  refine q_bipush C (by decide +kernel : decode cX11_sell 21 = .ok (.bipush (-2), 2)) (by decide) ?_
  exact q_iret C rfl (by decide +kernel : decode cX11_sell 23 = .ok (.ireturn, 1))
set_option maxRecDepth 100000 in
theorem v_X11_sell_45 {p : Program} {l : Launch} {e : Env} {s : State} {m : MethodId} {args : Array Value} {below : List Frame} {meth : Method} {c : Code} {D : va_G} {A : Nat → Prop} {post : Option Value → q_S → Prop} {K : Nat → q_K} (C : q_C p s m args meth c cX11_sell 5 RX11 "sell" (some .int) A) (hK : ∀ h ∈ ([] : List Nat), q_V p l e rm_X11_sell s m args below meth c D A 5 (MQ below (q_Qc D A post) args s rm_X11_sell.cells rm_X11_sell.slots A) h (K h)) : q_V p l e rm_X11_sell s m args below meth c D A 5 (MQ below (q_Qc D A post) args s rm_X11_sell.cells rm_X11_sell.slots A) 45 (k_X11_sell_45 post K) := by
  unfold k_X11_sell_45
  refine q_bipush C (by decide +kernel : decode cX11_sell 45 = .ok (.bipush (-3), 2)) (by decide) ?_
  exact q_iret C rfl (by decide +kernel : decode cX11_sell 47 = .ok (.ireturn, 1))
set_option maxRecDepth 100000 in
theorem v_X11_sell_0 {p : Program} {l : Launch} {e : Env} {s : State} {m : MethodId} {args : Array Value} {below : List Frame} {meth : Method} {c : Code} {D : va_G} {A : Nat → Prop} {post : Option Value → q_S → Prop} {K : Nat → q_K} (C : q_C p s m args meth c cX11_sell 5 RX11 "sell" (some .int) A) (hK : ∀ h ∈ ([] : List Nat), q_V p l e rm_X11_sell s m args below meth c D A 5 (MQ below (q_Qc D A post) args s rm_X11_sell.cells rm_X11_sell.slots A) h (K h)) : q_V p l e rm_X11_sell s m args below meth c D A 5 (MQ below (q_Qc D A post) args s rm_X11_sell.cells rm_X11_sell.slots A) 0 (k_X11_sell_0 post K) := by
  unfold k_X11_sell_0
  refine q_aload_n C (by decide +kernel : decode cX11_sell 0 = .ok (.aload_n 0, 1)) ?_
  refine q_iload_n C (by decide +kernel : decode cX11_sell 1 = .ok (.iload_n 1, 1)) ?_
  refine q_iload_n C (by decide +kernel : decode cX11_sell 2 = .ok (.iload_n 2, 1)) ?_
  refine q_iload_n C (by decide +kernel : decode cX11_sell 3 = .ok (.iload_n 3, 1)) ?_
  refine q_call4 C (q_coV C (np := 3) (ci := 11) (rc := (RX11, TX11, 35)) (t_X11_areTwo l) w9_71 rfl rfl w9_72 w9_73 w9_74 w9_6 (by decide +kernel) (by decide +kernel : decode cX11_sell 4 = .ok (.invokevirtual 155, 3)) (by decide)) ?_
  refine q_ifeq C (tgt := 21) (by decide +kernel : decode cX11_sell 7 = .ok (.ifCond .eq 14, 3)) (by decide) ?_ ?_
  · exact v_X11_sell_21 C hK
  · refine q_iload C (by decide +kernel : decode cX11_sell 10 = .ok (.iload 4, 2)) ?_
    refine q_iconst C (by decide +kernel : decode cX11_sell 12 = .ok (.iconst 1, 1)) (by decide) ?_
    refine q_bipush C (by decide +kernel : decode cX11_sell 13 = .ok (.bipush 16, 2)) (by decide) ?_
    refine q_call3 C (q_coS C (np := 3) (t_X11_in l) w9_5 w9_8 w9_7 w9_6 (by decide +kernel) (by decide +kernel : decode cX11_sell 15 = .ok (.invokestatic 92, 3)) (by decide)) ?_
    refine q_ifne C (tgt := 24) (by decide +kernel : decode cX11_sell 18 = .ok (.ifCond .ne 6, 3)) (by decide) ?_ ?_
    · refine q_aload_n C (by decide +kernel : decode cX11_sell 24 = .ok (.aload_n 0, 1)) ?_
      refine q_iload_n C (by decide +kernel : decode cX11_sell 25 = .ok (.iload_n 1, 1)) ?_
      refine q_iload_n C (by decide +kernel : decode cX11_sell 26 = .ok (.iload_n 2, 1)) ?_
      refine q_call3 C (q_coV C (np := 2) (ci := 11) (rc := (RX11, TX11, 35)) (t_X11_freeOf l) w9_75 rfl rfl w9_76 w9_77 w9_78 w9_6 (by decide +kernel) (by decide +kernel : decode cX11_sell 27 = .ok (.invokevirtual 158, 3)) (by decide)) ?_
      refine q_iload C (by decide +kernel : decode cX11_sell 30 = .ok (.iload 4, 2)) ?_
      refine q_iclt C (tgt := 45) (by decide +kernel : decode cX11_sell 32 = .ok (.if_icmp .lt 13, 3)) (by decide) ?_ ?_
      · exact v_X11_sell_45 C hK
      · refine q_aload_n C (by decide +kernel : decode cX11_sell 35 = .ok (.aload_n 0, 1)) ?_
        refine q_get C (ci := 11) (j := 3) (C0 := RX11) (T := TX11) (N := 35) rfl iX11 giX11 (by decide) w9_12 (by decide +kernel : decode cX11_sell 36 = .ok (.getfield 13, 3)) ?_
        refine q_iload_n C (by decide +kernel : decode cX11_sell 39 = .ok (.iload_n 3, 1)) ?_
        refine q_iald C (by decide +kernel : decode cX11_sell 40 = .ok (.iaload, 1)) ?_
        refine q_iconst C (by decide +kernel : decode cX11_sell 41 = .ok (.iconst (-1), 1)) (by decide) ?_
        refine q_iceq C (tgt := 48) (by decide +kernel : decode cX11_sell 42 = .ok (.if_icmp .eq 6, 3)) (by decide) ?_ ?_
        · refine q_aload_n C (by decide +kernel : decode cX11_sell 48 = .ok (.aload_n 0, 1)) ?_
          refine q_iload_n C (by decide +kernel : decode cX11_sell 49 = .ok (.iload_n 1, 1)) ?_
          refine q_iload_n C (by decide +kernel : decode cX11_sell 50 = .ok (.iload_n 2, 1)) ?_
          refine q_iload_n C (by decide +kernel : decode cX11_sell 51 = .ok (.iload_n 3, 1)) ?_
          refine q_iload C (by decide +kernel : decode cX11_sell 52 = .ok (.iload 4, 2)) ?_
          refine q_call5 C (q_coV C (np := 4) (ci := 11) (rc := (RX11, TX11, 35)) (t_X11_move l) w9_79 rfl rfl w9_80 w9_81 w9_82 w9_6 (by decide +kernel) (by decide +kernel : decode cX11_sell 54 = .ok (.invokevirtual 114, 3)) (by decide)) ?_
          refine q_iconst C (by decide +kernel : decode cX11_sell 57 = .ok (.iconst 1, 1)) (by decide) ?_
          exact q_iret C rfl (by decide +kernel : decode cX11_sell 58 = .ok (.ireturn, 1))
        · exact v_X11_sell_45 C hK
    · exact v_X11_sell_21 C hK
theorem u_X11_sell (l : Launch) {sp : q_Sp} (H : ∀ (av : List Value) (σ : q_S) (post : Option Value → q_S → Prop), sp av σ post → k_X11_sell_0 post (fun _ _ _ _ _ _ => False) (q_L0 av 5) [] σ 0 0 ∧ av.length ≤ 5 ∧ ∀ v ∈ av, v.category = 1) : q_Ct l yX11_sell cX11_sell 5 (some .int) rm_X11_sell sp := by
  refine q_met (by decide) ?_
  intro D A p e s m args below meth c σ av post C hsp
  obtain ⟨h1, h2, h3⟩ := H av σ post hsp
  exact ⟨_, v_X11_sell_0 (K := fun _ _ _ _ _ _ => False) C (fun h hh => by cases hh), h1, h2, h3⟩
theorem t_X11_sell (l : Launch) : q_Ct l yX11_sell cX11_sell 5 (some .int) rm_X11_sell s_X11_sell := u_X11_sell l (by
  intro av σ post h
  unfold s_X11_sell at h
  split at h
  · next mr w a b n =>
    refine ⟨?_, by simp, by simp [Value.category]⟩
    obtain ⟨ad, z, g, ⟨gp, r, hm⟩, hI, hmv, h1⟩ := h
    simp only [c_push, c_null, c_iload, c_aload, c_istore, c_astore, c_iinc, c_iadd, c_isub, c_imul, c_iand, c_ineg, c_dup, c_dup2, c_pop, c_ifnull, c_ifnonnull, c_get, c_put, c_iald, c_zald, c_iast, c_zast, c_aald, c_aast, c_alen, c_new, c_newa, c_newq, c_mna, c_oinit, c_max, c_copy, c_iret, c_zret, c_aret, c_vret, q_do, q_rc, c_ifeq, c_ifne, c_iflt, c_ifge, c_ifgt, c_ifle, c_iceq, c_icne, c_iclt, c_icge, c_icgt, c_icle, c_call0, c_call1, c_call2, c_call3, c_call4, c_call5, c_call6, c_call7, q_L0, List.map_cons, List.map_nil, List.replicate, List.cons_append, List.nil_append, List.append_nil, List.length_cons, List.length_nil, List.length_set, Nat.reduceSub, Nat.reduceAdd, Nat.reduceLT, Nat.reduceLeDiff, Nat.zero_add, Nat.add_zero, Nat.sub_zero, Nat.sub_self, List.getElem?_cons_zero, List.getElem?_cons_succ, List.set_cons_zero, List.set_cons_succ, Option.toList_some, Option.toList_none, List.sum_cons, List.sum_nil, true_and, and_true, true_or, or_true, Nat.le_refl, Nat.zero_le, Value.category, Fin.isValue, Fin.val_zero, Fin.val_one, Fin.val_two, Fin.reduceFinMk, q_10, q_01, not_false_eq_true, not_true_eq_false, forall_const, true_implies, false_implies, implies_true, q_ni, q_fi, q_nb0, q_nb1, q_fb0, q_fb1, q_nor, q_nar, q_for, q_far, q_non, q_nan, q_fon, q_fan, imp_false, false_and, and_false, and_self, false_or, or_false, va_rf, refKind, k_X11_sell_0, k_X11_sell_21, k_X11_sell_45, hm.rd, vpi12, s_X11_areTwo, s_X11_in, s_X10_isWithin]
    unfold I1 at hI
    refine ⟨⟨hI.2.2.2.1, hI.2.1⟩, fun c => ?_, fun c => ?_⟩
    · refine ⟨fun c2 => ?_, fun c2 => ?_⟩
      · refine ⟨ad, z, g, gp, r, hm, ⟨c.1.1, by grind⟩, ⟨c.2.1.1, by grind⟩, hI.2.2.2.2.1, ?_⟩
        rw [F_sell, if_pos ⟨c, c2⟩] at h1
        simp only [c_push, c_null, c_iload, c_aload, c_istore, c_astore, c_iinc, c_iadd, c_isub, c_imul, c_iand, c_ineg, c_dup, c_dup2, c_pop, c_ifnull, c_ifnonnull, c_get, c_put, c_iald, c_zald, c_iast, c_zast, c_aald, c_aast, c_alen, c_new, c_newa, c_newq, c_mna, c_oinit, c_max, c_copy, c_iret, c_zret, c_aret, c_vret, q_do, q_rc, c_ifeq, c_ifne, c_iflt, c_ifge, c_ifgt, c_ifle, c_iceq, c_icne, c_iclt, c_icge, c_icgt, c_icle, c_call0, c_call1, c_call2, c_call3, c_call4, c_call5, c_call6, c_call7, q_L0, List.map_cons, List.map_nil, List.replicate, List.cons_append, List.nil_append, List.append_nil, List.length_cons, List.length_nil, List.length_set, Nat.reduceSub, Nat.reduceAdd, Nat.reduceLT, Nat.reduceLeDiff, Nat.zero_add, Nat.add_zero, Nat.sub_zero, Nat.sub_self, List.getElem?_cons_zero, List.getElem?_cons_succ, List.set_cons_zero, List.set_cons_succ, Option.toList_some, Option.toList_none, List.sum_cons, List.sum_nil, true_and, and_true, true_or, or_true, Nat.le_refl, Nat.zero_le, Value.category, Fin.isValue, Fin.val_zero, Fin.val_one, Fin.val_two, Fin.reduceFinMk, q_10, q_01, not_false_eq_true, not_true_eq_false, forall_const, true_implies, false_implies, implies_true, q_ni, q_fi, q_nb0, q_nb1, q_fb0, q_fb1, q_nor, q_nar, q_for, q_far, q_non, q_nan, q_fon, q_fan, imp_false, false_and, and_false, and_self, false_or, or_false, va_rf, refKind, hm.rd, vpi12]
        have hbb : 0 ≤ b ∧ b < 12 := ⟨c.2.2.1.1, by grind⟩
        refine ⟨fun c3 => ?_, fun c3 => ⟨hbb, fun c4 => ?_, fun c4 => ?_⟩⟩
        · rw [if_pos (Or.inl c3)] at h1
          exact h1 _ ⟨gp, r, hm⟩
        · rw [if_neg (by grind)] at h1
          refine ⟨ad, z, g, gp, r, hm, ⟨hI.2.2.2.2.1.1, hmv⟩, fun σ' hm' => ?_⟩
          simp only [c_push, c_null, c_iload, c_aload, c_istore, c_astore, c_iinc, c_iadd, c_isub, c_imul, c_iand, c_ineg, c_dup, c_dup2, c_pop, c_ifnull, c_ifnonnull, c_get, c_put, c_iald, c_zald, c_iast, c_zast, c_aald, c_aast, c_alen, c_new, c_newa, c_newq, c_mna, c_oinit, c_max, c_copy, c_iret, c_zret, c_aret, c_vret, q_do, q_rc, c_ifeq, c_ifne, c_iflt, c_ifge, c_ifgt, c_ifle, c_iceq, c_icne, c_iclt, c_icge, c_icgt, c_icle, c_call0, c_call1, c_call2, c_call3, c_call4, c_call5, c_call6, c_call7, q_L0, List.map_cons, List.map_nil, List.replicate, List.cons_append, List.nil_append, List.append_nil, List.length_cons, List.length_nil, List.length_set, Nat.reduceSub, Nat.reduceAdd, Nat.reduceLT, Nat.reduceLeDiff, Nat.zero_add, Nat.add_zero, Nat.sub_zero, Nat.sub_self, List.getElem?_cons_zero, List.getElem?_cons_succ, List.set_cons_zero, List.set_cons_succ, Option.toList_some, Option.toList_none, List.sum_cons, List.sum_nil, true_and, and_true, true_or, or_true, Nat.le_refl, Nat.zero_le, Value.category, Fin.isValue, Fin.val_zero, Fin.val_one, Fin.val_two, Fin.reduceFinMk, q_10, q_01, not_false_eq_true, not_true_eq_false, forall_const, true_implies, false_implies, implies_true, q_ni, q_fi, q_nb0, q_nb1, q_fb0, q_fb1, q_nor, q_nar, q_for, q_far, q_non, q_nan, q_fon, q_fan, imp_false, false_and, and_false, and_self, false_or, or_false, va_rf, refKind]
          exact h1 _ ⟨gp, r, hm'⟩
        · rw [if_pos (by grind)] at h1
          exact h1 _ ⟨gp, r, hm⟩
      · rw [F_sell, if_neg (by grind)] at h1
        exact h1 _ ⟨gp, r, hm⟩
    · rw [F_sell, if_neg (by grind)] at h1
      exact h1 _ ⟨gp, r, hm⟩
  · exact h.elim)
end
section
-- pledge, redeem, held, agree
abbrev i20 (w p q : Int32) : Nat := 144 * w.toNatClampNeg + 12 * p.toNatClampNeg + q.toNatClampNeg
abbrev i21 (w p : Int32) : Nat := 12 * w.toNatClampNeg + p.toNatClampNeg
theorem at20 {w p q : Int32} (hw : 0 ≤ w ∧ w < 20) (hp : 0 ≤ p ∧ p < 12) (hq : 0 ≤ q ∧ q < 12) : (0 ≤ 144 * w + 12 * p + q ∧ 144 * w + 12 * p + q < 2880) ∧ (144 * w + 12 * p + q).toNatClampNeg = i20 w p q := by
  obtain ⟨wn, hwn, rfl, e1⟩ := inR 20 hw.1 hw.2
  obtain ⟨pn, hpn, rfl, e2⟩ := inR 12 hp.1 hp.2
  obtain ⟨qn, hqn, rfl, e3⟩ := inR 12 hq.1 hq.2
  rw [idx20]
  unfold i20
  rw [e1, e2, e3]
  exact ⟨⟨nI_low (by omega), nI_ltN (N := 2880) (by omega)⟩, clN (by omega)⟩
theorem at21 {w p : Int32} (hw : 0 ≤ w ∧ w < 20) (hp : 0 ≤ p ∧ p < 12) : (0 ≤ 12 * w + p ∧ 12 * w + p < 240) ∧ (12 * w + p).toNatClampNeg = i21 w p := by
  obtain ⟨wn, hwn, rfl, e1⟩ := inR 20 hw.1 hw.2
  obtain ⟨pn, hpn, rfl, e2⟩ := inR 12 hp.1 hp.2
  rw [idx21]
  unfold i21
  rw [e1, e2]
  exact ⟨⟨nI_low (by omega), nI_ltN (N := 240) (by omega)⟩, clN (by omega)⟩
def F_pledge (z : Nat → Int32) (g : Nat → Nat → Int32) (w a b n : Int32) : Int32 × (Nat → Nat → Int32) :=
  if twoF z w a b ∧ 1 ≤ n ∧ n ≤ 16 then if freeF z g w a < n then (-3, g) else (plF (gup g 20 (i20 w a b) (g 20 (i20 w a b) + n)) w.toNatClampNeg a.toNatClampNeg 12, gup g 20 (i20 w a b) (g 20 (i20 w a b) + n)) else (-2, g)
def s_X11_pledge : q_Sp := fun av σ post => match av with
  | [.ref mr, .int w, .int a, .int b, .int n] => ∃ ad z g, mOK σ mr ad z g ∧ I1 z ∧ ∀ σ', mOK σ' mr ad z (F_pledge z g w a b n).2 → post (some (.int (F_pledge z g w a b n).1)) σ'
  | _ => False
def rm_X11_pledge : Room := { frames := 3, cells := 0, slots := 0, locals := 66 }
def k_X11_pledge_21 (post : Option Value → q_S → Prop) (K : Nat → q_K) : q_K := (c_push (-2) (c_iret post))
def k_X11_pledge_0 (post : Option Value → q_S → Prop) (K : Nat → q_K) : q_K := (c_aload 0 (c_iload 1 (c_iload 2 (c_iload 3 (c_call4 (some 11) s_X11_areTwo 0 0 (c_ifeq (k_X11_pledge_21 post K) (c_iload 4 (c_push 1 (c_push 16 (c_call3 none s_X11_in 0 0 (c_ifne (c_aload 0 (c_iload 1 (c_iload 2 (c_call3 (some 11) s_X11_freeOf 0 0 (c_iload 4 (c_icge (c_aload 0 (c_get 11 20 (c_push 144 (c_iload 1 (c_imul (c_push 12 (c_iload 2 (c_imul (c_iadd (c_iload 3 (c_iadd (c_dup2 (c_iald (c_iload 4 (c_iadd (c_iast (c_aload 0 (c_iload 1 (c_iload 2 (c_call3 (some 11) s_X11_pledgedBy 0 0 (c_iret post))))))))))))))))))))) (c_push (-3) (c_iret post)))))))) (k_X11_pledge_21 post K))))))))))))
set_option maxRecDepth 100000 in
theorem v_X11_pledge_21 {p : Program} {l : Launch} {e : Env} {s : State} {m : MethodId} {args : Array Value} {below : List Frame} {meth : Method} {c : Code} {D : va_G} {A : Nat → Prop} {post : Option Value → q_S → Prop} {K : Nat → q_K} (C : q_C p s m args meth c cX11_pledge 5 RX11 "pledge" (some .int) A) (hK : ∀ h ∈ ([] : List Nat), q_V p l e rm_X11_pledge s m args below meth c D A 5 (MQ below (q_Qc D A post) args s rm_X11_pledge.cells rm_X11_pledge.slots A) h (K h)) : q_V p l e rm_X11_pledge s m args below meth c D A 5 (MQ below (q_Qc D A post) args s rm_X11_pledge.cells rm_X11_pledge.slots A) 21 (k_X11_pledge_21 post K) := by
  unfold k_X11_pledge_21
  refine q_bipush C (by decide +kernel : decode cX11_pledge 21 = .ok (.bipush (-2), 2)) (by decide) ?_
  exact q_iret C rfl (by decide +kernel : decode cX11_pledge 23 = .ok (.ireturn, 1))
set_option maxRecDepth 100000 in
theorem v_X11_pledge_0 {p : Program} {l : Launch} {e : Env} {s : State} {m : MethodId} {args : Array Value} {below : List Frame} {meth : Method} {c : Code} {D : va_G} {A : Nat → Prop} {post : Option Value → q_S → Prop} {K : Nat → q_K} (C : q_C p s m args meth c cX11_pledge 5 RX11 "pledge" (some .int) A) (hK : ∀ h ∈ ([] : List Nat), q_V p l e rm_X11_pledge s m args below meth c D A 5 (MQ below (q_Qc D A post) args s rm_X11_pledge.cells rm_X11_pledge.slots A) h (K h)) : q_V p l e rm_X11_pledge s m args below meth c D A 5 (MQ below (q_Qc D A post) args s rm_X11_pledge.cells rm_X11_pledge.slots A) 0 (k_X11_pledge_0 post K) := by
  unfold k_X11_pledge_0
  refine q_aload_n C (by decide +kernel : decode cX11_pledge 0 = .ok (.aload_n 0, 1)) ?_
  refine q_iload_n C (by decide +kernel : decode cX11_pledge 1 = .ok (.iload_n 1, 1)) ?_
  refine q_iload_n C (by decide +kernel : decode cX11_pledge 2 = .ok (.iload_n 2, 1)) ?_
  refine q_iload_n C (by decide +kernel : decode cX11_pledge 3 = .ok (.iload_n 3, 1)) ?_
  refine q_call4 C (q_coV C (np := 3) (ci := 11) (rc := (RX11, TX11, 35)) (t_X11_areTwo l) w9_71 rfl rfl w9_72 w9_73 w9_74 w9_6 (by decide +kernel) (by decide +kernel : decode cX11_pledge 4 = .ok (.invokevirtual 155, 3)) (by decide)) ?_
  refine q_ifeq C (tgt := 21) (by decide +kernel : decode cX11_pledge 7 = .ok (.ifCond .eq 14, 3)) (by decide) ?_ ?_
  · exact v_X11_pledge_21 C hK
  · refine q_iload C (by decide +kernel : decode cX11_pledge 10 = .ok (.iload 4, 2)) ?_
    refine q_iconst C (by decide +kernel : decode cX11_pledge 12 = .ok (.iconst 1, 1)) (by decide) ?_
    refine q_bipush C (by decide +kernel : decode cX11_pledge 13 = .ok (.bipush 16, 2)) (by decide) ?_
    refine q_call3 C (q_coS C (np := 3) (t_X11_in l) w9_5 w9_8 w9_7 w9_6 (by decide +kernel) (by decide +kernel : decode cX11_pledge 15 = .ok (.invokestatic 92, 3)) (by decide)) ?_
    refine q_ifne C (tgt := 24) (by decide +kernel : decode cX11_pledge 18 = .ok (.ifCond .ne 6, 3)) (by decide) ?_ ?_
    · refine q_aload_n C (by decide +kernel : decode cX11_pledge 24 = .ok (.aload_n 0, 1)) ?_
      refine q_iload_n C (by decide +kernel : decode cX11_pledge 25 = .ok (.iload_n 1, 1)) ?_
      refine q_iload_n C (by decide +kernel : decode cX11_pledge 26 = .ok (.iload_n 2, 1)) ?_
      refine q_call3 C (q_coV C (np := 2) (ci := 11) (rc := (RX11, TX11, 35)) (t_X11_freeOf l) w9_75 rfl rfl w9_76 w9_77 w9_78 w9_6 (by decide +kernel) (by decide +kernel : decode cX11_pledge 27 = .ok (.invokevirtual 158, 3)) (by decide)) ?_
      refine q_iload C (by decide +kernel : decode cX11_pledge 30 = .ok (.iload 4, 2)) ?_
      refine q_icge C (tgt := 38) (by decide +kernel : decode cX11_pledge 32 = .ok (.if_icmp .ge 6, 3)) (by decide) ?_ ?_
      · refine q_aload_n C (by decide +kernel : decode cX11_pledge 38 = .ok (.aload_n 0, 1)) ?_
        refine q_get C (ci := 11) (j := 20) (C0 := RX11) (T := TX11) (N := 35) rfl iX11 giX11 (by decide) w9_62 (by decide +kernel : decode cX11_pledge 39 = .ok (.getfield 55, 3)) ?_
        refine q_sipush C (by decide +kernel : decode cX11_pledge 42 = .ok (.sipush 144, 3)) (by decide) ?_
        refine q_iload_n C (by decide +kernel : decode cX11_pledge 45 = .ok (.iload_n 1, 1)) ?_
        refine q_imul C (by decide +kernel : decode cX11_pledge 46 = .ok (.imul, 1)) ?_
        refine q_bipush C (by decide +kernel : decode cX11_pledge 47 = .ok (.bipush 12, 2)) (by decide) ?_
        refine q_iload_n C (by decide +kernel : decode cX11_pledge 49 = .ok (.iload_n 2, 1)) ?_
        refine q_imul C (by decide +kernel : decode cX11_pledge 50 = .ok (.imul, 1)) ?_
        refine q_iadd C (by decide +kernel : decode cX11_pledge 51 = .ok (.iadd, 1)) ?_
        refine q_iload_n C (by decide +kernel : decode cX11_pledge 52 = .ok (.iload_n 3, 1)) ?_
        refine q_iadd C (by decide +kernel : decode cX11_pledge 53 = .ok (.iadd, 1)) ?_
        refine q_dup2 C (by decide +kernel : decode cX11_pledge 54 = .ok (.dup2, 1)) ?_
        refine q_iald C (by decide +kernel : decode cX11_pledge 55 = .ok (.iaload, 1)) ?_
        refine q_iload C (by decide +kernel : decode cX11_pledge 56 = .ok (.iload 4, 2)) ?_
        refine q_iadd C (by decide +kernel : decode cX11_pledge 58 = .ok (.iadd, 1)) ?_
        refine q_iast C (by decide +kernel : decode cX11_pledge 59 = .ok (.iastore, 1)) ?_
        refine q_aload_n C (by decide +kernel : decode cX11_pledge 60 = .ok (.aload_n 0, 1)) ?_
        refine q_iload_n C (by decide +kernel : decode cX11_pledge 61 = .ok (.iload_n 1, 1)) ?_
        refine q_iload_n C (by decide +kernel : decode cX11_pledge 62 = .ok (.iload_n 2, 1)) ?_
        refine q_call3 C (q_coV C (np := 2) (ci := 11) (rc := (RX11, TX11, 35)) (t_X11_pledgedBy l) w9_67 rfl rfl w9_68 w9_69 w9_70 w9_6 (by decide +kernel) (by decide +kernel : decode cX11_pledge 63 = .ok (.invokevirtual 152, 3)) (by decide)) ?_
        exact q_iret C rfl (by decide +kernel : decode cX11_pledge 66 = .ok (.ireturn, 1))
      · refine q_bipush C (by decide +kernel : decode cX11_pledge 35 = .ok (.bipush (-3), 2)) (by decide) ?_
        exact q_iret C rfl (by decide +kernel : decode cX11_pledge 37 = .ok (.ireturn, 1))
    · exact v_X11_pledge_21 C hK
theorem u_X11_pledge (l : Launch) {sp : q_Sp} (H : ∀ (av : List Value) (σ : q_S) (post : Option Value → q_S → Prop), sp av σ post → k_X11_pledge_0 post (fun _ _ _ _ _ _ => False) (q_L0 av 5) [] σ 0 0 ∧ av.length ≤ 5 ∧ ∀ v ∈ av, v.category = 1) : q_Ct l yX11_pledge cX11_pledge 5 (some .int) rm_X11_pledge sp := by
  refine q_met (by decide) ?_
  intro D A p e s m args below meth c σ av post C hsp
  obtain ⟨h1, h2, h3⟩ := H av σ post hsp
  exact ⟨_, v_X11_pledge_0 (K := fun _ _ _ _ _ _ => False) C (fun h hh => by cases hh), h1, h2, h3⟩
theorem t_X11_pledge (l : Launch) : q_Ct l yX11_pledge cX11_pledge 5 (some .int) rm_X11_pledge s_X11_pledge := u_X11_pledge l (by
  intro av σ post h
  unfold s_X11_pledge at h
  split at h
  · next mr w a b n =>
    refine ⟨?_, by simp, by simp [Value.category]⟩
    obtain ⟨ad, z, g, ⟨gp, r, hm⟩, hI, h1⟩ := h
    simp only [c_push, c_null, c_iload, c_aload, c_istore, c_astore, c_iinc, c_iadd, c_isub, c_imul, c_iand, c_ineg, c_dup, c_dup2, c_pop, c_ifnull, c_ifnonnull, c_get, c_put, c_iald, c_zald, c_iast, c_zast, c_aald, c_aast, c_alen, c_new, c_newa, c_newq, c_mna, c_oinit, c_max, c_copy, c_iret, c_zret, c_aret, c_vret, q_do, q_rc, c_ifeq, c_ifne, c_iflt, c_ifge, c_ifgt, c_ifle, c_iceq, c_icne, c_iclt, c_icge, c_icgt, c_icle, c_call0, c_call1, c_call2, c_call3, c_call4, c_call5, c_call6, c_call7, q_L0, List.map_cons, List.map_nil, List.replicate, List.cons_append, List.nil_append, List.append_nil, List.length_cons, List.length_nil, List.length_set, Nat.reduceSub, Nat.reduceAdd, Nat.reduceLT, Nat.reduceLeDiff, Nat.zero_add, Nat.add_zero, Nat.sub_zero, Nat.sub_self, List.getElem?_cons_zero, List.getElem?_cons_succ, List.set_cons_zero, List.set_cons_succ, Option.toList_some, Option.toList_none, List.sum_cons, List.sum_nil, true_and, and_true, true_or, or_true, Nat.le_refl, Nat.zero_le, Value.category, Fin.isValue, Fin.val_zero, Fin.val_one, Fin.val_two, Fin.reduceFinMk, q_10, q_01, not_false_eq_true, not_true_eq_false, forall_const, true_implies, false_implies, implies_true, q_ni, q_fi, q_nb0, q_nb1, q_fb0, q_fb1, q_nor, q_nar, q_for, q_far, q_non, q_nan, q_fon, q_fan, imp_false, false_and, and_false, and_self, false_or, or_false, va_rf, refKind, k_X11_pledge_0, k_X11_pledge_21, hm.rd, s_X11_areTwo, s_X11_in, s_X10_isWithin]
    unfold I1 at hI
    refine ⟨⟨hI.2.2.2.1, hI.2.1⟩, fun c => ?_, fun c => ?_⟩
    · refine ⟨fun c2 => ?_, fun c2 => ?_⟩
      · have cw : 0 ≤ w ∧ w < 20 := ⟨c.1.1, by grind⟩
        have ca : 0 ≤ a ∧ a < 12 := ⟨c.2.1.1, by grind⟩
        have cb : 0 ≤ b ∧ b < 12 := ⟨c.2.2.1.1, by grind⟩
        refine ⟨ad, z, g, gp, r, hm, cw, ca, hI.2.2.2.2.1, ?_⟩
        rw [F_pledge, if_pos ⟨c, c2⟩] at h1
        have hx := at20 cw ca cb
        have hm1 := hm.a20 (i20 w a b) (g 20 (i20 w a b) + n)
        simp only [c_push, c_null, c_iload, c_aload, c_istore, c_astore, c_iinc, c_iadd, c_isub, c_imul, c_iand, c_ineg, c_dup, c_dup2, c_pop, c_ifnull, c_ifnonnull, c_get, c_put, c_iald, c_zald, c_iast, c_zast, c_aald, c_aast, c_alen, c_new, c_newa, c_newq, c_mna, c_oinit, c_max, c_copy, c_iret, c_zret, c_aret, c_vret, q_do, q_rc, c_ifeq, c_ifne, c_iflt, c_ifge, c_ifgt, c_ifle, c_iceq, c_icne, c_iclt, c_icge, c_icgt, c_icle, c_call0, c_call1, c_call2, c_call3, c_call4, c_call5, c_call6, c_call7, q_L0, List.map_cons, List.map_nil, List.replicate, List.cons_append, List.nil_append, List.append_nil, List.length_cons, List.length_nil, List.length_set, Nat.reduceSub, Nat.reduceAdd, Nat.reduceLT, Nat.reduceLeDiff, Nat.zero_add, Nat.add_zero, Nat.sub_zero, Nat.sub_self, List.getElem?_cons_zero, List.getElem?_cons_succ, List.set_cons_zero, List.set_cons_succ, Option.toList_some, Option.toList_none, List.sum_cons, List.sum_nil, true_and, and_true, true_or, or_true, Nat.le_refl, Nat.zero_le, Value.category, Fin.isValue, Fin.val_zero, Fin.val_one, Fin.val_two, Fin.reduceFinMk, q_10, q_01, not_false_eq_true, not_true_eq_false, forall_const, true_implies, false_implies, implies_true, q_ni, q_fi, q_nb0, q_nb1, q_fb0, q_fb1, q_nor, q_nar, q_for, q_far, q_non, q_nan, q_fon, q_fan, imp_false, false_and, and_false, and_self, false_or, or_false, va_rf, refKind, hm.rd, vpi2880, hx, hm1.rd]
        refine ⟨fun c3 => ⟨ad, z, _, gp, r, hm1, cw, ca, ?_⟩, fun c3 => ?_⟩
        · rw [if_neg (by grind)] at h1
          simp only [c_push, c_null, c_iload, c_aload, c_istore, c_astore, c_iinc, c_iadd, c_isub, c_imul, c_iand, c_ineg, c_dup, c_dup2, c_pop, c_ifnull, c_ifnonnull, c_get, c_put, c_iald, c_zald, c_iast, c_zast, c_aald, c_aast, c_alen, c_new, c_newa, c_newq, c_mna, c_oinit, c_max, c_copy, c_iret, c_zret, c_aret, c_vret, q_do, q_rc, c_ifeq, c_ifne, c_iflt, c_ifge, c_ifgt, c_ifle, c_iceq, c_icne, c_iclt, c_icge, c_icgt, c_icle, c_call0, c_call1, c_call2, c_call3, c_call4, c_call5, c_call6, c_call7, q_L0, List.map_cons, List.map_nil, List.replicate, List.cons_append, List.nil_append, List.append_nil, List.length_cons, List.length_nil, List.length_set, Nat.reduceSub, Nat.reduceAdd, Nat.reduceLT, Nat.reduceLeDiff, Nat.zero_add, Nat.add_zero, Nat.sub_zero, Nat.sub_self, List.getElem?_cons_zero, List.getElem?_cons_succ, List.set_cons_zero, List.set_cons_succ, Option.toList_some, Option.toList_none, List.sum_cons, List.sum_nil, true_and, and_true, true_or, or_true, Nat.le_refl, Nat.zero_le, Value.category, Fin.isValue, Fin.val_zero, Fin.val_one, Fin.val_two, Fin.reduceFinMk, q_10, q_01, not_false_eq_true, not_true_eq_false, forall_const, true_implies, false_implies, implies_true, q_ni, q_fi, q_nb0, q_nb1, q_fb0, q_fb1, q_nor, q_nar, q_for, q_far, q_non, q_nan, q_fon, q_fan, imp_false, false_and, and_false, and_self, false_or, or_false, va_rf, refKind]
          exact h1 _ ⟨gp, r, hm1⟩
        · rw [if_pos (by grind)] at h1
          exact h1 _ ⟨gp, r, hm⟩
      · rw [F_pledge, if_neg (by grind)] at h1
        exact h1 _ ⟨gp, r, hm⟩
    · rw [F_pledge, if_neg (by grind)] at h1
      exact h1 _ ⟨gp, r, hm⟩
  · exact h.elim)
def F_redeem (z : Nat → Int32) (g : Nat → Nat → Int32) (w a b : Int32) : Int32 × (Nat → Nat → Int32) :=
  if twoF z w a b then (if g 20 (i20 w a b) = 0 then -3 else g 20 (i20 w a b), gup g 20 (i20 w a b) 0) else (-2, g)
def s_X11_redeem : q_Sp := fun av σ post => match av with
  | [.ref mr, .int w, .int a, .int b] => ∃ ad z g, mOK σ mr ad z g ∧ I1 z ∧ ∀ σ', mOK σ' mr ad z (F_redeem z g w a b).2 → post (some (.int (F_redeem z g w a b).1)) σ'
  | _ => False
def rm_X11_redeem : Room := { frames := 3, cells := 0, slots := 0, locals := 66 }
def k_X11_redeem_56 (post : Option Value → q_S → Prop) (K : Nat → q_K) : q_K := (c_iret post)
def k_X11_redeem_0 (post : Option Value → q_S → Prop) (K : Nat → q_K) : q_K := (c_aload 0 (c_iload 1 (c_iload 2 (c_iload 3 (c_call4 (some 11) s_X11_areTwo 0 0 (c_ifne (c_push 144 (c_iload 1 (c_imul (c_push 12 (c_iload 2 (c_imul (c_iadd (c_iload 3 (c_iadd (c_istore 4 (c_aload 0 (c_get 11 20 (c_iload 4 (c_iald (c_istore 5 (c_aload 0 (c_get 11 20 (c_iload 4 (c_push 0 (c_iast (c_iload 5 (c_ifne (c_iload 5 (k_X11_redeem_56 post K)) (c_push (-3) (k_X11_redeem_56 post K)))))))))))))))))))))))) (c_push (-2) (c_iret post))))))))
set_option maxRecDepth 100000 in
theorem v_X11_redeem_56 {p : Program} {l : Launch} {e : Env} {s : State} {m : MethodId} {args : Array Value} {below : List Frame} {meth : Method} {c : Code} {D : va_G} {A : Nat → Prop} {post : Option Value → q_S → Prop} {K : Nat → q_K} (C : q_C p s m args meth c cX11_redeem 6 RX11 "redeem" (some .int) A) (hK : ∀ h ∈ ([] : List Nat), q_V p l e rm_X11_redeem s m args below meth c D A 6 (MQ below (q_Qc D A post) args s rm_X11_redeem.cells rm_X11_redeem.slots A) h (K h)) : q_V p l e rm_X11_redeem s m args below meth c D A 6 (MQ below (q_Qc D A post) args s rm_X11_redeem.cells rm_X11_redeem.slots A) 56 (k_X11_redeem_56 post K) := by
  unfold k_X11_redeem_56
  exact q_iret C rfl (by decide +kernel : decode cX11_redeem 56 = .ok (.ireturn, 1))
set_option maxRecDepth 100000 in
theorem v_X11_redeem_0 {p : Program} {l : Launch} {e : Env} {s : State} {m : MethodId} {args : Array Value} {below : List Frame} {meth : Method} {c : Code} {D : va_G} {A : Nat → Prop} {post : Option Value → q_S → Prop} {K : Nat → q_K} (C : q_C p s m args meth c cX11_redeem 6 RX11 "redeem" (some .int) A) (hK : ∀ h ∈ ([] : List Nat), q_V p l e rm_X11_redeem s m args below meth c D A 6 (MQ below (q_Qc D A post) args s rm_X11_redeem.cells rm_X11_redeem.slots A) h (K h)) : q_V p l e rm_X11_redeem s m args below meth c D A 6 (MQ below (q_Qc D A post) args s rm_X11_redeem.cells rm_X11_redeem.slots A) 0 (k_X11_redeem_0 post K) := by
  unfold k_X11_redeem_0
  refine q_aload_n C (by decide +kernel : decode cX11_redeem 0 = .ok (.aload_n 0, 1)) ?_
  refine q_iload_n C (by decide +kernel : decode cX11_redeem 1 = .ok (.iload_n 1, 1)) ?_
  refine q_iload_n C (by decide +kernel : decode cX11_redeem 2 = .ok (.iload_n 2, 1)) ?_
  refine q_iload_n C (by decide +kernel : decode cX11_redeem 3 = .ok (.iload_n 3, 1)) ?_
  refine q_call4 C (q_coV C (np := 3) (ci := 11) (rc := (RX11, TX11, 35)) (t_X11_areTwo l) w9_71 rfl rfl w9_72 w9_73 w9_74 w9_6 (by decide +kernel) (by decide +kernel : decode cX11_redeem 4 = .ok (.invokevirtual 155, 3)) (by decide)) ?_
  refine q_ifne C (tgt := 13) (by decide +kernel : decode cX11_redeem 7 = .ok (.ifCond .ne 6, 3)) (by decide) ?_ ?_
  · refine q_sipush C (by decide +kernel : decode cX11_redeem 13 = .ok (.sipush 144, 3)) (by decide) ?_
    refine q_iload_n C (by decide +kernel : decode cX11_redeem 16 = .ok (.iload_n 1, 1)) ?_
    refine q_imul C (by decide +kernel : decode cX11_redeem 17 = .ok (.imul, 1)) ?_
    refine q_bipush C (by decide +kernel : decode cX11_redeem 18 = .ok (.bipush 12, 2)) (by decide) ?_
    refine q_iload_n C (by decide +kernel : decode cX11_redeem 20 = .ok (.iload_n 2, 1)) ?_
    refine q_imul C (by decide +kernel : decode cX11_redeem 21 = .ok (.imul, 1)) ?_
    refine q_iadd C (by decide +kernel : decode cX11_redeem 22 = .ok (.iadd, 1)) ?_
    refine q_iload_n C (by decide +kernel : decode cX11_redeem 23 = .ok (.iload_n 3, 1)) ?_
    refine q_iadd C (by decide +kernel : decode cX11_redeem 24 = .ok (.iadd, 1)) ?_
    refine q_istore C (by decide +kernel : decode cX11_redeem 25 = .ok (.istore 4, 2)) ?_
    refine q_aload_n C (by decide +kernel : decode cX11_redeem 27 = .ok (.aload_n 0, 1)) ?_
    refine q_get C (ci := 11) (j := 20) (C0 := RX11) (T := TX11) (N := 35) rfl iX11 giX11 (by decide) w9_62 (by decide +kernel : decode cX11_redeem 28 = .ok (.getfield 55, 3)) ?_
    refine q_iload C (by decide +kernel : decode cX11_redeem 31 = .ok (.iload 4, 2)) ?_
    refine q_iald C (by decide +kernel : decode cX11_redeem 33 = .ok (.iaload, 1)) ?_
    refine q_istore C (by decide +kernel : decode cX11_redeem 34 = .ok (.istore 5, 2)) ?_
    refine q_aload_n C (by decide +kernel : decode cX11_redeem 36 = .ok (.aload_n 0, 1)) ?_
    refine q_get C (ci := 11) (j := 20) (C0 := RX11) (T := TX11) (N := 35) rfl iX11 giX11 (by decide) w9_62 (by decide +kernel : decode cX11_redeem 37 = .ok (.getfield 55, 3)) ?_
    refine q_iload C (by decide +kernel : decode cX11_redeem 40 = .ok (.iload 4, 2)) ?_
    refine q_iconst C (by decide +kernel : decode cX11_redeem 42 = .ok (.iconst 0, 1)) (by decide) ?_
    refine q_iast C (by decide +kernel : decode cX11_redeem 43 = .ok (.iastore, 1)) ?_
    refine q_iload C (by decide +kernel : decode cX11_redeem 44 = .ok (.iload 5, 2)) ?_
    refine q_ifne C (tgt := 54) (by decide +kernel : decode cX11_redeem 46 = .ok (.ifCond .ne 8, 3)) (by decide) ?_ ?_
    · refine q_iload C (by decide +kernel : decode cX11_redeem 54 = .ok (.iload 5, 2)) ?_
      exact v_X11_redeem_56 C hK
    · refine q_bipush C (by decide +kernel : decode cX11_redeem 49 = .ok (.bipush (-3), 2)) (by decide) ?_
      refine q_goto C (tgt := 56) (by decide +kernel : decode cX11_redeem 51 = .ok (.goto 5, 3)) (by decide) ?_
      exact v_X11_redeem_56 C hK
  · refine q_bipush C (by decide +kernel : decode cX11_redeem 10 = .ok (.bipush (-2), 2)) (by decide) ?_
    exact q_iret C rfl (by decide +kernel : decode cX11_redeem 12 = .ok (.ireturn, 1))
theorem u_X11_redeem (l : Launch) {sp : q_Sp} (H : ∀ (av : List Value) (σ : q_S) (post : Option Value → q_S → Prop), sp av σ post → k_X11_redeem_0 post (fun _ _ _ _ _ _ => False) (q_L0 av 6) [] σ 0 0 ∧ av.length ≤ 6 ∧ ∀ v ∈ av, v.category = 1) : q_Ct l yX11_redeem cX11_redeem 6 (some .int) rm_X11_redeem sp := by
  refine q_met (by decide) ?_
  intro D A p e s m args below meth c σ av post C hsp
  obtain ⟨h1, h2, h3⟩ := H av σ post hsp
  exact ⟨_, v_X11_redeem_0 (K := fun _ _ _ _ _ _ => False) C (fun h hh => by cases hh), h1, h2, h3⟩
theorem t_X11_redeem (l : Launch) : q_Ct l yX11_redeem cX11_redeem 6 (some .int) rm_X11_redeem s_X11_redeem := u_X11_redeem l (by
  intro av σ post h
  unfold s_X11_redeem at h
  split at h
  · next mr w a b =>
    refine ⟨?_, by simp, by simp [Value.category]⟩
    obtain ⟨ad, z, g, ⟨gp, r, hm⟩, hI, h1⟩ := h
    simp only [c_push, c_null, c_iload, c_aload, c_istore, c_astore, c_iinc, c_iadd, c_isub, c_imul, c_iand, c_ineg, c_dup, c_dup2, c_pop, c_ifnull, c_ifnonnull, c_get, c_put, c_iald, c_zald, c_iast, c_zast, c_aald, c_aast, c_alen, c_new, c_newa, c_newq, c_mna, c_oinit, c_max, c_copy, c_iret, c_zret, c_aret, c_vret, q_do, q_rc, c_ifeq, c_ifne, c_iflt, c_ifge, c_ifgt, c_ifle, c_iceq, c_icne, c_iclt, c_icge, c_icgt, c_icle, c_call0, c_call1, c_call2, c_call3, c_call4, c_call5, c_call6, c_call7, q_L0, List.map_cons, List.map_nil, List.replicate, List.cons_append, List.nil_append, List.append_nil, List.length_cons, List.length_nil, List.length_set, Nat.reduceSub, Nat.reduceAdd, Nat.reduceLT, Nat.reduceLeDiff, Nat.zero_add, Nat.add_zero, Nat.sub_zero, Nat.sub_self, List.getElem?_cons_zero, List.getElem?_cons_succ, List.set_cons_zero, List.set_cons_succ, Option.toList_some, Option.toList_none, List.sum_cons, List.sum_nil, true_and, and_true, true_or, or_true, Nat.le_refl, Nat.zero_le, Value.category, Fin.isValue, Fin.val_zero, Fin.val_one, Fin.val_two, Fin.reduceFinMk, q_10, q_01, not_false_eq_true, not_true_eq_false, forall_const, true_implies, false_implies, implies_true, q_ni, q_fi, q_nb0, q_nb1, q_fb0, q_fb1, q_nor, q_nar, q_for, q_far, q_non, q_nan, q_fon, q_fan, imp_false, false_and, and_false, and_self, false_or, or_false, va_rf, refKind, k_X11_redeem_0, k_X11_redeem_56, hm.rd, s_X11_areTwo]
    unfold I1 at hI
    refine ⟨⟨hI.2.2.2.1, hI.2.1⟩, fun c => ?_, fun c => ?_⟩
    · have cw : 0 ≤ w ∧ w < 20 := ⟨c.1.1, by grind⟩
      have ca : 0 ≤ a ∧ a < 12 := ⟨c.2.1.1, by grind⟩
      have cb : 0 ≤ b ∧ b < 12 := ⟨c.2.2.1.1, by grind⟩
      have hx := at20 cw ca cb
      have hm1 := hm.a20 (i20 w a b) 0
      simp only [c_push, c_null, c_iload, c_aload, c_istore, c_astore, c_iinc, c_iadd, c_isub, c_imul, c_iand, c_ineg, c_dup, c_dup2, c_pop, c_ifnull, c_ifnonnull, c_get, c_put, c_iald, c_zald, c_iast, c_zast, c_aald, c_aast, c_alen, c_new, c_newa, c_newq, c_mna, c_oinit, c_max, c_copy, c_iret, c_zret, c_aret, c_vret, q_do, q_rc, c_ifeq, c_ifne, c_iflt, c_ifge, c_ifgt, c_ifle, c_iceq, c_icne, c_iclt, c_icge, c_icgt, c_icle, c_call0, c_call1, c_call2, c_call3, c_call4, c_call5, c_call6, c_call7, q_L0, List.map_cons, List.map_nil, List.replicate, List.cons_append, List.nil_append, List.append_nil, List.length_cons, List.length_nil, List.length_set, Nat.reduceSub, Nat.reduceAdd, Nat.reduceLT, Nat.reduceLeDiff, Nat.zero_add, Nat.add_zero, Nat.sub_zero, Nat.sub_self, List.getElem?_cons_zero, List.getElem?_cons_succ, List.set_cons_zero, List.set_cons_succ, Option.toList_some, Option.toList_none, List.sum_cons, List.sum_nil, true_and, and_true, true_or, or_true, Nat.le_refl, Nat.zero_le, Value.category, Fin.isValue, Fin.val_zero, Fin.val_one, Fin.val_two, Fin.reduceFinMk, q_10, q_01, not_false_eq_true, not_true_eq_false, forall_const, true_implies, false_implies, implies_true, q_ni, q_fi, q_nb0, q_nb1, q_fb0, q_fb1, q_nor, q_nar, q_for, q_far, q_non, q_nan, q_fon, q_fan, imp_false, false_and, and_false, and_self, false_or, or_false, va_rf, refKind, vpi2880, hx]
      rw [F_redeem, if_pos c] at h1
      have h2 := h1 _ ⟨gp, r, hm1⟩
      clear h1
      grind
    · rw [F_redeem, if_neg (by grind)] at h1
      exact h1 _ ⟨gp, r, hm⟩
  · exact h.elim)
def F_held (z : Nat → Int32) (g : Nat → Nat → Int32) (w p t : Int32) : Int32 :=
  if isW z w ∧ (p = -5 ∨ isP z p) ∧ g 13 w.toNatClampNeg ≤ t ∧ t ≤ z 0 then holdsF g w (if p = -5 then 12 else p) t (mvF z) else -2
def s_X11_held : q_Sp := fun av σ post => match av with
  | [.ref mr, .int w, .int p, .int t] => ∃ ad z g, mOK σ mr ad z g ∧ I1 z ∧ ∀ σ', mOK σ' mr ad z g → post (some (.int (F_held z g w p t))) σ'
  | _ => False
def rm_X11_held : Room := { frames := 2, cells := 0, slots := 0, locals := 43 }
def k_X11_held_39 (post : Option Value → q_S → Prop) (K : Nat → q_K) : q_K := (c_push (-2) (c_iret post))
def k_X11_held_56 (post : Option Value → q_S → Prop) (K : Nat → q_K) : q_K := (c_iload 3 (c_call4 (some 11) s_X11_holds 0 0 (c_iret post)))
def k_X11_held_22 (post : Option Value → q_S → Prop) (K : Nat → q_K) : q_K := (c_iload 3 (c_aload 0 (c_get 11 13 (c_iload 1 (c_iald (c_aload 0 (c_get 11 0 (c_call3 none s_X11_in 0 0 (c_ifne (c_aload 0 (c_iload 1 (c_iload 2 (c_push (-5) (c_icne (c_iload 2 (k_X11_held_56 post K)) (c_push 12 (k_X11_held_56 post K))))))) (k_X11_held_39 post K))))))))))
def k_X11_held_0 (post : Option Value → q_S → Prop) (K : Nat → q_K) : q_K := (c_aload 0 (c_iload 1 (c_call2 (some 11) s_X11_isWork 0 0 (c_ifeq (k_X11_held_39 post K) (c_iload 2 (c_push (-5) (c_iceq (k_X11_held_22 post K) (c_aload 0 (c_iload 2 (c_call2 (some 11) s_X11_isPerson 0 0 (c_ifeq (k_X11_held_39 post K) (k_X11_held_22 post K))))))))))))
set_option maxRecDepth 100000 in
theorem v_X11_held_39 {p : Program} {l : Launch} {e : Env} {s : State} {m : MethodId} {args : Array Value} {below : List Frame} {meth : Method} {c : Code} {D : va_G} {A : Nat → Prop} {post : Option Value → q_S → Prop} {K : Nat → q_K} (C : q_C p s m args meth c cX11_held 4 RX11 "held" (some .int) A) (hK : ∀ h ∈ ([] : List Nat), q_V p l e rm_X11_held s m args below meth c D A 4 (MQ below (q_Qc D A post) args s rm_X11_held.cells rm_X11_held.slots A) h (K h)) : q_V p l e rm_X11_held s m args below meth c D A 4 (MQ below (q_Qc D A post) args s rm_X11_held.cells rm_X11_held.slots A) 39 (k_X11_held_39 post K) := by
  unfold k_X11_held_39
  refine q_bipush C (by decide +kernel : decode cX11_held 39 = .ok (.bipush (-2), 2)) (by decide) ?_
  exact q_iret C rfl (by decide +kernel : decode cX11_held 41 = .ok (.ireturn, 1))
set_option maxRecDepth 100000 in
theorem v_X11_held_56 {p : Program} {l : Launch} {e : Env} {s : State} {m : MethodId} {args : Array Value} {below : List Frame} {meth : Method} {c : Code} {D : va_G} {A : Nat → Prop} {post : Option Value → q_S → Prop} {K : Nat → q_K} (C : q_C p s m args meth c cX11_held 4 RX11 "held" (some .int) A) (hK : ∀ h ∈ ([] : List Nat), q_V p l e rm_X11_held s m args below meth c D A 4 (MQ below (q_Qc D A post) args s rm_X11_held.cells rm_X11_held.slots A) h (K h)) : q_V p l e rm_X11_held s m args below meth c D A 4 (MQ below (q_Qc D A post) args s rm_X11_held.cells rm_X11_held.slots A) 56 (k_X11_held_56 post K) := by
  unfold k_X11_held_56
  refine q_iload_n C (by decide +kernel : decode cX11_held 56 = .ok (.iload_n 3, 1)) ?_
  refine q_call4 C (q_coV C (np := 3) (ci := 11) (rc := (RX11, TX11, 35)) (t_X11_holds l) w9_63 rfl rfl w9_64 w9_65 w9_66 w9_6 (by decide +kernel) (by decide +kernel : decode cX11_held 57 = .ok (.invokevirtual 110, 3)) (by decide)) ?_
  exact q_iret C rfl (by decide +kernel : decode cX11_held 60 = .ok (.ireturn, 1))
set_option maxRecDepth 100000 in
theorem v_X11_held_22 {p : Program} {l : Launch} {e : Env} {s : State} {m : MethodId} {args : Array Value} {below : List Frame} {meth : Method} {c : Code} {D : va_G} {A : Nat → Prop} {post : Option Value → q_S → Prop} {K : Nat → q_K} (C : q_C p s m args meth c cX11_held 4 RX11 "held" (some .int) A) (hK : ∀ h ∈ ([] : List Nat), q_V p l e rm_X11_held s m args below meth c D A 4 (MQ below (q_Qc D A post) args s rm_X11_held.cells rm_X11_held.slots A) h (K h)) : q_V p l e rm_X11_held s m args below meth c D A 4 (MQ below (q_Qc D A post) args s rm_X11_held.cells rm_X11_held.slots A) 22 (k_X11_held_22 post K) := by
  unfold k_X11_held_22
  refine q_iload_n C (by decide +kernel : decode cX11_held 22 = .ok (.iload_n 3, 1)) ?_
  refine q_aload_n C (by decide +kernel : decode cX11_held 23 = .ok (.aload_n 0, 1)) ?_
  refine q_get C (ci := 11) (j := 13) (C0 := RX11) (T := TX11) (N := 35) rfl iX11 giX11 (by decide) w9_29 (by decide +kernel : decode cX11_held 24 = .ok (.getfield 37, 3)) ?_
  refine q_iload_n C (by decide +kernel : decode cX11_held 27 = .ok (.iload_n 1, 1)) ?_
  refine q_iald C (by decide +kernel : decode cX11_held 28 = .ok (.iaload, 1)) ?_
  refine q_aload_n C (by decide +kernel : decode cX11_held 29 = .ok (.aload_n 0, 1)) ?_
  refine q_get C (ci := 11) (j := 0) (C0 := RX11) (T := TX11) (N := 35) rfl iX11 giX11 (by decide) w9_10 (by decide +kernel : decode cX11_held 30 = .ok (.getfield 96, 3)) ?_
  refine q_call3 C (q_coS C (np := 3) (t_X11_in l) w9_5 w9_8 w9_7 w9_6 (by decide +kernel) (by decide +kernel : decode cX11_held 33 = .ok (.invokestatic 92, 3)) (by decide)) ?_
  refine q_ifne C (tgt := 42) (by decide +kernel : decode cX11_held 36 = .ok (.ifCond .ne 6, 3)) (by decide) ?_ ?_
  · refine q_aload_n C (by decide +kernel : decode cX11_held 42 = .ok (.aload_n 0, 1)) ?_
    refine q_iload_n C (by decide +kernel : decode cX11_held 43 = .ok (.iload_n 1, 1)) ?_
    refine q_iload_n C (by decide +kernel : decode cX11_held 44 = .ok (.iload_n 2, 1)) ?_
    refine q_bipush C (by decide +kernel : decode cX11_held 45 = .ok (.bipush (-5), 2)) (by decide) ?_
    refine q_icne C (tgt := 55) (by decide +kernel : decode cX11_held 47 = .ok (.if_icmp .ne 8, 3)) (by decide) ?_ ?_
    · refine q_iload_n C (by decide +kernel : decode cX11_held 55 = .ok (.iload_n 2, 1)) ?_
      exact v_X11_held_56 C hK
    · refine q_bipush C (by decide +kernel : decode cX11_held 50 = .ok (.bipush 12, 2)) (by decide) ?_
      refine q_goto C (tgt := 56) (by decide +kernel : decode cX11_held 52 = .ok (.goto 4, 3)) (by decide) ?_
      exact v_X11_held_56 C hK
  · exact v_X11_held_39 C hK
set_option maxRecDepth 100000 in
theorem v_X11_held_0 {p : Program} {l : Launch} {e : Env} {s : State} {m : MethodId} {args : Array Value} {below : List Frame} {meth : Method} {c : Code} {D : va_G} {A : Nat → Prop} {post : Option Value → q_S → Prop} {K : Nat → q_K} (C : q_C p s m args meth c cX11_held 4 RX11 "held" (some .int) A) (hK : ∀ h ∈ ([] : List Nat), q_V p l e rm_X11_held s m args below meth c D A 4 (MQ below (q_Qc D A post) args s rm_X11_held.cells rm_X11_held.slots A) h (K h)) : q_V p l e rm_X11_held s m args below meth c D A 4 (MQ below (q_Qc D A post) args s rm_X11_held.cells rm_X11_held.slots A) 0 (k_X11_held_0 post K) := by
  unfold k_X11_held_0
  refine q_aload_n C (by decide +kernel : decode cX11_held 0 = .ok (.aload_n 0, 1)) ?_
  refine q_iload_n C (by decide +kernel : decode cX11_held 1 = .ok (.iload_n 1, 1)) ?_
  refine q_call2 C (q_coV C (np := 1) (ci := 11) (rc := (RX11, TX11, 35)) (t_X11_isWork l) w9_48 rfl rfl w9_49 w9_50 w9_51 w9_6 (by decide +kernel) (by decide +kernel : decode cX11_held 2 = .ok (.invokevirtual 140, 3)) (by decide)) ?_
  refine q_ifeq C (tgt := 39) (by decide +kernel : decode cX11_held 5 = .ok (.ifCond .eq 34, 3)) (by decide) ?_ ?_
  · exact v_X11_held_39 C hK
  · refine q_iload_n C (by decide +kernel : decode cX11_held 8 = .ok (.iload_n 2, 1)) ?_
    refine q_bipush C (by decide +kernel : decode cX11_held 9 = .ok (.bipush (-5), 2)) (by decide) ?_
    refine q_iceq C (tgt := 22) (by decide +kernel : decode cX11_held 11 = .ok (.if_icmp .eq 11, 3)) (by decide) ?_ ?_
    · exact v_X11_held_22 C hK
    · refine q_aload_n C (by decide +kernel : decode cX11_held 14 = .ok (.aload_n 0, 1)) ?_
      refine q_iload_n C (by decide +kernel : decode cX11_held 15 = .ok (.iload_n 2, 1)) ?_
      refine q_call2 C (q_coV C (np := 1) (ci := 11) (rc := (RX11, TX11, 35)) (t_X11_isPerson l) w9_13 rfl rfl w9_14 w9_15 w9_16 w9_6 (by decide +kernel) (by decide +kernel : decode cX11_held 16 = .ok (.invokevirtual 106, 3)) (by decide)) ?_
      refine q_ifeq C (tgt := 39) (by decide +kernel : decode cX11_held 19 = .ok (.ifCond .eq 20, 3)) (by decide) ?_ ?_
      · exact v_X11_held_39 C hK
      · exact v_X11_held_22 C hK
theorem u_X11_held (l : Launch) {sp : q_Sp} (H : ∀ (av : List Value) (σ : q_S) (post : Option Value → q_S → Prop), sp av σ post → k_X11_held_0 post (fun _ _ _ _ _ _ => False) (q_L0 av 4) [] σ 0 0 ∧ av.length ≤ 4 ∧ ∀ v ∈ av, v.category = 1) : q_Ct l yX11_held cX11_held 4 (some .int) rm_X11_held sp := by
  refine q_met (by decide) ?_
  intro D A p e s m args below meth c σ av post C hsp
  obtain ⟨h1, h2, h3⟩ := H av σ post hsp
  exact ⟨_, v_X11_held_0 (K := fun _ _ _ _ _ _ => False) C (fun h hh => by cases hh), h1, h2, h3⟩
theorem t_X11_held (l : Launch) : q_Ct l yX11_held cX11_held 4 (some .int) rm_X11_held s_X11_held := u_X11_held l (by
  intro av σ post h
  unfold s_X11_held at h
  split at h
  · next mr w p t =>
    refine ⟨?_, by simp, by simp [Value.category]⟩
    obtain ⟨ad, z, g, ⟨gp, r, hm⟩, hI, h1⟩ := h
    have h2 := h1 _ ⟨gp, r, hm⟩
    unfold I1 at hI
    have J : ∀ x : Int32, isW z w → post (some (.int (holdsF g w x t (mvF z)))) σ → s_X11_holds [.ref mr, .int w, .int x, .int t] σ (fun r9 σ9 => c_iret post [] (r9.toList ++ []) σ9 0 0) := fun x cw hp => ⟨ad, z, g, gp, r, hm, ⟨cw.1, by grind⟩, hI.2.2.2.2.1, hp⟩
    simp only [c_push, c_null, c_iload, c_aload, c_istore, c_astore, c_iinc, c_iadd, c_isub, c_imul, c_iand, c_ineg, c_dup, c_dup2, c_pop, c_ifnull, c_ifnonnull, c_get, c_put, c_iald, c_zald, c_iast, c_zast, c_aald, c_aast, c_alen, c_new, c_newa, c_newq, c_mna, c_oinit, c_max, c_copy, c_iret, c_zret, c_aret, c_vret, q_do, q_rc, c_ifeq, c_ifne, c_iflt, c_ifge, c_ifgt, c_ifle, c_iceq, c_icne, c_iclt, c_icge, c_icgt, c_icle, c_call0, c_call1, c_call2, c_call3, c_call4, c_call5, c_call6, c_call7, q_L0, List.map_cons, List.map_nil, List.replicate, List.cons_append, List.nil_append, List.append_nil, List.length_cons, List.length_nil, List.length_set, Nat.reduceSub, Nat.reduceAdd, Nat.reduceLT, Nat.reduceLeDiff, Nat.zero_add, Nat.add_zero, Nat.sub_zero, Nat.sub_self, List.getElem?_cons_zero, List.getElem?_cons_succ, List.set_cons_zero, List.set_cons_succ, Option.toList_some, Option.toList_none, List.sum_cons, List.sum_nil, true_and, and_true, true_or, or_true, Nat.le_refl, Nat.zero_le, Value.category, Fin.isValue, Fin.val_zero, Fin.val_one, Fin.val_two, Fin.reduceFinMk, q_10, q_01, not_false_eq_true, not_true_eq_false, forall_const, true_implies, false_implies, implies_true, q_ni, q_fi, q_nb0, q_nb1, q_fb0, q_fb1, q_nor, q_nar, q_for, q_far, q_non, q_nan, q_fon, q_fan, imp_false, false_and, and_false, and_self, false_or, or_false, va_rf, refKind, k_X11_held_0, k_X11_held_22, k_X11_held_39, k_X11_held_56, hm.rd, vpi20, s_X11_isWork, s_X11_isPerson, s_X11_in, s_X10_isWithin]
    simp only [c_push, c_null, c_iload, c_aload, c_istore, c_astore, c_iinc, c_iadd, c_isub, c_imul, c_iand, c_ineg, c_dup, c_dup2, c_pop, c_ifnull, c_ifnonnull, c_get, c_put, c_iald, c_zald, c_iast, c_zast, c_aald, c_aast, c_alen, c_new, c_newa, c_newq, c_mna, c_oinit, c_max, c_copy, c_iret, c_zret, c_aret, c_vret, q_do, q_rc, c_ifeq, c_ifne, c_iflt, c_ifge, c_ifgt, c_ifle, c_iceq, c_icne, c_iclt, c_icge, c_icgt, c_icle, c_call0, c_call1, c_call2, c_call3, c_call4, c_call5, c_call6, c_call7, q_L0, List.map_cons, List.map_nil, List.replicate, List.cons_append, List.nil_append, List.append_nil, List.length_cons, List.length_nil, List.length_set, Nat.reduceSub, Nat.reduceAdd, Nat.reduceLT, Nat.reduceLeDiff, Nat.zero_add, Nat.add_zero, Nat.sub_zero, Nat.sub_self, List.getElem?_cons_zero, List.getElem?_cons_succ, List.set_cons_zero, List.set_cons_succ, Option.toList_some, Option.toList_none, List.sum_cons, List.sum_nil, true_and, and_true, true_or, or_true, Nat.le_refl, Nat.zero_le, Value.category, Fin.isValue, Fin.val_zero, Fin.val_one, Fin.val_two, Fin.reduceFinMk, q_10, q_01, not_false_eq_true, not_true_eq_false, forall_const, true_implies, false_implies, implies_true, q_ni, q_fi, q_nb0, q_nb1, q_fb0, q_fb1, q_nor, q_nar, q_for, q_far, q_non, q_nan, q_fon, q_fan, imp_false, false_and, and_false, and_self, false_or, or_false, va_rf, refKind] at J
    unfold F_held at h2
    clear h1
    grind (splits := 40)
  · exact h.elim)
def F_agree (z : Nat → Int32) (g : Nat → Nat → Int32) (w p on : Int32) : Int32 × (Nat → Nat → Int32) :=
  if isW z w ∧ isP z p then (if g 21 (i21 w p) = 0 then 0 else 1, gup g 21 (i21 w p) on) else (-2, g)
theorem nar01 {x : Int32} (h : x = 0 ∨ x = 1) : vp_nar .boolean x = x := by rcases h with rfl | rfl <;> decide
def s_X11_agree : q_Sp := fun av σ post => match av with
  | [.ref mr, .int w, .int p, .int on] => ∃ ad z g, mOK σ mr ad z g ∧ I1 z ∧ (on = 0 ∨ on = 1) ∧ ∀ σ', mOK σ' mr ad z (F_agree z g w p on).2 → post (some (.int (F_agree z g w p on).1)) σ'
  | _ => False
theorem w9_83 : (.fieldLink RX11 58 (TX11 21).1 (TX11 21).2.1 (TX11 21).2.2.1 : Cond) ∈ lw_tbl := by decide +kernel
def rm_X11_agree : Room := { frames := 2, cells := 0, slots := 0, locals := 43 }
def k_X11_agree_16 (post : Option Value → q_S → Prop) (K : Nat → q_K) : q_K := (c_push (-2) (c_iret post))
def k_X11_agree_38 (post : Option Value → q_S → Prop) (K : Nat → q_K) : q_K := (c_istore 4 (c_aload 0 (c_get 11 21 (c_push 12 (c_iload 1 (c_imul (c_iload 2 (c_iadd (c_iload 3 (c_zast (c_iload 4 (c_iret post))))))))))))
def k_X11_agree_0 (post : Option Value → q_S → Prop) (K : Nat → q_K) : q_K := (c_aload 0 (c_iload 1 (c_call2 (some 11) s_X11_isWork 0 0 (c_ifeq (k_X11_agree_16 post K) (c_aload 0 (c_iload 2 (c_call2 (some 11) s_X11_isPerson 0 0 (c_ifne (c_aload 0 (c_get 11 21 (c_push 12 (c_iload 1 (c_imul (c_iload 2 (c_iadd (c_zald (c_ifeq (c_push 0 (k_X11_agree_38 post K)) (c_push 1 (k_X11_agree_38 post K))))))))))) (k_X11_agree_16 post K)))))))))
set_option maxRecDepth 100000 in
theorem v_X11_agree_16 {p : Program} {l : Launch} {e : Env} {s : State} {m : MethodId} {args : Array Value} {below : List Frame} {meth : Method} {c : Code} {D : va_G} {A : Nat → Prop} {post : Option Value → q_S → Prop} {K : Nat → q_K} (C : q_C p s m args meth c cX11_agree 5 RX11 "agree" (some .int) A) (hK : ∀ h ∈ ([] : List Nat), q_V p l e rm_X11_agree s m args below meth c D A 5 (MQ below (q_Qc D A post) args s rm_X11_agree.cells rm_X11_agree.slots A) h (K h)) : q_V p l e rm_X11_agree s m args below meth c D A 5 (MQ below (q_Qc D A post) args s rm_X11_agree.cells rm_X11_agree.slots A) 16 (k_X11_agree_16 post K) := by
  unfold k_X11_agree_16
  refine q_bipush C (by decide +kernel : decode cX11_agree 16 = .ok (.bipush (-2), 2)) (by decide) ?_
  exact q_iret C rfl (by decide +kernel : decode cX11_agree 18 = .ok (.ireturn, 1))
set_option maxRecDepth 100000 in
theorem v_X11_agree_38 {p : Program} {l : Launch} {e : Env} {s : State} {m : MethodId} {args : Array Value} {below : List Frame} {meth : Method} {c : Code} {D : va_G} {A : Nat → Prop} {post : Option Value → q_S → Prop} {K : Nat → q_K} (C : q_C p s m args meth c cX11_agree 5 RX11 "agree" (some .int) A) (hK : ∀ h ∈ ([] : List Nat), q_V p l e rm_X11_agree s m args below meth c D A 5 (MQ below (q_Qc D A post) args s rm_X11_agree.cells rm_X11_agree.slots A) h (K h)) : q_V p l e rm_X11_agree s m args below meth c D A 5 (MQ below (q_Qc D A post) args s rm_X11_agree.cells rm_X11_agree.slots A) 38 (k_X11_agree_38 post K) := by
  unfold k_X11_agree_38
  refine q_istore C (by decide +kernel : decode cX11_agree 38 = .ok (.istore 4, 2)) ?_
  refine q_aload_n C (by decide +kernel : decode cX11_agree 40 = .ok (.aload_n 0, 1)) ?_
  refine q_get C (ci := 11) (j := 21) (C0 := RX11) (T := TX11) (N := 35) rfl iX11 giX11 (by decide) w9_83 (by decide +kernel : decode cX11_agree 41 = .ok (.getfield 58, 3)) ?_
  refine q_bipush C (by decide +kernel : decode cX11_agree 44 = .ok (.bipush 12, 2)) (by decide) ?_
  refine q_iload_n C (by decide +kernel : decode cX11_agree 46 = .ok (.iload_n 1, 1)) ?_
  refine q_imul C (by decide +kernel : decode cX11_agree 47 = .ok (.imul, 1)) ?_
  refine q_iload_n C (by decide +kernel : decode cX11_agree 48 = .ok (.iload_n 2, 1)) ?_
  refine q_iadd C (by decide +kernel : decode cX11_agree 49 = .ok (.iadd, 1)) ?_
  refine q_iload_n C (by decide +kernel : decode cX11_agree 50 = .ok (.iload_n 3, 1)) ?_
  refine q_zast C (by decide +kernel : decode cX11_agree 51 = .ok (.bastore, 1)) ?_
  refine q_iload C (by decide +kernel : decode cX11_agree 52 = .ok (.iload 4, 2)) ?_
  exact q_iret C rfl (by decide +kernel : decode cX11_agree 54 = .ok (.ireturn, 1))
set_option maxRecDepth 100000 in
theorem v_X11_agree_0 {p : Program} {l : Launch} {e : Env} {s : State} {m : MethodId} {args : Array Value} {below : List Frame} {meth : Method} {c : Code} {D : va_G} {A : Nat → Prop} {post : Option Value → q_S → Prop} {K : Nat → q_K} (C : q_C p s m args meth c cX11_agree 5 RX11 "agree" (some .int) A) (hK : ∀ h ∈ ([] : List Nat), q_V p l e rm_X11_agree s m args below meth c D A 5 (MQ below (q_Qc D A post) args s rm_X11_agree.cells rm_X11_agree.slots A) h (K h)) : q_V p l e rm_X11_agree s m args below meth c D A 5 (MQ below (q_Qc D A post) args s rm_X11_agree.cells rm_X11_agree.slots A) 0 (k_X11_agree_0 post K) := by
  unfold k_X11_agree_0
  refine q_aload_n C (by decide +kernel : decode cX11_agree 0 = .ok (.aload_n 0, 1)) ?_
  refine q_iload_n C (by decide +kernel : decode cX11_agree 1 = .ok (.iload_n 1, 1)) ?_
  refine q_call2 C (q_coV C (np := 1) (ci := 11) (rc := (RX11, TX11, 35)) (t_X11_isWork l) w9_48 rfl rfl w9_49 w9_50 w9_51 w9_6 (by decide +kernel) (by decide +kernel : decode cX11_agree 2 = .ok (.invokevirtual 140, 3)) (by decide)) ?_
  refine q_ifeq C (tgt := 16) (by decide +kernel : decode cX11_agree 5 = .ok (.ifCond .eq 11, 3)) (by decide) ?_ ?_
  · exact v_X11_agree_16 C hK
  · refine q_aload_n C (by decide +kernel : decode cX11_agree 8 = .ok (.aload_n 0, 1)) ?_
    refine q_iload_n C (by decide +kernel : decode cX11_agree 9 = .ok (.iload_n 2, 1)) ?_
    refine q_call2 C (q_coV C (np := 1) (ci := 11) (rc := (RX11, TX11, 35)) (t_X11_isPerson l) w9_13 rfl rfl w9_14 w9_15 w9_16 w9_6 (by decide +kernel) (by decide +kernel : decode cX11_agree 10 = .ok (.invokevirtual 106, 3)) (by decide)) ?_
    refine q_ifne C (tgt := 19) (by decide +kernel : decode cX11_agree 13 = .ok (.ifCond .ne 6, 3)) (by decide) ?_ ?_
    · refine q_aload_n C (by decide +kernel : decode cX11_agree 19 = .ok (.aload_n 0, 1)) ?_
      refine q_get C (ci := 11) (j := 21) (C0 := RX11) (T := TX11) (N := 35) rfl iX11 giX11 (by decide) w9_83 (by decide +kernel : decode cX11_agree 20 = .ok (.getfield 58, 3)) ?_
      refine q_bipush C (by decide +kernel : decode cX11_agree 23 = .ok (.bipush 12, 2)) (by decide) ?_
      refine q_iload_n C (by decide +kernel : decode cX11_agree 25 = .ok (.iload_n 1, 1)) ?_
      refine q_imul C (by decide +kernel : decode cX11_agree 26 = .ok (.imul, 1)) ?_
      refine q_iload_n C (by decide +kernel : decode cX11_agree 27 = .ok (.iload_n 2, 1)) ?_
      refine q_iadd C (by decide +kernel : decode cX11_agree 28 = .ok (.iadd, 1)) ?_
      refine q_zald C (by decide +kernel : decode cX11_agree 29 = .ok (.baload, 1)) ?_
      refine q_ifeq C (tgt := 37) (by decide +kernel : decode cX11_agree 30 = .ok (.ifCond .eq 7, 3)) (by decide) ?_ ?_
      · refine q_iconst C (by decide +kernel : decode cX11_agree 37 = .ok (.iconst 0, 1)) (by decide) ?_
        exact v_X11_agree_38 C hK
      · refine q_iconst C (by decide +kernel : decode cX11_agree 33 = .ok (.iconst 1, 1)) (by decide) ?_
        refine q_goto C (tgt := 38) (by decide +kernel : decode cX11_agree 34 = .ok (.goto 4, 3)) (by decide) ?_
        exact v_X11_agree_38 C hK
    · exact v_X11_agree_16 C hK
theorem u_X11_agree (l : Launch) {sp : q_Sp} (H : ∀ (av : List Value) (σ : q_S) (post : Option Value → q_S → Prop), sp av σ post → k_X11_agree_0 post (fun _ _ _ _ _ _ => False) (q_L0 av 5) [] σ 0 0 ∧ av.length ≤ 5 ∧ ∀ v ∈ av, v.category = 1) : q_Ct l yX11_agree cX11_agree 5 (some .int) rm_X11_agree sp := by
  refine q_met (by decide) ?_
  intro D A p e s m args below meth c σ av post C hsp
  obtain ⟨h1, h2, h3⟩ := H av σ post hsp
  exact ⟨_, v_X11_agree_0 (K := fun _ _ _ _ _ _ => False) C (fun h hh => by cases hh), h1, h2, h3⟩
theorem t_X11_agree (l : Launch) : q_Ct l yX11_agree cX11_agree 5 (some .int) rm_X11_agree s_X11_agree := u_X11_agree l (by
  intro av σ post h
  unfold s_X11_agree at h
  split at h
  · next mr w p on =>
    refine ⟨?_, by simp, by simp [Value.category]⟩
    obtain ⟨ad, z, g, ⟨gp, r, hm⟩, hI, hon, h1⟩ := h
    simp only [c_push, c_null, c_iload, c_aload, c_istore, c_astore, c_iinc, c_iadd, c_isub, c_imul, c_iand, c_ineg, c_dup, c_dup2, c_pop, c_ifnull, c_ifnonnull, c_get, c_put, c_iald, c_zald, c_iast, c_zast, c_aald, c_aast, c_alen, c_new, c_newa, c_newq, c_mna, c_oinit, c_max, c_copy, c_iret, c_zret, c_aret, c_vret, q_do, q_rc, c_ifeq, c_ifne, c_iflt, c_ifge, c_ifgt, c_ifle, c_iceq, c_icne, c_iclt, c_icge, c_icgt, c_icle, c_call0, c_call1, c_call2, c_call3, c_call4, c_call5, c_call6, c_call7, q_L0, List.map_cons, List.map_nil, List.replicate, List.cons_append, List.nil_append, List.append_nil, List.length_cons, List.length_nil, List.length_set, Nat.reduceSub, Nat.reduceAdd, Nat.reduceLT, Nat.reduceLeDiff, Nat.zero_add, Nat.add_zero, Nat.sub_zero, Nat.sub_self, List.getElem?_cons_zero, List.getElem?_cons_succ, List.set_cons_zero, List.set_cons_succ, Option.toList_some, Option.toList_none, List.sum_cons, List.sum_nil, true_and, and_true, true_or, or_true, Nat.le_refl, Nat.zero_le, Value.category, Fin.isValue, Fin.val_zero, Fin.val_one, Fin.val_two, Fin.reduceFinMk, q_10, q_01, not_false_eq_true, not_true_eq_false, forall_const, true_implies, false_implies, implies_true, q_ni, q_fi, q_nb0, q_nb1, q_fb0, q_fb1, q_nor, q_nar, q_for, q_far, q_non, q_nan, q_fon, q_fan, imp_false, false_and, and_false, and_self, false_or, or_false, va_rf, refKind, k_X11_agree_0, k_X11_agree_16, k_X11_agree_38, hm.rd, s_X11_isWork, s_X11_isPerson, nar01 hon]
    unfold I1 at hI
    refine ⟨hI.2.2.2.1, fun c => ⟨hI.2.1, fun c2 => ?_, fun c2 => ?_⟩, fun c => ?_⟩
    · have cw : 0 ≤ w ∧ w < 20 := ⟨c.1, by grind⟩
      have ca : 0 ≤ p ∧ p < 12 := ⟨c2.1, by grind⟩
      have hx := at21 cw ca
      have hm1 := hm.a21 (i21 w p) on
      simp only [c_push, c_null, c_iload, c_aload, c_istore, c_astore, c_iinc, c_iadd, c_isub, c_imul, c_iand, c_ineg, c_dup, c_dup2, c_pop, c_ifnull, c_ifnonnull, c_get, c_put, c_iald, c_zald, c_iast, c_zast, c_aald, c_aast, c_alen, c_new, c_newa, c_newq, c_mna, c_oinit, c_max, c_copy, c_iret, c_zret, c_aret, c_vret, q_do, q_rc, c_ifeq, c_ifne, c_iflt, c_ifge, c_ifgt, c_ifle, c_iceq, c_icne, c_iclt, c_icge, c_icgt, c_icle, c_call0, c_call1, c_call2, c_call3, c_call4, c_call5, c_call6, c_call7, q_L0, List.map_cons, List.map_nil, List.replicate, List.cons_append, List.nil_append, List.append_nil, List.length_cons, List.length_nil, List.length_set, Nat.reduceSub, Nat.reduceAdd, Nat.reduceLT, Nat.reduceLeDiff, Nat.zero_add, Nat.add_zero, Nat.sub_zero, Nat.sub_self, List.getElem?_cons_zero, List.getElem?_cons_succ, List.set_cons_zero, List.set_cons_succ, Option.toList_some, Option.toList_none, List.sum_cons, List.sum_nil, true_and, and_true, true_or, or_true, Nat.le_refl, Nat.zero_le, Value.category, Fin.isValue, Fin.val_zero, Fin.val_one, Fin.val_two, Fin.reduceFinMk, q_10, q_01, not_false_eq_true, not_true_eq_false, forall_const, true_implies, false_implies, implies_true, q_ni, q_fi, q_nb0, q_nb1, q_fb0, q_fb1, q_nor, q_nar, q_for, q_far, q_non, q_nan, q_fon, q_fan, imp_false, false_and, and_false, and_self, false_or, or_false, va_rf, refKind, vpi240, hx]
      rw [F_agree, if_pos ⟨c, c2⟩] at h1
      have h2 := h1 _ ⟨gp, r, hm1⟩
      clear h1
      grind
    · rw [F_agree, if_neg (by grind)] at h1
      exact h1 _ ⟨gp, r, hm⟩
    · rw [F_agree, if_neg (by grind)] at h1
      exact h1 _ ⟨gp, r, hm⟩
  · exact h.elim)
-- line, common, count
abbrev i30 (w : Int32) (i : Nat) : Nat := 20 * w.toNatClampNeg + i
def F_line (z : Nat → Int32) (g : Nat → Nat → Int32) (w x : Int32) : Int32 × (Nat → Nat → Int32) :=
  if isW z w ∧ 1 ≤ x ∧ x ≤ 999 then if g 29 w.toNatClampNeg = 20 then (-4, g) else (g 29 w.toNatClampNeg + 1, gup (gup g 30 (20 * w.toNatClampNeg + (g 29 w.toNatClampNeg).toNatClampNeg) x) 29 w.toNatClampNeg (g 29 w.toNatClampNeg + 1)) else (-2, g)
def LM (z : Nat → Int32) (g : Nat → Nat → Int32) : Prop := ∀ w : Nat, nI w < z 11 → w < 20 → 0 ≤ g 29 w ∧ g 29 w ≤ 20
theorem LM.at {z : Nat → Int32} {g : Nat → Nat → Int32} (h : LM z g) {w : Int32} (h0 : 0 ≤ w) (h1 : w < z 11) (h2 : w < 20) : 0 ≤ g 29 w.toNatClampNeg ∧ g 29 w.toNatClampNeg ≤ 20 := h _ (by rw [nI_self h0]; exact h1) (clamp_lt 20 h0 h2)
def s_X11_line : q_Sp := fun av σ post => match av with
  | [.ref mr, .int w, .int x] => ∃ ad z g, mOK σ mr ad z g ∧ I1 z ∧ LM z g ∧ ∀ σ', mOK σ' mr ad z (F_line z g w x).2 → post (some (.int (F_line z g w x).1)) σ'
  | _ => False
theorem w9_84 : (.fieldLink RX11 83 (TX11 30).1 (TX11 30).2.1 (TX11 30).2.2.1 : Cond) ∈ lw_tbl := by decide +kernel
def rm_X11_line : Room := { frames := 2, cells := 0, slots := 0, locals := 43 }
def k_X11_line_19 (post : Option Value → q_S → Prop) (K : Nat → q_K) : q_K := (c_push (-2) (c_iret post))
def k_X11_line_0 (post : Option Value → q_S → Prop) (K : Nat → q_K) : q_K := (c_aload 0 (c_iload 1 (c_call2 (some 11) s_X11_isWork 0 0 (c_ifeq (k_X11_line_19 post K) (c_iload 2 (c_push 1 (c_push 999 (c_call3 none s_X11_in 0 0 (c_ifne (c_aload 0 (c_get 11 29 (c_iload 1 (c_iald (c_push 20 (c_icne (c_aload 0 (c_get 11 30 (c_push 20 (c_iload 1 (c_imul (c_aload 0 (c_get 11 29 (c_iload 1 (c_iald (c_iadd (c_iload 2 (c_iast (c_aload 0 (c_get 11 29 (c_iload 1 (c_dup2 (c_iald (c_push 1 (c_iadd (c_iast (c_aload 0 (c_get 11 29 (c_iload 1 (c_iald (c_iret post))))))))))))))))))))))))) (c_push (-4) (c_iret post)))))))) (k_X11_line_19 post K))))))))))
set_option maxRecDepth 100000 in
theorem v_X11_line_19 {p : Program} {l : Launch} {e : Env} {s : State} {m : MethodId} {args : Array Value} {below : List Frame} {meth : Method} {c : Code} {D : va_G} {A : Nat → Prop} {post : Option Value → q_S → Prop} {K : Nat → q_K} (C : q_C p s m args meth c cX11_line 3 RX11 "line" (some .int) A) (hK : ∀ h ∈ ([] : List Nat), q_V p l e rm_X11_line s m args below meth c D A 3 (MQ below (q_Qc D A post) args s rm_X11_line.cells rm_X11_line.slots A) h (K h)) : q_V p l e rm_X11_line s m args below meth c D A 3 (MQ below (q_Qc D A post) args s rm_X11_line.cells rm_X11_line.slots A) 19 (k_X11_line_19 post K) := by
  unfold k_X11_line_19
  refine q_bipush C (by decide +kernel : decode cX11_line 19 = .ok (.bipush (-2), 2)) (by decide) ?_
  exact q_iret C rfl (by decide +kernel : decode cX11_line 21 = .ok (.ireturn, 1))
set_option maxRecDepth 100000 in
theorem v_X11_line_0 {p : Program} {l : Launch} {e : Env} {s : State} {m : MethodId} {args : Array Value} {below : List Frame} {meth : Method} {c : Code} {D : va_G} {A : Nat → Prop} {post : Option Value → q_S → Prop} {K : Nat → q_K} (C : q_C p s m args meth c cX11_line 3 RX11 "line" (some .int) A) (hK : ∀ h ∈ ([] : List Nat), q_V p l e rm_X11_line s m args below meth c D A 3 (MQ below (q_Qc D A post) args s rm_X11_line.cells rm_X11_line.slots A) h (K h)) : q_V p l e rm_X11_line s m args below meth c D A 3 (MQ below (q_Qc D A post) args s rm_X11_line.cells rm_X11_line.slots A) 0 (k_X11_line_0 post K) := by
  unfold k_X11_line_0
  refine q_aload_n C (by decide +kernel : decode cX11_line 0 = .ok (.aload_n 0, 1)) ?_
  refine q_iload_n C (by decide +kernel : decode cX11_line 1 = .ok (.iload_n 1, 1)) ?_
  refine q_call2 C (q_coV C (np := 1) (ci := 11) (rc := (RX11, TX11, 35)) (t_X11_isWork l) w9_48 rfl rfl w9_49 w9_50 w9_51 w9_6 (by decide +kernel) (by decide +kernel : decode cX11_line 2 = .ok (.invokevirtual 140, 3)) (by decide)) ?_
  refine q_ifeq C (tgt := 19) (by decide +kernel : decode cX11_line 5 = .ok (.ifCond .eq 14, 3)) (by decide) ?_ ?_
  · exact v_X11_line_19 C hK
  · refine q_iload_n C (by decide +kernel : decode cX11_line 8 = .ok (.iload_n 2, 1)) ?_
    refine q_iconst C (by decide +kernel : decode cX11_line 9 = .ok (.iconst 1, 1)) (by decide) ?_
    refine q_sipush C (by decide +kernel : decode cX11_line 10 = .ok (.sipush 999, 3)) (by decide) ?_
    refine q_call3 C (q_coS C (np := 3) (t_X11_in l) w9_5 w9_8 w9_7 w9_6 (by decide +kernel) (by decide +kernel : decode cX11_line 13 = .ok (.invokestatic 92, 3)) (by decide)) ?_
    refine q_ifne C (tgt := 22) (by decide +kernel : decode cX11_line 16 = .ok (.ifCond .ne 6, 3)) (by decide) ?_ ?_
    · refine q_aload_n C (by decide +kernel : decode cX11_line 22 = .ok (.aload_n 0, 1)) ?_
      refine q_get C (ci := 11) (j := 29) (C0 := RX11) (T := TX11) (N := 35) rfl iX11 giX11 (by decide) w9_30 (by decide +kernel : decode cX11_line 23 = .ok (.getfield 80, 3)) ?_
      refine q_iload_n C (by decide +kernel : decode cX11_line 26 = .ok (.iload_n 1, 1)) ?_
      refine q_iald C (by decide +kernel : decode cX11_line 27 = .ok (.iaload, 1)) ?_
      refine q_bipush C (by decide +kernel : decode cX11_line 28 = .ok (.bipush 20, 2)) (by decide) ?_
      refine q_icne C (tgt := 36) (by decide +kernel : decode cX11_line 30 = .ok (.if_icmp .ne 6, 3)) (by decide) ?_ ?_
      · refine q_aload_n C (by decide +kernel : decode cX11_line 36 = .ok (.aload_n 0, 1)) ?_
        refine q_get C (ci := 11) (j := 30) (C0 := RX11) (T := TX11) (N := 35) rfl iX11 giX11 (by decide) w9_84 (by decide +kernel : decode cX11_line 37 = .ok (.getfield 83, 3)) ?_
        refine q_bipush C (by decide +kernel : decode cX11_line 40 = .ok (.bipush 20, 2)) (by decide) ?_
        refine q_iload_n C (by decide +kernel : decode cX11_line 42 = .ok (.iload_n 1, 1)) ?_
        refine q_imul C (by decide +kernel : decode cX11_line 43 = .ok (.imul, 1)) ?_
        refine q_aload_n C (by decide +kernel : decode cX11_line 44 = .ok (.aload_n 0, 1)) ?_
        refine q_get C (ci := 11) (j := 29) (C0 := RX11) (T := TX11) (N := 35) rfl iX11 giX11 (by decide) w9_30 (by decide +kernel : decode cX11_line 45 = .ok (.getfield 80, 3)) ?_
        refine q_iload_n C (by decide +kernel : decode cX11_line 48 = .ok (.iload_n 1, 1)) ?_
        refine q_iald C (by decide +kernel : decode cX11_line 49 = .ok (.iaload, 1)) ?_
        refine q_iadd C (by decide +kernel : decode cX11_line 50 = .ok (.iadd, 1)) ?_
        refine q_iload_n C (by decide +kernel : decode cX11_line 51 = .ok (.iload_n 2, 1)) ?_
        refine q_iast C (by decide +kernel : decode cX11_line 52 = .ok (.iastore, 1)) ?_
        refine q_aload_n C (by decide +kernel : decode cX11_line 53 = .ok (.aload_n 0, 1)) ?_
        refine q_get C (ci := 11) (j := 29) (C0 := RX11) (T := TX11) (N := 35) rfl iX11 giX11 (by decide) w9_30 (by decide +kernel : decode cX11_line 54 = .ok (.getfield 80, 3)) ?_
        refine q_iload_n C (by decide +kernel : decode cX11_line 57 = .ok (.iload_n 1, 1)) ?_
        refine q_dup2 C (by decide +kernel : decode cX11_line 58 = .ok (.dup2, 1)) ?_
        refine q_iald C (by decide +kernel : decode cX11_line 59 = .ok (.iaload, 1)) ?_
        refine q_iconst C (by decide +kernel : decode cX11_line 60 = .ok (.iconst 1, 1)) (by decide) ?_
        refine q_iadd C (by decide +kernel : decode cX11_line 61 = .ok (.iadd, 1)) ?_
        refine q_iast C (by decide +kernel : decode cX11_line 62 = .ok (.iastore, 1)) ?_
        refine q_aload_n C (by decide +kernel : decode cX11_line 63 = .ok (.aload_n 0, 1)) ?_
        refine q_get C (ci := 11) (j := 29) (C0 := RX11) (T := TX11) (N := 35) rfl iX11 giX11 (by decide) w9_30 (by decide +kernel : decode cX11_line 64 = .ok (.getfield 80, 3)) ?_
        refine q_iload_n C (by decide +kernel : decode cX11_line 67 = .ok (.iload_n 1, 1)) ?_
        refine q_iald C (by decide +kernel : decode cX11_line 68 = .ok (.iaload, 1)) ?_
        exact q_iret C rfl (by decide +kernel : decode cX11_line 69 = .ok (.ireturn, 1))
      · refine q_bipush C (by decide +kernel : decode cX11_line 33 = .ok (.bipush (-4), 2)) (by decide) ?_
        exact q_iret C rfl (by decide +kernel : decode cX11_line 35 = .ok (.ireturn, 1))
    · exact v_X11_line_19 C hK
theorem u_X11_line (l : Launch) {sp : q_Sp} (H : ∀ (av : List Value) (σ : q_S) (post : Option Value → q_S → Prop), sp av σ post → k_X11_line_0 post (fun _ _ _ _ _ _ => False) (q_L0 av 3) [] σ 0 0 ∧ av.length ≤ 3 ∧ ∀ v ∈ av, v.category = 1) : q_Ct l yX11_line cX11_line 3 (some .int) rm_X11_line sp := by
  refine q_met (by decide) ?_
  intro D A p e s m args below meth c σ av post C hsp
  obtain ⟨h1, h2, h3⟩ := H av σ post hsp
  exact ⟨_, v_X11_line_0 (K := fun _ _ _ _ _ _ => False) C (fun h hh => by cases hh), h1, h2, h3⟩
theorem t_X11_line (l : Launch) : q_Ct l yX11_line cX11_line 3 (some .int) rm_X11_line s_X11_line := u_X11_line l (by
  intro av σ post h
  unfold s_X11_line at h
  split at h
  · next mr w x =>
    refine ⟨?_, by simp, by simp [Value.category]⟩
    obtain ⟨ad, z, g, ⟨gp, r, hm⟩, hI, hLM, h1⟩ := h
    simp only [c_push, c_null, c_iload, c_aload, c_istore, c_astore, c_iinc, c_iadd, c_isub, c_imul, c_iand, c_ineg, c_dup, c_dup2, c_pop, c_ifnull, c_ifnonnull, c_get, c_put, c_iald, c_zald, c_iast, c_zast, c_aald, c_aast, c_alen, c_new, c_newa, c_newq, c_mna, c_oinit, c_max, c_copy, c_iret, c_zret, c_aret, c_vret, q_do, q_rc, c_ifeq, c_ifne, c_iflt, c_ifge, c_ifgt, c_ifle, c_iceq, c_icne, c_iclt, c_icge, c_icgt, c_icle, c_call0, c_call1, c_call2, c_call3, c_call4, c_call5, c_call6, c_call7, q_L0, List.map_cons, List.map_nil, List.replicate, List.cons_append, List.nil_append, List.append_nil, List.length_cons, List.length_nil, List.length_set, Nat.reduceSub, Nat.reduceAdd, Nat.reduceLT, Nat.reduceLeDiff, Nat.zero_add, Nat.add_zero, Nat.sub_zero, Nat.sub_self, List.getElem?_cons_zero, List.getElem?_cons_succ, List.set_cons_zero, List.set_cons_succ, Option.toList_some, Option.toList_none, List.sum_cons, List.sum_nil, true_and, and_true, true_or, or_true, Nat.le_refl, Nat.zero_le, Value.category, Fin.isValue, Fin.val_zero, Fin.val_one, Fin.val_two, Fin.reduceFinMk, q_10, q_01, not_false_eq_true, not_true_eq_false, forall_const, true_implies, false_implies, implies_true, q_ni, q_fi, q_nb0, q_nb1, q_fb0, q_fb1, q_nor, q_nar, q_for, q_far, q_non, q_nan, q_fon, q_fan, imp_false, false_and, and_false, and_self, false_or, or_false, va_rf, refKind, k_X11_line_0, k_X11_line_19, hm.rd, s_X11_isWork, s_X11_in, s_X10_isWithin, vpi20]
    unfold I1 at hI
    refine ⟨hI.2.2.2.1, fun c => ⟨fun c2 => ?_, fun c2 => ?_⟩, fun c => ?_⟩
    · have cw : 0 ≤ w ∧ w < 20 := ⟨c.1, by grind⟩
      have hl := hLM.at c.1 c.2 cw.2
      rw [F_line, if_pos ⟨c, c2⟩] at h1
      refine ⟨cw, fun c3 => ?_, fun c3 => ?_⟩
      · rw [if_neg c3] at h1
        have hl2 : g 29 w.toNatClampNeg < 20 := by grind
        obtain ⟨wn, hwn, e0, e1⟩ := inR 20 cw.1 cw.2
        obtain ⟨ln, hln, f0, f1⟩ := inR 20 hl.1 hl2
        have hm1 := hm.a30 (20 * w.toNatClampNeg + (g 29 w.toNatClampNeg).toNatClampNeg) x
        have hm2 := hm1.a29 w.toNatClampNeg (g 29 w.toNatClampNeg + 1)
        have hx : (0 ≤ 20 * w + g 29 w.toNatClampNeg ∧ 20 * w + g 29 w.toNatClampNeg < 400) ∧ (20 * w + g 29 w.toNatClampNeg).toNatClampNeg = 20 * w.toNatClampNeg + (g 29 w.toNatClampNeg).toNatClampNeg := by
          rw [f1, f0, e1, e0, idx30]
          exact ⟨⟨nI_low (by omega), nI_ltN (N := 400) (by omega)⟩, clN (by omega)⟩
        have e8 : ∀ (i : Nat) (v : Int32), gup g 30 i v 29 = g 29 := fun _ _ => rfl
        have hm1rd := hm1.rd
        simp only [e8] at hm2 hm1rd
        simp only [c_push, c_null, c_iload, c_aload, c_istore, c_astore, c_iinc, c_iadd, c_isub, c_imul, c_iand, c_ineg, c_dup, c_dup2, c_pop, c_ifnull, c_ifnonnull, c_get, c_put, c_iald, c_zald, c_iast, c_zast, c_aald, c_aast, c_alen, c_new, c_newa, c_newq, c_mna, c_oinit, c_max, c_copy, c_iret, c_zret, c_aret, c_vret, q_do, q_rc, c_ifeq, c_ifne, c_iflt, c_ifge, c_ifgt, c_ifle, c_iceq, c_icne, c_iclt, c_icge, c_icgt, c_icle, c_call0, c_call1, c_call2, c_call3, c_call4, c_call5, c_call6, c_call7, q_L0, List.map_cons, List.map_nil, List.replicate, List.cons_append, List.nil_append, List.append_nil, List.length_cons, List.length_nil, List.length_set, Nat.reduceSub, Nat.reduceAdd, Nat.reduceLT, Nat.reduceLeDiff, Nat.zero_add, Nat.add_zero, Nat.sub_zero, Nat.sub_self, List.getElem?_cons_zero, List.getElem?_cons_succ, List.set_cons_zero, List.set_cons_succ, Option.toList_some, Option.toList_none, List.sum_cons, List.sum_nil, true_and, and_true, true_or, or_true, Nat.le_refl, Nat.zero_le, Value.category, Fin.isValue, Fin.val_zero, Fin.val_one, Fin.val_two, Fin.reduceFinMk, q_10, q_01, not_false_eq_true, not_true_eq_false, forall_const, true_implies, false_implies, implies_true, q_ni, q_fi, q_nb0, q_nb1, q_fb0, q_fb1, q_nor, q_nar, q_for, q_far, q_non, q_nan, q_fon, q_fan, imp_false, false_and, and_false, and_self, false_or, or_false, va_rf, refKind, hm.rd, vpi400, vpi20, hx, hm1rd, hm2.rd, cw]
        have h2 := h1 _ ⟨gp, r, hm2⟩
        have e9 : gup (gup g 30 (20 * w.toNatClampNeg + (g 29 w.toNatClampNeg).toNatClampNeg) x) 29 w.toNatClampNeg (g 29 w.toNatClampNeg + 1) 29 w.toNatClampNeg = g 29 w.toNatClampNeg + 1 := by simp [gup, upd]
        rw [e9]
        exact h2
      · rw [if_pos c3] at h1
        exact h1 _ ⟨gp, r, hm⟩
    · rw [F_line, if_neg (by grind)] at h1
      exact h1 _ ⟨gp, r, hm⟩
    · rw [F_line, if_neg (by grind)] at h1
      exact h1 _ ⟨gp, r, hm⟩
  · exact h.elim)
def F_common (z : Nat → Int32) (g : Nat → Nat → Int32) (x on : Int32) : Int32 × (Nat → Int32) × (Nat → Nat → Int32) :=
  if 1 ≤ x ∧ x ≤ 999 then if on = 1 ∧ g 32 x.toNatClampNeg = 0 ∧ z 31 = 20 then (-4, z, g) else (if g 32 x.toNatClampNeg = 0 then 0 else 1, upd z 31 (z 31 + (on - (if g 32 x.toNatClampNeg = 0 then 0 else 1))), gup g 32 x.toNatClampNeg on) else (-2, z, g)
def s_X11_common : q_Sp := fun av σ post => match av with
  | [.ref mr, .int x, .int on] => ∃ ad z g, mOK σ mr ad z g ∧ I1 z ∧ (on = 0 ∨ on = 1) ∧ ∀ σ', mOK σ' mr ad (F_common z g x on).2.1 (F_common z g x on).2.2 → post (some (.int (F_common z g x on).1)) σ'
  | _ => False
theorem w9_85 : (.fieldLink RX11 86 (TX11 32).1 (TX11 32).2.1 (TX11 32).2.2.1 : Cond) ∈ lw_tbl := by decide +kernel
theorem w9_86 : (.fieldLink RX11 167 (TX11 31).1 (TX11 31).2.1 (TX11 31).2.2.1 : Cond) ∈ lw_tbl := by decide +kernel
def rm_X11_common : Room := { frames := 1, cells := 0, slots := 0, locals := 22 }
def k_X11_common_63 (post : Option Value → q_S → Prop) (K : Nat → q_K) : q_K := (c_iload 3 (c_isub (c_iadd (c_put 11 31 (.int) (c_aload 0 (c_get 11 32 (c_iload 1 (c_iload 2 (c_zast (c_iload 3 (c_iret post)))))))))))
def k_X11_common_49 (post : Option Value → q_S → Prop) (K : Nat → q_K) : q_K := (c_aload 0 (c_dup (c_get 11 31 (c_iload 2 (c_ifeq (c_push 0 (k_X11_common_63 post K)) (c_push 1 (k_X11_common_63 post K)))))))
def k_X11_common_28 (post : Option Value → q_S → Prop) (K : Nat → q_K) : q_K := (c_istore 3 (c_iload 2 (c_ifeq (k_X11_common_49 post K) (c_iload 3 (c_ifne (k_X11_common_49 post K) (c_aload 0 (c_get 11 31 (c_push 20 (c_icne (k_X11_common_49 post K) (c_push (-4) (c_iret post)))))))))))
def k_X11_common_0 (post : Option Value → q_S → Prop) (K : Nat → q_K) : q_K := (c_iload 1 (c_push 1 (c_push 999 (c_call3 none s_X11_in 0 0 (c_ifne (c_aload 0 (c_get 11 32 (c_iload 1 (c_zald (c_ifeq (c_push 0 (k_X11_common_28 post K)) (c_push 1 (k_X11_common_28 post K))))))) (c_push (-2) (c_iret post)))))))
set_option maxRecDepth 100000 in
theorem v_X11_common_63 {p : Program} {l : Launch} {e : Env} {s : State} {m : MethodId} {args : Array Value} {below : List Frame} {meth : Method} {c : Code} {D : va_G} {A : Nat → Prop} {post : Option Value → q_S → Prop} {K : Nat → q_K} (C : q_C p s m args meth c cX11_common 4 RX11 "common" (some .int) A) (hK : ∀ h ∈ ([] : List Nat), q_V p l e rm_X11_common s m args below meth c D A 4 (MQ below (q_Qc D A post) args s rm_X11_common.cells rm_X11_common.slots A) h (K h)) : q_V p l e rm_X11_common s m args below meth c D A 4 (MQ below (q_Qc D A post) args s rm_X11_common.cells rm_X11_common.slots A) 63 (k_X11_common_63 post K) := by
  unfold k_X11_common_63
  refine q_iload_n C (by decide +kernel : decode cX11_common 63 = .ok (.iload_n 3, 1)) ?_
  refine q_isub C (by decide +kernel : decode cX11_common 64 = .ok (.isub, 1)) ?_
  refine q_iadd C (by decide +kernel : decode cX11_common 65 = .ok (.iadd, 1)) ?_
  refine q_put C (ci := 11) (j := 31) (C0 := RX11) (T := TX11) (N := 35) (ty := .int) rfl iX11 giX11 (by decide) tyX11 tyX11_ok nmX11 (by decide +kernel) rfl w9_86 (by decide +kernel : decode cX11_common 66 = .ok (.putfield 167, 3)) ?_
  refine q_aload_n C (by decide +kernel : decode cX11_common 69 = .ok (.aload_n 0, 1)) ?_
  refine q_get C (ci := 11) (j := 32) (C0 := RX11) (T := TX11) (N := 35) rfl iX11 giX11 (by decide) w9_85 (by decide +kernel : decode cX11_common 70 = .ok (.getfield 86, 3)) ?_
  refine q_iload_n C (by decide +kernel : decode cX11_common 73 = .ok (.iload_n 1, 1)) ?_
  refine q_iload_n C (by decide +kernel : decode cX11_common 74 = .ok (.iload_n 2, 1)) ?_
  refine q_zast C (by decide +kernel : decode cX11_common 75 = .ok (.bastore, 1)) ?_
  refine q_iload_n C (by decide +kernel : decode cX11_common 76 = .ok (.iload_n 3, 1)) ?_
  exact q_iret C rfl (by decide +kernel : decode cX11_common 77 = .ok (.ireturn, 1))
set_option maxRecDepth 100000 in
theorem v_X11_common_49 {p : Program} {l : Launch} {e : Env} {s : State} {m : MethodId} {args : Array Value} {below : List Frame} {meth : Method} {c : Code} {D : va_G} {A : Nat → Prop} {post : Option Value → q_S → Prop} {K : Nat → q_K} (C : q_C p s m args meth c cX11_common 4 RX11 "common" (some .int) A) (hK : ∀ h ∈ ([] : List Nat), q_V p l e rm_X11_common s m args below meth c D A 4 (MQ below (q_Qc D A post) args s rm_X11_common.cells rm_X11_common.slots A) h (K h)) : q_V p l e rm_X11_common s m args below meth c D A 4 (MQ below (q_Qc D A post) args s rm_X11_common.cells rm_X11_common.slots A) 49 (k_X11_common_49 post K) := by
  unfold k_X11_common_49
  refine q_aload_n C (by decide +kernel : decode cX11_common 49 = .ok (.aload_n 0, 1)) ?_
  refine q_dup C (by decide +kernel : decode cX11_common 50 = .ok (.dup, 1)) ?_
  refine q_get C (ci := 11) (j := 31) (C0 := RX11) (T := TX11) (N := 35) rfl iX11 giX11 (by decide) w9_86 (by decide +kernel : decode cX11_common 51 = .ok (.getfield 167, 3)) ?_
  refine q_iload_n C (by decide +kernel : decode cX11_common 54 = .ok (.iload_n 2, 1)) ?_
  refine q_ifeq C (tgt := 62) (by decide +kernel : decode cX11_common 55 = .ok (.ifCond .eq 7, 3)) (by decide) ?_ ?_
  · refine q_iconst C (by decide +kernel : decode cX11_common 62 = .ok (.iconst 0, 1)) (by decide) ?_
    exact v_X11_common_63 C hK
  · refine q_iconst C (by decide +kernel : decode cX11_common 58 = .ok (.iconst 1, 1)) (by decide) ?_
    refine q_goto C (tgt := 63) (by decide +kernel : decode cX11_common 59 = .ok (.goto 4, 3)) (by decide) ?_
    exact v_X11_common_63 C hK
set_option maxRecDepth 100000 in
theorem v_X11_common_28 {p : Program} {l : Launch} {e : Env} {s : State} {m : MethodId} {args : Array Value} {below : List Frame} {meth : Method} {c : Code} {D : va_G} {A : Nat → Prop} {post : Option Value → q_S → Prop} {K : Nat → q_K} (C : q_C p s m args meth c cX11_common 4 RX11 "common" (some .int) A) (hK : ∀ h ∈ ([] : List Nat), q_V p l e rm_X11_common s m args below meth c D A 4 (MQ below (q_Qc D A post) args s rm_X11_common.cells rm_X11_common.slots A) h (K h)) : q_V p l e rm_X11_common s m args below meth c D A 4 (MQ below (q_Qc D A post) args s rm_X11_common.cells rm_X11_common.slots A) 28 (k_X11_common_28 post K) := by
  unfold k_X11_common_28
  refine q_istore_n C (by decide +kernel : decode cX11_common 28 = .ok (.istore_n 3, 1)) ?_
  refine q_iload_n C (by decide +kernel : decode cX11_common 29 = .ok (.iload_n 2, 1)) ?_
  refine q_ifeq C (tgt := 49) (by decide +kernel : decode cX11_common 30 = .ok (.ifCond .eq 19, 3)) (by decide) ?_ ?_
  · exact v_X11_common_49 C hK
  · refine q_iload_n C (by decide +kernel : decode cX11_common 33 = .ok (.iload_n 3, 1)) ?_
    refine q_ifne C (tgt := 49) (by decide +kernel : decode cX11_common 34 = .ok (.ifCond .ne 15, 3)) (by decide) ?_ ?_
    · exact v_X11_common_49 C hK
    · refine q_aload_n C (by decide +kernel : decode cX11_common 37 = .ok (.aload_n 0, 1)) ?_
      refine q_get C (ci := 11) (j := 31) (C0 := RX11) (T := TX11) (N := 35) rfl iX11 giX11 (by decide) w9_86 (by decide +kernel : decode cX11_common 38 = .ok (.getfield 167, 3)) ?_
      refine q_bipush C (by decide +kernel : decode cX11_common 41 = .ok (.bipush 20, 2)) (by decide) ?_
      refine q_icne C (tgt := 49) (by decide +kernel : decode cX11_common 43 = .ok (.if_icmp .ne 6, 3)) (by decide) ?_ ?_
      · exact v_X11_common_49 C hK
      · refine q_bipush C (by decide +kernel : decode cX11_common 46 = .ok (.bipush (-4), 2)) (by decide) ?_
        exact q_iret C rfl (by decide +kernel : decode cX11_common 48 = .ok (.ireturn, 1))
set_option maxRecDepth 100000 in
theorem v_X11_common_0 {p : Program} {l : Launch} {e : Env} {s : State} {m : MethodId} {args : Array Value} {below : List Frame} {meth : Method} {c : Code} {D : va_G} {A : Nat → Prop} {post : Option Value → q_S → Prop} {K : Nat → q_K} (C : q_C p s m args meth c cX11_common 4 RX11 "common" (some .int) A) (hK : ∀ h ∈ ([] : List Nat), q_V p l e rm_X11_common s m args below meth c D A 4 (MQ below (q_Qc D A post) args s rm_X11_common.cells rm_X11_common.slots A) h (K h)) : q_V p l e rm_X11_common s m args below meth c D A 4 (MQ below (q_Qc D A post) args s rm_X11_common.cells rm_X11_common.slots A) 0 (k_X11_common_0 post K) := by
  unfold k_X11_common_0
  refine q_iload_n C (by decide +kernel : decode cX11_common 0 = .ok (.iload_n 1, 1)) ?_
  refine q_iconst C (by decide +kernel : decode cX11_common 1 = .ok (.iconst 1, 1)) (by decide) ?_
  refine q_sipush C (by decide +kernel : decode cX11_common 2 = .ok (.sipush 999, 3)) (by decide) ?_
  refine q_call3 C (q_coS C (np := 3) (t_X11_in l) w9_5 w9_8 w9_7 w9_6 (by decide +kernel) (by decide +kernel : decode cX11_common 5 = .ok (.invokestatic 92, 3)) (by decide)) ?_
  refine q_ifne C (tgt := 14) (by decide +kernel : decode cX11_common 8 = .ok (.ifCond .ne 6, 3)) (by decide) ?_ ?_
  · refine q_aload_n C (by decide +kernel : decode cX11_common 14 = .ok (.aload_n 0, 1)) ?_
    refine q_get C (ci := 11) (j := 32) (C0 := RX11) (T := TX11) (N := 35) rfl iX11 giX11 (by decide) w9_85 (by decide +kernel : decode cX11_common 15 = .ok (.getfield 86, 3)) ?_
    refine q_iload_n C (by decide +kernel : decode cX11_common 18 = .ok (.iload_n 1, 1)) ?_
    refine q_zald C (by decide +kernel : decode cX11_common 19 = .ok (.baload, 1)) ?_
    refine q_ifeq C (tgt := 27) (by decide +kernel : decode cX11_common 20 = .ok (.ifCond .eq 7, 3)) (by decide) ?_ ?_
    · refine q_iconst C (by decide +kernel : decode cX11_common 27 = .ok (.iconst 0, 1)) (by decide) ?_
      exact v_X11_common_28 C hK
    · refine q_iconst C (by decide +kernel : decode cX11_common 23 = .ok (.iconst 1, 1)) (by decide) ?_
      refine q_goto C (tgt := 28) (by decide +kernel : decode cX11_common 24 = .ok (.goto 4, 3)) (by decide) ?_
      exact v_X11_common_28 C hK
  · refine q_bipush C (by decide +kernel : decode cX11_common 11 = .ok (.bipush (-2), 2)) (by decide) ?_
    exact q_iret C rfl (by decide +kernel : decode cX11_common 13 = .ok (.ireturn, 1))
theorem u_X11_common (l : Launch) {sp : q_Sp} (H : ∀ (av : List Value) (σ : q_S) (post : Option Value → q_S → Prop), sp av σ post → k_X11_common_0 post (fun _ _ _ _ _ _ => False) (q_L0 av 4) [] σ 0 0 ∧ av.length ≤ 4 ∧ ∀ v ∈ av, v.category = 1) : q_Ct l yX11_common cX11_common 4 (some .int) rm_X11_common sp := by
  refine q_met (by decide) ?_
  intro D A p e s m args below meth c σ av post C hsp
  obtain ⟨h1, h2, h3⟩ := H av σ post hsp
  exact ⟨_, v_X11_common_0 (K := fun _ _ _ _ _ _ => False) C (fun h hh => by cases hh), h1, h2, h3⟩
theorem t_X11_common (l : Launch) : q_Ct l yX11_common cX11_common 4 (some .int) rm_X11_common s_X11_common := u_X11_common l (by
  intro av σ post h
  unfold s_X11_common at h
  split at h
  · next mr x on =>
    refine ⟨?_, by simp, by simp [Value.category]⟩
    obtain ⟨ad, z, g, ⟨gp, r, hm⟩, hI, hon, h1⟩ := h
    have P := fun v => hm.p31 v
    have Q : ∀ v, _ := fun v => (hm.p31 v).a32 x.toNatClampNeg on
    have Prd := fun v => (hm.p31 v).rd
    simp only [c_push, c_null, c_iload, c_aload, c_istore, c_astore, c_iinc, c_iadd, c_isub, c_imul, c_iand, c_ineg, c_dup, c_dup2, c_pop, c_ifnull, c_ifnonnull, c_get, c_put, c_iald, c_zald, c_iast, c_zast, c_aald, c_aast, c_alen, c_new, c_newa, c_newq, c_mna, c_oinit, c_max, c_copy, c_iret, c_zret, c_aret, c_vret, q_do, q_rc, c_ifeq, c_ifne, c_iflt, c_ifge, c_ifgt, c_ifle, c_iceq, c_icne, c_iclt, c_icge, c_icgt, c_icle, c_call0, c_call1, c_call2, c_call3, c_call4, c_call5, c_call6, c_call7, q_L0, List.map_cons, List.map_nil, List.replicate, List.cons_append, List.nil_append, List.append_nil, List.length_cons, List.length_nil, List.length_set, Nat.reduceSub, Nat.reduceAdd, Nat.reduceLT, Nat.reduceLeDiff, Nat.zero_add, Nat.add_zero, Nat.sub_zero, Nat.sub_self, List.getElem?_cons_zero, List.getElem?_cons_succ, List.set_cons_zero, List.set_cons_succ, Option.toList_some, Option.toList_none, List.sum_cons, List.sum_nil, true_and, and_true, true_or, or_true, Nat.le_refl, Nat.zero_le, Value.category, Fin.isValue, Fin.val_zero, Fin.val_one, Fin.val_two, Fin.reduceFinMk, q_10, q_01, not_false_eq_true, not_true_eq_false, forall_const, true_implies, false_implies, implies_true, q_ni, q_fi, q_nb0, q_nb1, q_fb0, q_fb1, q_nor, q_nar, q_for, q_far, q_non, q_nan, q_fon, q_fan, imp_false, false_and, and_false, and_self, false_or, or_false, va_rf, refKind, k_X11_common_0, k_X11_common_28, k_X11_common_49, k_X11_common_63, hm.rd, Prd, s_X11_in, s_X10_isWithin, nar01 hon, vpi1000]
    by_cases c1 : 1 ≤ x ∧ x ≤ 999
    · rw [F_common, if_pos c1] at h1
      have cx : 0 ≤ x ∧ x < 1000 := by grind
      by_cases c2 : on = 1 ∧ g 32 x.toNatClampNeg = 0 ∧ z 31 = 20
      · rw [if_pos c2] at h1
        have a := h1 _ ⟨gp, r, hm⟩
        clear h1 P Q Prd hm
        grind (splits := 40)
      · rw [if_neg c2] at h1
        have a := h1 _ ⟨gp, r, Q _⟩
        clear h1 P Q Prd hm
        rcases hon with rfl | rfl <;> by_cases c3 : g 32 x.toNatClampNeg = 0 <;> simp only [c3, if_true, if_false] at a <;> grind (splits := 40)
    · rw [F_common, if_neg c1] at h1
      have a := h1 _ ⟨gp, r, hm⟩
      clear h1 P Q Prd hm
      grind (splits := 40)
  · exact h.elim)
theorem ofI {x : Int32} {n : Nat} (h : x.toInt = 0 + (n : Int)) (hn : n < 2147483648) : x = nI n := Int32.toInt_inj.mp (by rw [nI_toInt hn]; omega)
def F_count (z : Nat → Int32) (x : Int32) : Int32 := if x = 0 then z 0 else if x = 1 then z 1 else if x = 2 then z 5 else if x = 3 then z 11 else if x = 4 then z 22 else if x = 5 then z 31 else -2
def s_X11_count : q_Sp := fun av σ post => match av with
  | [.ref mr, .int x] => ∃ ad z g, mOK σ mr ad z g ∧ ∀ σ', mOK σ' mr ad z g → post (some (.int (F_count z x))) σ'
  | _ => False
theorem w9_87 : (.fieldLink RX11 164 (TX11 22).1 (TX11 22).2.1 (TX11 22).2.2.1 : Cond) ∈ lw_tbl := by decide +kernel
def rm_X11_count : Room := { frames := 0, cells := 0, slots := 0, locals := 0 }
def k_X11_count_0 (post : Option Value → q_S → Prop) (K : Nat → q_K) : q_K := (c_iload 1 (c_tsw 0 [(c_aload 0 (c_get 11 0 (c_iret post))), (c_aload 0 (c_get 11 1 (c_iret post))), (c_aload 0 (c_get 11 5 (c_iret post))), (c_aload 0 (c_get 11 11 (c_iret post))), (c_aload 0 (c_get 11 22 (c_iret post))), (c_aload 0 (c_get 11 31 (c_iret post)))] (c_push (-2) (c_iret post))))
set_option maxRecDepth 100000 in
theorem v_X11_count_0 {p : Program} {l : Launch} {e : Env} {s : State} {m : MethodId} {args : Array Value} {below : List Frame} {meth : Method} {c : Code} {D : va_G} {A : Nat → Prop} {post : Option Value → q_S → Prop} {K : Nat → q_K} (C : q_C p s m args meth c cX11_count 2 RX11 "count" (some .int) A) (hK : ∀ h ∈ ([] : List Nat), q_V p l e rm_X11_count s m args below meth c D A 2 (MQ below (q_Qc D A post) args s rm_X11_count.cells rm_X11_count.slots A) h (K h)) : q_V p l e rm_X11_count s m args below meth c D A 2 (MQ below (q_Qc D A post) args s rm_X11_count.cells rm_X11_count.slots A) 0 (k_X11_count_0 post K) := by
  unfold k_X11_count_0
  refine q_iload_n C (by decide +kernel : decode cX11_count 0 = .ok (.iload_n 1, 1)) ?_
  refine q_tsw C (tgt := 70) (by decide +kernel : decode cX11_count 1 = .ok (.tableswitch 69 0 5 #[39, 44, 49, 54, 59, 64], 39)) (by rfl) (by decide) ?_ (fun i ki hi => ?_)
  · refine q_bipush C (by decide +kernel : decode cX11_count 70 = .ok (.bipush (-2), 2)) (by decide) ?_
    exact q_iret C rfl (by decide +kernel : decode cX11_count 72 = .ok (.ireturn, 1))
  · match i, hi with
    | 0, hi =>
      cases hi
      refine ⟨39, 40, by decide, by decide, ?_⟩
      refine q_aload_n C (by decide +kernel : decode cX11_count 40 = .ok (.aload_n 0, 1)) ?_
      refine q_get C (ci := 11) (j := 0) (C0 := RX11) (T := TX11) (N := 35) rfl iX11 giX11 (by decide) w9_10 (by decide +kernel : decode cX11_count 41 = .ok (.getfield 96, 3)) ?_
      exact q_iret C rfl (by decide +kernel : decode cX11_count 44 = .ok (.ireturn, 1))
    | 1, hi =>
      cases hi
      refine ⟨44, 45, by decide, by decide, ?_⟩
      refine q_aload_n C (by decide +kernel : decode cX11_count 45 = .ok (.aload_n 0, 1)) ?_
      refine q_get C (ci := 11) (j := 1) (C0 := RX11) (T := TX11) (N := 35) rfl iX11 giX11 (by decide) w9_4 (by decide +kernel : decode cX11_count 46 = .ok (.getfield 100, 3)) ?_
      exact q_iret C rfl (by decide +kernel : decode cX11_count 49 = .ok (.ireturn, 1))
    | 2, hi =>
      cases hi
      refine ⟨49, 50, by decide, by decide, ?_⟩
      refine q_aload_n C (by decide +kernel : decode cX11_count 50 = .ok (.aload_n 0, 1)) ?_
      refine q_get C (ci := 11) (j := 5) (C0 := RX11) (T := TX11) (N := 35) rfl iX11 giX11 (by decide) w9_22 (by decide +kernel : decode cX11_count 51 = .ok (.getfield 122, 3)) ?_
      exact q_iret C rfl (by decide +kernel : decode cX11_count 54 = .ok (.ireturn, 1))
    | 3, hi =>
      cases hi
      refine ⟨54, 55, by decide, by decide, ?_⟩
      refine q_aload_n C (by decide +kernel : decode cX11_count 55 = .ok (.aload_n 0, 1)) ?_
      refine q_get C (ci := 11) (j := 11) (C0 := RX11) (T := TX11) (N := 35) rfl iX11 giX11 (by decide) w9_9 (by decide +kernel : decode cX11_count 56 = .ok (.getfield 103, 3)) ?_
      exact q_iret C rfl (by decide +kernel : decode cX11_count 59 = .ok (.ireturn, 1))
    | 4, hi =>
      cases hi
      refine ⟨59, 60, by decide, by decide, ?_⟩
      refine q_aload_n C (by decide +kernel : decode cX11_count 60 = .ok (.aload_n 0, 1)) ?_
      refine q_get C (ci := 11) (j := 22) (C0 := RX11) (T := TX11) (N := 35) rfl iX11 giX11 (by decide) w9_87 (by decide +kernel : decode cX11_count 61 = .ok (.getfield 164, 3)) ?_
      exact q_iret C rfl (by decide +kernel : decode cX11_count 64 = .ok (.ireturn, 1))
    | 5, hi =>
      cases hi
      refine ⟨64, 65, by decide, by decide, ?_⟩
      refine q_aload_n C (by decide +kernel : decode cX11_count 65 = .ok (.aload_n 0, 1)) ?_
      refine q_get C (ci := 11) (j := 31) (C0 := RX11) (T := TX11) (N := 35) rfl iX11 giX11 (by decide) w9_86 (by decide +kernel : decode cX11_count 66 = .ok (.getfield 167, 3)) ?_
      exact q_iret C rfl (by decide +kernel : decode cX11_count 69 = .ok (.ireturn, 1))
    | i + 6, hi => simp at hi
theorem u_X11_count (l : Launch) {sp : q_Sp} (H : ∀ (av : List Value) (σ : q_S) (post : Option Value → q_S → Prop), sp av σ post → k_X11_count_0 post (fun _ _ _ _ _ _ => False) (q_L0 av 2) [] σ 0 0 ∧ av.length ≤ 2 ∧ ∀ v ∈ av, v.category = 1) : q_Ct l yX11_count cX11_count 2 (some .int) rm_X11_count sp := by
  refine q_met (by decide) ?_
  intro D A p e s m args below meth c σ av post C hsp
  obtain ⟨h1, h2, h3⟩ := H av σ post hsp
  exact ⟨_, v_X11_count_0 (K := fun _ _ _ _ _ _ => False) C (fun h hh => by cases hh), h1, h2, h3⟩
theorem t_X11_count (l : Launch) : q_Ct l yX11_count cX11_count 2 (some .int) rm_X11_count s_X11_count := u_X11_count l (by
  intro av σ post h
  unfold s_X11_count at h
  split at h
  · next mr x =>
    refine ⟨?_, by simp, by simp [Value.category]⟩
    obtain ⟨ad, z, g, ⟨gp, r, hm⟩, h1⟩ := h
    have h2 := h1 _ ⟨gp, r, hm⟩
    simp only [c_push, c_null, c_iload, c_aload, c_istore, c_astore, c_iinc, c_iadd, c_isub, c_imul, c_iand, c_ineg, c_dup, c_dup2, c_pop, c_ifnull, c_ifnonnull, c_get, c_put, c_iald, c_zald, c_iast, c_zast, c_aald, c_aast, c_alen, c_new, c_newa, c_newq, c_mna, c_oinit, c_max, c_copy, c_iret, c_zret, c_aret, c_vret, q_do, q_rc, c_ifeq, c_ifne, c_iflt, c_ifge, c_ifgt, c_ifle, c_iceq, c_icne, c_iclt, c_icge, c_icgt, c_icle, c_call0, c_call1, c_call2, c_call3, c_call4, c_call5, c_call6, c_call7, q_L0, List.map_cons, List.map_nil, List.replicate, List.cons_append, List.nil_append, List.append_nil, List.length_cons, List.length_nil, List.length_set, Nat.reduceSub, Nat.reduceAdd, Nat.reduceLT, Nat.reduceLeDiff, Nat.zero_add, Nat.add_zero, Nat.sub_zero, Nat.sub_self, List.getElem?_cons_zero, List.getElem?_cons_succ, List.set_cons_zero, List.set_cons_succ, Option.toList_some, Option.toList_none, List.sum_cons, List.sum_nil, true_and, and_true, true_or, or_true, Nat.le_refl, Nat.zero_le, Value.category, Fin.isValue, Fin.val_zero, Fin.val_one, Fin.val_two, Fin.reduceFinMk, q_10, q_01, not_false_eq_true, not_true_eq_false, forall_const, true_implies, false_implies, implies_true, q_ni, q_fi, q_nb0, q_nb1, q_fb0, q_fb1, q_nor, q_nar, q_for, q_far, q_non, q_nan, q_fon, q_fan, imp_false, false_and, and_false, and_self, false_or, or_false, va_rf, refKind, k_X11_count_0, hm.rd, c_tsw]
    refine ⟨fun i ki hi hx => ?_, fun c => ?_⟩
    · rcases i with _ | _ | _ | _ | _ | _ | i
      all_goals first
        | (cases hi
           have e := ofI hx (by decide)
           subst e
           simp only [c_push, c_null, c_iload, c_aload, c_istore, c_astore, c_iinc, c_iadd, c_isub, c_imul, c_iand, c_ineg, c_dup, c_dup2, c_pop, c_ifnull, c_ifnonnull, c_get, c_put, c_iald, c_zald, c_iast, c_zast, c_aald, c_aast, c_alen, c_new, c_newa, c_newq, c_mna, c_oinit, c_max, c_copy, c_iret, c_zret, c_aret, c_vret, q_do, q_rc, c_ifeq, c_ifne, c_iflt, c_ifge, c_ifgt, c_ifle, c_iceq, c_icne, c_iclt, c_icge, c_icgt, c_icle, c_call0, c_call1, c_call2, c_call3, c_call4, c_call5, c_call6, c_call7, q_L0, List.map_cons, List.map_nil, List.replicate, List.cons_append, List.nil_append, List.append_nil, List.length_cons, List.length_nil, List.length_set, Nat.reduceSub, Nat.reduceAdd, Nat.reduceLT, Nat.reduceLeDiff, Nat.zero_add, Nat.add_zero, Nat.sub_zero, Nat.sub_self, List.getElem?_cons_zero, List.getElem?_cons_succ, List.set_cons_zero, List.set_cons_succ, Option.toList_some, Option.toList_none, List.sum_cons, List.sum_nil, true_and, and_true, true_or, or_true, Nat.le_refl, Nat.zero_le, Value.category, Fin.isValue, Fin.val_zero, Fin.val_one, Fin.val_two, Fin.reduceFinMk, q_10, q_01, not_false_eq_true, not_true_eq_false, forall_const, true_implies, false_implies, implies_true, q_ni, q_fi, q_nb0, q_nb1, q_fb0, q_fb1, q_nor, q_nar, q_for, q_far, q_non, q_nan, q_fon, q_fan, imp_false, false_and, and_false, and_self, false_or, or_false, va_rf, refKind, hm.rd]
           exact h2)
        | (simp at hi)
    · have n0 : ∀ i : Nat, i < 6 → x ≠ nI i := fun i hi e => by
        rw [e, nI_toInt (by omega)] at c
        omega
      rw [F_count, if_neg (show ¬ x = 0 from n0 0 (by decide)), if_neg (show ¬ x = 1 from n0 1 (by decide)), if_neg (show ¬ x = 2 from n0 2 (by decide)), if_neg (show ¬ x = 3 from n0 3 (by decide)), if_neg (show ¬ x = 4 from n0 4 (by decide)), if_neg (show ¬ x = 5 from n0 5 (by decide))] at h2
      exact h2
  · exact h.elim)
end
section
-- isAgreed, license, may
def agF (z : Nat → Int32) (g : Nat → Nat → Int32) (w : Int32) : Nat → Int32
  | 0 => 0
  | p + 1 => agF z g w p + (if g 21 (12 * w.toNatClampNeg + p) = 0 then 0 else holdsF g w (nI p) (z 0) (mvF z))
def consF (z : Nat → Int32) (g : Nat → Nat → Int32) (on : Int32) : Int32 := if actF g on (naF z) = -1 then 16 else g 10 (actF g on (naF z)).toNatClampNeg
abbrev agreedF (z : Nat → Int32) (g : Nat → Nat → Int32) (w : Int32) : Prop := consF z g (z 0) ≤ agF z g w (z 1).toNatClampNeg
def s_X11_isAgreed : q_Sp := fun av σ post => match av with
  | [.ref mr, .int w] => ∃ ad z g gp r, mOKx σ mr ad z g gp r ∧ (0 ≤ w ∧ w < 20) ∧ I1 z ∧ (agreedF z g w → post (some (.int 1)) σ) ∧ (¬ agreedF z g w → post (some (.int 0)) σ)
  | _ => False
def rm_X11_isAgreed : Room := { frames := 1, cells := 0, slots := 0, locals := 25 }
def k_X11_isAgreed_0 (post : Option Value → q_S → Prop) (K : Nat → q_K) : q_K := (c_push 0 (c_istore 2 (c_push 0 (c_istore 3 (K 4)))))
def k_X11_isAgreed_41 (post : Option Value → q_S → Prop) (K : Nat → q_K) : q_K := (c_iadd (c_istore 2 (c_iinc 3 1 (K 4))))
def k_X11_isAgreed_83 (post : Option Value → q_S → Prop) (K : Nat → q_K) : q_K := (c_zret post)
def k_X11_isAgreed_75 (post : Option Value → q_S → Prop) (K : Nat → q_K) : q_K := (c_iclt (c_push 0 (k_X11_isAgreed_83 post K)) (c_push 1 (k_X11_isAgreed_83 post K)))
def k_X11_isAgreed_4 (post : Option Value → q_S → Prop) (K : Nat → q_K) : q_K := (c_iload 3 (c_aload 0 (c_get 11 1 (c_icge (c_aload 0 (c_aload 0 (c_get 11 0 (c_call2 (some 11) s_X11_actAt 0 0 (c_istore 3 (c_iload 2 (c_iload 3 (c_push (-1) (c_icne (c_aload 0 (c_get 11 10 (c_iload 3 (c_iald (k_X11_isAgreed_75 post K))))) (c_push 16 (k_X11_isAgreed_75 post K))))))))))) (c_iload 2 (c_aload 0 (c_get 11 21 (c_push 12 (c_iload 1 (c_imul (c_iload 3 (c_iadd (c_zald (c_ifeq (c_push 0 (k_X11_isAgreed_41 post K)) (c_aload 0 (c_iload 1 (c_iload 3 (c_aload 0 (c_get 11 0 (c_call4 (some 11) s_X11_holds 0 0 (k_X11_isAgreed_41 post K)))))))))))))))))))))
set_option maxRecDepth 100000 in
theorem v_X11_isAgreed_0 {p : Program} {l : Launch} {e : Env} {s : State} {m : MethodId} {args : Array Value} {below : List Frame} {meth : Method} {c : Code} {D : va_G} {A : Nat → Prop} {post : Option Value → q_S → Prop} {K : Nat → q_K} (C : q_C p s m args meth c cX11_isAgreed 4 RX11 "isAgreed" (some .boolean) A) (hK : ∀ h ∈ ([4] : List Nat), q_V p l e rm_X11_isAgreed s m args below meth c D A 4 (MQ below (q_Qc D A post) args s rm_X11_isAgreed.cells rm_X11_isAgreed.slots A) h (K h)) : q_V p l e rm_X11_isAgreed s m args below meth c D A 4 (MQ below (q_Qc D A post) args s rm_X11_isAgreed.cells rm_X11_isAgreed.slots A) 0 (k_X11_isAgreed_0 post K) := by
  unfold k_X11_isAgreed_0
  refine q_iconst C (by decide +kernel : decode cX11_isAgreed 0 = .ok (.iconst 0, 1)) (by decide) ?_
  refine q_istore_n C (by decide +kernel : decode cX11_isAgreed 1 = .ok (.istore_n 2, 1)) ?_
  refine q_iconst C (by decide +kernel : decode cX11_isAgreed 2 = .ok (.iconst 0, 1)) (by decide) ?_
  refine q_istore_n C (by decide +kernel : decode cX11_isAgreed 3 = .ok (.istore_n 3, 1)) ?_
  exact hK 4 (by decide)
set_option maxRecDepth 100000 in
theorem v_X11_isAgreed_41 {p : Program} {l : Launch} {e : Env} {s : State} {m : MethodId} {args : Array Value} {below : List Frame} {meth : Method} {c : Code} {D : va_G} {A : Nat → Prop} {post : Option Value → q_S → Prop} {K : Nat → q_K} (C : q_C p s m args meth c cX11_isAgreed 4 RX11 "isAgreed" (some .boolean) A) (hK : ∀ h ∈ ([4] : List Nat), q_V p l e rm_X11_isAgreed s m args below meth c D A 4 (MQ below (q_Qc D A post) args s rm_X11_isAgreed.cells rm_X11_isAgreed.slots A) h (K h)) : q_V p l e rm_X11_isAgreed s m args below meth c D A 4 (MQ below (q_Qc D A post) args s rm_X11_isAgreed.cells rm_X11_isAgreed.slots A) 41 (k_X11_isAgreed_41 post K) := by
  unfold k_X11_isAgreed_41
  refine q_iadd C (by decide +kernel : decode cX11_isAgreed 41 = .ok (.iadd, 1)) ?_
  refine q_istore_n C (by decide +kernel : decode cX11_isAgreed 42 = .ok (.istore_n 2, 1)) ?_
  refine q_iinc C (by decide +kernel : decode cX11_isAgreed 43 = .ok (.iinc 3 1, 3)) (by decide) ?_
  refine q_goto C (tgt := 4) (by decide +kernel : decode cX11_isAgreed 46 = .ok (.goto (-42), 3)) (by decide) ?_
  exact hK 4 (by decide)
set_option maxRecDepth 100000 in
theorem v_X11_isAgreed_83 {p : Program} {l : Launch} {e : Env} {s : State} {m : MethodId} {args : Array Value} {below : List Frame} {meth : Method} {c : Code} {D : va_G} {A : Nat → Prop} {post : Option Value → q_S → Prop} {K : Nat → q_K} (C : q_C p s m args meth c cX11_isAgreed 4 RX11 "isAgreed" (some .boolean) A) (hK : ∀ h ∈ ([4] : List Nat), q_V p l e rm_X11_isAgreed s m args below meth c D A 4 (MQ below (q_Qc D A post) args s rm_X11_isAgreed.cells rm_X11_isAgreed.slots A) h (K h)) : q_V p l e rm_X11_isAgreed s m args below meth c D A 4 (MQ below (q_Qc D A post) args s rm_X11_isAgreed.cells rm_X11_isAgreed.slots A) 83 (k_X11_isAgreed_83 post K) := by
  unfold k_X11_isAgreed_83
  exact q_zret C rfl (by decide +kernel : decode cX11_isAgreed 83 = .ok (.ireturn, 1))
set_option maxRecDepth 100000 in
theorem v_X11_isAgreed_75 {p : Program} {l : Launch} {e : Env} {s : State} {m : MethodId} {args : Array Value} {below : List Frame} {meth : Method} {c : Code} {D : va_G} {A : Nat → Prop} {post : Option Value → q_S → Prop} {K : Nat → q_K} (C : q_C p s m args meth c cX11_isAgreed 4 RX11 "isAgreed" (some .boolean) A) (hK : ∀ h ∈ ([4] : List Nat), q_V p l e rm_X11_isAgreed s m args below meth c D A 4 (MQ below (q_Qc D A post) args s rm_X11_isAgreed.cells rm_X11_isAgreed.slots A) h (K h)) : q_V p l e rm_X11_isAgreed s m args below meth c D A 4 (MQ below (q_Qc D A post) args s rm_X11_isAgreed.cells rm_X11_isAgreed.slots A) 75 (k_X11_isAgreed_75 post K) := by
  unfold k_X11_isAgreed_75
  refine q_iclt C (tgt := 82) (by decide +kernel : decode cX11_isAgreed 75 = .ok (.if_icmp .lt 7, 3)) (by decide) ?_ ?_
  · refine q_iconst C (by decide +kernel : decode cX11_isAgreed 82 = .ok (.iconst 0, 1)) (by decide) ?_
    exact v_X11_isAgreed_83 C hK
  · refine q_iconst C (by decide +kernel : decode cX11_isAgreed 78 = .ok (.iconst 1, 1)) (by decide) ?_
    refine q_goto C (tgt := 83) (by decide +kernel : decode cX11_isAgreed 79 = .ok (.goto 4, 3)) (by decide) ?_
    exact v_X11_isAgreed_83 C hK
set_option maxRecDepth 100000 in
theorem v_X11_isAgreed_4 {p : Program} {l : Launch} {e : Env} {s : State} {m : MethodId} {args : Array Value} {below : List Frame} {meth : Method} {c : Code} {D : va_G} {A : Nat → Prop} {post : Option Value → q_S → Prop} {K : Nat → q_K} (C : q_C p s m args meth c cX11_isAgreed 4 RX11 "isAgreed" (some .boolean) A) (hK : ∀ h ∈ ([4] : List Nat), q_V p l e rm_X11_isAgreed s m args below meth c D A 4 (MQ below (q_Qc D A post) args s rm_X11_isAgreed.cells rm_X11_isAgreed.slots A) h (K h)) : q_V p l e rm_X11_isAgreed s m args below meth c D A 4 (MQ below (q_Qc D A post) args s rm_X11_isAgreed.cells rm_X11_isAgreed.slots A) 4 (k_X11_isAgreed_4 post K) := by
  unfold k_X11_isAgreed_4
  refine q_iload_n C (by decide +kernel : decode cX11_isAgreed 4 = .ok (.iload_n 3, 1)) ?_
  refine q_aload_n C (by decide +kernel : decode cX11_isAgreed 5 = .ok (.aload_n 0, 1)) ?_
  refine q_get C (ci := 11) (j := 1) (C0 := RX11) (T := TX11) (N := 35) rfl iX11 giX11 (by decide) w9_4 (by decide +kernel : decode cX11_isAgreed 6 = .ok (.getfield 100, 3)) ?_
  refine q_icge C (tgt := 49) (by decide +kernel : decode cX11_isAgreed 9 = .ok (.if_icmp .ge 40, 3)) (by decide) ?_ ?_
  · refine q_aload_n C (by decide +kernel : decode cX11_isAgreed 49 = .ok (.aload_n 0, 1)) ?_
    refine q_aload_n C (by decide +kernel : decode cX11_isAgreed 50 = .ok (.aload_n 0, 1)) ?_
    refine q_get C (ci := 11) (j := 0) (C0 := RX11) (T := TX11) (N := 35) rfl iX11 giX11 (by decide) w9_10 (by decide +kernel : decode cX11_isAgreed 51 = .ok (.getfield 96, 3)) ?_
    refine q_call2 C (q_coV C (np := 1) (ci := 11) (rc := (RX11, TX11, 35)) (t_X11_actAt l) w9_35 rfl rfl w9_36 w9_37 w9_38 w9_6 (by decide +kernel) (by decide +kernel : decode cX11_isAgreed 54 = .ok (.invokevirtual 129, 3)) (by decide)) ?_
    refine q_istore_n C (by decide +kernel : decode cX11_isAgreed 57 = .ok (.istore_n 3, 1)) ?_
    refine q_iload_n C (by decide +kernel : decode cX11_isAgreed 58 = .ok (.iload_n 2, 1)) ?_
    refine q_iload_n C (by decide +kernel : decode cX11_isAgreed 59 = .ok (.iload_n 3, 1)) ?_
    refine q_iconst C (by decide +kernel : decode cX11_isAgreed 60 = .ok (.iconst (-1), 1)) (by decide) ?_
    refine q_icne C (tgt := 69) (by decide +kernel : decode cX11_isAgreed 61 = .ok (.if_icmp .ne 8, 3)) (by decide) ?_ ?_
    · refine q_aload_n C (by decide +kernel : decode cX11_isAgreed 69 = .ok (.aload_n 0, 1)) ?_
      refine q_get C (ci := 11) (j := 10) (C0 := RX11) (T := TX11) (N := 35) rfl iX11 giX11 (by decide) w9_27 (by decide +kernel : decode cX11_isAgreed 70 = .ok (.getfield 31, 3)) ?_
      refine q_iload_n C (by decide +kernel : decode cX11_isAgreed 73 = .ok (.iload_n 3, 1)) ?_
      refine q_iald C (by decide +kernel : decode cX11_isAgreed 74 = .ok (.iaload, 1)) ?_
      exact v_X11_isAgreed_75 C hK
    · refine q_bipush C (by decide +kernel : decode cX11_isAgreed 64 = .ok (.bipush 16, 2)) (by decide) ?_
      refine q_goto C (tgt := 75) (by decide +kernel : decode cX11_isAgreed 66 = .ok (.goto 9, 3)) (by decide) ?_
      exact v_X11_isAgreed_75 C hK
  · refine q_iload_n C (by decide +kernel : decode cX11_isAgreed 12 = .ok (.iload_n 2, 1)) ?_
    refine q_aload_n C (by decide +kernel : decode cX11_isAgreed 13 = .ok (.aload_n 0, 1)) ?_
    refine q_get C (ci := 11) (j := 21) (C0 := RX11) (T := TX11) (N := 35) rfl iX11 giX11 (by decide) w9_83 (by decide +kernel : decode cX11_isAgreed 14 = .ok (.getfield 58, 3)) ?_
    refine q_bipush C (by decide +kernel : decode cX11_isAgreed 17 = .ok (.bipush 12, 2)) (by decide) ?_
    refine q_iload_n C (by decide +kernel : decode cX11_isAgreed 19 = .ok (.iload_n 1, 1)) ?_
    refine q_imul C (by decide +kernel : decode cX11_isAgreed 20 = .ok (.imul, 1)) ?_
    refine q_iload_n C (by decide +kernel : decode cX11_isAgreed 21 = .ok (.iload_n 3, 1)) ?_
    refine q_iadd C (by decide +kernel : decode cX11_isAgreed 22 = .ok (.iadd, 1)) ?_
    refine q_zald C (by decide +kernel : decode cX11_isAgreed 23 = .ok (.baload, 1)) ?_
    refine q_ifeq C (tgt := 40) (by decide +kernel : decode cX11_isAgreed 24 = .ok (.ifCond .eq 16, 3)) (by decide) ?_ ?_
    · refine q_iconst C (by decide +kernel : decode cX11_isAgreed 40 = .ok (.iconst 0, 1)) (by decide) ?_
      exact v_X11_isAgreed_41 C hK
    · refine q_aload_n C (by decide +kernel : decode cX11_isAgreed 27 = .ok (.aload_n 0, 1)) ?_
      refine q_iload_n C (by decide +kernel : decode cX11_isAgreed 28 = .ok (.iload_n 1, 1)) ?_
      refine q_iload_n C (by decide +kernel : decode cX11_isAgreed 29 = .ok (.iload_n 3, 1)) ?_
      refine q_aload_n C (by decide +kernel : decode cX11_isAgreed 30 = .ok (.aload_n 0, 1)) ?_
      refine q_get C (ci := 11) (j := 0) (C0 := RX11) (T := TX11) (N := 35) rfl iX11 giX11 (by decide) w9_10 (by decide +kernel : decode cX11_isAgreed 31 = .ok (.getfield 96, 3)) ?_
      refine q_call4 C (q_coV C (np := 3) (ci := 11) (rc := (RX11, TX11, 35)) (t_X11_holds l) w9_63 rfl rfl w9_64 w9_65 w9_66 w9_6 (by decide +kernel) (by decide +kernel : decode cX11_isAgreed 34 = .ok (.invokevirtual 110, 3)) (by decide)) ?_
      refine q_goto C (tgt := 41) (by decide +kernel : decode cX11_isAgreed 37 = .ok (.goto 4, 3)) (by decide) ?_
      exact v_X11_isAgreed_41 C hK
theorem u_X11_isAgreed (l : Launch) {sp : q_Sp} (H : ∀ (av : List Value) (σ : q_S) (post : Option Value → q_S → Prop), sp av σ post → ∃ Inv : Nat → Nat → q_K, (∀ K : Nat → q_K, (∀ (h n : Nat) (L : List (Option Value)) (st : List Value) (σ : q_S) (cr sr : Nat), Inv h n L st σ cr sr → K h L st σ cr sr) → k_X11_isAgreed_0 post K (q_L0 av 4) [] σ 0 0) ∧ (∀ (K : Nat → q_K) (n : Nat), (∀ (h m : Nat) (L : List (Option Value)) (st : List Value) (σ : q_S) (cr sr : Nat), m < n → Inv h m L st σ cr sr → K h L st σ cr sr) → ∀ (L : List (Option Value)) (st : List Value) (σ : q_S) (cr sr : Nat), Inv 4 n L st σ cr sr → k_X11_isAgreed_4 post K L st σ cr sr) ∧ av.length ≤ 4 ∧ ∀ v ∈ av, v.category = 1) : q_Ct l yX11_isAgreed cX11_isAgreed 4 (some .boolean) rm_X11_isAgreed sp := by
  refine q_met (by decide) ?_
  intro D A p e s m args below meth c σ av post C hsp
  obtain ⟨Inv, h1, hh4, h2, h3⟩ := H av σ post hsp
  have hV := q_loops (p := p) (l := l) (e := e) (R := rm_X11_isAgreed) (s := s) (m := m) (args := args) (below := below) (meth := meth) (c := c) (D := D) (A := A) (nL := 4) (Q := MQ below (q_Qc D A post) args s rm_X11_isAgreed.cells rm_X11_isAgreed.slots A) [4] (fun h =>  k_X11_isAgreed_4 post) (fun K hK h hh => ?_) Inv (fun n h hh => ?_)
  · exact ⟨_, v_X11_isAgreed_0 C hV, h1 _ (fun h n L st σ cr sr hi => ⟨n, hi⟩), h2, h3⟩
  · have e9 : h = 4 := by simpa using hh
    subst e9
    exact v_X11_isAgreed_4 C hK
  · have e9 : h = 4 := by simpa using hh
    subst e9
    exact hh4 (fun h L st σ cr sr => ∃ m : Nat, m < n ∧ Inv h m L st σ cr sr) n (fun h m L st σ cr sr hm hi => ⟨m, hm, hi⟩)
theorem t_X11_isAgreed (l : Launch) : q_Ct l yX11_isAgreed cX11_isAgreed 4 (some .boolean) rm_X11_isAgreed s_X11_isAgreed := u_X11_isAgreed l (by
  intro av σ post h
  unfold s_X11_isAgreed at h
  split at h
  · next mr w =>
    obtain ⟨ad, z, g, gp, r, hm, hw, hI, h1, h2⟩ := h
    unfold I1 at hI
    have ez := nI_self hI.2.1.1
    unfold agreedF at h1 h2
    generalize hna : (z 1).toNatClampNeg = na at h1 h2 ez
    have hna6 : na ≤ 12 := hna ▸ clamp_le 12 hI.2.1.1 hI.2.1.2
    obtain ⟨wn, hwn, e0, e1⟩ := inR 20 hw.1 hw.2
    refine ⟨fun _ n L st σ' cr sr => ∃ i : Nat, ∃ d0 : Option Value, i ≤ na ∧ n = na - i ∧ σ' = σ ∧ st = [] ∧ L = [some (.ref mr), some (.int w), some (.int (agF z g w i)), some (.int (nI i))], ?_, ?_, by simp, by simp [Value.category]⟩
    · intro K hK
      simp only [c_push, c_null, c_iload, c_aload, c_istore, c_astore, c_iinc, c_iadd, c_isub, c_imul, c_iand, c_ineg, c_dup, c_dup2, c_pop, c_ifnull, c_ifnonnull, c_get, c_put, c_iald, c_zald, c_iast, c_zast, c_aald, c_aast, c_alen, c_new, c_newa, c_newq, c_mna, c_oinit, c_max, c_copy, c_iret, c_zret, c_aret, c_vret, q_do, q_rc, c_ifeq, c_ifne, c_iflt, c_ifge, c_ifgt, c_ifle, c_iceq, c_icne, c_iclt, c_icge, c_icgt, c_icle, c_call0, c_call1, c_call2, c_call3, c_call4, c_call5, c_call6, c_call7, q_L0, List.map_cons, List.map_nil, List.replicate, List.cons_append, List.nil_append, List.append_nil, List.length_cons, List.length_nil, List.length_set, Nat.reduceSub, Nat.reduceAdd, Nat.reduceLT, Nat.reduceLeDiff, Nat.zero_add, Nat.add_zero, Nat.sub_zero, Nat.sub_self, List.getElem?_cons_zero, List.getElem?_cons_succ, List.set_cons_zero, List.set_cons_succ, Option.toList_some, Option.toList_none, List.sum_cons, List.sum_nil, true_and, and_true, true_or, or_true, Nat.le_refl, Nat.zero_le, Value.category, Fin.isValue, Fin.val_zero, Fin.val_one, Fin.val_two, Fin.reduceFinMk, q_10, q_01, not_false_eq_true, not_true_eq_false, forall_const, true_implies, false_implies, implies_true, q_ni, q_fi, q_nb0, q_nb1, q_fb0, q_fb1, q_nor, q_nar, q_for, q_far, q_non, q_nan, q_fon, q_fan, imp_false, false_and, and_false, and_self, false_or, or_false, va_rf, refKind, k_X11_isAgreed_0, k_X11_isAgreed_41, k_X11_isAgreed_75, k_X11_isAgreed_83, k_X11_isAgreed_4]
      exact hK _ na _ _ _ _ _ ⟨0, none, Nat.zero_le _, rfl, rfl, rfl, rfl⟩
    · rintro K n hK L st σ' cr sr ⟨i, d0, hi, rfl, rfl, rfl, rfl⟩
      have hix : i < 12 → (12 * w + nI i).toNatClampNeg = 12 * w.toNatClampNeg + i ∧ 0 ≤ 12 * w + nI i ∧ 12 * w + nI i < 240 := fun h => by
        rw [e1, e0, idx21]
        exact ⟨clN (by omega), nI_low (by omega), nI_ltN (N := 240) (by omega)⟩
      simp only [c_push, c_null, c_iload, c_aload, c_istore, c_astore, c_iinc, c_iadd, c_isub, c_imul, c_iand, c_ineg, c_dup, c_dup2, c_pop, c_ifnull, c_ifnonnull, c_get, c_put, c_iald, c_zald, c_iast, c_zast, c_aald, c_aast, c_alen, c_new, c_newa, c_newq, c_mna, c_oinit, c_max, c_copy, c_iret, c_zret, c_aret, c_vret, q_do, q_rc, c_ifeq, c_ifne, c_iflt, c_ifge, c_ifgt, c_ifle, c_iceq, c_icne, c_iclt, c_icge, c_icgt, c_icle, c_call0, c_call1, c_call2, c_call3, c_call4, c_call5, c_call6, c_call7, q_L0, List.map_cons, List.map_nil, List.replicate, List.cons_append, List.nil_append, List.append_nil, List.length_cons, List.length_nil, List.length_set, Nat.reduceSub, Nat.reduceAdd, Nat.reduceLT, Nat.reduceLeDiff, Nat.zero_add, Nat.add_zero, Nat.sub_zero, Nat.sub_self, List.getElem?_cons_zero, List.getElem?_cons_succ, List.set_cons_zero, List.set_cons_succ, Option.toList_some, Option.toList_none, List.sum_cons, List.sum_nil, true_and, and_true, true_or, or_true, Nat.le_refl, Nat.zero_le, Value.category, Fin.isValue, Fin.val_zero, Fin.val_one, Fin.val_two, Fin.reduceFinMk, q_10, q_01, not_false_eq_true, not_true_eq_false, forall_const, true_implies, false_implies, implies_true, q_ni, q_fi, q_nb0, q_nb1, q_fb0, q_fb1, q_nor, q_nar, q_for, q_far, q_non, q_nan, q_fon, q_fan, imp_false, false_and, and_false, and_self, false_or, or_false, va_rf, refKind, k_X11_isAgreed_0, k_X11_isAgreed_41, k_X11_isAgreed_75, k_X11_isAgreed_83, k_X11_isAgreed_4, hm.rd, vpi240]
      rw [← ez]
      have E := cl2 (nI na) (nI i) na i rfl rfl (by omega) (by omega)
      rw [E.1]
      refine ⟨fun c => ?_, fun c => ?_⟩
      · have e : i = na := by omega
        subst e
        refine ⟨ad, z, g, gp, r, hm, hI.2.2.1, ?_⟩
        simp only [c_push, c_null, c_iload, c_aload, c_istore, c_astore, c_iinc, c_iadd, c_isub, c_imul, c_iand, c_ineg, c_dup, c_dup2, c_pop, c_ifnull, c_ifnonnull, c_get, c_put, c_iald, c_zald, c_iast, c_zast, c_aald, c_aast, c_alen, c_new, c_newa, c_newq, c_mna, c_oinit, c_max, c_copy, c_iret, c_zret, c_aret, c_vret, q_do, q_rc, c_ifeq, c_ifne, c_iflt, c_ifge, c_ifgt, c_ifle, c_iceq, c_icne, c_iclt, c_icge, c_icgt, c_icle, c_call0, c_call1, c_call2, c_call3, c_call4, c_call5, c_call6, c_call7, q_L0, List.map_cons, List.map_nil, List.replicate, List.cons_append, List.nil_append, List.append_nil, List.length_cons, List.length_nil, List.length_set, Nat.reduceSub, Nat.reduceAdd, Nat.reduceLT, Nat.reduceLeDiff, Nat.zero_add, Nat.add_zero, Nat.sub_zero, Nat.sub_self, List.getElem?_cons_zero, List.getElem?_cons_succ, List.set_cons_zero, List.set_cons_succ, Option.toList_some, Option.toList_none, List.sum_cons, List.sum_nil, true_and, and_true, true_or, or_true, Nat.le_refl, Nat.zero_le, Value.category, Fin.isValue, Fin.val_zero, Fin.val_one, Fin.val_two, Fin.reduceFinMk, q_10, q_01, not_false_eq_true, not_true_eq_false, forall_const, true_implies, false_implies, implies_true, q_ni, q_fi, q_nb0, q_nb1, q_fb0, q_fb1, q_nor, q_nar, q_for, q_far, q_non, q_nan, q_fon, q_fan, imp_false, false_and, and_false, and_self, false_or, or_false, va_rf, refKind, hm.rd, vpi6]
        have hc := actF_cases g (z 0) (naF z)
        unfold consF at h1 h2
        unfold naF at h1 h2 hc
        have hna2 : (z 5).toNatClampNeg ≤ 6 := clamp_le 6 hI.2.2.1.1 hI.2.2.1.2
        refine ⟨fun c2 => ?_, fun c2 => ?_⟩
        · rw [if_neg c2] at h1 h2
          have hr : 0 ≤ actF g (z 0) (z 5).toNatClampNeg ∧ actF g (z 0) (z 5).toNatClampNeg < 6 := by
            rcases hc with h | ⟨j, h, e⟩
            · exact absurd h c2
            · rw [e]; exact ⟨nI_low (by omega), nI_ltN (N := 6) (by omega)⟩
          clear hK hm
          grind
        · rw [if_pos c2] at h1 h2
          clear hK hm
          grind
      · have hx := hix (by omega)
        simp only [c_push, c_null, c_iload, c_aload, c_istore, c_astore, c_iinc, c_iadd, c_isub, c_imul, c_iand, c_ineg, c_dup, c_dup2, c_pop, c_ifnull, c_ifnonnull, c_get, c_put, c_iald, c_zald, c_iast, c_zast, c_aald, c_aast, c_alen, c_new, c_newa, c_newq, c_mna, c_oinit, c_max, c_copy, c_iret, c_zret, c_aret, c_vret, q_do, q_rc, c_ifeq, c_ifne, c_iflt, c_ifge, c_ifgt, c_ifle, c_iceq, c_icne, c_iclt, c_icge, c_icgt, c_icle, c_call0, c_call1, c_call2, c_call3, c_call4, c_call5, c_call6, c_call7, q_L0, List.map_cons, List.map_nil, List.replicate, List.cons_append, List.nil_append, List.append_nil, List.length_cons, List.length_nil, List.length_set, Nat.reduceSub, Nat.reduceAdd, Nat.reduceLT, Nat.reduceLeDiff, Nat.zero_add, Nat.add_zero, Nat.sub_zero, Nat.sub_self, List.getElem?_cons_zero, List.getElem?_cons_succ, List.set_cons_zero, List.set_cons_succ, Option.toList_some, Option.toList_none, List.sum_cons, List.sum_nil, true_and, and_true, true_or, or_true, Nat.le_refl, Nat.zero_le, Value.category, Fin.isValue, Fin.val_zero, Fin.val_one, Fin.val_two, Fin.reduceFinMk, q_10, q_01, not_false_eq_true, not_true_eq_false, forall_const, true_implies, false_implies, implies_true, q_ni, q_fi, q_nb0, q_nb1, q_fb0, q_fb1, q_nor, q_nar, q_for, q_far, q_non, q_nan, q_fon, q_fan, imp_false, false_and, and_false, and_self, false_or, or_false, va_rf, refKind, hx]
        refine ⟨fun c2 => ?_, fun c2 => ?_⟩
        all_goals try (refine ⟨ad, z, g, gp, r, hm, hw, hI.2.2.2.2.1, ?_⟩)
        all_goals try simp only [c_push, c_null, c_iload, c_aload, c_istore, c_astore, c_iinc, c_iadd, c_isub, c_imul, c_iand, c_ineg, c_dup, c_dup2, c_pop, c_ifnull, c_ifnonnull, c_get, c_put, c_iald, c_zald, c_iast, c_zast, c_aald, c_aast, c_alen, c_new, c_newa, c_newq, c_mna, c_oinit, c_max, c_copy, c_iret, c_zret, c_aret, c_vret, q_do, q_rc, c_ifeq, c_ifne, c_iflt, c_ifge, c_ifgt, c_ifle, c_iceq, c_icne, c_iclt, c_icge, c_icgt, c_icle, c_call0, c_call1, c_call2, c_call3, c_call4, c_call5, c_call6, c_call7, q_L0, List.map_cons, List.map_nil, List.replicate, List.cons_append, List.nil_append, List.append_nil, List.length_cons, List.length_nil, List.length_set, Nat.reduceSub, Nat.reduceAdd, Nat.reduceLT, Nat.reduceLeDiff, Nat.zero_add, Nat.add_zero, Nat.sub_zero, Nat.sub_self, List.getElem?_cons_zero, List.getElem?_cons_succ, List.set_cons_zero, List.set_cons_succ, Option.toList_some, Option.toList_none, List.sum_cons, List.sum_nil, true_and, and_true, true_or, or_true, Nat.le_refl, Nat.zero_le, Value.category, Fin.isValue, Fin.val_zero, Fin.val_one, Fin.val_two, Fin.reduceFinMk, q_10, q_01, not_false_eq_true, not_true_eq_false, forall_const, true_implies, false_implies, implies_true, q_ni, q_fi, q_nb0, q_nb1, q_fb0, q_fb1, q_nor, q_nar, q_for, q_far, q_non, q_nan, q_fon, q_fan, imp_false, false_and, and_false, and_self, false_or, or_false, va_rf, refKind]
        all_goals refine hK _ (na - (i + 1)) _ _ _ _ _ (by omega) ⟨i + 1, none, by omega, rfl, rfl, rfl, ?_⟩
        all_goals rw [nI_1, agF]
        · first | rw [if_neg c2] | rw [if_pos c2]
        · first | rw [if_neg c2] | rw [if_pos c2]
          rfl
  · exact h.elim)
def licF (z : Nat → Int32) (g : Nat → Nat → Int32) (w u p a b : Int32) : Nat → Nat → Int32 := gup (gup (gup (gup (gup (gup g 23 (z 22).toNatClampNeg w) 24 (z 22).toNatClampNeg u) 25 (z 22).toNatClampNeg p) 26 (z 22).toNatClampNeg a) 27 (z 22).toNatClampNeg b) 28 (z 22).toNatClampNeg (z 0)
def F_license (z : Nat → Int32) (g : Nat → Nat → Int32) (w u p a b : Int32) : Int32 × (Nat → Int32) × (Nat → Nat → Int32) :=
  if isW z w ∧ (0 ≤ u ∧ u ≤ 3) ∧ isP z p ∧ (0 ≤ a ∧ a ≤ 3000) ∧ a ≤ b ∧ b ≤ 3000 then
    if HR z g w.toNatClampNeg (z 0) (z 0) ∧ agreedF z g w then if z 22 = 40 then (-4, z, g) else (z 22, upd z 22 (z 22 + 1), licF z g w u p a b) else (-3, z, g)
  else (-2, z, g)
def s_X11_license : q_Sp := fun av σ post => match av with
  | [.ref mr, .int w, .int u, .int p, .int a, .int b] => ∃ ad z g, mOK σ mr ad z g ∧ I1 z ∧ AU z g ∧ ∀ σ', mOK σ' mr ad (F_license z g w u p a b).2.1 (F_license z g w u p a b).2.2 → post (some (.int (F_license z g w u p a b).1)) σ'
  | _ => False
theorem w9_88 : (.code yX11_isAgreed cX11_isAgreed 4 (some .boolean) : Cond) ∈ lw_tbl := by decide +kernel
theorem w9_89 : (.methodLink RX11 161 yX11_isAgreed : Cond) ∈ lw_tbl := by decide +kernel
theorem w9_90 : (.instanceMethod yX11_isAgreed : Cond) ∈ lw_tbl := by decide +kernel
theorem w9_91 : (.selects RX11 yX11_isAgreed yX11_isAgreed : Cond) ∈ lw_tbl := by decide +kernel
theorem w9_92 : (.fieldLink RX11 62 (TX11 23).1 (TX11 23).2.1 (TX11 23).2.2.1 : Cond) ∈ lw_tbl := by decide +kernel
theorem w9_93 : (.fieldLink RX11 65 (TX11 24).1 (TX11 24).2.1 (TX11 24).2.2.1 : Cond) ∈ lw_tbl := by decide +kernel
theorem w9_94 : (.fieldLink RX11 68 (TX11 25).1 (TX11 25).2.1 (TX11 25).2.2.1 : Cond) ∈ lw_tbl := by decide +kernel
theorem w9_95 : (.fieldLink RX11 71 (TX11 26).1 (TX11 26).2.1 (TX11 26).2.2.1 : Cond) ∈ lw_tbl := by decide +kernel
theorem w9_96 : (.fieldLink RX11 74 (TX11 27).1 (TX11 27).2.1 (TX11 27).2.2.1 : Cond) ∈ lw_tbl := by decide +kernel
theorem w9_97 : (.fieldLink RX11 77 (TX11 28).1 (TX11 28).2.1 (TX11 28).2.2.1 : Cond) ∈ lw_tbl := by decide +kernel
def rm_X11_license : Room := { frames := 4, cells := 0, slots := 0, locals := 97 }
def k_X11_license_50 (post : Option Value → q_S → Prop) (K : Nat → q_K) : q_K := (c_push (-2) (c_iret post))
def k_X11_license_77 (post : Option Value → q_S → Prop) (K : Nat → q_K) : q_K := (c_push (-3) (c_iret post))
def k_X11_license_80 (post : Option Value → q_S → Prop) (K : Nat → q_K) : q_K := (c_aload 0 (c_get 11 22 (c_push 40 (c_icne (c_aload 0 (c_get 11 23 (c_aload 0 (c_get 11 22 (c_iload 1 (c_iast (c_aload 0 (c_get 11 24 (c_aload 0 (c_get 11 22 (c_iload 2 (c_iast (c_aload 0 (c_get 11 25 (c_aload 0 (c_get 11 22 (c_iload 3 (c_iast (c_aload 0 (c_get 11 26 (c_aload 0 (c_get 11 22 (c_iload 4 (c_iast (c_aload 0 (c_get 11 27 (c_aload 0 (c_get 11 22 (c_iload 5 (c_iast (c_aload 0 (c_get 11 28 (c_aload 0 (c_get 11 22 (c_aload 0 (c_get 11 0 (c_iast (c_aload 0 (c_dup (c_get 11 22 (c_push 1 (c_iadd (c_put 11 22 (.int) (c_aload 0 (c_get 11 22 (c_push 1 (c_isub (c_iret post)))))))))))))))))))))))))))))))))))))))))))))))) (c_push (-4) (c_iret post))))))
def k_X11_license_0 (post : Option Value → q_S → Prop) (K : Nat → q_K) : q_K := (c_aload 0 (c_iload 1 (c_call2 (some 11) s_X11_isWork 0 0 (c_ifeq (k_X11_license_50 post K) (c_iload 2 (c_push 0 (c_push 3 (c_call3 none s_X11_in 0 0 (c_ifeq (k_X11_license_50 post K) (c_aload 0 (c_iload 3 (c_call2 (some 11) s_X11_isPerson 0 0 (c_ifeq (k_X11_license_50 post K) (c_iload 4 (c_push 0 (c_push 3000 (c_call3 none s_X11_in 0 0 (c_ifeq (k_X11_license_50 post K) (c_iload 5 (c_iload 4 (c_push 3000 (c_call3 none s_X11_in 0 0 (c_ifne (c_aload 0 (c_iload 1 (c_aload 0 (c_get 11 0 (c_aload 0 (c_get 11 0 (c_call4 (some 11) s_X11_hasRight 0 0 (c_ifeq (k_X11_license_77 post K) (c_aload 0 (c_iload 1 (c_call2 (some 11) s_X11_isAgreed 0 0 (c_ifne (k_X11_license_80 post K) (k_X11_license_77 post K))))))))))))) (k_X11_license_50 post K))))))))))))))))))))))))
set_option maxRecDepth 100000 in
theorem v_X11_license_50 {p : Program} {l : Launch} {e : Env} {s : State} {m : MethodId} {args : Array Value} {below : List Frame} {meth : Method} {c : Code} {D : va_G} {A : Nat → Prop} {post : Option Value → q_S → Prop} {K : Nat → q_K} (C : q_C p s m args meth c cX11_license 6 RX11 "license" (some .int) A) (hK : ∀ h ∈ ([] : List Nat), q_V p l e rm_X11_license s m args below meth c D A 6 (MQ below (q_Qc D A post) args s rm_X11_license.cells rm_X11_license.slots A) h (K h)) : q_V p l e rm_X11_license s m args below meth c D A 6 (MQ below (q_Qc D A post) args s rm_X11_license.cells rm_X11_license.slots A) 50 (k_X11_license_50 post K) := by
  unfold k_X11_license_50
  refine q_bipush C (by decide +kernel : decode cX11_license 50 = .ok (.bipush (-2), 2)) (by decide) ?_
  exact q_iret C rfl (by decide +kernel : decode cX11_license 52 = .ok (.ireturn, 1))
set_option maxRecDepth 100000 in
theorem v_X11_license_77 {p : Program} {l : Launch} {e : Env} {s : State} {m : MethodId} {args : Array Value} {below : List Frame} {meth : Method} {c : Code} {D : va_G} {A : Nat → Prop} {post : Option Value → q_S → Prop} {K : Nat → q_K} (C : q_C p s m args meth c cX11_license 6 RX11 "license" (some .int) A) (hK : ∀ h ∈ ([] : List Nat), q_V p l e rm_X11_license s m args below meth c D A 6 (MQ below (q_Qc D A post) args s rm_X11_license.cells rm_X11_license.slots A) h (K h)) : q_V p l e rm_X11_license s m args below meth c D A 6 (MQ below (q_Qc D A post) args s rm_X11_license.cells rm_X11_license.slots A) 77 (k_X11_license_77 post K) := by
  unfold k_X11_license_77
  refine q_bipush C (by decide +kernel : decode cX11_license 77 = .ok (.bipush (-3), 2)) (by decide) ?_
  exact q_iret C rfl (by decide +kernel : decode cX11_license 79 = .ok (.ireturn, 1))
set_option maxRecDepth 100000 in
theorem v_X11_license_80 {p : Program} {l : Launch} {e : Env} {s : State} {m : MethodId} {args : Array Value} {below : List Frame} {meth : Method} {c : Code} {D : va_G} {A : Nat → Prop} {post : Option Value → q_S → Prop} {K : Nat → q_K} (C : q_C p s m args meth c cX11_license 6 RX11 "license" (some .int) A) (hK : ∀ h ∈ ([] : List Nat), q_V p l e rm_X11_license s m args below meth c D A 6 (MQ below (q_Qc D A post) args s rm_X11_license.cells rm_X11_license.slots A) h (K h)) : q_V p l e rm_X11_license s m args below meth c D A 6 (MQ below (q_Qc D A post) args s rm_X11_license.cells rm_X11_license.slots A) 80 (k_X11_license_80 post K) := by
  unfold k_X11_license_80
  refine q_aload_n C (by decide +kernel : decode cX11_license 80 = .ok (.aload_n 0, 1)) ?_
  refine q_get C (ci := 11) (j := 22) (C0 := RX11) (T := TX11) (N := 35) rfl iX11 giX11 (by decide) w9_87 (by decide +kernel : decode cX11_license 81 = .ok (.getfield 164, 3)) ?_
  refine q_bipush C (by decide +kernel : decode cX11_license 84 = .ok (.bipush 40, 2)) (by decide) ?_
  refine q_icne C (tgt := 92) (by decide +kernel : decode cX11_license 86 = .ok (.if_icmp .ne 6, 3)) (by decide) ?_ ?_
  · refine q_aload_n C (by decide +kernel : decode cX11_license 92 = .ok (.aload_n 0, 1)) ?_
    refine q_get C (ci := 11) (j := 23) (C0 := RX11) (T := TX11) (N := 35) rfl iX11 giX11 (by decide) w9_92 (by decide +kernel : decode cX11_license 93 = .ok (.getfield 62, 3)) ?_
    refine q_aload_n C (by decide +kernel : decode cX11_license 96 = .ok (.aload_n 0, 1)) ?_
    refine q_get C (ci := 11) (j := 22) (C0 := RX11) (T := TX11) (N := 35) rfl iX11 giX11 (by decide) w9_87 (by decide +kernel : decode cX11_license 97 = .ok (.getfield 164, 3)) ?_
    refine q_iload_n C (by decide +kernel : decode cX11_license 100 = .ok (.iload_n 1, 1)) ?_
    refine q_iast C (by decide +kernel : decode cX11_license 101 = .ok (.iastore, 1)) ?_
    refine q_aload_n C (by decide +kernel : decode cX11_license 102 = .ok (.aload_n 0, 1)) ?_
    refine q_get C (ci := 11) (j := 24) (C0 := RX11) (T := TX11) (N := 35) rfl iX11 giX11 (by decide) w9_93 (by decide +kernel : decode cX11_license 103 = .ok (.getfield 65, 3)) ?_
    refine q_aload_n C (by decide +kernel : decode cX11_license 106 = .ok (.aload_n 0, 1)) ?_
    refine q_get C (ci := 11) (j := 22) (C0 := RX11) (T := TX11) (N := 35) rfl iX11 giX11 (by decide) w9_87 (by decide +kernel : decode cX11_license 107 = .ok (.getfield 164, 3)) ?_
    refine q_iload_n C (by decide +kernel : decode cX11_license 110 = .ok (.iload_n 2, 1)) ?_
    refine q_iast C (by decide +kernel : decode cX11_license 111 = .ok (.iastore, 1)) ?_
    refine q_aload_n C (by decide +kernel : decode cX11_license 112 = .ok (.aload_n 0, 1)) ?_
    refine q_get C (ci := 11) (j := 25) (C0 := RX11) (T := TX11) (N := 35) rfl iX11 giX11 (by decide) w9_94 (by decide +kernel : decode cX11_license 113 = .ok (.getfield 68, 3)) ?_
    refine q_aload_n C (by decide +kernel : decode cX11_license 116 = .ok (.aload_n 0, 1)) ?_
    refine q_get C (ci := 11) (j := 22) (C0 := RX11) (T := TX11) (N := 35) rfl iX11 giX11 (by decide) w9_87 (by decide +kernel : decode cX11_license 117 = .ok (.getfield 164, 3)) ?_
    refine q_iload_n C (by decide +kernel : decode cX11_license 120 = .ok (.iload_n 3, 1)) ?_
    refine q_iast C (by decide +kernel : decode cX11_license 121 = .ok (.iastore, 1)) ?_
    refine q_aload_n C (by decide +kernel : decode cX11_license 122 = .ok (.aload_n 0, 1)) ?_
    refine q_get C (ci := 11) (j := 26) (C0 := RX11) (T := TX11) (N := 35) rfl iX11 giX11 (by decide) w9_95 (by decide +kernel : decode cX11_license 123 = .ok (.getfield 71, 3)) ?_
    refine q_aload_n C (by decide +kernel : decode cX11_license 126 = .ok (.aload_n 0, 1)) ?_
    refine q_get C (ci := 11) (j := 22) (C0 := RX11) (T := TX11) (N := 35) rfl iX11 giX11 (by decide) w9_87 (by decide +kernel : decode cX11_license 127 = .ok (.getfield 164, 3)) ?_
    refine q_iload C (by decide +kernel : decode cX11_license 130 = .ok (.iload 4, 2)) ?_
    refine q_iast C (by decide +kernel : decode cX11_license 132 = .ok (.iastore, 1)) ?_
    refine q_aload_n C (by decide +kernel : decode cX11_license 133 = .ok (.aload_n 0, 1)) ?_
    refine q_get C (ci := 11) (j := 27) (C0 := RX11) (T := TX11) (N := 35) rfl iX11 giX11 (by decide) w9_96 (by decide +kernel : decode cX11_license 134 = .ok (.getfield 74, 3)) ?_
    refine q_aload_n C (by decide +kernel : decode cX11_license 137 = .ok (.aload_n 0, 1)) ?_
    refine q_get C (ci := 11) (j := 22) (C0 := RX11) (T := TX11) (N := 35) rfl iX11 giX11 (by decide) w9_87 (by decide +kernel : decode cX11_license 138 = .ok (.getfield 164, 3)) ?_
    refine q_iload C (by decide +kernel : decode cX11_license 141 = .ok (.iload 5, 2)) ?_
    refine q_iast C (by decide +kernel : decode cX11_license 143 = .ok (.iastore, 1)) ?_
    refine q_aload_n C (by decide +kernel : decode cX11_license 144 = .ok (.aload_n 0, 1)) ?_
    refine q_get C (ci := 11) (j := 28) (C0 := RX11) (T := TX11) (N := 35) rfl iX11 giX11 (by decide) w9_97 (by decide +kernel : decode cX11_license 145 = .ok (.getfield 77, 3)) ?_
    refine q_aload_n C (by decide +kernel : decode cX11_license 148 = .ok (.aload_n 0, 1)) ?_
    refine q_get C (ci := 11) (j := 22) (C0 := RX11) (T := TX11) (N := 35) rfl iX11 giX11 (by decide) w9_87 (by decide +kernel : decode cX11_license 149 = .ok (.getfield 164, 3)) ?_
    refine q_aload_n C (by decide +kernel : decode cX11_license 152 = .ok (.aload_n 0, 1)) ?_
    refine q_get C (ci := 11) (j := 0) (C0 := RX11) (T := TX11) (N := 35) rfl iX11 giX11 (by decide) w9_10 (by decide +kernel : decode cX11_license 153 = .ok (.getfield 96, 3)) ?_
    refine q_iast C (by decide +kernel : decode cX11_license 156 = .ok (.iastore, 1)) ?_
    refine q_aload_n C (by decide +kernel : decode cX11_license 157 = .ok (.aload_n 0, 1)) ?_
    refine q_dup C (by decide +kernel : decode cX11_license 158 = .ok (.dup, 1)) ?_
    refine q_get C (ci := 11) (j := 22) (C0 := RX11) (T := TX11) (N := 35) rfl iX11 giX11 (by decide) w9_87 (by decide +kernel : decode cX11_license 159 = .ok (.getfield 164, 3)) ?_
    refine q_iconst C (by decide +kernel : decode cX11_license 162 = .ok (.iconst 1, 1)) (by decide) ?_
    refine q_iadd C (by decide +kernel : decode cX11_license 163 = .ok (.iadd, 1)) ?_
    refine q_put C (ci := 11) (j := 22) (C0 := RX11) (T := TX11) (N := 35) (ty := .int) rfl iX11 giX11 (by decide) tyX11 tyX11_ok nmX11 (by decide +kernel) rfl w9_87 (by decide +kernel : decode cX11_license 164 = .ok (.putfield 164, 3)) ?_
    refine q_aload_n C (by decide +kernel : decode cX11_license 167 = .ok (.aload_n 0, 1)) ?_
    refine q_get C (ci := 11) (j := 22) (C0 := RX11) (T := TX11) (N := 35) rfl iX11 giX11 (by decide) w9_87 (by decide +kernel : decode cX11_license 168 = .ok (.getfield 164, 3)) ?_
    refine q_iconst C (by decide +kernel : decode cX11_license 171 = .ok (.iconst 1, 1)) (by decide) ?_
    refine q_isub C (by decide +kernel : decode cX11_license 172 = .ok (.isub, 1)) ?_
    exact q_iret C rfl (by decide +kernel : decode cX11_license 173 = .ok (.ireturn, 1))
  · refine q_bipush C (by decide +kernel : decode cX11_license 89 = .ok (.bipush (-4), 2)) (by decide) ?_
    exact q_iret C rfl (by decide +kernel : decode cX11_license 91 = .ok (.ireturn, 1))
set_option maxRecDepth 100000 in
theorem v_X11_license_0 {p : Program} {l : Launch} {e : Env} {s : State} {m : MethodId} {args : Array Value} {below : List Frame} {meth : Method} {c : Code} {D : va_G} {A : Nat → Prop} {post : Option Value → q_S → Prop} {K : Nat → q_K} (C : q_C p s m args meth c cX11_license 6 RX11 "license" (some .int) A) (hK : ∀ h ∈ ([] : List Nat), q_V p l e rm_X11_license s m args below meth c D A 6 (MQ below (q_Qc D A post) args s rm_X11_license.cells rm_X11_license.slots A) h (K h)) : q_V p l e rm_X11_license s m args below meth c D A 6 (MQ below (q_Qc D A post) args s rm_X11_license.cells rm_X11_license.slots A) 0 (k_X11_license_0 post K) := by
  unfold k_X11_license_0
  refine q_aload_n C (by decide +kernel : decode cX11_license 0 = .ok (.aload_n 0, 1)) ?_
  refine q_iload_n C (by decide +kernel : decode cX11_license 1 = .ok (.iload_n 1, 1)) ?_
  refine q_call2 C (q_coV C (np := 1) (ci := 11) (rc := (RX11, TX11, 35)) (t_X11_isWork l) w9_48 rfl rfl w9_49 w9_50 w9_51 w9_6 (by decide +kernel) (by decide +kernel : decode cX11_license 2 = .ok (.invokevirtual 140, 3)) (by decide)) ?_
  refine q_ifeq C (tgt := 50) (by decide +kernel : decode cX11_license 5 = .ok (.ifCond .eq 45, 3)) (by decide) ?_ ?_
  · exact v_X11_license_50 C hK
  · refine q_iload_n C (by decide +kernel : decode cX11_license 8 = .ok (.iload_n 2, 1)) ?_
    refine q_iconst C (by decide +kernel : decode cX11_license 9 = .ok (.iconst 0, 1)) (by decide) ?_
    refine q_iconst C (by decide +kernel : decode cX11_license 10 = .ok (.iconst 3, 1)) (by decide) ?_
    refine q_call3 C (q_coS C (np := 3) (t_X11_in l) w9_5 w9_8 w9_7 w9_6 (by decide +kernel) (by decide +kernel : decode cX11_license 11 = .ok (.invokestatic 92, 3)) (by decide)) ?_
    refine q_ifeq C (tgt := 50) (by decide +kernel : decode cX11_license 14 = .ok (.ifCond .eq 36, 3)) (by decide) ?_ ?_
    · exact v_X11_license_50 C hK
    · refine q_aload_n C (by decide +kernel : decode cX11_license 17 = .ok (.aload_n 0, 1)) ?_
      refine q_iload_n C (by decide +kernel : decode cX11_license 18 = .ok (.iload_n 3, 1)) ?_
      refine q_call2 C (q_coV C (np := 1) (ci := 11) (rc := (RX11, TX11, 35)) (t_X11_isPerson l) w9_13 rfl rfl w9_14 w9_15 w9_16 w9_6 (by decide +kernel) (by decide +kernel : decode cX11_license 19 = .ok (.invokevirtual 106, 3)) (by decide)) ?_
      refine q_ifeq C (tgt := 50) (by decide +kernel : decode cX11_license 22 = .ok (.ifCond .eq 28, 3)) (by decide) ?_ ?_
      · exact v_X11_license_50 C hK
      · refine q_iload C (by decide +kernel : decode cX11_license 25 = .ok (.iload 4, 2)) ?_
        refine q_iconst C (by decide +kernel : decode cX11_license 27 = .ok (.iconst 0, 1)) (by decide) ?_
        refine q_sipush C (by decide +kernel : decode cX11_license 28 = .ok (.sipush 3000, 3)) (by decide) ?_
        refine q_call3 C (q_coS C (np := 3) (t_X11_in l) w9_5 w9_8 w9_7 w9_6 (by decide +kernel) (by decide +kernel : decode cX11_license 31 = .ok (.invokestatic 92, 3)) (by decide)) ?_
        refine q_ifeq C (tgt := 50) (by decide +kernel : decode cX11_license 34 = .ok (.ifCond .eq 16, 3)) (by decide) ?_ ?_
        · exact v_X11_license_50 C hK
        · refine q_iload C (by decide +kernel : decode cX11_license 37 = .ok (.iload 5, 2)) ?_
          refine q_iload C (by decide +kernel : decode cX11_license 39 = .ok (.iload 4, 2)) ?_
          refine q_sipush C (by decide +kernel : decode cX11_license 41 = .ok (.sipush 3000, 3)) (by decide) ?_
          refine q_call3 C (q_coS C (np := 3) (t_X11_in l) w9_5 w9_8 w9_7 w9_6 (by decide +kernel) (by decide +kernel : decode cX11_license 44 = .ok (.invokestatic 92, 3)) (by decide)) ?_
          refine q_ifne C (tgt := 53) (by decide +kernel : decode cX11_license 47 = .ok (.ifCond .ne 6, 3)) (by decide) ?_ ?_
          · refine q_aload_n C (by decide +kernel : decode cX11_license 53 = .ok (.aload_n 0, 1)) ?_
            refine q_iload_n C (by decide +kernel : decode cX11_license 54 = .ok (.iload_n 1, 1)) ?_
            refine q_aload_n C (by decide +kernel : decode cX11_license 55 = .ok (.aload_n 0, 1)) ?_
            refine q_get C (ci := 11) (j := 0) (C0 := RX11) (T := TX11) (N := 35) rfl iX11 giX11 (by decide) w9_10 (by decide +kernel : decode cX11_license 56 = .ok (.getfield 96, 3)) ?_
            refine q_aload_n C (by decide +kernel : decode cX11_license 59 = .ok (.aload_n 0, 1)) ?_
            refine q_get C (ci := 11) (j := 0) (C0 := RX11) (T := TX11) (N := 35) rfl iX11 giX11 (by decide) w9_10 (by decide +kernel : decode cX11_license 60 = .ok (.getfield 96, 3)) ?_
            refine q_call4 C (q_coV C (np := 3) (ci := 11) (rc := (RX11, TX11, 35)) (t_X11_hasRight l) w9_52 rfl rfl w9_53 w9_54 w9_55 w9_6 (by decide +kernel) (by decide +kernel : decode cX11_license 63 = .ok (.invokevirtual 146, 3)) (by decide)) ?_
            refine q_ifeq C (tgt := 77) (by decide +kernel : decode cX11_license 66 = .ok (.ifCond .eq 11, 3)) (by decide) ?_ ?_
            · exact v_X11_license_77 C hK
            · refine q_aload_n C (by decide +kernel : decode cX11_license 69 = .ok (.aload_n 0, 1)) ?_
              refine q_iload_n C (by decide +kernel : decode cX11_license 70 = .ok (.iload_n 1, 1)) ?_
              refine q_call2 C (q_coV C (np := 1) (ci := 11) (rc := (RX11, TX11, 35)) (t_X11_isAgreed l) w9_88 rfl rfl w9_89 w9_90 w9_91 w9_6 (by decide +kernel) (by decide +kernel : decode cX11_license 71 = .ok (.invokevirtual 161, 3)) (by decide)) ?_
              refine q_ifne C (tgt := 80) (by decide +kernel : decode cX11_license 74 = .ok (.ifCond .ne 6, 3)) (by decide) ?_ ?_
              · exact v_X11_license_80 C hK
              · exact v_X11_license_77 C hK
          · exact v_X11_license_50 C hK
theorem u_X11_license (l : Launch) {sp : q_Sp} (H : ∀ (av : List Value) (σ : q_S) (post : Option Value → q_S → Prop), sp av σ post → k_X11_license_0 post (fun _ _ _ _ _ _ => False) (q_L0 av 6) [] σ 0 0 ∧ av.length ≤ 6 ∧ ∀ v ∈ av, v.category = 1) : q_Ct l yX11_license cX11_license 6 (some .int) rm_X11_license sp := by
  refine q_met (by decide) ?_
  intro D A p e s m args below meth c σ av post C hsp
  obtain ⟨h1, h2, h3⟩ := H av σ post hsp
  exact ⟨_, v_X11_license_0 (K := fun _ _ _ _ _ _ => False) C (fun h hh => by cases hh), h1, h2, h3⟩
theorem t_X11_license (l : Launch) : q_Ct l yX11_license cX11_license 6 (some .int) rm_X11_license s_X11_license := u_X11_license l (by
  intro av σ post h
  unfold s_X11_license at h
  split at h
  · next mr w u p a b =>
    refine ⟨?_, by simp, by simp [Value.category]⟩
    obtain ⟨ad, z, g, ⟨gp, r, hm⟩, hI, hA, h1⟩ := h
    have hI0 := hI
    unfold I1 at hI
    have JB : ¬ (isW z w ∧ (0 ≤ u ∧ u ≤ 3) ∧ isP z p ∧ (0 ≤ a ∧ a ≤ 3000) ∧ a ≤ b ∧ b ≤ 3000) → post (some (.int (-2))) σ := fun c => by
      rw [F_license, if_neg c] at h1
      exact h1 _ ⟨gp, r, hm⟩
    have JN : (isW z w ∧ (0 ≤ u ∧ u ≤ 3) ∧ isP z p ∧ (0 ≤ a ∧ a ≤ 3000) ∧ a ≤ b ∧ b ≤ 3000) → ¬ (HR z g w.toNatClampNeg (z 0) (z 0) ∧ agreedF z g w) → ∀ σ' gp', mOKx σ' mr ad z g gp' r → post (some (.int (-3))) σ' := fun c c2 σ' gp' hm' => by
      rw [F_license, if_pos c, if_neg c2] at h1
      exact h1 _ ⟨gp', r, hm'⟩
    have J80 : (isW z w ∧ (0 ≤ u ∧ u ≤ 3) ∧ isP z p ∧ (0 ≤ a ∧ a ≤ 3000) ∧ a ≤ b ∧ b ≤ 3000) → (HR z g w.toNatClampNeg (z 0) (z 0) ∧ agreedF z g w) → ∀ σ' gp', mOKx σ' mr ad z g gp' r → k_X11_license_80 post (fun _ _ _ _ _ _ => False) [some (.ref mr), some (.int w), some (.int u), some (.int p), some (.int a), some (.int b)] [] σ' 0 0 := fun c c2 σ' gp' hm' => by
      rw [F_license, if_pos c, if_pos c2] at h1
      have hm1 := hm'.a23 (z 22).toNatClampNeg w
      have hm2 := hm1.a24 (z 22).toNatClampNeg u
      have hm3 := hm2.a25 (z 22).toNatClampNeg p
      have hm4 := hm3.a26 (z 22).toNatClampNeg a
      have hm5 := hm4.a27 (z 22).toNatClampNeg b
      have hm6 := hm5.a28 (z 22).toNatClampNeg (z 0)
      have hm7 := hm6.p22 (z 22 + 1)
      simp only [c_push, c_null, c_iload, c_aload, c_istore, c_astore, c_iinc, c_iadd, c_isub, c_imul, c_iand, c_ineg, c_dup, c_dup2, c_pop, c_ifnull, c_ifnonnull, c_get, c_put, c_iald, c_zald, c_iast, c_zast, c_aald, c_aast, c_alen, c_new, c_newa, c_newq, c_mna, c_oinit, c_max, c_copy, c_iret, c_zret, c_aret, c_vret, q_do, q_rc, c_ifeq, c_ifne, c_iflt, c_ifge, c_ifgt, c_ifle, c_iceq, c_icne, c_iclt, c_icge, c_icgt, c_icle, c_call0, c_call1, c_call2, c_call3, c_call4, c_call5, c_call6, c_call7, q_L0, List.map_cons, List.map_nil, List.replicate, List.cons_append, List.nil_append, List.append_nil, List.length_cons, List.length_nil, List.length_set, Nat.reduceSub, Nat.reduceAdd, Nat.reduceLT, Nat.reduceLeDiff, Nat.zero_add, Nat.add_zero, Nat.sub_zero, Nat.sub_self, List.getElem?_cons_zero, List.getElem?_cons_succ, List.set_cons_zero, List.set_cons_succ, Option.toList_some, Option.toList_none, List.sum_cons, List.sum_nil, true_and, and_true, true_or, or_true, Nat.le_refl, Nat.zero_le, Value.category, Fin.isValue, Fin.val_zero, Fin.val_one, Fin.val_two, Fin.reduceFinMk, q_10, q_01, not_false_eq_true, not_true_eq_false, forall_const, true_implies, false_implies, implies_true, q_ni, q_fi, q_nb0, q_nb1, q_fb0, q_fb1, q_nor, q_nar, q_for, q_far, q_non, q_nan, q_fon, q_fan, imp_false, false_and, and_false, and_self, false_or, or_false, va_rf, refKind, k_X11_license_80, hm'.rd, hm1.rd, hm2.rd, hm3.rd, hm4.rd, hm5.rd, hm6.rd, hm7.rd, vpi40]
      refine ⟨fun c3 => ?_, fun c3 => ?_⟩
      · rw [if_neg c3] at h1
        have h2 := h1 _ ⟨gp', r, hm7⟩
        have cx : 0 ≤ z 22 ∧ z 22 < 40 := by grind
        have e : upd z 22 (z 22 + 1) 22 - 1 = z 22 := by simp only [upd, if_true]; grind
        rw [e]
        exact ⟨cx, cx, cx, cx, cx, cx, h2⟩
      · rw [if_pos c3] at h1
        exact h1 _ ⟨gp', r, hm'⟩
    clear h1
    simp only [c_push, c_null, c_iload, c_aload, c_istore, c_astore, c_iinc, c_iadd, c_isub, c_imul, c_iand, c_ineg, c_dup, c_dup2, c_pop, c_ifnull, c_ifnonnull, c_get, c_put, c_iald, c_zald, c_iast, c_zast, c_aald, c_aast, c_alen, c_new, c_newa, c_newq, c_mna, c_oinit, c_max, c_copy, c_iret, c_zret, c_aret, c_vret, q_do, q_rc, c_ifeq, c_ifne, c_iflt, c_ifge, c_ifgt, c_ifle, c_iceq, c_icne, c_iclt, c_icge, c_icgt, c_icle, c_call0, c_call1, c_call2, c_call3, c_call4, c_call5, c_call6, c_call7, q_L0, List.map_cons, List.map_nil, List.replicate, List.cons_append, List.nil_append, List.append_nil, List.length_cons, List.length_nil, List.length_set, Nat.reduceSub, Nat.reduceAdd, Nat.reduceLT, Nat.reduceLeDiff, Nat.zero_add, Nat.add_zero, Nat.sub_zero, Nat.sub_self, List.getElem?_cons_zero, List.getElem?_cons_succ, List.set_cons_zero, List.set_cons_succ, Option.toList_some, Option.toList_none, List.sum_cons, List.sum_nil, true_and, and_true, true_or, or_true, Nat.le_refl, Nat.zero_le, Value.category, Fin.isValue, Fin.val_zero, Fin.val_one, Fin.val_two, Fin.reduceFinMk, q_10, q_01, not_false_eq_true, not_true_eq_false, forall_const, true_implies, false_implies, implies_true, q_ni, q_fi, q_nb0, q_nb1, q_fb0, q_fb1, q_nor, q_nar, q_for, q_far, q_non, q_nan, q_fon, q_fan, imp_false, false_and, and_false, and_self, false_or, or_false, va_rf, refKind, k_X11_license_0, k_X11_license_50, k_X11_license_77, hm.rd, s_X11_isWork, s_X11_isPerson, s_X11_in, s_X10_isWithin]
    refine ⟨hI.2.2.2.1, fun c1 => ⟨fun c2 => ⟨hI.2.1, fun c3 => ⟨fun c4 => ⟨fun c5 => ?_, fun c => JB (by grind)⟩, fun c => JB (by grind)⟩, fun c => JB (by grind)⟩, fun c => JB (by grind)⟩, fun c => JB (by grind)⟩
    have cc : (isW z w ∧ (0 ≤ u ∧ u ≤ 3) ∧ isP z p ∧ (0 ≤ a ∧ a ≤ 3000) ∧ a ≤ b ∧ b ≤ 3000) := ⟨c1, c2, c3, c4, c5.1, c5.2⟩
    have cw : 0 ≤ w ∧ w < 20 := ⟨c1.1, by grind⟩
    refine ⟨ad, z, g, gp, r, hm, cw, hI.2.2.1, hA.at c1.1 c1.2 cw.2, fun σ' gp' hm' => ⟨fun c6 => ?_, fun c6 => ?_⟩⟩
    · simp only [c_push, c_null, c_iload, c_aload, c_istore, c_astore, c_iinc, c_iadd, c_isub, c_imul, c_iand, c_ineg, c_dup, c_dup2, c_pop, c_ifnull, c_ifnonnull, c_get, c_put, c_iald, c_zald, c_iast, c_zast, c_aald, c_aast, c_alen, c_new, c_newa, c_newq, c_mna, c_oinit, c_max, c_copy, c_iret, c_zret, c_aret, c_vret, q_do, q_rc, c_ifeq, c_ifne, c_iflt, c_ifge, c_ifgt, c_ifle, c_iceq, c_icne, c_iclt, c_icge, c_icgt, c_icle, c_call0, c_call1, c_call2, c_call3, c_call4, c_call5, c_call6, c_call7, q_L0, List.map_cons, List.map_nil, List.replicate, List.cons_append, List.nil_append, List.append_nil, List.length_cons, List.length_nil, List.length_set, Nat.reduceSub, Nat.reduceAdd, Nat.reduceLT, Nat.reduceLeDiff, Nat.zero_add, Nat.add_zero, Nat.sub_zero, Nat.sub_self, List.getElem?_cons_zero, List.getElem?_cons_succ, List.set_cons_zero, List.set_cons_succ, Option.toList_some, Option.toList_none, List.sum_cons, List.sum_nil, true_and, and_true, true_or, or_true, Nat.le_refl, Nat.zero_le, Value.category, Fin.isValue, Fin.val_zero, Fin.val_one, Fin.val_two, Fin.reduceFinMk, q_10, q_01, not_false_eq_true, not_true_eq_false, forall_const, true_implies, false_implies, implies_true, q_ni, q_fi, q_nb0, q_nb1, q_fb0, q_fb1, q_nor, q_nar, q_for, q_far, q_non, q_nan, q_fon, q_fan, imp_false, false_and, and_false, and_self, false_or, or_false, va_rf, refKind, hm'.rd]
      refine ⟨ad, z, g, gp', r, hm', cw, hI0, fun c7 => ?_, fun c7 => ?_⟩
      · simp only [c_push, c_null, c_iload, c_aload, c_istore, c_astore, c_iinc, c_iadd, c_isub, c_imul, c_iand, c_ineg, c_dup, c_dup2, c_pop, c_ifnull, c_ifnonnull, c_get, c_put, c_iald, c_zald, c_iast, c_zast, c_aald, c_aast, c_alen, c_new, c_newa, c_newq, c_mna, c_oinit, c_max, c_copy, c_iret, c_zret, c_aret, c_vret, q_do, q_rc, c_ifeq, c_ifne, c_iflt, c_ifge, c_ifgt, c_ifle, c_iceq, c_icne, c_iclt, c_icge, c_icgt, c_icle, c_call0, c_call1, c_call2, c_call3, c_call4, c_call5, c_call6, c_call7, q_L0, List.map_cons, List.map_nil, List.replicate, List.cons_append, List.nil_append, List.append_nil, List.length_cons, List.length_nil, List.length_set, Nat.reduceSub, Nat.reduceAdd, Nat.reduceLT, Nat.reduceLeDiff, Nat.zero_add, Nat.add_zero, Nat.sub_zero, Nat.sub_self, List.getElem?_cons_zero, List.getElem?_cons_succ, List.set_cons_zero, List.set_cons_succ, Option.toList_some, Option.toList_none, List.sum_cons, List.sum_nil, true_and, and_true, true_or, or_true, Nat.le_refl, Nat.zero_le, Value.category, Fin.isValue, Fin.val_zero, Fin.val_one, Fin.val_two, Fin.reduceFinMk, q_10, q_01, not_false_eq_true, not_true_eq_false, forall_const, true_implies, false_implies, implies_true, q_ni, q_fi, q_nb0, q_nb1, q_fb0, q_fb1, q_nor, q_nar, q_for, q_far, q_non, q_nan, q_fon, q_fan, imp_false, false_and, and_false, and_self, false_or, or_false, va_rf, refKind]
        exact J80 cc ⟨c6, c7⟩ _ _ hm'
      · simp only [c_push, c_null, c_iload, c_aload, c_istore, c_astore, c_iinc, c_iadd, c_isub, c_imul, c_iand, c_ineg, c_dup, c_dup2, c_pop, c_ifnull, c_ifnonnull, c_get, c_put, c_iald, c_zald, c_iast, c_zast, c_aald, c_aast, c_alen, c_new, c_newa, c_newq, c_mna, c_oinit, c_max, c_copy, c_iret, c_zret, c_aret, c_vret, q_do, q_rc, c_ifeq, c_ifne, c_iflt, c_ifge, c_ifgt, c_ifle, c_iceq, c_icne, c_iclt, c_icge, c_icgt, c_icle, c_call0, c_call1, c_call2, c_call3, c_call4, c_call5, c_call6, c_call7, q_L0, List.map_cons, List.map_nil, List.replicate, List.cons_append, List.nil_append, List.append_nil, List.length_cons, List.length_nil, List.length_set, Nat.reduceSub, Nat.reduceAdd, Nat.reduceLT, Nat.reduceLeDiff, Nat.zero_add, Nat.add_zero, Nat.sub_zero, Nat.sub_self, List.getElem?_cons_zero, List.getElem?_cons_succ, List.set_cons_zero, List.set_cons_succ, Option.toList_some, Option.toList_none, List.sum_cons, List.sum_nil, true_and, and_true, true_or, or_true, Nat.le_refl, Nat.zero_le, Value.category, Fin.isValue, Fin.val_zero, Fin.val_one, Fin.val_two, Fin.reduceFinMk, q_10, q_01, not_false_eq_true, not_true_eq_false, forall_const, true_implies, false_implies, implies_true, q_ni, q_fi, q_nb0, q_nb1, q_fb0, q_fb1, q_nor, q_nar, q_for, q_far, q_non, q_nan, q_fon, q_fan, imp_false, false_and, and_false, and_self, false_or, or_false, va_rf, refKind]
        exact JN cc (fun h => c7 h.2) _ _ hm'
    · simp only [c_push, c_null, c_iload, c_aload, c_istore, c_astore, c_iinc, c_iadd, c_isub, c_imul, c_iand, c_ineg, c_dup, c_dup2, c_pop, c_ifnull, c_ifnonnull, c_get, c_put, c_iald, c_zald, c_iast, c_zast, c_aald, c_aast, c_alen, c_new, c_newa, c_newq, c_mna, c_oinit, c_max, c_copy, c_iret, c_zret, c_aret, c_vret, q_do, q_rc, c_ifeq, c_ifne, c_iflt, c_ifge, c_ifgt, c_ifle, c_iceq, c_icne, c_iclt, c_icge, c_icgt, c_icle, c_call0, c_call1, c_call2, c_call3, c_call4, c_call5, c_call6, c_call7, q_L0, List.map_cons, List.map_nil, List.replicate, List.cons_append, List.nil_append, List.append_nil, List.length_cons, List.length_nil, List.length_set, Nat.reduceSub, Nat.reduceAdd, Nat.reduceLT, Nat.reduceLeDiff, Nat.zero_add, Nat.add_zero, Nat.sub_zero, Nat.sub_self, List.getElem?_cons_zero, List.getElem?_cons_succ, List.set_cons_zero, List.set_cons_succ, Option.toList_some, Option.toList_none, List.sum_cons, List.sum_nil, true_and, and_true, true_or, or_true, Nat.le_refl, Nat.zero_le, Value.category, Fin.isValue, Fin.val_zero, Fin.val_one, Fin.val_two, Fin.reduceFinMk, q_10, q_01, not_false_eq_true, not_true_eq_false, forall_const, true_implies, false_implies, implies_true, q_ni, q_fi, q_nb0, q_nb1, q_fb0, q_fb1, q_nor, q_nar, q_for, q_far, q_non, q_nan, q_fon, q_fan, imp_false, false_and, and_false, and_self, false_or, or_false, va_rf, refKind]
      exact JN cc (fun h => c6 h.1) _ _ hm'
  · exact h.elim)
abbrev licOK (g : Nat → Nat → Int32) (w u p t : Int32) (l : Nat) : Prop := g 23 l = w ∧ g 24 l = u ∧ g 25 l = p ∧ g 28 l ≤ t ∧ g 26 l ≤ t ∧ t ≤ g 27 l
def licB (g : Nat → Nat → Int32) (w u p t : Int32) : Nat → Bool
  | 0 => false
  | n + 1 => licB g w u p t n || decide (licOK g w u p t n)
abbrev mayB0 (z : Nat → Int32) (g : Nat → Nat → Int32) (w p t k : Int32) : Prop := ¬ HR z g w.toNatClampNeg t k ∨ 8 ≤ holdsF g w p t (mvF z)
def mayB (z : Nat → Int32) (g : Nat → Nat → Int32) (w u p t k : Int32) (i : Nat) : Int32 := if mayB0 z g w p t k ∨ licB g w u p t i = true then 1 else 0
theorem mayB01 (z : Nat → Int32) (g : Nat → Nat → Int32) (w u p t k : Int32) (i : Nat) : mayB z g w u p t k i = 0 ∨ mayB z g w u p t k i = 1 := by unfold mayB; split <;> simp
theorem mayB_s (z : Nat → Int32) (g : Nat → Nat → Int32) (w u p t k : Int32) (i : Nat) : mayB z g w u p t k (i + 1) = if mayB z g w u p t k i = 1 ∨ licOK g w u p t i then 1 else 0 := by
  unfold mayB
  rw [licB]
  by_cases c : licOK g w u p t i <;> by_cases c2 : mayB0 z g w p t k <;> cases c3 : licB g w u p t i <;> simp [c, c2]
abbrev mayC (z : Nat → Int32) (g : Nat → Nat → Int32) (w u p t k : Int32) : Prop := isW z w ∧ (0 ≤ u ∧ u ≤ 3) ∧ isP z p ∧ (g 13 w.toNatClampNeg ≤ t ∧ t ≤ z 0) ∧ g 13 w.toNatClampNeg ≤ k ∧ k ≤ 3000
def F_may (z : Nat → Int32) (g : Nat → Nat → Int32) (w u p t k : Int32) : Int32 := if mayC z g w u p t k then mayB z g w u p t k (z 22).toNatClampNeg else -2
def s_X11_may : q_Sp := fun av σ post => match av with
  | [.ref mr, .int w, .int u, .int p, .int t, .int k] => ∃ ad z g, mOK σ mr ad z g ∧ I1 z ∧ AU z g ∧ ∀ σ', mOK σ' mr ad z g → post (some (.int (F_may z g w u p t k))) σ'
  | _ => False
def rm_X11_may : Room := { frames := 4, cells := 0, slots := 0, locals := 97 }
def k_X11_may_60 (post : Option Value → q_S → Prop) (K : Nat → q_K) : q_K := (c_push (-2) (c_iret post))
def k_X11_may_93 (post : Option Value → q_S → Prop) (K : Nat → q_K) : q_K := (c_istore 6 (c_push 0 (c_istore 7 (K 98))))
def k_X11_may_88 (post : Option Value → q_S → Prop) (K : Nat → q_K) : q_K := (c_push 1 (k_X11_may_93 post K))
def k_X11_may_63 (post : Option Value → q_S → Prop) (K : Nat → q_K) : q_K := (c_aload 0 (c_iload 1 (c_iload 4 (c_iload 5 (c_call4 (some 11) s_X11_hasRight 0 0 (c_ifeq (k_X11_may_88 post K) (c_aload 0 (c_iload 1 (c_iload 3 (c_iload 4 (c_call4 (some 11) s_X11_holds 0 0 (c_push 8 (c_iclt (c_push 0 (k_X11_may_93 post K)) (k_X11_may_88 post K))))))))))))))
def k_X11_may_0 (post : Option Value → q_S → Prop) (K : Nat → q_K) : q_K := (c_aload 0 (c_iload 1 (c_call2 (some 11) s_X11_isWork 0 0 (c_ifeq (k_X11_may_60 post K) (c_iload 2 (c_push 0 (c_push 3 (c_call3 none s_X11_in 0 0 (c_ifeq (k_X11_may_60 post K) (c_aload 0 (c_iload 3 (c_call2 (some 11) s_X11_isPerson 0 0 (c_ifeq (k_X11_may_60 post K) (c_iload 4 (c_aload 0 (c_get 11 13 (c_iload 1 (c_iald (c_aload 0 (c_get 11 0 (c_call3 none s_X11_in 0 0 (c_ifeq (k_X11_may_60 post K) (c_iload 5 (c_aload 0 (c_get 11 13 (c_iload 1 (c_iald (c_push 3000 (c_call3 none s_X11_in 0 0 (c_ifne (k_X11_may_63 post K) (k_X11_may_60 post K)))))))))))))))))))))))))))))))
def k_X11_may_184 (post : Option Value → q_S → Prop) (K : Nat → q_K) : q_K := (c_istore 6 (c_iinc 7 1 (K 98)))
def k_X11_may_179 (post : Option Value → q_S → Prop) (K : Nat → q_K) : q_K := (c_push 1 (k_X11_may_184 post K))
def k_X11_may_183 (post : Option Value → q_S → Prop) (K : Nat → q_K) : q_K := (c_push 0 (k_X11_may_184 post K))
def k_X11_may_202 (post : Option Value → q_S → Prop) (K : Nat → q_K) : q_K := (c_iret post)
def k_X11_may_98 (post : Option Value → q_S → Prop) (K : Nat → q_K) : q_K := (c_iload 7 (c_aload 0 (c_get 11 22 (c_icge (c_iload 6 (c_ifeq (c_push 0 (k_X11_may_202 post K)) (c_push 1 (k_X11_may_202 post K)))) (c_iload 6 (c_ifne (k_X11_may_179 post K) (c_aload 0 (c_get 11 23 (c_iload 7 (c_iald (c_iload 1 (c_icne (k_X11_may_183 post K) (c_aload 0 (c_get 11 24 (c_iload 7 (c_iald (c_iload 2 (c_icne (k_X11_may_183 post K) (c_aload 0 (c_get 11 25 (c_iload 7 (c_iald (c_iload 3 (c_icne (k_X11_may_183 post K) (c_aload 0 (c_get 11 28 (c_iload 7 (c_iald (c_iload 4 (c_icgt (k_X11_may_183 post K) (c_iload 4 (c_aload 0 (c_get 11 26 (c_iload 7 (c_iald (c_aload 0 (c_get 11 27 (c_iload 7 (c_iald (c_call3 none s_X11_in 0 0 (c_ifeq (k_X11_may_183 post K) (k_X11_may_179 post K))))))))))))))))))))))))))))))))))))))))))
set_option maxRecDepth 100000 in
theorem v_X11_may_60 {p : Program} {l : Launch} {e : Env} {s : State} {m : MethodId} {args : Array Value} {below : List Frame} {meth : Method} {c : Code} {D : va_G} {A : Nat → Prop} {post : Option Value → q_S → Prop} {K : Nat → q_K} (C : q_C p s m args meth c cX11_may 8 RX11 "may" (some .int) A) (hK : ∀ h ∈ ([98] : List Nat), q_V p l e rm_X11_may s m args below meth c D A 8 (MQ below (q_Qc D A post) args s rm_X11_may.cells rm_X11_may.slots A) h (K h)) : q_V p l e rm_X11_may s m args below meth c D A 8 (MQ below (q_Qc D A post) args s rm_X11_may.cells rm_X11_may.slots A) 60 (k_X11_may_60 post K) := by
  unfold k_X11_may_60
  refine q_bipush C (by decide +kernel : decode cX11_may 60 = .ok (.bipush (-2), 2)) (by decide) ?_
  exact q_iret C rfl (by decide +kernel : decode cX11_may 62 = .ok (.ireturn, 1))
set_option maxRecDepth 100000 in
theorem v_X11_may_93 {p : Program} {l : Launch} {e : Env} {s : State} {m : MethodId} {args : Array Value} {below : List Frame} {meth : Method} {c : Code} {D : va_G} {A : Nat → Prop} {post : Option Value → q_S → Prop} {K : Nat → q_K} (C : q_C p s m args meth c cX11_may 8 RX11 "may" (some .int) A) (hK : ∀ h ∈ ([98] : List Nat), q_V p l e rm_X11_may s m args below meth c D A 8 (MQ below (q_Qc D A post) args s rm_X11_may.cells rm_X11_may.slots A) h (K h)) : q_V p l e rm_X11_may s m args below meth c D A 8 (MQ below (q_Qc D A post) args s rm_X11_may.cells rm_X11_may.slots A) 93 (k_X11_may_93 post K) := by
  unfold k_X11_may_93
  refine q_istore C (by decide +kernel : decode cX11_may 93 = .ok (.istore 6, 2)) ?_
  refine q_iconst C (by decide +kernel : decode cX11_may 95 = .ok (.iconst 0, 1)) (by decide) ?_
  refine q_istore C (by decide +kernel : decode cX11_may 96 = .ok (.istore 7, 2)) ?_
  exact hK 98 (by decide)
set_option maxRecDepth 100000 in
theorem v_X11_may_88 {p : Program} {l : Launch} {e : Env} {s : State} {m : MethodId} {args : Array Value} {below : List Frame} {meth : Method} {c : Code} {D : va_G} {A : Nat → Prop} {post : Option Value → q_S → Prop} {K : Nat → q_K} (C : q_C p s m args meth c cX11_may 8 RX11 "may" (some .int) A) (hK : ∀ h ∈ ([98] : List Nat), q_V p l e rm_X11_may s m args below meth c D A 8 (MQ below (q_Qc D A post) args s rm_X11_may.cells rm_X11_may.slots A) h (K h)) : q_V p l e rm_X11_may s m args below meth c D A 8 (MQ below (q_Qc D A post) args s rm_X11_may.cells rm_X11_may.slots A) 88 (k_X11_may_88 post K) := by
  unfold k_X11_may_88
  refine q_iconst C (by decide +kernel : decode cX11_may 88 = .ok (.iconst 1, 1)) (by decide) ?_
  refine q_goto C (tgt := 93) (by decide +kernel : decode cX11_may 89 = .ok (.goto 4, 3)) (by decide) ?_
  exact v_X11_may_93 C hK
set_option maxRecDepth 100000 in
theorem v_X11_may_63 {p : Program} {l : Launch} {e : Env} {s : State} {m : MethodId} {args : Array Value} {below : List Frame} {meth : Method} {c : Code} {D : va_G} {A : Nat → Prop} {post : Option Value → q_S → Prop} {K : Nat → q_K} (C : q_C p s m args meth c cX11_may 8 RX11 "may" (some .int) A) (hK : ∀ h ∈ ([98] : List Nat), q_V p l e rm_X11_may s m args below meth c D A 8 (MQ below (q_Qc D A post) args s rm_X11_may.cells rm_X11_may.slots A) h (K h)) : q_V p l e rm_X11_may s m args below meth c D A 8 (MQ below (q_Qc D A post) args s rm_X11_may.cells rm_X11_may.slots A) 63 (k_X11_may_63 post K) := by
  unfold k_X11_may_63
  refine q_aload_n C (by decide +kernel : decode cX11_may 63 = .ok (.aload_n 0, 1)) ?_
  refine q_iload_n C (by decide +kernel : decode cX11_may 64 = .ok (.iload_n 1, 1)) ?_
  refine q_iload C (by decide +kernel : decode cX11_may 65 = .ok (.iload 4, 2)) ?_
  refine q_iload C (by decide +kernel : decode cX11_may 67 = .ok (.iload 5, 2)) ?_
  refine q_call4 C (q_coV C (np := 3) (ci := 11) (rc := (RX11, TX11, 35)) (t_X11_hasRight l) w9_52 rfl rfl w9_53 w9_54 w9_55 w9_6 (by decide +kernel) (by decide +kernel : decode cX11_may 69 = .ok (.invokevirtual 146, 3)) (by decide)) ?_
  refine q_ifeq C (tgt := 88) (by decide +kernel : decode cX11_may 72 = .ok (.ifCond .eq 16, 3)) (by decide) ?_ ?_
  · exact v_X11_may_88 C hK
  · refine q_aload_n C (by decide +kernel : decode cX11_may 75 = .ok (.aload_n 0, 1)) ?_
    refine q_iload_n C (by decide +kernel : decode cX11_may 76 = .ok (.iload_n 1, 1)) ?_
    refine q_iload_n C (by decide +kernel : decode cX11_may 77 = .ok (.iload_n 3, 1)) ?_
    refine q_iload C (by decide +kernel : decode cX11_may 78 = .ok (.iload 4, 2)) ?_
    refine q_call4 C (q_coV C (np := 3) (ci := 11) (rc := (RX11, TX11, 35)) (t_X11_holds l) w9_63 rfl rfl w9_64 w9_65 w9_66 w9_6 (by decide +kernel) (by decide +kernel : decode cX11_may 80 = .ok (.invokevirtual 110, 3)) (by decide)) ?_
    refine q_bipush C (by decide +kernel : decode cX11_may 83 = .ok (.bipush 8, 2)) (by decide) ?_
    refine q_iclt C (tgt := 92) (by decide +kernel : decode cX11_may 85 = .ok (.if_icmp .lt 7, 3)) (by decide) ?_ ?_
    · refine q_iconst C (by decide +kernel : decode cX11_may 92 = .ok (.iconst 0, 1)) (by decide) ?_
      exact v_X11_may_93 C hK
    · exact v_X11_may_88 C hK
set_option maxRecDepth 100000 in
theorem v_X11_may_0 {p : Program} {l : Launch} {e : Env} {s : State} {m : MethodId} {args : Array Value} {below : List Frame} {meth : Method} {c : Code} {D : va_G} {A : Nat → Prop} {post : Option Value → q_S → Prop} {K : Nat → q_K} (C : q_C p s m args meth c cX11_may 8 RX11 "may" (some .int) A) (hK : ∀ h ∈ ([98] : List Nat), q_V p l e rm_X11_may s m args below meth c D A 8 (MQ below (q_Qc D A post) args s rm_X11_may.cells rm_X11_may.slots A) h (K h)) : q_V p l e rm_X11_may s m args below meth c D A 8 (MQ below (q_Qc D A post) args s rm_X11_may.cells rm_X11_may.slots A) 0 (k_X11_may_0 post K) := by
  unfold k_X11_may_0
  refine q_aload_n C (by decide +kernel : decode cX11_may 0 = .ok (.aload_n 0, 1)) ?_
  refine q_iload_n C (by decide +kernel : decode cX11_may 1 = .ok (.iload_n 1, 1)) ?_
  refine q_call2 C (q_coV C (np := 1) (ci := 11) (rc := (RX11, TX11, 35)) (t_X11_isWork l) w9_48 rfl rfl w9_49 w9_50 w9_51 w9_6 (by decide +kernel) (by decide +kernel : decode cX11_may 2 = .ok (.invokevirtual 140, 3)) (by decide)) ?_
  refine q_ifeq C (tgt := 60) (by decide +kernel : decode cX11_may 5 = .ok (.ifCond .eq 55, 3)) (by decide) ?_ ?_
  · exact v_X11_may_60 C hK
  · refine q_iload_n C (by decide +kernel : decode cX11_may 8 = .ok (.iload_n 2, 1)) ?_
    refine q_iconst C (by decide +kernel : decode cX11_may 9 = .ok (.iconst 0, 1)) (by decide) ?_
    refine q_iconst C (by decide +kernel : decode cX11_may 10 = .ok (.iconst 3, 1)) (by decide) ?_
    refine q_call3 C (q_coS C (np := 3) (t_X11_in l) w9_5 w9_8 w9_7 w9_6 (by decide +kernel) (by decide +kernel : decode cX11_may 11 = .ok (.invokestatic 92, 3)) (by decide)) ?_
    refine q_ifeq C (tgt := 60) (by decide +kernel : decode cX11_may 14 = .ok (.ifCond .eq 46, 3)) (by decide) ?_ ?_
    · exact v_X11_may_60 C hK
    · refine q_aload_n C (by decide +kernel : decode cX11_may 17 = .ok (.aload_n 0, 1)) ?_
      refine q_iload_n C (by decide +kernel : decode cX11_may 18 = .ok (.iload_n 3, 1)) ?_
      refine q_call2 C (q_coV C (np := 1) (ci := 11) (rc := (RX11, TX11, 35)) (t_X11_isPerson l) w9_13 rfl rfl w9_14 w9_15 w9_16 w9_6 (by decide +kernel) (by decide +kernel : decode cX11_may 19 = .ok (.invokevirtual 106, 3)) (by decide)) ?_
      refine q_ifeq C (tgt := 60) (by decide +kernel : decode cX11_may 22 = .ok (.ifCond .eq 38, 3)) (by decide) ?_ ?_
      · exact v_X11_may_60 C hK
      · refine q_iload C (by decide +kernel : decode cX11_may 25 = .ok (.iload 4, 2)) ?_
        refine q_aload_n C (by decide +kernel : decode cX11_may 27 = .ok (.aload_n 0, 1)) ?_
        refine q_get C (ci := 11) (j := 13) (C0 := RX11) (T := TX11) (N := 35) rfl iX11 giX11 (by decide) w9_29 (by decide +kernel : decode cX11_may 28 = .ok (.getfield 37, 3)) ?_
        refine q_iload_n C (by decide +kernel : decode cX11_may 31 = .ok (.iload_n 1, 1)) ?_
        refine q_iald C (by decide +kernel : decode cX11_may 32 = .ok (.iaload, 1)) ?_
        refine q_aload_n C (by decide +kernel : decode cX11_may 33 = .ok (.aload_n 0, 1)) ?_
        refine q_get C (ci := 11) (j := 0) (C0 := RX11) (T := TX11) (N := 35) rfl iX11 giX11 (by decide) w9_10 (by decide +kernel : decode cX11_may 34 = .ok (.getfield 96, 3)) ?_
        refine q_call3 C (q_coS C (np := 3) (t_X11_in l) w9_5 w9_8 w9_7 w9_6 (by decide +kernel) (by decide +kernel : decode cX11_may 37 = .ok (.invokestatic 92, 3)) (by decide)) ?_
        refine q_ifeq C (tgt := 60) (by decide +kernel : decode cX11_may 40 = .ok (.ifCond .eq 20, 3)) (by decide) ?_ ?_
        · exact v_X11_may_60 C hK
        · refine q_iload C (by decide +kernel : decode cX11_may 43 = .ok (.iload 5, 2)) ?_
          refine q_aload_n C (by decide +kernel : decode cX11_may 45 = .ok (.aload_n 0, 1)) ?_
          refine q_get C (ci := 11) (j := 13) (C0 := RX11) (T := TX11) (N := 35) rfl iX11 giX11 (by decide) w9_29 (by decide +kernel : decode cX11_may 46 = .ok (.getfield 37, 3)) ?_
          refine q_iload_n C (by decide +kernel : decode cX11_may 49 = .ok (.iload_n 1, 1)) ?_
          refine q_iald C (by decide +kernel : decode cX11_may 50 = .ok (.iaload, 1)) ?_
          refine q_sipush C (by decide +kernel : decode cX11_may 51 = .ok (.sipush 3000, 3)) (by decide) ?_
          refine q_call3 C (q_coS C (np := 3) (t_X11_in l) w9_5 w9_8 w9_7 w9_6 (by decide +kernel) (by decide +kernel : decode cX11_may 54 = .ok (.invokestatic 92, 3)) (by decide)) ?_
          refine q_ifne C (tgt := 63) (by decide +kernel : decode cX11_may 57 = .ok (.ifCond .ne 6, 3)) (by decide) ?_ ?_
          · exact v_X11_may_63 C hK
          · exact v_X11_may_60 C hK
set_option maxRecDepth 100000 in
theorem v_X11_may_184 {p : Program} {l : Launch} {e : Env} {s : State} {m : MethodId} {args : Array Value} {below : List Frame} {meth : Method} {c : Code} {D : va_G} {A : Nat → Prop} {post : Option Value → q_S → Prop} {K : Nat → q_K} (C : q_C p s m args meth c cX11_may 8 RX11 "may" (some .int) A) (hK : ∀ h ∈ ([98] : List Nat), q_V p l e rm_X11_may s m args below meth c D A 8 (MQ below (q_Qc D A post) args s rm_X11_may.cells rm_X11_may.slots A) h (K h)) : q_V p l e rm_X11_may s m args below meth c D A 8 (MQ below (q_Qc D A post) args s rm_X11_may.cells rm_X11_may.slots A) 184 (k_X11_may_184 post K) := by
  unfold k_X11_may_184
  refine q_istore C (by decide +kernel : decode cX11_may 184 = .ok (.istore 6, 2)) ?_
  refine q_iinc C (by decide +kernel : decode cX11_may 186 = .ok (.iinc 7 1, 3)) (by decide) ?_
  refine q_goto C (tgt := 98) (by decide +kernel : decode cX11_may 189 = .ok (.goto (-91), 3)) (by decide) ?_
  exact hK 98 (by decide)
set_option maxRecDepth 100000 in
theorem v_X11_may_179 {p : Program} {l : Launch} {e : Env} {s : State} {m : MethodId} {args : Array Value} {below : List Frame} {meth : Method} {c : Code} {D : va_G} {A : Nat → Prop} {post : Option Value → q_S → Prop} {K : Nat → q_K} (C : q_C p s m args meth c cX11_may 8 RX11 "may" (some .int) A) (hK : ∀ h ∈ ([98] : List Nat), q_V p l e rm_X11_may s m args below meth c D A 8 (MQ below (q_Qc D A post) args s rm_X11_may.cells rm_X11_may.slots A) h (K h)) : q_V p l e rm_X11_may s m args below meth c D A 8 (MQ below (q_Qc D A post) args s rm_X11_may.cells rm_X11_may.slots A) 179 (k_X11_may_179 post K) := by
  unfold k_X11_may_179
  refine q_iconst C (by decide +kernel : decode cX11_may 179 = .ok (.iconst 1, 1)) (by decide) ?_
  refine q_goto C (tgt := 184) (by decide +kernel : decode cX11_may 180 = .ok (.goto 4, 3)) (by decide) ?_
  exact v_X11_may_184 C hK
set_option maxRecDepth 100000 in
theorem v_X11_may_183 {p : Program} {l : Launch} {e : Env} {s : State} {m : MethodId} {args : Array Value} {below : List Frame} {meth : Method} {c : Code} {D : va_G} {A : Nat → Prop} {post : Option Value → q_S → Prop} {K : Nat → q_K} (C : q_C p s m args meth c cX11_may 8 RX11 "may" (some .int) A) (hK : ∀ h ∈ ([98] : List Nat), q_V p l e rm_X11_may s m args below meth c D A 8 (MQ below (q_Qc D A post) args s rm_X11_may.cells rm_X11_may.slots A) h (K h)) : q_V p l e rm_X11_may s m args below meth c D A 8 (MQ below (q_Qc D A post) args s rm_X11_may.cells rm_X11_may.slots A) 183 (k_X11_may_183 post K) := by
  unfold k_X11_may_183
  refine q_iconst C (by decide +kernel : decode cX11_may 183 = .ok (.iconst 0, 1)) (by decide) ?_
  exact v_X11_may_184 C hK
set_option maxRecDepth 100000 in
theorem v_X11_may_202 {p : Program} {l : Launch} {e : Env} {s : State} {m : MethodId} {args : Array Value} {below : List Frame} {meth : Method} {c : Code} {D : va_G} {A : Nat → Prop} {post : Option Value → q_S → Prop} {K : Nat → q_K} (C : q_C p s m args meth c cX11_may 8 RX11 "may" (some .int) A) (hK : ∀ h ∈ ([98] : List Nat), q_V p l e rm_X11_may s m args below meth c D A 8 (MQ below (q_Qc D A post) args s rm_X11_may.cells rm_X11_may.slots A) h (K h)) : q_V p l e rm_X11_may s m args below meth c D A 8 (MQ below (q_Qc D A post) args s rm_X11_may.cells rm_X11_may.slots A) 202 (k_X11_may_202 post K) := by
  unfold k_X11_may_202
  exact q_iret C rfl (by decide +kernel : decode cX11_may 202 = .ok (.ireturn, 1))
set_option maxRecDepth 100000 in
theorem v_X11_may_98 {p : Program} {l : Launch} {e : Env} {s : State} {m : MethodId} {args : Array Value} {below : List Frame} {meth : Method} {c : Code} {D : va_G} {A : Nat → Prop} {post : Option Value → q_S → Prop} {K : Nat → q_K} (C : q_C p s m args meth c cX11_may 8 RX11 "may" (some .int) A) (hK : ∀ h ∈ ([98] : List Nat), q_V p l e rm_X11_may s m args below meth c D A 8 (MQ below (q_Qc D A post) args s rm_X11_may.cells rm_X11_may.slots A) h (K h)) : q_V p l e rm_X11_may s m args below meth c D A 8 (MQ below (q_Qc D A post) args s rm_X11_may.cells rm_X11_may.slots A) 98 (k_X11_may_98 post K) := by
  unfold k_X11_may_98
  refine q_iload C (by decide +kernel : decode cX11_may 98 = .ok (.iload 7, 2)) ?_
  refine q_aload_n C (by decide +kernel : decode cX11_may 100 = .ok (.aload_n 0, 1)) ?_
  refine q_get C (ci := 11) (j := 22) (C0 := RX11) (T := TX11) (N := 35) rfl iX11 giX11 (by decide) w9_87 (by decide +kernel : decode cX11_may 101 = .ok (.getfield 164, 3)) ?_
  refine q_icge C (tgt := 192) (by decide +kernel : decode cX11_may 104 = .ok (.if_icmp .ge 88, 3)) (by decide) ?_ ?_
  · refine q_iload C (by decide +kernel : decode cX11_may 192 = .ok (.iload 6, 2)) ?_
    refine q_ifeq C (tgt := 201) (by decide +kernel : decode cX11_may 194 = .ok (.ifCond .eq 7, 3)) (by decide) ?_ ?_
    · refine q_iconst C (by decide +kernel : decode cX11_may 201 = .ok (.iconst 0, 1)) (by decide) ?_
      exact v_X11_may_202 C hK
    · refine q_iconst C (by decide +kernel : decode cX11_may 197 = .ok (.iconst 1, 1)) (by decide) ?_
      refine q_goto C (tgt := 202) (by decide +kernel : decode cX11_may 198 = .ok (.goto 4, 3)) (by decide) ?_
      exact v_X11_may_202 C hK
  · refine q_iload C (by decide +kernel : decode cX11_may 107 = .ok (.iload 6, 2)) ?_
    refine q_ifne C (tgt := 179) (by decide +kernel : decode cX11_may 109 = .ok (.ifCond .ne 70, 3)) (by decide) ?_ ?_
    · exact v_X11_may_179 C hK
    · refine q_aload_n C (by decide +kernel : decode cX11_may 112 = .ok (.aload_n 0, 1)) ?_
      refine q_get C (ci := 11) (j := 23) (C0 := RX11) (T := TX11) (N := 35) rfl iX11 giX11 (by decide) w9_92 (by decide +kernel : decode cX11_may 113 = .ok (.getfield 62, 3)) ?_
      refine q_iload C (by decide +kernel : decode cX11_may 116 = .ok (.iload 7, 2)) ?_
      refine q_iald C (by decide +kernel : decode cX11_may 118 = .ok (.iaload, 1)) ?_
      refine q_iload_n C (by decide +kernel : decode cX11_may 119 = .ok (.iload_n 1, 1)) ?_
      refine q_icne C (tgt := 183) (by decide +kernel : decode cX11_may 120 = .ok (.if_icmp .ne 63, 3)) (by decide) ?_ ?_
      · exact v_X11_may_183 C hK
      · refine q_aload_n C (by decide +kernel : decode cX11_may 123 = .ok (.aload_n 0, 1)) ?_
        refine q_get C (ci := 11) (j := 24) (C0 := RX11) (T := TX11) (N := 35) rfl iX11 giX11 (by decide) w9_93 (by decide +kernel : decode cX11_may 124 = .ok (.getfield 65, 3)) ?_
        refine q_iload C (by decide +kernel : decode cX11_may 127 = .ok (.iload 7, 2)) ?_
        refine q_iald C (by decide +kernel : decode cX11_may 129 = .ok (.iaload, 1)) ?_
        refine q_iload_n C (by decide +kernel : decode cX11_may 130 = .ok (.iload_n 2, 1)) ?_
        refine q_icne C (tgt := 183) (by decide +kernel : decode cX11_may 131 = .ok (.if_icmp .ne 52, 3)) (by decide) ?_ ?_
        · exact v_X11_may_183 C hK
        · refine q_aload_n C (by decide +kernel : decode cX11_may 134 = .ok (.aload_n 0, 1)) ?_
          refine q_get C (ci := 11) (j := 25) (C0 := RX11) (T := TX11) (N := 35) rfl iX11 giX11 (by decide) w9_94 (by decide +kernel : decode cX11_may 135 = .ok (.getfield 68, 3)) ?_
          refine q_iload C (by decide +kernel : decode cX11_may 138 = .ok (.iload 7, 2)) ?_
          refine q_iald C (by decide +kernel : decode cX11_may 140 = .ok (.iaload, 1)) ?_
          refine q_iload_n C (by decide +kernel : decode cX11_may 141 = .ok (.iload_n 3, 1)) ?_
          refine q_icne C (tgt := 183) (by decide +kernel : decode cX11_may 142 = .ok (.if_icmp .ne 41, 3)) (by decide) ?_ ?_
          · exact v_X11_may_183 C hK
          · refine q_aload_n C (by decide +kernel : decode cX11_may 145 = .ok (.aload_n 0, 1)) ?_
            refine q_get C (ci := 11) (j := 28) (C0 := RX11) (T := TX11) (N := 35) rfl iX11 giX11 (by decide) w9_97 (by decide +kernel : decode cX11_may 146 = .ok (.getfield 77, 3)) ?_
            refine q_iload C (by decide +kernel : decode cX11_may 149 = .ok (.iload 7, 2)) ?_
            refine q_iald C (by decide +kernel : decode cX11_may 151 = .ok (.iaload, 1)) ?_
            refine q_iload C (by decide +kernel : decode cX11_may 152 = .ok (.iload 4, 2)) ?_
            refine q_icgt C (tgt := 183) (by decide +kernel : decode cX11_may 154 = .ok (.if_icmp .gt 29, 3)) (by decide) ?_ ?_
            · exact v_X11_may_183 C hK
            · refine q_iload C (by decide +kernel : decode cX11_may 157 = .ok (.iload 4, 2)) ?_
              refine q_aload_n C (by decide +kernel : decode cX11_may 159 = .ok (.aload_n 0, 1)) ?_
              refine q_get C (ci := 11) (j := 26) (C0 := RX11) (T := TX11) (N := 35) rfl iX11 giX11 (by decide) w9_95 (by decide +kernel : decode cX11_may 160 = .ok (.getfield 71, 3)) ?_
              refine q_iload C (by decide +kernel : decode cX11_may 163 = .ok (.iload 7, 2)) ?_
              refine q_iald C (by decide +kernel : decode cX11_may 165 = .ok (.iaload, 1)) ?_
              refine q_aload_n C (by decide +kernel : decode cX11_may 166 = .ok (.aload_n 0, 1)) ?_
              refine q_get C (ci := 11) (j := 27) (C0 := RX11) (T := TX11) (N := 35) rfl iX11 giX11 (by decide) w9_96 (by decide +kernel : decode cX11_may 167 = .ok (.getfield 74, 3)) ?_
              refine q_iload C (by decide +kernel : decode cX11_may 170 = .ok (.iload 7, 2)) ?_
              refine q_iald C (by decide +kernel : decode cX11_may 172 = .ok (.iaload, 1)) ?_
              refine q_call3 C (q_coS C (np := 3) (t_X11_in l) w9_5 w9_8 w9_7 w9_6 (by decide +kernel) (by decide +kernel : decode cX11_may 173 = .ok (.invokestatic 92, 3)) (by decide)) ?_
              refine q_ifeq C (tgt := 183) (by decide +kernel : decode cX11_may 176 = .ok (.ifCond .eq 7, 3)) (by decide) ?_ ?_
              · exact v_X11_may_183 C hK
              · exact v_X11_may_179 C hK
theorem u_X11_may (l : Launch) {sp : q_Sp} (H : ∀ (av : List Value) (σ : q_S) (post : Option Value → q_S → Prop), sp av σ post → ∃ Inv : Nat → Nat → q_K, (∀ K : Nat → q_K, (∀ (h n : Nat) (L : List (Option Value)) (st : List Value) (σ : q_S) (cr sr : Nat), Inv h n L st σ cr sr → K h L st σ cr sr) → k_X11_may_0 post K (q_L0 av 8) [] σ 0 0) ∧ (∀ (K : Nat → q_K) (n : Nat), (∀ (h m : Nat) (L : List (Option Value)) (st : List Value) (σ : q_S) (cr sr : Nat), m < n → Inv h m L st σ cr sr → K h L st σ cr sr) → ∀ (L : List (Option Value)) (st : List Value) (σ : q_S) (cr sr : Nat), Inv 98 n L st σ cr sr → k_X11_may_98 post K L st σ cr sr) ∧ av.length ≤ 8 ∧ ∀ v ∈ av, v.category = 1) : q_Ct l yX11_may cX11_may 8 (some .int) rm_X11_may sp := by
  refine q_met (by decide) ?_
  intro D A p e s m args below meth c σ av post C hsp
  obtain ⟨Inv, h1, hh98, h2, h3⟩ := H av σ post hsp
  have hV := q_loops (p := p) (l := l) (e := e) (R := rm_X11_may) (s := s) (m := m) (args := args) (below := below) (meth := meth) (c := c) (D := D) (A := A) (nL := 8) (Q := MQ below (q_Qc D A post) args s rm_X11_may.cells rm_X11_may.slots A) [98] (fun h =>  k_X11_may_98 post) (fun K hK h hh => ?_) Inv (fun n h hh => ?_)
  · exact ⟨_, v_X11_may_0 C hV, h1 _ (fun h n L st σ cr sr hi => ⟨n, hi⟩), h2, h3⟩
  · have e9 : h = 98 := by simpa using hh
    subst e9
    exact v_X11_may_98 C hK
  · have e9 : h = 98 := by simpa using hh
    subst e9
    exact hh98 (fun h L st σ cr sr => ∃ m : Nat, m < n ∧ Inv h m L st σ cr sr) n (fun h m L st σ cr sr hm hi => ⟨m, hm, hi⟩)
theorem t_X11_may (l : Launch) : q_Ct l yX11_may cX11_may 8 (some .int) rm_X11_may s_X11_may := u_X11_may l (by
  intro av σ post h
  unfold s_X11_may at h
  split at h
  · next mr w u p t k =>
    obtain ⟨ad, z, g, ⟨gp, r, hm⟩, hI, hA, h1⟩ := h
    unfold I1 at hI
    have ez := nI_self hI.2.2.2.2.2.1.1
    unfold F_may at h1
    generalize hna : (z 22).toNatClampNeg = na at h1 ez
    have hna6 : na ≤ 40 := hna ▸ clamp_le 40 hI.2.2.2.2.2.1.1 hI.2.2.2.2.2.1.2
    refine ⟨fun _ n L st σ' cr sr => ∃ (i : Nat) (gp' : Int32), mayC z g w u p t k ∧ i ≤ na ∧ n = na - i ∧ mOKx σ' mr ad z g gp' r ∧ st = [] ∧ L = [some (.ref mr), some (.int w), some (.int u), some (.int p), some (.int t), some (.int k), some (.int (mayB z g w u p t k i)), some (.int (nI i))], ?_, ?_, by simp, by simp [Value.category]⟩
    · intro K hK
      have JB : ¬ mayC z g w u p t k → post (some (.int (-2))) σ := fun c => by
        rw [if_neg c] at h1
        exact h1 _ ⟨gp, r, hm⟩
      have J93 : mayC z g w u p t k → ∀ (b : Int32) (σ' : q_S) (gp' : Int32), mOKx σ' mr ad z g gp' r → b = (if mayB0 z g w p t k then 1 else 0) → k_X11_may_93 post K [some (.ref mr), some (.int w), some (.int u), some (.int p), some (.int t), some (.int k), none, none] [.int b] σ' 0 0 := fun c b σ' gp' hm' hb => by
        simp only [c_push, c_null, c_iload, c_aload, c_istore, c_astore, c_iinc, c_iadd, c_isub, c_imul, c_iand, c_ineg, c_dup, c_dup2, c_pop, c_ifnull, c_ifnonnull, c_get, c_put, c_iald, c_zald, c_iast, c_zast, c_aald, c_aast, c_alen, c_new, c_newa, c_newq, c_mna, c_oinit, c_max, c_copy, c_iret, c_zret, c_aret, c_vret, q_do, q_rc, c_ifeq, c_ifne, c_iflt, c_ifge, c_ifgt, c_ifle, c_iceq, c_icne, c_iclt, c_icge, c_icgt, c_icle, c_call0, c_call1, c_call2, c_call3, c_call4, c_call5, c_call6, c_call7, q_L0, List.map_cons, List.map_nil, List.replicate, List.cons_append, List.nil_append, List.append_nil, List.length_cons, List.length_nil, List.length_set, Nat.reduceSub, Nat.reduceAdd, Nat.reduceLT, Nat.reduceLeDiff, Nat.zero_add, Nat.add_zero, Nat.sub_zero, Nat.sub_self, List.getElem?_cons_zero, List.getElem?_cons_succ, List.set_cons_zero, List.set_cons_succ, Option.toList_some, Option.toList_none, List.sum_cons, List.sum_nil, true_and, and_true, true_or, or_true, Nat.le_refl, Nat.zero_le, Value.category, Fin.isValue, Fin.val_zero, Fin.val_one, Fin.val_two, Fin.reduceFinMk, q_10, q_01, not_false_eq_true, not_true_eq_false, forall_const, true_implies, false_implies, implies_true, q_ni, q_fi, q_nb0, q_nb1, q_fb0, q_fb1, q_nor, q_nar, q_for, q_far, q_non, q_nan, q_fon, q_fan, imp_false, false_and, and_false, and_self, false_or, or_false, va_rf, refKind, k_X11_may_93]
        exact hK _ na _ _ _ _ _ ⟨0, gp', c, Nat.zero_le _, rfl, hm', rfl, by rw [hb, mayB, licB]; simp; rfl⟩
      have J63 : mayC z g w u p t k → k_X11_may_63 post K [some (.ref mr), some (.int w), some (.int u), some (.int p), some (.int t), some (.int k), none, none] [] σ 0 0 := fun c => by
        have cw : 0 ≤ w ∧ w < 20 := ⟨c.1.1, by grind⟩
        simp only [c_push, c_null, c_iload, c_aload, c_istore, c_astore, c_iinc, c_iadd, c_isub, c_imul, c_iand, c_ineg, c_dup, c_dup2, c_pop, c_ifnull, c_ifnonnull, c_get, c_put, c_iald, c_zald, c_iast, c_zast, c_aald, c_aast, c_alen, c_new, c_newa, c_newq, c_mna, c_oinit, c_max, c_copy, c_iret, c_zret, c_aret, c_vret, q_do, q_rc, c_ifeq, c_ifne, c_iflt, c_ifge, c_ifgt, c_ifle, c_iceq, c_icne, c_iclt, c_icge, c_icgt, c_icle, c_call0, c_call1, c_call2, c_call3, c_call4, c_call5, c_call6, c_call7, q_L0, List.map_cons, List.map_nil, List.replicate, List.cons_append, List.nil_append, List.append_nil, List.length_cons, List.length_nil, List.length_set, Nat.reduceSub, Nat.reduceAdd, Nat.reduceLT, Nat.reduceLeDiff, Nat.zero_add, Nat.add_zero, Nat.sub_zero, Nat.sub_self, List.getElem?_cons_zero, List.getElem?_cons_succ, List.set_cons_zero, List.set_cons_succ, Option.toList_some, Option.toList_none, List.sum_cons, List.sum_nil, true_and, and_true, true_or, or_true, Nat.le_refl, Nat.zero_le, Value.category, Fin.isValue, Fin.val_zero, Fin.val_one, Fin.val_two, Fin.reduceFinMk, q_10, q_01, not_false_eq_true, not_true_eq_false, forall_const, true_implies, false_implies, implies_true, q_ni, q_fi, q_nb0, q_nb1, q_fb0, q_fb1, q_nor, q_nar, q_for, q_far, q_non, q_nan, q_fon, q_fan, imp_false, false_and, and_false, and_self, false_or, or_false, va_rf, refKind, k_X11_may_63, k_X11_may_88, hm.rd]
        refine ⟨ad, z, g, gp, r, hm, cw, hI.2.2.1, hA.at c.1.1 c.1.2 cw.2, fun σ' gp' hm' => ⟨fun c6 => ?_, fun c6 => ?_⟩⟩
        · simp only [c_push, c_null, c_iload, c_aload, c_istore, c_astore, c_iinc, c_iadd, c_isub, c_imul, c_iand, c_ineg, c_dup, c_dup2, c_pop, c_ifnull, c_ifnonnull, c_get, c_put, c_iald, c_zald, c_iast, c_zast, c_aald, c_aast, c_alen, c_new, c_newa, c_newq, c_mna, c_oinit, c_max, c_copy, c_iret, c_zret, c_aret, c_vret, q_do, q_rc, c_ifeq, c_ifne, c_iflt, c_ifge, c_ifgt, c_ifle, c_iceq, c_icne, c_iclt, c_icge, c_icgt, c_icle, c_call0, c_call1, c_call2, c_call3, c_call4, c_call5, c_call6, c_call7, q_L0, List.map_cons, List.map_nil, List.replicate, List.cons_append, List.nil_append, List.append_nil, List.length_cons, List.length_nil, List.length_set, Nat.reduceSub, Nat.reduceAdd, Nat.reduceLT, Nat.reduceLeDiff, Nat.zero_add, Nat.add_zero, Nat.sub_zero, Nat.sub_self, List.getElem?_cons_zero, List.getElem?_cons_succ, List.set_cons_zero, List.set_cons_succ, Option.toList_some, Option.toList_none, List.sum_cons, List.sum_nil, true_and, and_true, true_or, or_true, Nat.le_refl, Nat.zero_le, Value.category, Fin.isValue, Fin.val_zero, Fin.val_one, Fin.val_two, Fin.reduceFinMk, q_10, q_01, not_false_eq_true, not_true_eq_false, forall_const, true_implies, false_implies, implies_true, q_ni, q_fi, q_nb0, q_nb1, q_fb0, q_fb1, q_nor, q_nar, q_for, q_far, q_non, q_nan, q_fon, q_fan, imp_false, false_and, and_false, and_self, false_or, or_false, va_rf, refKind, hm'.rd]
          refine ⟨ad, z, g, gp', r, hm', cw, hI.2.2.2.2.1, ?_⟩
          simp only [c_push, c_null, c_iload, c_aload, c_istore, c_astore, c_iinc, c_iadd, c_isub, c_imul, c_iand, c_ineg, c_dup, c_dup2, c_pop, c_ifnull, c_ifnonnull, c_get, c_put, c_iald, c_zald, c_iast, c_zast, c_aald, c_aast, c_alen, c_new, c_newa, c_newq, c_mna, c_oinit, c_max, c_copy, c_iret, c_zret, c_aret, c_vret, q_do, q_rc, c_ifeq, c_ifne, c_iflt, c_ifge, c_ifgt, c_ifle, c_iceq, c_icne, c_iclt, c_icge, c_icgt, c_icle, c_call0, c_call1, c_call2, c_call3, c_call4, c_call5, c_call6, c_call7, q_L0, List.map_cons, List.map_nil, List.replicate, List.cons_append, List.nil_append, List.append_nil, List.length_cons, List.length_nil, List.length_set, Nat.reduceSub, Nat.reduceAdd, Nat.reduceLT, Nat.reduceLeDiff, Nat.zero_add, Nat.add_zero, Nat.sub_zero, Nat.sub_self, List.getElem?_cons_zero, List.getElem?_cons_succ, List.set_cons_zero, List.set_cons_succ, Option.toList_some, Option.toList_none, List.sum_cons, List.sum_nil, true_and, and_true, true_or, or_true, Nat.le_refl, Nat.zero_le, Value.category, Fin.isValue, Fin.val_zero, Fin.val_one, Fin.val_two, Fin.reduceFinMk, q_10, q_01, not_false_eq_true, not_true_eq_false, forall_const, true_implies, false_implies, implies_true, q_ni, q_fi, q_nb0, q_nb1, q_fb0, q_fb1, q_nor, q_nar, q_for, q_far, q_non, q_nan, q_fon, q_fan, imp_false, false_and, and_false, and_self, false_or, or_false, va_rf, refKind]
          refine ⟨fun c7 => J93 c 0 _ _ hm' ?_, fun c7 => J93 c 1 _ _ hm' ?_⟩
          · rw [if_neg]; unfold mayB0 mvF; grind
          · rw [if_pos]; unfold mayB0 mvF; grind
        · simp only [c_push, c_null, c_iload, c_aload, c_istore, c_astore, c_iinc, c_iadd, c_isub, c_imul, c_iand, c_ineg, c_dup, c_dup2, c_pop, c_ifnull, c_ifnonnull, c_get, c_put, c_iald, c_zald, c_iast, c_zast, c_aald, c_aast, c_alen, c_new, c_newa, c_newq, c_mna, c_oinit, c_max, c_copy, c_iret, c_zret, c_aret, c_vret, q_do, q_rc, c_ifeq, c_ifne, c_iflt, c_ifge, c_ifgt, c_ifle, c_iceq, c_icne, c_iclt, c_icge, c_icgt, c_icle, c_call0, c_call1, c_call2, c_call3, c_call4, c_call5, c_call6, c_call7, q_L0, List.map_cons, List.map_nil, List.replicate, List.cons_append, List.nil_append, List.append_nil, List.length_cons, List.length_nil, List.length_set, Nat.reduceSub, Nat.reduceAdd, Nat.reduceLT, Nat.reduceLeDiff, Nat.zero_add, Nat.add_zero, Nat.sub_zero, Nat.sub_self, List.getElem?_cons_zero, List.getElem?_cons_succ, List.set_cons_zero, List.set_cons_succ, Option.toList_some, Option.toList_none, List.sum_cons, List.sum_nil, true_and, and_true, true_or, or_true, Nat.le_refl, Nat.zero_le, Value.category, Fin.isValue, Fin.val_zero, Fin.val_one, Fin.val_two, Fin.reduceFinMk, q_10, q_01, not_false_eq_true, not_true_eq_false, forall_const, true_implies, false_implies, implies_true, q_ni, q_fi, q_nb0, q_nb1, q_fb0, q_fb1, q_nor, q_nar, q_for, q_far, q_non, q_nan, q_fon, q_fan, imp_false, false_and, and_false, and_self, false_or, or_false, va_rf, refKind]
          exact J93 c 1 _ _ hm' (by rw [if_pos (Or.inl c6)])
      clear h1
      simp only [c_push, c_null, c_iload, c_aload, c_istore, c_astore, c_iinc, c_iadd, c_isub, c_imul, c_iand, c_ineg, c_dup, c_dup2, c_pop, c_ifnull, c_ifnonnull, c_get, c_put, c_iald, c_zald, c_iast, c_zast, c_aald, c_aast, c_alen, c_new, c_newa, c_newq, c_mna, c_oinit, c_max, c_copy, c_iret, c_zret, c_aret, c_vret, q_do, q_rc, c_ifeq, c_ifne, c_iflt, c_ifge, c_ifgt, c_ifle, c_iceq, c_icne, c_iclt, c_icge, c_icgt, c_icle, c_call0, c_call1, c_call2, c_call3, c_call4, c_call5, c_call6, c_call7, q_L0, List.map_cons, List.map_nil, List.replicate, List.cons_append, List.nil_append, List.append_nil, List.length_cons, List.length_nil, List.length_set, Nat.reduceSub, Nat.reduceAdd, Nat.reduceLT, Nat.reduceLeDiff, Nat.zero_add, Nat.add_zero, Nat.sub_zero, Nat.sub_self, List.getElem?_cons_zero, List.getElem?_cons_succ, List.set_cons_zero, List.set_cons_succ, Option.toList_some, Option.toList_none, List.sum_cons, List.sum_nil, true_and, and_true, true_or, or_true, Nat.le_refl, Nat.zero_le, Value.category, Fin.isValue, Fin.val_zero, Fin.val_one, Fin.val_two, Fin.reduceFinMk, q_10, q_01, not_false_eq_true, not_true_eq_false, forall_const, true_implies, false_implies, implies_true, q_ni, q_fi, q_nb0, q_nb1, q_fb0, q_fb1, q_nor, q_nar, q_for, q_far, q_non, q_nan, q_fon, q_fan, imp_false, false_and, and_false, and_self, false_or, or_false, va_rf, refKind, k_X11_may_0, k_X11_may_60, hm.rd, s_X11_isWork, s_X11_isPerson, s_X11_in, s_X10_isWithin, vpi20]
      refine ⟨hI.2.2.2.1, fun c1 => ⟨fun c2 => ⟨hI.2.1, fun c3 => ⟨⟨c1.1, by grind⟩, fun c4 => ⟨⟨c1.1, by grind⟩, fun c5 => ?_, fun c => JB (by grind)⟩, fun c => JB (by grind)⟩, fun c => JB (by grind)⟩, fun c => JB (by grind)⟩, fun c => JB (by grind)⟩
      exact J63 ⟨c1, c2, c3, c4, c5⟩
    · rintro K n hK L st σ' cr sr ⟨i, gp', hc, hi, rfl, hm', rfl, rfl⟩
      rw [if_pos hc] at h1
      have hb01 := mayB01 z g w u p t k i
      have J184 : i < na → ∀ b : Int32, b = mayB z g w u p t k (i + 1) → k_X11_may_184 post K [some (.ref mr), some (.int w), some (.int u), some (.int p), some (.int t), some (.int k), some (.int (mayB z g w u p t k i)), some (.int (nI i))] [.int b] σ' cr sr := fun hlt b hb => by
        simp only [c_push, c_null, c_iload, c_aload, c_istore, c_astore, c_iinc, c_iadd, c_isub, c_imul, c_iand, c_ineg, c_dup, c_dup2, c_pop, c_ifnull, c_ifnonnull, c_get, c_put, c_iald, c_zald, c_iast, c_zast, c_aald, c_aast, c_alen, c_new, c_newa, c_newq, c_mna, c_oinit, c_max, c_copy, c_iret, c_zret, c_aret, c_vret, q_do, q_rc, c_ifeq, c_ifne, c_iflt, c_ifge, c_ifgt, c_ifle, c_iceq, c_icne, c_iclt, c_icge, c_icgt, c_icle, c_call0, c_call1, c_call2, c_call3, c_call4, c_call5, c_call6, c_call7, q_L0, List.map_cons, List.map_nil, List.replicate, List.cons_append, List.nil_append, List.append_nil, List.length_cons, List.length_nil, List.length_set, Nat.reduceSub, Nat.reduceAdd, Nat.reduceLT, Nat.reduceLeDiff, Nat.zero_add, Nat.add_zero, Nat.sub_zero, Nat.sub_self, List.getElem?_cons_zero, List.getElem?_cons_succ, List.set_cons_zero, List.set_cons_succ, Option.toList_some, Option.toList_none, List.sum_cons, List.sum_nil, true_and, and_true, true_or, or_true, Nat.le_refl, Nat.zero_le, Value.category, Fin.isValue, Fin.val_zero, Fin.val_one, Fin.val_two, Fin.reduceFinMk, q_10, q_01, not_false_eq_true, not_true_eq_false, forall_const, true_implies, false_implies, implies_true, q_ni, q_fi, q_nb0, q_nb1, q_fb0, q_fb1, q_nor, q_nar, q_for, q_far, q_non, q_nan, q_fon, q_fan, imp_false, false_and, and_false, and_self, false_or, or_false, va_rf, refKind, k_X11_may_184]
        exact hK _ (na - (i + 1)) _ _ _ _ _ (by omega) ⟨i + 1, gp', hc, by omega, rfl, hm', rfl, by rw [nI_1, hb]⟩
      rw [mayB_s] at J184
      simp only [c_push, c_null, c_iload, c_aload, c_istore, c_astore, c_iinc, c_iadd, c_isub, c_imul, c_iand, c_ineg, c_dup, c_dup2, c_pop, c_ifnull, c_ifnonnull, c_get, c_put, c_iald, c_zald, c_iast, c_zast, c_aald, c_aast, c_alen, c_new, c_newa, c_newq, c_mna, c_oinit, c_max, c_copy, c_iret, c_zret, c_aret, c_vret, q_do, q_rc, c_ifeq, c_ifne, c_iflt, c_ifge, c_ifgt, c_ifle, c_iceq, c_icne, c_iclt, c_icge, c_icgt, c_icle, c_call0, c_call1, c_call2, c_call3, c_call4, c_call5, c_call6, c_call7, q_L0, List.map_cons, List.map_nil, List.replicate, List.cons_append, List.nil_append, List.append_nil, List.length_cons, List.length_nil, List.length_set, Nat.reduceSub, Nat.reduceAdd, Nat.reduceLT, Nat.reduceLeDiff, Nat.zero_add, Nat.add_zero, Nat.sub_zero, Nat.sub_self, List.getElem?_cons_zero, List.getElem?_cons_succ, List.set_cons_zero, List.set_cons_succ, Option.toList_some, Option.toList_none, List.sum_cons, List.sum_nil, true_and, and_true, true_or, or_true, Nat.le_refl, Nat.zero_le, Value.category, Fin.isValue, Fin.val_zero, Fin.val_one, Fin.val_two, Fin.reduceFinMk, q_10, q_01, not_false_eq_true, not_true_eq_false, forall_const, true_implies, false_implies, implies_true, q_ni, q_fi, q_nb0, q_nb1, q_fb0, q_fb1, q_nor, q_nar, q_for, q_far, q_non, q_nan, q_fon, q_fan, imp_false, false_and, and_false, and_self, false_or, or_false, va_rf, refKind, k_X11_may_98, k_X11_may_179, k_X11_may_183, k_X11_may_202, hm'.rd, vpi40, s_X11_in, s_X10_isWithin]
      rw [← ez]
      have E := cl2 (nI na) (nI i) na i rfl rfl (by omega) (by omega)
      rw [E.1, clN (by omega)]
      refine ⟨fun c => ?_, fun c => ?_⟩
      · have e : i = na := by omega
        subst e
        have h2 := h1 _ ⟨gp', r, hm'⟩
        clear hK h1 hm hm' J184
        grind
      · replace J184 := J184 (by omega)
        have hlo : 0 ≤ nI i := nI_low (by omega)
        have hhi : nI i < 40 := nI_ltN (N := 40) (by omega)
        clear hK h1 hm hm' E
        grind (splits := 40)
  · exact h.elim)
end
section
-- lines: the longest row in both
def likB (g : Nat → Nat → Int32) (a b i j : Nat) : Bool := decide (g 30 (20 * a + i) = g 30 (20 * b + j) ∧ g 32 (g 30 (20 * a + i)).toNatClampNeg = 0)
def RN (lk : Nat → Nat → Bool) (la lb i j : Nat) : Nat :=
  if h : i < la ∧ j < lb then (if lk i j then max (max (RN lk la lb (i + 1) j) (RN lk la lb i (j + 1))) (1 + RN lk la lb (i + 1) (j + 1)) else max (RN lk la lb (i + 1) j) (RN lk la lb i (j + 1))) else 0
termination_by (la - i) + (lb - j)
decreasing_by all_goals omega
theorem RN_out {lk : Nat → Nat → Bool} {la lb i j : Nat} (h : ¬ (i < la ∧ j < lb)) : RN lk la lb i j = 0 := by rw [RN, dif_neg h]
theorem RN_in {lk : Nat → Nat → Bool} {la lb i j : Nat} (h : i < la ∧ j < lb) : RN lk la lb i j = if lk i j then max (max (RN lk la lb (i + 1) j) (RN lk la lb i (j + 1))) (1 + RN lk la lb (i + 1) (j + 1)) else max (RN lk la lb (i + 1) j) (RN lk la lb i (j + 1)) := by rw [RN, dif_pos h]
theorem RN_le (lk : Nat → Nat → Bool) (la lb : Nat) : ∀ (m i j : Nat), (la - i) + (lb - j) ≤ m → RN lk la lb i j ≤ la - i := by
  intro m
  induction m with
  | zero =>
    intro i j h
    rw [RN_out (by omega)]; omega
  | succ m ih =>
    intro i j h
    by_cases c : i < la ∧ j < lb
    · rw [RN_in c]
      have h1 := ih (i + 1) j (by omega)
      have h2 := ih i (j + 1) (by omega)
      have h3 := ih (i + 1) (j + 1) (by omega)
      split <;> omega
    · rw [RN_out c]; omega
theorem mxN {a b : Nat} (ha : a < 2147483648) (hb : b < 2147483648) : (if nI b < nI a then nI a else nI b) = nI (max a b) := by
  have E := cl2 (nI b) (nI a) b a rfl rfl hb ha
  by_cases c : b < a
  · rw [if_pos (E.2.1.mpr c), Nat.max_eq_left (by omega)]
  · rw [if_neg (fun h => c (E.2.1.mp h)), Nat.max_eq_right (by omega)]
abbrev lmN (g : Nat → Nat → Int32) (w : Nat) : Nat := (g 29 w).toNatClampNeg
abbrev RNg (g : Nat → Nat → Int32) (a b i j : Nat) : Nat := RN (likB g a b) (lmN g a) (lmN g b) i j
def LV (z : Nat → Int32) (g : Nat → Nat → Int32) : Prop := ∀ w i : Nat, nI w < z 11 → w < 20 → i < lmN g w → 1 ≤ g 30 (20 * w + i) ∧ g 30 (20 * w + i) ≤ 999
def s_X11_areLike : q_Sp := fun av σ post => match av with
  | [.ref mr, .int a, .int i, .int b, .int j] => ∃ ad z g gp r, mOKx σ mr ad z g gp r ∧ (0 ≤ a ∧ a < 20) ∧ (0 ≤ b ∧ b < 20) ∧ (0 ≤ i ∧ i < 20) ∧ (0 ≤ j ∧ j < 20) ∧ (0 ≤ g 30 (20 * a.toNatClampNeg + i.toNatClampNeg) ∧ g 30 (20 * a.toNatClampNeg + i.toNatClampNeg) ≤ 999) ∧ (likB g a.toNatClampNeg b.toNatClampNeg i.toNatClampNeg j.toNatClampNeg = true → post (some (.int 1)) σ) ∧ (likB g a.toNatClampNeg b.toNatClampNeg i.toNatClampNeg j.toNatClampNeg = false → post (some (.int 0)) σ)
  | _ => False
theorem at30 {a i : Int32} (ha : 0 ≤ a ∧ a < 20) (hi : 0 ≤ i ∧ i < 20) : (0 ≤ 20 * a + i ∧ 20 * a + i < 400) ∧ (20 * a + i).toNatClampNeg = 20 * a.toNatClampNeg + i.toNatClampNeg := by
  obtain ⟨an, han, rfl, e1⟩ := inR 20 ha.1 ha.2
  obtain ⟨jn, hin, rfl, e2⟩ := inR 20 hi.1 hi.2
  rw [idx30, e1, e2]
  exact ⟨⟨nI_low (by omega), nI_ltN (N := 400) (by omega)⟩, clN (by omega)⟩
def rm_X11_areLike : Room := { frames := 0, cells := 0, slots := 0, locals := 0 }
def k_X11_areLike_45 (post : Option Value → q_S → Prop) (K : Nat → q_K) : q_K := (c_zret post)
def k_X11_areLike_44 (post : Option Value → q_S → Prop) (K : Nat → q_K) : q_K := (c_push 0 (k_X11_areLike_45 post K))
def k_X11_areLike_0 (post : Option Value → q_S → Prop) (K : Nat → q_K) : q_K := (c_aload 0 (c_get 11 30 (c_push 20 (c_iload 1 (c_imul (c_iload 2 (c_iadd (c_iald (c_istore 5 (c_iload 5 (c_aload 0 (c_get 11 30 (c_push 20 (c_iload 3 (c_imul (c_iload 4 (c_iadd (c_iald (c_icne (k_X11_areLike_44 post K) (c_aload 0 (c_get 11 32 (c_iload 5 (c_zald (c_ifne (k_X11_areLike_44 post K) (c_push 1 (k_X11_areLike_45 post K))))))))))))))))))))))))))
set_option maxRecDepth 100000 in
theorem v_X11_areLike_45 {p : Program} {l : Launch} {e : Env} {s : State} {m : MethodId} {args : Array Value} {below : List Frame} {meth : Method} {c : Code} {D : va_G} {A : Nat → Prop} {post : Option Value → q_S → Prop} {K : Nat → q_K} (C : q_C p s m args meth c cX11_areLike 6 RX11 "areLike" (some .boolean) A) (hK : ∀ h ∈ ([] : List Nat), q_V p l e rm_X11_areLike s m args below meth c D A 6 (MQ below (q_Qc D A post) args s rm_X11_areLike.cells rm_X11_areLike.slots A) h (K h)) : q_V p l e rm_X11_areLike s m args below meth c D A 6 (MQ below (q_Qc D A post) args s rm_X11_areLike.cells rm_X11_areLike.slots A) 45 (k_X11_areLike_45 post K) := by
  unfold k_X11_areLike_45
  exact q_zret C rfl (by decide +kernel : decode cX11_areLike 45 = .ok (.ireturn, 1))
set_option maxRecDepth 100000 in
theorem v_X11_areLike_44 {p : Program} {l : Launch} {e : Env} {s : State} {m : MethodId} {args : Array Value} {below : List Frame} {meth : Method} {c : Code} {D : va_G} {A : Nat → Prop} {post : Option Value → q_S → Prop} {K : Nat → q_K} (C : q_C p s m args meth c cX11_areLike 6 RX11 "areLike" (some .boolean) A) (hK : ∀ h ∈ ([] : List Nat), q_V p l e rm_X11_areLike s m args below meth c D A 6 (MQ below (q_Qc D A post) args s rm_X11_areLike.cells rm_X11_areLike.slots A) h (K h)) : q_V p l e rm_X11_areLike s m args below meth c D A 6 (MQ below (q_Qc D A post) args s rm_X11_areLike.cells rm_X11_areLike.slots A) 44 (k_X11_areLike_44 post K) := by
  unfold k_X11_areLike_44
  refine q_iconst C (by decide +kernel : decode cX11_areLike 44 = .ok (.iconst 0, 1)) (by decide) ?_
  exact v_X11_areLike_45 C hK
set_option maxRecDepth 100000 in
theorem v_X11_areLike_0 {p : Program} {l : Launch} {e : Env} {s : State} {m : MethodId} {args : Array Value} {below : List Frame} {meth : Method} {c : Code} {D : va_G} {A : Nat → Prop} {post : Option Value → q_S → Prop} {K : Nat → q_K} (C : q_C p s m args meth c cX11_areLike 6 RX11 "areLike" (some .boolean) A) (hK : ∀ h ∈ ([] : List Nat), q_V p l e rm_X11_areLike s m args below meth c D A 6 (MQ below (q_Qc D A post) args s rm_X11_areLike.cells rm_X11_areLike.slots A) h (K h)) : q_V p l e rm_X11_areLike s m args below meth c D A 6 (MQ below (q_Qc D A post) args s rm_X11_areLike.cells rm_X11_areLike.slots A) 0 (k_X11_areLike_0 post K) := by
  unfold k_X11_areLike_0
  refine q_aload_n C (by decide +kernel : decode cX11_areLike 0 = .ok (.aload_n 0, 1)) ?_
  refine q_get C (ci := 11) (j := 30) (C0 := RX11) (T := TX11) (N := 35) rfl iX11 giX11 (by decide) w9_84 (by decide +kernel : decode cX11_areLike 1 = .ok (.getfield 83, 3)) ?_
  refine q_bipush C (by decide +kernel : decode cX11_areLike 4 = .ok (.bipush 20, 2)) (by decide) ?_
  refine q_iload_n C (by decide +kernel : decode cX11_areLike 6 = .ok (.iload_n 1, 1)) ?_
  refine q_imul C (by decide +kernel : decode cX11_areLike 7 = .ok (.imul, 1)) ?_
  refine q_iload_n C (by decide +kernel : decode cX11_areLike 8 = .ok (.iload_n 2, 1)) ?_
  refine q_iadd C (by decide +kernel : decode cX11_areLike 9 = .ok (.iadd, 1)) ?_
  refine q_iald C (by decide +kernel : decode cX11_areLike 10 = .ok (.iaload, 1)) ?_
  refine q_istore C (by decide +kernel : decode cX11_areLike 11 = .ok (.istore 5, 2)) ?_
  refine q_iload C (by decide +kernel : decode cX11_areLike 13 = .ok (.iload 5, 2)) ?_
  refine q_aload_n C (by decide +kernel : decode cX11_areLike 15 = .ok (.aload_n 0, 1)) ?_
  refine q_get C (ci := 11) (j := 30) (C0 := RX11) (T := TX11) (N := 35) rfl iX11 giX11 (by decide) w9_84 (by decide +kernel : decode cX11_areLike 16 = .ok (.getfield 83, 3)) ?_
  refine q_bipush C (by decide +kernel : decode cX11_areLike 19 = .ok (.bipush 20, 2)) (by decide) ?_
  refine q_iload_n C (by decide +kernel : decode cX11_areLike 21 = .ok (.iload_n 3, 1)) ?_
  refine q_imul C (by decide +kernel : decode cX11_areLike 22 = .ok (.imul, 1)) ?_
  refine q_iload C (by decide +kernel : decode cX11_areLike 23 = .ok (.iload 4, 2)) ?_
  refine q_iadd C (by decide +kernel : decode cX11_areLike 25 = .ok (.iadd, 1)) ?_
  refine q_iald C (by decide +kernel : decode cX11_areLike 26 = .ok (.iaload, 1)) ?_
  refine q_icne C (tgt := 44) (by decide +kernel : decode cX11_areLike 27 = .ok (.if_icmp .ne 17, 3)) (by decide) ?_ ?_
  · exact v_X11_areLike_44 C hK
  · refine q_aload_n C (by decide +kernel : decode cX11_areLike 30 = .ok (.aload_n 0, 1)) ?_
    refine q_get C (ci := 11) (j := 32) (C0 := RX11) (T := TX11) (N := 35) rfl iX11 giX11 (by decide) w9_85 (by decide +kernel : decode cX11_areLike 31 = .ok (.getfield 86, 3)) ?_
    refine q_iload C (by decide +kernel : decode cX11_areLike 34 = .ok (.iload 5, 2)) ?_
    refine q_zald C (by decide +kernel : decode cX11_areLike 36 = .ok (.baload, 1)) ?_
    refine q_ifne C (tgt := 44) (by decide +kernel : decode cX11_areLike 37 = .ok (.ifCond .ne 7, 3)) (by decide) ?_ ?_
    · exact v_X11_areLike_44 C hK
    · refine q_iconst C (by decide +kernel : decode cX11_areLike 40 = .ok (.iconst 1, 1)) (by decide) ?_
      refine q_goto C (tgt := 45) (by decide +kernel : decode cX11_areLike 41 = .ok (.goto 4, 3)) (by decide) ?_
      exact v_X11_areLike_45 C hK
theorem u_X11_areLike (l : Launch) {sp : q_Sp} (H : ∀ (av : List Value) (σ : q_S) (post : Option Value → q_S → Prop), sp av σ post → k_X11_areLike_0 post (fun _ _ _ _ _ _ => False) (q_L0 av 6) [] σ 0 0 ∧ av.length ≤ 6 ∧ ∀ v ∈ av, v.category = 1) : q_Ct l yX11_areLike cX11_areLike 6 (some .boolean) rm_X11_areLike sp := by
  refine q_met (by decide) ?_
  intro D A p e s m args below meth c σ av post C hsp
  obtain ⟨h1, h2, h3⟩ := H av σ post hsp
  exact ⟨_, v_X11_areLike_0 (K := fun _ _ _ _ _ _ => False) C (fun h hh => by cases hh), h1, h2, h3⟩
theorem t_X11_areLike (l : Launch) : q_Ct l yX11_areLike cX11_areLike 6 (some .boolean) rm_X11_areLike s_X11_areLike := u_X11_areLike l (by
  intro av σ post h
  unfold s_X11_areLike at h
  split at h
  · next mr a i b j =>
    refine ⟨?_, by simp, by simp [Value.category]⟩
    obtain ⟨ad, z, g, gp, r, hm, ha, hb, hi, hj, hx, h1, h2⟩ := h
    have e1 := at30 ha hi
    have e2 := at30 hb hj
    simp only [c_push, c_null, c_iload, c_aload, c_istore, c_astore, c_iinc, c_iadd, c_isub, c_imul, c_iand, c_ineg, c_dup, c_dup2, c_pop, c_ifnull, c_ifnonnull, c_get, c_put, c_iald, c_zald, c_iast, c_zast, c_aald, c_aast, c_alen, c_new, c_newa, c_newq, c_mna, c_oinit, c_max, c_copy, c_iret, c_zret, c_aret, c_vret, q_do, q_rc, c_ifeq, c_ifne, c_iflt, c_ifge, c_ifgt, c_ifle, c_iceq, c_icne, c_iclt, c_icge, c_icgt, c_icle, c_call0, c_call1, c_call2, c_call3, c_call4, c_call5, c_call6, c_call7, q_L0, List.map_cons, List.map_nil, List.replicate, List.cons_append, List.nil_append, List.append_nil, List.length_cons, List.length_nil, List.length_set, Nat.reduceSub, Nat.reduceAdd, Nat.reduceLT, Nat.reduceLeDiff, Nat.zero_add, Nat.add_zero, Nat.sub_zero, Nat.sub_self, List.getElem?_cons_zero, List.getElem?_cons_succ, List.set_cons_zero, List.set_cons_succ, Option.toList_some, Option.toList_none, List.sum_cons, List.sum_nil, true_and, and_true, true_or, or_true, Nat.le_refl, Nat.zero_le, Value.category, Fin.isValue, Fin.val_zero, Fin.val_one, Fin.val_two, Fin.reduceFinMk, q_10, q_01, not_false_eq_true, not_true_eq_false, forall_const, true_implies, false_implies, implies_true, q_ni, q_fi, q_nb0, q_nb1, q_fb0, q_fb1, q_nor, q_nar, q_for, q_far, q_non, q_nan, q_fon, q_fan, imp_false, false_and, and_false, and_self, false_or, or_false, va_rf, refKind, k_X11_areLike_0, k_X11_areLike_44, k_X11_areLike_45, hm.rd, vpi400, vpi1000, e1, e2]
    unfold likB at h1 h2
    simp only [decide_eq_true_eq, decide_eq_false_iff_not] at h1 h2
    clear hm
    grind
  · exact h.elim)
-- layRest
def tabOK (r : Nat → Int32) (g : Nat → Nat → Int32) (a b : Nat) (P : Nat → Nat → Prop) : Prop := ∀ i j : Nat, i ≤ lmN g a → j ≤ lmN g b → P i j → r (21 * i + j) = nI (RNg g a b i j)
theorem idx34 (i j : Nat) : (21 : Int32) * nI i + nI j = nI (21 * i + j) := by
  rw [show (21 : Int32) = nI 21 from rfl, pk_mul, nI_add]
def s_X11_layRest : q_Sp := fun av σ post => match av with
  | [.ref mr, .int a, .int b] => ∃ ad z g gp r, mOKx σ mr ad z g gp r ∧ I1 z ∧ isW z a ∧ isW z b ∧ LM z g ∧ LV z g ∧ ∀ σ' r', mOKx σ' mr ad z g gp r' → tabOK r' g a.toNatClampNeg b.toNatClampNeg (fun _ _ => True) → post none σ'
  | _ => False
theorem nI_mm (x : Int32) : x + -1 = x - 1 := (Int32.sub_eq_add_neg x 1).symm
theorem w9_98 : (.code yX11_areLike cX11_areLike 6 (some .boolean) : Cond) ∈ lw_tbl := by decide +kernel
theorem w9_99 : (.methodLink RX11 170 yX11_areLike : Cond) ∈ lw_tbl := by decide +kernel
theorem w9_100 : (.instanceMethod yX11_areLike : Cond) ∈ lw_tbl := by decide +kernel
theorem w9_101 : (.selects RX11 yX11_areLike yX11_areLike : Cond) ∈ lw_tbl := by decide +kernel
theorem w9_102 : (.fieldLink RX11 89 (TX11 34).1 (TX11 34).2.1 (TX11 34).2.2.1 : Cond) ∈ lw_tbl := by decide +kernel
def rm_X11_layRest : Room := { frames := 1, cells := 0, slots := 0, locals := 25 }
def k_X11_layRest_0 (post : Option Value → q_S → Prop) (K : Nat → q_K) : q_K := (c_aload 0 (c_get 11 29 (c_iload 1 (c_iald (c_istore 3 (K 7))))))
def k_X11_layRest_123 (post : Option Value → q_S → Prop) (K : Nat → q_K) : q_K := (c_aload 0 (c_get 11 34 (c_push 21 (c_iload 3 (c_imul (c_iload 4 (c_iadd (c_iload 5 (c_iast (c_iinc 4 (-1) (K 19)))))))))))
def k_X11_layRest_121 (post : Option Value → q_S → Prop) (K : Nat → q_K) : q_K := (c_istore 5 (k_X11_layRest_123 post K))
def k_X11_layRest_81 (post : Option Value → q_S → Prop) (K : Nat → q_K) : q_K := (c_aload 0 (c_iload 1 (c_iload 3 (c_iload 2 (c_iload 4 (c_call5 (some 11) s_X11_areLike 0 0 (c_ifeq (c_iload 5 (k_X11_layRest_121 post K)) (c_iload 5 (c_push 1 (c_aload 0 (c_get 11 34 (c_push 21 (c_iload 3 (c_push 1 (c_iadd (c_imul (c_iload 4 (c_iadd (c_push 1 (c_iadd (c_iald (c_iadd (c_call2 none s_X11_greater 0 0 (k_X11_layRest_121 post K))))))))))))))))))))))))
def k_X11_layRest_7 (post : Option Value → q_S → Prop) (K : Nat → q_K) : q_K := (c_iload 3 (c_iflt (c_vret post) (c_aload 0 (c_get 11 29 (c_iload 2 (c_iald (c_istore 4 (K 19))))))))
def k_X11_layRest_19 (post : Option Value → q_S → Prop) (K : Nat → q_K) : q_K := (c_iload 4 (c_iflt (c_iinc 3 (-1) (K 7)) (c_push 0 (c_istore 5 (c_iload 3 (c_aload 0 (c_get 11 29 (c_iload 1 (c_iald (c_icge (k_X11_layRest_123 post K) (c_iload 4 (c_aload 0 (c_get 11 29 (c_iload 2 (c_iald (c_icge (k_X11_layRest_123 post K) (c_aload 0 (c_get 11 34 (c_push 21 (c_iload 3 (c_push 1 (c_iadd (c_imul (c_iload 4 (c_iadd (c_iald (c_aload 0 (c_get 11 34 (c_push 21 (c_iload 3 (c_imul (c_iload 4 (c_iadd (c_push 1 (c_iadd (c_iald (c_call2 none s_X11_greater 0 0 (c_istore 5 (k_X11_layRest_81 post K)))))))))))))))))))))))))))))))))))))))
set_option maxRecDepth 100000 in
theorem v_X11_layRest_0 {p : Program} {l : Launch} {e : Env} {s : State} {m : MethodId} {args : Array Value} {below : List Frame} {meth : Method} {c : Code} {D : va_G} {A : Nat → Prop} {post : Option Value → q_S → Prop} {K : Nat → q_K} (C : q_C p s m args meth c cX11_layRest 6 RX11 "layRest" none A) (hK : ∀ h ∈ ([7, 19] : List Nat), q_V p l e rm_X11_layRest s m args below meth c D A 6 (MQ below (q_Qc D A post) args s rm_X11_layRest.cells rm_X11_layRest.slots A) h (K h)) : q_V p l e rm_X11_layRest s m args below meth c D A 6 (MQ below (q_Qc D A post) args s rm_X11_layRest.cells rm_X11_layRest.slots A) 0 (k_X11_layRest_0 post K) := by
  unfold k_X11_layRest_0
  refine q_aload_n C (by decide +kernel : decode cX11_layRest 0 = .ok (.aload_n 0, 1)) ?_
  refine q_get C (ci := 11) (j := 29) (C0 := RX11) (T := TX11) (N := 35) rfl iX11 giX11 (by decide) w9_30 (by decide +kernel : decode cX11_layRest 1 = .ok (.getfield 80, 3)) ?_
  refine q_iload_n C (by decide +kernel : decode cX11_layRest 4 = .ok (.iload_n 1, 1)) ?_
  refine q_iald C (by decide +kernel : decode cX11_layRest 5 = .ok (.iaload, 1)) ?_
  refine q_istore_n C (by decide +kernel : decode cX11_layRest 6 = .ok (.istore_n 3, 1)) ?_
  exact hK 7 (by decide)
set_option maxRecDepth 100000 in
theorem v_X11_layRest_123 {p : Program} {l : Launch} {e : Env} {s : State} {m : MethodId} {args : Array Value} {below : List Frame} {meth : Method} {c : Code} {D : va_G} {A : Nat → Prop} {post : Option Value → q_S → Prop} {K : Nat → q_K} (C : q_C p s m args meth c cX11_layRest 6 RX11 "layRest" none A) (hK : ∀ h ∈ ([7, 19] : List Nat), q_V p l e rm_X11_layRest s m args below meth c D A 6 (MQ below (q_Qc D A post) args s rm_X11_layRest.cells rm_X11_layRest.slots A) h (K h)) : q_V p l e rm_X11_layRest s m args below meth c D A 6 (MQ below (q_Qc D A post) args s rm_X11_layRest.cells rm_X11_layRest.slots A) 123 (k_X11_layRest_123 post K) := by
  unfold k_X11_layRest_123
  refine q_aload_n C (by decide +kernel : decode cX11_layRest 123 = .ok (.aload_n 0, 1)) ?_
  refine q_get C (ci := 11) (j := 34) (C0 := RX11) (T := TX11) (N := 35) rfl iX11 giX11 (by decide) w9_102 (by decide +kernel : decode cX11_layRest 124 = .ok (.getfield 89, 3)) ?_
  refine q_bipush C (by decide +kernel : decode cX11_layRest 127 = .ok (.bipush 21, 2)) (by decide) ?_
  refine q_iload_n C (by decide +kernel : decode cX11_layRest 129 = .ok (.iload_n 3, 1)) ?_
  refine q_imul C (by decide +kernel : decode cX11_layRest 130 = .ok (.imul, 1)) ?_
  refine q_iload C (by decide +kernel : decode cX11_layRest 131 = .ok (.iload 4, 2)) ?_
  refine q_iadd C (by decide +kernel : decode cX11_layRest 133 = .ok (.iadd, 1)) ?_
  refine q_iload C (by decide +kernel : decode cX11_layRest 134 = .ok (.iload 5, 2)) ?_
  refine q_iast C (by decide +kernel : decode cX11_layRest 136 = .ok (.iastore, 1)) ?_
  refine q_iinc C (by decide +kernel : decode cX11_layRest 137 = .ok (.iinc 4 (-1), 3)) (by decide) ?_
  refine q_goto C (tgt := 19) (by decide +kernel : decode cX11_layRest 140 = .ok (.goto (-121), 3)) (by decide) ?_
  exact hK 19 (by decide)
set_option maxRecDepth 100000 in
theorem v_X11_layRest_121 {p : Program} {l : Launch} {e : Env} {s : State} {m : MethodId} {args : Array Value} {below : List Frame} {meth : Method} {c : Code} {D : va_G} {A : Nat → Prop} {post : Option Value → q_S → Prop} {K : Nat → q_K} (C : q_C p s m args meth c cX11_layRest 6 RX11 "layRest" none A) (hK : ∀ h ∈ ([7, 19] : List Nat), q_V p l e rm_X11_layRest s m args below meth c D A 6 (MQ below (q_Qc D A post) args s rm_X11_layRest.cells rm_X11_layRest.slots A) h (K h)) : q_V p l e rm_X11_layRest s m args below meth c D A 6 (MQ below (q_Qc D A post) args s rm_X11_layRest.cells rm_X11_layRest.slots A) 121 (k_X11_layRest_121 post K) := by
  unfold k_X11_layRest_121
  refine q_istore C (by decide +kernel : decode cX11_layRest 121 = .ok (.istore 5, 2)) ?_
  exact v_X11_layRest_123 C hK
set_option maxRecDepth 100000 in
theorem v_X11_layRest_81 {p : Program} {l : Launch} {e : Env} {s : State} {m : MethodId} {args : Array Value} {below : List Frame} {meth : Method} {c : Code} {D : va_G} {A : Nat → Prop} {post : Option Value → q_S → Prop} {K : Nat → q_K} (C : q_C p s m args meth c cX11_layRest 6 RX11 "layRest" none A) (hK : ∀ h ∈ ([7, 19] : List Nat), q_V p l e rm_X11_layRest s m args below meth c D A 6 (MQ below (q_Qc D A post) args s rm_X11_layRest.cells rm_X11_layRest.slots A) h (K h)) : q_V p l e rm_X11_layRest s m args below meth c D A 6 (MQ below (q_Qc D A post) args s rm_X11_layRest.cells rm_X11_layRest.slots A) 81 (k_X11_layRest_81 post K) := by
  unfold k_X11_layRest_81
  refine q_aload_n C (by decide +kernel : decode cX11_layRest 81 = .ok (.aload_n 0, 1)) ?_
  refine q_iload_n C (by decide +kernel : decode cX11_layRest 82 = .ok (.iload_n 1, 1)) ?_
  refine q_iload_n C (by decide +kernel : decode cX11_layRest 83 = .ok (.iload_n 3, 1)) ?_
  refine q_iload_n C (by decide +kernel : decode cX11_layRest 84 = .ok (.iload_n 2, 1)) ?_
  refine q_iload C (by decide +kernel : decode cX11_layRest 85 = .ok (.iload 4, 2)) ?_
  refine q_call5 C (q_coV C (np := 4) (ci := 11) (rc := (RX11, TX11, 35)) (t_X11_areLike l) w9_98 rfl rfl w9_99 w9_100 w9_101 w9_6 (by decide +kernel) (by decide +kernel : decode cX11_layRest 87 = .ok (.invokevirtual 170, 3)) (by decide)) ?_
  refine q_ifeq C (tgt := 119) (by decide +kernel : decode cX11_layRest 90 = .ok (.ifCond .eq 29, 3)) (by decide) ?_ ?_
  · refine q_iload C (by decide +kernel : decode cX11_layRest 119 = .ok (.iload 5, 2)) ?_
    exact v_X11_layRest_121 C hK
  · refine q_iload C (by decide +kernel : decode cX11_layRest 93 = .ok (.iload 5, 2)) ?_
    refine q_iconst C (by decide +kernel : decode cX11_layRest 95 = .ok (.iconst 1, 1)) (by decide) ?_
    refine q_aload_n C (by decide +kernel : decode cX11_layRest 96 = .ok (.aload_n 0, 1)) ?_
    refine q_get C (ci := 11) (j := 34) (C0 := RX11) (T := TX11) (N := 35) rfl iX11 giX11 (by decide) w9_102 (by decide +kernel : decode cX11_layRest 97 = .ok (.getfield 89, 3)) ?_
    refine q_bipush C (by decide +kernel : decode cX11_layRest 100 = .ok (.bipush 21, 2)) (by decide) ?_
    refine q_iload_n C (by decide +kernel : decode cX11_layRest 102 = .ok (.iload_n 3, 1)) ?_
    refine q_iconst C (by decide +kernel : decode cX11_layRest 103 = .ok (.iconst 1, 1)) (by decide) ?_
    refine q_iadd C (by decide +kernel : decode cX11_layRest 104 = .ok (.iadd, 1)) ?_
    refine q_imul C (by decide +kernel : decode cX11_layRest 105 = .ok (.imul, 1)) ?_
    refine q_iload C (by decide +kernel : decode cX11_layRest 106 = .ok (.iload 4, 2)) ?_
    refine q_iadd C (by decide +kernel : decode cX11_layRest 108 = .ok (.iadd, 1)) ?_
    refine q_iconst C (by decide +kernel : decode cX11_layRest 109 = .ok (.iconst 1, 1)) (by decide) ?_
    refine q_iadd C (by decide +kernel : decode cX11_layRest 110 = .ok (.iadd, 1)) ?_
    refine q_iald C (by decide +kernel : decode cX11_layRest 111 = .ok (.iaload, 1)) ?_
    refine q_iadd C (by decide +kernel : decode cX11_layRest 112 = .ok (.iadd, 1)) ?_
    refine q_call2 C (q_coS C (np := 2) (t_X11_greater l) w9_31 w9_33 w9_32 w9_6 (by decide +kernel) (by decide +kernel : decode cX11_layRest 113 = .ok (.invokestatic 126, 3)) (by decide)) ?_
    refine q_goto C (tgt := 121) (by decide +kernel : decode cX11_layRest 116 = .ok (.goto 5, 3)) (by decide) ?_
    exact v_X11_layRest_121 C hK
set_option maxRecDepth 100000 in
theorem v_X11_layRest_7 {p : Program} {l : Launch} {e : Env} {s : State} {m : MethodId} {args : Array Value} {below : List Frame} {meth : Method} {c : Code} {D : va_G} {A : Nat → Prop} {post : Option Value → q_S → Prop} {K : Nat → q_K} (C : q_C p s m args meth c cX11_layRest 6 RX11 "layRest" none A) (hK : ∀ h ∈ ([7, 19] : List Nat), q_V p l e rm_X11_layRest s m args below meth c D A 6 (MQ below (q_Qc D A post) args s rm_X11_layRest.cells rm_X11_layRest.slots A) h (K h)) : q_V p l e rm_X11_layRest s m args below meth c D A 6 (MQ below (q_Qc D A post) args s rm_X11_layRest.cells rm_X11_layRest.slots A) 7 (k_X11_layRest_7 post K) := by
  unfold k_X11_layRest_7
  refine q_iload_n C (by decide +kernel : decode cX11_layRest 7 = .ok (.iload_n 3, 1)) ?_
  refine q_iflt C (tgt := 149) (by decide +kernel : decode cX11_layRest 8 = .ok (.ifCond .lt 141, 3)) (by decide) ?_ ?_
  · exact q_vret C rfl (by decide +kernel : decode cX11_layRest 149 = .ok (.return_, 1))
  · refine q_aload_n C (by decide +kernel : decode cX11_layRest 11 = .ok (.aload_n 0, 1)) ?_
    refine q_get C (ci := 11) (j := 29) (C0 := RX11) (T := TX11) (N := 35) rfl iX11 giX11 (by decide) w9_30 (by decide +kernel : decode cX11_layRest 12 = .ok (.getfield 80, 3)) ?_
    refine q_iload_n C (by decide +kernel : decode cX11_layRest 15 = .ok (.iload_n 2, 1)) ?_
    refine q_iald C (by decide +kernel : decode cX11_layRest 16 = .ok (.iaload, 1)) ?_
    refine q_istore C (by decide +kernel : decode cX11_layRest 17 = .ok (.istore 4, 2)) ?_
    exact hK 19 (by decide)
set_option maxRecDepth 100000 in
theorem v_X11_layRest_19 {p : Program} {l : Launch} {e : Env} {s : State} {m : MethodId} {args : Array Value} {below : List Frame} {meth : Method} {c : Code} {D : va_G} {A : Nat → Prop} {post : Option Value → q_S → Prop} {K : Nat → q_K} (C : q_C p s m args meth c cX11_layRest 6 RX11 "layRest" none A) (hK : ∀ h ∈ ([7, 19] : List Nat), q_V p l e rm_X11_layRest s m args below meth c D A 6 (MQ below (q_Qc D A post) args s rm_X11_layRest.cells rm_X11_layRest.slots A) h (K h)) : q_V p l e rm_X11_layRest s m args below meth c D A 6 (MQ below (q_Qc D A post) args s rm_X11_layRest.cells rm_X11_layRest.slots A) 19 (k_X11_layRest_19 post K) := by
  unfold k_X11_layRest_19
  refine q_iload C (by decide +kernel : decode cX11_layRest 19 = .ok (.iload 4, 2)) ?_
  refine q_iflt C (tgt := 143) (by decide +kernel : decode cX11_layRest 21 = .ok (.ifCond .lt 122, 3)) (by decide) ?_ ?_
  · refine q_iinc C (by decide +kernel : decode cX11_layRest 143 = .ok (.iinc 3 (-1), 3)) (by decide) ?_
    refine q_goto C (tgt := 7) (by decide +kernel : decode cX11_layRest 146 = .ok (.goto (-139), 3)) (by decide) ?_
    exact hK 7 (by decide)
  · refine q_iconst C (by decide +kernel : decode cX11_layRest 24 = .ok (.iconst 0, 1)) (by decide) ?_
    refine q_istore C (by decide +kernel : decode cX11_layRest 25 = .ok (.istore 5, 2)) ?_
    refine q_iload_n C (by decide +kernel : decode cX11_layRest 27 = .ok (.iload_n 3, 1)) ?_
    refine q_aload_n C (by decide +kernel : decode cX11_layRest 28 = .ok (.aload_n 0, 1)) ?_
    refine q_get C (ci := 11) (j := 29) (C0 := RX11) (T := TX11) (N := 35) rfl iX11 giX11 (by decide) w9_30 (by decide +kernel : decode cX11_layRest 29 = .ok (.getfield 80, 3)) ?_
    refine q_iload_n C (by decide +kernel : decode cX11_layRest 32 = .ok (.iload_n 1, 1)) ?_
    refine q_iald C (by decide +kernel : decode cX11_layRest 33 = .ok (.iaload, 1)) ?_
    refine q_icge C (tgt := 123) (by decide +kernel : decode cX11_layRest 34 = .ok (.if_icmp .ge 89, 3)) (by decide) ?_ ?_
    · exact v_X11_layRest_123 C hK
    · refine q_iload C (by decide +kernel : decode cX11_layRest 37 = .ok (.iload 4, 2)) ?_
      refine q_aload_n C (by decide +kernel : decode cX11_layRest 39 = .ok (.aload_n 0, 1)) ?_
      refine q_get C (ci := 11) (j := 29) (C0 := RX11) (T := TX11) (N := 35) rfl iX11 giX11 (by decide) w9_30 (by decide +kernel : decode cX11_layRest 40 = .ok (.getfield 80, 3)) ?_
      refine q_iload_n C (by decide +kernel : decode cX11_layRest 43 = .ok (.iload_n 2, 1)) ?_
      refine q_iald C (by decide +kernel : decode cX11_layRest 44 = .ok (.iaload, 1)) ?_
      refine q_icge C (tgt := 123) (by decide +kernel : decode cX11_layRest 45 = .ok (.if_icmp .ge 78, 3)) (by decide) ?_ ?_
      · exact v_X11_layRest_123 C hK
      · refine q_aload_n C (by decide +kernel : decode cX11_layRest 48 = .ok (.aload_n 0, 1)) ?_
        refine q_get C (ci := 11) (j := 34) (C0 := RX11) (T := TX11) (N := 35) rfl iX11 giX11 (by decide) w9_102 (by decide +kernel : decode cX11_layRest 49 = .ok (.getfield 89, 3)) ?_
        refine q_bipush C (by decide +kernel : decode cX11_layRest 52 = .ok (.bipush 21, 2)) (by decide) ?_
        refine q_iload_n C (by decide +kernel : decode cX11_layRest 54 = .ok (.iload_n 3, 1)) ?_
        refine q_iconst C (by decide +kernel : decode cX11_layRest 55 = .ok (.iconst 1, 1)) (by decide) ?_
        refine q_iadd C (by decide +kernel : decode cX11_layRest 56 = .ok (.iadd, 1)) ?_
        refine q_imul C (by decide +kernel : decode cX11_layRest 57 = .ok (.imul, 1)) ?_
        refine q_iload C (by decide +kernel : decode cX11_layRest 58 = .ok (.iload 4, 2)) ?_
        refine q_iadd C (by decide +kernel : decode cX11_layRest 60 = .ok (.iadd, 1)) ?_
        refine q_iald C (by decide +kernel : decode cX11_layRest 61 = .ok (.iaload, 1)) ?_
        refine q_aload_n C (by decide +kernel : decode cX11_layRest 62 = .ok (.aload_n 0, 1)) ?_
        refine q_get C (ci := 11) (j := 34) (C0 := RX11) (T := TX11) (N := 35) rfl iX11 giX11 (by decide) w9_102 (by decide +kernel : decode cX11_layRest 63 = .ok (.getfield 89, 3)) ?_
        refine q_bipush C (by decide +kernel : decode cX11_layRest 66 = .ok (.bipush 21, 2)) (by decide) ?_
        refine q_iload_n C (by decide +kernel : decode cX11_layRest 68 = .ok (.iload_n 3, 1)) ?_
        refine q_imul C (by decide +kernel : decode cX11_layRest 69 = .ok (.imul, 1)) ?_
        refine q_iload C (by decide +kernel : decode cX11_layRest 70 = .ok (.iload 4, 2)) ?_
        refine q_iadd C (by decide +kernel : decode cX11_layRest 72 = .ok (.iadd, 1)) ?_
        refine q_iconst C (by decide +kernel : decode cX11_layRest 73 = .ok (.iconst 1, 1)) (by decide) ?_
        refine q_iadd C (by decide +kernel : decode cX11_layRest 74 = .ok (.iadd, 1)) ?_
        refine q_iald C (by decide +kernel : decode cX11_layRest 75 = .ok (.iaload, 1)) ?_
        refine q_call2 C (q_coS C (np := 2) (t_X11_greater l) w9_31 w9_33 w9_32 w9_6 (by decide +kernel) (by decide +kernel : decode cX11_layRest 76 = .ok (.invokestatic 126, 3)) (by decide)) ?_
        refine q_istore C (by decide +kernel : decode cX11_layRest 79 = .ok (.istore 5, 2)) ?_
        exact v_X11_layRest_81 C hK
theorem u_X11_layRest (l : Launch) {sp : q_Sp} (H : ∀ (av : List Value) (σ : q_S) (post : Option Value → q_S → Prop), sp av σ post → ∃ Inv : Nat → Nat → q_K, (∀ K : Nat → q_K, (∀ (h n : Nat) (L : List (Option Value)) (st : List Value) (σ : q_S) (cr sr : Nat), Inv h n L st σ cr sr → K h L st σ cr sr) → k_X11_layRest_0 post K (q_L0 av 6) [] σ 0 0) ∧ (∀ (K : Nat → q_K) (n : Nat), (∀ (h m : Nat) (L : List (Option Value)) (st : List Value) (σ : q_S) (cr sr : Nat), m < n → Inv h m L st σ cr sr → K h L st σ cr sr) → ∀ (L : List (Option Value)) (st : List Value) (σ : q_S) (cr sr : Nat), Inv 7 n L st σ cr sr → k_X11_layRest_7 post K L st σ cr sr) ∧ (∀ (K : Nat → q_K) (n : Nat), (∀ (h m : Nat) (L : List (Option Value)) (st : List Value) (σ : q_S) (cr sr : Nat), m < n → Inv h m L st σ cr sr → K h L st σ cr sr) → ∀ (L : List (Option Value)) (st : List Value) (σ : q_S) (cr sr : Nat), Inv 19 n L st σ cr sr → k_X11_layRest_19 post K L st σ cr sr) ∧ av.length ≤ 6 ∧ ∀ v ∈ av, v.category = 1) : q_Ct l yX11_layRest cX11_layRest 6 none rm_X11_layRest sp := by
  refine q_met (by decide) ?_
  intro D A p e s m args below meth c σ av post C hsp
  obtain ⟨Inv, h1, hh7, hh19, h2, h3⟩ := H av σ post hsp
  have hV := q_loops (p := p) (l := l) (e := e) (R := rm_X11_layRest) (s := s) (m := m) (args := args) (below := below) (meth := meth) (c := c) (D := D) (A := A) (nL := 6) (Q := MQ below (q_Qc D A post) args s rm_X11_layRest.cells rm_X11_layRest.slots A) [7, 19] (fun h => if h = 7 then k_X11_layRest_7 post else k_X11_layRest_19 post) (fun K hK h hh => ?_) Inv (fun n h hh => ?_)
  · exact ⟨_, v_X11_layRest_0 C hV, h1 _ (fun h n L st σ cr sr hi => ⟨n, hi⟩), h2, h3⟩
  · rcases (by simpa using hh : h = 7 ∨ h = 19) with rfl | rfl
    · exact v_X11_layRest_7 C hK
    · exact v_X11_layRest_19 C hK
  · rcases (by simpa using hh : h = 7 ∨ h = 19) with rfl | rfl
    · exact hh7 (fun h L st σ cr sr => ∃ m : Nat, m < n ∧ Inv h m L st σ cr sr) n (fun h m L st σ cr sr hm hi => ⟨m, hm, hi⟩)
    · exact hh19 (fun h L st σ cr sr => ∃ m : Nat, m < n ∧ Inv h m L st σ cr sr) n (fun h m L st σ cr sr hm hi => ⟨m, hm, hi⟩)
theorem t_X11_layRest (l : Launch) : q_Ct l yX11_layRest cX11_layRest 6 none rm_X11_layRest s_X11_layRest := u_X11_layRest l (by
  intro av σ post h
  unfold s_X11_layRest at h
  split at h
  · next mr a b =>
    obtain ⟨ad, z, g, gp, r, hm, hI, ha, hb, hLM, hLV, h1⟩ := h
    unfold I1 at hI
    have ha2 : 0 ≤ a ∧ a < 20 := ⟨ha.1, by grind⟩
    have hb2 : 0 ≤ b ∧ b < 20 := ⟨hb.1, by grind⟩
    have hla := hLM.at ha.1 ha.2 ha2.2
    have hlb := hLM.at hb.1 hb.2 hb2.2
    have hLVa := fun i h => hLV a.toNatClampNeg i (by rw [nI_self ha.1]; exact ha.2) (clamp_lt 20 ha2.1 ha2.2) h
    have hala := clamp_lt 20 ha2.1 ha2.2
    have halb := clamp_lt 20 hb2.1 hb2.2
    generalize hae : a.toNatClampNeg = an at *
    generalize hbe : b.toNatClampNeg = bn at *
    have ela := nI_self hla.1
    have elb := nI_self hlb.1
    have hA20 : lmN g an ≤ 20 := clamp_le 20 hla.1 hla.2
    have hB20 : lmN g bn ≤ 20 := clamp_le 20 hlb.1 hlb.2
    refine ⟨fun h n L st σ' cr sr => ∃ (r' : Nat → Int32), mOKx σ' mr ad z g gp r' ∧ st = [] ∧
      ((h = 7 ∧ ∃ (s : Nat) (d1 d2 : Option Value), s ≤ lmN g an + 1 ∧ n = s * 50 + 49 ∧ L = [some (.ref mr), some (.int a), some (.int b), some (.int (nI s - 1)), d1, d2] ∧ tabOK r' g an bn (fun i _ => s ≤ i)) ∨
       (h = 19 ∧ ∃ (s u : Nat) (d2 : Option Value), s ≤ lmN g an ∧ u ≤ lmN g bn + 1 ∧ n = (s + 1) * 50 + u ∧ L = [some (.ref mr), some (.int a), some (.int b), some (.int (nI s)), some (.int (nI u - 1)), d2] ∧ tabOK r' g an bn (fun i j => s + 1 ≤ i ∨ (i = s ∧ u ≤ j)))), ?_, ?_, ?_, by simp, by simp [Value.category]⟩
    · intro K hK
      simp only [c_push, c_null, c_iload, c_aload, c_istore, c_astore, c_iinc, c_iadd, c_isub, c_imul, c_iand, c_ineg, c_dup, c_dup2, c_pop, c_ifnull, c_ifnonnull, c_get, c_put, c_iald, c_zald, c_iast, c_zast, c_aald, c_aast, c_alen, c_new, c_newa, c_newq, c_mna, c_oinit, c_max, c_copy, c_iret, c_zret, c_aret, c_vret, q_do, q_rc, c_ifeq, c_ifne, c_iflt, c_ifge, c_ifgt, c_ifle, c_iceq, c_icne, c_iclt, c_icge, c_icgt, c_icle, c_call0, c_call1, c_call2, c_call3, c_call4, c_call5, c_call6, c_call7, q_L0, List.map_cons, List.map_nil, List.replicate, List.cons_append, List.nil_append, List.append_nil, List.length_cons, List.length_nil, List.length_set, Nat.reduceSub, Nat.reduceAdd, Nat.reduceLT, Nat.reduceLeDiff, Nat.zero_add, Nat.add_zero, Nat.sub_zero, Nat.sub_self, List.getElem?_cons_zero, List.getElem?_cons_succ, List.set_cons_zero, List.set_cons_succ, Option.toList_some, Option.toList_none, List.sum_cons, List.sum_nil, true_and, and_true, true_or, or_true, Nat.le_refl, Nat.zero_le, Value.category, Fin.isValue, Fin.val_zero, Fin.val_one, Fin.val_two, Fin.reduceFinMk, q_10, q_01, not_false_eq_true, not_true_eq_false, forall_const, true_implies, false_implies, implies_true, q_ni, q_fi, q_nb0, q_nb1, q_fb0, q_fb1, q_nor, q_nar, q_for, q_far, q_non, q_nan, q_fon, q_fan, imp_false, false_and, and_false, and_self, false_or, or_false, va_rf, refKind, k_X11_layRest_0, hm.rd, vpi20, ha2, hae]
      refine hK 7 ((lmN g an + 1) * 50 + 49) _ _ _ _ _ ⟨r, hm, rfl, Or.inl ⟨rfl, lmN g an + 1, none, none, Nat.le_refl _, rfl, ?_, fun i j hi hj hs => by omega⟩⟩
      rw [nI_pred, ela]
    · rintro K n hK L st σ' cr sr ⟨r', hm', rfl, ⟨-, s, d1, d2, hs, rfl, rfl, hT⟩ | ⟨h9, -⟩⟩
      · simp only [c_push, c_null, c_iload, c_aload, c_istore, c_astore, c_iinc, c_iadd, c_isub, c_imul, c_iand, c_ineg, c_dup, c_dup2, c_pop, c_ifnull, c_ifnonnull, c_get, c_put, c_iald, c_zald, c_iast, c_zast, c_aald, c_aast, c_alen, c_new, c_newa, c_newq, c_mna, c_oinit, c_max, c_copy, c_iret, c_zret, c_aret, c_vret, q_do, q_rc, c_ifeq, c_ifne, c_iflt, c_ifge, c_ifgt, c_ifle, c_iceq, c_icne, c_iclt, c_icge, c_icgt, c_icle, c_call0, c_call1, c_call2, c_call3, c_call4, c_call5, c_call6, c_call7, q_L0, List.map_cons, List.map_nil, List.replicate, List.cons_append, List.nil_append, List.append_nil, List.length_cons, List.length_nil, List.length_set, Nat.reduceSub, Nat.reduceAdd, Nat.reduceLT, Nat.reduceLeDiff, Nat.zero_add, Nat.add_zero, Nat.sub_zero, Nat.sub_self, List.getElem?_cons_zero, List.getElem?_cons_succ, List.set_cons_zero, List.set_cons_succ, Option.toList_some, Option.toList_none, List.sum_cons, List.sum_nil, true_and, and_true, true_or, or_true, Nat.le_refl, Nat.zero_le, Value.category, Fin.isValue, Fin.val_zero, Fin.val_one, Fin.val_two, Fin.reduceFinMk, q_10, q_01, not_false_eq_true, not_true_eq_false, forall_const, true_implies, false_implies, implies_true, q_ni, q_fi, q_nb0, q_nb1, q_fb0, q_fb1, q_nor, q_nar, q_for, q_far, q_non, q_nan, q_fon, q_fan, imp_false, false_and, and_false, and_self, false_or, or_false, va_rf, refKind, k_X11_layRest_7, hm'.rd, vpi20, hb2, hbe]
        refine ⟨fun c => ?_, fun c => ?_⟩
        · have e : s = 0 := by
            rcases s with _ | s
            · rfl
            · rw [nI_pred] at c; exact absurd c (nI_pos (by omega))
          subst e
          exact h1 _ r' hm' (fun i j hi hj _ => hT i j hi hj (Nat.zero_le _))
        · rcases s with _ | s
          · exact absurd (by decide) c
          · rw [nI_pred]
            refine hK 19 ((s + 1) * 50 + (lmN g bn + 1)) _ _ _ _ _ (by omega) ⟨r', hm', rfl, Or.inr ⟨rfl, s, lmN g bn + 1, d2, by omega, Nat.le_refl _, rfl, ?_, fun i j hi hj hs => ?_⟩⟩
            · rw [nI_pred, elb]
            · exact hT i j hi hj (by omega)
      · exact absurd h9 (by decide)
    · rintro K n hK L st σ' cr sr ⟨r', hm', rfl, ⟨h9, -⟩ | ⟨-, s, u, d2, hs, hu, rfl, rfl, hT⟩⟩
      · exact absurd h9 (by decide)
      · rcases u with _ | u
        · simp only [c_push, c_null, c_iload, c_aload, c_istore, c_astore, c_iinc, c_iadd, c_isub, c_imul, c_iand, c_ineg, c_dup, c_dup2, c_pop, c_ifnull, c_ifnonnull, c_get, c_put, c_iald, c_zald, c_iast, c_zast, c_aald, c_aast, c_alen, c_new, c_newa, c_newq, c_mna, c_oinit, c_max, c_copy, c_iret, c_zret, c_aret, c_vret, q_do, q_rc, c_ifeq, c_ifne, c_iflt, c_ifge, c_ifgt, c_ifle, c_iceq, c_icne, c_iclt, c_icge, c_icgt, c_icle, c_call0, c_call1, c_call2, c_call3, c_call4, c_call5, c_call6, c_call7, q_L0, List.map_cons, List.map_nil, List.replicate, List.cons_append, List.nil_append, List.append_nil, List.length_cons, List.length_nil, List.length_set, Nat.reduceSub, Nat.reduceAdd, Nat.reduceLT, Nat.reduceLeDiff, Nat.zero_add, Nat.add_zero, Nat.sub_zero, Nat.sub_self, List.getElem?_cons_zero, List.getElem?_cons_succ, List.set_cons_zero, List.set_cons_succ, Option.toList_some, Option.toList_none, List.sum_cons, List.sum_nil, true_and, and_true, true_or, or_true, Nat.le_refl, Nat.zero_le, Value.category, Fin.isValue, Fin.val_zero, Fin.val_one, Fin.val_two, Fin.reduceFinMk, q_10, q_01, not_false_eq_true, not_true_eq_false, forall_const, true_implies, false_implies, implies_true, q_ni, q_fi, q_nb0, q_nb1, q_fb0, q_fb1, q_nor, q_nar, q_for, q_far, q_non, q_nan, q_fon, q_fan, imp_false, false_and, and_false, and_self, false_or, or_false, va_rf, refKind, k_X11_layRest_19]
          refine ⟨fun _ => hK 7 (s * 50 + 49) _ _ _ _ _ (by omega) ⟨r', hm', rfl, Or.inl ⟨rfl, s, some (.int (nI 0 - 1)), d2, by omega, rfl, ?_, fun i j hi hj h9 => hT i j hi hj (by omega)⟩⟩, fun c => absurd (by decide) c⟩
          rw [nI_mm (nI s)]
        · rw [nI_pred]
          have hs20 : s ≤ 20 := by omega
          have hu20 : u ≤ 20 := by omega
          have hRle : ∀ i j, RNg g an bn i j ≤ lmN g an - i := fun i j => RN_le (likB g an bn) (lmN g an) (lmN g bn) _ i j (Nat.le_refl _)
          have J123 : ∀ v : Int32, v = nI (RNg g an bn s u) → k_X11_layRest_123 post K [some (.ref mr), some (.int a), some (.int b), some (.int (nI s)), some (.int (nI u)), some (.int v)] [] σ' cr sr := fun v hv => by
            have b0 : 0 ≤ nI (21 * s + u) ∧ nI (21 * s + u) < 441 := ⟨nI_low (by omega), nI_ltN (N := 441) (by omega)⟩
            have c0 : (nI (21 * s + u)).toNatClampNeg = 21 * s + u := clN (by omega)
            simp only [c_push, c_null, c_iload, c_aload, c_istore, c_astore, c_iinc, c_iadd, c_isub, c_imul, c_iand, c_ineg, c_dup, c_dup2, c_pop, c_ifnull, c_ifnonnull, c_get, c_put, c_iald, c_zald, c_iast, c_zast, c_aald, c_aast, c_alen, c_new, c_newa, c_newq, c_mna, c_oinit, c_max, c_copy, c_iret, c_zret, c_aret, c_vret, q_do, q_rc, c_ifeq, c_ifne, c_iflt, c_ifge, c_ifgt, c_ifle, c_iceq, c_icne, c_iclt, c_icge, c_icgt, c_icle, c_call0, c_call1, c_call2, c_call3, c_call4, c_call5, c_call6, c_call7, q_L0, List.map_cons, List.map_nil, List.replicate, List.cons_append, List.nil_append, List.append_nil, List.length_cons, List.length_nil, List.length_set, Nat.reduceSub, Nat.reduceAdd, Nat.reduceLT, Nat.reduceLeDiff, Nat.zero_add, Nat.add_zero, Nat.sub_zero, Nat.sub_self, List.getElem?_cons_zero, List.getElem?_cons_succ, List.set_cons_zero, List.set_cons_succ, Option.toList_some, Option.toList_none, List.sum_cons, List.sum_nil, true_and, and_true, true_or, or_true, Nat.le_refl, Nat.zero_le, Value.category, Fin.isValue, Fin.val_zero, Fin.val_one, Fin.val_two, Fin.reduceFinMk, q_10, q_01, not_false_eq_true, not_true_eq_false, forall_const, true_implies, false_implies, implies_true, q_ni, q_fi, q_nb0, q_nb1, q_fb0, q_fb1, q_nor, q_nar, q_for, q_far, q_non, q_nan, q_fon, q_fan, imp_false, false_and, and_false, and_self, false_or, or_false, va_rf, refKind, k_X11_layRest_123, hm'.rd, idx34, vpi441, b0, c0]
            refine hK 19 ((s + 1) * 50 + u) _ _ _ _ _ (by omega) ⟨_, hm'.a34 _, rfl, Or.inr ⟨rfl, s, u, some (.int v), hs, by omega, rfl, by rw [nI_mm (nI u)], fun i j hi hj h9 => ?_⟩⟩
            unfold upd
            by_cases e : 21 * i + j = 21 * s + u
            · rw [if_pos e]
              have e1 : i = s ∧ j = u := by omega
              rw [e1.1, e1.2]; exact hv
            · rw [if_neg e]
              exact hT i j hi hj (by omega)
          have x1 : (21 : Int32) * (nI s + 1) + nI u = nI (21 * (s + 1) + u) := by rw [nI_1, idx34]
          have x2 : (21 : Int32) * nI s + nI u + 1 = nI (21 * s + (u + 1)) := by rw [idx34, nI_1]; rfl
          have x3 : (21 : Int32) * (nI s + 1) + nI u + 1 = nI (21 * (s + 1) + (u + 1)) := by rw [nI_1, idx34, nI_1]; rfl
          simp only [c_push, c_null, c_iload, c_aload, c_istore, c_astore, c_iinc, c_iadd, c_isub, c_imul, c_iand, c_ineg, c_dup, c_dup2, c_pop, c_ifnull, c_ifnonnull, c_get, c_put, c_iald, c_zald, c_iast, c_zast, c_aald, c_aast, c_alen, c_new, c_newa, c_newq, c_mna, c_oinit, c_max, c_copy, c_iret, c_zret, c_aret, c_vret, q_do, q_rc, c_ifeq, c_ifne, c_iflt, c_ifge, c_ifgt, c_ifle, c_iceq, c_icne, c_iclt, c_icge, c_icgt, c_icle, c_call0, c_call1, c_call2, c_call3, c_call4, c_call5, c_call6, c_call7, q_L0, List.map_cons, List.map_nil, List.replicate, List.cons_append, List.nil_append, List.append_nil, List.length_cons, List.length_nil, List.length_set, Nat.reduceSub, Nat.reduceAdd, Nat.reduceLT, Nat.reduceLeDiff, Nat.zero_add, Nat.add_zero, Nat.sub_zero, Nat.sub_self, List.getElem?_cons_zero, List.getElem?_cons_succ, List.set_cons_zero, List.set_cons_succ, Option.toList_some, Option.toList_none, List.sum_cons, List.sum_nil, true_and, and_true, true_or, or_true, Nat.le_refl, Nat.zero_le, Value.category, Fin.isValue, Fin.val_zero, Fin.val_one, Fin.val_two, Fin.reduceFinMk, q_10, q_01, not_false_eq_true, not_true_eq_false, forall_const, true_implies, false_implies, implies_true, q_ni, q_fi, q_nb0, q_nb1, q_fb0, q_fb1, q_nor, q_nar, q_for, q_far, q_non, q_nan, q_fon, q_fan, imp_false, false_and, and_false, and_self, false_or, or_false, va_rf, refKind, k_X11_layRest_19, k_X11_layRest_121, hm'.rd, vpi20, ha2, hb2, hae, hbe]
          refine ⟨fun c => absurd c (nI_pos (by omega)), fun _ => ?_⟩
          rw [← ela, ← elb, (cl2 (nI (lmN g an)) (nI s) _ _ rfl rfl (by omega) (by omega)).1, (cl2 (nI (lmN g bn)) (nI u) _ _ rfl rfl (by omega) (by omega)).1]
          refine ⟨fun c => J123 0 (by rw [RNg, RN_out (by omega)]; rfl), fun c => ⟨fun c2 => J123 0 (by rw [RNg, RN_out (by omega)]; rfl), fun c2 => ?_⟩⟩
          have b1 : 0 ≤ nI (21 * (s + 1) + u) ∧ nI (21 * (s + 1) + u) < 441 := ⟨nI_low (by omega), nI_ltN (N := 441) (by omega)⟩
          have b2 : 0 ≤ nI (21 * s + (u + 1)) ∧ nI (21 * s + (u + 1)) < 441 := ⟨nI_low (by omega), nI_ltN (N := 441) (by omega)⟩
          have b3 : 0 ≤ nI (21 * (s + 1) + (u + 1)) ∧ nI (21 * (s + 1) + (u + 1)) < 441 := ⟨nI_low (by omega), nI_ltN (N := 441) (by omega)⟩
          have c1 : (nI (21 * (s + 1) + u)).toNatClampNeg = 21 * (s + 1) + u := clN (by omega)
          have c3 : (nI (21 * s + (u + 1))).toNatClampNeg = 21 * s + (u + 1) := clN (by omega)
          have c4 : (nI (21 * (s + 1) + (u + 1))).toNatClampNeg = 21 * (s + 1) + (u + 1) := clN (by omega)
          have t1 := hT (s + 1) u (by omega) (by omega) (Or.inl (by omega))
          have t2 := hT s (u + 1) (by omega) (by omega) (Or.inr ⟨rfl, by omega⟩)
          have t3 := hT (s + 1) (u + 1) (by omega) (by omega) (Or.inl (by omega))
          have l1 := hRle (s + 1) u
          have l2 := hRle s (u + 1)
          have l3 := hRle (s + 1) (u + 1)
          have JB : ∀ v : Int32, v = nI (max (RNg g an bn (s + 1) u) (RNg g an bn s (u + 1))) → k_X11_layRest_81 post K [some (.ref mr), some (.int a), some (.int b), some (.int (nI s)), some (.int (nI u)), some (.int v)] [] σ' cr sr := fun v hv => by
            simp only [c_push, c_null, c_iload, c_aload, c_istore, c_astore, c_iinc, c_iadd, c_isub, c_imul, c_iand, c_ineg, c_dup, c_dup2, c_pop, c_ifnull, c_ifnonnull, c_get, c_put, c_iald, c_zald, c_iast, c_zast, c_aald, c_aast, c_alen, c_new, c_newa, c_newq, c_mna, c_oinit, c_max, c_copy, c_iret, c_zret, c_aret, c_vret, q_do, q_rc, c_ifeq, c_ifne, c_iflt, c_ifge, c_ifgt, c_ifle, c_iceq, c_icne, c_iclt, c_icge, c_icgt, c_icle, c_call0, c_call1, c_call2, c_call3, c_call4, c_call5, c_call6, c_call7, q_L0, List.map_cons, List.map_nil, List.replicate, List.cons_append, List.nil_append, List.append_nil, List.length_cons, List.length_nil, List.length_set, Nat.reduceSub, Nat.reduceAdd, Nat.reduceLT, Nat.reduceLeDiff, Nat.zero_add, Nat.add_zero, Nat.sub_zero, Nat.sub_self, List.getElem?_cons_zero, List.getElem?_cons_succ, List.set_cons_zero, List.set_cons_succ, Option.toList_some, Option.toList_none, List.sum_cons, List.sum_nil, true_and, and_true, true_or, or_true, Nat.le_refl, Nat.zero_le, Value.category, Fin.isValue, Fin.val_zero, Fin.val_one, Fin.val_two, Fin.reduceFinMk, q_10, q_01, not_false_eq_true, not_true_eq_false, forall_const, true_implies, false_implies, implies_true, q_ni, q_fi, q_nb0, q_nb1, q_fb0, q_fb1, q_nor, q_nar, q_for, q_far, q_non, q_nan, q_fon, q_fan, imp_false, false_and, and_false, and_self, false_or, or_false, va_rf, refKind, k_X11_layRest_81, hm'.rd]
            refine ⟨ad, z, g, gp, r', hm', ha2, hb2, ⟨nI_low (by omega), nI_ltN (N := 20) (by omega)⟩, ⟨nI_low (by omega), nI_ltN (N := 20) (by omega)⟩, ?_, ?_, ?_⟩
            · rw [hae, clN (by omega)]
              have := hLVa s (by omega)
              grind
            · rw [hae, hbe, clN (by omega), clN (by omega)]
              intro c9
              simp only [c_push, c_null, c_iload, c_aload, c_istore, c_astore, c_iinc, c_iadd, c_isub, c_imul, c_iand, c_ineg, c_dup, c_dup2, c_pop, c_ifnull, c_ifnonnull, c_get, c_put, c_iald, c_zald, c_iast, c_zast, c_aald, c_aast, c_alen, c_new, c_newa, c_newq, c_mna, c_oinit, c_max, c_copy, c_iret, c_zret, c_aret, c_vret, q_do, q_rc, c_ifeq, c_ifne, c_iflt, c_ifge, c_ifgt, c_ifle, c_iceq, c_icne, c_iclt, c_icge, c_icgt, c_icle, c_call0, c_call1, c_call2, c_call3, c_call4, c_call5, c_call6, c_call7, q_L0, List.map_cons, List.map_nil, List.replicate, List.cons_append, List.nil_append, List.append_nil, List.length_cons, List.length_nil, List.length_set, Nat.reduceSub, Nat.reduceAdd, Nat.reduceLT, Nat.reduceLeDiff, Nat.zero_add, Nat.add_zero, Nat.sub_zero, Nat.sub_self, List.getElem?_cons_zero, List.getElem?_cons_succ, List.set_cons_zero, List.set_cons_succ, Option.toList_some, Option.toList_none, List.sum_cons, List.sum_nil, true_and, and_true, true_or, or_true, Nat.le_refl, Nat.zero_le, Value.category, Fin.isValue, Fin.val_zero, Fin.val_one, Fin.val_two, Fin.reduceFinMk, q_10, q_01, not_false_eq_true, not_true_eq_false, forall_const, true_implies, false_implies, implies_true, q_ni, q_fi, q_nb0, q_nb1, q_fb0, q_fb1, q_nor, q_nar, q_for, q_far, q_non, q_nan, q_fon, q_fan, imp_false, false_and, and_false, and_self, false_or, or_false, va_rf, refKind, k_X11_layRest_121, hm'.rd, x3, vpi441, b3, c4, t3, s_X11_greater]
              have hR : RNg g an bn s u = if likB g an bn s u then max (max (RNg g an bn (s + 1) u) (RNg g an bn s (u + 1))) (1 + RNg g an bn (s + 1) (u + 1)) else max (RNg g an bn (s + 1) u) (RNg g an bn s (u + 1)) := RN_in (lk := likB g an bn) (la := lmN g an) (lb := lmN g bn) (i := s) (j := u) ⟨by omega, by omega⟩
              rw [if_pos c9] at hR
              have e1 : (1 : Int32) + nI (RNg g an bn (s + 1) (u + 1)) = nI (1 + RNg g an bn (s + 1) (u + 1)) := by rw [← nI_add]; rfl
              have hM := mxN (a := max (RNg g an bn (s + 1) u) (RNg g an bn s (u + 1))) (b := 1 + RNg g an bn (s + 1) (u + 1)) (by omega) (by omega)
              rw [e1, hv]
              refine ⟨fun cc => J123 _ ?_, fun cc => J123 _ ?_⟩
              · rw [hR, ← hM, if_pos cc]
              · rw [hR, ← hM, if_neg cc]
            · rw [hae, hbe, clN (by omega), clN (by omega)]
              intro c9
              simp only [c_push, c_null, c_iload, c_aload, c_istore, c_astore, c_iinc, c_iadd, c_isub, c_imul, c_iand, c_ineg, c_dup, c_dup2, c_pop, c_ifnull, c_ifnonnull, c_get, c_put, c_iald, c_zald, c_iast, c_zast, c_aald, c_aast, c_alen, c_new, c_newa, c_newq, c_mna, c_oinit, c_max, c_copy, c_iret, c_zret, c_aret, c_vret, q_do, q_rc, c_ifeq, c_ifne, c_iflt, c_ifge, c_ifgt, c_ifle, c_iceq, c_icne, c_iclt, c_icge, c_icgt, c_icle, c_call0, c_call1, c_call2, c_call3, c_call4, c_call5, c_call6, c_call7, q_L0, List.map_cons, List.map_nil, List.replicate, List.cons_append, List.nil_append, List.append_nil, List.length_cons, List.length_nil, List.length_set, Nat.reduceSub, Nat.reduceAdd, Nat.reduceLT, Nat.reduceLeDiff, Nat.zero_add, Nat.add_zero, Nat.sub_zero, Nat.sub_self, List.getElem?_cons_zero, List.getElem?_cons_succ, List.set_cons_zero, List.set_cons_succ, Option.toList_some, Option.toList_none, List.sum_cons, List.sum_nil, true_and, and_true, true_or, or_true, Nat.le_refl, Nat.zero_le, Value.category, Fin.isValue, Fin.val_zero, Fin.val_one, Fin.val_two, Fin.reduceFinMk, q_10, q_01, not_false_eq_true, not_true_eq_false, forall_const, true_implies, false_implies, implies_true, q_ni, q_fi, q_nb0, q_nb1, q_fb0, q_fb1, q_nor, q_nar, q_for, q_far, q_non, q_nan, q_fon, q_fan, imp_false, false_and, and_false, and_self, false_or, or_false, va_rf, refKind, k_X11_layRest_121]
              have hR : RNg g an bn s u = if likB g an bn s u then max (max (RNg g an bn (s + 1) u) (RNg g an bn s (u + 1))) (1 + RNg g an bn (s + 1) (u + 1)) else max (RNg g an bn (s + 1) u) (RNg g an bn s (u + 1)) := RN_in (lk := likB g an bn) (la := lmN g an) (lb := lmN g bn) (i := s) (j := u) ⟨by omega, by omega⟩
              rw [if_neg (by rw [c9]; decide)] at hR
              exact J123 _ (by rw [hR]; exact hv)
          simp only [c_push, c_null, c_iload, c_aload, c_istore, c_astore, c_iinc, c_iadd, c_isub, c_imul, c_iand, c_ineg, c_dup, c_dup2, c_pop, c_ifnull, c_ifnonnull, c_get, c_put, c_iald, c_zald, c_iast, c_zast, c_aald, c_aast, c_alen, c_new, c_newa, c_newq, c_mna, c_oinit, c_max, c_copy, c_iret, c_zret, c_aret, c_vret, q_do, q_rc, c_ifeq, c_ifne, c_iflt, c_ifge, c_ifgt, c_ifle, c_iceq, c_icne, c_iclt, c_icge, c_icgt, c_icle, c_call0, c_call1, c_call2, c_call3, c_call4, c_call5, c_call6, c_call7, q_L0, List.map_cons, List.map_nil, List.replicate, List.cons_append, List.nil_append, List.append_nil, List.length_cons, List.length_nil, List.length_set, Nat.reduceSub, Nat.reduceAdd, Nat.reduceLT, Nat.reduceLeDiff, Nat.zero_add, Nat.add_zero, Nat.sub_zero, Nat.sub_self, List.getElem?_cons_zero, List.getElem?_cons_succ, List.set_cons_zero, List.set_cons_succ, Option.toList_some, Option.toList_none, List.sum_cons, List.sum_nil, true_and, and_true, true_or, or_true, Nat.le_refl, Nat.zero_le, Value.category, Fin.isValue, Fin.val_zero, Fin.val_one, Fin.val_two, Fin.reduceFinMk, q_10, q_01, not_false_eq_true, not_true_eq_false, forall_const, true_implies, false_implies, implies_true, q_ni, q_fi, q_nb0, q_nb1, q_fb0, q_fb1, q_nor, q_nar, q_for, q_far, q_non, q_nan, q_fon, q_fan, imp_false, false_and, and_false, and_self, false_or, or_false, va_rf, refKind, x1, x2, vpi441, b1, b2, c1, c3, t1, t2, s_X11_greater]
          have hM := mxN (a := RNg g an bn (s + 1) u) (b := RNg g an bn s (u + 1)) (by omega) (by omega)
          refine ⟨fun cc => JB _ ?_, fun cc => JB _ ?_⟩
          · rw [← hM, if_pos cc]
          · rw [← hM, if_neg cc]
  · exact h.elim)
end
section
-- alike, copied
def F_alike (z : Nat → Int32) (g : Nat → Nat → Int32) (a b : Int32) : Int32 := if isW z a ∧ isW z b then nI (RNg g a.toNatClampNeg b.toNatClampNeg 0 0) else -2
def s_X11_alike : q_Sp := fun av σ post => match av with
  | [.ref mr, .int a, .int b] => ∃ ad z g, mOK σ mr ad z g ∧ I1 z ∧ LM z g ∧ LV z g ∧ ∀ σ', mOK σ' mr ad z g → post (some (.int (F_alike z g a b))) σ'
  | _ => False
theorem w9_103 : (.code yX11_layRest cX11_layRest 6 none : Cond) ∈ lw_tbl := by decide +kernel
theorem w9_104 : (.methodLink RX11 174 yX11_layRest : Cond) ∈ lw_tbl := by decide +kernel
theorem w9_105 : (.instanceMethod yX11_layRest : Cond) ∈ lw_tbl := by decide +kernel
theorem w9_106 : (.selects RX11 yX11_layRest yX11_layRest : Cond) ∈ lw_tbl := by decide +kernel
def rm_X11_alike : Room := { frames := 2, cells := 0, slots := 0, locals := 50 }
def k_X11_alike_16 (post : Option Value → q_S → Prop) (K : Nat → q_K) : q_K := (c_push (-2) (c_iret post))
def k_X11_alike_0 (post : Option Value → q_S → Prop) (K : Nat → q_K) : q_K := (c_aload 0 (c_iload 1 (c_call2 (some 11) s_X11_isWork 0 0 (c_ifeq (k_X11_alike_16 post K) (c_aload 0 (c_iload 2 (c_call2 (some 11) s_X11_isWork 0 0 (c_ifne (c_aload 0 (c_iload 1 (c_iload 2 (c_call3 (some 11) s_X11_layRest 0 0 (c_aload 0 (c_get 11 34 (c_push 0 (c_iald (c_iret post))))))))) (k_X11_alike_16 post K)))))))))
set_option maxRecDepth 100000 in
theorem v_X11_alike_16 {p : Program} {l : Launch} {e : Env} {s : State} {m : MethodId} {args : Array Value} {below : List Frame} {meth : Method} {c : Code} {D : va_G} {A : Nat → Prop} {post : Option Value → q_S → Prop} {K : Nat → q_K} (C : q_C p s m args meth c cX11_alike 3 RX11 "alike" (some .int) A) (hK : ∀ h ∈ ([] : List Nat), q_V p l e rm_X11_alike s m args below meth c D A 3 (MQ below (q_Qc D A post) args s rm_X11_alike.cells rm_X11_alike.slots A) h (K h)) : q_V p l e rm_X11_alike s m args below meth c D A 3 (MQ below (q_Qc D A post) args s rm_X11_alike.cells rm_X11_alike.slots A) 16 (k_X11_alike_16 post K) := by
  unfold k_X11_alike_16
  refine q_bipush C (by decide +kernel : decode cX11_alike 16 = .ok (.bipush (-2), 2)) (by decide) ?_
  exact q_iret C rfl (by decide +kernel : decode cX11_alike 18 = .ok (.ireturn, 1))
set_option maxRecDepth 100000 in
theorem v_X11_alike_0 {p : Program} {l : Launch} {e : Env} {s : State} {m : MethodId} {args : Array Value} {below : List Frame} {meth : Method} {c : Code} {D : va_G} {A : Nat → Prop} {post : Option Value → q_S → Prop} {K : Nat → q_K} (C : q_C p s m args meth c cX11_alike 3 RX11 "alike" (some .int) A) (hK : ∀ h ∈ ([] : List Nat), q_V p l e rm_X11_alike s m args below meth c D A 3 (MQ below (q_Qc D A post) args s rm_X11_alike.cells rm_X11_alike.slots A) h (K h)) : q_V p l e rm_X11_alike s m args below meth c D A 3 (MQ below (q_Qc D A post) args s rm_X11_alike.cells rm_X11_alike.slots A) 0 (k_X11_alike_0 post K) := by
  unfold k_X11_alike_0
  refine q_aload_n C (by decide +kernel : decode cX11_alike 0 = .ok (.aload_n 0, 1)) ?_
  refine q_iload_n C (by decide +kernel : decode cX11_alike 1 = .ok (.iload_n 1, 1)) ?_
  refine q_call2 C (q_coV C (np := 1) (ci := 11) (rc := (RX11, TX11, 35)) (t_X11_isWork l) w9_48 rfl rfl w9_49 w9_50 w9_51 w9_6 (by decide +kernel) (by decide +kernel : decode cX11_alike 2 = .ok (.invokevirtual 140, 3)) (by decide)) ?_
  refine q_ifeq C (tgt := 16) (by decide +kernel : decode cX11_alike 5 = .ok (.ifCond .eq 11, 3)) (by decide) ?_ ?_
  · exact v_X11_alike_16 C hK
  · refine q_aload_n C (by decide +kernel : decode cX11_alike 8 = .ok (.aload_n 0, 1)) ?_
    refine q_iload_n C (by decide +kernel : decode cX11_alike 9 = .ok (.iload_n 2, 1)) ?_
    refine q_call2 C (q_coV C (np := 1) (ci := 11) (rc := (RX11, TX11, 35)) (t_X11_isWork l) w9_48 rfl rfl w9_49 w9_50 w9_51 w9_6 (by decide +kernel) (by decide +kernel : decode cX11_alike 10 = .ok (.invokevirtual 140, 3)) (by decide)) ?_
    refine q_ifne C (tgt := 19) (by decide +kernel : decode cX11_alike 13 = .ok (.ifCond .ne 6, 3)) (by decide) ?_ ?_
    · refine q_aload_n C (by decide +kernel : decode cX11_alike 19 = .ok (.aload_n 0, 1)) ?_
      refine q_iload_n C (by decide +kernel : decode cX11_alike 20 = .ok (.iload_n 1, 1)) ?_
      refine q_iload_n C (by decide +kernel : decode cX11_alike 21 = .ok (.iload_n 2, 1)) ?_
      refine q_call3 C (q_coV C (np := 2) (ci := 11) (rc := (RX11, TX11, 35)) (t_X11_layRest l) w9_103 rfl rfl w9_104 w9_105 w9_106 w9_6 (by decide +kernel) (by decide +kernel : decode cX11_alike 22 = .ok (.invokevirtual 174, 3)) (by decide)) ?_
      refine q_aload_n C (by decide +kernel : decode cX11_alike 25 = .ok (.aload_n 0, 1)) ?_
      refine q_get C (ci := 11) (j := 34) (C0 := RX11) (T := TX11) (N := 35) rfl iX11 giX11 (by decide) w9_102 (by decide +kernel : decode cX11_alike 26 = .ok (.getfield 89, 3)) ?_
      refine q_iconst C (by decide +kernel : decode cX11_alike 29 = .ok (.iconst 0, 1)) (by decide) ?_
      refine q_iald C (by decide +kernel : decode cX11_alike 30 = .ok (.iaload, 1)) ?_
      exact q_iret C rfl (by decide +kernel : decode cX11_alike 31 = .ok (.ireturn, 1))
    · exact v_X11_alike_16 C hK
theorem u_X11_alike (l : Launch) {sp : q_Sp} (H : ∀ (av : List Value) (σ : q_S) (post : Option Value → q_S → Prop), sp av σ post → k_X11_alike_0 post (fun _ _ _ _ _ _ => False) (q_L0 av 3) [] σ 0 0 ∧ av.length ≤ 3 ∧ ∀ v ∈ av, v.category = 1) : q_Ct l yX11_alike cX11_alike 3 (some .int) rm_X11_alike sp := by
  refine q_met (by decide) ?_
  intro D A p e s m args below meth c σ av post C hsp
  obtain ⟨h1, h2, h3⟩ := H av σ post hsp
  exact ⟨_, v_X11_alike_0 (K := fun _ _ _ _ _ _ => False) C (fun h hh => by cases hh), h1, h2, h3⟩
theorem t_X11_alike (l : Launch) : q_Ct l yX11_alike cX11_alike 3 (some .int) rm_X11_alike s_X11_alike := u_X11_alike l (by
  intro av σ post h
  unfold s_X11_alike at h
  split at h
  · next mr a b =>
    refine ⟨?_, by simp, by simp [Value.category]⟩
    obtain ⟨ad, z, g, ⟨gp, r, hm⟩, hI, hLM, hLV, h1⟩ := h
    have hI0 := hI
    unfold I1 at hI
    unfold F_alike at h1
    simp only [c_push, c_null, c_iload, c_aload, c_istore, c_astore, c_iinc, c_iadd, c_isub, c_imul, c_iand, c_ineg, c_dup, c_dup2, c_pop, c_ifnull, c_ifnonnull, c_get, c_put, c_iald, c_zald, c_iast, c_zast, c_aald, c_aast, c_alen, c_new, c_newa, c_newq, c_mna, c_oinit, c_max, c_copy, c_iret, c_zret, c_aret, c_vret, q_do, q_rc, c_ifeq, c_ifne, c_iflt, c_ifge, c_ifgt, c_ifle, c_iceq, c_icne, c_iclt, c_icge, c_icgt, c_icle, c_call0, c_call1, c_call2, c_call3, c_call4, c_call5, c_call6, c_call7, q_L0, List.map_cons, List.map_nil, List.replicate, List.cons_append, List.nil_append, List.append_nil, List.length_cons, List.length_nil, List.length_set, Nat.reduceSub, Nat.reduceAdd, Nat.reduceLT, Nat.reduceLeDiff, Nat.zero_add, Nat.add_zero, Nat.sub_zero, Nat.sub_self, List.getElem?_cons_zero, List.getElem?_cons_succ, List.set_cons_zero, List.set_cons_succ, Option.toList_some, Option.toList_none, List.sum_cons, List.sum_nil, true_and, and_true, true_or, or_true, Nat.le_refl, Nat.zero_le, Value.category, Fin.isValue, Fin.val_zero, Fin.val_one, Fin.val_two, Fin.reduceFinMk, q_10, q_01, not_false_eq_true, not_true_eq_false, forall_const, true_implies, false_implies, implies_true, q_ni, q_fi, q_nb0, q_nb1, q_fb0, q_fb1, q_nor, q_nar, q_for, q_far, q_non, q_nan, q_fon, q_fan, imp_false, false_and, and_false, and_self, false_or, or_false, va_rf, refKind, k_X11_alike_0, k_X11_alike_16, hm.rd, s_X11_isWork]
    refine ⟨hI.2.2.2.1, fun c1 => ⟨hI.2.2.2.1, fun c2 => ?_, fun c2 => ?_⟩, fun c1 => ?_⟩
    · refine ⟨ad, z, g, gp, r, hm, hI0, c1, c2, hLM, hLV, fun σ' r' hm' hT => ?_⟩
      rw [if_pos ⟨c1, c2⟩] at h1
      have t0 := hT 0 0 (Nat.zero_le _) (Nat.zero_le _) trivial
      simp only [c_push, c_null, c_iload, c_aload, c_istore, c_astore, c_iinc, c_iadd, c_isub, c_imul, c_iand, c_ineg, c_dup, c_dup2, c_pop, c_ifnull, c_ifnonnull, c_get, c_put, c_iald, c_zald, c_iast, c_zast, c_aald, c_aast, c_alen, c_new, c_newa, c_newq, c_mna, c_oinit, c_max, c_copy, c_iret, c_zret, c_aret, c_vret, q_do, q_rc, c_ifeq, c_ifne, c_iflt, c_ifge, c_ifgt, c_ifle, c_iceq, c_icne, c_iclt, c_icge, c_icgt, c_icle, c_call0, c_call1, c_call2, c_call3, c_call4, c_call5, c_call6, c_call7, q_L0, List.map_cons, List.map_nil, List.replicate, List.cons_append, List.nil_append, List.append_nil, List.length_cons, List.length_nil, List.length_set, Nat.reduceSub, Nat.reduceAdd, Nat.reduceLT, Nat.reduceLeDiff, Nat.zero_add, Nat.add_zero, Nat.sub_zero, Nat.sub_self, List.getElem?_cons_zero, List.getElem?_cons_succ, List.set_cons_zero, List.set_cons_succ, Option.toList_some, Option.toList_none, List.sum_cons, List.sum_nil, true_and, and_true, true_or, or_true, Nat.le_refl, Nat.zero_le, Value.category, Fin.isValue, Fin.val_zero, Fin.val_one, Fin.val_two, Fin.reduceFinMk, q_10, q_01, not_false_eq_true, not_true_eq_false, forall_const, true_implies, false_implies, implies_true, q_ni, q_fi, q_nb0, q_nb1, q_fb0, q_fb1, q_nor, q_nar, q_for, q_far, q_non, q_nan, q_fon, q_fan, imp_false, false_and, and_false, and_self, false_or, or_false, va_rf, refKind, hm'.rd, vpi441]
      have e0 : (0 : Int32).toNatClampNeg = 0 := rfl
      rw [e0, t0]
      exact ⟨by decide, h1 _ ⟨gp, r', hm'⟩⟩
    · rw [if_neg (fun h => c2 h.2)] at h1
      exact h1 _ ⟨gp, r, hm⟩
    · rw [if_neg (fun h => c1 h.1)] at h1
      exact h1 _ ⟨gp, r, hm⟩
  · exact h.elim)
def ownF (g : Nat → Nat → Int32) (a : Nat) : Nat → Int32
  | 0 => 0
  | i + 1 => ownF g a i + (if g 32 (g 30 (20 * a + i)).toNatClampNeg = 0 then 1 else 0)
def F_copied (z : Nat → Int32) (g : Nat → Nat → Int32) (a b p : Int32) : Int32 := if isW z a ∧ isW z b ∧ 1 ≤ p ∧ p ≤ 100 then if 0 < nI (RNg g a.toNatClampNeg b.toNatClampNeg 0 0) ∧ p * ownF g a.toNatClampNeg (lmN g a.toNatClampNeg) ≤ 100 * nI (RNg g a.toNatClampNeg b.toNatClampNeg 0 0) then 1 else 0 else -2
def s_X11_copied : q_Sp := fun av σ post => match av with
  | [.ref mr, .int a, .int b, .int p] => ∃ ad z g, mOK σ mr ad z g ∧ I1 z ∧ LM z g ∧ LV z g ∧ ∀ σ', mOK σ' mr ad z g → post (some (.int (F_copied z g a b p))) σ'
  | _ => False
def rm_X11_copied : Room := { frames := 2, cells := 0, slots := 0, locals := 50 }
def k_X11_copied_26 (post : Option Value → q_S → Prop) (K : Nat → q_K) : q_K := (c_push (-2) (c_iret post))
def k_X11_copied_29 (post : Option Value → q_S → Prop) (K : Nat → q_K) : q_K := (c_aload 0 (c_iload 1 (c_iload 2 (c_call3 (some 11) s_X11_layRest 0 0 (c_push 0 (c_istore 4 (c_push 0 (c_istore 5 (K 41)))))))))
def k_X11_copied_0 (post : Option Value → q_S → Prop) (K : Nat → q_K) : q_K := (c_aload 0 (c_iload 1 (c_call2 (some 11) s_X11_isWork 0 0 (c_ifeq (k_X11_copied_26 post K) (c_aload 0 (c_iload 2 (c_call2 (some 11) s_X11_isWork 0 0 (c_ifeq (k_X11_copied_26 post K) (c_iload 3 (c_push 1 (c_push 100 (c_call3 none s_X11_in 0 0 (c_ifne (k_X11_copied_29 post K) (k_X11_copied_26 post K))))))))))))))
def k_X11_copied_79 (post : Option Value → q_S → Prop) (K : Nat → q_K) : q_K := (c_iadd (c_istore 4 (c_iinc 5 1 (K 41))))
def k_X11_copied_118 (post : Option Value → q_S → Prop) (K : Nat → q_K) : q_K := (c_iret post)
def k_X11_copied_117 (post : Option Value → q_S → Prop) (K : Nat → q_K) : q_K := (c_push 0 (k_X11_copied_118 post K))
def k_X11_copied_41 (post : Option Value → q_S → Prop) (K : Nat → q_K) : q_K := (c_iload 5 (c_aload 0 (c_get 11 29 (c_iload 1 (c_iald (c_icge (c_aload 0 (c_get 11 34 (c_push 0 (c_iald (c_ifle (k_X11_copied_117 post K) (c_push 100 (c_aload 0 (c_get 11 34 (c_push 0 (c_iald (c_imul (c_iload 3 (c_iload 4 (c_imul (c_iclt (k_X11_copied_117 post K) (c_push 1 (k_X11_copied_118 post K))))))))))))))))) (c_iload 4 (c_aload 0 (c_get 11 32 (c_aload 0 (c_get 11 30 (c_push 20 (c_iload 1 (c_imul (c_iload 5 (c_iadd (c_iald (c_zald (c_ifeq (c_push 1 (k_X11_copied_79 post K)) (c_push 0 (k_X11_copied_79 post K)))))))))))))))))))))
set_option maxRecDepth 100000 in
theorem v_X11_copied_26 {p : Program} {l : Launch} {e : Env} {s : State} {m : MethodId} {args : Array Value} {below : List Frame} {meth : Method} {c : Code} {D : va_G} {A : Nat → Prop} {post : Option Value → q_S → Prop} {K : Nat → q_K} (C : q_C p s m args meth c cX11_copied 6 RX11 "copied" (some .int) A) (hK : ∀ h ∈ ([41] : List Nat), q_V p l e rm_X11_copied s m args below meth c D A 6 (MQ below (q_Qc D A post) args s rm_X11_copied.cells rm_X11_copied.slots A) h (K h)) : q_V p l e rm_X11_copied s m args below meth c D A 6 (MQ below (q_Qc D A post) args s rm_X11_copied.cells rm_X11_copied.slots A) 26 (k_X11_copied_26 post K) := by
  unfold k_X11_copied_26
  refine q_bipush C (by decide +kernel : decode cX11_copied 26 = .ok (.bipush (-2), 2)) (by decide) ?_
  exact q_iret C rfl (by decide +kernel : decode cX11_copied 28 = .ok (.ireturn, 1))
set_option maxRecDepth 100000 in
theorem v_X11_copied_29 {p : Program} {l : Launch} {e : Env} {s : State} {m : MethodId} {args : Array Value} {below : List Frame} {meth : Method} {c : Code} {D : va_G} {A : Nat → Prop} {post : Option Value → q_S → Prop} {K : Nat → q_K} (C : q_C p s m args meth c cX11_copied 6 RX11 "copied" (some .int) A) (hK : ∀ h ∈ ([41] : List Nat), q_V p l e rm_X11_copied s m args below meth c D A 6 (MQ below (q_Qc D A post) args s rm_X11_copied.cells rm_X11_copied.slots A) h (K h)) : q_V p l e rm_X11_copied s m args below meth c D A 6 (MQ below (q_Qc D A post) args s rm_X11_copied.cells rm_X11_copied.slots A) 29 (k_X11_copied_29 post K) := by
  unfold k_X11_copied_29
  refine q_aload_n C (by decide +kernel : decode cX11_copied 29 = .ok (.aload_n 0, 1)) ?_
  refine q_iload_n C (by decide +kernel : decode cX11_copied 30 = .ok (.iload_n 1, 1)) ?_
  refine q_iload_n C (by decide +kernel : decode cX11_copied 31 = .ok (.iload_n 2, 1)) ?_
  refine q_call3 C (q_coV C (np := 2) (ci := 11) (rc := (RX11, TX11, 35)) (t_X11_layRest l) w9_103 rfl rfl w9_104 w9_105 w9_106 w9_6 (by decide +kernel) (by decide +kernel : decode cX11_copied 32 = .ok (.invokevirtual 174, 3)) (by decide)) ?_
  refine q_iconst C (by decide +kernel : decode cX11_copied 35 = .ok (.iconst 0, 1)) (by decide) ?_
  refine q_istore C (by decide +kernel : decode cX11_copied 36 = .ok (.istore 4, 2)) ?_
  refine q_iconst C (by decide +kernel : decode cX11_copied 38 = .ok (.iconst 0, 1)) (by decide) ?_
  refine q_istore C (by decide +kernel : decode cX11_copied 39 = .ok (.istore 5, 2)) ?_
  exact hK 41 (by decide)
set_option maxRecDepth 100000 in
theorem v_X11_copied_0 {p : Program} {l : Launch} {e : Env} {s : State} {m : MethodId} {args : Array Value} {below : List Frame} {meth : Method} {c : Code} {D : va_G} {A : Nat → Prop} {post : Option Value → q_S → Prop} {K : Nat → q_K} (C : q_C p s m args meth c cX11_copied 6 RX11 "copied" (some .int) A) (hK : ∀ h ∈ ([41] : List Nat), q_V p l e rm_X11_copied s m args below meth c D A 6 (MQ below (q_Qc D A post) args s rm_X11_copied.cells rm_X11_copied.slots A) h (K h)) : q_V p l e rm_X11_copied s m args below meth c D A 6 (MQ below (q_Qc D A post) args s rm_X11_copied.cells rm_X11_copied.slots A) 0 (k_X11_copied_0 post K) := by
  unfold k_X11_copied_0
  refine q_aload_n C (by decide +kernel : decode cX11_copied 0 = .ok (.aload_n 0, 1)) ?_
  refine q_iload_n C (by decide +kernel : decode cX11_copied 1 = .ok (.iload_n 1, 1)) ?_
  refine q_call2 C (q_coV C (np := 1) (ci := 11) (rc := (RX11, TX11, 35)) (t_X11_isWork l) w9_48 rfl rfl w9_49 w9_50 w9_51 w9_6 (by decide +kernel) (by decide +kernel : decode cX11_copied 2 = .ok (.invokevirtual 140, 3)) (by decide)) ?_
  refine q_ifeq C (tgt := 26) (by decide +kernel : decode cX11_copied 5 = .ok (.ifCond .eq 21, 3)) (by decide) ?_ ?_
  · exact v_X11_copied_26 C hK
  · refine q_aload_n C (by decide +kernel : decode cX11_copied 8 = .ok (.aload_n 0, 1)) ?_
    refine q_iload_n C (by decide +kernel : decode cX11_copied 9 = .ok (.iload_n 2, 1)) ?_
    refine q_call2 C (q_coV C (np := 1) (ci := 11) (rc := (RX11, TX11, 35)) (t_X11_isWork l) w9_48 rfl rfl w9_49 w9_50 w9_51 w9_6 (by decide +kernel) (by decide +kernel : decode cX11_copied 10 = .ok (.invokevirtual 140, 3)) (by decide)) ?_
    refine q_ifeq C (tgt := 26) (by decide +kernel : decode cX11_copied 13 = .ok (.ifCond .eq 13, 3)) (by decide) ?_ ?_
    · exact v_X11_copied_26 C hK
    · refine q_iload_n C (by decide +kernel : decode cX11_copied 16 = .ok (.iload_n 3, 1)) ?_
      refine q_iconst C (by decide +kernel : decode cX11_copied 17 = .ok (.iconst 1, 1)) (by decide) ?_
      refine q_bipush C (by decide +kernel : decode cX11_copied 18 = .ok (.bipush 100, 2)) (by decide) ?_
      refine q_call3 C (q_coS C (np := 3) (t_X11_in l) w9_5 w9_8 w9_7 w9_6 (by decide +kernel) (by decide +kernel : decode cX11_copied 20 = .ok (.invokestatic 92, 3)) (by decide)) ?_
      refine q_ifne C (tgt := 29) (by decide +kernel : decode cX11_copied 23 = .ok (.ifCond .ne 6, 3)) (by decide) ?_ ?_
      · exact v_X11_copied_29 C hK
      · exact v_X11_copied_26 C hK
set_option maxRecDepth 100000 in
theorem v_X11_copied_79 {p : Program} {l : Launch} {e : Env} {s : State} {m : MethodId} {args : Array Value} {below : List Frame} {meth : Method} {c : Code} {D : va_G} {A : Nat → Prop} {post : Option Value → q_S → Prop} {K : Nat → q_K} (C : q_C p s m args meth c cX11_copied 6 RX11 "copied" (some .int) A) (hK : ∀ h ∈ ([41] : List Nat), q_V p l e rm_X11_copied s m args below meth c D A 6 (MQ below (q_Qc D A post) args s rm_X11_copied.cells rm_X11_copied.slots A) h (K h)) : q_V p l e rm_X11_copied s m args below meth c D A 6 (MQ below (q_Qc D A post) args s rm_X11_copied.cells rm_X11_copied.slots A) 79 (k_X11_copied_79 post K) := by
  unfold k_X11_copied_79
  refine q_iadd C (by decide +kernel : decode cX11_copied 79 = .ok (.iadd, 1)) ?_
  refine q_istore C (by decide +kernel : decode cX11_copied 80 = .ok (.istore 4, 2)) ?_
  refine q_iinc C (by decide +kernel : decode cX11_copied 82 = .ok (.iinc 5 1, 3)) (by decide) ?_
  refine q_goto C (tgt := 41) (by decide +kernel : decode cX11_copied 85 = .ok (.goto (-44), 3)) (by decide) ?_
  exact hK 41 (by decide)
set_option maxRecDepth 100000 in
theorem v_X11_copied_118 {p : Program} {l : Launch} {e : Env} {s : State} {m : MethodId} {args : Array Value} {below : List Frame} {meth : Method} {c : Code} {D : va_G} {A : Nat → Prop} {post : Option Value → q_S → Prop} {K : Nat → q_K} (C : q_C p s m args meth c cX11_copied 6 RX11 "copied" (some .int) A) (hK : ∀ h ∈ ([41] : List Nat), q_V p l e rm_X11_copied s m args below meth c D A 6 (MQ below (q_Qc D A post) args s rm_X11_copied.cells rm_X11_copied.slots A) h (K h)) : q_V p l e rm_X11_copied s m args below meth c D A 6 (MQ below (q_Qc D A post) args s rm_X11_copied.cells rm_X11_copied.slots A) 118 (k_X11_copied_118 post K) := by
  unfold k_X11_copied_118
  exact q_iret C rfl (by decide +kernel : decode cX11_copied 118 = .ok (.ireturn, 1))
set_option maxRecDepth 100000 in
theorem v_X11_copied_117 {p : Program} {l : Launch} {e : Env} {s : State} {m : MethodId} {args : Array Value} {below : List Frame} {meth : Method} {c : Code} {D : va_G} {A : Nat → Prop} {post : Option Value → q_S → Prop} {K : Nat → q_K} (C : q_C p s m args meth c cX11_copied 6 RX11 "copied" (some .int) A) (hK : ∀ h ∈ ([41] : List Nat), q_V p l e rm_X11_copied s m args below meth c D A 6 (MQ below (q_Qc D A post) args s rm_X11_copied.cells rm_X11_copied.slots A) h (K h)) : q_V p l e rm_X11_copied s m args below meth c D A 6 (MQ below (q_Qc D A post) args s rm_X11_copied.cells rm_X11_copied.slots A) 117 (k_X11_copied_117 post K) := by
  unfold k_X11_copied_117
  refine q_iconst C (by decide +kernel : decode cX11_copied 117 = .ok (.iconst 0, 1)) (by decide) ?_
  exact v_X11_copied_118 C hK
set_option maxRecDepth 100000 in
theorem v_X11_copied_41 {p : Program} {l : Launch} {e : Env} {s : State} {m : MethodId} {args : Array Value} {below : List Frame} {meth : Method} {c : Code} {D : va_G} {A : Nat → Prop} {post : Option Value → q_S → Prop} {K : Nat → q_K} (C : q_C p s m args meth c cX11_copied 6 RX11 "copied" (some .int) A) (hK : ∀ h ∈ ([41] : List Nat), q_V p l e rm_X11_copied s m args below meth c D A 6 (MQ below (q_Qc D A post) args s rm_X11_copied.cells rm_X11_copied.slots A) h (K h)) : q_V p l e rm_X11_copied s m args below meth c D A 6 (MQ below (q_Qc D A post) args s rm_X11_copied.cells rm_X11_copied.slots A) 41 (k_X11_copied_41 post K) := by
  unfold k_X11_copied_41
  refine q_iload C (by decide +kernel : decode cX11_copied 41 = .ok (.iload 5, 2)) ?_
  refine q_aload_n C (by decide +kernel : decode cX11_copied 43 = .ok (.aload_n 0, 1)) ?_
  refine q_get C (ci := 11) (j := 29) (C0 := RX11) (T := TX11) (N := 35) rfl iX11 giX11 (by decide) w9_30 (by decide +kernel : decode cX11_copied 44 = .ok (.getfield 80, 3)) ?_
  refine q_iload_n C (by decide +kernel : decode cX11_copied 47 = .ok (.iload_n 1, 1)) ?_
  refine q_iald C (by decide +kernel : decode cX11_copied 48 = .ok (.iaload, 1)) ?_
  refine q_icge C (tgt := 88) (by decide +kernel : decode cX11_copied 49 = .ok (.if_icmp .ge 39, 3)) (by decide) ?_ ?_
  · refine q_aload_n C (by decide +kernel : decode cX11_copied 88 = .ok (.aload_n 0, 1)) ?_
    refine q_get C (ci := 11) (j := 34) (C0 := RX11) (T := TX11) (N := 35) rfl iX11 giX11 (by decide) w9_102 (by decide +kernel : decode cX11_copied 89 = .ok (.getfield 89, 3)) ?_
    refine q_iconst C (by decide +kernel : decode cX11_copied 92 = .ok (.iconst 0, 1)) (by decide) ?_
    refine q_iald C (by decide +kernel : decode cX11_copied 93 = .ok (.iaload, 1)) ?_
    refine q_ifle C (tgt := 117) (by decide +kernel : decode cX11_copied 94 = .ok (.ifCond .le 23, 3)) (by decide) ?_ ?_
    · exact v_X11_copied_117 C hK
    · refine q_bipush C (by decide +kernel : decode cX11_copied 97 = .ok (.bipush 100, 2)) (by decide) ?_
      refine q_aload_n C (by decide +kernel : decode cX11_copied 99 = .ok (.aload_n 0, 1)) ?_
      refine q_get C (ci := 11) (j := 34) (C0 := RX11) (T := TX11) (N := 35) rfl iX11 giX11 (by decide) w9_102 (by decide +kernel : decode cX11_copied 100 = .ok (.getfield 89, 3)) ?_
      refine q_iconst C (by decide +kernel : decode cX11_copied 103 = .ok (.iconst 0, 1)) (by decide) ?_
      refine q_iald C (by decide +kernel : decode cX11_copied 104 = .ok (.iaload, 1)) ?_
      refine q_imul C (by decide +kernel : decode cX11_copied 105 = .ok (.imul, 1)) ?_
      refine q_iload_n C (by decide +kernel : decode cX11_copied 106 = .ok (.iload_n 3, 1)) ?_
      refine q_iload C (by decide +kernel : decode cX11_copied 107 = .ok (.iload 4, 2)) ?_
      refine q_imul C (by decide +kernel : decode cX11_copied 109 = .ok (.imul, 1)) ?_
      refine q_iclt C (tgt := 117) (by decide +kernel : decode cX11_copied 110 = .ok (.if_icmp .lt 7, 3)) (by decide) ?_ ?_
      · exact v_X11_copied_117 C hK
      · refine q_iconst C (by decide +kernel : decode cX11_copied 113 = .ok (.iconst 1, 1)) (by decide) ?_
        refine q_goto C (tgt := 118) (by decide +kernel : decode cX11_copied 114 = .ok (.goto 4, 3)) (by decide) ?_
        exact v_X11_copied_118 C hK
  · refine q_iload C (by decide +kernel : decode cX11_copied 52 = .ok (.iload 4, 2)) ?_
    refine q_aload_n C (by decide +kernel : decode cX11_copied 54 = .ok (.aload_n 0, 1)) ?_
    refine q_get C (ci := 11) (j := 32) (C0 := RX11) (T := TX11) (N := 35) rfl iX11 giX11 (by decide) w9_85 (by decide +kernel : decode cX11_copied 55 = .ok (.getfield 86, 3)) ?_
    refine q_aload_n C (by decide +kernel : decode cX11_copied 58 = .ok (.aload_n 0, 1)) ?_
    refine q_get C (ci := 11) (j := 30) (C0 := RX11) (T := TX11) (N := 35) rfl iX11 giX11 (by decide) w9_84 (by decide +kernel : decode cX11_copied 59 = .ok (.getfield 83, 3)) ?_
    refine q_bipush C (by decide +kernel : decode cX11_copied 62 = .ok (.bipush 20, 2)) (by decide) ?_
    refine q_iload_n C (by decide +kernel : decode cX11_copied 64 = .ok (.iload_n 1, 1)) ?_
    refine q_imul C (by decide +kernel : decode cX11_copied 65 = .ok (.imul, 1)) ?_
    refine q_iload C (by decide +kernel : decode cX11_copied 66 = .ok (.iload 5, 2)) ?_
    refine q_iadd C (by decide +kernel : decode cX11_copied 68 = .ok (.iadd, 1)) ?_
    refine q_iald C (by decide +kernel : decode cX11_copied 69 = .ok (.iaload, 1)) ?_
    refine q_zald C (by decide +kernel : decode cX11_copied 70 = .ok (.baload, 1)) ?_
    refine q_ifeq C (tgt := 78) (by decide +kernel : decode cX11_copied 71 = .ok (.ifCond .eq 7, 3)) (by decide) ?_ ?_
    · refine q_iconst C (by decide +kernel : decode cX11_copied 78 = .ok (.iconst 1, 1)) (by decide) ?_
      exact v_X11_copied_79 C hK
    · refine q_iconst C (by decide +kernel : decode cX11_copied 74 = .ok (.iconst 0, 1)) (by decide) ?_
      refine q_goto C (tgt := 79) (by decide +kernel : decode cX11_copied 75 = .ok (.goto 4, 3)) (by decide) ?_
      exact v_X11_copied_79 C hK
theorem u_X11_copied (l : Launch) {sp : q_Sp} (H : ∀ (av : List Value) (σ : q_S) (post : Option Value → q_S → Prop), sp av σ post → ∃ Inv : Nat → Nat → q_K, (∀ K : Nat → q_K, (∀ (h n : Nat) (L : List (Option Value)) (st : List Value) (σ : q_S) (cr sr : Nat), Inv h n L st σ cr sr → K h L st σ cr sr) → k_X11_copied_0 post K (q_L0 av 6) [] σ 0 0) ∧ (∀ (K : Nat → q_K) (n : Nat), (∀ (h m : Nat) (L : List (Option Value)) (st : List Value) (σ : q_S) (cr sr : Nat), m < n → Inv h m L st σ cr sr → K h L st σ cr sr) → ∀ (L : List (Option Value)) (st : List Value) (σ : q_S) (cr sr : Nat), Inv 41 n L st σ cr sr → k_X11_copied_41 post K L st σ cr sr) ∧ av.length ≤ 6 ∧ ∀ v ∈ av, v.category = 1) : q_Ct l yX11_copied cX11_copied 6 (some .int) rm_X11_copied sp := by
  refine q_met (by decide) ?_
  intro D A p e s m args below meth c σ av post C hsp
  obtain ⟨Inv, h1, hh41, h2, h3⟩ := H av σ post hsp
  have hV := q_loops (p := p) (l := l) (e := e) (R := rm_X11_copied) (s := s) (m := m) (args := args) (below := below) (meth := meth) (c := c) (D := D) (A := A) (nL := 6) (Q := MQ below (q_Qc D A post) args s rm_X11_copied.cells rm_X11_copied.slots A) [41] (fun h =>  k_X11_copied_41 post) (fun K hK h hh => ?_) Inv (fun n h hh => ?_)
  · exact ⟨_, v_X11_copied_0 C hV, h1 _ (fun h n L st σ cr sr hi => ⟨n, hi⟩), h2, h3⟩
  · have e9 : h = 41 := by simpa using hh
    subst e9
    exact v_X11_copied_41 C hK
  · have e9 : h = 41 := by simpa using hh
    subst e9
    exact hh41 (fun h L st σ cr sr => ∃ m : Nat, m < n ∧ Inv h m L st σ cr sr) n (fun h m L st σ cr sr hm hi => ⟨m, hm, hi⟩)
theorem t_X11_copied (l : Launch) : q_Ct l yX11_copied cX11_copied 6 (some .int) rm_X11_copied s_X11_copied := u_X11_copied l (by
  intro av σ post h
  unfold s_X11_copied at h
  split at h
  · next mr a b p =>
    obtain ⟨ad, z, g, ⟨gp, r, hm⟩, hI, hLM, hLV, h1⟩ := h
    have hI0 := hI
    unfold I1 at hI
    unfold F_copied at h1
    refine ⟨fun _ n L st σ' cr sr => ∃ (i : Nat) (r' : Nat → Int32), isW z a ∧ isW z b ∧ (1 ≤ p ∧ p ≤ 100) ∧ i ≤ lmN g a.toNatClampNeg ∧ n = lmN g a.toNatClampNeg - i ∧ mOKx σ' mr ad z g gp r' ∧ tabOK r' g a.toNatClampNeg b.toNatClampNeg (fun _ _ => True) ∧ st = [] ∧ L = [some (.ref mr), some (.int a), some (.int b), some (.int p), some (.int (ownF g a.toNatClampNeg i)), some (.int (nI i))], ?_, ?_, by simp, by simp [Value.category]⟩
    · intro K hK
      have JB : ¬ (isW z a ∧ isW z b ∧ 1 ≤ p ∧ p ≤ 100) → post (some (.int (-2))) σ := fun c => by
        rw [if_neg c] at h1
        exact h1 _ ⟨gp, r, hm⟩
      simp only [c_push, c_null, c_iload, c_aload, c_istore, c_astore, c_iinc, c_iadd, c_isub, c_imul, c_iand, c_ineg, c_dup, c_dup2, c_pop, c_ifnull, c_ifnonnull, c_get, c_put, c_iald, c_zald, c_iast, c_zast, c_aald, c_aast, c_alen, c_new, c_newa, c_newq, c_mna, c_oinit, c_max, c_copy, c_iret, c_zret, c_aret, c_vret, q_do, q_rc, c_ifeq, c_ifne, c_iflt, c_ifge, c_ifgt, c_ifle, c_iceq, c_icne, c_iclt, c_icge, c_icgt, c_icle, c_call0, c_call1, c_call2, c_call3, c_call4, c_call5, c_call6, c_call7, q_L0, List.map_cons, List.map_nil, List.replicate, List.cons_append, List.nil_append, List.append_nil, List.length_cons, List.length_nil, List.length_set, Nat.reduceSub, Nat.reduceAdd, Nat.reduceLT, Nat.reduceLeDiff, Nat.zero_add, Nat.add_zero, Nat.sub_zero, Nat.sub_self, List.getElem?_cons_zero, List.getElem?_cons_succ, List.set_cons_zero, List.set_cons_succ, Option.toList_some, Option.toList_none, List.sum_cons, List.sum_nil, true_and, and_true, true_or, or_true, Nat.le_refl, Nat.zero_le, Value.category, Fin.isValue, Fin.val_zero, Fin.val_one, Fin.val_two, Fin.reduceFinMk, q_10, q_01, not_false_eq_true, not_true_eq_false, forall_const, true_implies, false_implies, implies_true, q_ni, q_fi, q_nb0, q_nb1, q_fb0, q_fb1, q_nor, q_nar, q_for, q_far, q_non, q_nan, q_fon, q_fan, imp_false, false_and, and_false, and_self, false_or, or_false, va_rf, refKind, k_X11_copied_0, k_X11_copied_26, hm.rd, s_X11_isWork, s_X11_in, s_X10_isWithin]
      refine ⟨hI.2.2.2.1, fun c1 => ⟨hI.2.2.2.1, fun c2 => ⟨fun c3 => ?_, fun c => JB (by grind)⟩, fun c => JB (by grind)⟩, fun c => JB (by grind)⟩
      simp only [c_push, c_null, c_iload, c_aload, c_istore, c_astore, c_iinc, c_iadd, c_isub, c_imul, c_iand, c_ineg, c_dup, c_dup2, c_pop, c_ifnull, c_ifnonnull, c_get, c_put, c_iald, c_zald, c_iast, c_zast, c_aald, c_aast, c_alen, c_new, c_newa, c_newq, c_mna, c_oinit, c_max, c_copy, c_iret, c_zret, c_aret, c_vret, q_do, q_rc, c_ifeq, c_ifne, c_iflt, c_ifge, c_ifgt, c_ifle, c_iceq, c_icne, c_iclt, c_icge, c_icgt, c_icle, c_call0, c_call1, c_call2, c_call3, c_call4, c_call5, c_call6, c_call7, q_L0, List.map_cons, List.map_nil, List.replicate, List.cons_append, List.nil_append, List.append_nil, List.length_cons, List.length_nil, List.length_set, Nat.reduceSub, Nat.reduceAdd, Nat.reduceLT, Nat.reduceLeDiff, Nat.zero_add, Nat.add_zero, Nat.sub_zero, Nat.sub_self, List.getElem?_cons_zero, List.getElem?_cons_succ, List.set_cons_zero, List.set_cons_succ, Option.toList_some, Option.toList_none, List.sum_cons, List.sum_nil, true_and, and_true, true_or, or_true, Nat.le_refl, Nat.zero_le, Value.category, Fin.isValue, Fin.val_zero, Fin.val_one, Fin.val_two, Fin.reduceFinMk, q_10, q_01, not_false_eq_true, not_true_eq_false, forall_const, true_implies, false_implies, implies_true, q_ni, q_fi, q_nb0, q_nb1, q_fb0, q_fb1, q_nor, q_nar, q_for, q_far, q_non, q_nan, q_fon, q_fan, imp_false, false_and, and_false, and_self, false_or, or_false, va_rf, refKind, k_X11_copied_29, hm.rd]
      refine ⟨ad, z, g, gp, r, hm, hI0, c1, c2, hLM, hLV, fun σ' r' hm' hT => ?_⟩
      simp only [c_push, c_null, c_iload, c_aload, c_istore, c_astore, c_iinc, c_iadd, c_isub, c_imul, c_iand, c_ineg, c_dup, c_dup2, c_pop, c_ifnull, c_ifnonnull, c_get, c_put, c_iald, c_zald, c_iast, c_zast, c_aald, c_aast, c_alen, c_new, c_newa, c_newq, c_mna, c_oinit, c_max, c_copy, c_iret, c_zret, c_aret, c_vret, q_do, q_rc, c_ifeq, c_ifne, c_iflt, c_ifge, c_ifgt, c_ifle, c_iceq, c_icne, c_iclt, c_icge, c_icgt, c_icle, c_call0, c_call1, c_call2, c_call3, c_call4, c_call5, c_call6, c_call7, q_L0, List.map_cons, List.map_nil, List.replicate, List.cons_append, List.nil_append, List.append_nil, List.length_cons, List.length_nil, List.length_set, Nat.reduceSub, Nat.reduceAdd, Nat.reduceLT, Nat.reduceLeDiff, Nat.zero_add, Nat.add_zero, Nat.sub_zero, Nat.sub_self, List.getElem?_cons_zero, List.getElem?_cons_succ, List.set_cons_zero, List.set_cons_succ, Option.toList_some, Option.toList_none, List.sum_cons, List.sum_nil, true_and, and_true, true_or, or_true, Nat.le_refl, Nat.zero_le, Value.category, Fin.isValue, Fin.val_zero, Fin.val_one, Fin.val_two, Fin.reduceFinMk, q_10, q_01, not_false_eq_true, not_true_eq_false, forall_const, true_implies, false_implies, implies_true, q_ni, q_fi, q_nb0, q_nb1, q_fb0, q_fb1, q_nor, q_nar, q_for, q_far, q_non, q_nan, q_fon, q_fan, imp_false, false_and, and_false, and_self, false_or, or_false, va_rf, refKind]
      exact hK _ (lmN g a.toNatClampNeg) _ _ _ _ _ ⟨0, r', c1, c2, c3, Nat.zero_le _, rfl, hm', hT, rfl, rfl⟩
    · rintro K n hK L st σ' cr sr ⟨i, r', ha, hb, hp, hi, rfl, hm', hT, rfl, rfl⟩
      have ha2 : 0 ≤ a ∧ a < 20 := ⟨ha.1, by grind⟩
      have hla := hLM.at ha.1 ha.2 ha2.2
      have ela := nI_self hla.1
      have hA20 : lmN g a.toNatClampNeg ≤ 20 := clamp_le 20 hla.1 hla.2
      have han := clamp_lt 20 ha2.1 ha2.2
      have ean := nI_self ha2.1
      rw [if_pos ⟨ha, hb, hp⟩] at h1
      have h2 := h1 _ ⟨gp, r', hm'⟩
      have t0 := hT 0 0 (Nat.zero_le _) (Nat.zero_le _) trivial
      have e0 : (0 : Int32).toNatClampNeg = 0 := rfl
      have J : i < lmN g a.toNatClampNeg → k_X11_copied_79 post K [some (.ref mr), some (.int a), some (.int b), some (.int p), some (.int (ownF g a.toNatClampNeg i)), some (.int (nI i))] [.int (if g 32 (g 30 (20 * a.toNatClampNeg + i)).toNatClampNeg = 0 then 1 else 0), .int (ownF g a.toNatClampNeg i)] σ' cr sr := fun hlt => by
        simp only [c_push, c_null, c_iload, c_aload, c_istore, c_astore, c_iinc, c_iadd, c_isub, c_imul, c_iand, c_ineg, c_dup, c_dup2, c_pop, c_ifnull, c_ifnonnull, c_get, c_put, c_iald, c_zald, c_iast, c_zast, c_aald, c_aast, c_alen, c_new, c_newa, c_newq, c_mna, c_oinit, c_max, c_copy, c_iret, c_zret, c_aret, c_vret, q_do, q_rc, c_ifeq, c_ifne, c_iflt, c_ifge, c_ifgt, c_ifle, c_iceq, c_icne, c_iclt, c_icge, c_icgt, c_icle, c_call0, c_call1, c_call2, c_call3, c_call4, c_call5, c_call6, c_call7, q_L0, List.map_cons, List.map_nil, List.replicate, List.cons_append, List.nil_append, List.append_nil, List.length_cons, List.length_nil, List.length_set, Nat.reduceSub, Nat.reduceAdd, Nat.reduceLT, Nat.reduceLeDiff, Nat.zero_add, Nat.add_zero, Nat.sub_zero, Nat.sub_self, List.getElem?_cons_zero, List.getElem?_cons_succ, List.set_cons_zero, List.set_cons_succ, Option.toList_some, Option.toList_none, List.sum_cons, List.sum_nil, true_and, and_true, true_or, or_true, Nat.le_refl, Nat.zero_le, Value.category, Fin.isValue, Fin.val_zero, Fin.val_one, Fin.val_two, Fin.reduceFinMk, q_10, q_01, not_false_eq_true, not_true_eq_false, forall_const, true_implies, false_implies, implies_true, q_ni, q_fi, q_nb0, q_nb1, q_fb0, q_fb1, q_nor, q_nar, q_for, q_far, q_non, q_nan, q_fon, q_fan, imp_false, false_and, and_false, and_self, false_or, or_false, va_rf, refKind, k_X11_copied_79]
        exact hK _ (lmN g a.toNatClampNeg - (i + 1)) _ _ _ _ _ (by omega) ⟨i + 1, r', ha, hb, hp, by omega, rfl, hm', hT, rfl, by rw [nI_1, ownF]⟩
      have hx : i < 20 → (20 * a + nI i).toNatClampNeg = 20 * a.toNatClampNeg + i ∧ 0 ≤ 20 * a + nI i ∧ 20 * a + nI i < 400 := fun h => by
        have := at30 ha2 (i := nI i) ⟨nI_low (by omega), nI_ltN (N := 20) (by omega)⟩
        rw [clN (by omega)] at this
        exact ⟨this.2, this.1.1, this.1.2⟩
      simp only [c_push, c_null, c_iload, c_aload, c_istore, c_astore, c_iinc, c_iadd, c_isub, c_imul, c_iand, c_ineg, c_dup, c_dup2, c_pop, c_ifnull, c_ifnonnull, c_get, c_put, c_iald, c_zald, c_iast, c_zast, c_aald, c_aast, c_alen, c_new, c_newa, c_newq, c_mna, c_oinit, c_max, c_copy, c_iret, c_zret, c_aret, c_vret, q_do, q_rc, c_ifeq, c_ifne, c_iflt, c_ifge, c_ifgt, c_ifle, c_iceq, c_icne, c_iclt, c_icge, c_icgt, c_icle, c_call0, c_call1, c_call2, c_call3, c_call4, c_call5, c_call6, c_call7, q_L0, List.map_cons, List.map_nil, List.replicate, List.cons_append, List.nil_append, List.append_nil, List.length_cons, List.length_nil, List.length_set, Nat.reduceSub, Nat.reduceAdd, Nat.reduceLT, Nat.reduceLeDiff, Nat.zero_add, Nat.add_zero, Nat.sub_zero, Nat.sub_self, List.getElem?_cons_zero, List.getElem?_cons_succ, List.set_cons_zero, List.set_cons_succ, Option.toList_some, Option.toList_none, List.sum_cons, List.sum_nil, true_and, and_true, true_or, or_true, Nat.le_refl, Nat.zero_le, Value.category, Fin.isValue, Fin.val_zero, Fin.val_one, Fin.val_two, Fin.reduceFinMk, q_10, q_01, not_false_eq_true, not_true_eq_false, forall_const, true_implies, false_implies, implies_true, q_ni, q_fi, q_nb0, q_nb1, q_fb0, q_fb1, q_nor, q_nar, q_for, q_far, q_non, q_nan, q_fon, q_fan, imp_false, false_and, and_false, and_self, false_or, or_false, va_rf, refKind, k_X11_copied_41, k_X11_copied_117, k_X11_copied_118, hm'.rd, vpi20, vpi400, vpi441, vpi1000, ha2, e0, t0]
      rw [← ela, (cl2 (nI (lmN g a.toNatClampNeg)) (nI i) _ _ rfl rfl (by omega) (by omega)).1]
      refine ⟨fun c => ?_, fun c => ?_⟩
      · have e : i = lmN g a.toNatClampNeg := by omega
        rw [e]
        clear hK J hm' hx hT h1 t0
        grind
      · replace hx := hx (by omega)
        replace J := J (by omega)
        have hv := hLV a.toNatClampNeg i (by rw [ean]; exact ha.2) han (by omega)
        simp only [c_push, c_null, c_iload, c_aload, c_istore, c_astore, c_iinc, c_iadd, c_isub, c_imul, c_iand, c_ineg, c_dup, c_dup2, c_pop, c_ifnull, c_ifnonnull, c_get, c_put, c_iald, c_zald, c_iast, c_zast, c_aald, c_aast, c_alen, c_new, c_newa, c_newq, c_mna, c_oinit, c_max, c_copy, c_iret, c_zret, c_aret, c_vret, q_do, q_rc, c_ifeq, c_ifne, c_iflt, c_ifge, c_ifgt, c_ifle, c_iceq, c_icne, c_iclt, c_icge, c_icgt, c_icle, c_call0, c_call1, c_call2, c_call3, c_call4, c_call5, c_call6, c_call7, q_L0, List.map_cons, List.map_nil, List.replicate, List.cons_append, List.nil_append, List.append_nil, List.length_cons, List.length_nil, List.length_set, Nat.reduceSub, Nat.reduceAdd, Nat.reduceLT, Nat.reduceLeDiff, Nat.zero_add, Nat.add_zero, Nat.sub_zero, Nat.sub_self, List.getElem?_cons_zero, List.getElem?_cons_succ, List.set_cons_zero, List.set_cons_succ, Option.toList_some, Option.toList_none, List.sum_cons, List.sum_nil, true_and, and_true, true_or, or_true, Nat.le_refl, Nat.zero_le, Value.category, Fin.isValue, Fin.val_zero, Fin.val_one, Fin.val_two, Fin.reduceFinMk, q_10, q_01, not_false_eq_true, not_true_eq_false, forall_const, true_implies, false_implies, implies_true, q_ni, q_fi, q_nb0, q_nb1, q_fb0, q_fb1, q_nor, q_nar, q_for, q_far, q_non, q_nan, q_fon, q_fan, imp_false, false_and, and_false, and_self, false_or, or_false, va_rf, refKind, hx]
        refine ⟨by grind, fun c2 => ?_, fun c2 => ?_⟩
        all_goals simp only [c2, if_true, if_false] at J
        all_goals exact J
  · exact h.elim)
-- placeFor
def s_X11_placeFor : q_Sp := fun av σ post => match av with
  | [.ref mr, .int a, .int i, .int b, .int f, .int mo] => ∃ ad z g gp r, mOKx σ mr ad z g gp r ∧ I1 z ∧ isW z a ∧ isW z b ∧ LM z g ∧ LV z g ∧ tabOK r g a.toNatClampNeg b.toNatClampNeg (fun _ _ => True) ∧ ∃ (iN fN mN' : Nat), iN < lmN g a.toNatClampNeg ∧ fN ≤ lmN g b.toNatClampNeg ∧ mN' ≤ 1000 ∧ i = nI iN ∧ f = nI fN ∧ mo = nI mN' ∧
      (∀ j : Nat, fN ≤ j → j < lmN g b.toNatClampNeg → likB g a.toNatClampNeg b.toNatClampNeg iN j = true → mN' ≤ RNg g a.toNatClampNeg b.toNatClampNeg (iN + 1) (j + 1) → (∀ j' : Nat, fN ≤ j' → j' < j → ¬ (likB g a.toNatClampNeg b.toNatClampNeg iN j' = true ∧ mN' ≤ RNg g a.toNatClampNeg b.toNatClampNeg (iN + 1) (j' + 1))) → post (some (.int (nI j))) σ) ∧
      ((∀ j : Nat, fN ≤ j → j < lmN g b.toNatClampNeg → ¬ (likB g a.toNatClampNeg b.toNatClampNeg iN j = true ∧ mN' ≤ RNg g a.toNatClampNeg b.toNatClampNeg (iN + 1) (j + 1))) → post (some (.int (-1))) σ)
  | _ => False
def rm_X11_placeFor : Room := { frames := 1, cells := 0, slots := 0, locals := 25 }
def k_X11_placeFor_0 (post : Option Value → q_S → Prop) (K : Nat → q_K) : q_K := (c_iload 4 (c_istore 6 (K 4)))
def k_X11_placeFor_51 (post : Option Value → q_S → Prop) (K : Nat → q_K) : q_K := (c_iinc 6 1 (K 4))
def k_X11_placeFor_27 (post : Option Value → q_S → Prop) (K : Nat → q_K) : q_K := (c_aload 0 (c_get 11 34 (c_push 21 (c_iload 2 (c_push 1 (c_iadd (c_imul (c_iload 6 (c_iadd (c_push 1 (c_iadd (c_iald (c_iload 5 (c_iclt (k_X11_placeFor_51 post K) (c_iload 6 (c_iret post))))))))))))))))
def k_X11_placeFor_4 (post : Option Value → q_S → Prop) (K : Nat → q_K) : q_K := (c_iload 6 (c_aload 0 (c_get 11 29 (c_iload 3 (c_iald (c_icge (c_push (-1) (c_iret post)) (c_aload 0 (c_iload 1 (c_iload 2 (c_iload 3 (c_iload 6 (c_call5 (some 11) s_X11_areLike 0 0 (c_ifeq (k_X11_placeFor_51 post K) (k_X11_placeFor_27 post K))))))))))))))
set_option maxRecDepth 100000 in
theorem v_X11_placeFor_0 {p : Program} {l : Launch} {e : Env} {s : State} {m : MethodId} {args : Array Value} {below : List Frame} {meth : Method} {c : Code} {D : va_G} {A : Nat → Prop} {post : Option Value → q_S → Prop} {K : Nat → q_K} (C : q_C p s m args meth c cX11_placeFor 7 RX11 "placeFor" (some .int) A) (hK : ∀ h ∈ ([4] : List Nat), q_V p l e rm_X11_placeFor s m args below meth c D A 7 (MQ below (q_Qc D A post) args s rm_X11_placeFor.cells rm_X11_placeFor.slots A) h (K h)) : q_V p l e rm_X11_placeFor s m args below meth c D A 7 (MQ below (q_Qc D A post) args s rm_X11_placeFor.cells rm_X11_placeFor.slots A) 0 (k_X11_placeFor_0 post K) := by
  unfold k_X11_placeFor_0
  refine q_iload C (by decide +kernel : decode cX11_placeFor 0 = .ok (.iload 4, 2)) ?_
  refine q_istore C (by decide +kernel : decode cX11_placeFor 2 = .ok (.istore 6, 2)) ?_
  exact hK 4 (by decide)
set_option maxRecDepth 100000 in
theorem v_X11_placeFor_51 {p : Program} {l : Launch} {e : Env} {s : State} {m : MethodId} {args : Array Value} {below : List Frame} {meth : Method} {c : Code} {D : va_G} {A : Nat → Prop} {post : Option Value → q_S → Prop} {K : Nat → q_K} (C : q_C p s m args meth c cX11_placeFor 7 RX11 "placeFor" (some .int) A) (hK : ∀ h ∈ ([4] : List Nat), q_V p l e rm_X11_placeFor s m args below meth c D A 7 (MQ below (q_Qc D A post) args s rm_X11_placeFor.cells rm_X11_placeFor.slots A) h (K h)) : q_V p l e rm_X11_placeFor s m args below meth c D A 7 (MQ below (q_Qc D A post) args s rm_X11_placeFor.cells rm_X11_placeFor.slots A) 51 (k_X11_placeFor_51 post K) := by
  unfold k_X11_placeFor_51
  refine q_iinc C (by decide +kernel : decode cX11_placeFor 51 = .ok (.iinc 6 1, 3)) (by decide) ?_
  refine q_goto C (tgt := 4) (by decide +kernel : decode cX11_placeFor 54 = .ok (.goto (-50), 3)) (by decide) ?_
  exact hK 4 (by decide)
set_option maxRecDepth 100000 in
theorem v_X11_placeFor_27 {p : Program} {l : Launch} {e : Env} {s : State} {m : MethodId} {args : Array Value} {below : List Frame} {meth : Method} {c : Code} {D : va_G} {A : Nat → Prop} {post : Option Value → q_S → Prop} {K : Nat → q_K} (C : q_C p s m args meth c cX11_placeFor 7 RX11 "placeFor" (some .int) A) (hK : ∀ h ∈ ([4] : List Nat), q_V p l e rm_X11_placeFor s m args below meth c D A 7 (MQ below (q_Qc D A post) args s rm_X11_placeFor.cells rm_X11_placeFor.slots A) h (K h)) : q_V p l e rm_X11_placeFor s m args below meth c D A 7 (MQ below (q_Qc D A post) args s rm_X11_placeFor.cells rm_X11_placeFor.slots A) 27 (k_X11_placeFor_27 post K) := by
  unfold k_X11_placeFor_27
  refine q_aload_n C (by decide +kernel : decode cX11_placeFor 27 = .ok (.aload_n 0, 1)) ?_
  refine q_get C (ci := 11) (j := 34) (C0 := RX11) (T := TX11) (N := 35) rfl iX11 giX11 (by decide) w9_102 (by decide +kernel : decode cX11_placeFor 28 = .ok (.getfield 89, 3)) ?_
  refine q_bipush C (by decide +kernel : decode cX11_placeFor 31 = .ok (.bipush 21, 2)) (by decide) ?_
  refine q_iload_n C (by decide +kernel : decode cX11_placeFor 33 = .ok (.iload_n 2, 1)) ?_
  refine q_iconst C (by decide +kernel : decode cX11_placeFor 34 = .ok (.iconst 1, 1)) (by decide) ?_
  refine q_iadd C (by decide +kernel : decode cX11_placeFor 35 = .ok (.iadd, 1)) ?_
  refine q_imul C (by decide +kernel : decode cX11_placeFor 36 = .ok (.imul, 1)) ?_
  refine q_iload C (by decide +kernel : decode cX11_placeFor 37 = .ok (.iload 6, 2)) ?_
  refine q_iadd C (by decide +kernel : decode cX11_placeFor 39 = .ok (.iadd, 1)) ?_
  refine q_iconst C (by decide +kernel : decode cX11_placeFor 40 = .ok (.iconst 1, 1)) (by decide) ?_
  refine q_iadd C (by decide +kernel : decode cX11_placeFor 41 = .ok (.iadd, 1)) ?_
  refine q_iald C (by decide +kernel : decode cX11_placeFor 42 = .ok (.iaload, 1)) ?_
  refine q_iload C (by decide +kernel : decode cX11_placeFor 43 = .ok (.iload 5, 2)) ?_
  refine q_iclt C (tgt := 51) (by decide +kernel : decode cX11_placeFor 45 = .ok (.if_icmp .lt 6, 3)) (by decide) ?_ ?_
  · exact v_X11_placeFor_51 C hK
  · refine q_iload C (by decide +kernel : decode cX11_placeFor 48 = .ok (.iload 6, 2)) ?_
    exact q_iret C rfl (by decide +kernel : decode cX11_placeFor 50 = .ok (.ireturn, 1))
set_option maxRecDepth 100000 in
theorem v_X11_placeFor_4 {p : Program} {l : Launch} {e : Env} {s : State} {m : MethodId} {args : Array Value} {below : List Frame} {meth : Method} {c : Code} {D : va_G} {A : Nat → Prop} {post : Option Value → q_S → Prop} {K : Nat → q_K} (C : q_C p s m args meth c cX11_placeFor 7 RX11 "placeFor" (some .int) A) (hK : ∀ h ∈ ([4] : List Nat), q_V p l e rm_X11_placeFor s m args below meth c D A 7 (MQ below (q_Qc D A post) args s rm_X11_placeFor.cells rm_X11_placeFor.slots A) h (K h)) : q_V p l e rm_X11_placeFor s m args below meth c D A 7 (MQ below (q_Qc D A post) args s rm_X11_placeFor.cells rm_X11_placeFor.slots A) 4 (k_X11_placeFor_4 post K) := by
  unfold k_X11_placeFor_4
  refine q_iload C (by decide +kernel : decode cX11_placeFor 4 = .ok (.iload 6, 2)) ?_
  refine q_aload_n C (by decide +kernel : decode cX11_placeFor 6 = .ok (.aload_n 0, 1)) ?_
  refine q_get C (ci := 11) (j := 29) (C0 := RX11) (T := TX11) (N := 35) rfl iX11 giX11 (by decide) w9_30 (by decide +kernel : decode cX11_placeFor 7 = .ok (.getfield 80, 3)) ?_
  refine q_iload_n C (by decide +kernel : decode cX11_placeFor 10 = .ok (.iload_n 3, 1)) ?_
  refine q_iald C (by decide +kernel : decode cX11_placeFor 11 = .ok (.iaload, 1)) ?_
  refine q_icge C (tgt := 57) (by decide +kernel : decode cX11_placeFor 12 = .ok (.if_icmp .ge 45, 3)) (by decide) ?_ ?_
  · refine q_iconst C (by decide +kernel : decode cX11_placeFor 57 = .ok (.iconst (-1), 1)) (by decide) ?_
    exact q_iret C rfl (by decide +kernel : decode cX11_placeFor 58 = .ok (.ireturn, 1))
  · refine q_aload_n C (by decide +kernel : decode cX11_placeFor 15 = .ok (.aload_n 0, 1)) ?_
    refine q_iload_n C (by decide +kernel : decode cX11_placeFor 16 = .ok (.iload_n 1, 1)) ?_
    refine q_iload_n C (by decide +kernel : decode cX11_placeFor 17 = .ok (.iload_n 2, 1)) ?_
    refine q_iload_n C (by decide +kernel : decode cX11_placeFor 18 = .ok (.iload_n 3, 1)) ?_
    refine q_iload C (by decide +kernel : decode cX11_placeFor 19 = .ok (.iload 6, 2)) ?_
    refine q_call5 C (q_coV C (np := 4) (ci := 11) (rc := (RX11, TX11, 35)) (t_X11_areLike l) w9_98 rfl rfl w9_99 w9_100 w9_101 w9_6 (by decide +kernel) (by decide +kernel : decode cX11_placeFor 21 = .ok (.invokevirtual 170, 3)) (by decide)) ?_
    refine q_ifeq C (tgt := 51) (by decide +kernel : decode cX11_placeFor 24 = .ok (.ifCond .eq 27, 3)) (by decide) ?_ ?_
    · exact v_X11_placeFor_51 C hK
    · exact v_X11_placeFor_27 C hK
theorem u_X11_placeFor (l : Launch) {sp : q_Sp} (H : ∀ (av : List Value) (σ : q_S) (post : Option Value → q_S → Prop), sp av σ post → ∃ Inv : Nat → Nat → q_K, (∀ K : Nat → q_K, (∀ (h n : Nat) (L : List (Option Value)) (st : List Value) (σ : q_S) (cr sr : Nat), Inv h n L st σ cr sr → K h L st σ cr sr) → k_X11_placeFor_0 post K (q_L0 av 7) [] σ 0 0) ∧ (∀ (K : Nat → q_K) (n : Nat), (∀ (h m : Nat) (L : List (Option Value)) (st : List Value) (σ : q_S) (cr sr : Nat), m < n → Inv h m L st σ cr sr → K h L st σ cr sr) → ∀ (L : List (Option Value)) (st : List Value) (σ : q_S) (cr sr : Nat), Inv 4 n L st σ cr sr → k_X11_placeFor_4 post K L st σ cr sr) ∧ av.length ≤ 7 ∧ ∀ v ∈ av, v.category = 1) : q_Ct l yX11_placeFor cX11_placeFor 7 (some .int) rm_X11_placeFor sp := by
  refine q_met (by decide) ?_
  intro D A p e s m args below meth c σ av post C hsp
  obtain ⟨Inv, h1, hh4, h2, h3⟩ := H av σ post hsp
  have hV := q_loops (p := p) (l := l) (e := e) (R := rm_X11_placeFor) (s := s) (m := m) (args := args) (below := below) (meth := meth) (c := c) (D := D) (A := A) (nL := 7) (Q := MQ below (q_Qc D A post) args s rm_X11_placeFor.cells rm_X11_placeFor.slots A) [4] (fun h =>  k_X11_placeFor_4 post) (fun K hK h hh => ?_) Inv (fun n h hh => ?_)
  · exact ⟨_, v_X11_placeFor_0 C hV, h1 _ (fun h n L st σ cr sr hi => ⟨n, hi⟩), h2, h3⟩
  · have e9 : h = 4 := by simpa using hh
    subst e9
    exact v_X11_placeFor_4 C hK
  · have e9 : h = 4 := by simpa using hh
    subst e9
    exact hh4 (fun h L st σ cr sr => ∃ m : Nat, m < n ∧ Inv h m L st σ cr sr) n (fun h m L st σ cr sr hm hi => ⟨m, hm, hi⟩)
theorem t_X11_placeFor (l : Launch) : q_Ct l yX11_placeFor cX11_placeFor 7 (some .int) rm_X11_placeFor s_X11_placeFor := u_X11_placeFor l (by
  intro av σ post h
  unfold s_X11_placeFor at h
  split at h
  · next mr a i b f mo =>
    obtain ⟨ad, z, g, gp, r, hm, hI, ha, hb, hLM, hLV, hT, iN, fN, mN', hiN, hfN, hmN, rfl, rfl, rfl, h1, h2⟩ := h
    unfold I1 at hI
    have ha2 : 0 ≤ a ∧ a < 20 := ⟨ha.1, by grind⟩
    have hb2 : 0 ≤ b ∧ b < 20 := ⟨hb.1, by grind⟩
    have hla := hLM.at ha.1 ha.2 ha2.2
    have hlb := hLM.at hb.1 hb.2 hb2.2
    have elb := nI_self hlb.1
    have hA20 : lmN g a.toNatClampNeg ≤ 20 := clamp_le 20 hla.1 hla.2
    have hB20 : lmN g b.toNatClampNeg ≤ 20 := clamp_le 20 hlb.1 hlb.2
    have hLVa := hLV a.toNatClampNeg iN (by rw [nI_self ha.1]; exact ha.2) (clamp_lt 20 ha2.1 ha2.2) hiN
    generalize hae : a.toNatClampNeg = an at *
    generalize hbe : b.toNatClampNeg = bn at *
    have hRle : ∀ i j, RNg g an bn i j ≤ lmN g an - i := fun i j => RN_le (likB g an bn) (lmN g an) (lmN g bn) _ i j (Nat.le_refl _)
    refine ⟨fun _ n L st σ' cr sr => ∃ j : Nat, fN ≤ j ∧ j ≤ lmN g bn ∧ n = lmN g bn - j ∧ σ' = σ ∧ st = [] ∧ (∀ j' : Nat, fN ≤ j' → j' < j → ¬ (likB g an bn iN j' = true ∧ mN' ≤ RNg g an bn (iN + 1) (j' + 1))) ∧ L = [some (.ref mr), some (.int a), some (.int (nI iN)), some (.int b), some (.int (nI fN)), some (.int (nI mN')), some (.int (nI j))], ?_, ?_, by simp, by simp [Value.category]⟩
    · intro K hK
      simp only [c_push, c_null, c_iload, c_aload, c_istore, c_astore, c_iinc, c_iadd, c_isub, c_imul, c_iand, c_ineg, c_dup, c_dup2, c_pop, c_ifnull, c_ifnonnull, c_get, c_put, c_iald, c_zald, c_iast, c_zast, c_aald, c_aast, c_alen, c_new, c_newa, c_newq, c_mna, c_oinit, c_max, c_copy, c_iret, c_zret, c_aret, c_vret, q_do, q_rc, c_ifeq, c_ifne, c_iflt, c_ifge, c_ifgt, c_ifle, c_iceq, c_icne, c_iclt, c_icge, c_icgt, c_icle, c_call0, c_call1, c_call2, c_call3, c_call4, c_call5, c_call6, c_call7, q_L0, List.map_cons, List.map_nil, List.replicate, List.cons_append, List.nil_append, List.append_nil, List.length_cons, List.length_nil, List.length_set, Nat.reduceSub, Nat.reduceAdd, Nat.reduceLT, Nat.reduceLeDiff, Nat.zero_add, Nat.add_zero, Nat.sub_zero, Nat.sub_self, List.getElem?_cons_zero, List.getElem?_cons_succ, List.set_cons_zero, List.set_cons_succ, Option.toList_some, Option.toList_none, List.sum_cons, List.sum_nil, true_and, and_true, true_or, or_true, Nat.le_refl, Nat.zero_le, Value.category, Fin.isValue, Fin.val_zero, Fin.val_one, Fin.val_two, Fin.reduceFinMk, q_10, q_01, not_false_eq_true, not_true_eq_false, forall_const, true_implies, false_implies, implies_true, q_ni, q_fi, q_nb0, q_nb1, q_fb0, q_fb1, q_nor, q_nar, q_for, q_far, q_non, q_nan, q_fon, q_fan, imp_false, false_and, and_false, and_self, false_or, or_false, va_rf, refKind, k_X11_placeFor_0]
      exact hK _ (lmN g bn - fN) _ _ _ _ _ ⟨fN, Nat.le_refl _, hfN, rfl, rfl, rfl, fun j' h1 h2 => by omega, rfl⟩
    · rintro K n hK L st σ' cr sr ⟨j, hj0, hj, rfl, rfl, rfl, hno, rfl⟩
      have J51 : j < lmN g bn → ¬ (likB g an bn iN j = true ∧ mN' ≤ RNg g an bn (iN + 1) (j + 1)) → k_X11_placeFor_51 post K [some (.ref mr), some (.int a), some (.int (nI iN)), some (.int b), some (.int (nI fN)), some (.int (nI mN')), some (.int (nI j))] [] σ' cr sr := fun hlt hn => by
        simp only [c_push, c_null, c_iload, c_aload, c_istore, c_astore, c_iinc, c_iadd, c_isub, c_imul, c_iand, c_ineg, c_dup, c_dup2, c_pop, c_ifnull, c_ifnonnull, c_get, c_put, c_iald, c_zald, c_iast, c_zast, c_aald, c_aast, c_alen, c_new, c_newa, c_newq, c_mna, c_oinit, c_max, c_copy, c_iret, c_zret, c_aret, c_vret, q_do, q_rc, c_ifeq, c_ifne, c_iflt, c_ifge, c_ifgt, c_ifle, c_iceq, c_icne, c_iclt, c_icge, c_icgt, c_icle, c_call0, c_call1, c_call2, c_call3, c_call4, c_call5, c_call6, c_call7, q_L0, List.map_cons, List.map_nil, List.replicate, List.cons_append, List.nil_append, List.append_nil, List.length_cons, List.length_nil, List.length_set, Nat.reduceSub, Nat.reduceAdd, Nat.reduceLT, Nat.reduceLeDiff, Nat.zero_add, Nat.add_zero, Nat.sub_zero, Nat.sub_self, List.getElem?_cons_zero, List.getElem?_cons_succ, List.set_cons_zero, List.set_cons_succ, Option.toList_some, Option.toList_none, List.sum_cons, List.sum_nil, true_and, and_true, true_or, or_true, Nat.le_refl, Nat.zero_le, Value.category, Fin.isValue, Fin.val_zero, Fin.val_one, Fin.val_two, Fin.reduceFinMk, q_10, q_01, not_false_eq_true, not_true_eq_false, forall_const, true_implies, false_implies, implies_true, q_ni, q_fi, q_nb0, q_nb1, q_fb0, q_fb1, q_nor, q_nar, q_for, q_far, q_non, q_nan, q_fon, q_fan, imp_false, false_and, and_false, and_self, false_or, or_false, va_rf, refKind, k_X11_placeFor_51]
        exact hK _ (lmN g bn - (j + 1)) _ _ _ _ _ (by omega) ⟨j + 1, by omega, by omega, rfl, rfl, rfl, fun j' h1 h2 => by
          rcases Nat.lt_or_ge j' j with h | h
          · exact hno j' h1 h
          · have e : j' = j := by omega
            rw [e]; exact hn, by rw [nI_1]⟩
      simp only [c_push, c_null, c_iload, c_aload, c_istore, c_astore, c_iinc, c_iadd, c_isub, c_imul, c_iand, c_ineg, c_dup, c_dup2, c_pop, c_ifnull, c_ifnonnull, c_get, c_put, c_iald, c_zald, c_iast, c_zast, c_aald, c_aast, c_alen, c_new, c_newa, c_newq, c_mna, c_oinit, c_max, c_copy, c_iret, c_zret, c_aret, c_vret, q_do, q_rc, c_ifeq, c_ifne, c_iflt, c_ifge, c_ifgt, c_ifle, c_iceq, c_icne, c_iclt, c_icge, c_icgt, c_icle, c_call0, c_call1, c_call2, c_call3, c_call4, c_call5, c_call6, c_call7, q_L0, List.map_cons, List.map_nil, List.replicate, List.cons_append, List.nil_append, List.append_nil, List.length_cons, List.length_nil, List.length_set, Nat.reduceSub, Nat.reduceAdd, Nat.reduceLT, Nat.reduceLeDiff, Nat.zero_add, Nat.add_zero, Nat.sub_zero, Nat.sub_self, List.getElem?_cons_zero, List.getElem?_cons_succ, List.set_cons_zero, List.set_cons_succ, Option.toList_some, Option.toList_none, List.sum_cons, List.sum_nil, true_and, and_true, true_or, or_true, Nat.le_refl, Nat.zero_le, Value.category, Fin.isValue, Fin.val_zero, Fin.val_one, Fin.val_two, Fin.reduceFinMk, q_10, q_01, not_false_eq_true, not_true_eq_false, forall_const, true_implies, false_implies, implies_true, q_ni, q_fi, q_nb0, q_nb1, q_fb0, q_fb1, q_nor, q_nar, q_for, q_far, q_non, q_nan, q_fon, q_fan, imp_false, false_and, and_false, and_self, false_or, or_false, va_rf, refKind, k_X11_placeFor_4, hm.rd, vpi20, hb2, hbe]
      rw [← elb, (cl2 (nI (lmN g bn)) (nI j) _ _ rfl rfl (by omega) (by omega)).1]
      refine ⟨fun c => h2 (fun j' q1 q2 => hno j' q1 (by omega)), fun c => ?_⟩
      refine ⟨ad, z, g, gp, r, hm, ha2, hb2, ⟨nI_low (by omega), nI_ltN (N := 20) (by omega)⟩, ⟨nI_low (by omega), nI_ltN (N := 20) (by omega)⟩, ?_, ?_, ?_⟩
      · rw [hae, clN (by omega)]
        grind
      · rw [hae, hbe, clN (by omega), clN (by omega)]
        intro c9
        have x3 : (21 : Int32) * (nI iN + 1) + nI j + 1 = nI (21 * (iN + 1) + (j + 1)) := by rw [nI_1, idx34, nI_1]; rfl
        have b3 : 0 ≤ nI (21 * (iN + 1) + (j + 1)) ∧ nI (21 * (iN + 1) + (j + 1)) < 441 := ⟨nI_low (by omega), nI_ltN (N := 441) (by omega)⟩
        have c4 : (nI (21 * (iN + 1) + (j + 1))).toNatClampNeg = 21 * (iN + 1) + (j + 1) := clN (by omega)
        have t3 := hT (iN + 1) (j + 1) (by omega) (by omega) trivial
        have l3 := hRle (iN + 1) (j + 1)
        simp only [c_push, c_null, c_iload, c_aload, c_istore, c_astore, c_iinc, c_iadd, c_isub, c_imul, c_iand, c_ineg, c_dup, c_dup2, c_pop, c_ifnull, c_ifnonnull, c_get, c_put, c_iald, c_zald, c_iast, c_zast, c_aald, c_aast, c_alen, c_new, c_newa, c_newq, c_mna, c_oinit, c_max, c_copy, c_iret, c_zret, c_aret, c_vret, q_do, q_rc, c_ifeq, c_ifne, c_iflt, c_ifge, c_ifgt, c_ifle, c_iceq, c_icne, c_iclt, c_icge, c_icgt, c_icle, c_call0, c_call1, c_call2, c_call3, c_call4, c_call5, c_call6, c_call7, q_L0, List.map_cons, List.map_nil, List.replicate, List.cons_append, List.nil_append, List.append_nil, List.length_cons, List.length_nil, List.length_set, Nat.reduceSub, Nat.reduceAdd, Nat.reduceLT, Nat.reduceLeDiff, Nat.zero_add, Nat.add_zero, Nat.sub_zero, Nat.sub_self, List.getElem?_cons_zero, List.getElem?_cons_succ, List.set_cons_zero, List.set_cons_succ, Option.toList_some, Option.toList_none, List.sum_cons, List.sum_nil, true_and, and_true, true_or, or_true, Nat.le_refl, Nat.zero_le, Value.category, Fin.isValue, Fin.val_zero, Fin.val_one, Fin.val_two, Fin.reduceFinMk, q_10, q_01, not_false_eq_true, not_true_eq_false, forall_const, true_implies, false_implies, implies_true, q_ni, q_fi, q_nb0, q_nb1, q_fb0, q_fb1, q_nor, q_nar, q_for, q_far, q_non, q_nan, q_fon, q_fan, imp_false, false_and, and_false, and_self, false_or, or_false, va_rf, refKind, k_X11_placeFor_27, hm.rd, x3, vpi441, b3, c4, t3]
        have E := cl2 (nI (RNg g an bn (iN + 1) (j + 1))) (nI mN') _ _ rfl rfl (by omega) (by omega)
        rw [E.2.1]
        exact ⟨fun c => J51 (by omega) (by omega), fun c => h1 j hj0 (by omega) c9 (by omega) hno⟩
      · rw [hae, hbe, clN (by omega), clN (by omega)]
        intro c9
        simp only [c_push, c_null, c_iload, c_aload, c_istore, c_astore, c_iinc, c_iadd, c_isub, c_imul, c_iand, c_ineg, c_dup, c_dup2, c_pop, c_ifnull, c_ifnonnull, c_get, c_put, c_iald, c_zald, c_iast, c_zast, c_aald, c_aast, c_alen, c_new, c_newa, c_newq, c_mna, c_oinit, c_max, c_copy, c_iret, c_zret, c_aret, c_vret, q_do, q_rc, c_ifeq, c_ifne, c_iflt, c_ifge, c_ifgt, c_ifle, c_iceq, c_icne, c_iclt, c_icge, c_icgt, c_icle, c_call0, c_call1, c_call2, c_call3, c_call4, c_call5, c_call6, c_call7, q_L0, List.map_cons, List.map_nil, List.replicate, List.cons_append, List.nil_append, List.append_nil, List.length_cons, List.length_nil, List.length_set, Nat.reduceSub, Nat.reduceAdd, Nat.reduceLT, Nat.reduceLeDiff, Nat.zero_add, Nat.add_zero, Nat.sub_zero, Nat.sub_self, List.getElem?_cons_zero, List.getElem?_cons_succ, List.set_cons_zero, List.set_cons_succ, Option.toList_some, Option.toList_none, List.sum_cons, List.sum_nil, true_and, and_true, true_or, or_true, Nat.le_refl, Nat.zero_le, Value.category, Fin.isValue, Fin.val_zero, Fin.val_one, Fin.val_two, Fin.reduceFinMk, q_10, q_01, not_false_eq_true, not_true_eq_false, forall_const, true_implies, false_implies, implies_true, q_ni, q_fi, q_nb0, q_nb1, q_fb0, q_fb1, q_nor, q_nar, q_for, q_far, q_non, q_nan, q_fon, q_fan, imp_false, false_and, and_false, and_self, false_or, or_false, va_rf, refKind]
        exact J51 (by omega) (fun h => by rw [c9] at h; exact absurd h.1 (by decide))
  · exact h.elim)
end
section
-- facts of the longest row
section RNF
variable {lk : Nat → Nat → Bool} {la lb : Nat}
theorem RN_i (i j : Nat) : RN lk la lb (i + 1) j ≤ RN lk la lb i j := by
  by_cases c : i < la ∧ j < lb
  · rw [RN_in (i := i) c]; split <;> omega
  · rw [RN_out (i := i + 1) (by omega)]; omega
theorem RN_j (i j : Nat) : RN lk la lb i (j + 1) ≤ RN lk la lb i j := by
  by_cases c : i < la ∧ j < lb
  · rw [RN_in (i := i) (j := j) c]; split <;> omega
  · rw [RN_out (i := i) (j := j + 1) (by omega)]; omega
theorem RN_anti {i j : Nat} : ∀ d : Nat, RN lk la lb i (j + d) ≤ RN lk la lb i j
  | 0 => Nat.le_refl _
  | d + 1 => Nat.le_trans (RN_j i (j + d)) (RN_anti d)
theorem RN_up {i j : Nat} (hi : i < la) (hj : j < lb) (h : lk i j = true) : 1 + RN lk la lb (i + 1) (j + 1) ≤ RN lk la lb i j := by
  rw [RN_in (i := i) (j := j) ⟨hi, hj⟩, if_pos h]; omega
theorem RN_pick {m i : Nat} (hm : 1 ≤ m) : ∀ (d j : Nat), lb - j ≤ d → m ≤ RN lk la lb i j → (∃ j', j ≤ j' ∧ j' < lb ∧ lk i j' = true ∧ m - 1 ≤ RN lk la lb (i + 1) (j' + 1)) ∨ m ≤ RN lk la lb (i + 1) j := by
  intro d
  induction d with
  | zero =>
    intro j hd h
    rw [RN_out (by omega)] at h
    omega
  | succ d ih =>
    intro j hd h
    by_cases c : i < la ∧ j < lb
    · rw [RN_in c] at h
      have hj := RN_j (lk := lk) (la := la) (lb := lb) (i + 1) j
      by_cases c2 : lk i j = true
      · rw [if_pos c2] at h
        by_cases c3 : m ≤ 1 + RN lk la lb (i + 1) (j + 1)
        · exact Or.inl ⟨j, Nat.le_refl _, c.2, c2, by omega⟩
        · by_cases c4 : m ≤ RN lk la lb i (j + 1)
          · rcases ih (j + 1) (by omega) c4 with ⟨j', q1, q2, q3, q4⟩ | q
            · exact Or.inl ⟨j', by omega, q2, q3, q4⟩
            · exact Or.inr (by omega)
          · exact Or.inr (by omega)
      · rw [if_neg c2] at h
        by_cases c4 : m ≤ RN lk la lb i (j + 1)
        · rcases ih (j + 1) (by omega) c4 with ⟨j', q1, q2, q3, q4⟩ | q
          · exact Or.inl ⟨j', by omega, q2, q3, q4⟩
          · exact Or.inr (by omega)
        · exact Or.inr (by omega)
    · rw [RN_out c] at h
      omega
end RNF
def fj (P : Nat → Bool) (lb s : Nat) : Option Nat := if s < lb then (if P s then some s else fj P lb (s + 1)) else none
termination_by lb - s
decreasing_by omega
theorem fj_some {P : Nat → Bool} {lb : Nat} : ∀ (d s j : Nat), lb - s ≤ d → s ≤ j → j < lb → P j = true → (∀ j', s ≤ j' → j' < j → P j' = false) → fj P lb s = some j := by
  intro d
  induction d with
  | zero => intro s j hd h1 h2; omega
  | succ d ih =>
    intro s j hd h1 h2 h3 h4
    rw [fj, if_pos (by omega)]
    by_cases e : s = j
    · subst e; rw [if_pos h3]
    · rw [if_neg (by rw [h4 s (Nat.le_refl _) (by omega)]; decide)]
      exact ih (s + 1) j (by omega) (by omega) h2 h3 (fun j' q1 q2 => h4 j' (by omega) q2)
theorem fj_none {P : Nat → Bool} {lb : Nat} : ∀ (d s : Nat), lb - s ≤ d → (∀ j', s ≤ j' → j' < lb → P j' = false) → fj P lb s = none := by
  intro d
  induction d with
  | zero => intro s hd h; rw [fj, if_neg (by omega)]
  | succ d ih =>
    intro s hd h
    rw [fj]
    by_cases c : s < lb
    · rw [if_pos c, if_neg (by rw [h s (Nat.le_refl _) c]; decide)]
      exact ih (s + 1) (by omega) (fun j' q1 q2 => h j' (by omega) q2)
    · rw [if_neg c]
theorem fj_cases (P : Nat → Bool) (lb : Nat) : ∀ (d s : Nat), lb - s ≤ d → (fj P lb s = none ∧ ∀ j', s ≤ j' → j' < lb → P j' = false) ∨ ∃ j, fj P lb s = some j ∧ s ≤ j ∧ j < lb ∧ P j = true ∧ ∀ j', s ≤ j' → j' < j → P j' = false := by
  intro d
  induction d with
  | zero => intro s hd; exact Or.inl ⟨by rw [fj, if_neg (by omega)], fun j' q1 q2 => by omega⟩
  | succ d ih =>
    intro s hd
    by_cases c : s < lb
    · by_cases c2 : P s = true
      · exact Or.inr ⟨s, by rw [fj, if_pos c, if_pos c2], Nat.le_refl _, c, c2, fun j' q1 q2 => by omega⟩
      · have c3 : P s = false := by simpa using c2
        have e : fj P lb s = fj P lb (s + 1) := by rw [fj, if_pos c, if_neg c2]
        rcases ih (s + 1) (by omega) with ⟨q1, q2⟩ | ⟨j, q1, q2, q3, q4, q5⟩
        · exact Or.inl ⟨e.trans q1, fun j' r1 r2 => by
            rcases Nat.lt_or_ge s j' with h | h
            · exact q2 j' h r2
            · have : j' = s := by omega
              rw [this]; exact c3⟩
        · exact Or.inr ⟨j, e.trans q1, by omega, q3, q4, fun j' r1 r2 => by
            rcases Nat.lt_or_ge s j' with h | h
            · exact q5 j' h r2
            · have : j' = s := by omega
              rw [this]; exact c3⟩
    · exact Or.inl ⟨by rw [fj, if_neg c], fun j' q1 q2 => by omega⟩
def PW (lk : Nat → Nat → Bool) (la lb i s m k : Nat) : Option (Nat × Nat) :=
  if i < la then (match fj (lk i) lb s with
    | some j => if RN lk la lb (i + 1) (j + 1) + 1 = m then (if k = 0 then some (i, j) else PW lk la lb (i + 1) (j + 1) (m - 1) (k - 1)) else PW lk la lb (i + 1) s m k
    | none => PW lk la lb (i + 1) s m k) else none
termination_by la - i
decreasing_by all_goals omega
theorem PW_hit {lk : Nat → Nat → Bool} {la lb i s m j : Nat} (k : Nat) (hm : 1 ≤ m) (hR : RN lk la lb i s = m) (h1 : s ≤ j) (h2 : j < lb) (h3 : lk i j = true) (h4 : m - 1 ≤ RN lk la lb (i + 1) (j + 1)) (h5 : ∀ j', s ≤ j' → j' < j → ¬ (lk i j' = true ∧ m - 1 ≤ RN lk la lb (i + 1) (j' + 1))) : RN lk la lb (i + 1) (j + 1) = m - 1 ∧ PW lk la lb i s m k = if k = 0 then some (i, j) else PW lk la lb (i + 1) (j + 1) (m - 1) (k - 1) := by
  have hi : i < la := by
    rcases Nat.lt_or_ge i la with h | h
    · exact h
    · rw [RN_out (by omega)] at hR; omega
  have hf : fj (lk i) lb s = some j := fj_some _ _ _ (Nat.le_refl _) h1 h2 h3 (fun j' q1 q2 => by
    have h6 := h5 j' q1 q2
    cases c : lk i j' with
    | false => rfl
    | true =>
      exfalso
      apply h6
      refine ⟨c, ?_⟩
      have := RN_anti (lk := lk) (la := la) (lb := lb) (i := i + 1) (j := j' + 1) (j - j')
      rw [show j' + 1 + (j - j') = j + 1 by omega] at this
      omega)
  have hu := RN_up (lk := lk) (la := la) (lb := lb) hi h2 h3
  have ha := RN_anti (lk := lk) (la := la) (lb := lb) (i := i) (j := s) (j - s)
  rw [show s + (j - s) = j by omega] at ha
  have e : RN lk la lb (i + 1) (j + 1) = m - 1 := by omega
  refine ⟨e, ?_⟩
  rw [PW, if_pos hi, hf]
  simp only
  rw [if_pos (by omega)]
theorem PW_miss {lk : Nat → Nat → Bool} {la lb i s m : Nat} (k : Nat) (hm : 1 ≤ m) (hR : RN lk la lb i s = m) (h5 : ∀ j', s ≤ j' → j' < lb → ¬ (lk i j' = true ∧ m - 1 ≤ RN lk la lb (i + 1) (j' + 1))) : RN lk la lb (i + 1) s = m ∧ PW lk la lb i s m k = PW lk la lb (i + 1) s m k := by
  have hi : i < la := by
    rcases Nat.lt_or_ge i la with h | h
    · exact h
    · rw [RN_out (by omega)] at hR; omega
  have h6 := RN_i (lk := lk) (la := la) (lb := lb) i s
  have e : RN lk la lb (i + 1) s = m := by
    rcases RN_pick (lk := lk) (la := la) (lb := lb) (i := i) hm _ s (Nat.le_refl _) (by omega) with ⟨j', q1, q2, q3, q4⟩ | q
    · exact absurd ⟨q3, q4⟩ (h5 j' q1 q2)
    · omega
  refine ⟨e, ?_⟩
  rw [PW, if_pos hi]
  rcases fj_cases (lk i) lb _ s (Nat.le_refl _) with ⟨q1, -⟩ | ⟨j, q1, q2, q3, q4, -⟩
  · rw [q1]
  · rw [q1]
    simp only
    rw [if_neg]
    intro e9
    exact h5 j q2 q3 ⟨q4, by omega⟩
theorem PW_over {lk : Nat → Nat → Bool} {la lb : Nat} : ∀ (d i s m k : Nat), la - i ≤ d → RN lk la lb i s = m → m ≤ k → PW lk la lb i s m k = none := by
  intro d
  induction d with
  | zero => intro i s m k hd hR hk; rw [PW, if_neg (by omega)]
  | succ d ih =>
    intro i s m k hd hR hk
    by_cases hi : i < la
    · rw [PW, if_pos hi]
      rcases Nat.eq_zero_or_pos m with h0 | h0
      · have hz := RN_i (lk := lk) (la := la) (lb := lb) i s
        rcases fj_cases (lk i) lb _ s (Nat.le_refl _) with ⟨q1, -⟩ | ⟨j, q1, q2, q3, q4, -⟩
        · rw [q1]; exact ih _ _ _ _ (by omega) (by omega) hk
        · rw [q1]
          simp only
          rw [if_neg (by omega)]
          exact ih _ _ _ _ (by omega) (by omega) hk
      · by_cases hg : ∃ j, s ≤ j ∧ j < lb ∧ lk i j = true ∧ m - 1 ≤ RN lk la lb (i + 1) (j + 1)
        · have hl : ∃ j, s ≤ j ∧ j < lb ∧ lk i j = true ∧ m - 1 ≤ RN lk la lb (i + 1) (j + 1) ∧ ∀ j', s ≤ j' → j' < j → ¬ (lk i j' = true ∧ m - 1 ≤ RN lk la lb (i + 1) (j' + 1)) := by
            obtain ⟨j, hj, hl⟩ := pk_least _ hg
            exact ⟨j, hj.1, hj.2.1, hj.2.2.1, hj.2.2.2, fun j' q1 q2 q3 => hl j' q2 ⟨q1, by omega, q3.1, q3.2⟩⟩
          obtain ⟨j, q1, q2, q3, q4, q5⟩ := hl
          have h := PW_hit k h0 hR q1 q2 q3 q4 q5
          rw [PW, if_pos hi] at h
          rw [h.2, if_neg (by omega)]
          exact ih _ _ _ _ (by omega) h.1 (by omega)
        · have h := PW_miss k h0 hR (fun j' q1 q2 q3 => hg ⟨j', q1, q2, q3.1, q3.2⟩)
          rw [PW, if_pos hi] at h
          rw [h.2]
          exact ih _ _ _ _ (by omega) h.1 hk
    · rw [PW, if_neg hi]
end
section
-- pair
abbrev PWg (g : Nat → Nat → Int32) (a b : Nat) (k : Nat) : Option (Nat × Nat) := PW (likB g a b) (lmN g a) (lmN g b) 0 0 (RNg g a b 0 0) k
def pairF (o : Option (Nat × Nat)) (v : Int32) : Int32 := match o with
  | some x => if v = 0 then nI x.1 else nI x.2
  | none => -1
def F_pair (z : Nat → Int32) (g : Nat → Nat → Int32) (a b k v : Int32) : Int32 := if isW z a ∧ isW z b ∧ 0 ≤ k ∧ 0 ≤ v ∧ v ≤ 1 then pairF (PWg g a.toNatClampNeg b.toNatClampNeg k.toNatClampNeg) v else -2
def s_X11_pair : q_Sp := fun av σ post => match av with
  | [.ref mr, .int a, .int b, .int k, .int v] => ∃ ad z g, mOK σ mr ad z g ∧ I1 z ∧ LM z g ∧ LV z g ∧ ∀ σ', mOK σ' mr ad z g → post (some (.int (F_pair z g a b k v))) σ'
  | _ => False
theorem w9_107 : (.code yX11_placeFor cX11_placeFor 7 (some .int) : Cond) ∈ lw_tbl := by decide +kernel
theorem w9_108 : (.methodLink RX11 178 yX11_placeFor : Cond) ∈ lw_tbl := by decide +kernel
theorem w9_109 : (.instanceMethod yX11_placeFor : Cond) ∈ lw_tbl := by decide +kernel
theorem w9_110 : (.selects RX11 yX11_placeFor yX11_placeFor : Cond) ∈ lw_tbl := by decide +kernel
def rm_X11_pair : Room := { frames := 2, cells := 0, slots := 0, locals := 51 }
def k_X11_pair_30 (post : Option Value → q_S → Prop) (K : Nat → q_K) : q_K := (c_push (-2) (c_iret post))
def k_X11_pair_33 (post : Option Value → q_S → Prop) (K : Nat → q_K) : q_K := (c_aload 0 (c_iload 1 (c_iload 2 (c_call3 (some 11) s_X11_layRest 0 0 (c_push 0 (c_istore 5 (c_push 0 (c_istore 6 (c_aload 0 (c_get 11 34 (c_push 0 (c_iald (c_istore 7 (c_iload 3 (c_iload 7 (c_iclt (c_push 0 (c_istore 8 (K 64))) (c_push (-1) (c_iret post))))))))))))))))))
def k_X11_pair_0 (post : Option Value → q_S → Prop) (K : Nat → q_K) : q_K := (c_aload 0 (c_iload 1 (c_call2 (some 11) s_X11_isWork 0 0 (c_ifeq (k_X11_pair_30 post K) (c_aload 0 (c_iload 2 (c_call2 (some 11) s_X11_isWork 0 0 (c_ifeq (k_X11_pair_30 post K) (c_iload 3 (c_iflt (k_X11_pair_30 post K) (c_iload 4 (c_push 0 (c_push 1 (c_call3 none s_X11_in 0 0 (c_ifne (k_X11_pair_33 post K) (k_X11_pair_30 post K))))))))))))))))
def k_X11_pair_94 (post : Option Value → q_S → Prop) (K : Nat → q_K) : q_K := (c_aload 0 (c_iload 1 (c_iload 5 (c_iload 2 (c_iload 6 (c_iload 7 (c_push 1 (c_isub (c_call6 (some 11) s_X11_placeFor 0 0 (c_push 1 (c_iadd (c_istore 6 (c_iinc 5 1 (c_iinc 7 (-1) (c_iinc 8 1 (K 64))))))))))))))))
def k_X11_pair_140 (post : Option Value → q_S → Prop) (K : Nat → q_K) : q_K := (c_iret post)
def k_X11_pair_64 (post : Option Value → q_S → Prop) (K : Nat → q_K) : q_K := (c_iload 8 (c_iload 3 (c_icgt (c_iload 4 (c_ifne (c_iload 6 (c_push 1 (c_isub (k_X11_pair_140 post K)))) (c_iload 5 (c_push 1 (c_isub (k_X11_pair_140 post K)))))) (K 70))))
def k_X11_pair_70 (post : Option Value → q_S → Prop) (K : Nat → q_K) : q_K := (c_aload 0 (c_iload 1 (c_iload 5 (c_iload 2 (c_iload 6 (c_iload 7 (c_push 1 (c_isub (c_call6 (some 11) s_X11_placeFor 0 0 (c_push (-1) (c_icne (k_X11_pair_94 post K) (c_iinc 5 1 (K 70)))))))))))))
set_option maxRecDepth 100000 in
theorem v_X11_pair_30 {p : Program} {l : Launch} {e : Env} {s : State} {m : MethodId} {args : Array Value} {below : List Frame} {meth : Method} {c : Code} {D : va_G} {A : Nat → Prop} {post : Option Value → q_S → Prop} {K : Nat → q_K} (C : q_C p s m args meth c cX11_pair 9 RX11 "pair" (some .int) A) (hK : ∀ h ∈ ([64, 70] : List Nat), q_V p l e rm_X11_pair s m args below meth c D A 9 (MQ below (q_Qc D A post) args s rm_X11_pair.cells rm_X11_pair.slots A) h (K h)) : q_V p l e rm_X11_pair s m args below meth c D A 9 (MQ below (q_Qc D A post) args s rm_X11_pair.cells rm_X11_pair.slots A) 30 (k_X11_pair_30 post K) := by
  unfold k_X11_pair_30
  refine q_bipush C (by decide +kernel : decode cX11_pair 30 = .ok (.bipush (-2), 2)) (by decide) ?_
  exact q_iret C rfl (by decide +kernel : decode cX11_pair 32 = .ok (.ireturn, 1))
set_option maxRecDepth 100000 in
theorem v_X11_pair_33 {p : Program} {l : Launch} {e : Env} {s : State} {m : MethodId} {args : Array Value} {below : List Frame} {meth : Method} {c : Code} {D : va_G} {A : Nat → Prop} {post : Option Value → q_S → Prop} {K : Nat → q_K} (C : q_C p s m args meth c cX11_pair 9 RX11 "pair" (some .int) A) (hK : ∀ h ∈ ([64, 70] : List Nat), q_V p l e rm_X11_pair s m args below meth c D A 9 (MQ below (q_Qc D A post) args s rm_X11_pair.cells rm_X11_pair.slots A) h (K h)) : q_V p l e rm_X11_pair s m args below meth c D A 9 (MQ below (q_Qc D A post) args s rm_X11_pair.cells rm_X11_pair.slots A) 33 (k_X11_pair_33 post K) := by
  unfold k_X11_pair_33
  refine q_aload_n C (by decide +kernel : decode cX11_pair 33 = .ok (.aload_n 0, 1)) ?_
  refine q_iload_n C (by decide +kernel : decode cX11_pair 34 = .ok (.iload_n 1, 1)) ?_
  refine q_iload_n C (by decide +kernel : decode cX11_pair 35 = .ok (.iload_n 2, 1)) ?_
  refine q_call3 C (q_coV C (np := 2) (ci := 11) (rc := (RX11, TX11, 35)) (t_X11_layRest l) w9_103 rfl rfl w9_104 w9_105 w9_106 w9_6 (by decide +kernel) (by decide +kernel : decode cX11_pair 36 = .ok (.invokevirtual 174, 3)) (by decide)) ?_
  refine q_iconst C (by decide +kernel : decode cX11_pair 39 = .ok (.iconst 0, 1)) (by decide) ?_
  refine q_istore C (by decide +kernel : decode cX11_pair 40 = .ok (.istore 5, 2)) ?_
  refine q_iconst C (by decide +kernel : decode cX11_pair 42 = .ok (.iconst 0, 1)) (by decide) ?_
  refine q_istore C (by decide +kernel : decode cX11_pair 43 = .ok (.istore 6, 2)) ?_
  refine q_aload_n C (by decide +kernel : decode cX11_pair 45 = .ok (.aload_n 0, 1)) ?_
  refine q_get C (ci := 11) (j := 34) (C0 := RX11) (T := TX11) (N := 35) rfl iX11 giX11 (by decide) w9_102 (by decide +kernel : decode cX11_pair 46 = .ok (.getfield 89, 3)) ?_
  refine q_iconst C (by decide +kernel : decode cX11_pair 49 = .ok (.iconst 0, 1)) (by decide) ?_
  refine q_iald C (by decide +kernel : decode cX11_pair 50 = .ok (.iaload, 1)) ?_
  refine q_istore C (by decide +kernel : decode cX11_pair 51 = .ok (.istore 7, 2)) ?_
  refine q_iload_n C (by decide +kernel : decode cX11_pair 53 = .ok (.iload_n 3, 1)) ?_
  refine q_iload C (by decide +kernel : decode cX11_pair 54 = .ok (.iload 7, 2)) ?_
  refine q_iclt C (tgt := 61) (by decide +kernel : decode cX11_pair 56 = .ok (.if_icmp .lt 5, 3)) (by decide) ?_ ?_
  · refine q_iconst C (by decide +kernel : decode cX11_pair 61 = .ok (.iconst 0, 1)) (by decide) ?_
    refine q_istore C (by decide +kernel : decode cX11_pair 62 = .ok (.istore 8, 2)) ?_
    exact hK 64 (by decide)
  · refine q_iconst C (by decide +kernel : decode cX11_pair 59 = .ok (.iconst (-1), 1)) (by decide) ?_
    exact q_iret C rfl (by decide +kernel : decode cX11_pair 60 = .ok (.ireturn, 1))
set_option maxRecDepth 100000 in
theorem v_X11_pair_0 {p : Program} {l : Launch} {e : Env} {s : State} {m : MethodId} {args : Array Value} {below : List Frame} {meth : Method} {c : Code} {D : va_G} {A : Nat → Prop} {post : Option Value → q_S → Prop} {K : Nat → q_K} (C : q_C p s m args meth c cX11_pair 9 RX11 "pair" (some .int) A) (hK : ∀ h ∈ ([64, 70] : List Nat), q_V p l e rm_X11_pair s m args below meth c D A 9 (MQ below (q_Qc D A post) args s rm_X11_pair.cells rm_X11_pair.slots A) h (K h)) : q_V p l e rm_X11_pair s m args below meth c D A 9 (MQ below (q_Qc D A post) args s rm_X11_pair.cells rm_X11_pair.slots A) 0 (k_X11_pair_0 post K) := by
  unfold k_X11_pair_0
  refine q_aload_n C (by decide +kernel : decode cX11_pair 0 = .ok (.aload_n 0, 1)) ?_
  refine q_iload_n C (by decide +kernel : decode cX11_pair 1 = .ok (.iload_n 1, 1)) ?_
  refine q_call2 C (q_coV C (np := 1) (ci := 11) (rc := (RX11, TX11, 35)) (t_X11_isWork l) w9_48 rfl rfl w9_49 w9_50 w9_51 w9_6 (by decide +kernel) (by decide +kernel : decode cX11_pair 2 = .ok (.invokevirtual 140, 3)) (by decide)) ?_
  refine q_ifeq C (tgt := 30) (by decide +kernel : decode cX11_pair 5 = .ok (.ifCond .eq 25, 3)) (by decide) ?_ ?_
  · exact v_X11_pair_30 C hK
  · refine q_aload_n C (by decide +kernel : decode cX11_pair 8 = .ok (.aload_n 0, 1)) ?_
    refine q_iload_n C (by decide +kernel : decode cX11_pair 9 = .ok (.iload_n 2, 1)) ?_
    refine q_call2 C (q_coV C (np := 1) (ci := 11) (rc := (RX11, TX11, 35)) (t_X11_isWork l) w9_48 rfl rfl w9_49 w9_50 w9_51 w9_6 (by decide +kernel) (by decide +kernel : decode cX11_pair 10 = .ok (.invokevirtual 140, 3)) (by decide)) ?_
    refine q_ifeq C (tgt := 30) (by decide +kernel : decode cX11_pair 13 = .ok (.ifCond .eq 17, 3)) (by decide) ?_ ?_
    · exact v_X11_pair_30 C hK
    · refine q_iload_n C (by decide +kernel : decode cX11_pair 16 = .ok (.iload_n 3, 1)) ?_
      refine q_iflt C (tgt := 30) (by decide +kernel : decode cX11_pair 17 = .ok (.ifCond .lt 13, 3)) (by decide) ?_ ?_
      · exact v_X11_pair_30 C hK
      · refine q_iload C (by decide +kernel : decode cX11_pair 20 = .ok (.iload 4, 2)) ?_
        refine q_iconst C (by decide +kernel : decode cX11_pair 22 = .ok (.iconst 0, 1)) (by decide) ?_
        refine q_iconst C (by decide +kernel : decode cX11_pair 23 = .ok (.iconst 1, 1)) (by decide) ?_
        refine q_call3 C (q_coS C (np := 3) (t_X11_in l) w9_5 w9_8 w9_7 w9_6 (by decide +kernel) (by decide +kernel : decode cX11_pair 24 = .ok (.invokestatic 92, 3)) (by decide)) ?_
        refine q_ifne C (tgt := 33) (by decide +kernel : decode cX11_pair 27 = .ok (.ifCond .ne 6, 3)) (by decide) ?_ ?_
        · exact v_X11_pair_33 C hK
        · exact v_X11_pair_30 C hK
set_option maxRecDepth 100000 in
theorem v_X11_pair_94 {p : Program} {l : Launch} {e : Env} {s : State} {m : MethodId} {args : Array Value} {below : List Frame} {meth : Method} {c : Code} {D : va_G} {A : Nat → Prop} {post : Option Value → q_S → Prop} {K : Nat → q_K} (C : q_C p s m args meth c cX11_pair 9 RX11 "pair" (some .int) A) (hK : ∀ h ∈ ([64, 70] : List Nat), q_V p l e rm_X11_pair s m args below meth c D A 9 (MQ below (q_Qc D A post) args s rm_X11_pair.cells rm_X11_pair.slots A) h (K h)) : q_V p l e rm_X11_pair s m args below meth c D A 9 (MQ below (q_Qc D A post) args s rm_X11_pair.cells rm_X11_pair.slots A) 94 (k_X11_pair_94 post K) := by
  unfold k_X11_pair_94
  refine q_aload_n C (by decide +kernel : decode cX11_pair 94 = .ok (.aload_n 0, 1)) ?_
  refine q_iload_n C (by decide +kernel : decode cX11_pair 95 = .ok (.iload_n 1, 1)) ?_
  refine q_iload C (by decide +kernel : decode cX11_pair 96 = .ok (.iload 5, 2)) ?_
  refine q_iload_n C (by decide +kernel : decode cX11_pair 98 = .ok (.iload_n 2, 1)) ?_
  refine q_iload C (by decide +kernel : decode cX11_pair 99 = .ok (.iload 6, 2)) ?_
  refine q_iload C (by decide +kernel : decode cX11_pair 101 = .ok (.iload 7, 2)) ?_
  refine q_iconst C (by decide +kernel : decode cX11_pair 103 = .ok (.iconst 1, 1)) (by decide) ?_
  refine q_isub C (by decide +kernel : decode cX11_pair 104 = .ok (.isub, 1)) ?_
  refine q_call6 C (q_coV C (np := 5) (ci := 11) (rc := (RX11, TX11, 35)) (t_X11_placeFor l) w9_107 rfl rfl w9_108 w9_109 w9_110 w9_6 (by decide +kernel) (by decide +kernel : decode cX11_pair 105 = .ok (.invokevirtual 178, 3)) (by decide)) ?_
  refine q_iconst C (by decide +kernel : decode cX11_pair 108 = .ok (.iconst 1, 1)) (by decide) ?_
  refine q_iadd C (by decide +kernel : decode cX11_pair 109 = .ok (.iadd, 1)) ?_
  refine q_istore C (by decide +kernel : decode cX11_pair 110 = .ok (.istore 6, 2)) ?_
  refine q_iinc C (by decide +kernel : decode cX11_pair 112 = .ok (.iinc 5 1, 3)) (by decide) ?_
  refine q_iinc C (by decide +kernel : decode cX11_pair 115 = .ok (.iinc 7 (-1), 3)) (by decide) ?_
  refine q_iinc C (by decide +kernel : decode cX11_pair 118 = .ok (.iinc 8 1, 3)) (by decide) ?_
  refine q_goto C (tgt := 64) (by decide +kernel : decode cX11_pair 121 = .ok (.goto (-57), 3)) (by decide) ?_
  exact hK 64 (by decide)
set_option maxRecDepth 100000 in
theorem v_X11_pair_140 {p : Program} {l : Launch} {e : Env} {s : State} {m : MethodId} {args : Array Value} {below : List Frame} {meth : Method} {c : Code} {D : va_G} {A : Nat → Prop} {post : Option Value → q_S → Prop} {K : Nat → q_K} (C : q_C p s m args meth c cX11_pair 9 RX11 "pair" (some .int) A) (hK : ∀ h ∈ ([64, 70] : List Nat), q_V p l e rm_X11_pair s m args below meth c D A 9 (MQ below (q_Qc D A post) args s rm_X11_pair.cells rm_X11_pair.slots A) h (K h)) : q_V p l e rm_X11_pair s m args below meth c D A 9 (MQ below (q_Qc D A post) args s rm_X11_pair.cells rm_X11_pair.slots A) 140 (k_X11_pair_140 post K) := by
  unfold k_X11_pair_140
  exact q_iret C rfl (by decide +kernel : decode cX11_pair 140 = .ok (.ireturn, 1))
set_option maxRecDepth 100000 in
theorem v_X11_pair_64 {p : Program} {l : Launch} {e : Env} {s : State} {m : MethodId} {args : Array Value} {below : List Frame} {meth : Method} {c : Code} {D : va_G} {A : Nat → Prop} {post : Option Value → q_S → Prop} {K : Nat → q_K} (C : q_C p s m args meth c cX11_pair 9 RX11 "pair" (some .int) A) (hK : ∀ h ∈ ([64, 70] : List Nat), q_V p l e rm_X11_pair s m args below meth c D A 9 (MQ below (q_Qc D A post) args s rm_X11_pair.cells rm_X11_pair.slots A) h (K h)) : q_V p l e rm_X11_pair s m args below meth c D A 9 (MQ below (q_Qc D A post) args s rm_X11_pair.cells rm_X11_pair.slots A) 64 (k_X11_pair_64 post K) := by
  unfold k_X11_pair_64
  refine q_iload C (by decide +kernel : decode cX11_pair 64 = .ok (.iload 8, 2)) ?_
  refine q_iload_n C (by decide +kernel : decode cX11_pair 66 = .ok (.iload_n 3, 1)) ?_
  refine q_icgt C (tgt := 124) (by decide +kernel : decode cX11_pair 67 = .ok (.if_icmp .gt 57, 3)) (by decide) ?_ ?_
  · refine q_iload C (by decide +kernel : decode cX11_pair 124 = .ok (.iload 4, 2)) ?_
    refine q_ifne C (tgt := 136) (by decide +kernel : decode cX11_pair 126 = .ok (.ifCond .ne 10, 3)) (by decide) ?_ ?_
    · refine q_iload C (by decide +kernel : decode cX11_pair 136 = .ok (.iload 6, 2)) ?_
      refine q_iconst C (by decide +kernel : decode cX11_pair 138 = .ok (.iconst 1, 1)) (by decide) ?_
      refine q_isub C (by decide +kernel : decode cX11_pair 139 = .ok (.isub, 1)) ?_
      exact v_X11_pair_140 C hK
    · refine q_iload C (by decide +kernel : decode cX11_pair 129 = .ok (.iload 5, 2)) ?_
      refine q_iconst C (by decide +kernel : decode cX11_pair 131 = .ok (.iconst 1, 1)) (by decide) ?_
      refine q_isub C (by decide +kernel : decode cX11_pair 132 = .ok (.isub, 1)) ?_
      refine q_goto C (tgt := 140) (by decide +kernel : decode cX11_pair 133 = .ok (.goto 7, 3)) (by decide) ?_
      exact v_X11_pair_140 C hK
  · exact hK 70 (by decide)
set_option maxRecDepth 100000 in
theorem v_X11_pair_70 {p : Program} {l : Launch} {e : Env} {s : State} {m : MethodId} {args : Array Value} {below : List Frame} {meth : Method} {c : Code} {D : va_G} {A : Nat → Prop} {post : Option Value → q_S → Prop} {K : Nat → q_K} (C : q_C p s m args meth c cX11_pair 9 RX11 "pair" (some .int) A) (hK : ∀ h ∈ ([64, 70] : List Nat), q_V p l e rm_X11_pair s m args below meth c D A 9 (MQ below (q_Qc D A post) args s rm_X11_pair.cells rm_X11_pair.slots A) h (K h)) : q_V p l e rm_X11_pair s m args below meth c D A 9 (MQ below (q_Qc D A post) args s rm_X11_pair.cells rm_X11_pair.slots A) 70 (k_X11_pair_70 post K) := by
  unfold k_X11_pair_70
  refine q_aload_n C (by decide +kernel : decode cX11_pair 70 = .ok (.aload_n 0, 1)) ?_
  refine q_iload_n C (by decide +kernel : decode cX11_pair 71 = .ok (.iload_n 1, 1)) ?_
  refine q_iload C (by decide +kernel : decode cX11_pair 72 = .ok (.iload 5, 2)) ?_
  refine q_iload_n C (by decide +kernel : decode cX11_pair 74 = .ok (.iload_n 2, 1)) ?_
  refine q_iload C (by decide +kernel : decode cX11_pair 75 = .ok (.iload 6, 2)) ?_
  refine q_iload C (by decide +kernel : decode cX11_pair 77 = .ok (.iload 7, 2)) ?_
  refine q_iconst C (by decide +kernel : decode cX11_pair 79 = .ok (.iconst 1, 1)) (by decide) ?_
  refine q_isub C (by decide +kernel : decode cX11_pair 80 = .ok (.isub, 1)) ?_
  refine q_call6 C (q_coV C (np := 5) (ci := 11) (rc := (RX11, TX11, 35)) (t_X11_placeFor l) w9_107 rfl rfl w9_108 w9_109 w9_110 w9_6 (by decide +kernel) (by decide +kernel : decode cX11_pair 81 = .ok (.invokevirtual 178, 3)) (by decide)) ?_
  refine q_iconst C (by decide +kernel : decode cX11_pair 84 = .ok (.iconst (-1), 1)) (by decide) ?_
  refine q_icne C (tgt := 94) (by decide +kernel : decode cX11_pair 85 = .ok (.if_icmp .ne 9, 3)) (by decide) ?_ ?_
  · exact v_X11_pair_94 C hK
  · refine q_iinc C (by decide +kernel : decode cX11_pair 88 = .ok (.iinc 5 1, 3)) (by decide) ?_
    refine q_goto C (tgt := 70) (by decide +kernel : decode cX11_pair 91 = .ok (.goto (-21), 3)) (by decide) ?_
    exact hK 70 (by decide)
theorem u_X11_pair (l : Launch) {sp : q_Sp} (H : ∀ (av : List Value) (σ : q_S) (post : Option Value → q_S → Prop), sp av σ post → ∃ Inv : Nat → Nat → q_K, (∀ K : Nat → q_K, (∀ (h n : Nat) (L : List (Option Value)) (st : List Value) (σ : q_S) (cr sr : Nat), Inv h n L st σ cr sr → K h L st σ cr sr) → k_X11_pair_0 post K (q_L0 av 9) [] σ 0 0) ∧ (∀ (K : Nat → q_K) (n : Nat), (∀ (h m : Nat) (L : List (Option Value)) (st : List Value) (σ : q_S) (cr sr : Nat), m < n → Inv h m L st σ cr sr → K h L st σ cr sr) → ∀ (L : List (Option Value)) (st : List Value) (σ : q_S) (cr sr : Nat), Inv 64 n L st σ cr sr → k_X11_pair_64 post K L st σ cr sr) ∧ (∀ (K : Nat → q_K) (n : Nat), (∀ (h m : Nat) (L : List (Option Value)) (st : List Value) (σ : q_S) (cr sr : Nat), m < n → Inv h m L st σ cr sr → K h L st σ cr sr) → ∀ (L : List (Option Value)) (st : List Value) (σ : q_S) (cr sr : Nat), Inv 70 n L st σ cr sr → k_X11_pair_70 post K L st σ cr sr) ∧ av.length ≤ 9 ∧ ∀ v ∈ av, v.category = 1) : q_Ct l yX11_pair cX11_pair 9 (some .int) rm_X11_pair sp := by
  refine q_met (by decide) ?_
  intro D A p e s m args below meth c σ av post C hsp
  obtain ⟨Inv, h1, hh64, hh70, h2, h3⟩ := H av σ post hsp
  have hV := q_loops (p := p) (l := l) (e := e) (R := rm_X11_pair) (s := s) (m := m) (args := args) (below := below) (meth := meth) (c := c) (D := D) (A := A) (nL := 9) (Q := MQ below (q_Qc D A post) args s rm_X11_pair.cells rm_X11_pair.slots A) [64, 70] (fun h => if h = 64 then k_X11_pair_64 post else k_X11_pair_70 post) (fun K hK h hh => ?_) Inv (fun n h hh => ?_)
  · exact ⟨_, v_X11_pair_0 C hV, h1 _ (fun h n L st σ cr sr hi => ⟨n, hi⟩), h2, h3⟩
  · rcases (by simpa using hh : h = 64 ∨ h = 70) with rfl | rfl
    · exact v_X11_pair_64 C hK
    · exact v_X11_pair_70 C hK
  · rcases (by simpa using hh : h = 64 ∨ h = 70) with rfl | rfl
    · exact hh64 (fun h L st σ cr sr => ∃ m : Nat, m < n ∧ Inv h m L st σ cr sr) n (fun h m L st σ cr sr hm hi => ⟨m, hm, hi⟩)
    · exact hh70 (fun h L st σ cr sr => ∃ m : Nat, m < n ∧ Inv h m L st σ cr sr) n (fun h m L st σ cr sr hm hi => ⟨m, hm, hi⟩)
theorem t_X11_pair (l : Launch) : q_Ct l yX11_pair cX11_pair 9 (some .int) rm_X11_pair s_X11_pair := u_X11_pair l (by
  intro av σ post h
  unfold s_X11_pair at h
  split at h
  · next mr a b k v =>
    obtain ⟨ad, z, g, ⟨gp, r, hm⟩, hI, hLM, hLV, h1⟩ := h
    have hI0 := hI
    unfold I1 at hI
    unfold F_pair at h1
    by_cases hc : isW z a ∧ isW z b ∧ 0 ≤ k ∧ 0 ≤ v ∧ v ≤ 1
    · rw [if_pos hc] at h1
      obtain ⟨ha, hb, hk0, hv⟩ := hc
      have ha2 : 0 ≤ a ∧ a < 20 := ⟨ha.1, by grind⟩
      have hb2 : 0 ≤ b ∧ b < 20 := ⟨hb.1, by grind⟩
      have hla := hLM.at ha.1 ha.2 ha2.2
      have hlb := hLM.at hb.1 hb.2 hb2.2
      have hA20 : lmN g a.toNatClampNeg ≤ 20 := clamp_le 20 hla.1 hla.2
      have hB20 : lmN g b.toNatClampNeg ≤ 20 := clamp_le 20 hlb.1 hlb.2
      have ek := nI_self hk0
      have hkb : k.toNatClampNeg < 2147483648 := by
        obtain ⟨j, hj, e⟩ := nI_of (x := k) (by grind)
        rw [e, nI_clamp hj]; exact hj
      generalize hae : a.toNatClampNeg = an at *
      generalize hbe : b.toNatClampNeg = bn at *
      generalize hke : k.toNatClampNeg = kn at *
      have hRle : ∀ i j, RNg g an bn i j ≤ lmN g an - i := fun i j => RN_le (likB g an bn) (lmN g an) (lmN g bn) _ i j (Nat.le_refl _)
      have hR20 := hRle 0 0
      subst ek
      refine ⟨fun h n L st σ' cr sr => ∃ (r' : Nat → Int32) (cn iN sN m : Nat), mOKx σ' mr ad z g gp r' ∧ tabOK r' g an bn (fun _ _ => True) ∧ st = [] ∧ kn < RNg g an bn 0 0 ∧ iN ≤ lmN g an + 1 ∧ sN ≤ lmN g bn ∧ m ≤ 20 ∧ L = [some (.ref mr), some (.int a), some (.int b), some (.int (nI kn)), some (.int v), some (.int (nI iN)), some (.int (nI sN)), some (.int (nI m)), some (.int (nI cn))] ∧
        ((h = 64 ∧ n = (kn + 1 - cn) * 100 + 50 ∧ ((cn ≤ kn ∧ RNg g an bn iN sN = m ∧ m + cn = RNg g an bn 0 0 ∧ PW (likB g an bn) (lmN g an) (lmN g bn) iN sN m (kn - cn) = PWg g an bn kn) ∨ (cn = kn + 1 ∧ 1 ≤ iN ∧ 1 ≤ sN ∧ PWg g an bn kn = some (iN - 1, sN - 1)))) ∨
         (h = 70 ∧ n = (kn + 1 - cn) * 100 + (lmN g an + 1 - iN) ∧ cn ≤ kn ∧ RNg g an bn iN sN = m ∧ m + cn = RNg g an bn 0 0 ∧ PW (likB g an bn) (lmN g an) (lmN g bn) iN sN m (kn - cn) = PWg g an bn kn)), ?_, ?_, ?_, by simp, by simp [Value.category]⟩
      · intro K hK
        have J33 : k_X11_pair_33 post K [some (.ref mr), some (.int a), some (.int b), some (.int (nI kn)), some (.int v), none, none, none, none] [] σ 0 0 := by
          simp only [c_push, c_null, c_iload, c_aload, c_istore, c_astore, c_iinc, c_iadd, c_isub, c_imul, c_iand, c_ineg, c_dup, c_dup2, c_pop, c_ifnull, c_ifnonnull, c_get, c_put, c_iald, c_zald, c_iast, c_zast, c_aald, c_aast, c_alen, c_new, c_newa, c_newq, c_mna, c_oinit, c_max, c_copy, c_iret, c_zret, c_aret, c_vret, q_do, q_rc, c_ifeq, c_ifne, c_iflt, c_ifge, c_ifgt, c_ifle, c_iceq, c_icne, c_iclt, c_icge, c_icgt, c_icle, c_call0, c_call1, c_call2, c_call3, c_call4, c_call5, c_call6, c_call7, q_L0, List.map_cons, List.map_nil, List.replicate, List.cons_append, List.nil_append, List.append_nil, List.length_cons, List.length_nil, List.length_set, Nat.reduceSub, Nat.reduceAdd, Nat.reduceLT, Nat.reduceLeDiff, Nat.zero_add, Nat.add_zero, Nat.sub_zero, Nat.sub_self, List.getElem?_cons_zero, List.getElem?_cons_succ, List.set_cons_zero, List.set_cons_succ, Option.toList_some, Option.toList_none, List.sum_cons, List.sum_nil, true_and, and_true, true_or, or_true, Nat.le_refl, Nat.zero_le, Value.category, Fin.isValue, Fin.val_zero, Fin.val_one, Fin.val_two, Fin.reduceFinMk, q_10, q_01, not_false_eq_true, not_true_eq_false, forall_const, true_implies, false_implies, implies_true, q_ni, q_fi, q_nb0, q_nb1, q_fb0, q_fb1, q_nor, q_nar, q_for, q_far, q_non, q_nan, q_fon, q_fan, imp_false, false_and, and_false, and_self, false_or, or_false, va_rf, refKind, k_X11_pair_33, hm.rd]
          refine ⟨ad, z, g, gp, r, hm, hI0, ha, hb, hLM, hLV, fun σ' r' hm' hT => ?_⟩
          rw [hae, hbe] at hT
          have t0 := hT 0 0 (Nat.zero_le _) (Nat.zero_le _) trivial
          have e0 : (0 : Int32).toNatClampNeg = 0 := rfl
          simp only [c_push, c_null, c_iload, c_aload, c_istore, c_astore, c_iinc, c_iadd, c_isub, c_imul, c_iand, c_ineg, c_dup, c_dup2, c_pop, c_ifnull, c_ifnonnull, c_get, c_put, c_iald, c_zald, c_iast, c_zast, c_aald, c_aast, c_alen, c_new, c_newa, c_newq, c_mna, c_oinit, c_max, c_copy, c_iret, c_zret, c_aret, c_vret, q_do, q_rc, c_ifeq, c_ifne, c_iflt, c_ifge, c_ifgt, c_ifle, c_iceq, c_icne, c_iclt, c_icge, c_icgt, c_icle, c_call0, c_call1, c_call2, c_call3, c_call4, c_call5, c_call6, c_call7, q_L0, List.map_cons, List.map_nil, List.replicate, List.cons_append, List.nil_append, List.append_nil, List.length_cons, List.length_nil, List.length_set, Nat.reduceSub, Nat.reduceAdd, Nat.reduceLT, Nat.reduceLeDiff, Nat.zero_add, Nat.add_zero, Nat.sub_zero, Nat.sub_self, List.getElem?_cons_zero, List.getElem?_cons_succ, List.set_cons_zero, List.set_cons_succ, Option.toList_some, Option.toList_none, List.sum_cons, List.sum_nil, true_and, and_true, true_or, or_true, Nat.le_refl, Nat.zero_le, Value.category, Fin.isValue, Fin.val_zero, Fin.val_one, Fin.val_two, Fin.reduceFinMk, q_10, q_01, not_false_eq_true, not_true_eq_false, forall_const, true_implies, false_implies, implies_true, q_ni, q_fi, q_nb0, q_nb1, q_fb0, q_fb1, q_nor, q_nar, q_for, q_far, q_non, q_nan, q_fon, q_fan, imp_false, false_and, and_false, and_self, false_or, or_false, va_rf, refKind, hm'.rd, vpi441, e0, t0]
          refine ⟨by decide, ?_⟩
          rw [(cl2 (nI kn) (nI (RNg g an bn 0 0)) _ _ rfl rfl (by omega) (by omega)).2.1]
          refine ⟨fun c => ?_, fun c => ?_⟩
          · exact hK 64 ((kn + 1 - 0) * 100 + 50) _ _ _ _ _ ⟨r', 0, 0, 0, RNg g an bn 0 0, hm', hT, rfl, c, by omega, by omega, by omega, rfl, Or.inl ⟨rfl, rfl, Or.inl ⟨Nat.zero_le _, rfl, rfl, rfl⟩⟩⟩
          · have h2 := h1 _ ⟨gp, r', hm'⟩
            rw [PWg, PW_over _ 0 0 (RNg g an bn 0 0) kn (Nat.le_refl _) rfl (show RNg g an bn 0 0 ≤ kn by omega)] at h2
            exact h2
        clear h1
        have kpos : ¬ nI kn < 0 := nI_pos (by omega)
        simp only [c_push, c_null, c_iload, c_aload, c_istore, c_astore, c_iinc, c_iadd, c_isub, c_imul, c_iand, c_ineg, c_dup, c_dup2, c_pop, c_ifnull, c_ifnonnull, c_get, c_put, c_iald, c_zald, c_iast, c_zast, c_aald, c_aast, c_alen, c_new, c_newa, c_newq, c_mna, c_oinit, c_max, c_copy, c_iret, c_zret, c_aret, c_vret, q_do, q_rc, c_ifeq, c_ifne, c_iflt, c_ifge, c_ifgt, c_ifle, c_iceq, c_icne, c_iclt, c_icge, c_icgt, c_icle, c_call0, c_call1, c_call2, c_call3, c_call4, c_call5, c_call6, c_call7, q_L0, List.map_cons, List.map_nil, List.replicate, List.cons_append, List.nil_append, List.append_nil, List.length_cons, List.length_nil, List.length_set, Nat.reduceSub, Nat.reduceAdd, Nat.reduceLT, Nat.reduceLeDiff, Nat.zero_add, Nat.add_zero, Nat.sub_zero, Nat.sub_self, List.getElem?_cons_zero, List.getElem?_cons_succ, List.set_cons_zero, List.set_cons_succ, Option.toList_some, Option.toList_none, List.sum_cons, List.sum_nil, true_and, and_true, true_or, or_true, Nat.le_refl, Nat.zero_le, Value.category, Fin.isValue, Fin.val_zero, Fin.val_one, Fin.val_two, Fin.reduceFinMk, q_10, q_01, not_false_eq_true, not_true_eq_false, forall_const, true_implies, false_implies, implies_true, q_ni, q_fi, q_nb0, q_nb1, q_fb0, q_fb1, q_nor, q_nar, q_for, q_far, q_non, q_nan, q_fon, q_fan, imp_false, false_and, and_false, and_self, false_or, or_false, va_rf, refKind, k_X11_pair_0, k_X11_pair_30, hm.rd, s_X11_isWork, s_X11_in, s_X10_isWithin, ha, hb, hv, kpos, J33]
        exact hI.2.2.2.1
      · rintro K n hK L st σ' cr sr ⟨r', cn, iN, sN, m, hm', hT, rfl, hkR, hiN, hsN, hm20, rfl, ⟨-, rfl, hcs⟩ | ⟨h9, -⟩⟩
        · simp only [c_push, c_null, c_iload, c_aload, c_istore, c_astore, c_iinc, c_iadd, c_isub, c_imul, c_iand, c_ineg, c_dup, c_dup2, c_pop, c_ifnull, c_ifnonnull, c_get, c_put, c_iald, c_zald, c_iast, c_zast, c_aald, c_aast, c_alen, c_new, c_newa, c_newq, c_mna, c_oinit, c_max, c_copy, c_iret, c_zret, c_aret, c_vret, q_do, q_rc, c_ifeq, c_ifne, c_iflt, c_ifge, c_ifgt, c_ifle, c_iceq, c_icne, c_iclt, c_icge, c_icgt, c_icle, c_call0, c_call1, c_call2, c_call3, c_call4, c_call5, c_call6, c_call7, q_L0, List.map_cons, List.map_nil, List.replicate, List.cons_append, List.nil_append, List.append_nil, List.length_cons, List.length_nil, List.length_set, Nat.reduceSub, Nat.reduceAdd, Nat.reduceLT, Nat.reduceLeDiff, Nat.zero_add, Nat.add_zero, Nat.sub_zero, Nat.sub_self, List.getElem?_cons_zero, List.getElem?_cons_succ, List.set_cons_zero, List.set_cons_succ, Option.toList_some, Option.toList_none, List.sum_cons, List.sum_nil, true_and, and_true, true_or, or_true, Nat.le_refl, Nat.zero_le, Value.category, Fin.isValue, Fin.val_zero, Fin.val_one, Fin.val_two, Fin.reduceFinMk, q_10, q_01, not_false_eq_true, not_true_eq_false, forall_const, true_implies, false_implies, implies_true, q_ni, q_fi, q_nb0, q_nb1, q_fb0, q_fb1, q_nor, q_nar, q_for, q_far, q_non, q_nan, q_fon, q_fan, imp_false, false_and, and_false, and_self, false_or, or_false, va_rf, refKind, k_X11_pair_64, k_X11_pair_140]
          rw [(cl2 (nI kn) (nI cn) _ _ rfl rfl (by omega) (by omega)).2.1]
          refine ⟨fun c => ?_, fun c => ?_⟩
          · rcases hcs with ⟨q1, -⟩ | ⟨q1, q2, q3, q4⟩
            · omega
            · have h2 := h1 _ ⟨gp, r', hm'⟩
              rw [q4] at h2
              unfold pairF at h2
              simp only at h2
              have e1 : nI iN - 1 = nI (iN - 1) := by rw [show iN = iN - 1 + 1 by omega, nI_pred]; rfl
              have e2 : nI sN - 1 = nI (sN - 1) := by rw [show sN = sN - 1 + 1 by omega, nI_pred]; rfl
              rw [e1, e2]
              refine ⟨fun c9 => ?_, fun c9 => ?_⟩
              · rw [if_neg c9] at h2; exact h2
              · rw [if_pos c9] at h2; exact h2
          · rcases hcs with ⟨q1, q2, q3, q4⟩ | ⟨q1, -⟩
            · exact hK 70 ((kn + 1 - cn) * 100 + (lmN g an + 1 - iN)) _ _ _ _ _ (by omega) ⟨r', cn, iN, sN, m, hm', hT, rfl, hkR, hiN, hsN, hm20, rfl, Or.inr ⟨rfl, rfl, q1, q2, q3, q4⟩⟩
            · omega
        · exact absurd h9 (by decide)
      · rintro K n hK L st σ' cr sr ⟨r', cn, iN, sN, m, hm', hT, rfl, hkR, hiN, hsN, hm20, rfl, ⟨h9, -⟩ | ⟨-, rfl, q1, q2, q3, q4⟩⟩
        · exact absurd h9 (by decide)
        · have hin : iN < lmN g an ∧ sN < lmN g bn := by
            by_cases c : iN < lmN g an ∧ sN < lmN g bn
            · exact c
            · have : RNg g an bn iN sN = 0 := RN_out c
              omega
          have e1 : nI m - 1 = nI (m - 1) := by rw [show m = m - 1 + 1 by omega, nI_pred]; rfl
          have J94 : ∀ j, sN ≤ j → j < lmN g bn → likB g an bn iN j = true → m - 1 ≤ RNg g an bn (iN + 1) (j + 1) → (∀ j', sN ≤ j' → j' < j → ¬ (likB g an bn iN j' = true ∧ m - 1 ≤ RNg g an bn (iN + 1) (j' + 1))) → k_X11_pair_94 post K [some (.ref mr), some (.int a), some (.int b), some (.int (nI kn)), some (.int v), some (.int (nI iN)), some (.int (nI sN)), some (.int (nI m)), some (.int (nI cn))] [] σ' cr sr := fun j p1 p2 p3 p4 p5 => by
            simp only [c_push, c_null, c_iload, c_aload, c_istore, c_astore, c_iinc, c_iadd, c_isub, c_imul, c_iand, c_ineg, c_dup, c_dup2, c_pop, c_ifnull, c_ifnonnull, c_get, c_put, c_iald, c_zald, c_iast, c_zast, c_aald, c_aast, c_alen, c_new, c_newa, c_newq, c_mna, c_oinit, c_max, c_copy, c_iret, c_zret, c_aret, c_vret, q_do, q_rc, c_ifeq, c_ifne, c_iflt, c_ifge, c_ifgt, c_ifle, c_iceq, c_icne, c_iclt, c_icge, c_icgt, c_icle, c_call0, c_call1, c_call2, c_call3, c_call4, c_call5, c_call6, c_call7, q_L0, List.map_cons, List.map_nil, List.replicate, List.cons_append, List.nil_append, List.append_nil, List.length_cons, List.length_nil, List.length_set, Nat.reduceSub, Nat.reduceAdd, Nat.reduceLT, Nat.reduceLeDiff, Nat.zero_add, Nat.add_zero, Nat.sub_zero, Nat.sub_self, List.getElem?_cons_zero, List.getElem?_cons_succ, List.set_cons_zero, List.set_cons_succ, Option.toList_some, Option.toList_none, List.sum_cons, List.sum_nil, true_and, and_true, true_or, or_true, Nat.le_refl, Nat.zero_le, Value.category, Fin.isValue, Fin.val_zero, Fin.val_one, Fin.val_two, Fin.reduceFinMk, q_10, q_01, not_false_eq_true, not_true_eq_false, forall_const, true_implies, false_implies, implies_true, q_ni, q_fi, q_nb0, q_nb1, q_fb0, q_fb1, q_nor, q_nar, q_for, q_far, q_non, q_nan, q_fon, q_fan, imp_false, false_and, and_false, and_self, false_or, or_false, va_rf, refKind, k_X11_pair_94, hm'.rd]
            rw [e1]
            refine ⟨ad, z, g, gp, r', hm', hI0, ha, hb, hLM, hLV, by rw [hae, hbe]; exact hT, iN, sN, m - 1, by rw [hae]; exact hin.1, by rw [hbe]; exact hsN, by omega, rfl, rfl, rfl, ?_, ?_⟩
            · rw [hae, hbe]
              intro j2 r1 r2 r3 r4 r5
              have ej : j2 = j := by
                rcases Nat.lt_trichotomy j2 j with h | h | h
                · exact absurd ⟨r3, r4⟩ (p5 j2 r1 h)
                · exact h
                · exact absurd ⟨p3, p4⟩ (r5 j p1 h)
              subst ej
              simp only [c_push, c_null, c_iload, c_aload, c_istore, c_astore, c_iinc, c_iadd, c_isub, c_imul, c_iand, c_ineg, c_dup, c_dup2, c_pop, c_ifnull, c_ifnonnull, c_get, c_put, c_iald, c_zald, c_iast, c_zast, c_aald, c_aast, c_alen, c_new, c_newa, c_newq, c_mna, c_oinit, c_max, c_copy, c_iret, c_zret, c_aret, c_vret, q_do, q_rc, c_ifeq, c_ifne, c_iflt, c_ifge, c_ifgt, c_ifle, c_iceq, c_icne, c_iclt, c_icge, c_icgt, c_icle, c_call0, c_call1, c_call2, c_call3, c_call4, c_call5, c_call6, c_call7, q_L0, List.map_cons, List.map_nil, List.replicate, List.cons_append, List.nil_append, List.append_nil, List.length_cons, List.length_nil, List.length_set, Nat.reduceSub, Nat.reduceAdd, Nat.reduceLT, Nat.reduceLeDiff, Nat.zero_add, Nat.add_zero, Nat.sub_zero, Nat.sub_self, List.getElem?_cons_zero, List.getElem?_cons_succ, List.set_cons_zero, List.set_cons_succ, Option.toList_some, Option.toList_none, List.sum_cons, List.sum_nil, true_and, and_true, true_or, or_true, Nat.le_refl, Nat.zero_le, Value.category, Fin.isValue, Fin.val_zero, Fin.val_one, Fin.val_two, Fin.reduceFinMk, q_10, q_01, not_false_eq_true, not_true_eq_false, forall_const, true_implies, false_implies, implies_true, q_ni, q_fi, q_nb0, q_nb1, q_fb0, q_fb1, q_nor, q_nar, q_for, q_far, q_non, q_nan, q_fon, q_fan, imp_false, false_and, and_false, and_self, false_or, or_false, va_rf, refKind]
              have hh := PW_hit (lk := likB g an bn) (la := lmN g an) (lb := lmN g bn) (kn - cn) (by omega) q2 p1 p2 p3 p4 p5
              rw [q4] at hh
              have e2 : nI m + -1 = nI (m - 1) := by rw [nI_mm]; exact e1
              rw [e2, nI_1, nI_1, nI_1]
              refine hK 64 ((kn + 1 - (cn + 1)) * 100 + 50) _ _ _ _ _ (by omega) ⟨r', cn + 1, iN + 1, j2 + 1, m - 1, hm', hT, rfl, hkR, by omega, by omega, by omega, rfl, Or.inl ⟨rfl, rfl, ?_⟩⟩
              by_cases c : cn = kn
              · have hz : kn - cn = 0 := by omega
                rw [if_pos hz] at hh
                exact Or.inr ⟨by omega, by omega, by omega, hh.2⟩
              · have hz : ¬ kn - cn = 0 := by omega
                rw [if_neg hz] at hh
                exact Or.inl ⟨by omega, hh.1, by omega, by rw [hh.2]; congr 1⟩
            · rw [hae, hbe]
              intro hn
              exact absurd ⟨p3, p4⟩ (hn j p1 p2)
          simp only [c_push, c_null, c_iload, c_aload, c_istore, c_astore, c_iinc, c_iadd, c_isub, c_imul, c_iand, c_ineg, c_dup, c_dup2, c_pop, c_ifnull, c_ifnonnull, c_get, c_put, c_iald, c_zald, c_iast, c_zast, c_aald, c_aast, c_alen, c_new, c_newa, c_newq, c_mna, c_oinit, c_max, c_copy, c_iret, c_zret, c_aret, c_vret, q_do, q_rc, c_ifeq, c_ifne, c_iflt, c_ifge, c_ifgt, c_ifle, c_iceq, c_icne, c_iclt, c_icge, c_icgt, c_icle, c_call0, c_call1, c_call2, c_call3, c_call4, c_call5, c_call6, c_call7, q_L0, List.map_cons, List.map_nil, List.replicate, List.cons_append, List.nil_append, List.append_nil, List.length_cons, List.length_nil, List.length_set, Nat.reduceSub, Nat.reduceAdd, Nat.reduceLT, Nat.reduceLeDiff, Nat.zero_add, Nat.add_zero, Nat.sub_zero, Nat.sub_self, List.getElem?_cons_zero, List.getElem?_cons_succ, List.set_cons_zero, List.set_cons_succ, Option.toList_some, Option.toList_none, List.sum_cons, List.sum_nil, true_and, and_true, true_or, or_true, Nat.le_refl, Nat.zero_le, Value.category, Fin.isValue, Fin.val_zero, Fin.val_one, Fin.val_two, Fin.reduceFinMk, q_10, q_01, not_false_eq_true, not_true_eq_false, forall_const, true_implies, false_implies, implies_true, q_ni, q_fi, q_nb0, q_nb1, q_fb0, q_fb1, q_nor, q_nar, q_for, q_far, q_non, q_nan, q_fon, q_fan, imp_false, false_and, and_false, and_self, false_or, or_false, va_rf, refKind, k_X11_pair_70, hm'.rd]
          rw [e1]
          refine ⟨ad, z, g, gp, r', hm', hI0, ha, hb, hLM, hLV, by rw [hae, hbe]; exact hT, iN, sN, m - 1, by rw [hae]; exact hin.1, by rw [hbe]; exact hsN, by omega, rfl, rfl, rfl, ?_, ?_⟩
          · rw [hae, hbe]
            intro j p1 p2 p3 p4 p5
            simp only [c_push, c_null, c_iload, c_aload, c_istore, c_astore, c_iinc, c_iadd, c_isub, c_imul, c_iand, c_ineg, c_dup, c_dup2, c_pop, c_ifnull, c_ifnonnull, c_get, c_put, c_iald, c_zald, c_iast, c_zast, c_aald, c_aast, c_alen, c_new, c_newa, c_newq, c_mna, c_oinit, c_max, c_copy, c_iret, c_zret, c_aret, c_vret, q_do, q_rc, c_ifeq, c_ifne, c_iflt, c_ifge, c_ifgt, c_ifle, c_iceq, c_icne, c_iclt, c_icge, c_icgt, c_icle, c_call0, c_call1, c_call2, c_call3, c_call4, c_call5, c_call6, c_call7, q_L0, List.map_cons, List.map_nil, List.replicate, List.cons_append, List.nil_append, List.append_nil, List.length_cons, List.length_nil, List.length_set, Nat.reduceSub, Nat.reduceAdd, Nat.reduceLT, Nat.reduceLeDiff, Nat.zero_add, Nat.add_zero, Nat.sub_zero, Nat.sub_self, List.getElem?_cons_zero, List.getElem?_cons_succ, List.set_cons_zero, List.set_cons_succ, Option.toList_some, Option.toList_none, List.sum_cons, List.sum_nil, true_and, and_true, true_or, or_true, Nat.le_refl, Nat.zero_le, Value.category, Fin.isValue, Fin.val_zero, Fin.val_one, Fin.val_two, Fin.reduceFinMk, q_10, q_01, not_false_eq_true, not_true_eq_false, forall_const, true_implies, false_implies, implies_true, q_ni, q_fi, q_nb0, q_nb1, q_fb0, q_fb1, q_nor, q_nar, q_for, q_far, q_non, q_nan, q_fon, q_fan, imp_false, false_and, and_false, and_self, false_or, or_false, va_rf, refKind]
            exact ⟨fun _ => J94 j p1 p2 p3 p4 p5, fun c => absurd c (nI_m1 (by omega))⟩
          · rw [hae, hbe]
            intro hn
            simp only [c_push, c_null, c_iload, c_aload, c_istore, c_astore, c_iinc, c_iadd, c_isub, c_imul, c_iand, c_ineg, c_dup, c_dup2, c_pop, c_ifnull, c_ifnonnull, c_get, c_put, c_iald, c_zald, c_iast, c_zast, c_aald, c_aast, c_alen, c_new, c_newa, c_newq, c_mna, c_oinit, c_max, c_copy, c_iret, c_zret, c_aret, c_vret, q_do, q_rc, c_ifeq, c_ifne, c_iflt, c_ifge, c_ifgt, c_ifle, c_iceq, c_icne, c_iclt, c_icge, c_icgt, c_icle, c_call0, c_call1, c_call2, c_call3, c_call4, c_call5, c_call6, c_call7, q_L0, List.map_cons, List.map_nil, List.replicate, List.cons_append, List.nil_append, List.append_nil, List.length_cons, List.length_nil, List.length_set, Nat.reduceSub, Nat.reduceAdd, Nat.reduceLT, Nat.reduceLeDiff, Nat.zero_add, Nat.add_zero, Nat.sub_zero, Nat.sub_self, List.getElem?_cons_zero, List.getElem?_cons_succ, List.set_cons_zero, List.set_cons_succ, Option.toList_some, Option.toList_none, List.sum_cons, List.sum_nil, true_and, and_true, true_or, or_true, Nat.le_refl, Nat.zero_le, Value.category, Fin.isValue, Fin.val_zero, Fin.val_one, Fin.val_two, Fin.reduceFinMk, q_10, q_01, not_false_eq_true, not_true_eq_false, forall_const, true_implies, false_implies, implies_true, q_ni, q_fi, q_nb0, q_nb1, q_fb0, q_fb1, q_nor, q_nar, q_for, q_far, q_non, q_nan, q_fon, q_fan, imp_false, false_and, and_false, and_self, false_or, or_false, va_rf, refKind]
            have hh := PW_miss (lk := likB g an bn) (la := lmN g an) (lb := lmN g bn) (kn - cn) (by omega) q2 hn
            rw [nI_1]
            exact hK 70 ((kn + 1 - cn) * 100 + (lmN g an + 1 - (iN + 1))) _ _ _ _ _ (by omega) ⟨r', cn, iN + 1, sN, m, hm', hT, rfl, hkR, by omega, hsN, hm20, rfl, Or.inr ⟨rfl, rfl, q1, hh.1, q3, by rw [← hh.2]; exact q4⟩⟩
    · rw [if_neg hc] at h1
      have h2 := h1 _ ⟨gp, r, hm⟩
      refine ⟨fun _ _ _ _ _ _ _ => False, ?_, ?_, ?_, by simp, by simp [Value.category]⟩
      · intro K hK
        simp only [c_push, c_null, c_iload, c_aload, c_istore, c_astore, c_iinc, c_iadd, c_isub, c_imul, c_iand, c_ineg, c_dup, c_dup2, c_pop, c_ifnull, c_ifnonnull, c_get, c_put, c_iald, c_zald, c_iast, c_zast, c_aald, c_aast, c_alen, c_new, c_newa, c_newq, c_mna, c_oinit, c_max, c_copy, c_iret, c_zret, c_aret, c_vret, q_do, q_rc, c_ifeq, c_ifne, c_iflt, c_ifge, c_ifgt, c_ifle, c_iceq, c_icne, c_iclt, c_icge, c_icgt, c_icle, c_call0, c_call1, c_call2, c_call3, c_call4, c_call5, c_call6, c_call7, q_L0, List.map_cons, List.map_nil, List.replicate, List.cons_append, List.nil_append, List.append_nil, List.length_cons, List.length_nil, List.length_set, Nat.reduceSub, Nat.reduceAdd, Nat.reduceLT, Nat.reduceLeDiff, Nat.zero_add, Nat.add_zero, Nat.sub_zero, Nat.sub_self, List.getElem?_cons_zero, List.getElem?_cons_succ, List.set_cons_zero, List.set_cons_succ, Option.toList_some, Option.toList_none, List.sum_cons, List.sum_nil, true_and, and_true, true_or, or_true, Nat.le_refl, Nat.zero_le, Value.category, Fin.isValue, Fin.val_zero, Fin.val_one, Fin.val_two, Fin.reduceFinMk, q_10, q_01, not_false_eq_true, not_true_eq_false, forall_const, true_implies, false_implies, implies_true, q_ni, q_fi, q_nb0, q_nb1, q_fb0, q_fb1, q_nor, q_nar, q_for, q_far, q_non, q_nan, q_fon, q_fan, imp_false, false_and, and_false, and_self, false_or, or_false, va_rf, refKind, k_X11_pair_0, k_X11_pair_30, hm.rd, s_X11_isWork, s_X11_in, s_X10_isWithin, h2]
        clear hK h1 hm h2
        grind (splits := 40)
      · intro K n hK L st σ' cr sr h; exact h.elim
      · intro K n hK L st σ' cr sr h; exact h.elim
  · exact h.elim)
end
section
-- death
def clrF (g : Nat → Nat → Int32) (w p : Nat) : Nat → Nat → Nat → Int32
  | 0 => g
  | q + 1 => gup (clrF g w p q) 20 (144 * w + 12 * p + q) 0
def dmF (s : (Nat → Int32) × (Nat → Nat → Int32)) (w : Nat) (p to : Int32) : (Nat → Int32) × (Nat → Nat → Int32) := if 0 < holdsF s.2 (nI w) p (s.1 0) (mvF s.1) then (upd s.1 14 (s.1 14 + 1), moveF s.1 s.2 (nI w) p to (holdsF s.2 (nI w) p (s.1 0) (mvF s.1))) else s
def dF (z : Nat → Int32) (g : Nat → Nat → Int32) (p to : Int32) : Nat → (Nat → Int32) × (Nat → Nat → Int32)
  | 0 => (z, g)
  | w + 1 => ((dmF (dF z g p to w) w p to).1, clrF (dmF (dF z g p to w) w p to).2 w p.toNatClampNeg 12)
theorem dmF_z (s : (Nat → Int32) × (Nat → Nat → Int32)) (w : Nat) (p to : Int32) (k : Nat) (hk : k ≠ 14) : (dmF s w p to).1 k = s.1 k := by
  unfold dmF; split <;> simp [upd, hk]
theorem dF_z (z : Nat → Int32) (g : Nat → Nat → Int32) (p to : Int32) (k : Nat) (hk : k ≠ 14) : ∀ w : Nat, (dF z g p to w).1 k = z k
  | 0 => rfl
  | w + 1 => by rw [dF]; exact (dmF_z _ _ _ _ k hk).trans (dF_z z g p to k hk w)
theorem dF_m (z : Nat → Int32) (g : Nat → Nat → Int32) (p to : Int32) (h0 : 0 ≤ z 14 ∧ z 14 ≤ 980) : ∀ w : Nat, w ≤ 20 → ∃ m : Nat, (dF z g p to w).1 14 = nI m ∧ m ≤ (z 14).toNatClampNeg + w
  | 0, _ => ⟨(z 14).toNatClampNeg, (nI_self h0.1).symm, Nat.le_refl _⟩
  | w + 1, hw => by
    obtain ⟨m, e, hm⟩ := dF_m z g p to h0 w (by omega)
    rw [dF]
    unfold dmF
    split
    · refine ⟨m + 1, ?_, by omega⟩
      simp only [upd, if_true]
      rw [e, nI_1]
    · exact ⟨m, e, by omega⟩
theorem clrF_ne (g : Nat → Nat → Int32) (w p : Nat) (k : Nat) (hk : k ≠ 20) : ∀ q : Nat, clrF g w p q k = g k
  | 0 => rfl
  | q + 1 => by rw [clrF]; unfold gup; rw [if_neg hk]; exact clrF_ne g w p k hk q
theorem moveF_ne (z : Nat → Int32) (g : Nat → Nat → Int32) (w a b n : Int32) (k : Nat) (hk : k < 15 ∨ 19 < k) : moveF z g w a b n k = g k := by
  unfold moveF gup
  rw [if_neg (by omega), if_neg (by omega), if_neg (by omega), if_neg (by omega), if_neg (by omega)]
theorem dF_g (z : Nat → Int32) (g : Nat → Nat → Int32) (p to : Int32) (k : Nat) (hk : k < 15 ∨ 20 < k) : ∀ w : Nat, (dF z g p to w).2 k = g k
  | 0 => rfl
  | w + 1 => by
    rw [dF]
    dsimp only
    rw [clrF_ne _ _ _ k (by omega)]
    unfold dmF
    split
    · dsimp only
      rw [moveF_ne _ _ _ _ _ _ k (by omega)]; exact dF_g z g p to k hk w
    · exact dF_g z g p to k hk w
def g34 (z : Nat → Int32) (g : Nat → Nat → Int32) (p on : Int32) : Nat → Nat → Int32 := gup (gup g 3 p.toNatClampNeg on) 4 p.toNatClampNeg (z 0)
abbrev hasH (z : Nat → Int32) (g : Nat → Nat → Int32) (p on : Int32) : Prop := ¬ g 2 p.toNatClampNeg = -1 ∧ g34 z g p on 3 (g 2 p.toNatClampNeg).toNatClampNeg = -1
def toH (z : Nat → Int32) (g : Nat → Nat → Int32) (p on : Int32) : Int32 := if hasH z g p on then g 2 p.toNatClampNeg else 12
def F_death (z : Nat → Int32) (g : Nat → Nat → Int32) (p on : Int32) : Int32 × (Nat → Int32) × (Nat → Nat → Int32) :=
  if isP z p ∧ 0 ≤ on ∧ on ≤ z 0 then if ¬ g 3 p.toNatClampNeg = -1 then (-3, z, g) else (if hasH z g p on then g 2 p.toNatClampNeg else -5, dF z (g34 z g p on) p (toH z g p on) (z 11).toNatClampNeg) else (-2, z, g)
def s_X11_death : q_Sp := fun av σ post => match av with
  | [.ref mr, .int p, .int on] => ∃ ad z g, mOK σ mr ad z g ∧ I1 z ∧ (z 14 ≤ 980 ∨ (isP z p → ¬ g 3 p.toNatClampNeg = -1)) ∧ (isP z p → g 2 p.toNatClampNeg = -1 ∨ 0 ≤ g 2 p.toNatClampNeg ∧ g 2 p.toNatClampNeg < 12) ∧ ∀ σ', mOK σ' mr ad (F_death z g p on).2.1 (F_death z g p on).2.2 → post (some (.int (F_death z g p on).1)) σ'
  | _ => False
def rm_X11_death : Room := { frames := 2, cells := 0, slots := 0, locals := 43 }
def k_X11_death_20 (post : Option Value → q_S → Prop) (K : Nat → q_K) : q_K := (c_push (-2) (c_iret post))
def k_X11_death_99 (post : Option Value → q_S → Prop) (K : Nat → q_K) : q_K := (c_istore 4 (c_push 0 (c_istore 5 (K 104))))
def k_X11_death_83 (post : Option Value → q_S → Prop) (K : Nat → q_K) : q_K := (c_istore 3 (c_iload 3 (c_ifeq (c_push 12 (k_X11_death_99 post K)) (c_aload 0 (c_get 11 2 (c_iload 1 (c_iald (k_X11_death_99 post K))))))))
def k_X11_death_82 (post : Option Value → q_S → Prop) (K : Nat → q_K) : q_K := (c_push 0 (k_X11_death_83 post K))
def k_X11_death_36 (post : Option Value → q_S → Prop) (K : Nat → q_K) : q_K := (c_aload 0 (c_get 11 3 (c_iload 1 (c_iload 2 (c_iast (c_aload 0 (c_get 11 4 (c_iload 1 (c_aload 0 (c_get 11 0 (c_iast (c_aload 0 (c_get 11 2 (c_iload 1 (c_iald (c_push (-1) (c_iceq (k_X11_death_82 post K) (c_aload 0 (c_get 11 3 (c_aload 0 (c_get 11 2 (c_iload 1 (c_iald (c_iald (c_push (-1) (c_icne (k_X11_death_82 post K) (c_push 1 (k_X11_death_83 post K))))))))))))))))))))))))))))
def k_X11_death_0 (post : Option Value → q_S → Prop) (K : Nat → q_K) : q_K := (c_aload 0 (c_iload 1 (c_call2 (some 11) s_X11_isPerson 0 0 (c_ifeq (k_X11_death_20 post K) (c_iload 2 (c_push 0 (c_aload 0 (c_get 11 0 (c_call3 none s_X11_in 0 0 (c_ifne (c_aload 0 (c_get 11 3 (c_iload 1 (c_iald (c_push (-1) (c_iceq (k_X11_death_36 post K) (c_push (-3) (c_iret post)))))))) (k_X11_death_20 post K)))))))))))
def k_X11_death_142 (post : Option Value → q_S → Prop) (K : Nat → q_K) : q_K := (c_push 0 (c_istore 7 (K 145)))
def k_X11_death_126 (post : Option Value → q_S → Prop) (K : Nat → q_K) : q_K := (c_iload 6 (c_ifle (k_X11_death_142 post K) (c_aload 0 (c_iload 5 (c_iload 1 (c_iload 4 (c_iload 6 (c_call5 (some 11) s_X11_move 0 0 (k_X11_death_142 post K)))))))))
def k_X11_death_195 (post : Option Value → q_S → Prop) (K : Nat → q_K) : q_K := (c_iret post)
def k_X11_death_104 (post : Option Value → q_S → Prop) (K : Nat → q_K) : q_K := (c_iload 5 (c_aload 0 (c_get 11 11 (c_icge (c_iload 3 (c_ifeq (c_push (-5) (k_X11_death_195 post K)) (c_iload 4 (k_X11_death_195 post K)))) (c_aload 0 (c_iload 5 (c_iload 1 (c_aload 0 (c_get 11 0 (c_call4 (some 11) s_X11_holds 0 0 (c_istore 6 (k_X11_death_126 post K))))))))))))
def k_X11_death_145 (post : Option Value → q_S → Prop) (K : Nat → q_K) : q_K := (c_iload 7 (c_push 12 (c_icge (c_iinc 5 1 (K 104)) (c_aload 0 (c_get 11 20 (c_push 144 (c_iload 5 (c_imul (c_push 12 (c_iload 1 (c_imul (c_iadd (c_iload 7 (c_iadd (c_push 0 (c_iast (c_iinc 7 1 (K 145))))))))))))))))))
set_option maxRecDepth 100000 in
theorem v_X11_death_20 {p : Program} {l : Launch} {e : Env} {s : State} {m : MethodId} {args : Array Value} {below : List Frame} {meth : Method} {c : Code} {D : va_G} {A : Nat → Prop} {post : Option Value → q_S → Prop} {K : Nat → q_K} (C : q_C p s m args meth c cX11_death 8 RX11 "death" (some .int) A) (hK : ∀ h ∈ ([104, 145] : List Nat), q_V p l e rm_X11_death s m args below meth c D A 8 (MQ below (q_Qc D A post) args s rm_X11_death.cells rm_X11_death.slots A) h (K h)) : q_V p l e rm_X11_death s m args below meth c D A 8 (MQ below (q_Qc D A post) args s rm_X11_death.cells rm_X11_death.slots A) 20 (k_X11_death_20 post K) := by
  unfold k_X11_death_20
  refine q_bipush C (by decide +kernel : decode cX11_death 20 = .ok (.bipush (-2), 2)) (by decide) ?_
  exact q_iret C rfl (by decide +kernel : decode cX11_death 22 = .ok (.ireturn, 1))
set_option maxRecDepth 100000 in
theorem v_X11_death_99 {p : Program} {l : Launch} {e : Env} {s : State} {m : MethodId} {args : Array Value} {below : List Frame} {meth : Method} {c : Code} {D : va_G} {A : Nat → Prop} {post : Option Value → q_S → Prop} {K : Nat → q_K} (C : q_C p s m args meth c cX11_death 8 RX11 "death" (some .int) A) (hK : ∀ h ∈ ([104, 145] : List Nat), q_V p l e rm_X11_death s m args below meth c D A 8 (MQ below (q_Qc D A post) args s rm_X11_death.cells rm_X11_death.slots A) h (K h)) : q_V p l e rm_X11_death s m args below meth c D A 8 (MQ below (q_Qc D A post) args s rm_X11_death.cells rm_X11_death.slots A) 99 (k_X11_death_99 post K) := by
  unfold k_X11_death_99
  refine q_istore C (by decide +kernel : decode cX11_death 99 = .ok (.istore 4, 2)) ?_
  refine q_iconst C (by decide +kernel : decode cX11_death 101 = .ok (.iconst 0, 1)) (by decide) ?_
  refine q_istore C (by decide +kernel : decode cX11_death 102 = .ok (.istore 5, 2)) ?_
  exact hK 104 (by decide)
set_option maxRecDepth 100000 in
theorem v_X11_death_83 {p : Program} {l : Launch} {e : Env} {s : State} {m : MethodId} {args : Array Value} {below : List Frame} {meth : Method} {c : Code} {D : va_G} {A : Nat → Prop} {post : Option Value → q_S → Prop} {K : Nat → q_K} (C : q_C p s m args meth c cX11_death 8 RX11 "death" (some .int) A) (hK : ∀ h ∈ ([104, 145] : List Nat), q_V p l e rm_X11_death s m args below meth c D A 8 (MQ below (q_Qc D A post) args s rm_X11_death.cells rm_X11_death.slots A) h (K h)) : q_V p l e rm_X11_death s m args below meth c D A 8 (MQ below (q_Qc D A post) args s rm_X11_death.cells rm_X11_death.slots A) 83 (k_X11_death_83 post K) := by
  unfold k_X11_death_83
  refine q_istore_n C (by decide +kernel : decode cX11_death 83 = .ok (.istore_n 3, 1)) ?_
  refine q_iload_n C (by decide +kernel : decode cX11_death 84 = .ok (.iload_n 3, 1)) ?_
  refine q_ifeq C (tgt := 97) (by decide +kernel : decode cX11_death 85 = .ok (.ifCond .eq 12, 3)) (by decide) ?_ ?_
  · refine q_bipush C (by decide +kernel : decode cX11_death 97 = .ok (.bipush 12, 2)) (by decide) ?_
    exact v_X11_death_99 C hK
  · refine q_aload_n C (by decide +kernel : decode cX11_death 88 = .ok (.aload_n 0, 1)) ?_
    refine q_get C (ci := 11) (j := 2) (C0 := RX11) (T := TX11) (N := 35) rfl iX11 giX11 (by decide) w9_11 (by decide +kernel : decode cX11_death 89 = .ok (.getfield 7, 3)) ?_
    refine q_iload_n C (by decide +kernel : decode cX11_death 92 = .ok (.iload_n 1, 1)) ?_
    refine q_iald C (by decide +kernel : decode cX11_death 93 = .ok (.iaload, 1)) ?_
    refine q_goto C (tgt := 99) (by decide +kernel : decode cX11_death 94 = .ok (.goto 5, 3)) (by decide) ?_
    exact v_X11_death_99 C hK
set_option maxRecDepth 100000 in
theorem v_X11_death_82 {p : Program} {l : Launch} {e : Env} {s : State} {m : MethodId} {args : Array Value} {below : List Frame} {meth : Method} {c : Code} {D : va_G} {A : Nat → Prop} {post : Option Value → q_S → Prop} {K : Nat → q_K} (C : q_C p s m args meth c cX11_death 8 RX11 "death" (some .int) A) (hK : ∀ h ∈ ([104, 145] : List Nat), q_V p l e rm_X11_death s m args below meth c D A 8 (MQ below (q_Qc D A post) args s rm_X11_death.cells rm_X11_death.slots A) h (K h)) : q_V p l e rm_X11_death s m args below meth c D A 8 (MQ below (q_Qc D A post) args s rm_X11_death.cells rm_X11_death.slots A) 82 (k_X11_death_82 post K) := by
  unfold k_X11_death_82
  refine q_iconst C (by decide +kernel : decode cX11_death 82 = .ok (.iconst 0, 1)) (by decide) ?_
  exact v_X11_death_83 C hK
set_option maxRecDepth 100000 in
theorem v_X11_death_36 {p : Program} {l : Launch} {e : Env} {s : State} {m : MethodId} {args : Array Value} {below : List Frame} {meth : Method} {c : Code} {D : va_G} {A : Nat → Prop} {post : Option Value → q_S → Prop} {K : Nat → q_K} (C : q_C p s m args meth c cX11_death 8 RX11 "death" (some .int) A) (hK : ∀ h ∈ ([104, 145] : List Nat), q_V p l e rm_X11_death s m args below meth c D A 8 (MQ below (q_Qc D A post) args s rm_X11_death.cells rm_X11_death.slots A) h (K h)) : q_V p l e rm_X11_death s m args below meth c D A 8 (MQ below (q_Qc D A post) args s rm_X11_death.cells rm_X11_death.slots A) 36 (k_X11_death_36 post K) := by
  unfold k_X11_death_36
  refine q_aload_n C (by decide +kernel : decode cX11_death 36 = .ok (.aload_n 0, 1)) ?_
  refine q_get C (ci := 11) (j := 3) (C0 := RX11) (T := TX11) (N := 35) rfl iX11 giX11 (by decide) w9_12 (by decide +kernel : decode cX11_death 37 = .ok (.getfield 13, 3)) ?_
  refine q_iload_n C (by decide +kernel : decode cX11_death 40 = .ok (.iload_n 1, 1)) ?_
  refine q_iload_n C (by decide +kernel : decode cX11_death 41 = .ok (.iload_n 2, 1)) ?_
  refine q_iast C (by decide +kernel : decode cX11_death 42 = .ok (.iastore, 1)) ?_
  refine q_aload_n C (by decide +kernel : decode cX11_death 43 = .ok (.aload_n 0, 1)) ?_
  refine q_get C (ci := 11) (j := 4) (C0 := RX11) (T := TX11) (N := 35) rfl iX11 giX11 (by decide) w9_17 (by decide +kernel : decode cX11_death 44 = .ok (.getfield 16, 3)) ?_
  refine q_iload_n C (by decide +kernel : decode cX11_death 47 = .ok (.iload_n 1, 1)) ?_
  refine q_aload_n C (by decide +kernel : decode cX11_death 48 = .ok (.aload_n 0, 1)) ?_
  refine q_get C (ci := 11) (j := 0) (C0 := RX11) (T := TX11) (N := 35) rfl iX11 giX11 (by decide) w9_10 (by decide +kernel : decode cX11_death 49 = .ok (.getfield 96, 3)) ?_
  refine q_iast C (by decide +kernel : decode cX11_death 52 = .ok (.iastore, 1)) ?_
  refine q_aload_n C (by decide +kernel : decode cX11_death 53 = .ok (.aload_n 0, 1)) ?_
  refine q_get C (ci := 11) (j := 2) (C0 := RX11) (T := TX11) (N := 35) rfl iX11 giX11 (by decide) w9_11 (by decide +kernel : decode cX11_death 54 = .ok (.getfield 7, 3)) ?_
  refine q_iload_n C (by decide +kernel : decode cX11_death 57 = .ok (.iload_n 1, 1)) ?_
  refine q_iald C (by decide +kernel : decode cX11_death 58 = .ok (.iaload, 1)) ?_
  refine q_iconst C (by decide +kernel : decode cX11_death 59 = .ok (.iconst (-1), 1)) (by decide) ?_
  refine q_iceq C (tgt := 82) (by decide +kernel : decode cX11_death 60 = .ok (.if_icmp .eq 22, 3)) (by decide) ?_ ?_
  · exact v_X11_death_82 C hK
  · refine q_aload_n C (by decide +kernel : decode cX11_death 63 = .ok (.aload_n 0, 1)) ?_
    refine q_get C (ci := 11) (j := 3) (C0 := RX11) (T := TX11) (N := 35) rfl iX11 giX11 (by decide) w9_12 (by decide +kernel : decode cX11_death 64 = .ok (.getfield 13, 3)) ?_
    refine q_aload_n C (by decide +kernel : decode cX11_death 67 = .ok (.aload_n 0, 1)) ?_
    refine q_get C (ci := 11) (j := 2) (C0 := RX11) (T := TX11) (N := 35) rfl iX11 giX11 (by decide) w9_11 (by decide +kernel : decode cX11_death 68 = .ok (.getfield 7, 3)) ?_
    refine q_iload_n C (by decide +kernel : decode cX11_death 71 = .ok (.iload_n 1, 1)) ?_
    refine q_iald C (by decide +kernel : decode cX11_death 72 = .ok (.iaload, 1)) ?_
    refine q_iald C (by decide +kernel : decode cX11_death 73 = .ok (.iaload, 1)) ?_
    refine q_iconst C (by decide +kernel : decode cX11_death 74 = .ok (.iconst (-1), 1)) (by decide) ?_
    refine q_icne C (tgt := 82) (by decide +kernel : decode cX11_death 75 = .ok (.if_icmp .ne 7, 3)) (by decide) ?_ ?_
    · exact v_X11_death_82 C hK
    · refine q_iconst C (by decide +kernel : decode cX11_death 78 = .ok (.iconst 1, 1)) (by decide) ?_
      refine q_goto C (tgt := 83) (by decide +kernel : decode cX11_death 79 = .ok (.goto 4, 3)) (by decide) ?_
      exact v_X11_death_83 C hK
set_option maxRecDepth 100000 in
theorem v_X11_death_0 {p : Program} {l : Launch} {e : Env} {s : State} {m : MethodId} {args : Array Value} {below : List Frame} {meth : Method} {c : Code} {D : va_G} {A : Nat → Prop} {post : Option Value → q_S → Prop} {K : Nat → q_K} (C : q_C p s m args meth c cX11_death 8 RX11 "death" (some .int) A) (hK : ∀ h ∈ ([104, 145] : List Nat), q_V p l e rm_X11_death s m args below meth c D A 8 (MQ below (q_Qc D A post) args s rm_X11_death.cells rm_X11_death.slots A) h (K h)) : q_V p l e rm_X11_death s m args below meth c D A 8 (MQ below (q_Qc D A post) args s rm_X11_death.cells rm_X11_death.slots A) 0 (k_X11_death_0 post K) := by
  unfold k_X11_death_0
  refine q_aload_n C (by decide +kernel : decode cX11_death 0 = .ok (.aload_n 0, 1)) ?_
  refine q_iload_n C (by decide +kernel : decode cX11_death 1 = .ok (.iload_n 1, 1)) ?_
  refine q_call2 C (q_coV C (np := 1) (ci := 11) (rc := (RX11, TX11, 35)) (t_X11_isPerson l) w9_13 rfl rfl w9_14 w9_15 w9_16 w9_6 (by decide +kernel) (by decide +kernel : decode cX11_death 2 = .ok (.invokevirtual 106, 3)) (by decide)) ?_
  refine q_ifeq C (tgt := 20) (by decide +kernel : decode cX11_death 5 = .ok (.ifCond .eq 15, 3)) (by decide) ?_ ?_
  · exact v_X11_death_20 C hK
  · refine q_iload_n C (by decide +kernel : decode cX11_death 8 = .ok (.iload_n 2, 1)) ?_
    refine q_iconst C (by decide +kernel : decode cX11_death 9 = .ok (.iconst 0, 1)) (by decide) ?_
    refine q_aload_n C (by decide +kernel : decode cX11_death 10 = .ok (.aload_n 0, 1)) ?_
    refine q_get C (ci := 11) (j := 0) (C0 := RX11) (T := TX11) (N := 35) rfl iX11 giX11 (by decide) w9_10 (by decide +kernel : decode cX11_death 11 = .ok (.getfield 96, 3)) ?_
    refine q_call3 C (q_coS C (np := 3) (t_X11_in l) w9_5 w9_8 w9_7 w9_6 (by decide +kernel) (by decide +kernel : decode cX11_death 14 = .ok (.invokestatic 92, 3)) (by decide)) ?_
    refine q_ifne C (tgt := 23) (by decide +kernel : decode cX11_death 17 = .ok (.ifCond .ne 6, 3)) (by decide) ?_ ?_
    · refine q_aload_n C (by decide +kernel : decode cX11_death 23 = .ok (.aload_n 0, 1)) ?_
      refine q_get C (ci := 11) (j := 3) (C0 := RX11) (T := TX11) (N := 35) rfl iX11 giX11 (by decide) w9_12 (by decide +kernel : decode cX11_death 24 = .ok (.getfield 13, 3)) ?_
      refine q_iload_n C (by decide +kernel : decode cX11_death 27 = .ok (.iload_n 1, 1)) ?_
      refine q_iald C (by decide +kernel : decode cX11_death 28 = .ok (.iaload, 1)) ?_
      refine q_iconst C (by decide +kernel : decode cX11_death 29 = .ok (.iconst (-1), 1)) (by decide) ?_
      refine q_iceq C (tgt := 36) (by decide +kernel : decode cX11_death 30 = .ok (.if_icmp .eq 6, 3)) (by decide) ?_ ?_
      · exact v_X11_death_36 C hK
      · refine q_bipush C (by decide +kernel : decode cX11_death 33 = .ok (.bipush (-3), 2)) (by decide) ?_
        exact q_iret C rfl (by decide +kernel : decode cX11_death 35 = .ok (.ireturn, 1))
    · exact v_X11_death_20 C hK
set_option maxRecDepth 100000 in
theorem v_X11_death_142 {p : Program} {l : Launch} {e : Env} {s : State} {m : MethodId} {args : Array Value} {below : List Frame} {meth : Method} {c : Code} {D : va_G} {A : Nat → Prop} {post : Option Value → q_S → Prop} {K : Nat → q_K} (C : q_C p s m args meth c cX11_death 8 RX11 "death" (some .int) A) (hK : ∀ h ∈ ([104, 145] : List Nat), q_V p l e rm_X11_death s m args below meth c D A 8 (MQ below (q_Qc D A post) args s rm_X11_death.cells rm_X11_death.slots A) h (K h)) : q_V p l e rm_X11_death s m args below meth c D A 8 (MQ below (q_Qc D A post) args s rm_X11_death.cells rm_X11_death.slots A) 142 (k_X11_death_142 post K) := by
  unfold k_X11_death_142
  refine q_iconst C (by decide +kernel : decode cX11_death 142 = .ok (.iconst 0, 1)) (by decide) ?_
  refine q_istore C (by decide +kernel : decode cX11_death 143 = .ok (.istore 7, 2)) ?_
  exact hK 145 (by decide)
set_option maxRecDepth 100000 in
theorem v_X11_death_126 {p : Program} {l : Launch} {e : Env} {s : State} {m : MethodId} {args : Array Value} {below : List Frame} {meth : Method} {c : Code} {D : va_G} {A : Nat → Prop} {post : Option Value → q_S → Prop} {K : Nat → q_K} (C : q_C p s m args meth c cX11_death 8 RX11 "death" (some .int) A) (hK : ∀ h ∈ ([104, 145] : List Nat), q_V p l e rm_X11_death s m args below meth c D A 8 (MQ below (q_Qc D A post) args s rm_X11_death.cells rm_X11_death.slots A) h (K h)) : q_V p l e rm_X11_death s m args below meth c D A 8 (MQ below (q_Qc D A post) args s rm_X11_death.cells rm_X11_death.slots A) 126 (k_X11_death_126 post K) := by
  unfold k_X11_death_126
  refine q_iload C (by decide +kernel : decode cX11_death 126 = .ok (.iload 6, 2)) ?_
  refine q_ifle C (tgt := 142) (by decide +kernel : decode cX11_death 128 = .ok (.ifCond .le 14, 3)) (by decide) ?_ ?_
  · exact v_X11_death_142 C hK
  · refine q_aload_n C (by decide +kernel : decode cX11_death 131 = .ok (.aload_n 0, 1)) ?_
    refine q_iload C (by decide +kernel : decode cX11_death 132 = .ok (.iload 5, 2)) ?_
    refine q_iload_n C (by decide +kernel : decode cX11_death 134 = .ok (.iload_n 1, 1)) ?_
    refine q_iload C (by decide +kernel : decode cX11_death 135 = .ok (.iload 4, 2)) ?_
    refine q_iload C (by decide +kernel : decode cX11_death 137 = .ok (.iload 6, 2)) ?_
    refine q_call5 C (q_coV C (np := 4) (ci := 11) (rc := (RX11, TX11, 35)) (t_X11_move l) w9_79 rfl rfl w9_80 w9_81 w9_82 w9_6 (by decide +kernel) (by decide +kernel : decode cX11_death 139 = .ok (.invokevirtual 114, 3)) (by decide)) ?_
    exact v_X11_death_142 C hK
set_option maxRecDepth 100000 in
theorem v_X11_death_195 {p : Program} {l : Launch} {e : Env} {s : State} {m : MethodId} {args : Array Value} {below : List Frame} {meth : Method} {c : Code} {D : va_G} {A : Nat → Prop} {post : Option Value → q_S → Prop} {K : Nat → q_K} (C : q_C p s m args meth c cX11_death 8 RX11 "death" (some .int) A) (hK : ∀ h ∈ ([104, 145] : List Nat), q_V p l e rm_X11_death s m args below meth c D A 8 (MQ below (q_Qc D A post) args s rm_X11_death.cells rm_X11_death.slots A) h (K h)) : q_V p l e rm_X11_death s m args below meth c D A 8 (MQ below (q_Qc D A post) args s rm_X11_death.cells rm_X11_death.slots A) 195 (k_X11_death_195 post K) := by
  unfold k_X11_death_195
  exact q_iret C rfl (by decide +kernel : decode cX11_death 195 = .ok (.ireturn, 1))
set_option maxRecDepth 100000 in
theorem v_X11_death_104 {p : Program} {l : Launch} {e : Env} {s : State} {m : MethodId} {args : Array Value} {below : List Frame} {meth : Method} {c : Code} {D : va_G} {A : Nat → Prop} {post : Option Value → q_S → Prop} {K : Nat → q_K} (C : q_C p s m args meth c cX11_death 8 RX11 "death" (some .int) A) (hK : ∀ h ∈ ([104, 145] : List Nat), q_V p l e rm_X11_death s m args below meth c D A 8 (MQ below (q_Qc D A post) args s rm_X11_death.cells rm_X11_death.slots A) h (K h)) : q_V p l e rm_X11_death s m args below meth c D A 8 (MQ below (q_Qc D A post) args s rm_X11_death.cells rm_X11_death.slots A) 104 (k_X11_death_104 post K) := by
  unfold k_X11_death_104
  refine q_iload C (by decide +kernel : decode cX11_death 104 = .ok (.iload 5, 2)) ?_
  refine q_aload_n C (by decide +kernel : decode cX11_death 106 = .ok (.aload_n 0, 1)) ?_
  refine q_get C (ci := 11) (j := 11) (C0 := RX11) (T := TX11) (N := 35) rfl iX11 giX11 (by decide) w9_9 (by decide +kernel : decode cX11_death 107 = .ok (.getfield 103, 3)) ?_
  refine q_icge C (tgt := 184) (by decide +kernel : decode cX11_death 110 = .ok (.if_icmp .ge 74, 3)) (by decide) ?_ ?_
  · refine q_iload_n C (by decide +kernel : decode cX11_death 184 = .ok (.iload_n 3, 1)) ?_
    refine q_ifeq C (tgt := 193) (by decide +kernel : decode cX11_death 185 = .ok (.ifCond .eq 8, 3)) (by decide) ?_ ?_
    · refine q_bipush C (by decide +kernel : decode cX11_death 193 = .ok (.bipush (-5), 2)) (by decide) ?_
      exact v_X11_death_195 C hK
    · refine q_iload C (by decide +kernel : decode cX11_death 188 = .ok (.iload 4, 2)) ?_
      refine q_goto C (tgt := 195) (by decide +kernel : decode cX11_death 190 = .ok (.goto 5, 3)) (by decide) ?_
      exact v_X11_death_195 C hK
  · refine q_aload_n C (by decide +kernel : decode cX11_death 113 = .ok (.aload_n 0, 1)) ?_
    refine q_iload C (by decide +kernel : decode cX11_death 114 = .ok (.iload 5, 2)) ?_
    refine q_iload_n C (by decide +kernel : decode cX11_death 116 = .ok (.iload_n 1, 1)) ?_
    refine q_aload_n C (by decide +kernel : decode cX11_death 117 = .ok (.aload_n 0, 1)) ?_
    refine q_get C (ci := 11) (j := 0) (C0 := RX11) (T := TX11) (N := 35) rfl iX11 giX11 (by decide) w9_10 (by decide +kernel : decode cX11_death 118 = .ok (.getfield 96, 3)) ?_
    refine q_call4 C (q_coV C (np := 3) (ci := 11) (rc := (RX11, TX11, 35)) (t_X11_holds l) w9_63 rfl rfl w9_64 w9_65 w9_66 w9_6 (by decide +kernel) (by decide +kernel : decode cX11_death 121 = .ok (.invokevirtual 110, 3)) (by decide)) ?_
    refine q_istore C (by decide +kernel : decode cX11_death 124 = .ok (.istore 6, 2)) ?_
    exact v_X11_death_126 C hK
set_option maxRecDepth 100000 in
theorem v_X11_death_145 {p : Program} {l : Launch} {e : Env} {s : State} {m : MethodId} {args : Array Value} {below : List Frame} {meth : Method} {c : Code} {D : va_G} {A : Nat → Prop} {post : Option Value → q_S → Prop} {K : Nat → q_K} (C : q_C p s m args meth c cX11_death 8 RX11 "death" (some .int) A) (hK : ∀ h ∈ ([104, 145] : List Nat), q_V p l e rm_X11_death s m args below meth c D A 8 (MQ below (q_Qc D A post) args s rm_X11_death.cells rm_X11_death.slots A) h (K h)) : q_V p l e rm_X11_death s m args below meth c D A 8 (MQ below (q_Qc D A post) args s rm_X11_death.cells rm_X11_death.slots A) 145 (k_X11_death_145 post K) := by
  unfold k_X11_death_145
  refine q_iload C (by decide +kernel : decode cX11_death 145 = .ok (.iload 7, 2)) ?_
  refine q_bipush C (by decide +kernel : decode cX11_death 147 = .ok (.bipush 12, 2)) (by decide) ?_
  refine q_icge C (tgt := 178) (by decide +kernel : decode cX11_death 149 = .ok (.if_icmp .ge 29, 3)) (by decide) ?_ ?_
  · refine q_iinc C (by decide +kernel : decode cX11_death 178 = .ok (.iinc 5 1, 3)) (by decide) ?_
    refine q_goto C (tgt := 104) (by decide +kernel : decode cX11_death 181 = .ok (.goto (-77), 3)) (by decide) ?_
    exact hK 104 (by decide)
  · refine q_aload_n C (by decide +kernel : decode cX11_death 152 = .ok (.aload_n 0, 1)) ?_
    refine q_get C (ci := 11) (j := 20) (C0 := RX11) (T := TX11) (N := 35) rfl iX11 giX11 (by decide) w9_62 (by decide +kernel : decode cX11_death 153 = .ok (.getfield 55, 3)) ?_
    refine q_sipush C (by decide +kernel : decode cX11_death 156 = .ok (.sipush 144, 3)) (by decide) ?_
    refine q_iload C (by decide +kernel : decode cX11_death 159 = .ok (.iload 5, 2)) ?_
    refine q_imul C (by decide +kernel : decode cX11_death 161 = .ok (.imul, 1)) ?_
    refine q_bipush C (by decide +kernel : decode cX11_death 162 = .ok (.bipush 12, 2)) (by decide) ?_
    refine q_iload_n C (by decide +kernel : decode cX11_death 164 = .ok (.iload_n 1, 1)) ?_
    refine q_imul C (by decide +kernel : decode cX11_death 165 = .ok (.imul, 1)) ?_
    refine q_iadd C (by decide +kernel : decode cX11_death 166 = .ok (.iadd, 1)) ?_
    refine q_iload C (by decide +kernel : decode cX11_death 167 = .ok (.iload 7, 2)) ?_
    refine q_iadd C (by decide +kernel : decode cX11_death 169 = .ok (.iadd, 1)) ?_
    refine q_iconst C (by decide +kernel : decode cX11_death 170 = .ok (.iconst 0, 1)) (by decide) ?_
    refine q_iast C (by decide +kernel : decode cX11_death 171 = .ok (.iastore, 1)) ?_
    refine q_iinc C (by decide +kernel : decode cX11_death 172 = .ok (.iinc 7 1, 3)) (by decide) ?_
    refine q_goto C (tgt := 145) (by decide +kernel : decode cX11_death 175 = .ok (.goto (-30), 3)) (by decide) ?_
    exact hK 145 (by decide)
theorem u_X11_death (l : Launch) {sp : q_Sp} (H : ∀ (av : List Value) (σ : q_S) (post : Option Value → q_S → Prop), sp av σ post → ∃ Inv : Nat → Nat → q_K, (∀ K : Nat → q_K, (∀ (h n : Nat) (L : List (Option Value)) (st : List Value) (σ : q_S) (cr sr : Nat), Inv h n L st σ cr sr → K h L st σ cr sr) → k_X11_death_0 post K (q_L0 av 8) [] σ 0 0) ∧ (∀ (K : Nat → q_K) (n : Nat), (∀ (h m : Nat) (L : List (Option Value)) (st : List Value) (σ : q_S) (cr sr : Nat), m < n → Inv h m L st σ cr sr → K h L st σ cr sr) → ∀ (L : List (Option Value)) (st : List Value) (σ : q_S) (cr sr : Nat), Inv 104 n L st σ cr sr → k_X11_death_104 post K L st σ cr sr) ∧ (∀ (K : Nat → q_K) (n : Nat), (∀ (h m : Nat) (L : List (Option Value)) (st : List Value) (σ : q_S) (cr sr : Nat), m < n → Inv h m L st σ cr sr → K h L st σ cr sr) → ∀ (L : List (Option Value)) (st : List Value) (σ : q_S) (cr sr : Nat), Inv 145 n L st σ cr sr → k_X11_death_145 post K L st σ cr sr) ∧ av.length ≤ 8 ∧ ∀ v ∈ av, v.category = 1) : q_Ct l yX11_death cX11_death 8 (some .int) rm_X11_death sp := by
  refine q_met (by decide) ?_
  intro D A p e s m args below meth c σ av post C hsp
  obtain ⟨Inv, h1, hh104, hh145, h2, h3⟩ := H av σ post hsp
  have hV := q_loops (p := p) (l := l) (e := e) (R := rm_X11_death) (s := s) (m := m) (args := args) (below := below) (meth := meth) (c := c) (D := D) (A := A) (nL := 8) (Q := MQ below (q_Qc D A post) args s rm_X11_death.cells rm_X11_death.slots A) [104, 145] (fun h => if h = 104 then k_X11_death_104 post else k_X11_death_145 post) (fun K hK h hh => ?_) Inv (fun n h hh => ?_)
  · exact ⟨_, v_X11_death_0 C hV, h1 _ (fun h n L st σ cr sr hi => ⟨n, hi⟩), h2, h3⟩
  · rcases (by simpa using hh : h = 104 ∨ h = 145) with rfl | rfl
    · exact v_X11_death_104 C hK
    · exact v_X11_death_145 C hK
  · rcases (by simpa using hh : h = 104 ∨ h = 145) with rfl | rfl
    · exact hh104 (fun h L st σ cr sr => ∃ m : Nat, m < n ∧ Inv h m L st σ cr sr) n (fun h m L st σ cr sr hm hi => ⟨m, hm, hi⟩)
    · exact hh145 (fun h L st σ cr sr => ∃ m : Nat, m < n ∧ Inv h m L st σ cr sr) n (fun h m L st σ cr sr hm hi => ⟨m, hm, hi⟩)
theorem t_X11_death (l : Launch) : q_Ct l yX11_death cX11_death 8 (some .int) rm_X11_death s_X11_death := u_X11_death l (by
  intro av σ post h
  unfold s_X11_death at h
  split at h
  · next mr p on =>
    obtain ⟨ad, z, g, ⟨gp, r, hm⟩, hI, hmv, hhe, h1⟩ := h
    have hI0 := hI
    unfold I1 at hI
    by_cases hc : isP z p ∧ 0 ≤ on ∧ on ≤ z 0
    · have hp2 : 0 ≤ p ∧ p < 12 := ⟨hc.1.1, by grind⟩
      by_cases hd : g 3 p.toNatClampNeg = -1
      · rw [F_death, if_pos hc, if_neg (fun h => h hd)] at h1
        have hmv : z 14 ≤ 980 := by
          rcases hmv with h | h
          · exact h
          · exact absurd hd (h hc.1)
        have hhe := hhe hc.1
        have enw := nI_self hI.2.2.2.1.1
        have hnw20 : (z 11).toNatClampNeg ≤ 20 := clamp_le 20 hI.2.2.2.1.1 hI.2.2.2.1.2
        have hm980 : (z 14).toNatClampNeg ≤ 980 := clamp_le 980 hI.2.2.2.2.1.1 hmv
        obtain ⟨pn, hpn, ep, epn⟩ := inR 12 hp2.1 hp2.2
        generalize hnwe : (z 11).toNatClampNeg = nw at *
        have hTo : (if hasH z g p on then g 2 p.toNatClampNeg else 12) = toH z g p on := rfl
        have hH : (if hasH z g p on then (1 : Int32) else 0) = 1 ∨ (if hasH z g p on then (1 : Int32) else 0) = 0 := by split <;> simp
        refine ⟨fun h n L st σ' cr sr => ∃ (w : Nat) (d6 d7 : Option Value), w ≤ nw ∧ st = [] ∧
          ((h = 104 ∧ n = (nw - w) * 50 + 20 ∧ mOKx σ' mr ad (dF z (g34 z g p on) p (toH z g p on) w).1 (dF z (g34 z g p on) p (toH z g p on) w).2 gp r ∧ L = [some (.ref mr), some (.int p), some (.int on), some (.int (if hasH z g p on then 1 else 0)), some (.int (toH z g p on)), some (.int (nI w)), d6, d7]) ∨
           (h = 145 ∧ w < nw ∧ ∃ q : Nat, q ≤ 12 ∧ n = (nw - w) * 50 + (12 - q) ∧ mOKx σ' mr ad (dmF (dF z (g34 z g p on) p (toH z g p on) w) w p (toH z g p on)).1 (clrF (dmF (dF z (g34 z g p on) p (toH z g p on) w) w p (toH z g p on)).2 w pn q) gp r ∧ L = [some (.ref mr), some (.int p), some (.int on), some (.int (if hasH z g p on then 1 else 0)), some (.int (toH z g p on)), some (.int (nI w)), d6, some (.int (nI q))])), ?_, ?_, ?_, by simp, by simp [Value.category]⟩
        · intro K hK
          have J36 : k_X11_death_36 post K [some (.ref mr), some (.int p), some (.int on), none, none, none, none, none] [] σ 0 0 := by
            have hm1 := hm.a3 p.toNatClampNeg on
            have hm2 := hm1.a4 p.toNatClampNeg (z 0)
            have e2 : ∀ i v, gup g 3 i v 4 = g 4 := fun _ _ => rfl
            have e3 : ∀ i v j v2, gup (gup g 3 i v) 4 j v2 2 = g 2 := fun _ _ _ _ => rfl
            have hm1rd := hm1.rd
            simp only [e2] at hm2 hm1rd
            have hm2rd := hm2.rd
            simp only [e3] at hm2rd
            have hm3 : mOKx (q_up (q_up σ (ad 3) (Sum.inl (FieldType.int, 12, Sum.inl (upd (g 3) p.toNatClampNeg on)))) (ad 4) (Sum.inl (FieldType.int, 12, Sum.inl (upd (g 4) p.toNatClampNeg (z 0))))) mr ad (dF z (g34 z g p on) p (toH z g p on) 0).1 (dF z (g34 z g p on) p (toH z g p on) 0).2 gp r := by
              rw [dF]; exact hm2
            have J99 : ∀ b t9 : Int32, b = (if hasH z g p on then 1 else 0) → t9 = toH z g p on → k_X11_death_99 post K [some (.ref mr), some (.int p), some (.int on), some (.int b), none, none, none, none] [.int t9] (q_up (q_up σ (ad 3) (Sum.inl (FieldType.int, 12, Sum.inl (upd (g 3) p.toNatClampNeg on)))) (ad 4) (Sum.inl (FieldType.int, 12, Sum.inl (upd (g 4) p.toNatClampNeg (z 0))))) 0 0 := fun b t9 hb ht => by
              simp only [c_push, c_null, c_iload, c_aload, c_istore, c_astore, c_iinc, c_iadd, c_isub, c_imul, c_iand, c_ineg, c_dup, c_dup2, c_pop, c_ifnull, c_ifnonnull, c_get, c_put, c_iald, c_zald, c_iast, c_zast, c_aald, c_aast, c_alen, c_new, c_newa, c_newq, c_mna, c_oinit, c_max, c_copy, c_iret, c_zret, c_aret, c_vret, q_do, q_rc, c_ifeq, c_ifne, c_iflt, c_ifge, c_ifgt, c_ifle, c_iceq, c_icne, c_iclt, c_icge, c_icgt, c_icle, c_call0, c_call1, c_call2, c_call3, c_call4, c_call5, c_call6, c_call7, q_L0, List.map_cons, List.map_nil, List.replicate, List.cons_append, List.nil_append, List.append_nil, List.length_cons, List.length_nil, List.length_set, Nat.reduceSub, Nat.reduceAdd, Nat.reduceLT, Nat.reduceLeDiff, Nat.zero_add, Nat.add_zero, Nat.sub_zero, Nat.sub_self, List.getElem?_cons_zero, List.getElem?_cons_succ, List.set_cons_zero, List.set_cons_succ, Option.toList_some, Option.toList_none, List.sum_cons, List.sum_nil, true_and, and_true, true_or, or_true, Nat.le_refl, Nat.zero_le, Value.category, Fin.isValue, Fin.val_zero, Fin.val_one, Fin.val_two, Fin.reduceFinMk, q_10, q_01, not_false_eq_true, not_true_eq_false, forall_const, true_implies, false_implies, implies_true, q_ni, q_fi, q_nb0, q_nb1, q_fb0, q_fb1, q_nor, q_nar, q_for, q_far, q_non, q_nan, q_fon, q_fan, imp_false, false_and, and_false, and_self, false_or, or_false, va_rf, refKind, k_X11_death_99]
              exact hK 104 ((nw - 0) * 50 + 20) _ _ _ _ _ ⟨0, none, none, Nat.zero_le _, rfl, Or.inl ⟨rfl, rfl, hm3, by rw [hb, ht]; rfl⟩⟩
            have eg : ∀ x : Nat, gup (gup g 3 p.toNatClampNeg on) 4 p.toNatClampNeg (z 0) 3 x = (g34 z g p on) 3 x := fun x => rfl
            simp only [c_push, c_null, c_iload, c_aload, c_istore, c_astore, c_iinc, c_iadd, c_isub, c_imul, c_iand, c_ineg, c_dup, c_dup2, c_pop, c_ifnull, c_ifnonnull, c_get, c_put, c_iald, c_zald, c_iast, c_zast, c_aald, c_aast, c_alen, c_new, c_newa, c_newq, c_mna, c_oinit, c_max, c_copy, c_iret, c_zret, c_aret, c_vret, q_do, q_rc, c_ifeq, c_ifne, c_iflt, c_ifge, c_ifgt, c_ifle, c_iceq, c_icne, c_iclt, c_icge, c_icgt, c_icle, c_call0, c_call1, c_call2, c_call3, c_call4, c_call5, c_call6, c_call7, q_L0, List.map_cons, List.map_nil, List.replicate, List.cons_append, List.nil_append, List.append_nil, List.length_cons, List.length_nil, List.length_set, Nat.reduceSub, Nat.reduceAdd, Nat.reduceLT, Nat.reduceLeDiff, Nat.zero_add, Nat.add_zero, Nat.sub_zero, Nat.sub_self, List.getElem?_cons_zero, List.getElem?_cons_succ, List.set_cons_zero, List.set_cons_succ, Option.toList_some, Option.toList_none, List.sum_cons, List.sum_nil, true_and, and_true, true_or, or_true, Nat.le_refl, Nat.zero_le, Value.category, Fin.isValue, Fin.val_zero, Fin.val_one, Fin.val_two, Fin.reduceFinMk, q_10, q_01, not_false_eq_true, not_true_eq_false, forall_const, true_implies, false_implies, implies_true, q_ni, q_fi, q_nb0, q_nb1, q_fb0, q_fb1, q_nor, q_nar, q_for, q_far, q_non, q_nan, q_fon, q_fan, imp_false, false_and, and_false, and_self, false_or, or_false, va_rf, refKind, k_X11_death_36, k_X11_death_82, k_X11_death_83, hm.rd, hm1rd, hm2rd, vpi12, hp2]
            have hH2 : hasH z g p on ↔ (¬ g 2 p.toNatClampNeg = -1 ∧ (g34 z g p on) 3 (g 2 p.toNatClampNeg).toNatClampNeg = -1) := Iff.rfl
            simp only [eg]
            clear hK hm hm1 hm2 hm3 hm1rd hm2rd h1 hH eg e2 e3
            refine ⟨fun c => J99 _ _ ?_ ?_, fun c => ⟨by grind, fun c2 => J99 _ _ ?_ ?_, fun c2 => J99 _ _ ?_ ?_⟩⟩
            all_goals first
              | (rw [if_neg (by rw [hH2]; grind)])
              | (rw [if_pos (by rw [hH2]; grind)])
              | (rw [← hTo, if_neg (by rw [hH2]; grind)])
              | (rw [← hTo, if_pos (by rw [hH2]; grind)])
          clear h1
          simp only [c_push, c_null, c_iload, c_aload, c_istore, c_astore, c_iinc, c_iadd, c_isub, c_imul, c_iand, c_ineg, c_dup, c_dup2, c_pop, c_ifnull, c_ifnonnull, c_get, c_put, c_iald, c_zald, c_iast, c_zast, c_aald, c_aast, c_alen, c_new, c_newa, c_newq, c_mna, c_oinit, c_max, c_copy, c_iret, c_zret, c_aret, c_vret, q_do, q_rc, c_ifeq, c_ifne, c_iflt, c_ifge, c_ifgt, c_ifle, c_iceq, c_icne, c_iclt, c_icge, c_icgt, c_icle, c_call0, c_call1, c_call2, c_call3, c_call4, c_call5, c_call6, c_call7, q_L0, List.map_cons, List.map_nil, List.replicate, List.cons_append, List.nil_append, List.append_nil, List.length_cons, List.length_nil, List.length_set, Nat.reduceSub, Nat.reduceAdd, Nat.reduceLT, Nat.reduceLeDiff, Nat.zero_add, Nat.add_zero, Nat.sub_zero, Nat.sub_self, List.getElem?_cons_zero, List.getElem?_cons_succ, List.set_cons_zero, List.set_cons_succ, Option.toList_some, Option.toList_none, List.sum_cons, List.sum_nil, true_and, and_true, true_or, or_true, Nat.le_refl, Nat.zero_le, Value.category, Fin.isValue, Fin.val_zero, Fin.val_one, Fin.val_two, Fin.reduceFinMk, q_10, q_01, not_false_eq_true, not_true_eq_false, forall_const, true_implies, false_implies, implies_true, q_ni, q_fi, q_nb0, q_nb1, q_fb0, q_fb1, q_nor, q_nar, q_for, q_far, q_non, q_nan, q_fon, q_fan, imp_false, false_and, and_false, and_self, false_or, or_false, va_rf, refKind, k_X11_death_0, k_X11_death_20, hm.rd, s_X11_isPerson, s_X11_in, s_X10_isWithin, vpi12, hp2, hc, hd, J36]
          exact hI.2.1
        · rintro K n hK L st σ' cr sr ⟨w, d6, d7, hw, rfl, ⟨-, rfl, hm', rfl⟩ | ⟨h9, -⟩⟩
          · have hz0 := dF_z z (g34 z g p on) p (toH z g p on) 0 (by decide) w
            have hz11 := dF_z z (g34 z g p on) p (toH z g p on) 11 (by decide) w
            obtain ⟨mm, hmm, hmm2⟩ := dF_m z (g34 z g p on) p (toH z g p on) ⟨hI.2.2.2.2.1.1, hmv⟩ w (by omega)
            have hwr : 0 ≤ nI w ∧ w < 20 → nI w < 20 := fun h => nI_ltN (N := 20) h.2
            have J142 : w < nw → ∀ σ2 n6, mOKx σ2 mr ad (dmF (dF z (g34 z g p on) p (toH z g p on) w) w p (toH z g p on)).1 (dmF (dF z (g34 z g p on) p (toH z g p on) w) w p (toH z g p on)).2 gp r → k_X11_death_142 post K [some (.ref mr), some (.int p), some (.int on), some (.int (if hasH z g p on then 1 else 0)), some (.int (toH z g p on)), some (.int (nI w)), n6, d7] [] σ2 cr sr := fun hlt σ2 n6 hm2 => by
              simp only [c_push, c_null, c_iload, c_aload, c_istore, c_astore, c_iinc, c_iadd, c_isub, c_imul, c_iand, c_ineg, c_dup, c_dup2, c_pop, c_ifnull, c_ifnonnull, c_get, c_put, c_iald, c_zald, c_iast, c_zast, c_aald, c_aast, c_alen, c_new, c_newa, c_newq, c_mna, c_oinit, c_max, c_copy, c_iret, c_zret, c_aret, c_vret, q_do, q_rc, c_ifeq, c_ifne, c_iflt, c_ifge, c_ifgt, c_ifle, c_iceq, c_icne, c_iclt, c_icge, c_icgt, c_icle, c_call0, c_call1, c_call2, c_call3, c_call4, c_call5, c_call6, c_call7, q_L0, List.map_cons, List.map_nil, List.replicate, List.cons_append, List.nil_append, List.append_nil, List.length_cons, List.length_nil, List.length_set, Nat.reduceSub, Nat.reduceAdd, Nat.reduceLT, Nat.reduceLeDiff, Nat.zero_add, Nat.add_zero, Nat.sub_zero, Nat.sub_self, List.getElem?_cons_zero, List.getElem?_cons_succ, List.set_cons_zero, List.set_cons_succ, Option.toList_some, Option.toList_none, List.sum_cons, List.sum_nil, true_and, and_true, true_or, or_true, Nat.le_refl, Nat.zero_le, Value.category, Fin.isValue, Fin.val_zero, Fin.val_one, Fin.val_two, Fin.reduceFinMk, q_10, q_01, not_false_eq_true, not_true_eq_false, forall_const, true_implies, false_implies, implies_true, q_ni, q_fi, q_nb0, q_nb1, q_fb0, q_fb1, q_nor, q_nar, q_for, q_far, q_non, q_nan, q_fon, q_fan, imp_false, false_and, and_false, and_self, false_or, or_false, va_rf, refKind, k_X11_death_142]
              exact hK 145 ((nw - w) * 50 + (12 - 0)) _ _ _ _ _ (by omega) ⟨w, n6, none, by omega, rfl, Or.inr ⟨rfl, hlt, 0, by omega, rfl, hm2, rfl⟩⟩
            generalize hS : dF z (g34 z g p on) p (toH z g p on) w = S at *
            have J126 : w < nw → k_X11_death_126 post K [some (.ref mr), some (.int p), some (.int on), some (.int (if hasH z g p on then 1 else 0)), some (.int (toH z g p on)), some (.int (nI w)), some (.int (holdsF S.2 (nI w) p (S.1 0) (mvF S.1))), d7] [] σ' cr sr := fun hlt => by
              simp only [c_push, c_null, c_iload, c_aload, c_istore, c_astore, c_iinc, c_iadd, c_isub, c_imul, c_iand, c_ineg, c_dup, c_dup2, c_pop, c_ifnull, c_ifnonnull, c_get, c_put, c_iald, c_zald, c_iast, c_zast, c_aald, c_aast, c_alen, c_new, c_newa, c_newq, c_mna, c_oinit, c_max, c_copy, c_iret, c_zret, c_aret, c_vret, q_do, q_rc, c_ifeq, c_ifne, c_iflt, c_ifge, c_ifgt, c_ifle, c_iceq, c_icne, c_iclt, c_icge, c_icgt, c_icle, c_call0, c_call1, c_call2, c_call3, c_call4, c_call5, c_call6, c_call7, q_L0, List.map_cons, List.map_nil, List.replicate, List.cons_append, List.nil_append, List.append_nil, List.length_cons, List.length_nil, List.length_set, Nat.reduceSub, Nat.reduceAdd, Nat.reduceLT, Nat.reduceLeDiff, Nat.zero_add, Nat.add_zero, Nat.sub_zero, Nat.sub_self, List.getElem?_cons_zero, List.getElem?_cons_succ, List.set_cons_zero, List.set_cons_succ, Option.toList_some, Option.toList_none, List.sum_cons, List.sum_nil, true_and, and_true, true_or, or_true, Nat.le_refl, Nat.zero_le, Value.category, Fin.isValue, Fin.val_zero, Fin.val_one, Fin.val_two, Fin.reduceFinMk, q_10, q_01, not_false_eq_true, not_true_eq_false, forall_const, true_implies, false_implies, implies_true, q_ni, q_fi, q_nb0, q_nb1, q_fb0, q_fb1, q_nor, q_nar, q_for, q_far, q_non, q_nan, q_fon, q_fan, imp_false, false_and, and_false, and_self, false_or, or_false, va_rf, refKind, k_X11_death_126, hm'.rd]
              have J := J142 hlt
              unfold dmF at J
              refine ⟨fun c => ?_, fun c => ?_⟩
              · rw [if_neg (by grind)] at J
                exact J _ _ hm'
              · rw [if_pos (by grind)] at J
                refine ⟨ad, _, _, gp, r, hm', ?_, fun σ2 hm2 => ?_⟩
                · rw [hmm]
                  exact ⟨nI_low (by omega), nI_ltN (N := 1000) (by omega)⟩
                · simp only [c_push, c_null, c_iload, c_aload, c_istore, c_astore, c_iinc, c_iadd, c_isub, c_imul, c_iand, c_ineg, c_dup, c_dup2, c_pop, c_ifnull, c_ifnonnull, c_get, c_put, c_iald, c_zald, c_iast, c_zast, c_aald, c_aast, c_alen, c_new, c_newa, c_newq, c_mna, c_oinit, c_max, c_copy, c_iret, c_zret, c_aret, c_vret, q_do, q_rc, c_ifeq, c_ifne, c_iflt, c_ifge, c_ifgt, c_ifle, c_iceq, c_icne, c_iclt, c_icge, c_icgt, c_icle, c_call0, c_call1, c_call2, c_call3, c_call4, c_call5, c_call6, c_call7, q_L0, List.map_cons, List.map_nil, List.replicate, List.cons_append, List.nil_append, List.append_nil, List.length_cons, List.length_nil, List.length_set, Nat.reduceSub, Nat.reduceAdd, Nat.reduceLT, Nat.reduceLeDiff, Nat.zero_add, Nat.add_zero, Nat.sub_zero, Nat.sub_self, List.getElem?_cons_zero, List.getElem?_cons_succ, List.set_cons_zero, List.set_cons_succ, Option.toList_some, Option.toList_none, List.sum_cons, List.sum_nil, true_and, and_true, true_or, or_true, Nat.le_refl, Nat.zero_le, Value.category, Fin.isValue, Fin.val_zero, Fin.val_one, Fin.val_two, Fin.reduceFinMk, q_10, q_01, not_false_eq_true, not_true_eq_false, forall_const, true_implies, false_implies, implies_true, q_ni, q_fi, q_nb0, q_nb1, q_fb0, q_fb1, q_nor, q_nar, q_for, q_far, q_non, q_nan, q_fon, q_fan, imp_false, false_and, and_false, and_self, false_or, or_false, va_rf, refKind]
                  exact J _ _ hm2
            simp only [c_push, c_null, c_iload, c_aload, c_istore, c_astore, c_iinc, c_iadd, c_isub, c_imul, c_iand, c_ineg, c_dup, c_dup2, c_pop, c_ifnull, c_ifnonnull, c_get, c_put, c_iald, c_zald, c_iast, c_zast, c_aald, c_aast, c_alen, c_new, c_newa, c_newq, c_mna, c_oinit, c_max, c_copy, c_iret, c_zret, c_aret, c_vret, q_do, q_rc, c_ifeq, c_ifne, c_iflt, c_ifge, c_ifgt, c_ifle, c_iceq, c_icne, c_iclt, c_icge, c_icgt, c_icle, c_call0, c_call1, c_call2, c_call3, c_call4, c_call5, c_call6, c_call7, q_L0, List.map_cons, List.map_nil, List.replicate, List.cons_append, List.nil_append, List.append_nil, List.length_cons, List.length_nil, List.length_set, Nat.reduceSub, Nat.reduceAdd, Nat.reduceLT, Nat.reduceLeDiff, Nat.zero_add, Nat.add_zero, Nat.sub_zero, Nat.sub_self, List.getElem?_cons_zero, List.getElem?_cons_succ, List.set_cons_zero, List.set_cons_succ, Option.toList_some, Option.toList_none, List.sum_cons, List.sum_nil, true_and, and_true, true_or, or_true, Nat.le_refl, Nat.zero_le, Value.category, Fin.isValue, Fin.val_zero, Fin.val_one, Fin.val_two, Fin.reduceFinMk, q_10, q_01, not_false_eq_true, not_true_eq_false, forall_const, true_implies, false_implies, implies_true, q_ni, q_fi, q_nb0, q_nb1, q_fb0, q_fb1, q_nor, q_nar, q_for, q_far, q_non, q_nan, q_fon, q_fan, imp_false, false_and, and_false, and_self, false_or, or_false, va_rf, refKind, k_X11_death_104, k_X11_death_195, hm'.rd, hz11, hz0]
            rw [← enw, (cl2 (nI nw) (nI w) _ _ rfl rfl (by omega) (by omega)).1]
            refine ⟨fun c => ?_, fun c => ?_⟩
            · have e : w = nw := by omega
              subst e
              have h2 := h1 _ ⟨gp, r, by rw [hS]; exact hm'⟩
              dsimp only at h2
              by_cases c9 : hasH z g p on
              · rw [if_pos c9] at h2 hTo
                rw [if_pos c9]
                exact ⟨fun h => absurd h (by decide), fun _ => by rw [← hTo]; exact h2⟩
              · rw [if_neg c9] at h2
                rw [if_neg c9]
                exact ⟨fun _ => h2, fun h => absurd rfl h⟩
            · refine ⟨ad, _, _, gp, r, hm', ⟨nI_low (by omega), nI_ltN (N := 20) (by omega)⟩, ?_, ?_⟩
              · rw [hmm]
                exact ⟨nI_low (by omega), nI_leN (N := 1000) (by omega)⟩
              · simp only [c_push, c_null, c_iload, c_aload, c_istore, c_astore, c_iinc, c_iadd, c_isub, c_imul, c_iand, c_ineg, c_dup, c_dup2, c_pop, c_ifnull, c_ifnonnull, c_get, c_put, c_iald, c_zald, c_iast, c_zast, c_aald, c_aast, c_alen, c_new, c_newa, c_newq, c_mna, c_oinit, c_max, c_copy, c_iret, c_zret, c_aret, c_vret, q_do, q_rc, c_ifeq, c_ifne, c_iflt, c_ifge, c_ifgt, c_ifle, c_iceq, c_icne, c_iclt, c_icge, c_icgt, c_icle, c_call0, c_call1, c_call2, c_call3, c_call4, c_call5, c_call6, c_call7, q_L0, List.map_cons, List.map_nil, List.replicate, List.cons_append, List.nil_append, List.append_nil, List.length_cons, List.length_nil, List.length_set, Nat.reduceSub, Nat.reduceAdd, Nat.reduceLT, Nat.reduceLeDiff, Nat.zero_add, Nat.add_zero, Nat.sub_zero, Nat.sub_self, List.getElem?_cons_zero, List.getElem?_cons_succ, List.set_cons_zero, List.set_cons_succ, Option.toList_some, Option.toList_none, List.sum_cons, List.sum_nil, true_and, and_true, true_or, or_true, Nat.le_refl, Nat.zero_le, Value.category, Fin.isValue, Fin.val_zero, Fin.val_one, Fin.val_two, Fin.reduceFinMk, q_10, q_01, not_false_eq_true, not_true_eq_false, forall_const, true_implies, false_implies, implies_true, q_ni, q_fi, q_nb0, q_nb1, q_fb0, q_fb1, q_nor, q_nar, q_for, q_far, q_non, q_nan, q_fon, q_fan, imp_false, false_and, and_false, and_self, false_or, or_false, va_rf, refKind]
                have J := J126 (by omega)
                rw [hz0] at J
                exact J
          · exact absurd h9 (by decide)
        · rintro K n hK L st σ' cr sr ⟨w, d6, d7, hw, rfl, ⟨h9, -⟩ | ⟨-, hlt, q, hq, rfl, hm', rfl⟩⟩
          · exact absurd h9 (by decide)
          · simp only [c_push, c_null, c_iload, c_aload, c_istore, c_astore, c_iinc, c_iadd, c_isub, c_imul, c_iand, c_ineg, c_dup, c_dup2, c_pop, c_ifnull, c_ifnonnull, c_get, c_put, c_iald, c_zald, c_iast, c_zast, c_aald, c_aast, c_alen, c_new, c_newa, c_newq, c_mna, c_oinit, c_max, c_copy, c_iret, c_zret, c_aret, c_vret, q_do, q_rc, c_ifeq, c_ifne, c_iflt, c_ifge, c_ifgt, c_ifle, c_iceq, c_icne, c_iclt, c_icge, c_icgt, c_icle, c_call0, c_call1, c_call2, c_call3, c_call4, c_call5, c_call6, c_call7, q_L0, List.map_cons, List.map_nil, List.replicate, List.cons_append, List.nil_append, List.append_nil, List.length_cons, List.length_nil, List.length_set, Nat.reduceSub, Nat.reduceAdd, Nat.reduceLT, Nat.reduceLeDiff, Nat.zero_add, Nat.add_zero, Nat.sub_zero, Nat.sub_self, List.getElem?_cons_zero, List.getElem?_cons_succ, List.set_cons_zero, List.set_cons_succ, Option.toList_some, Option.toList_none, List.sum_cons, List.sum_nil, true_and, and_true, true_or, or_true, Nat.le_refl, Nat.zero_le, Value.category, Fin.isValue, Fin.val_zero, Fin.val_one, Fin.val_two, Fin.reduceFinMk, q_10, q_01, not_false_eq_true, not_true_eq_false, forall_const, true_implies, false_implies, implies_true, q_ni, q_fi, q_nb0, q_nb1, q_fb0, q_fb1, q_nor, q_nar, q_for, q_far, q_non, q_nan, q_fon, q_fan, imp_false, false_and, and_false, and_self, false_or, or_false, va_rf, refKind, k_X11_death_145, hm'.rd, vpi2880]
            rw [(cl2 12 (nI q) 12 q rfl rfl (by omega) (by omega)).1]
            have ex : (144 : Int32) * nI w + 12 * p + nI q = nI (144 * w + 12 * pn + q) := by rw [ep, idx20]
            rw [ex, clN (by omega)]
            refine ⟨fun c => ?_, fun c => ⟨⟨nI_low (by omega), nI_ltN (N := 2880) (by omega)⟩, ?_⟩⟩
            · have e : q = 12 := by omega
              subst e
              refine hK 104 ((nw - (w + 1)) * 50 + 20) _ _ _ _ _ (by omega) ⟨w + 1, d6, some (.int (nI 12)), by omega, rfl, Or.inl ⟨rfl, rfl, ?_, by rw [nI_1]⟩⟩
              rw [dF, epn]
              exact hm'
            · exact hK 145 ((nw - w) * 50 + (12 - (q + 1))) _ _ _ _ _ (by omega) ⟨w, d6, none, by omega, rfl, Or.inr ⟨rfl, hlt, q + 1, by omega, rfl, hm'.a20 _ 0, by rw [nI_1]⟩⟩
      · rw [F_death, if_pos hc, if_pos hd] at h1
        have h2 := h1 _ ⟨gp, r, hm⟩
        refine ⟨fun _ _ _ _ _ _ _ => False, ?_, ?_, ?_, by simp, by simp [Value.category]⟩
        · intro K hK
          simp only [c_push, c_null, c_iload, c_aload, c_istore, c_astore, c_iinc, c_iadd, c_isub, c_imul, c_iand, c_ineg, c_dup, c_dup2, c_pop, c_ifnull, c_ifnonnull, c_get, c_put, c_iald, c_zald, c_iast, c_zast, c_aald, c_aast, c_alen, c_new, c_newa, c_newq, c_mna, c_oinit, c_max, c_copy, c_iret, c_zret, c_aret, c_vret, q_do, q_rc, c_ifeq, c_ifne, c_iflt, c_ifge, c_ifgt, c_ifle, c_iceq, c_icne, c_iclt, c_icge, c_icgt, c_icle, c_call0, c_call1, c_call2, c_call3, c_call4, c_call5, c_call6, c_call7, q_L0, List.map_cons, List.map_nil, List.replicate, List.cons_append, List.nil_append, List.append_nil, List.length_cons, List.length_nil, List.length_set, Nat.reduceSub, Nat.reduceAdd, Nat.reduceLT, Nat.reduceLeDiff, Nat.zero_add, Nat.add_zero, Nat.sub_zero, Nat.sub_self, List.getElem?_cons_zero, List.getElem?_cons_succ, List.set_cons_zero, List.set_cons_succ, Option.toList_some, Option.toList_none, List.sum_cons, List.sum_nil, true_and, and_true, true_or, or_true, Nat.le_refl, Nat.zero_le, Value.category, Fin.isValue, Fin.val_zero, Fin.val_one, Fin.val_two, Fin.reduceFinMk, q_10, q_01, not_false_eq_true, not_true_eq_false, forall_const, true_implies, false_implies, implies_true, q_ni, q_fi, q_nb0, q_nb1, q_fb0, q_fb1, q_nor, q_nar, q_for, q_far, q_non, q_nan, q_fon, q_fan, imp_false, false_and, and_false, and_self, false_or, or_false, va_rf, refKind, k_X11_death_0, k_X11_death_20, hm.rd, s_X11_isPerson, s_X11_in, s_X10_isWithin, vpi12, hp2, hc, hd, h2]
          exact hI.2.1
        · intro K n hK L st σ' cr sr h; exact h.elim
        · intro K n hK L st σ' cr sr h; exact h.elim
    · rw [F_death, if_neg hc] at h1
      have h2 := h1 _ ⟨gp, r, hm⟩
      refine ⟨fun _ _ _ _ _ _ _ => False, ?_, ?_, ?_, by simp, by simp [Value.category]⟩
      · intro K hK
        simp only [c_push, c_null, c_iload, c_aload, c_istore, c_astore, c_iinc, c_iadd, c_isub, c_imul, c_iand, c_ineg, c_dup, c_dup2, c_pop, c_ifnull, c_ifnonnull, c_get, c_put, c_iald, c_zald, c_iast, c_zast, c_aald, c_aast, c_alen, c_new, c_newa, c_newq, c_mna, c_oinit, c_max, c_copy, c_iret, c_zret, c_aret, c_vret, q_do, q_rc, c_ifeq, c_ifne, c_iflt, c_ifge, c_ifgt, c_ifle, c_iceq, c_icne, c_iclt, c_icge, c_icgt, c_icle, c_call0, c_call1, c_call2, c_call3, c_call4, c_call5, c_call6, c_call7, q_L0, List.map_cons, List.map_nil, List.replicate, List.cons_append, List.nil_append, List.append_nil, List.length_cons, List.length_nil, List.length_set, Nat.reduceSub, Nat.reduceAdd, Nat.reduceLT, Nat.reduceLeDiff, Nat.zero_add, Nat.add_zero, Nat.sub_zero, Nat.sub_self, List.getElem?_cons_zero, List.getElem?_cons_succ, List.set_cons_zero, List.set_cons_succ, Option.toList_some, Option.toList_none, List.sum_cons, List.sum_nil, true_and, and_true, true_or, or_true, Nat.le_refl, Nat.zero_le, Value.category, Fin.isValue, Fin.val_zero, Fin.val_one, Fin.val_two, Fin.reduceFinMk, q_10, q_01, not_false_eq_true, not_true_eq_false, forall_const, true_implies, false_implies, implies_true, q_ni, q_fi, q_nb0, q_nb1, q_fb0, q_fb1, q_nor, q_nar, q_for, q_far, q_non, q_nan, q_fon, q_fan, imp_false, false_and, and_false, and_self, false_or, or_false, va_rf, refKind, k_X11_death_0, k_X11_death_20, hm.rd, s_X11_isPerson, s_X11_in, s_X10_isWithin, h2]
        clear hK h1 hm h2
        grind (splits := 40)
      · intro K n hK L st σ' cr sr h; exact h.elim
      · intro K n hK L st σ' cr sr h; exact h.elim
  · exact h.elim)
end
section
-- the reference's constructor
def mPre (σ : q_S) (mr : Nat) (fs : List Value) (ps : List (Nat × Nat)) : Prop := (σ mr = some (.inr (11, fs)) ∧ fs.length = 35) ∧ (∀ x ∈ ps, σ x.2 = some (.inl (mT x.1, mN x.1, .inl (fun _ => 0))) ∧ x.2 ≠ mr) ∧ (ps.map (fun x => x.2)).Nodup
theorem mi_step {K : q_K} {L : List (Option Value)} {st : List Value} {σ : q_S} {cr sr mr : Nat} {fs : List Value} {ps : List (Nat × Nat)} {n : Int32} {ty : FieldType} (k c2 s2 : Nat) (h : mPre σ mr fs ps) (hL : L[0]? = some (some (.ref mr))) (hn : ¬ n < 0 ∧ n.toNatClampNeg ≤ 65536) (hc : cr = c2 + 1) (hs : sr = s2 + n.toNatClampNeg) (hk : k < 35) (hty : ty = mT k) (hN : n.toNatClampNeg = mN k)
    (kk : ∀ (q : Nat) (σ' : q_S), mPre σ' mr (fs.set k (.ref q)) ((k, q) :: ps) → K L st σ' c2 s2) : c_aload 0 (c_push n (c_newa ty (c_put 11 k (.array ty) K))) L st σ cr sr := by
  unfold c_aload
  rw [hL]
  dsimp only [c_push, c_newa]
  refine ⟨⟨hn.1, hn.2, by omega, by omega⟩, fun q hq => ?_⟩
  have hlen : k < fs.length := by rw [h.1.2]; exact hk
  have hne : mr ≠ q := fun e => by rw [← e, h.1.1] at hq; cases hq
  have h1 : q_up σ q (.inl (ty, n.toNatClampNeg, .inl (fun _ => 0))) mr = some (.inr (11, fs)) := by rw [q_up_n hne]; exact h.1.1
  dsimp only [c_put]
  have h2 : q_fld (q_up σ q (.inl (ty, n.toNatClampNeg, .inl (fun _ => 0)))) mr 11 k = some (fs[k]) := by simp only [q_fld, h1, if_true]; exact List.getElem?_eq_getElem hlen
  rw [h2]
  rw [show cr - 1 = c2 by omega, show sr - n.toNatClampNeg = s2 by omega]
  refine ⟨⟨rfl, rfl⟩, kk q _ ?_⟩
  rw [q_fset_eq h1]
  refine ⟨⟨q_up_s, by rw [List.length_set]; exact h.1.2⟩, fun x hx => ?_, ?_⟩
  · rcases List.mem_cons.mp hx with rfl | hx
    · exact ⟨by rw [q_up_n hne.symm, q_up_s, hty, hN], hne.symm⟩
    · have hx2 := h.2.1 x hx
      have hxq : x.2 ≠ q := fun e => by rw [← e, hx2.1] at hq; cases hq
      exact ⟨by rw [q_up_n hx2.2, q_up_n hxq]; exact hx2.1, hx2.2⟩
  · rw [List.map_cons, List.nodup_cons]
    refine ⟨fun hm => ?_, h.2.2⟩
    obtain ⟨x, hx, e⟩ := List.mem_map.mp hm
    have hx2 := h.2.1 x hx
    rw [e] at hx2
    rw [hx2.1] at hq
    cases hq
def adL (ps : List (Nat × Nat)) (k : Nat) : Nat := match ps.find? (fun x => x.1 == k) with
  | some x => x.2
  | none => 0
theorem nd_inj {ps : List (Nat × Nat)} (h : (ps.map (fun x => x.2)).Nodup) {x y : Nat × Nat} (hx : x ∈ ps) (hy : y ∈ ps) (e : x.2 = y.2) : x = y := by
  induction ps with
  | nil => cases hx
  | cons a t ih =>
    rw [List.map_cons, List.nodup_cons] at h
    rcases List.mem_cons.mp hx with hxa | hx2
    · rcases List.mem_cons.mp hy with hya | hy2
      · rw [hxa, hya]
      · exact absurd (List.mem_map.mpr ⟨y, hy2, by rw [← e, hxa]⟩) h.1
    · rcases List.mem_cons.mp hy with hya | hy2
      · exact absurd (List.mem_map.mpr ⟨x, hx2, by rw [e, hya]⟩) h.1
      · exact ih h.2 hx2 hy2
theorem adL_mem {q2 q3 q4 q6 q7 q8 q9 q10 q12 q13 q15 q16 q17 q18 q19 q20 q21 q23 q24 q25 q26 q27 q28 q29 q30 q32 q34 : Nat} {k : Nat} (hk : k ∈ mA) : (k, adL [(34, q34), (32, q32), (30, q30), (29, q29), (28, q28), (27, q27), (26, q26), (25, q25), (24, q24), (23, q23), (21, q21), (20, q20), (19, q19), (18, q18), (17, q17), (16, q16), (15, q15), (13, q13), (12, q12), (10, q10), (9, q9), (8, q8), (7, q7), (6, q6), (4, q4), (3, q3), (2, q2)] k) ∈ ([(34, q34), (32, q32), (30, q30), (29, q29), (28, q28), (27, q27), (26, q26), (25, q25), (24, q24), (23, q23), (21, q21), (20, q20), (19, q19), (18, q18), (17, q17), (16, q16), (15, q15), (13, q13), (12, q12), (10, q10), (9, q9), (8, q8), (7, q7), (6, q6), (4, q4), (3, q3), (2, q2)] : List (Nat × Nat)) := by
  have h : k ∈ [2, 3, 4, 6, 7, 8, 9, 10, 12, 13, 15, 16, 17, 18, 19, 20, 21, 23, 24, 25, 26, 27, 28, 29, 30, 32, 34] := hk
  simp only [List.mem_cons, List.not_mem_nil, or_false] at h
  rcases h with rfl | rfl | rfl | rfl | rfl | rfl | rfl | rfl | rfl | rfl | rfl | rfl | rfl | rfl | rfl | rfl | rfl | rfl | rfl | rfl | rfl | rfl | rfl | rfl | rfl | rfl | rfl <;> simp [adL]
theorem mf_end (q2 q3 q4 q6 q7 q8 q9 q10 q12 q13 q15 q16 q17 q18 q19 q20 q21 q23 q24 q25 q26 q27 q28 q29 q30 q32 q34 : Nat) : mF (adL [(34, q34), (32, q32), (30, q30), (29, q29), (28, q28), (27, q27), (26, q26), (25, q25), (24, q24), (23, q23), (21, q21), (20, q20), (19, q19), (18, q18), (17, q17), (16, q16), (15, q15), (13, q13), (12, q12), (10, q10), (9, q9), (8, q8), (7, q7), (6, q6), (4, q4), (3, q3), (2, q2)]) (fun _ => 0) 0 = [.int 0, .int 0, .ref q2, .ref q3, .ref q4, .int 0, .ref q6, .ref q7, .ref q8, .ref q9, .ref q10, .int 0, .ref q12, .ref q13, .int 0, .ref q15, .ref q16, .ref q17, .ref q18, .ref q19, .ref q20, .ref q21, .int 0, .ref q23, .ref q24, .ref q25, .ref q26, .ref q27, .ref q28, .ref q29, .ref q30, .int 0, .ref q32, .int 0, .ref q34] := by
  unfold mF
  simp only [adL, List.find?_cons, Nat.reduceBEq]
def s_X11_init : q_Sp := fun av σ post => match av with
  | [.ref mr] => σ mr = some (.inr (11, [.int 0, .int 0, .null, .null, .null, .int 0, .null, .null, .null, .null, .null, .int 0, .null, .null, .int 0, .null, .null, .null, .null, .null, .null, .null, .int 0, .null, .null, .null, .null, .null, .null, .null, .null, .int 0, .null, .int 0, .null])) ∧ ∀ σ' ad, mOK σ' mr ad (fun _ => 0) (fun _ _ => 0) → post none σ'
  | _ => False
theorem w9_111 : (.methodLink RX11 1 objectInit : Cond) ∈ lw_tbl := by decide +kernel
theorem w9_112 : (.instanceMethod objectInit : Cond) ∈ lw_tbl := by decide +kernel
theorem w9_113 : (.code objectInit ⟨#[0xb1]⟩ 1 none : Cond) ∈ lw_tbl := by decide +kernel
theorem w9_114 : (.arrayClass .int : Cond) ∈ lw_tbl := by decide +kernel
theorem w9_115 : (.arrayClass .boolean : Cond) ∈ lw_tbl := by decide +kernel
def rm_X11_init : Room := { frames := 1, cells := 27, slots := 10327, locals := 20 }
def k_X11_init_0 (post : Option Value → q_S → Prop) (K : Nat → q_K) : q_K := (c_aload 0 (c_oinit (c_aload 0 (c_push 12 (c_newa .int (c_put 11 2 (.array .int) (c_aload 0 (c_push 12 (c_newa .int (c_put 11 3 (.array .int) (c_aload 0 (c_push 12 (c_newa .int (c_put 11 4 (.array .int) (c_aload 0 (c_push 6 (c_newa .int (c_put 11 6 (.array .int) (c_aload 0 (c_push 6 (c_newa .int (c_put 11 7 (.array .int) (c_aload 0 (c_push 6 (c_newa .int (c_put 11 8 (.array .int) (c_aload 0 (c_push 6 (c_newa .int (c_put 11 9 (.array .int) (c_aload 0 (c_push 6 (c_newa .int (c_put 11 10 (.array .int) (c_aload 0 (c_push 20 (c_newa .int (c_put 11 12 (.array .int) (c_aload 0 (c_push 20 (c_newa .int (c_put 11 13 (.array .int) (c_aload 0 (c_push 1000 (c_newa .int (c_put 11 15 (.array .int) (c_aload 0 (c_push 1000 (c_newa .int (c_put 11 16 (.array .int) (c_aload 0 (c_push 1000 (c_newa .int (c_put 11 17 (.array .int) (c_aload 0 (c_push 1000 (c_newa .int (c_put 11 18 (.array .int) (c_aload 0 (c_push 1000 (c_newa .int (c_put 11 19 (.array .int) (c_aload 0 (c_push 2880 (c_newa .int (c_put 11 20 (.array .int) (c_aload 0 (c_push 240 (c_newa .boolean (c_put 11 21 (.array .boolean) (c_aload 0 (c_push 40 (c_newa .int (c_put 11 23 (.array .int) (c_aload 0 (c_push 40 (c_newa .int (c_put 11 24 (.array .int) (c_aload 0 (c_push 40 (c_newa .int (c_put 11 25 (.array .int) (c_aload 0 (c_push 40 (c_newa .int (c_put 11 26 (.array .int) (c_aload 0 (c_push 40 (c_newa .int (c_put 11 27 (.array .int) (c_aload 0 (c_push 40 (c_newa .int (c_put 11 28 (.array .int) (c_aload 0 (c_push 20 (c_newa .int (c_put 11 29 (.array .int) (c_aload 0 (c_push 400 (c_newa .int (c_put 11 30 (.array .int) (c_aload 0 (c_push 1000 (c_newa .boolean (c_put 11 32 (.array .boolean) (c_aload 0 (c_push 441 (c_newa .int (c_put 11 34 (.array .int) (c_vret post)))))))))))))))))))))))))))))))))))))))))))))))))))))))))))))))))))))))))))))))))))))))))))))))))))))))))))))))
set_option maxRecDepth 100000 in
theorem v_X11_init_0 {p : Program} {l : Launch} {e : Env} {s : State} {m : MethodId} {args : Array Value} {below : List Frame} {meth : Method} {c : Code} {D : va_G} {A : Nat → Prop} {post : Option Value → q_S → Prop} {K : Nat → q_K} (C : q_C p s m args meth c cX11_init 1 RX11 "<init>" none A) (hK : ∀ h ∈ ([] : List Nat), q_V p l e rm_X11_init s m args below meth c D A 1 (MQ below (q_Qc D A post) args s rm_X11_init.cells rm_X11_init.slots A) h (K h)) : q_V p l e rm_X11_init s m args below meth c D A 1 (MQ below (q_Qc D A post) args s rm_X11_init.cells rm_X11_init.slots A) 0 (k_X11_init_0 post K) := by
  unfold k_X11_init_0
  refine q_aload_n C (by decide +kernel : decode cX11_init 0 = .ok (.aload_n 0, 1)) ?_
  refine q_oinit C w9_111 w9_112 w9_113 (by decide) (by decide +kernel : decode cX11_init 1 = .ok (.invokespecial 1, 3)) ?_
  refine q_aload_n C (by decide +kernel : decode cX11_init 4 = .ok (.aload_n 0, 1)) ?_
  refine q_bipush C (by decide +kernel : decode cX11_init 5 = .ok (.bipush 12, 2)) (by decide) ?_
  refine q_newaI C w9_114 (by decide +kernel : decode cX11_init 7 = .ok (.newarray .int, 2)) ?_
  refine q_putF C (ci := 11) (j := 2) (C0 := RX11) (T := TX11) (N := 35) (ty := .array .int) rfl iX11 giX11 (by decide) tyX11 tyX11_ok nmX11 (by decide +kernel) rfl rfl rfl w9_11 (by decide +kernel : decode cX11_init 9 = .ok (.putfield 7, 3)) ?_
  refine q_aload_n C (by decide +kernel : decode cX11_init 12 = .ok (.aload_n 0, 1)) ?_
  refine q_bipush C (by decide +kernel : decode cX11_init 13 = .ok (.bipush 12, 2)) (by decide) ?_
  refine q_newaI C w9_114 (by decide +kernel : decode cX11_init 15 = .ok (.newarray .int, 2)) ?_
  refine q_putF C (ci := 11) (j := 3) (C0 := RX11) (T := TX11) (N := 35) (ty := .array .int) rfl iX11 giX11 (by decide) tyX11 tyX11_ok nmX11 (by decide +kernel) rfl rfl rfl w9_12 (by decide +kernel : decode cX11_init 17 = .ok (.putfield 13, 3)) ?_
  refine q_aload_n C (by decide +kernel : decode cX11_init 20 = .ok (.aload_n 0, 1)) ?_
  refine q_bipush C (by decide +kernel : decode cX11_init 21 = .ok (.bipush 12, 2)) (by decide) ?_
  refine q_newaI C w9_114 (by decide +kernel : decode cX11_init 23 = .ok (.newarray .int, 2)) ?_
  refine q_putF C (ci := 11) (j := 4) (C0 := RX11) (T := TX11) (N := 35) (ty := .array .int) rfl iX11 giX11 (by decide) tyX11 tyX11_ok nmX11 (by decide +kernel) rfl rfl rfl w9_17 (by decide +kernel : decode cX11_init 25 = .ok (.putfield 16, 3)) ?_
  refine q_aload_n C (by decide +kernel : decode cX11_init 28 = .ok (.aload_n 0, 1)) ?_
  refine q_bipush C (by decide +kernel : decode cX11_init 29 = .ok (.bipush 6, 2)) (by decide) ?_
  refine q_newaI C w9_114 (by decide +kernel : decode cX11_init 31 = .ok (.newarray .int, 2)) ?_
  refine q_putF C (ci := 11) (j := 6) (C0 := RX11) (T := TX11) (N := 35) (ty := .array .int) rfl iX11 giX11 (by decide) tyX11 tyX11_ok nmX11 (by decide +kernel) rfl rfl rfl w9_23 (by decide +kernel : decode cX11_init 33 = .ok (.putfield 19, 3)) ?_
  refine q_aload_n C (by decide +kernel : decode cX11_init 36 = .ok (.aload_n 0, 1)) ?_
  refine q_bipush C (by decide +kernel : decode cX11_init 37 = .ok (.bipush 6, 2)) (by decide) ?_
  refine q_newaI C w9_114 (by decide +kernel : decode cX11_init 39 = .ok (.newarray .int, 2)) ?_
  refine q_putF C (ci := 11) (j := 7) (C0 := RX11) (T := TX11) (N := 35) (ty := .array .int) rfl iX11 giX11 (by decide) tyX11 tyX11_ok nmX11 (by decide +kernel) rfl rfl rfl w9_24 (by decide +kernel : decode cX11_init 41 = .ok (.putfield 22, 3)) ?_
  refine q_aload_n C (by decide +kernel : decode cX11_init 44 = .ok (.aload_n 0, 1)) ?_
  refine q_bipush C (by decide +kernel : decode cX11_init 45 = .ok (.bipush 6, 2)) (by decide) ?_
  refine q_newaI C w9_114 (by decide +kernel : decode cX11_init 47 = .ok (.newarray .int, 2)) ?_
  refine q_putF C (ci := 11) (j := 8) (C0 := RX11) (T := TX11) (N := 35) (ty := .array .int) rfl iX11 giX11 (by decide) tyX11 tyX11_ok nmX11 (by decide +kernel) rfl rfl rfl w9_25 (by decide +kernel : decode cX11_init 49 = .ok (.putfield 25, 3)) ?_
  refine q_aload_n C (by decide +kernel : decode cX11_init 52 = .ok (.aload_n 0, 1)) ?_
  refine q_bipush C (by decide +kernel : decode cX11_init 53 = .ok (.bipush 6, 2)) (by decide) ?_
  refine q_newaI C w9_114 (by decide +kernel : decode cX11_init 55 = .ok (.newarray .int, 2)) ?_
  refine q_putF C (ci := 11) (j := 9) (C0 := RX11) (T := TX11) (N := 35) (ty := .array .int) rfl iX11 giX11 (by decide) tyX11 tyX11_ok nmX11 (by decide +kernel) rfl rfl rfl w9_26 (by decide +kernel : decode cX11_init 57 = .ok (.putfield 28, 3)) ?_
  refine q_aload_n C (by decide +kernel : decode cX11_init 60 = .ok (.aload_n 0, 1)) ?_
  refine q_bipush C (by decide +kernel : decode cX11_init 61 = .ok (.bipush 6, 2)) (by decide) ?_
  refine q_newaI C w9_114 (by decide +kernel : decode cX11_init 63 = .ok (.newarray .int, 2)) ?_
  refine q_putF C (ci := 11) (j := 10) (C0 := RX11) (T := TX11) (N := 35) (ty := .array .int) rfl iX11 giX11 (by decide) tyX11 tyX11_ok nmX11 (by decide +kernel) rfl rfl rfl w9_27 (by decide +kernel : decode cX11_init 65 = .ok (.putfield 31, 3)) ?_
  refine q_aload_n C (by decide +kernel : decode cX11_init 68 = .ok (.aload_n 0, 1)) ?_
  refine q_bipush C (by decide +kernel : decode cX11_init 69 = .ok (.bipush 20, 2)) (by decide) ?_
  refine q_newaI C w9_114 (by decide +kernel : decode cX11_init 71 = .ok (.newarray .int, 2)) ?_
  refine q_putF C (ci := 11) (j := 12) (C0 := RX11) (T := TX11) (N := 35) (ty := .array .int) rfl iX11 giX11 (by decide) tyX11 tyX11_ok nmX11 (by decide +kernel) rfl rfl rfl w9_28 (by decide +kernel : decode cX11_init 73 = .ok (.putfield 34, 3)) ?_
  refine q_aload_n C (by decide +kernel : decode cX11_init 76 = .ok (.aload_n 0, 1)) ?_
  refine q_bipush C (by decide +kernel : decode cX11_init 77 = .ok (.bipush 20, 2)) (by decide) ?_
  refine q_newaI C w9_114 (by decide +kernel : decode cX11_init 79 = .ok (.newarray .int, 2)) ?_
  refine q_putF C (ci := 11) (j := 13) (C0 := RX11) (T := TX11) (N := 35) (ty := .array .int) rfl iX11 giX11 (by decide) tyX11 tyX11_ok nmX11 (by decide +kernel) rfl rfl rfl w9_29 (by decide +kernel : decode cX11_init 81 = .ok (.putfield 37, 3)) ?_
  refine q_aload_n C (by decide +kernel : decode cX11_init 84 = .ok (.aload_n 0, 1)) ?_
  refine q_sipush C (by decide +kernel : decode cX11_init 85 = .ok (.sipush 1000, 3)) (by decide) ?_
  refine q_newaI C w9_114 (by decide +kernel : decode cX11_init 88 = .ok (.newarray .int, 2)) ?_
  refine q_putF C (ci := 11) (j := 15) (C0 := RX11) (T := TX11) (N := 35) (ty := .array .int) rfl iX11 giX11 (by decide) tyX11 tyX11_ok nmX11 (by decide +kernel) rfl rfl rfl w9_56 (by decide +kernel : decode cX11_init 90 = .ok (.putfield 40, 3)) ?_
  refine q_aload_n C (by decide +kernel : decode cX11_init 93 = .ok (.aload_n 0, 1)) ?_
  refine q_sipush C (by decide +kernel : decode cX11_init 94 = .ok (.sipush 1000, 3)) (by decide) ?_
  refine q_newaI C w9_114 (by decide +kernel : decode cX11_init 97 = .ok (.newarray .int, 2)) ?_
  refine q_putF C (ci := 11) (j := 16) (C0 := RX11) (T := TX11) (N := 35) (ty := .array .int) rfl iX11 giX11 (by decide) tyX11 tyX11_ok nmX11 (by decide +kernel) rfl rfl rfl w9_58 (by decide +kernel : decode cX11_init 99 = .ok (.putfield 43, 3)) ?_
  refine q_aload_n C (by decide +kernel : decode cX11_init 102 = .ok (.aload_n 0, 1)) ?_
  refine q_sipush C (by decide +kernel : decode cX11_init 103 = .ok (.sipush 1000, 3)) (by decide) ?_
  refine q_newaI C w9_114 (by decide +kernel : decode cX11_init 106 = .ok (.newarray .int, 2)) ?_
  refine q_putF C (ci := 11) (j := 17) (C0 := RX11) (T := TX11) (N := 35) (ty := .array .int) rfl iX11 giX11 (by decide) tyX11 tyX11_ok nmX11 (by decide +kernel) rfl rfl rfl w9_59 (by decide +kernel : decode cX11_init 108 = .ok (.putfield 46, 3)) ?_
  refine q_aload_n C (by decide +kernel : decode cX11_init 111 = .ok (.aload_n 0, 1)) ?_
  refine q_sipush C (by decide +kernel : decode cX11_init 112 = .ok (.sipush 1000, 3)) (by decide) ?_
  refine q_newaI C w9_114 (by decide +kernel : decode cX11_init 115 = .ok (.newarray .int, 2)) ?_
  refine q_putF C (ci := 11) (j := 18) (C0 := RX11) (T := TX11) (N := 35) (ty := .array .int) rfl iX11 giX11 (by decide) tyX11 tyX11_ok nmX11 (by decide +kernel) rfl rfl rfl w9_60 (by decide +kernel : decode cX11_init 117 = .ok (.putfield 49, 3)) ?_
  refine q_aload_n C (by decide +kernel : decode cX11_init 120 = .ok (.aload_n 0, 1)) ?_
  refine q_sipush C (by decide +kernel : decode cX11_init 121 = .ok (.sipush 1000, 3)) (by decide) ?_
  refine q_newaI C w9_114 (by decide +kernel : decode cX11_init 124 = .ok (.newarray .int, 2)) ?_
  refine q_putF C (ci := 11) (j := 19) (C0 := RX11) (T := TX11) (N := 35) (ty := .array .int) rfl iX11 giX11 (by decide) tyX11 tyX11_ok nmX11 (by decide +kernel) rfl rfl rfl w9_61 (by decide +kernel : decode cX11_init 126 = .ok (.putfield 52, 3)) ?_
  refine q_aload_n C (by decide +kernel : decode cX11_init 129 = .ok (.aload_n 0, 1)) ?_
  refine q_sipush C (by decide +kernel : decode cX11_init 130 = .ok (.sipush 2880, 3)) (by decide) ?_
  refine q_newaI C w9_114 (by decide +kernel : decode cX11_init 133 = .ok (.newarray .int, 2)) ?_
  refine q_putF C (ci := 11) (j := 20) (C0 := RX11) (T := TX11) (N := 35) (ty := .array .int) rfl iX11 giX11 (by decide) tyX11 tyX11_ok nmX11 (by decide +kernel) rfl rfl rfl w9_62 (by decide +kernel : decode cX11_init 135 = .ok (.putfield 55, 3)) ?_
  refine q_aload_n C (by decide +kernel : decode cX11_init 138 = .ok (.aload_n 0, 1)) ?_
  refine q_sipush C (by decide +kernel : decode cX11_init 139 = .ok (.sipush 240, 3)) (by decide) ?_
  refine q_newaZ C w9_115 (by decide +kernel : decode cX11_init 142 = .ok (.newarray .boolean, 2)) ?_
  refine q_putF C (ci := 11) (j := 21) (C0 := RX11) (T := TX11) (N := 35) (ty := .array .boolean) rfl iX11 giX11 (by decide) tyX11 tyX11_ok nmX11 (by decide +kernel) rfl rfl rfl w9_83 (by decide +kernel : decode cX11_init 144 = .ok (.putfield 58, 3)) ?_
  refine q_aload_n C (by decide +kernel : decode cX11_init 147 = .ok (.aload_n 0, 1)) ?_
  refine q_bipush C (by decide +kernel : decode cX11_init 148 = .ok (.bipush 40, 2)) (by decide) ?_
  refine q_newaI C w9_114 (by decide +kernel : decode cX11_init 150 = .ok (.newarray .int, 2)) ?_
  refine q_putF C (ci := 11) (j := 23) (C0 := RX11) (T := TX11) (N := 35) (ty := .array .int) rfl iX11 giX11 (by decide) tyX11 tyX11_ok nmX11 (by decide +kernel) rfl rfl rfl w9_92 (by decide +kernel : decode cX11_init 152 = .ok (.putfield 62, 3)) ?_
  refine q_aload_n C (by decide +kernel : decode cX11_init 155 = .ok (.aload_n 0, 1)) ?_
  refine q_bipush C (by decide +kernel : decode cX11_init 156 = .ok (.bipush 40, 2)) (by decide) ?_
  refine q_newaI C w9_114 (by decide +kernel : decode cX11_init 158 = .ok (.newarray .int, 2)) ?_
  refine q_putF C (ci := 11) (j := 24) (C0 := RX11) (T := TX11) (N := 35) (ty := .array .int) rfl iX11 giX11 (by decide) tyX11 tyX11_ok nmX11 (by decide +kernel) rfl rfl rfl w9_93 (by decide +kernel : decode cX11_init 160 = .ok (.putfield 65, 3)) ?_
  refine q_aload_n C (by decide +kernel : decode cX11_init 163 = .ok (.aload_n 0, 1)) ?_
  refine q_bipush C (by decide +kernel : decode cX11_init 164 = .ok (.bipush 40, 2)) (by decide) ?_
  refine q_newaI C w9_114 (by decide +kernel : decode cX11_init 166 = .ok (.newarray .int, 2)) ?_
  refine q_putF C (ci := 11) (j := 25) (C0 := RX11) (T := TX11) (N := 35) (ty := .array .int) rfl iX11 giX11 (by decide) tyX11 tyX11_ok nmX11 (by decide +kernel) rfl rfl rfl w9_94 (by decide +kernel : decode cX11_init 168 = .ok (.putfield 68, 3)) ?_
  refine q_aload_n C (by decide +kernel : decode cX11_init 171 = .ok (.aload_n 0, 1)) ?_
  refine q_bipush C (by decide +kernel : decode cX11_init 172 = .ok (.bipush 40, 2)) (by decide) ?_
  refine q_newaI C w9_114 (by decide +kernel : decode cX11_init 174 = .ok (.newarray .int, 2)) ?_
  refine q_putF C (ci := 11) (j := 26) (C0 := RX11) (T := TX11) (N := 35) (ty := .array .int) rfl iX11 giX11 (by decide) tyX11 tyX11_ok nmX11 (by decide +kernel) rfl rfl rfl w9_95 (by decide +kernel : decode cX11_init 176 = .ok (.putfield 71, 3)) ?_
  refine q_aload_n C (by decide +kernel : decode cX11_init 179 = .ok (.aload_n 0, 1)) ?_
  refine q_bipush C (by decide +kernel : decode cX11_init 180 = .ok (.bipush 40, 2)) (by decide) ?_
  refine q_newaI C w9_114 (by decide +kernel : decode cX11_init 182 = .ok (.newarray .int, 2)) ?_
  refine q_putF C (ci := 11) (j := 27) (C0 := RX11) (T := TX11) (N := 35) (ty := .array .int) rfl iX11 giX11 (by decide) tyX11 tyX11_ok nmX11 (by decide +kernel) rfl rfl rfl w9_96 (by decide +kernel : decode cX11_init 184 = .ok (.putfield 74, 3)) ?_
  refine q_aload_n C (by decide +kernel : decode cX11_init 187 = .ok (.aload_n 0, 1)) ?_
  refine q_bipush C (by decide +kernel : decode cX11_init 188 = .ok (.bipush 40, 2)) (by decide) ?_
  refine q_newaI C w9_114 (by decide +kernel : decode cX11_init 190 = .ok (.newarray .int, 2)) ?_
  refine q_putF C (ci := 11) (j := 28) (C0 := RX11) (T := TX11) (N := 35) (ty := .array .int) rfl iX11 giX11 (by decide) tyX11 tyX11_ok nmX11 (by decide +kernel) rfl rfl rfl w9_97 (by decide +kernel : decode cX11_init 192 = .ok (.putfield 77, 3)) ?_
  refine q_aload_n C (by decide +kernel : decode cX11_init 195 = .ok (.aload_n 0, 1)) ?_
  refine q_bipush C (by decide +kernel : decode cX11_init 196 = .ok (.bipush 20, 2)) (by decide) ?_
  refine q_newaI C w9_114 (by decide +kernel : decode cX11_init 198 = .ok (.newarray .int, 2)) ?_
  refine q_putF C (ci := 11) (j := 29) (C0 := RX11) (T := TX11) (N := 35) (ty := .array .int) rfl iX11 giX11 (by decide) tyX11 tyX11_ok nmX11 (by decide +kernel) rfl rfl rfl w9_30 (by decide +kernel : decode cX11_init 200 = .ok (.putfield 80, 3)) ?_
  refine q_aload_n C (by decide +kernel : decode cX11_init 203 = .ok (.aload_n 0, 1)) ?_
  refine q_sipush C (by decide +kernel : decode cX11_init 204 = .ok (.sipush 400, 3)) (by decide) ?_
  refine q_newaI C w9_114 (by decide +kernel : decode cX11_init 207 = .ok (.newarray .int, 2)) ?_
  refine q_putF C (ci := 11) (j := 30) (C0 := RX11) (T := TX11) (N := 35) (ty := .array .int) rfl iX11 giX11 (by decide) tyX11 tyX11_ok nmX11 (by decide +kernel) rfl rfl rfl w9_84 (by decide +kernel : decode cX11_init 209 = .ok (.putfield 83, 3)) ?_
  refine q_aload_n C (by decide +kernel : decode cX11_init 212 = .ok (.aload_n 0, 1)) ?_
  refine q_sipush C (by decide +kernel : decode cX11_init 213 = .ok (.sipush 1000, 3)) (by decide) ?_
  refine q_newaZ C w9_115 (by decide +kernel : decode cX11_init 216 = .ok (.newarray .boolean, 2)) ?_
  refine q_putF C (ci := 11) (j := 32) (C0 := RX11) (T := TX11) (N := 35) (ty := .array .boolean) rfl iX11 giX11 (by decide) tyX11 tyX11_ok nmX11 (by decide +kernel) rfl rfl rfl w9_85 (by decide +kernel : decode cX11_init 218 = .ok (.putfield 86, 3)) ?_
  refine q_aload_n C (by decide +kernel : decode cX11_init 221 = .ok (.aload_n 0, 1)) ?_
  refine q_sipush C (by decide +kernel : decode cX11_init 222 = .ok (.sipush 441, 3)) (by decide) ?_
  refine q_newaI C w9_114 (by decide +kernel : decode cX11_init 225 = .ok (.newarray .int, 2)) ?_
  refine q_putF C (ci := 11) (j := 34) (C0 := RX11) (T := TX11) (N := 35) (ty := .array .int) rfl iX11 giX11 (by decide) tyX11 tyX11_ok nmX11 (by decide +kernel) rfl rfl rfl w9_102 (by decide +kernel : decode cX11_init 227 = .ok (.putfield 89, 3)) ?_
  exact q_vret C rfl (by decide +kernel : decode cX11_init 230 = .ok (.return_, 1))
theorem u_X11_init (l : Launch) {sp : q_Sp} (H : ∀ (av : List Value) (σ : q_S) (post : Option Value → q_S → Prop), sp av σ post → k_X11_init_0 post (fun _ _ _ _ _ _ => False) (q_L0 av 1) [] σ 27 10327 ∧ av.length ≤ 1 ∧ ∀ v ∈ av, v.category = 1) : q_Ct l yX11_init cX11_init 1 none rm_X11_init sp := by
  refine q_met (by decide) ?_
  intro D A p e s m args below meth c σ av post C hsp
  obtain ⟨h1, h2, h3⟩ := H av σ post hsp
  exact ⟨_, v_X11_init_0 (K := fun _ _ _ _ _ _ => False) C (fun h hh => by cases hh), h1, h2, h3⟩
theorem t_X11_init (l : Launch) : q_Ct l yX11_init cX11_init 1 none rm_X11_init s_X11_init := u_X11_init l (by
  intro av σ post h
  unfold s_X11_init at h
  split at h
  · next mr =>
    obtain ⟨h0, h1⟩ := h
    refine ⟨?_, by simp, by simp [Value.category]⟩
    have hp : mPre σ mr ([.int 0, .int 0, .null, .null, .null, .int 0, .null, .null, .null, .null, .null, .int 0, .null, .null, .int 0, .null, .null, .null, .null, .null, .null, .null, .int 0, .null, .null, .null, .null, .null, .null, .null, .null, .int 0, .null, .int 0, .null]) [] := ⟨⟨h0, rfl⟩, fun x hx => (by cases hx), List.nodup_nil⟩
    unfold k_X11_init_0
    have e0 : q_L0 [Value.ref mr] 1 = [some (.ref mr)] := rfl
    rw [e0]
    show c_oinit _ [some (.ref mr)] [.ref mr] σ 27 10327
    unfold c_oinit
    refine ⟨by simp, ?_⟩
    refine mi_step 2 26 10315 hp rfl (by decide) rfl (by decide) (by decide) rfl (by decide) (fun q2 σ2 h2 => ?_)
    refine mi_step 3 25 10303 h2 rfl (by decide) rfl (by decide) (by decide) rfl (by decide) (fun q3 σ3 h3 => ?_)
    refine mi_step 4 24 10291 h3 rfl (by decide) rfl (by decide) (by decide) rfl (by decide) (fun q4 σ4 h4 => ?_)
    refine mi_step 6 23 10285 h4 rfl (by decide) rfl (by decide) (by decide) rfl (by decide) (fun q6 σ6 h6 => ?_)
    refine mi_step 7 22 10279 h6 rfl (by decide) rfl (by decide) (by decide) rfl (by decide) (fun q7 σ7 h7 => ?_)
    refine mi_step 8 21 10273 h7 rfl (by decide) rfl (by decide) (by decide) rfl (by decide) (fun q8 σ8 h8 => ?_)
    refine mi_step 9 20 10267 h8 rfl (by decide) rfl (by decide) (by decide) rfl (by decide) (fun q9 σ9 h9 => ?_)
    refine mi_step 10 19 10261 h9 rfl (by decide) rfl (by decide) (by decide) rfl (by decide) (fun q10 σ10 h10 => ?_)
    refine mi_step 12 18 10241 h10 rfl (by decide) rfl (by decide) (by decide) rfl (by decide) (fun q12 σ12 h12 => ?_)
    refine mi_step 13 17 10221 h12 rfl (by decide) rfl (by decide) (by decide) rfl (by decide) (fun q13 σ13 h13 => ?_)
    refine mi_step 15 16 9221 h13 rfl (by decide) rfl (by decide) (by decide) rfl (by decide) (fun q15 σ15 h15 => ?_)
    refine mi_step 16 15 8221 h15 rfl (by decide) rfl (by decide) (by decide) rfl (by decide) (fun q16 σ16 h16 => ?_)
    refine mi_step 17 14 7221 h16 rfl (by decide) rfl (by decide) (by decide) rfl (by decide) (fun q17 σ17 h17 => ?_)
    refine mi_step 18 13 6221 h17 rfl (by decide) rfl (by decide) (by decide) rfl (by decide) (fun q18 σ18 h18 => ?_)
    refine mi_step 19 12 5221 h18 rfl (by decide) rfl (by decide) (by decide) rfl (by decide) (fun q19 σ19 h19 => ?_)
    refine mi_step 20 11 2341 h19 rfl (by decide) rfl (by decide) (by decide) rfl (by decide) (fun q20 σ20 h20 => ?_)
    refine mi_step 21 10 2101 h20 rfl (by decide) rfl (by decide) (by decide) rfl (by decide) (fun q21 σ21 h21 => ?_)
    refine mi_step 23 9 2061 h21 rfl (by decide) rfl (by decide) (by decide) rfl (by decide) (fun q23 σ23 h23 => ?_)
    refine mi_step 24 8 2021 h23 rfl (by decide) rfl (by decide) (by decide) rfl (by decide) (fun q24 σ24 h24 => ?_)
    refine mi_step 25 7 1981 h24 rfl (by decide) rfl (by decide) (by decide) rfl (by decide) (fun q25 σ25 h25 => ?_)
    refine mi_step 26 6 1941 h25 rfl (by decide) rfl (by decide) (by decide) rfl (by decide) (fun q26 σ26 h26 => ?_)
    refine mi_step 27 5 1901 h26 rfl (by decide) rfl (by decide) (by decide) rfl (by decide) (fun q27 σ27 h27 => ?_)
    refine mi_step 28 4 1861 h27 rfl (by decide) rfl (by decide) (by decide) rfl (by decide) (fun q28 σ28 h28 => ?_)
    refine mi_step 29 3 1841 h28 rfl (by decide) rfl (by decide) (by decide) rfl (by decide) (fun q29 σ29 h29 => ?_)
    refine mi_step 30 2 1441 h29 rfl (by decide) rfl (by decide) (by decide) rfl (by decide) (fun q30 σ30 h30 => ?_)
    refine mi_step 32 1 441 h30 rfl (by decide) rfl (by decide) (by decide) rfl (by decide) (fun q32 σ32 h32 => ?_)
    refine mi_step 34 0 0 h32 rfl (by decide) rfl (by decide) (by decide) rfl (by decide) (fun q34 σ34 h34 => ?_)
    show post none σ34
    have h9 := h34.1.1
    simp only [List.set_cons_zero, List.set_cons_succ] at h9
    refine h1 σ34 (adL [(34, q34), (32, q32), (30, q30), (29, q29), (28, q28), (27, q27), (26, q26), (25, q25), (24, q24), (23, q23), (21, q21), (20, q20), (19, q19), (18, q18), (17, q17), (16, q16), (15, q15), (13, q13), (12, q12), (10, q10), (9, q9), (8, q8), (7, q7), (6, q6), (4, q4), (3, q3), (2, q2)]) ⟨0, fun _ => 0, by rw [h9, mf_end], fun k hk => ?_, fun k hk j hj e => ?_⟩
    · have hg : mG (fun _ _ => 0) (fun _ => 0) k = fun _ => 0 := by unfold mG; split <;> rfl
      rw [hg]
      have hf : (k, adL [(34, q34), (32, q32), (30, q30), (29, q29), (28, q28), (27, q27), (26, q26), (25, q25), (24, q24), (23, q23), (21, q21), (20, q20), (19, q19), (18, q18), (17, q17), (16, q16), (15, q15), (13, q13), (12, q12), (10, q10), (9, q9), (8, q8), (7, q7), (6, q6), (4, q4), (3, q3), (2, q2)] k) ∈ ([(34, q34), (32, q32), (30, q30), (29, q29), (28, q28), (27, q27), (26, q26), (25, q25), (24, q24), (23, q23), (21, q21), (20, q20), (19, q19), (18, q18), (17, q17), (16, q16), (15, q15), (13, q13), (12, q12), (10, q10), (9, q9), (8, q8), (7, q7), (6, q6), (4, q4), (3, q3), (2, q2)] : List (Nat × Nat)) := adL_mem hk
      exact (h34.2.1 _ hf).1
    · have hf : (k, adL [(34, q34), (32, q32), (30, q30), (29, q29), (28, q28), (27, q27), (26, q26), (25, q25), (24, q24), (23, q23), (21, q21), (20, q20), (19, q19), (18, q18), (17, q17), (16, q16), (15, q15), (13, q13), (12, q12), (10, q10), (9, q9), (8, q8), (7, q7), (6, q6), (4, q4), (3, q3), (2, q2)] k) ∈ ([(34, q34), (32, q32), (30, q30), (29, q29), (28, q28), (27, q27), (26, q26), (25, q25), (24, q24), (23, q23), (21, q21), (20, q20), (19, q19), (18, q18), (17, q17), (16, q16), (15, q15), (13, q13), (12, q12), (10, q10), (9, q9), (8, q8), (7, q7), (6, q6), (4, q4), (3, q3), (2, q2)] : List (Nat × Nat)) := adL_mem hk
      have hf2 : (j, adL [(34, q34), (32, q32), (30, q30), (29, q29), (28, q28), (27, q27), (26, q26), (25, q25), (24, q24), (23, q23), (21, q21), (20, q20), (19, q19), (18, q18), (17, q17), (16, q16), (15, q15), (13, q13), (12, q12), (10, q10), (9, q9), (8, q8), (7, q7), (6, q6), (4, q4), (3, q3), (2, q2)] j) ∈ ([(34, q34), (32, q32), (30, q30), (29, q29), (28, q28), (27, q27), (26, q26), (25, q25), (24, q24), (23, q23), (21, q21), (20, q20), (19, q19), (18, q18), (17, q17), (16, q16), (15, q15), (13, q13), (12, q12), (10, q10), (9, q9), (8, q8), (7, q7), (6, q6), (4, q4), (3, q3), (2, q2)] : List (Nat × Nat)) := adL_mem hj
      have := nd_inj h34.2.2 hf hf2 e
      exact congrArg Prod.fst this
  · exact h.elim)
end
section
theorem q_up_up {σ : q_S} {a : Nat} {e e2 : q_E} : q_up (q_up σ a e) a e2 = q_up σ a e2 := by
  funext b
  unfold q_up
  split <;> rfl
-- Person
def s_X7_init : q_Sp := fun av σ post => match av with
  | [.ref a] => σ a = some (.inr (7, [.int 0, .int 0, .int 0])) ∧ post none (q_up σ a (.inr (7, [.int (-1), .int (-1), .int (-1)])))
  | _ => False
theorem w9_116 : (.methodLink RX7 3 objectInit : Cond) ∈ lw_tbl := by decide +kernel
theorem w9_117 : (.fieldLink RX7 9 (TX7 0).1 (TX7 0).2.1 (TX7 0).2.2.1 : Cond) ∈ lw_tbl := by decide +kernel
theorem w9_118 : (.fieldLink RX7 15 (TX7 1).1 (TX7 1).2.1 (TX7 1).2.2.1 : Cond) ∈ lw_tbl := by decide +kernel
theorem w9_119 : (.fieldLink RX7 18 (TX7 2).1 (TX7 2).2.1 (TX7 2).2.2.1 : Cond) ∈ lw_tbl := by decide +kernel
def rm_X7_init : Room := { frames := 1, cells := 0, slots := 0, locals := 20 }
def k_X7_init_0 (post : Option Value → q_S → Prop) (K : Nat → q_K) : q_K := (c_aload 0 (c_oinit (c_aload 0 (c_push (-1) (c_put 7 0 (.int) (c_aload 0 (c_push (-1) (c_put 7 1 (.int) (c_aload 0 (c_push (-1) (c_put 7 2 (.int) (c_vret post))))))))))))
set_option maxRecDepth 100000 in
theorem v_X7_init_0 {p : Program} {l : Launch} {e : Env} {s : State} {m : MethodId} {args : Array Value} {below : List Frame} {meth : Method} {c : Code} {D : va_G} {A : Nat → Prop} {post : Option Value → q_S → Prop} {K : Nat → q_K} (C : q_C p s m args meth c cX7_init 1 RX7 "<init>" none A) (hK : ∀ h ∈ ([] : List Nat), q_V p l e rm_X7_init s m args below meth c D A 1 (MQ below (q_Qc D A post) args s rm_X7_init.cells rm_X7_init.slots A) h (K h)) : q_V p l e rm_X7_init s m args below meth c D A 1 (MQ below (q_Qc D A post) args s rm_X7_init.cells rm_X7_init.slots A) 0 (k_X7_init_0 post K) := by
  unfold k_X7_init_0
  refine q_aload_n C (by decide +kernel : decode cX7_init 0 = .ok (.aload_n 0, 1)) ?_
  refine q_oinit C w9_116 w9_112 w9_113 (by decide) (by decide +kernel : decode cX7_init 1 = .ok (.invokespecial 3, 3)) ?_
  refine q_aload_n C (by decide +kernel : decode cX7_init 4 = .ok (.aload_n 0, 1)) ?_
  refine q_iconst C (by decide +kernel : decode cX7_init 5 = .ok (.iconst (-1), 1)) (by decide) ?_
  refine q_put C (ci := 7) (j := 0) (C0 := RX7) (T := TX7) (N := 3) (ty := .int) rfl iX7 giX7 (by decide) tyX7 tyX7_ok nmX7 (by decide +kernel) rfl w9_117 (by decide +kernel : decode cX7_init 6 = .ok (.putfield 9, 3)) ?_
  refine q_aload_n C (by decide +kernel : decode cX7_init 9 = .ok (.aload_n 0, 1)) ?_
  refine q_iconst C (by decide +kernel : decode cX7_init 10 = .ok (.iconst (-1), 1)) (by decide) ?_
  refine q_put C (ci := 7) (j := 1) (C0 := RX7) (T := TX7) (N := 3) (ty := .int) rfl iX7 giX7 (by decide) tyX7 tyX7_ok nmX7 (by decide +kernel) rfl w9_118 (by decide +kernel : decode cX7_init 11 = .ok (.putfield 15, 3)) ?_
  refine q_aload_n C (by decide +kernel : decode cX7_init 14 = .ok (.aload_n 0, 1)) ?_
  refine q_iconst C (by decide +kernel : decode cX7_init 15 = .ok (.iconst (-1), 1)) (by decide) ?_
  refine q_put C (ci := 7) (j := 2) (C0 := RX7) (T := TX7) (N := 3) (ty := .int) rfl iX7 giX7 (by decide) tyX7 tyX7_ok nmX7 (by decide +kernel) rfl w9_119 (by decide +kernel : decode cX7_init 16 = .ok (.putfield 18, 3)) ?_
  exact q_vret C rfl (by decide +kernel : decode cX7_init 19 = .ok (.return_, 1))
theorem u_X7_init (l : Launch) {sp : q_Sp} (H : ∀ (av : List Value) (σ : q_S) (post : Option Value → q_S → Prop), sp av σ post → k_X7_init_0 post (fun _ _ _ _ _ _ => False) (q_L0 av 1) [] σ 0 0 ∧ av.length ≤ 1 ∧ ∀ v ∈ av, v.category = 1) : q_Ct l yX7_init cX7_init 1 none rm_X7_init sp := by
  refine q_met (by decide) ?_
  intro D A p e s m args below meth c σ av post C hsp
  obtain ⟨h1, h2, h3⟩ := H av σ post hsp
  exact ⟨_, v_X7_init_0 (K := fun _ _ _ _ _ _ => False) C (fun h hh => by cases hh), h1, h2, h3⟩
theorem t_X7_init (l : Launch) : q_Ct l yX7_init cX7_init 1 none rm_X7_init s_X7_init := u_X7_init l (by
  intro av σ post h
  unfold s_X7_init at h
  split at h
  · next a =>
    refine ⟨?_, by simp, by simp [Value.category]⟩
    simp only [c_push, c_null, c_iload, c_aload, c_istore, c_astore, c_iinc, c_iadd, c_isub, c_imul, c_iand, c_ineg, c_dup, c_dup2, c_pop, c_ifnull, c_ifnonnull, c_get, c_put, c_iald, c_zald, c_iast, c_zast, c_aald, c_aast, c_alen, c_new, c_newa, c_newq, c_mna, c_oinit, c_max, c_copy, c_iret, c_zret, c_aret, c_vret, q_do, q_rc, c_ifeq, c_ifne, c_iflt, c_ifge, c_ifgt, c_ifle, c_iceq, c_icne, c_iclt, c_icge, c_icgt, c_icle, c_call0, c_call1, c_call2, c_call3, c_call4, c_call5, c_call6, c_call7, q_L0, List.map_cons, List.map_nil, List.replicate, List.cons_append, List.nil_append, List.append_nil, List.length_cons, List.length_nil, List.length_set, Nat.reduceSub, Nat.reduceAdd, Nat.reduceLT, Nat.reduceLeDiff, Nat.zero_add, Nat.add_zero, Nat.sub_zero, Nat.sub_self, List.getElem?_cons_zero, List.getElem?_cons_succ, List.set_cons_zero, List.set_cons_succ, Option.toList_some, Option.toList_none, List.sum_cons, List.sum_nil, true_and, and_true, true_or, or_true, Nat.le_refl, Nat.zero_le, Value.category, Fin.isValue, Fin.val_zero, Fin.val_one, Fin.val_two, Fin.reduceFinMk, q_10, q_01, not_false_eq_true, not_true_eq_false, forall_const, true_implies, false_implies, implies_true, q_ni, q_fi, q_nb0, q_nb1, q_fb0, q_fb1, q_nor, q_nar, q_for, q_far, q_non, q_nan, q_fon, q_fan, imp_false, false_and, and_false, and_self, false_or, or_false, va_rf, refKind, k_X7_init_0, q_fld, q_fset, q_oc, h.1, q_up_s, q_up_up, if_true]
    exact h.2
  · exact h.elim)
def s_X7_tellDead : q_Sp := fun av σ post => match av with
  | [.ref a, .int d, .int k] => (match σ a with
    | some (.inr (7, [x, _, _])) => post none (q_up σ a (.inr (7, [x, .int d, .int k])))
    | _ => False)
  | _ => False
def rm_X7_tellDead : Room := { frames := 0, cells := 0, slots := 0, locals := 0 }
def k_X7_tellDead_0 (post : Option Value → q_S → Prop) (K : Nat → q_K) : q_K := (c_aload 0 (c_iload 1 (c_put 7 1 (.int) (c_aload 0 (c_iload 2 (c_put 7 2 (.int) (c_vret post)))))))
set_option maxRecDepth 100000 in
theorem v_X7_tellDead_0 {p : Program} {l : Launch} {e : Env} {s : State} {m : MethodId} {args : Array Value} {below : List Frame} {meth : Method} {c : Code} {D : va_G} {A : Nat → Prop} {post : Option Value → q_S → Prop} {K : Nat → q_K} (C : q_C p s m args meth c cX7_tellDead 3 RX7 "tellDead" none A) (hK : ∀ h ∈ ([] : List Nat), q_V p l e rm_X7_tellDead s m args below meth c D A 3 (MQ below (q_Qc D A post) args s rm_X7_tellDead.cells rm_X7_tellDead.slots A) h (K h)) : q_V p l e rm_X7_tellDead s m args below meth c D A 3 (MQ below (q_Qc D A post) args s rm_X7_tellDead.cells rm_X7_tellDead.slots A) 0 (k_X7_tellDead_0 post K) := by
  unfold k_X7_tellDead_0
  refine q_aload_n C (by decide +kernel : decode cX7_tellDead 0 = .ok (.aload_n 0, 1)) ?_
  refine q_iload_n C (by decide +kernel : decode cX7_tellDead 1 = .ok (.iload_n 1, 1)) ?_
  refine q_put C (ci := 7) (j := 1) (C0 := RX7) (T := TX7) (N := 3) (ty := .int) rfl iX7 giX7 (by decide) tyX7 tyX7_ok nmX7 (by decide +kernel) rfl w9_118 (by decide +kernel : decode cX7_tellDead 2 = .ok (.putfield 15, 3)) ?_
  refine q_aload_n C (by decide +kernel : decode cX7_tellDead 5 = .ok (.aload_n 0, 1)) ?_
  refine q_iload_n C (by decide +kernel : decode cX7_tellDead 6 = .ok (.iload_n 2, 1)) ?_
  refine q_put C (ci := 7) (j := 2) (C0 := RX7) (T := TX7) (N := 3) (ty := .int) rfl iX7 giX7 (by decide) tyX7 tyX7_ok nmX7 (by decide +kernel) rfl w9_119 (by decide +kernel : decode cX7_tellDead 7 = .ok (.putfield 18, 3)) ?_
  exact q_vret C rfl (by decide +kernel : decode cX7_tellDead 10 = .ok (.return_, 1))
theorem u_X7_tellDead (l : Launch) {sp : q_Sp} (H : ∀ (av : List Value) (σ : q_S) (post : Option Value → q_S → Prop), sp av σ post → k_X7_tellDead_0 post (fun _ _ _ _ _ _ => False) (q_L0 av 3) [] σ 0 0 ∧ av.length ≤ 3 ∧ ∀ v ∈ av, v.category = 1) : q_Ct l yX7_tellDead cX7_tellDead 3 none rm_X7_tellDead sp := by
  refine q_met (by decide) ?_
  intro D A p e s m args below meth c σ av post C hsp
  obtain ⟨h1, h2, h3⟩ := H av σ post hsp
  exact ⟨_, v_X7_tellDead_0 (K := fun _ _ _ _ _ _ => False) C (fun h hh => by cases hh), h1, h2, h3⟩
theorem t_X7_tellDead (l : Launch) : q_Ct l yX7_tellDead cX7_tellDead 3 none rm_X7_tellDead s_X7_tellDead := u_X7_tellDead l (by
  intro av σ post h
  unfold s_X7_tellDead at h
  split at h
  · split at h
    · next e =>
      refine ⟨?_, by simp, by simp [Value.category]⟩
      simp only [c_push, c_null, c_iload, c_aload, c_istore, c_astore, c_iinc, c_iadd, c_isub, c_imul, c_iand, c_ineg, c_dup, c_dup2, c_pop, c_ifnull, c_ifnonnull, c_get, c_put, c_iald, c_zald, c_iast, c_zast, c_aald, c_aast, c_alen, c_new, c_newa, c_newq, c_mna, c_oinit, c_max, c_copy, c_iret, c_zret, c_aret, c_vret, q_do, q_rc, c_ifeq, c_ifne, c_iflt, c_ifge, c_ifgt, c_ifle, c_iceq, c_icne, c_iclt, c_icge, c_icgt, c_icle, c_call0, c_call1, c_call2, c_call3, c_call4, c_call5, c_call6, c_call7, q_L0, List.map_cons, List.map_nil, List.replicate, List.cons_append, List.nil_append, List.append_nil, List.length_cons, List.length_nil, List.length_set, Nat.reduceSub, Nat.reduceAdd, Nat.reduceLT, Nat.reduceLeDiff, Nat.zero_add, Nat.add_zero, Nat.sub_zero, Nat.sub_self, List.getElem?_cons_zero, List.getElem?_cons_succ, List.set_cons_zero, List.set_cons_succ, Option.toList_some, Option.toList_none, List.sum_cons, List.sum_nil, true_and, and_true, true_or, or_true, Nat.le_refl, Nat.zero_le, Value.category, Fin.isValue, Fin.val_zero, Fin.val_one, Fin.val_two, Fin.reduceFinMk, q_10, q_01, not_false_eq_true, not_true_eq_false, forall_const, true_implies, false_implies, implies_true, q_ni, q_fi, q_nb0, q_nb1, q_fb0, q_fb1, q_nor, q_nar, q_for, q_far, q_non, q_nan, q_fon, q_fan, imp_false, false_and, and_false, and_self, false_or, or_false, va_rf, refKind, k_X7_tellDead_0, q_fld, q_fset, q_oc, e, q_up_s, q_up_up, if_true]
      exact h
    · exact h.elim
  · exact h.elim)
def s_X7_isToldDead : q_Sp := fun av σ post => match av with
  | [.ref a] => (match σ a with
    | some (.inr (7, [_, .int d, _])) => (d = -1 → post (some (.int 0)) σ) ∧ (¬ d = -1 → post (some (.int 1)) σ)
    | _ => False)
  | _ => False
def rm_X7_isToldDead : Room := { frames := 0, cells := 0, slots := 0, locals := 0 }
def k_X7_isToldDead_13 (post : Option Value → q_S → Prop) (K : Nat → q_K) : q_K := (c_zret post)
def k_X7_isToldDead_0 (post : Option Value → q_S → Prop) (K : Nat → q_K) : q_K := (c_aload 0 (c_get 7 1 (c_push (-1) (c_iceq (c_push 0 (k_X7_isToldDead_13 post K)) (c_push 1 (k_X7_isToldDead_13 post K))))))
set_option maxRecDepth 100000 in
theorem v_X7_isToldDead_13 {p : Program} {l : Launch} {e : Env} {s : State} {m : MethodId} {args : Array Value} {below : List Frame} {meth : Method} {c : Code} {D : va_G} {A : Nat → Prop} {post : Option Value → q_S → Prop} {K : Nat → q_K} (C : q_C p s m args meth c cX7_isToldDead 1 RX7 "isToldDead" (some .boolean) A) (hK : ∀ h ∈ ([] : List Nat), q_V p l e rm_X7_isToldDead s m args below meth c D A 1 (MQ below (q_Qc D A post) args s rm_X7_isToldDead.cells rm_X7_isToldDead.slots A) h (K h)) : q_V p l e rm_X7_isToldDead s m args below meth c D A 1 (MQ below (q_Qc D A post) args s rm_X7_isToldDead.cells rm_X7_isToldDead.slots A) 13 (k_X7_isToldDead_13 post K) := by
  unfold k_X7_isToldDead_13
  exact q_zret C rfl (by decide +kernel : decode cX7_isToldDead 13 = .ok (.ireturn, 1))
set_option maxRecDepth 100000 in
theorem v_X7_isToldDead_0 {p : Program} {l : Launch} {e : Env} {s : State} {m : MethodId} {args : Array Value} {below : List Frame} {meth : Method} {c : Code} {D : va_G} {A : Nat → Prop} {post : Option Value → q_S → Prop} {K : Nat → q_K} (C : q_C p s m args meth c cX7_isToldDead 1 RX7 "isToldDead" (some .boolean) A) (hK : ∀ h ∈ ([] : List Nat), q_V p l e rm_X7_isToldDead s m args below meth c D A 1 (MQ below (q_Qc D A post) args s rm_X7_isToldDead.cells rm_X7_isToldDead.slots A) h (K h)) : q_V p l e rm_X7_isToldDead s m args below meth c D A 1 (MQ below (q_Qc D A post) args s rm_X7_isToldDead.cells rm_X7_isToldDead.slots A) 0 (k_X7_isToldDead_0 post K) := by
  unfold k_X7_isToldDead_0
  refine q_aload_n C (by decide +kernel : decode cX7_isToldDead 0 = .ok (.aload_n 0, 1)) ?_
  refine q_get C (ci := 7) (j := 1) (C0 := RX7) (T := TX7) (N := 3) rfl iX7 giX7 (by decide) w9_118 (by decide +kernel : decode cX7_isToldDead 1 = .ok (.getfield 15, 3)) ?_
  refine q_iconst C (by decide +kernel : decode cX7_isToldDead 4 = .ok (.iconst (-1), 1)) (by decide) ?_
  refine q_iceq C (tgt := 12) (by decide +kernel : decode cX7_isToldDead 5 = .ok (.if_icmp .eq 7, 3)) (by decide) ?_ ?_
  · refine q_iconst C (by decide +kernel : decode cX7_isToldDead 12 = .ok (.iconst 0, 1)) (by decide) ?_
    exact v_X7_isToldDead_13 C hK
  · refine q_iconst C (by decide +kernel : decode cX7_isToldDead 8 = .ok (.iconst 1, 1)) (by decide) ?_
    refine q_goto C (tgt := 13) (by decide +kernel : decode cX7_isToldDead 9 = .ok (.goto 4, 3)) (by decide) ?_
    exact v_X7_isToldDead_13 C hK
theorem u_X7_isToldDead (l : Launch) {sp : q_Sp} (H : ∀ (av : List Value) (σ : q_S) (post : Option Value → q_S → Prop), sp av σ post → k_X7_isToldDead_0 post (fun _ _ _ _ _ _ => False) (q_L0 av 1) [] σ 0 0 ∧ av.length ≤ 1 ∧ ∀ v ∈ av, v.category = 1) : q_Ct l yX7_isToldDead cX7_isToldDead 1 (some .boolean) rm_X7_isToldDead sp := by
  refine q_met (by decide) ?_
  intro D A p e s m args below meth c σ av post C hsp
  obtain ⟨h1, h2, h3⟩ := H av σ post hsp
  exact ⟨_, v_X7_isToldDead_0 (K := fun _ _ _ _ _ _ => False) C (fun h hh => by cases hh), h1, h2, h3⟩
theorem t_X7_isToldDead (l : Launch) : q_Ct l yX7_isToldDead cX7_isToldDead 1 (some .boolean) rm_X7_isToldDead s_X7_isToldDead := u_X7_isToldDead l (by
  intro av σ post h
  unfold s_X7_isToldDead at h
  split at h
  · split at h
    · next e =>
      refine ⟨?_, by simp, by simp [Value.category]⟩
      simp only [c_push, c_null, c_iload, c_aload, c_istore, c_astore, c_iinc, c_iadd, c_isub, c_imul, c_iand, c_ineg, c_dup, c_dup2, c_pop, c_ifnull, c_ifnonnull, c_get, c_put, c_iald, c_zald, c_iast, c_zast, c_aald, c_aast, c_alen, c_new, c_newa, c_newq, c_mna, c_oinit, c_max, c_copy, c_iret, c_zret, c_aret, c_vret, q_do, q_rc, c_ifeq, c_ifne, c_iflt, c_ifge, c_ifgt, c_ifle, c_iceq, c_icne, c_iclt, c_icge, c_icgt, c_icle, c_call0, c_call1, c_call2, c_call3, c_call4, c_call5, c_call6, c_call7, q_L0, List.map_cons, List.map_nil, List.replicate, List.cons_append, List.nil_append, List.append_nil, List.length_cons, List.length_nil, List.length_set, Nat.reduceSub, Nat.reduceAdd, Nat.reduceLT, Nat.reduceLeDiff, Nat.zero_add, Nat.add_zero, Nat.sub_zero, Nat.sub_self, List.getElem?_cons_zero, List.getElem?_cons_succ, List.set_cons_zero, List.set_cons_succ, Option.toList_some, Option.toList_none, List.sum_cons, List.sum_nil, true_and, and_true, true_or, or_true, Nat.le_refl, Nat.zero_le, Value.category, Fin.isValue, Fin.val_zero, Fin.val_one, Fin.val_two, Fin.reduceFinMk, q_10, q_01, not_false_eq_true, not_true_eq_false, forall_const, true_implies, false_implies, implies_true, q_ni, q_fi, q_nb0, q_nb1, q_fb0, q_fb1, q_nor, q_nar, q_for, q_far, q_non, q_nan, q_fon, q_fan, imp_false, false_and, and_false, and_self, false_or, or_false, va_rf, refKind, k_X7_isToldDead_0, k_X7_isToldDead_13, q_fld, q_fset, q_oc, e, q_up_s, q_up_up, if_true]
      grind
    · exact h.elim
  · exact h.elim)
def s_X7_isDeathKnownAt : q_Sp := fun av σ post => match av with
  | [.ref a, .int k] => (match σ a with
    | some (.inr (7, [_, .int d, .int lr])) => (¬ d = -1 ∧ lr ≤ k → post (some (.int 1)) σ) ∧ (¬ (¬ d = -1 ∧ lr ≤ k) → post (some (.int 0)) σ)
    | _ => False)
  | _ => False
theorem w9_120 : (.code yX7_isToldDead cX7_isToldDead 1 (some .boolean) : Cond) ∈ lw_tbl := by decide +kernel
theorem w9_121 : (.initialized RX7 : Cond) ∈ lw_tbl := by decide +kernel
theorem w9_122 : (.methodLink RX7 21 yX7_isToldDead : Cond) ∈ lw_tbl := by decide +kernel
theorem w9_123 : (.instanceMethod yX7_isToldDead : Cond) ∈ lw_tbl := by decide +kernel
theorem w9_124 : (.selects RX7 yX7_isToldDead yX7_isToldDead : Cond) ∈ lw_tbl := by decide +kernel
def rm_X7_isDeathKnownAt : Room := { frames := 1, cells := 0, slots := 0, locals := 20 }
def k_X7_isDeathKnownAt_20 (post : Option Value → q_S → Prop) (K : Nat → q_K) : q_K := (c_zret post)
def k_X7_isDeathKnownAt_19 (post : Option Value → q_S → Prop) (K : Nat → q_K) : q_K := (c_push 0 (k_X7_isDeathKnownAt_20 post K))
def k_X7_isDeathKnownAt_0 (post : Option Value → q_S → Prop) (K : Nat → q_K) : q_K := (c_aload 0 (c_call1 (some 7) s_X7_isToldDead 0 0 (c_ifeq (k_X7_isDeathKnownAt_19 post K) (c_aload 0 (c_get 7 2 (c_iload 1 (c_icgt (k_X7_isDeathKnownAt_19 post K) (c_push 1 (k_X7_isDeathKnownAt_20 post K)))))))))
set_option maxRecDepth 100000 in
theorem v_X7_isDeathKnownAt_20 {p : Program} {l : Launch} {e : Env} {s : State} {m : MethodId} {args : Array Value} {below : List Frame} {meth : Method} {c : Code} {D : va_G} {A : Nat → Prop} {post : Option Value → q_S → Prop} {K : Nat → q_K} (C : q_C p s m args meth c cX7_isDeathKnownAt 2 RX7 "isDeathKnownAt" (some .boolean) A) (hK : ∀ h ∈ ([] : List Nat), q_V p l e rm_X7_isDeathKnownAt s m args below meth c D A 2 (MQ below (q_Qc D A post) args s rm_X7_isDeathKnownAt.cells rm_X7_isDeathKnownAt.slots A) h (K h)) : q_V p l e rm_X7_isDeathKnownAt s m args below meth c D A 2 (MQ below (q_Qc D A post) args s rm_X7_isDeathKnownAt.cells rm_X7_isDeathKnownAt.slots A) 20 (k_X7_isDeathKnownAt_20 post K) := by
  unfold k_X7_isDeathKnownAt_20
  exact q_zret C rfl (by decide +kernel : decode cX7_isDeathKnownAt 20 = .ok (.ireturn, 1))
set_option maxRecDepth 100000 in
theorem v_X7_isDeathKnownAt_19 {p : Program} {l : Launch} {e : Env} {s : State} {m : MethodId} {args : Array Value} {below : List Frame} {meth : Method} {c : Code} {D : va_G} {A : Nat → Prop} {post : Option Value → q_S → Prop} {K : Nat → q_K} (C : q_C p s m args meth c cX7_isDeathKnownAt 2 RX7 "isDeathKnownAt" (some .boolean) A) (hK : ∀ h ∈ ([] : List Nat), q_V p l e rm_X7_isDeathKnownAt s m args below meth c D A 2 (MQ below (q_Qc D A post) args s rm_X7_isDeathKnownAt.cells rm_X7_isDeathKnownAt.slots A) h (K h)) : q_V p l e rm_X7_isDeathKnownAt s m args below meth c D A 2 (MQ below (q_Qc D A post) args s rm_X7_isDeathKnownAt.cells rm_X7_isDeathKnownAt.slots A) 19 (k_X7_isDeathKnownAt_19 post K) := by
  unfold k_X7_isDeathKnownAt_19
  refine q_iconst C (by decide +kernel : decode cX7_isDeathKnownAt 19 = .ok (.iconst 0, 1)) (by decide) ?_
  exact v_X7_isDeathKnownAt_20 C hK
set_option maxRecDepth 100000 in
theorem v_X7_isDeathKnownAt_0 {p : Program} {l : Launch} {e : Env} {s : State} {m : MethodId} {args : Array Value} {below : List Frame} {meth : Method} {c : Code} {D : va_G} {A : Nat → Prop} {post : Option Value → q_S → Prop} {K : Nat → q_K} (C : q_C p s m args meth c cX7_isDeathKnownAt 2 RX7 "isDeathKnownAt" (some .boolean) A) (hK : ∀ h ∈ ([] : List Nat), q_V p l e rm_X7_isDeathKnownAt s m args below meth c D A 2 (MQ below (q_Qc D A post) args s rm_X7_isDeathKnownAt.cells rm_X7_isDeathKnownAt.slots A) h (K h)) : q_V p l e rm_X7_isDeathKnownAt s m args below meth c D A 2 (MQ below (q_Qc D A post) args s rm_X7_isDeathKnownAt.cells rm_X7_isDeathKnownAt.slots A) 0 (k_X7_isDeathKnownAt_0 post K) := by
  unfold k_X7_isDeathKnownAt_0
  refine q_aload_n C (by decide +kernel : decode cX7_isDeathKnownAt 0 = .ok (.aload_n 0, 1)) ?_
  refine q_call1 C (q_coV C (np := 0) (ci := 7) (rc := (RX7, TX7, 3)) (t_X7_isToldDead l) w9_120 rfl rfl w9_122 w9_123 w9_124 w9_121 (by decide +kernel) (by decide +kernel : decode cX7_isDeathKnownAt 1 = .ok (.invokevirtual 21, 3)) (by decide)) ?_
  refine q_ifeq C (tgt := 19) (by decide +kernel : decode cX7_isDeathKnownAt 4 = .ok (.ifCond .eq 15, 3)) (by decide) ?_ ?_
  · exact v_X7_isDeathKnownAt_19 C hK
  · refine q_aload_n C (by decide +kernel : decode cX7_isDeathKnownAt 7 = .ok (.aload_n 0, 1)) ?_
    refine q_get C (ci := 7) (j := 2) (C0 := RX7) (T := TX7) (N := 3) rfl iX7 giX7 (by decide) w9_119 (by decide +kernel : decode cX7_isDeathKnownAt 8 = .ok (.getfield 18, 3)) ?_
    refine q_iload_n C (by decide +kernel : decode cX7_isDeathKnownAt 11 = .ok (.iload_n 1, 1)) ?_
    refine q_icgt C (tgt := 19) (by decide +kernel : decode cX7_isDeathKnownAt 12 = .ok (.if_icmp .gt 7, 3)) (by decide) ?_ ?_
    · exact v_X7_isDeathKnownAt_19 C hK
    · refine q_iconst C (by decide +kernel : decode cX7_isDeathKnownAt 15 = .ok (.iconst 1, 1)) (by decide) ?_
      refine q_goto C (tgt := 20) (by decide +kernel : decode cX7_isDeathKnownAt 16 = .ok (.goto 4, 3)) (by decide) ?_
      exact v_X7_isDeathKnownAt_20 C hK
theorem u_X7_isDeathKnownAt (l : Launch) {sp : q_Sp} (H : ∀ (av : List Value) (σ : q_S) (post : Option Value → q_S → Prop), sp av σ post → k_X7_isDeathKnownAt_0 post (fun _ _ _ _ _ _ => False) (q_L0 av 2) [] σ 0 0 ∧ av.length ≤ 2 ∧ ∀ v ∈ av, v.category = 1) : q_Ct l yX7_isDeathKnownAt cX7_isDeathKnownAt 2 (some .boolean) rm_X7_isDeathKnownAt sp := by
  refine q_met (by decide) ?_
  intro D A p e s m args below meth c σ av post C hsp
  obtain ⟨h1, h2, h3⟩ := H av σ post hsp
  exact ⟨_, v_X7_isDeathKnownAt_0 (K := fun _ _ _ _ _ _ => False) C (fun h hh => by cases hh), h1, h2, h3⟩
theorem t_X7_isDeathKnownAt (l : Launch) : q_Ct l yX7_isDeathKnownAt cX7_isDeathKnownAt 2 (some .boolean) rm_X7_isDeathKnownAt s_X7_isDeathKnownAt := u_X7_isDeathKnownAt l (by
  intro av σ post h
  unfold s_X7_isDeathKnownAt at h
  split at h
  · split at h
    · next e =>
      refine ⟨?_, by simp, by simp [Value.category]⟩
      simp only [c_push, c_null, c_iload, c_aload, c_istore, c_astore, c_iinc, c_iadd, c_isub, c_imul, c_iand, c_ineg, c_dup, c_dup2, c_pop, c_ifnull, c_ifnonnull, c_get, c_put, c_iald, c_zald, c_iast, c_zast, c_aald, c_aast, c_alen, c_new, c_newa, c_newq, c_mna, c_oinit, c_max, c_copy, c_iret, c_zret, c_aret, c_vret, q_do, q_rc, c_ifeq, c_ifne, c_iflt, c_ifge, c_ifgt, c_ifle, c_iceq, c_icne, c_iclt, c_icge, c_icgt, c_icle, c_call0, c_call1, c_call2, c_call3, c_call4, c_call5, c_call6, c_call7, q_L0, List.map_cons, List.map_nil, List.replicate, List.cons_append, List.nil_append, List.append_nil, List.length_cons, List.length_nil, List.length_set, Nat.reduceSub, Nat.reduceAdd, Nat.reduceLT, Nat.reduceLeDiff, Nat.zero_add, Nat.add_zero, Nat.sub_zero, Nat.sub_self, List.getElem?_cons_zero, List.getElem?_cons_succ, List.set_cons_zero, List.set_cons_succ, Option.toList_some, Option.toList_none, List.sum_cons, List.sum_nil, true_and, and_true, true_or, or_true, Nat.le_refl, Nat.zero_le, Value.category, Fin.isValue, Fin.val_zero, Fin.val_one, Fin.val_two, Fin.reduceFinMk, q_10, q_01, not_false_eq_true, not_true_eq_false, forall_const, true_implies, false_implies, implies_true, q_ni, q_fi, q_nb0, q_nb1, q_fb0, q_fb1, q_nor, q_nar, q_for, q_far, q_non, q_nan, q_fon, q_fan, imp_false, false_and, and_false, and_self, false_or, or_false, va_rf, refKind, k_X7_isDeathKnownAt_0, k_X7_isDeathKnownAt_19, k_X7_isDeathKnownAt_20, q_fld, q_fset, q_oc, e, q_up_s, q_up_up, if_true, s_X7_isToldDead]
      grind
    · exact h.elim
  · exact h.elim)
-- Act
def s_X0_init : q_Sp := fun av σ post => match av with
  | [.ref a, .int d, .int f, .int l, .int w, .int c] => σ a = some (.inr (0, [.int 0, .int 0, .int 0, .int 0, .int 0])) ∧ post none (q_up σ a (.inr (0, [.int d, .int f, .int l, .int w, .int c])))
  | _ => False
theorem w9_125 : (.methodLink RX0 3 objectInit : Cond) ∈ lw_tbl := by decide +kernel
theorem w9_126 : (.fieldLink RX0 9 (TX0 0).1 (TX0 0).2.1 (TX0 0).2.2.1 : Cond) ∈ lw_tbl := by decide +kernel
theorem w9_127 : (.fieldLink RX0 15 (TX0 1).1 (TX0 1).2.1 (TX0 1).2.2.1 : Cond) ∈ lw_tbl := by decide +kernel
theorem w9_128 : (.fieldLink RX0 18 (TX0 2).1 (TX0 2).2.1 (TX0 2).2.2.1 : Cond) ∈ lw_tbl := by decide +kernel
theorem w9_129 : (.fieldLink RX0 21 (TX0 3).1 (TX0 3).2.1 (TX0 3).2.2.1 : Cond) ∈ lw_tbl := by decide +kernel
theorem w9_130 : (.fieldLink RX0 24 (TX0 4).1 (TX0 4).2.1 (TX0 4).2.2.1 : Cond) ∈ lw_tbl := by decide +kernel
def rm_X0_init : Room := { frames := 1, cells := 0, slots := 0, locals := 20 }
def k_X0_init_0 (post : Option Value → q_S → Prop) (K : Nat → q_K) : q_K := (c_aload 0 (c_oinit (c_aload 0 (c_iload 1 (c_put 0 0 (.int) (c_aload 0 (c_iload 2 (c_put 0 1 (.int) (c_aload 0 (c_iload 3 (c_put 0 2 (.int) (c_aload 0 (c_iload 4 (c_put 0 3 (.int) (c_aload 0 (c_iload 5 (c_put 0 4 (.int) (c_vret post))))))))))))))))))
set_option maxRecDepth 100000 in
theorem v_X0_init_0 {p : Program} {l : Launch} {e : Env} {s : State} {m : MethodId} {args : Array Value} {below : List Frame} {meth : Method} {c : Code} {D : va_G} {A : Nat → Prop} {post : Option Value → q_S → Prop} {K : Nat → q_K} (C : q_C p s m args meth c cX0_init 6 RX0 "<init>" none A) (hK : ∀ h ∈ ([] : List Nat), q_V p l e rm_X0_init s m args below meth c D A 6 (MQ below (q_Qc D A post) args s rm_X0_init.cells rm_X0_init.slots A) h (K h)) : q_V p l e rm_X0_init s m args below meth c D A 6 (MQ below (q_Qc D A post) args s rm_X0_init.cells rm_X0_init.slots A) 0 (k_X0_init_0 post K) := by
  unfold k_X0_init_0
  refine q_aload_n C (by decide +kernel : decode cX0_init 0 = .ok (.aload_n 0, 1)) ?_
  refine q_oinit C w9_125 w9_112 w9_113 (by decide) (by decide +kernel : decode cX0_init 1 = .ok (.invokespecial 3, 3)) ?_
  refine q_aload_n C (by decide +kernel : decode cX0_init 4 = .ok (.aload_n 0, 1)) ?_
  refine q_iload_n C (by decide +kernel : decode cX0_init 5 = .ok (.iload_n 1, 1)) ?_
  refine q_putF C (ci := 0) (j := 0) (C0 := RX0) (T := TX0) (N := 5) (ty := .int) rfl iX0 giX0 (by decide) tyX0 tyX0_ok nmX0 (by decide +kernel) rfl rfl rfl w9_126 (by decide +kernel : decode cX0_init 6 = .ok (.putfield 9, 3)) ?_
  refine q_aload_n C (by decide +kernel : decode cX0_init 9 = .ok (.aload_n 0, 1)) ?_
  refine q_iload_n C (by decide +kernel : decode cX0_init 10 = .ok (.iload_n 2, 1)) ?_
  refine q_putF C (ci := 0) (j := 1) (C0 := RX0) (T := TX0) (N := 5) (ty := .int) rfl iX0 giX0 (by decide) tyX0 tyX0_ok nmX0 (by decide +kernel) rfl rfl rfl w9_127 (by decide +kernel : decode cX0_init 11 = .ok (.putfield 15, 3)) ?_
  refine q_aload_n C (by decide +kernel : decode cX0_init 14 = .ok (.aload_n 0, 1)) ?_
  refine q_iload_n C (by decide +kernel : decode cX0_init 15 = .ok (.iload_n 3, 1)) ?_
  refine q_putF C (ci := 0) (j := 2) (C0 := RX0) (T := TX0) (N := 5) (ty := .int) rfl iX0 giX0 (by decide) tyX0 tyX0_ok nmX0 (by decide +kernel) rfl rfl rfl w9_128 (by decide +kernel : decode cX0_init 16 = .ok (.putfield 18, 3)) ?_
  refine q_aload_n C (by decide +kernel : decode cX0_init 19 = .ok (.aload_n 0, 1)) ?_
  refine q_iload C (by decide +kernel : decode cX0_init 20 = .ok (.iload 4, 2)) ?_
  refine q_putF C (ci := 0) (j := 3) (C0 := RX0) (T := TX0) (N := 5) (ty := .int) rfl iX0 giX0 (by decide) tyX0 tyX0_ok nmX0 (by decide +kernel) rfl rfl rfl w9_129 (by decide +kernel : decode cX0_init 22 = .ok (.putfield 21, 3)) ?_
  refine q_aload_n C (by decide +kernel : decode cX0_init 25 = .ok (.aload_n 0, 1)) ?_
  refine q_iload C (by decide +kernel : decode cX0_init 26 = .ok (.iload 5, 2)) ?_
  refine q_putF C (ci := 0) (j := 4) (C0 := RX0) (T := TX0) (N := 5) (ty := .int) rfl iX0 giX0 (by decide) tyX0 tyX0_ok nmX0 (by decide +kernel) rfl rfl rfl w9_130 (by decide +kernel : decode cX0_init 28 = .ok (.putfield 24, 3)) ?_
  exact q_vret C rfl (by decide +kernel : decode cX0_init 31 = .ok (.return_, 1))
theorem u_X0_init (l : Launch) {sp : q_Sp} (H : ∀ (av : List Value) (σ : q_S) (post : Option Value → q_S → Prop), sp av σ post → k_X0_init_0 post (fun _ _ _ _ _ _ => False) (q_L0 av 6) [] σ 0 0 ∧ av.length ≤ 6 ∧ ∀ v ∈ av, v.category = 1) : q_Ct l yX0_init cX0_init 6 none rm_X0_init sp := by
  refine q_met (by decide) ?_
  intro D A p e s m args below meth c σ av post C hsp
  obtain ⟨h1, h2, h3⟩ := H av σ post hsp
  exact ⟨_, v_X0_init_0 (K := fun _ _ _ _ _ _ => False) C (fun h hh => by cases hh), h1, h2, h3⟩
theorem t_X0_init (l : Launch) : q_Ct l yX0_init cX0_init 6 none rm_X0_init s_X0_init := u_X0_init l (by
  intro av σ post h
  unfold s_X0_init at h
  split at h
  · next a =>
    refine ⟨?_, by simp, by simp [Value.category]⟩
    simp only [c_push, c_null, c_iload, c_aload, c_istore, c_astore, c_iinc, c_iadd, c_isub, c_imul, c_iand, c_ineg, c_dup, c_dup2, c_pop, c_ifnull, c_ifnonnull, c_get, c_put, c_iald, c_zald, c_iast, c_zast, c_aald, c_aast, c_alen, c_new, c_newa, c_newq, c_mna, c_oinit, c_max, c_copy, c_iret, c_zret, c_aret, c_vret, q_do, q_rc, c_ifeq, c_ifne, c_iflt, c_ifge, c_ifgt, c_ifle, c_iceq, c_icne, c_iclt, c_icge, c_icgt, c_icle, c_call0, c_call1, c_call2, c_call3, c_call4, c_call5, c_call6, c_call7, q_L0, List.map_cons, List.map_nil, List.replicate, List.cons_append, List.nil_append, List.append_nil, List.length_cons, List.length_nil, List.length_set, Nat.reduceSub, Nat.reduceAdd, Nat.reduceLT, Nat.reduceLeDiff, Nat.zero_add, Nat.add_zero, Nat.sub_zero, Nat.sub_self, List.getElem?_cons_zero, List.getElem?_cons_succ, List.set_cons_zero, List.set_cons_succ, Option.toList_some, Option.toList_none, List.sum_cons, List.sum_nil, true_and, and_true, true_or, or_true, Nat.le_refl, Nat.zero_le, Value.category, Fin.isValue, Fin.val_zero, Fin.val_one, Fin.val_two, Fin.reduceFinMk, q_10, q_01, not_false_eq_true, not_true_eq_false, forall_const, true_implies, false_implies, implies_true, q_ni, q_fi, q_nb0, q_nb1, q_fb0, q_fb1, q_nor, q_nar, q_for, q_far, q_non, q_nan, q_fon, q_fan, imp_false, false_and, and_false, and_self, false_or, or_false, va_rf, refKind, k_X0_init_0, q_fld, q_fset, q_oc, h.1, q_up_s, q_up_up, if_true]
    exact h.2
  · exact h.elim)
def cEnd (d f l ent dd lr k : Int32) : Int32 := if l = -1 then ent + f else if ¬ (¬ dd = -1 ∧ lr ≤ k) then 2147483647 else if ent + f < dd + l then dd + l else ent + f
def s_X0_endFor : q_Sp := fun av σ post => match av with
  | [.ref a, .ref w, .int k] => (match σ a with
    | some (.inr (0, [.int d, .int f, .int l, _, _])) => (match σ w with
      | some (.inr (9, [.ref p, .int ent, _, _, _])) => (match σ p with
        | some (.inr (7, [_, .int dd, .int lr])) => post (some (.int (cEnd d f l ent dd lr k))) σ
        | _ => False)
      | _ => False)
    | _ => False)
  | _ => False
theorem w9_131 : (.code yX7_isDeathKnownAt cX7_isDeathKnownAt 2 (some .boolean) : Cond) ∈ lw_tbl := by decide +kernel
theorem w9_132 : (.methodLink RX0 36 yX7_isDeathKnownAt : Cond) ∈ lw_tbl := by decide +kernel
theorem w9_133 : (.instanceMethod yX7_isDeathKnownAt : Cond) ∈ lw_tbl := by decide +kernel
theorem w9_134 : (.selects RX7 yX7_isDeathKnownAt yX7_isDeathKnownAt : Cond) ∈ lw_tbl := by decide +kernel
theorem w9_135 : (.methodLink RX0 46 Lib.Math.max.name : Cond) ∈ lw_tbl := by decide +kernel
theorem w9_136 : (.static Lib.Math.max.name : Cond) ∈ lw_tbl := by decide +kernel
theorem w9_137 : (.initialized "java/lang/Math" : Cond) ∈ lw_tbl := by decide +kernel
theorem w9_138 : (.code Lib.Math.max.name Lib.Math.max.code 2 (some .int) : Cond) ∈ lw_tbl := by decide +kernel
theorem w9_139 : (.constant RX0 42 2147483647 : Cond) ∈ lw_tbl := by decide +kernel
def rm_X0_endFor : Room := { frames := 2, cells := 0, slots := 0, locals := 41 }
def k_X0_endFor_0 (post : Option Value → q_S → Prop) (K : Nat → q_K) : q_K := (c_aload 1 (c_get 9 1 (c_aload 0 (c_get 0 1 (c_iadd (c_istore 3 (c_aload 0 (c_get 0 2 (c_push (-1) (c_icne (c_aload 1 (c_get 9 0 (c_iload 2 (c_call2 (some 7) s_X7_isDeathKnownAt 0 0 (c_ifne (c_iload 3 (c_aload 1 (c_get 9 0 (c_get 7 1 (c_aload 0 (c_get 0 2 (c_iadd (c_max (c_iret post))))))))) (c_push 2147483647 (c_iret post))))))) (c_iload 3 (c_iret post))))))))))))
set_option maxRecDepth 100000 in
theorem v_X0_endFor_0 {p : Program} {l : Launch} {e : Env} {s : State} {m : MethodId} {args : Array Value} {below : List Frame} {meth : Method} {c : Code} {D : va_G} {A : Nat → Prop} {post : Option Value → q_S → Prop} {K : Nat → q_K} (C : q_C p s m args meth c cX0_endFor 4 RX0 "endFor" (some .int) A) (hK : ∀ h ∈ ([] : List Nat), q_V p l e rm_X0_endFor s m args below meth c D A 4 (MQ below (q_Qc D A post) args s rm_X0_endFor.cells rm_X0_endFor.slots A) h (K h)) : q_V p l e rm_X0_endFor s m args below meth c D A 4 (MQ below (q_Qc D A post) args s rm_X0_endFor.cells rm_X0_endFor.slots A) 0 (k_X0_endFor_0 post K) := by
  unfold k_X0_endFor_0
  refine q_aload_n C (by decide +kernel : decode cX0_endFor 0 = .ok (.aload_n 1, 1)) ?_
  refine q_getN C (ci := 9) (j := 1) (C0 := RX9) (T := TX9) (N := 5) rfl iX9 giX9 (by decide) (by decide +kernel) (by decide +kernel : decode cX0_endFor 1 = .ok (.getfield 27, 3)) ?_
  refine q_aload_n C (by decide +kernel : decode cX0_endFor 4 = .ok (.aload_n 0, 1)) ?_
  refine q_get C (ci := 0) (j := 1) (C0 := RX0) (T := TX0) (N := 5) rfl iX0 giX0 (by decide) w9_127 (by decide +kernel : decode cX0_endFor 5 = .ok (.getfield 15, 3)) ?_
  refine q_iadd C (by decide +kernel : decode cX0_endFor 8 = .ok (.iadd, 1)) ?_
  refine q_istore_n C (by decide +kernel : decode cX0_endFor 9 = .ok (.istore_n 3, 1)) ?_
  refine q_aload_n C (by decide +kernel : decode cX0_endFor 10 = .ok (.aload_n 0, 1)) ?_
  refine q_get C (ci := 0) (j := 2) (C0 := RX0) (T := TX0) (N := 5) rfl iX0 giX0 (by decide) w9_128 (by decide +kernel : decode cX0_endFor 11 = .ok (.getfield 18, 3)) ?_
  refine q_iconst C (by decide +kernel : decode cX0_endFor 14 = .ok (.iconst (-1), 1)) (by decide) ?_
  refine q_icne C (tgt := 20) (by decide +kernel : decode cX0_endFor 15 = .ok (.if_icmp .ne 5, 3)) (by decide) ?_ ?_
  · refine q_aload_n C (by decide +kernel : decode cX0_endFor 20 = .ok (.aload_n 1, 1)) ?_
    refine q_getN C (ci := 9) (j := 0) (C0 := RX9) (T := TX9) (N := 5) rfl iX9 giX9 (by decide) (by decide +kernel) (by decide +kernel : decode cX0_endFor 21 = .ok (.getfield 32, 3)) ?_
    refine q_iload_n C (by decide +kernel : decode cX0_endFor 24 = .ok (.iload_n 2, 1)) ?_
    refine q_call2 C (q_coV C (np := 1) (ci := 7) (rc := (RX7, TX7, 3)) (t_X7_isDeathKnownAt l) w9_131 rfl rfl w9_132 w9_133 w9_134 w9_121 (by decide +kernel) (by decide +kernel : decode cX0_endFor 25 = .ok (.invokevirtual 36, 3)) (by decide)) ?_
    refine q_ifne C (tgt := 34) (by decide +kernel : decode cX0_endFor 28 = .ok (.ifCond .ne 6, 3)) (by decide) ?_ ?_
    · refine q_iload_n C (by decide +kernel : decode cX0_endFor 34 = .ok (.iload_n 3, 1)) ?_
      refine q_aload_n C (by decide +kernel : decode cX0_endFor 35 = .ok (.aload_n 1, 1)) ?_
      refine q_getN C (ci := 9) (j := 0) (C0 := RX9) (T := TX9) (N := 5) rfl iX9 giX9 (by decide) (by decide +kernel) (by decide +kernel : decode cX0_endFor 36 = .ok (.getfield 32, 3)) ?_
      refine q_getN C (ci := 7) (j := 1) (C0 := RX7) (T := TX7) (N := 3) rfl iX7 giX7 (by decide) (by decide +kernel) (by decide +kernel : decode cX0_endFor 39 = .ok (.getfield 43, 3)) ?_
      refine q_aload_n C (by decide +kernel : decode cX0_endFor 42 = .ok (.aload_n 0, 1)) ?_
      refine q_get C (ci := 0) (j := 2) (C0 := RX0) (T := TX0) (N := 5) rfl iX0 giX0 (by decide) w9_128 (by decide +kernel : decode cX0_endFor 43 = .ok (.getfield 18, 3)) ?_
      refine q_iadd C (by decide +kernel : decode cX0_endFor 46 = .ok (.iadd, 1)) ?_
      refine q_max C w9_135 w9_136 w9_137 w9_138 (by decide) (by decide +kernel : decode cX0_endFor 47 = .ok (.invokestatic 46, 3)) ?_
      exact q_iret C rfl (by decide +kernel : decode cX0_endFor 50 = .ok (.ireturn, 1))
    · refine q_ldc C (by decide +kernel : decode cX0_endFor 31 = .ok (.ldc 42, 2)) w9_139 ?_
      exact q_iret C rfl (by decide +kernel : decode cX0_endFor 33 = .ok (.ireturn, 1))
  · refine q_iload_n C (by decide +kernel : decode cX0_endFor 18 = .ok (.iload_n 3, 1)) ?_
    exact q_iret C rfl (by decide +kernel : decode cX0_endFor 19 = .ok (.ireturn, 1))
theorem u_X0_endFor (l : Launch) {sp : q_Sp} (H : ∀ (av : List Value) (σ : q_S) (post : Option Value → q_S → Prop), sp av σ post → k_X0_endFor_0 post (fun _ _ _ _ _ _ => False) (q_L0 av 4) [] σ 0 0 ∧ av.length ≤ 4 ∧ ∀ v ∈ av, v.category = 1) : q_Ct l yX0_endFor cX0_endFor 4 (some .int) rm_X0_endFor sp := by
  refine q_met (by decide) ?_
  intro D A p e s m args below meth c σ av post C hsp
  obtain ⟨h1, h2, h3⟩ := H av σ post hsp
  exact ⟨_, v_X0_endFor_0 (K := fun _ _ _ _ _ _ => False) C (fun h hh => by cases hh), h1, h2, h3⟩
theorem t_X0_endFor (l : Launch) : q_Ct l yX0_endFor cX0_endFor 4 (some .int) rm_X0_endFor s_X0_endFor := u_X0_endFor l (by
  intro av σ post h
  unfold s_X0_endFor at h
  split at h
  · split at h
    · next e =>
      split at h
      · next e2 =>
        split at h
        · next e3 =>
          refine ⟨?_, by simp, by simp [Value.category]⟩
          simp only [c_push, c_null, c_iload, c_aload, c_istore, c_astore, c_iinc, c_iadd, c_isub, c_imul, c_iand, c_ineg, c_dup, c_dup2, c_pop, c_ifnull, c_ifnonnull, c_get, c_put, c_iald, c_zald, c_iast, c_zast, c_aald, c_aast, c_alen, c_new, c_newa, c_newq, c_mna, c_oinit, c_max, c_copy, c_iret, c_zret, c_aret, c_vret, q_do, q_rc, c_ifeq, c_ifne, c_iflt, c_ifge, c_ifgt, c_ifle, c_iceq, c_icne, c_iclt, c_icge, c_icgt, c_icle, c_call0, c_call1, c_call2, c_call3, c_call4, c_call5, c_call6, c_call7, q_L0, List.map_cons, List.map_nil, List.replicate, List.cons_append, List.nil_append, List.append_nil, List.length_cons, List.length_nil, List.length_set, Nat.reduceSub, Nat.reduceAdd, Nat.reduceLT, Nat.reduceLeDiff, Nat.zero_add, Nat.add_zero, Nat.sub_zero, Nat.sub_self, List.getElem?_cons_zero, List.getElem?_cons_succ, List.set_cons_zero, List.set_cons_succ, Option.toList_some, Option.toList_none, List.sum_cons, List.sum_nil, true_and, and_true, true_or, or_true, Nat.le_refl, Nat.zero_le, Value.category, Fin.isValue, Fin.val_zero, Fin.val_one, Fin.val_two, Fin.reduceFinMk, q_10, q_01, not_false_eq_true, not_true_eq_false, forall_const, true_implies, false_implies, implies_true, q_ni, q_fi, q_nb0, q_nb1, q_fb0, q_fb1, q_nor, q_nar, q_for, q_far, q_non, q_nan, q_fon, q_fan, imp_false, false_and, and_false, and_self, false_or, or_false, va_rf, refKind, k_X0_endFor_0, q_fld, q_fset, q_oc, e, e2, e3, if_true, s_X7_isDeathKnownAt]
          unfold cEnd at h
          grind
        · exact h.elim
      · exact h.elim
    · exact h.elim
  · exact h.elim)
def s_X0_comesLaterTo : q_Sp := fun av σ post => match av with
  | [.ref a, .ref w, .int k] => (match σ a with
    | some (.inr (0, [.int d, _, _, _, _])) => (match σ w with
      | some (.inr (9, [_, .int ent, _, _, _])) => (ent < d ∧ d ≤ k → post (some (.int 1)) σ) ∧ (¬ (ent < d ∧ d ≤ k) → post (some (.int 0)) σ)
      | _ => False)
    | _ => False)
  | _ => False
def rm_X0_comesLaterTo : Room := { frames := 0, cells := 0, slots := 0, locals := 0 }
def k_X0_comesLaterTo_24 (post : Option Value → q_S → Prop) (K : Nat → q_K) : q_K := (c_zret post)
def k_X0_comesLaterTo_23 (post : Option Value → q_S → Prop) (K : Nat → q_K) : q_K := (c_push 0 (k_X0_comesLaterTo_24 post K))
def k_X0_comesLaterTo_0 (post : Option Value → q_S → Prop) (K : Nat → q_K) : q_K := (c_aload 0 (c_get 0 0 (c_aload 1 (c_get 9 1 (c_icle (k_X0_comesLaterTo_23 post K) (c_aload 0 (c_get 0 0 (c_iload 2 (c_icgt (k_X0_comesLaterTo_23 post K) (c_push 1 (k_X0_comesLaterTo_24 post K)))))))))))
set_option maxRecDepth 100000 in
theorem v_X0_comesLaterTo_24 {p : Program} {l : Launch} {e : Env} {s : State} {m : MethodId} {args : Array Value} {below : List Frame} {meth : Method} {c : Code} {D : va_G} {A : Nat → Prop} {post : Option Value → q_S → Prop} {K : Nat → q_K} (C : q_C p s m args meth c cX0_comesLaterTo 3 RX0 "comesLaterTo" (some .boolean) A) (hK : ∀ h ∈ ([] : List Nat), q_V p l e rm_X0_comesLaterTo s m args below meth c D A 3 (MQ below (q_Qc D A post) args s rm_X0_comesLaterTo.cells rm_X0_comesLaterTo.slots A) h (K h)) : q_V p l e rm_X0_comesLaterTo s m args below meth c D A 3 (MQ below (q_Qc D A post) args s rm_X0_comesLaterTo.cells rm_X0_comesLaterTo.slots A) 24 (k_X0_comesLaterTo_24 post K) := by
  unfold k_X0_comesLaterTo_24
  exact q_zret C rfl (by decide +kernel : decode cX0_comesLaterTo 24 = .ok (.ireturn, 1))
set_option maxRecDepth 100000 in
theorem v_X0_comesLaterTo_23 {p : Program} {l : Launch} {e : Env} {s : State} {m : MethodId} {args : Array Value} {below : List Frame} {meth : Method} {c : Code} {D : va_G} {A : Nat → Prop} {post : Option Value → q_S → Prop} {K : Nat → q_K} (C : q_C p s m args meth c cX0_comesLaterTo 3 RX0 "comesLaterTo" (some .boolean) A) (hK : ∀ h ∈ ([] : List Nat), q_V p l e rm_X0_comesLaterTo s m args below meth c D A 3 (MQ below (q_Qc D A post) args s rm_X0_comesLaterTo.cells rm_X0_comesLaterTo.slots A) h (K h)) : q_V p l e rm_X0_comesLaterTo s m args below meth c D A 3 (MQ below (q_Qc D A post) args s rm_X0_comesLaterTo.cells rm_X0_comesLaterTo.slots A) 23 (k_X0_comesLaterTo_23 post K) := by
  unfold k_X0_comesLaterTo_23
  refine q_iconst C (by decide +kernel : decode cX0_comesLaterTo 23 = .ok (.iconst 0, 1)) (by decide) ?_
  exact v_X0_comesLaterTo_24 C hK
set_option maxRecDepth 100000 in
theorem v_X0_comesLaterTo_0 {p : Program} {l : Launch} {e : Env} {s : State} {m : MethodId} {args : Array Value} {below : List Frame} {meth : Method} {c : Code} {D : va_G} {A : Nat → Prop} {post : Option Value → q_S → Prop} {K : Nat → q_K} (C : q_C p s m args meth c cX0_comesLaterTo 3 RX0 "comesLaterTo" (some .boolean) A) (hK : ∀ h ∈ ([] : List Nat), q_V p l e rm_X0_comesLaterTo s m args below meth c D A 3 (MQ below (q_Qc D A post) args s rm_X0_comesLaterTo.cells rm_X0_comesLaterTo.slots A) h (K h)) : q_V p l e rm_X0_comesLaterTo s m args below meth c D A 3 (MQ below (q_Qc D A post) args s rm_X0_comesLaterTo.cells rm_X0_comesLaterTo.slots A) 0 (k_X0_comesLaterTo_0 post K) := by
  unfold k_X0_comesLaterTo_0
  refine q_aload_n C (by decide +kernel : decode cX0_comesLaterTo 0 = .ok (.aload_n 0, 1)) ?_
  refine q_get C (ci := 0) (j := 0) (C0 := RX0) (T := TX0) (N := 5) rfl iX0 giX0 (by decide) w9_126 (by decide +kernel : decode cX0_comesLaterTo 1 = .ok (.getfield 9, 3)) ?_
  refine q_aload_n C (by decide +kernel : decode cX0_comesLaterTo 4 = .ok (.aload_n 1, 1)) ?_
  refine q_getN C (ci := 9) (j := 1) (C0 := RX9) (T := TX9) (N := 5) rfl iX9 giX9 (by decide) (by decide +kernel) (by decide +kernel : decode cX0_comesLaterTo 5 = .ok (.getfield 27, 3)) ?_
  refine q_icle C (tgt := 23) (by decide +kernel : decode cX0_comesLaterTo 8 = .ok (.if_icmp .le 15, 3)) (by decide) ?_ ?_
  · exact v_X0_comesLaterTo_23 C hK
  · refine q_aload_n C (by decide +kernel : decode cX0_comesLaterTo 11 = .ok (.aload_n 0, 1)) ?_
    refine q_get C (ci := 0) (j := 0) (C0 := RX0) (T := TX0) (N := 5) rfl iX0 giX0 (by decide) w9_126 (by decide +kernel : decode cX0_comesLaterTo 12 = .ok (.getfield 9, 3)) ?_
    refine q_iload_n C (by decide +kernel : decode cX0_comesLaterTo 15 = .ok (.iload_n 2, 1)) ?_
    refine q_icgt C (tgt := 23) (by decide +kernel : decode cX0_comesLaterTo 16 = .ok (.if_icmp .gt 7, 3)) (by decide) ?_ ?_
    · exact v_X0_comesLaterTo_23 C hK
    · refine q_iconst C (by decide +kernel : decode cX0_comesLaterTo 19 = .ok (.iconst 1, 1)) (by decide) ?_
      refine q_goto C (tgt := 24) (by decide +kernel : decode cX0_comesLaterTo 20 = .ok (.goto 4, 3)) (by decide) ?_
      exact v_X0_comesLaterTo_24 C hK
theorem u_X0_comesLaterTo (l : Launch) {sp : q_Sp} (H : ∀ (av : List Value) (σ : q_S) (post : Option Value → q_S → Prop), sp av σ post → k_X0_comesLaterTo_0 post (fun _ _ _ _ _ _ => False) (q_L0 av 3) [] σ 0 0 ∧ av.length ≤ 3 ∧ ∀ v ∈ av, v.category = 1) : q_Ct l yX0_comesLaterTo cX0_comesLaterTo 3 (some .boolean) rm_X0_comesLaterTo sp := by
  refine q_met (by decide) ?_
  intro D A p e s m args below meth c σ av post C hsp
  obtain ⟨h1, h2, h3⟩ := H av σ post hsp
  exact ⟨_, v_X0_comesLaterTo_0 (K := fun _ _ _ _ _ _ => False) C (fun h hh => by cases hh), h1, h2, h3⟩
theorem t_X0_comesLaterTo (l : Launch) : q_Ct l yX0_comesLaterTo cX0_comesLaterTo 3 (some .boolean) rm_X0_comesLaterTo s_X0_comesLaterTo := u_X0_comesLaterTo l (by
  intro av σ post h
  unfold s_X0_comesLaterTo at h
  split at h
  · split at h
    · next e =>
      split at h
      · next e2 =>
        refine ⟨?_, by simp, by simp [Value.category]⟩
        simp only [c_push, c_null, c_iload, c_aload, c_istore, c_astore, c_iinc, c_iadd, c_isub, c_imul, c_iand, c_ineg, c_dup, c_dup2, c_pop, c_ifnull, c_ifnonnull, c_get, c_put, c_iald, c_zald, c_iast, c_zast, c_aald, c_aast, c_alen, c_new, c_newa, c_newq, c_mna, c_oinit, c_max, c_copy, c_iret, c_zret, c_aret, c_vret, q_do, q_rc, c_ifeq, c_ifne, c_iflt, c_ifge, c_ifgt, c_ifle, c_iceq, c_icne, c_iclt, c_icge, c_icgt, c_icle, c_call0, c_call1, c_call2, c_call3, c_call4, c_call5, c_call6, c_call7, q_L0, List.map_cons, List.map_nil, List.replicate, List.cons_append, List.nil_append, List.append_nil, List.length_cons, List.length_nil, List.length_set, Nat.reduceSub, Nat.reduceAdd, Nat.reduceLT, Nat.reduceLeDiff, Nat.zero_add, Nat.add_zero, Nat.sub_zero, Nat.sub_self, List.getElem?_cons_zero, List.getElem?_cons_succ, List.set_cons_zero, List.set_cons_succ, Option.toList_some, Option.toList_none, List.sum_cons, List.sum_nil, true_and, and_true, true_or, or_true, Nat.le_refl, Nat.zero_le, Value.category, Fin.isValue, Fin.val_zero, Fin.val_one, Fin.val_two, Fin.reduceFinMk, q_10, q_01, not_false_eq_true, not_true_eq_false, forall_const, true_implies, false_implies, implies_true, q_ni, q_fi, q_nb0, q_nb1, q_fb0, q_fb1, q_nor, q_nar, q_for, q_far, q_non, q_nan, q_fon, q_fan, imp_false, false_and, and_false, and_self, false_or, or_false, va_rf, refKind, k_X0_comesLaterTo_0, k_X0_comesLaterTo_23, k_X0_comesLaterTo_24, q_fld, q_fset, q_oc, e, e2, if_true]
        grind
      · exact h.elim
    · exact h.elim
  · exact h.elim)
def s_X0_changes : q_Sp := fun av σ post => match av with
  | [.ref a, .int x] => (match σ a with
    | some (.inr (0, [.int d, _, _, .int w, _])) => (w = 2 ∨ w = 1 ∧ d ≤ x → post (some (.int 1)) σ) ∧ (¬ (w = 2 ∨ w = 1 ∧ d ≤ x) → post (some (.int 0)) σ)
    | _ => False)
  | _ => False
def rm_X0_changes : Room := { frames := 0, cells := 0, slots := 0, locals := 0 }
def k_X0_changes_29 (post : Option Value → q_S → Prop) (K : Nat → q_K) : q_K := (c_zret post)
def k_X0_changes_24 (post : Option Value → q_S → Prop) (K : Nat → q_K) : q_K := (c_push 1 (k_X0_changes_29 post K))
def k_X0_changes_28 (post : Option Value → q_S → Prop) (K : Nat → q_K) : q_K := (c_push 0 (k_X0_changes_29 post K))
def k_X0_changes_0 (post : Option Value → q_S → Prop) (K : Nat → q_K) : q_K := (c_aload 0 (c_get 0 3 (c_push 2 (c_iceq (k_X0_changes_24 post K) (c_aload 0 (c_get 0 3 (c_push 1 (c_icne (k_X0_changes_28 post K) (c_iload 1 (c_aload 0 (c_get 0 0 (c_iclt (k_X0_changes_28 post K) (k_X0_changes_24 post K)))))))))))))
set_option maxRecDepth 100000 in
theorem v_X0_changes_29 {p : Program} {l : Launch} {e : Env} {s : State} {m : MethodId} {args : Array Value} {below : List Frame} {meth : Method} {c : Code} {D : va_G} {A : Nat → Prop} {post : Option Value → q_S → Prop} {K : Nat → q_K} (C : q_C p s m args meth c cX0_changes 2 RX0 "changes" (some .boolean) A) (hK : ∀ h ∈ ([] : List Nat), q_V p l e rm_X0_changes s m args below meth c D A 2 (MQ below (q_Qc D A post) args s rm_X0_changes.cells rm_X0_changes.slots A) h (K h)) : q_V p l e rm_X0_changes s m args below meth c D A 2 (MQ below (q_Qc D A post) args s rm_X0_changes.cells rm_X0_changes.slots A) 29 (k_X0_changes_29 post K) := by
  unfold k_X0_changes_29
  exact q_zret C rfl (by decide +kernel : decode cX0_changes 29 = .ok (.ireturn, 1))
set_option maxRecDepth 100000 in
theorem v_X0_changes_24 {p : Program} {l : Launch} {e : Env} {s : State} {m : MethodId} {args : Array Value} {below : List Frame} {meth : Method} {c : Code} {D : va_G} {A : Nat → Prop} {post : Option Value → q_S → Prop} {K : Nat → q_K} (C : q_C p s m args meth c cX0_changes 2 RX0 "changes" (some .boolean) A) (hK : ∀ h ∈ ([] : List Nat), q_V p l e rm_X0_changes s m args below meth c D A 2 (MQ below (q_Qc D A post) args s rm_X0_changes.cells rm_X0_changes.slots A) h (K h)) : q_V p l e rm_X0_changes s m args below meth c D A 2 (MQ below (q_Qc D A post) args s rm_X0_changes.cells rm_X0_changes.slots A) 24 (k_X0_changes_24 post K) := by
  unfold k_X0_changes_24
  refine q_iconst C (by decide +kernel : decode cX0_changes 24 = .ok (.iconst 1, 1)) (by decide) ?_
  refine q_goto C (tgt := 29) (by decide +kernel : decode cX0_changes 25 = .ok (.goto 4, 3)) (by decide) ?_
  exact v_X0_changes_29 C hK
set_option maxRecDepth 100000 in
theorem v_X0_changes_28 {p : Program} {l : Launch} {e : Env} {s : State} {m : MethodId} {args : Array Value} {below : List Frame} {meth : Method} {c : Code} {D : va_G} {A : Nat → Prop} {post : Option Value → q_S → Prop} {K : Nat → q_K} (C : q_C p s m args meth c cX0_changes 2 RX0 "changes" (some .boolean) A) (hK : ∀ h ∈ ([] : List Nat), q_V p l e rm_X0_changes s m args below meth c D A 2 (MQ below (q_Qc D A post) args s rm_X0_changes.cells rm_X0_changes.slots A) h (K h)) : q_V p l e rm_X0_changes s m args below meth c D A 2 (MQ below (q_Qc D A post) args s rm_X0_changes.cells rm_X0_changes.slots A) 28 (k_X0_changes_28 post K) := by
  unfold k_X0_changes_28
  refine q_iconst C (by decide +kernel : decode cX0_changes 28 = .ok (.iconst 0, 1)) (by decide) ?_
  exact v_X0_changes_29 C hK
set_option maxRecDepth 100000 in
theorem v_X0_changes_0 {p : Program} {l : Launch} {e : Env} {s : State} {m : MethodId} {args : Array Value} {below : List Frame} {meth : Method} {c : Code} {D : va_G} {A : Nat → Prop} {post : Option Value → q_S → Prop} {K : Nat → q_K} (C : q_C p s m args meth c cX0_changes 2 RX0 "changes" (some .boolean) A) (hK : ∀ h ∈ ([] : List Nat), q_V p l e rm_X0_changes s m args below meth c D A 2 (MQ below (q_Qc D A post) args s rm_X0_changes.cells rm_X0_changes.slots A) h (K h)) : q_V p l e rm_X0_changes s m args below meth c D A 2 (MQ below (q_Qc D A post) args s rm_X0_changes.cells rm_X0_changes.slots A) 0 (k_X0_changes_0 post K) := by
  unfold k_X0_changes_0
  refine q_aload_n C (by decide +kernel : decode cX0_changes 0 = .ok (.aload_n 0, 1)) ?_
  refine q_get C (ci := 0) (j := 3) (C0 := RX0) (T := TX0) (N := 5) rfl iX0 giX0 (by decide) w9_129 (by decide +kernel : decode cX0_changes 1 = .ok (.getfield 21, 3)) ?_
  refine q_iconst C (by decide +kernel : decode cX0_changes 4 = .ok (.iconst 2, 1)) (by decide) ?_
  refine q_iceq C (tgt := 24) (by decide +kernel : decode cX0_changes 5 = .ok (.if_icmp .eq 19, 3)) (by decide) ?_ ?_
  · exact v_X0_changes_24 C hK
  · refine q_aload_n C (by decide +kernel : decode cX0_changes 8 = .ok (.aload_n 0, 1)) ?_
    refine q_get C (ci := 0) (j := 3) (C0 := RX0) (T := TX0) (N := 5) rfl iX0 giX0 (by decide) w9_129 (by decide +kernel : decode cX0_changes 9 = .ok (.getfield 21, 3)) ?_
    refine q_iconst C (by decide +kernel : decode cX0_changes 12 = .ok (.iconst 1, 1)) (by decide) ?_
    refine q_icne C (tgt := 28) (by decide +kernel : decode cX0_changes 13 = .ok (.if_icmp .ne 15, 3)) (by decide) ?_ ?_
    · exact v_X0_changes_28 C hK
    · refine q_iload_n C (by decide +kernel : decode cX0_changes 16 = .ok (.iload_n 1, 1)) ?_
      refine q_aload_n C (by decide +kernel : decode cX0_changes 17 = .ok (.aload_n 0, 1)) ?_
      refine q_get C (ci := 0) (j := 0) (C0 := RX0) (T := TX0) (N := 5) rfl iX0 giX0 (by decide) w9_126 (by decide +kernel : decode cX0_changes 18 = .ok (.getfield 9, 3)) ?_
      refine q_iclt C (tgt := 28) (by decide +kernel : decode cX0_changes 21 = .ok (.if_icmp .lt 7, 3)) (by decide) ?_ ?_
      · exact v_X0_changes_28 C hK
      · exact v_X0_changes_24 C hK
theorem u_X0_changes (l : Launch) {sp : q_Sp} (H : ∀ (av : List Value) (σ : q_S) (post : Option Value → q_S → Prop), sp av σ post → k_X0_changes_0 post (fun _ _ _ _ _ _ => False) (q_L0 av 2) [] σ 0 0 ∧ av.length ≤ 2 ∧ ∀ v ∈ av, v.category = 1) : q_Ct l yX0_changes cX0_changes 2 (some .boolean) rm_X0_changes sp := by
  refine q_met (by decide) ?_
  intro D A p e s m args below meth c σ av post C hsp
  obtain ⟨h1, h2, h3⟩ := H av σ post hsp
  exact ⟨_, v_X0_changes_0 (K := fun _ _ _ _ _ _ => False) C (fun h hh => by cases hh), h1, h2, h3⟩
theorem t_X0_changes (l : Launch) : q_Ct l yX0_changes cX0_changes 2 (some .boolean) rm_X0_changes s_X0_changes := u_X0_changes l (by
  intro av σ post h
  unfold s_X0_changes at h
  split at h
  · split at h
    · next e =>
      refine ⟨?_, by simp, by simp [Value.category]⟩
      simp only [c_push, c_null, c_iload, c_aload, c_istore, c_astore, c_iinc, c_iadd, c_isub, c_imul, c_iand, c_ineg, c_dup, c_dup2, c_pop, c_ifnull, c_ifnonnull, c_get, c_put, c_iald, c_zald, c_iast, c_zast, c_aald, c_aast, c_alen, c_new, c_newa, c_newq, c_mna, c_oinit, c_max, c_copy, c_iret, c_zret, c_aret, c_vret, q_do, q_rc, c_ifeq, c_ifne, c_iflt, c_ifge, c_ifgt, c_ifle, c_iceq, c_icne, c_iclt, c_icge, c_icgt, c_icle, c_call0, c_call1, c_call2, c_call3, c_call4, c_call5, c_call6, c_call7, q_L0, List.map_cons, List.map_nil, List.replicate, List.cons_append, List.nil_append, List.append_nil, List.length_cons, List.length_nil, List.length_set, Nat.reduceSub, Nat.reduceAdd, Nat.reduceLT, Nat.reduceLeDiff, Nat.zero_add, Nat.add_zero, Nat.sub_zero, Nat.sub_self, List.getElem?_cons_zero, List.getElem?_cons_succ, List.set_cons_zero, List.set_cons_succ, Option.toList_some, Option.toList_none, List.sum_cons, List.sum_nil, true_and, and_true, true_or, or_true, Nat.le_refl, Nat.zero_le, Value.category, Fin.isValue, Fin.val_zero, Fin.val_one, Fin.val_two, Fin.reduceFinMk, q_10, q_01, not_false_eq_true, not_true_eq_false, forall_const, true_implies, false_implies, implies_true, q_ni, q_fi, q_nb0, q_nb1, q_fb0, q_fb1, q_nor, q_nar, q_for, q_far, q_non, q_nan, q_fon, q_fan, imp_false, false_and, and_false, and_self, false_or, or_false, va_rf, refKind, k_X0_changes_0, k_X0_changes_24, k_X0_changes_28, k_X0_changes_29, q_fld, q_fset, q_oc, e, if_true]
      grind
    · exact h.elim
  · exact h.elim)
def s_X0_leavesFree : q_Sp := fun av σ post => match av with
  | [.ref a, .int t, .int x] => (match σ a with
    | some (.inr (0, [.int d, _, _, .int w, _])) => (w = 2 ∧ x < t ∧ t < d → post (some (.int 1)) σ) ∧ (¬ (w = 2 ∧ x < t ∧ t < d) → post (some (.int 0)) σ)
    | _ => False)
  | _ => False
def rm_X0_leavesFree : Room := { frames := 0, cells := 0, slots := 0, locals := 0 }
def k_X0_leavesFree_26 (post : Option Value → q_S → Prop) (K : Nat → q_K) : q_K := (c_zret post)
def k_X0_leavesFree_25 (post : Option Value → q_S → Prop) (K : Nat → q_K) : q_K := (c_push 0 (k_X0_leavesFree_26 post K))
def k_X0_leavesFree_0 (post : Option Value → q_S → Prop) (K : Nat → q_K) : q_K := (c_aload 0 (c_get 0 3 (c_push 2 (c_icne (k_X0_leavesFree_25 post K) (c_iload 1 (c_iload 2 (c_icle (k_X0_leavesFree_25 post K) (c_iload 1 (c_aload 0 (c_get 0 0 (c_icge (k_X0_leavesFree_25 post K) (c_push 1 (k_X0_leavesFree_26 post K)))))))))))))
set_option maxRecDepth 100000 in
theorem v_X0_leavesFree_26 {p : Program} {l : Launch} {e : Env} {s : State} {m : MethodId} {args : Array Value} {below : List Frame} {meth : Method} {c : Code} {D : va_G} {A : Nat → Prop} {post : Option Value → q_S → Prop} {K : Nat → q_K} (C : q_C p s m args meth c cX0_leavesFree 3 RX0 "leavesFree" (some .boolean) A) (hK : ∀ h ∈ ([] : List Nat), q_V p l e rm_X0_leavesFree s m args below meth c D A 3 (MQ below (q_Qc D A post) args s rm_X0_leavesFree.cells rm_X0_leavesFree.slots A) h (K h)) : q_V p l e rm_X0_leavesFree s m args below meth c D A 3 (MQ below (q_Qc D A post) args s rm_X0_leavesFree.cells rm_X0_leavesFree.slots A) 26 (k_X0_leavesFree_26 post K) := by
  unfold k_X0_leavesFree_26
  exact q_zret C rfl (by decide +kernel : decode cX0_leavesFree 26 = .ok (.ireturn, 1))
set_option maxRecDepth 100000 in
theorem v_X0_leavesFree_25 {p : Program} {l : Launch} {e : Env} {s : State} {m : MethodId} {args : Array Value} {below : List Frame} {meth : Method} {c : Code} {D : va_G} {A : Nat → Prop} {post : Option Value → q_S → Prop} {K : Nat → q_K} (C : q_C p s m args meth c cX0_leavesFree 3 RX0 "leavesFree" (some .boolean) A) (hK : ∀ h ∈ ([] : List Nat), q_V p l e rm_X0_leavesFree s m args below meth c D A 3 (MQ below (q_Qc D A post) args s rm_X0_leavesFree.cells rm_X0_leavesFree.slots A) h (K h)) : q_V p l e rm_X0_leavesFree s m args below meth c D A 3 (MQ below (q_Qc D A post) args s rm_X0_leavesFree.cells rm_X0_leavesFree.slots A) 25 (k_X0_leavesFree_25 post K) := by
  unfold k_X0_leavesFree_25
  refine q_iconst C (by decide +kernel : decode cX0_leavesFree 25 = .ok (.iconst 0, 1)) (by decide) ?_
  exact v_X0_leavesFree_26 C hK
set_option maxRecDepth 100000 in
theorem v_X0_leavesFree_0 {p : Program} {l : Launch} {e : Env} {s : State} {m : MethodId} {args : Array Value} {below : List Frame} {meth : Method} {c : Code} {D : va_G} {A : Nat → Prop} {post : Option Value → q_S → Prop} {K : Nat → q_K} (C : q_C p s m args meth c cX0_leavesFree 3 RX0 "leavesFree" (some .boolean) A) (hK : ∀ h ∈ ([] : List Nat), q_V p l e rm_X0_leavesFree s m args below meth c D A 3 (MQ below (q_Qc D A post) args s rm_X0_leavesFree.cells rm_X0_leavesFree.slots A) h (K h)) : q_V p l e rm_X0_leavesFree s m args below meth c D A 3 (MQ below (q_Qc D A post) args s rm_X0_leavesFree.cells rm_X0_leavesFree.slots A) 0 (k_X0_leavesFree_0 post K) := by
  unfold k_X0_leavesFree_0
  refine q_aload_n C (by decide +kernel : decode cX0_leavesFree 0 = .ok (.aload_n 0, 1)) ?_
  refine q_get C (ci := 0) (j := 3) (C0 := RX0) (T := TX0) (N := 5) rfl iX0 giX0 (by decide) w9_129 (by decide +kernel : decode cX0_leavesFree 1 = .ok (.getfield 21, 3)) ?_
  refine q_iconst C (by decide +kernel : decode cX0_leavesFree 4 = .ok (.iconst 2, 1)) (by decide) ?_
  refine q_icne C (tgt := 25) (by decide +kernel : decode cX0_leavesFree 5 = .ok (.if_icmp .ne 20, 3)) (by decide) ?_ ?_
  · exact v_X0_leavesFree_25 C hK
  · refine q_iload_n C (by decide +kernel : decode cX0_leavesFree 8 = .ok (.iload_n 1, 1)) ?_
    refine q_iload_n C (by decide +kernel : decode cX0_leavesFree 9 = .ok (.iload_n 2, 1)) ?_
    refine q_icle C (tgt := 25) (by decide +kernel : decode cX0_leavesFree 10 = .ok (.if_icmp .le 15, 3)) (by decide) ?_ ?_
    · exact v_X0_leavesFree_25 C hK
    · refine q_iload_n C (by decide +kernel : decode cX0_leavesFree 13 = .ok (.iload_n 1, 1)) ?_
      refine q_aload_n C (by decide +kernel : decode cX0_leavesFree 14 = .ok (.aload_n 0, 1)) ?_
      refine q_get C (ci := 0) (j := 0) (C0 := RX0) (T := TX0) (N := 5) rfl iX0 giX0 (by decide) w9_126 (by decide +kernel : decode cX0_leavesFree 15 = .ok (.getfield 9, 3)) ?_
      refine q_icge C (tgt := 25) (by decide +kernel : decode cX0_leavesFree 18 = .ok (.if_icmp .ge 7, 3)) (by decide) ?_ ?_
      · exact v_X0_leavesFree_25 C hK
      · refine q_iconst C (by decide +kernel : decode cX0_leavesFree 21 = .ok (.iconst 1, 1)) (by decide) ?_
        refine q_goto C (tgt := 26) (by decide +kernel : decode cX0_leavesFree 22 = .ok (.goto 4, 3)) (by decide) ?_
        exact v_X0_leavesFree_26 C hK
theorem u_X0_leavesFree (l : Launch) {sp : q_Sp} (H : ∀ (av : List Value) (σ : q_S) (post : Option Value → q_S → Prop), sp av σ post → k_X0_leavesFree_0 post (fun _ _ _ _ _ _ => False) (q_L0 av 3) [] σ 0 0 ∧ av.length ≤ 3 ∧ ∀ v ∈ av, v.category = 1) : q_Ct l yX0_leavesFree cX0_leavesFree 3 (some .boolean) rm_X0_leavesFree sp := by
  refine q_met (by decide) ?_
  intro D A p e s m args below meth c σ av post C hsp
  obtain ⟨h1, h2, h3⟩ := H av σ post hsp
  exact ⟨_, v_X0_leavesFree_0 (K := fun _ _ _ _ _ _ => False) C (fun h hh => by cases hh), h1, h2, h3⟩
theorem t_X0_leavesFree (l : Launch) : q_Ct l yX0_leavesFree cX0_leavesFree 3 (some .boolean) rm_X0_leavesFree s_X0_leavesFree := u_X0_leavesFree l (by
  intro av σ post h
  unfold s_X0_leavesFree at h
  split at h
  · split at h
    · next e =>
      refine ⟨?_, by simp, by simp [Value.category]⟩
      simp only [c_push, c_null, c_iload, c_aload, c_istore, c_astore, c_iinc, c_iadd, c_isub, c_imul, c_iand, c_ineg, c_dup, c_dup2, c_pop, c_ifnull, c_ifnonnull, c_get, c_put, c_iald, c_zald, c_iast, c_zast, c_aald, c_aast, c_alen, c_new, c_newa, c_newq, c_mna, c_oinit, c_max, c_copy, c_iret, c_zret, c_aret, c_vret, q_do, q_rc, c_ifeq, c_ifne, c_iflt, c_ifge, c_ifgt, c_ifle, c_iceq, c_icne, c_iclt, c_icge, c_icgt, c_icle, c_call0, c_call1, c_call2, c_call3, c_call4, c_call5, c_call6, c_call7, q_L0, List.map_cons, List.map_nil, List.replicate, List.cons_append, List.nil_append, List.append_nil, List.length_cons, List.length_nil, List.length_set, Nat.reduceSub, Nat.reduceAdd, Nat.reduceLT, Nat.reduceLeDiff, Nat.zero_add, Nat.add_zero, Nat.sub_zero, Nat.sub_self, List.getElem?_cons_zero, List.getElem?_cons_succ, List.set_cons_zero, List.set_cons_succ, Option.toList_some, Option.toList_none, List.sum_cons, List.sum_nil, true_and, and_true, true_or, or_true, Nat.le_refl, Nat.zero_le, Value.category, Fin.isValue, Fin.val_zero, Fin.val_one, Fin.val_two, Fin.reduceFinMk, q_10, q_01, not_false_eq_true, not_true_eq_false, forall_const, true_implies, false_implies, implies_true, q_ni, q_fi, q_nb0, q_nb1, q_fb0, q_fb1, q_nor, q_nar, q_for, q_far, q_non, q_nan, q_fon, q_fan, imp_false, false_and, and_false, and_self, false_or, or_false, va_rf, refKind, k_X0_leavesFree_0, k_X0_leavesFree_25, k_X0_leavesFree_26, q_fld, q_fset, q_oc, e, if_true]
      grind
    · exact h.elim
  · exact h.elim)
-- Licence
def s_X4_init : q_Sp := fun av σ post => match av with
  | [.ref a, .int x1, .int x2, .int x3, .int x4, .int x5, .int x6] => σ a = some (.inr (4, [.int 0, .int 0, .int 0, .int 0, .int 0, .int 0])) ∧ post none (q_up σ a (.inr (4, [.int x1, .int x2, .int x3, .int x4, .int x5, .int x6])))
  | _ => False
theorem w9_140 : (.methodLink RX4 1 objectInit : Cond) ∈ lw_tbl := by decide +kernel
theorem w9_141 : (.fieldLink RX4 7 (TX4 0).1 (TX4 0).2.1 (TX4 0).2.2.1 : Cond) ∈ lw_tbl := by decide +kernel
theorem w9_142 : (.fieldLink RX4 13 (TX4 1).1 (TX4 1).2.1 (TX4 1).2.2.1 : Cond) ∈ lw_tbl := by decide +kernel
theorem w9_143 : (.fieldLink RX4 16 (TX4 2).1 (TX4 2).2.1 (TX4 2).2.2.1 : Cond) ∈ lw_tbl := by decide +kernel
theorem w9_144 : (.fieldLink RX4 19 (TX4 3).1 (TX4 3).2.1 (TX4 3).2.2.1 : Cond) ∈ lw_tbl := by decide +kernel
theorem w9_145 : (.fieldLink RX4 22 (TX4 4).1 (TX4 4).2.1 (TX4 4).2.2.1 : Cond) ∈ lw_tbl := by decide +kernel
theorem w9_146 : (.fieldLink RX4 25 (TX4 5).1 (TX4 5).2.1 (TX4 5).2.2.1 : Cond) ∈ lw_tbl := by decide +kernel
def rm_X4_init : Room := { frames := 1, cells := 0, slots := 0, locals := 20 }
def k_X4_init_0 (post : Option Value → q_S → Prop) (K : Nat → q_K) : q_K := (c_aload 0 (c_oinit (c_aload 0 (c_iload 1 (c_put 4 0 (.int) (c_aload 0 (c_iload 2 (c_put 4 1 (.int) (c_aload 0 (c_iload 3 (c_put 4 2 (.int) (c_aload 0 (c_iload 4 (c_put 4 3 (.int) (c_aload 0 (c_iload 5 (c_put 4 4 (.int) (c_aload 0 (c_iload 6 (c_put 4 5 (.int) (c_vret post)))))))))))))))))))))
set_option maxRecDepth 100000 in
theorem v_X4_init_0 {p : Program} {l : Launch} {e : Env} {s : State} {m : MethodId} {args : Array Value} {below : List Frame} {meth : Method} {c : Code} {D : va_G} {A : Nat → Prop} {post : Option Value → q_S → Prop} {K : Nat → q_K} (C : q_C p s m args meth c cX4_init 7 RX4 "<init>" none A) (hK : ∀ h ∈ ([] : List Nat), q_V p l e rm_X4_init s m args below meth c D A 7 (MQ below (q_Qc D A post) args s rm_X4_init.cells rm_X4_init.slots A) h (K h)) : q_V p l e rm_X4_init s m args below meth c D A 7 (MQ below (q_Qc D A post) args s rm_X4_init.cells rm_X4_init.slots A) 0 (k_X4_init_0 post K) := by
  unfold k_X4_init_0
  refine q_aload_n C (by decide +kernel : decode cX4_init 0 = .ok (.aload_n 0, 1)) ?_
  refine q_oinit C w9_140 w9_112 w9_113 (by decide) (by decide +kernel : decode cX4_init 1 = .ok (.invokespecial 1, 3)) ?_
  refine q_aload_n C (by decide +kernel : decode cX4_init 4 = .ok (.aload_n 0, 1)) ?_
  refine q_iload_n C (by decide +kernel : decode cX4_init 5 = .ok (.iload_n 1, 1)) ?_
  refine q_putF C (ci := 4) (j := 0) (C0 := RX4) (T := TX4) (N := 6) (ty := .int) rfl iX4 giX4 (by decide) tyX4 tyX4_ok nmX4 (by decide +kernel) rfl rfl rfl w9_141 (by decide +kernel : decode cX4_init 6 = .ok (.putfield 7, 3)) ?_
  refine q_aload_n C (by decide +kernel : decode cX4_init 9 = .ok (.aload_n 0, 1)) ?_
  refine q_iload_n C (by decide +kernel : decode cX4_init 10 = .ok (.iload_n 2, 1)) ?_
  refine q_putF C (ci := 4) (j := 1) (C0 := RX4) (T := TX4) (N := 6) (ty := .int) rfl iX4 giX4 (by decide) tyX4 tyX4_ok nmX4 (by decide +kernel) rfl rfl rfl w9_142 (by decide +kernel : decode cX4_init 11 = .ok (.putfield 13, 3)) ?_
  refine q_aload_n C (by decide +kernel : decode cX4_init 14 = .ok (.aload_n 0, 1)) ?_
  refine q_iload_n C (by decide +kernel : decode cX4_init 15 = .ok (.iload_n 3, 1)) ?_
  refine q_putF C (ci := 4) (j := 2) (C0 := RX4) (T := TX4) (N := 6) (ty := .int) rfl iX4 giX4 (by decide) tyX4 tyX4_ok nmX4 (by decide +kernel) rfl rfl rfl w9_143 (by decide +kernel : decode cX4_init 16 = .ok (.putfield 16, 3)) ?_
  refine q_aload_n C (by decide +kernel : decode cX4_init 19 = .ok (.aload_n 0, 1)) ?_
  refine q_iload C (by decide +kernel : decode cX4_init 20 = .ok (.iload 4, 2)) ?_
  refine q_putF C (ci := 4) (j := 3) (C0 := RX4) (T := TX4) (N := 6) (ty := .int) rfl iX4 giX4 (by decide) tyX4 tyX4_ok nmX4 (by decide +kernel) rfl rfl rfl w9_144 (by decide +kernel : decode cX4_init 22 = .ok (.putfield 19, 3)) ?_
  refine q_aload_n C (by decide +kernel : decode cX4_init 25 = .ok (.aload_n 0, 1)) ?_
  refine q_iload C (by decide +kernel : decode cX4_init 26 = .ok (.iload 5, 2)) ?_
  refine q_putF C (ci := 4) (j := 4) (C0 := RX4) (T := TX4) (N := 6) (ty := .int) rfl iX4 giX4 (by decide) tyX4 tyX4_ok nmX4 (by decide +kernel) rfl rfl rfl w9_145 (by decide +kernel : decode cX4_init 28 = .ok (.putfield 22, 3)) ?_
  refine q_aload_n C (by decide +kernel : decode cX4_init 31 = .ok (.aload_n 0, 1)) ?_
  refine q_iload C (by decide +kernel : decode cX4_init 32 = .ok (.iload 6, 2)) ?_
  refine q_putF C (ci := 4) (j := 5) (C0 := RX4) (T := TX4) (N := 6) (ty := .int) rfl iX4 giX4 (by decide) tyX4 tyX4_ok nmX4 (by decide +kernel) rfl rfl rfl w9_146 (by decide +kernel : decode cX4_init 34 = .ok (.putfield 25, 3)) ?_
  exact q_vret C rfl (by decide +kernel : decode cX4_init 37 = .ok (.return_, 1))
theorem u_X4_init (l : Launch) {sp : q_Sp} (H : ∀ (av : List Value) (σ : q_S) (post : Option Value → q_S → Prop), sp av σ post → k_X4_init_0 post (fun _ _ _ _ _ _ => False) (q_L0 av 7) [] σ 0 0 ∧ av.length ≤ 7 ∧ ∀ v ∈ av, v.category = 1) : q_Ct l yX4_init cX4_init 7 none rm_X4_init sp := by
  refine q_met (by decide) ?_
  intro D A p e s m args below meth c σ av post C hsp
  obtain ⟨h1, h2, h3⟩ := H av σ post hsp
  exact ⟨_, v_X4_init_0 (K := fun _ _ _ _ _ _ => False) C (fun h hh => by cases hh), h1, h2, h3⟩
theorem t_X4_init (l : Launch) : q_Ct l yX4_init cX4_init 7 none rm_X4_init s_X4_init := u_X4_init l (by
  intro av σ post h
  unfold s_X4_init at h
  split at h
  · next a =>
    refine ⟨?_, by simp, by simp [Value.category]⟩
    simp only [c_push, c_null, c_iload, c_aload, c_istore, c_astore, c_iinc, c_iadd, c_isub, c_imul, c_iand, c_ineg, c_dup, c_dup2, c_pop, c_ifnull, c_ifnonnull, c_get, c_put, c_iald, c_zald, c_iast, c_zast, c_aald, c_aast, c_alen, c_new, c_newa, c_newq, c_mna, c_oinit, c_max, c_copy, c_iret, c_zret, c_aret, c_vret, q_do, q_rc, c_ifeq, c_ifne, c_iflt, c_ifge, c_ifgt, c_ifle, c_iceq, c_icne, c_iclt, c_icge, c_icgt, c_icle, c_call0, c_call1, c_call2, c_call3, c_call4, c_call5, c_call6, c_call7, q_L0, List.map_cons, List.map_nil, List.replicate, List.cons_append, List.nil_append, List.append_nil, List.length_cons, List.length_nil, List.length_set, Nat.reduceSub, Nat.reduceAdd, Nat.reduceLT, Nat.reduceLeDiff, Nat.zero_add, Nat.add_zero, Nat.sub_zero, Nat.sub_self, List.getElem?_cons_zero, List.getElem?_cons_succ, List.set_cons_zero, List.set_cons_succ, Option.toList_some, Option.toList_none, List.sum_cons, List.sum_nil, true_and, and_true, true_or, or_true, Nat.le_refl, Nat.zero_le, Value.category, Fin.isValue, Fin.val_zero, Fin.val_one, Fin.val_two, Fin.reduceFinMk, q_10, q_01, not_false_eq_true, not_true_eq_false, forall_const, true_implies, false_implies, implies_true, q_ni, q_fi, q_nb0, q_nb1, q_fb0, q_fb1, q_nor, q_nar, q_for, q_far, q_non, q_nan, q_fon, q_fan, imp_false, false_and, and_false, and_self, false_or, or_false, va_rf, refKind, k_X4_init_0, q_fld, q_fset, q_oc, h.1, q_up_s, q_up_up, if_true]
    exact h.2
  · exact h.elim)
def s_X4_fits : q_Sp := fun av σ post => match av with
  | [.ref a, .int w, .int u, .int p] => (match σ a with
    | some (.inr (4, [.int x1, .int x2, .int x3, _, _, _])) => (x1 = w ∧ x2 = u ∧ x3 = p → post (some (.int 1)) σ) ∧ (¬ (x1 = w ∧ x2 = u ∧ x3 = p) → post (some (.int 0)) σ)
    | _ => False)
  | _ => False
def rm_X4_fits : Room := { frames := 0, cells := 0, slots := 0, locals := 0 }
def k_X4_fits_29 (post : Option Value → q_S → Prop) (K : Nat → q_K) : q_K := (c_zret post)
def k_X4_fits_28 (post : Option Value → q_S → Prop) (K : Nat → q_K) : q_K := (c_push 0 (k_X4_fits_29 post K))
def k_X4_fits_0 (post : Option Value → q_S → Prop) (K : Nat → q_K) : q_K := (c_aload 0 (c_get 4 0 (c_iload 1 (c_icne (k_X4_fits_28 post K) (c_aload 0 (c_get 4 1 (c_iload 2 (c_icne (k_X4_fits_28 post K) (c_aload 0 (c_get 4 2 (c_iload 3 (c_icne (k_X4_fits_28 post K) (c_push 1 (k_X4_fits_29 post K))))))))))))))
set_option maxRecDepth 100000 in
theorem v_X4_fits_29 {p : Program} {l : Launch} {e : Env} {s : State} {m : MethodId} {args : Array Value} {below : List Frame} {meth : Method} {c : Code} {D : va_G} {A : Nat → Prop} {post : Option Value → q_S → Prop} {K : Nat → q_K} (C : q_C p s m args meth c cX4_fits 4 RX4 "fits" (some .boolean) A) (hK : ∀ h ∈ ([] : List Nat), q_V p l e rm_X4_fits s m args below meth c D A 4 (MQ below (q_Qc D A post) args s rm_X4_fits.cells rm_X4_fits.slots A) h (K h)) : q_V p l e rm_X4_fits s m args below meth c D A 4 (MQ below (q_Qc D A post) args s rm_X4_fits.cells rm_X4_fits.slots A) 29 (k_X4_fits_29 post K) := by
  unfold k_X4_fits_29
  exact q_zret C rfl (by decide +kernel : decode cX4_fits 29 = .ok (.ireturn, 1))
set_option maxRecDepth 100000 in
theorem v_X4_fits_28 {p : Program} {l : Launch} {e : Env} {s : State} {m : MethodId} {args : Array Value} {below : List Frame} {meth : Method} {c : Code} {D : va_G} {A : Nat → Prop} {post : Option Value → q_S → Prop} {K : Nat → q_K} (C : q_C p s m args meth c cX4_fits 4 RX4 "fits" (some .boolean) A) (hK : ∀ h ∈ ([] : List Nat), q_V p l e rm_X4_fits s m args below meth c D A 4 (MQ below (q_Qc D A post) args s rm_X4_fits.cells rm_X4_fits.slots A) h (K h)) : q_V p l e rm_X4_fits s m args below meth c D A 4 (MQ below (q_Qc D A post) args s rm_X4_fits.cells rm_X4_fits.slots A) 28 (k_X4_fits_28 post K) := by
  unfold k_X4_fits_28
  refine q_iconst C (by decide +kernel : decode cX4_fits 28 = .ok (.iconst 0, 1)) (by decide) ?_
  exact v_X4_fits_29 C hK
set_option maxRecDepth 100000 in
theorem v_X4_fits_0 {p : Program} {l : Launch} {e : Env} {s : State} {m : MethodId} {args : Array Value} {below : List Frame} {meth : Method} {c : Code} {D : va_G} {A : Nat → Prop} {post : Option Value → q_S → Prop} {K : Nat → q_K} (C : q_C p s m args meth c cX4_fits 4 RX4 "fits" (some .boolean) A) (hK : ∀ h ∈ ([] : List Nat), q_V p l e rm_X4_fits s m args below meth c D A 4 (MQ below (q_Qc D A post) args s rm_X4_fits.cells rm_X4_fits.slots A) h (K h)) : q_V p l e rm_X4_fits s m args below meth c D A 4 (MQ below (q_Qc D A post) args s rm_X4_fits.cells rm_X4_fits.slots A) 0 (k_X4_fits_0 post K) := by
  unfold k_X4_fits_0
  refine q_aload_n C (by decide +kernel : decode cX4_fits 0 = .ok (.aload_n 0, 1)) ?_
  refine q_get C (ci := 4) (j := 0) (C0 := RX4) (T := TX4) (N := 6) rfl iX4 giX4 (by decide) w9_141 (by decide +kernel : decode cX4_fits 1 = .ok (.getfield 7, 3)) ?_
  refine q_iload_n C (by decide +kernel : decode cX4_fits 4 = .ok (.iload_n 1, 1)) ?_
  refine q_icne C (tgt := 28) (by decide +kernel : decode cX4_fits 5 = .ok (.if_icmp .ne 23, 3)) (by decide) ?_ ?_
  · exact v_X4_fits_28 C hK
  · refine q_aload_n C (by decide +kernel : decode cX4_fits 8 = .ok (.aload_n 0, 1)) ?_
    refine q_get C (ci := 4) (j := 1) (C0 := RX4) (T := TX4) (N := 6) rfl iX4 giX4 (by decide) w9_142 (by decide +kernel : decode cX4_fits 9 = .ok (.getfield 13, 3)) ?_
    refine q_iload_n C (by decide +kernel : decode cX4_fits 12 = .ok (.iload_n 2, 1)) ?_
    refine q_icne C (tgt := 28) (by decide +kernel : decode cX4_fits 13 = .ok (.if_icmp .ne 15, 3)) (by decide) ?_ ?_
    · exact v_X4_fits_28 C hK
    · refine q_aload_n C (by decide +kernel : decode cX4_fits 16 = .ok (.aload_n 0, 1)) ?_
      refine q_get C (ci := 4) (j := 2) (C0 := RX4) (T := TX4) (N := 6) rfl iX4 giX4 (by decide) w9_143 (by decide +kernel : decode cX4_fits 17 = .ok (.getfield 16, 3)) ?_
      refine q_iload_n C (by decide +kernel : decode cX4_fits 20 = .ok (.iload_n 3, 1)) ?_
      refine q_icne C (tgt := 28) (by decide +kernel : decode cX4_fits 21 = .ok (.if_icmp .ne 7, 3)) (by decide) ?_ ?_
      · exact v_X4_fits_28 C hK
      · refine q_iconst C (by decide +kernel : decode cX4_fits 24 = .ok (.iconst 1, 1)) (by decide) ?_
        refine q_goto C (tgt := 29) (by decide +kernel : decode cX4_fits 25 = .ok (.goto 4, 3)) (by decide) ?_
        exact v_X4_fits_29 C hK
theorem u_X4_fits (l : Launch) {sp : q_Sp} (H : ∀ (av : List Value) (σ : q_S) (post : Option Value → q_S → Prop), sp av σ post → k_X4_fits_0 post (fun _ _ _ _ _ _ => False) (q_L0 av 4) [] σ 0 0 ∧ av.length ≤ 4 ∧ ∀ v ∈ av, v.category = 1) : q_Ct l yX4_fits cX4_fits 4 (some .boolean) rm_X4_fits sp := by
  refine q_met (by decide) ?_
  intro D A p e s m args below meth c σ av post C hsp
  obtain ⟨h1, h2, h3⟩ := H av σ post hsp
  exact ⟨_, v_X4_fits_0 (K := fun _ _ _ _ _ _ => False) C (fun h hh => by cases hh), h1, h2, h3⟩
theorem t_X4_fits (l : Launch) : q_Ct l yX4_fits cX4_fits 4 (some .boolean) rm_X4_fits s_X4_fits := u_X4_fits l (by
  intro av σ post h
  unfold s_X4_fits at h
  split at h
  · split at h
    · next e =>
      refine ⟨?_, by simp, by simp [Value.category]⟩
      simp only [c_push, c_null, c_iload, c_aload, c_istore, c_astore, c_iinc, c_iadd, c_isub, c_imul, c_iand, c_ineg, c_dup, c_dup2, c_pop, c_ifnull, c_ifnonnull, c_get, c_put, c_iald, c_zald, c_iast, c_zast, c_aald, c_aast, c_alen, c_new, c_newa, c_newq, c_mna, c_oinit, c_max, c_copy, c_iret, c_zret, c_aret, c_vret, q_do, q_rc, c_ifeq, c_ifne, c_iflt, c_ifge, c_ifgt, c_ifle, c_iceq, c_icne, c_iclt, c_icge, c_icgt, c_icle, c_call0, c_call1, c_call2, c_call3, c_call4, c_call5, c_call6, c_call7, q_L0, List.map_cons, List.map_nil, List.replicate, List.cons_append, List.nil_append, List.append_nil, List.length_cons, List.length_nil, List.length_set, Nat.reduceSub, Nat.reduceAdd, Nat.reduceLT, Nat.reduceLeDiff, Nat.zero_add, Nat.add_zero, Nat.sub_zero, Nat.sub_self, List.getElem?_cons_zero, List.getElem?_cons_succ, List.set_cons_zero, List.set_cons_succ, Option.toList_some, Option.toList_none, List.sum_cons, List.sum_nil, true_and, and_true, true_or, or_true, Nat.le_refl, Nat.zero_le, Value.category, Fin.isValue, Fin.val_zero, Fin.val_one, Fin.val_two, Fin.reduceFinMk, q_10, q_01, not_false_eq_true, not_true_eq_false, forall_const, true_implies, false_implies, implies_true, q_ni, q_fi, q_nb0, q_nb1, q_fb0, q_fb1, q_nor, q_nar, q_for, q_far, q_non, q_nan, q_fon, q_fan, imp_false, false_and, and_false, and_self, false_or, or_false, va_rf, refKind, k_X4_fits_0, k_X4_fits_28, k_X4_fits_29, q_fld, q_fset, q_oc, e, if_true]
      grind
    · exact h.elim
  · exact h.elim)
def s_X4_coversDay : q_Sp := fun av σ post => match av with
  | [.ref a, .int t] => (match σ a with
    | some (.inr (4, [_, _, _, .int x4, .int x5, .int x6])) => (x4 ≤ t ∧ x5 ≤ t ∧ t ≤ x6 → post (some (.int 1)) σ) ∧ (¬ (x4 ≤ t ∧ x5 ≤ t ∧ t ≤ x6) → post (some (.int 0)) σ)
    | _ => False)
  | _ => False
def rm_X4_coversDay : Room := { frames := 0, cells := 0, slots := 0, locals := 0 }
def k_X4_coversDay_29 (post : Option Value → q_S → Prop) (K : Nat → q_K) : q_K := (c_zret post)
def k_X4_coversDay_28 (post : Option Value → q_S → Prop) (K : Nat → q_K) : q_K := (c_push 0 (k_X4_coversDay_29 post K))
def k_X4_coversDay_0 (post : Option Value → q_S → Prop) (K : Nat → q_K) : q_K := (c_aload 0 (c_get 4 3 (c_iload 1 (c_icgt (k_X4_coversDay_28 post K) (c_aload 0 (c_get 4 4 (c_iload 1 (c_icgt (k_X4_coversDay_28 post K) (c_iload 1 (c_aload 0 (c_get 4 5 (c_icgt (k_X4_coversDay_28 post K) (c_push 1 (k_X4_coversDay_29 post K))))))))))))))
set_option maxRecDepth 100000 in
theorem v_X4_coversDay_29 {p : Program} {l : Launch} {e : Env} {s : State} {m : MethodId} {args : Array Value} {below : List Frame} {meth : Method} {c : Code} {D : va_G} {A : Nat → Prop} {post : Option Value → q_S → Prop} {K : Nat → q_K} (C : q_C p s m args meth c cX4_coversDay 2 RX4 "coversDay" (some .boolean) A) (hK : ∀ h ∈ ([] : List Nat), q_V p l e rm_X4_coversDay s m args below meth c D A 2 (MQ below (q_Qc D A post) args s rm_X4_coversDay.cells rm_X4_coversDay.slots A) h (K h)) : q_V p l e rm_X4_coversDay s m args below meth c D A 2 (MQ below (q_Qc D A post) args s rm_X4_coversDay.cells rm_X4_coversDay.slots A) 29 (k_X4_coversDay_29 post K) := by
  unfold k_X4_coversDay_29
  exact q_zret C rfl (by decide +kernel : decode cX4_coversDay 29 = .ok (.ireturn, 1))
set_option maxRecDepth 100000 in
theorem v_X4_coversDay_28 {p : Program} {l : Launch} {e : Env} {s : State} {m : MethodId} {args : Array Value} {below : List Frame} {meth : Method} {c : Code} {D : va_G} {A : Nat → Prop} {post : Option Value → q_S → Prop} {K : Nat → q_K} (C : q_C p s m args meth c cX4_coversDay 2 RX4 "coversDay" (some .boolean) A) (hK : ∀ h ∈ ([] : List Nat), q_V p l e rm_X4_coversDay s m args below meth c D A 2 (MQ below (q_Qc D A post) args s rm_X4_coversDay.cells rm_X4_coversDay.slots A) h (K h)) : q_V p l e rm_X4_coversDay s m args below meth c D A 2 (MQ below (q_Qc D A post) args s rm_X4_coversDay.cells rm_X4_coversDay.slots A) 28 (k_X4_coversDay_28 post K) := by
  unfold k_X4_coversDay_28
  refine q_iconst C (by decide +kernel : decode cX4_coversDay 28 = .ok (.iconst 0, 1)) (by decide) ?_
  exact v_X4_coversDay_29 C hK
set_option maxRecDepth 100000 in
theorem v_X4_coversDay_0 {p : Program} {l : Launch} {e : Env} {s : State} {m : MethodId} {args : Array Value} {below : List Frame} {meth : Method} {c : Code} {D : va_G} {A : Nat → Prop} {post : Option Value → q_S → Prop} {K : Nat → q_K} (C : q_C p s m args meth c cX4_coversDay 2 RX4 "coversDay" (some .boolean) A) (hK : ∀ h ∈ ([] : List Nat), q_V p l e rm_X4_coversDay s m args below meth c D A 2 (MQ below (q_Qc D A post) args s rm_X4_coversDay.cells rm_X4_coversDay.slots A) h (K h)) : q_V p l e rm_X4_coversDay s m args below meth c D A 2 (MQ below (q_Qc D A post) args s rm_X4_coversDay.cells rm_X4_coversDay.slots A) 0 (k_X4_coversDay_0 post K) := by
  unfold k_X4_coversDay_0
  refine q_aload_n C (by decide +kernel : decode cX4_coversDay 0 = .ok (.aload_n 0, 1)) ?_
  refine q_get C (ci := 4) (j := 3) (C0 := RX4) (T := TX4) (N := 6) rfl iX4 giX4 (by decide) w9_144 (by decide +kernel : decode cX4_coversDay 1 = .ok (.getfield 19, 3)) ?_
  refine q_iload_n C (by decide +kernel : decode cX4_coversDay 4 = .ok (.iload_n 1, 1)) ?_
  refine q_icgt C (tgt := 28) (by decide +kernel : decode cX4_coversDay 5 = .ok (.if_icmp .gt 23, 3)) (by decide) ?_ ?_
  · exact v_X4_coversDay_28 C hK
  · refine q_aload_n C (by decide +kernel : decode cX4_coversDay 8 = .ok (.aload_n 0, 1)) ?_
    refine q_get C (ci := 4) (j := 4) (C0 := RX4) (T := TX4) (N := 6) rfl iX4 giX4 (by decide) w9_145 (by decide +kernel : decode cX4_coversDay 9 = .ok (.getfield 22, 3)) ?_
    refine q_iload_n C (by decide +kernel : decode cX4_coversDay 12 = .ok (.iload_n 1, 1)) ?_
    refine q_icgt C (tgt := 28) (by decide +kernel : decode cX4_coversDay 13 = .ok (.if_icmp .gt 15, 3)) (by decide) ?_ ?_
    · exact v_X4_coversDay_28 C hK
    · refine q_iload_n C (by decide +kernel : decode cX4_coversDay 16 = .ok (.iload_n 1, 1)) ?_
      refine q_aload_n C (by decide +kernel : decode cX4_coversDay 17 = .ok (.aload_n 0, 1)) ?_
      refine q_get C (ci := 4) (j := 5) (C0 := RX4) (T := TX4) (N := 6) rfl iX4 giX4 (by decide) w9_146 (by decide +kernel : decode cX4_coversDay 18 = .ok (.getfield 25, 3)) ?_
      refine q_icgt C (tgt := 28) (by decide +kernel : decode cX4_coversDay 21 = .ok (.if_icmp .gt 7, 3)) (by decide) ?_ ?_
      · exact v_X4_coversDay_28 C hK
      · refine q_iconst C (by decide +kernel : decode cX4_coversDay 24 = .ok (.iconst 1, 1)) (by decide) ?_
        refine q_goto C (tgt := 29) (by decide +kernel : decode cX4_coversDay 25 = .ok (.goto 4, 3)) (by decide) ?_
        exact v_X4_coversDay_29 C hK
theorem u_X4_coversDay (l : Launch) {sp : q_Sp} (H : ∀ (av : List Value) (σ : q_S) (post : Option Value → q_S → Prop), sp av σ post → k_X4_coversDay_0 post (fun _ _ _ _ _ _ => False) (q_L0 av 2) [] σ 0 0 ∧ av.length ≤ 2 ∧ ∀ v ∈ av, v.category = 1) : q_Ct l yX4_coversDay cX4_coversDay 2 (some .boolean) rm_X4_coversDay sp := by
  refine q_met (by decide) ?_
  intro D A p e s m args below meth c σ av post C hsp
  obtain ⟨h1, h2, h3⟩ := H av σ post hsp
  exact ⟨_, v_X4_coversDay_0 (K := fun _ _ _ _ _ _ => False) C (fun h hh => by cases hh), h1, h2, h3⟩
theorem t_X4_coversDay (l : Launch) : q_Ct l yX4_coversDay cX4_coversDay 2 (some .boolean) rm_X4_coversDay s_X4_coversDay := u_X4_coversDay l (by
  intro av σ post h
  unfold s_X4_coversDay at h
  split at h
  · split at h
    · next e =>
      refine ⟨?_, by simp, by simp [Value.category]⟩
      simp only [c_push, c_null, c_iload, c_aload, c_istore, c_astore, c_iinc, c_iadd, c_isub, c_imul, c_iand, c_ineg, c_dup, c_dup2, c_pop, c_ifnull, c_ifnonnull, c_get, c_put, c_iald, c_zald, c_iast, c_zast, c_aald, c_aast, c_alen, c_new, c_newa, c_newq, c_mna, c_oinit, c_max, c_copy, c_iret, c_zret, c_aret, c_vret, q_do, q_rc, c_ifeq, c_ifne, c_iflt, c_ifge, c_ifgt, c_ifle, c_iceq, c_icne, c_iclt, c_icge, c_icgt, c_icle, c_call0, c_call1, c_call2, c_call3, c_call4, c_call5, c_call6, c_call7, q_L0, List.map_cons, List.map_nil, List.replicate, List.cons_append, List.nil_append, List.append_nil, List.length_cons, List.length_nil, List.length_set, Nat.reduceSub, Nat.reduceAdd, Nat.reduceLT, Nat.reduceLeDiff, Nat.zero_add, Nat.add_zero, Nat.sub_zero, Nat.sub_self, List.getElem?_cons_zero, List.getElem?_cons_succ, List.set_cons_zero, List.set_cons_succ, Option.toList_some, Option.toList_none, List.sum_cons, List.sum_nil, true_and, and_true, true_or, or_true, Nat.le_refl, Nat.zero_le, Value.category, Fin.isValue, Fin.val_zero, Fin.val_one, Fin.val_two, Fin.reduceFinMk, q_10, q_01, not_false_eq_true, not_true_eq_false, forall_const, true_implies, false_implies, implies_true, q_ni, q_fi, q_nb0, q_nb1, q_fb0, q_fb1, q_nor, q_nar, q_for, q_far, q_non, q_nan, q_fon, q_fan, imp_false, false_and, and_false, and_self, false_or, or_false, va_rf, refKind, k_X4_coversDay_0, k_X4_coversDay_28, k_X4_coversDay_29, q_fld, q_fset, q_oc, e, if_true]
      grind
    · exact h.elim
  · exact h.elim)
end
