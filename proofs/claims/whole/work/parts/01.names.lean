-- ===== PART A: goes FIRST, ahead of the names: the tables' words, and 'selects' of the private methods out of them =====
/-- a private method of a class that the tables say can be made, by its rows of tables_1 -/
def lw_okq (q : MethodName × Nat) : Prop := (q.1.cls ≠ "java/lang/invoke/MethodHandle" ∧ q.1.cls ≠ "java/lang/invoke/VarHandle") ∧ Cond.instantiable q.1.cls q.2 ∈ tables_1 ∧ Cond.privateMethod q.1 ∈ tables_1 ∧ Cond.instanceMethod q.1 ∈ tables_1
theorem lw_p0 : lw_okq (⟨"CopyRegister", "personAt", "(I)LCopyRegister$Person;"⟩, 10) := ⟨⟨by decide +kernel, by decide +kernel⟩, List.mem_of_getElem? (i := 16) (by decide +kernel), List.mem_of_getElem? (i := 138) (by decide +kernel), List.mem_of_getElem? (i := 139) (by decide +kernel)⟩
theorem lw_p1 : lw_okq (⟨"CopyRegister", "receiverFrom", "(LCopyRegister$Person;)I"⟩, 10) := ⟨⟨by decide +kernel, by decide +kernel⟩, List.mem_of_getElem? (i := 16) (by decide +kernel), List.mem_of_getElem? (i := 154) (by decide +kernel), List.mem_of_getElem? (i := 155) (by decide +kernel)⟩
theorem lw_p2 : lw_okq (⟨"CopyRegister", "workAt", "(I)LCopyRegister$Work;"⟩, 10) := ⟨⟨by decide +kernel, by decide +kernel⟩, List.mem_of_getElem? (i := 16) (by decide +kernel), List.mem_of_getElem? (i := 158) (by decide +kernel), List.mem_of_getElem? (i := 159) (by decide +kernel)⟩
theorem lw_p3 : lw_okq (⟨"CopyRegister$Shares", "pledgedTo", "(II)I"⟩, 2) := ⟨⟨by decide +kernel, by decide +kernel⟩, List.mem_of_getElem? (i := 172) (by decide +kernel), List.mem_of_getElem? (i := 170) (by decide +kernel), List.mem_of_getElem? (i := 171) (by decide +kernel)⟩
theorem lw_p4 : lw_okq (⟨"CopyRegister$Acts", "rowAt", "(I)LCopyRegister$Act;"⟩, 2) := ⟨⟨by decide +kernel, by decide +kernel⟩, List.mem_of_getElem? (i := 26) (by decide +kernel), List.mem_of_getElem? (i := 243) (by decide +kernel), List.mem_of_getElem? (i := 244) (by decide +kernel)⟩
theorem lw_p5 : lw_okq (⟨"CopyRegister$Acts", "endAheadOf", "(ILCopyRegister$Work;I)I"⟩, 2) := ⟨⟨by decide +kernel, by decide +kernel⟩, List.mem_of_getElem? (i := 26) (by decide +kernel), List.mem_of_getElem? (i := 344) (by decide +kernel), List.mem_of_getElem? (i := 345) (by decide +kernel)⟩
theorem lw_p6 : lw_okq (⟨"CopyRegister$Acts", "leaveFree", "(LCopyRegister$Work;II)Z"⟩, 2) := ⟨⟨by decide +kernel, by decide +kernel⟩, List.mem_of_getElem? (i := 26) (by decide +kernel), List.mem_of_getElem? (i := 380) (by decide +kernel), List.mem_of_getElem? (i := 381) (by decide +kernel)⟩
theorem lw_p7 : lw_okq (⟨"CopyRegister", "areTwoPersons", "(II)Z"⟩, 10) := ⟨⟨by decide +kernel, by decide +kernel⟩, List.mem_of_getElem? (i := 16) (by decide +kernel), List.mem_of_getElem? (i := 395) (by decide +kernel), List.mem_of_getElem? (i := 396) (by decide +kernel)⟩
theorem lw_p8 : lw_okq (⟨"CopyRegister", "isLicensed", "(IIII)Z"⟩, 10) := ⟨⟨by decide +kernel, by decide +kernel⟩, List.mem_of_getElem? (i := 16) (by decide +kernel), List.mem_of_getElem? (i := 476) (by decide +kernel), List.mem_of_getElem? (i := 477) (by decide +kernel)⟩
theorem lw_p9 : lw_okq (⟨"CopyRegister$Comparison", "clearEdges", "(II)V"⟩, 1) := ⟨⟨by decide +kernel, by decide +kernel⟩, List.mem_of_getElem? (i := 61) (by decide +kernel), List.mem_of_getElem? (i := 513) (by decide +kernel), List.mem_of_getElem? (i := 514) (by decide +kernel)⟩
theorem lw_p10 : lw_okq (⟨"CopyRegister$Comparison", "setRest", "(III)V"⟩, 1) := ⟨⟨by decide +kernel, by decide +kernel⟩, List.mem_of_getElem? (i := 61) (by decide +kernel), List.mem_of_getElem? (i := 517) (by decide +kernel), List.mem_of_getElem? (i := 518) (by decide +kernel)⟩
theorem lw_p11 : lw_okq (⟨"CopyRegister$Comparison", "restFrom", "(II)I"⟩, 1) := ⟨⟨by decide +kernel, by decide +kernel⟩, List.mem_of_getElem? (i := 61) (by decide +kernel), List.mem_of_getElem? (i := 532) (by decide +kernel), List.mem_of_getElem? (i := 533) (by decide +kernel)⟩
theorem lw_p12 : lw_okq (⟨"CopyRegisterModel", "isPerson", "(I)Z"⟩, 35) := ⟨⟨by decide +kernel, by decide +kernel⟩, List.mem_of_getElem? (i := 564) (by decide +kernel), List.mem_of_getElem? (i := 691) (by decide +kernel), List.mem_of_getElem? (i := 692) (by decide +kernel)⟩
theorem lw_p13 : lw_okq (⟨"CopyRegisterModel", "holds", "(III)I"⟩, 35) := ⟨⟨by decide +kernel, by decide +kernel⟩, List.mem_of_getElem? (i := 564) (by decide +kernel), List.mem_of_getElem? (i := 699) (by decide +kernel), List.mem_of_getElem? (i := 700) (by decide +kernel)⟩
theorem lw_p14 : lw_okq (⟨"CopyRegisterModel", "move", "(IIII)V"⟩, 35) := ⟨⟨by decide +kernel, by decide +kernel⟩, List.mem_of_getElem? (i := 564) (by decide +kernel), List.mem_of_getElem? (i := 703) (by decide +kernel), List.mem_of_getElem? (i := 704) (by decide +kernel)⟩
theorem lw_p15 : lw_okq (⟨"CopyRegisterModel", "deathAt", "(II)I"⟩, 35) := ⟨⟨by decide +kernel, by decide +kernel⟩, List.mem_of_getElem? (i := 564) (by decide +kernel), List.mem_of_getElem? (i := 711) (by decide +kernel), List.mem_of_getElem? (i := 712) (by decide +kernel)⟩
def lw_privs_1 : List (MethodName × Nat) := [(⟨"CopyRegister", "personAt", "(I)LCopyRegister$Person;"⟩, 10), (⟨"CopyRegister", "receiverFrom", "(LCopyRegister$Person;)I"⟩, 10), (⟨"CopyRegister", "workAt", "(I)LCopyRegister$Work;"⟩, 10), (⟨"CopyRegister$Shares", "pledgedTo", "(II)I"⟩, 2), (⟨"CopyRegister$Acts", "rowAt", "(I)LCopyRegister$Act;"⟩, 2), (⟨"CopyRegister$Acts", "endAheadOf", "(ILCopyRegister$Work;I)I"⟩, 2), (⟨"CopyRegister$Acts", "leaveFree", "(LCopyRegister$Work;II)Z"⟩, 2), (⟨"CopyRegister", "areTwoPersons", "(II)Z"⟩, 10), (⟨"CopyRegister", "isLicensed", "(IIII)Z"⟩, 10), (⟨"CopyRegister$Comparison", "clearEdges", "(II)V"⟩, 1), (⟨"CopyRegister$Comparison", "setRest", "(III)V"⟩, 1), (⟨"CopyRegister$Comparison", "restFrom", "(II)I"⟩, 1), (⟨"CopyRegisterModel", "isPerson", "(I)Z"⟩, 35), (⟨"CopyRegisterModel", "holds", "(III)I"⟩, 35), (⟨"CopyRegisterModel", "move", "(IIII)V"⟩, 35), (⟨"CopyRegisterModel", "deathAt", "(II)I"⟩, 35)]
theorem lw_r1 : ∀ q ∈ lw_privs_1, lw_okq q := List.forall_mem_cons.mpr ⟨lw_p0, List.forall_mem_cons.mpr ⟨lw_p1, List.forall_mem_cons.mpr ⟨lw_p2, List.forall_mem_cons.mpr ⟨lw_p3, List.forall_mem_cons.mpr ⟨lw_p4, List.forall_mem_cons.mpr ⟨lw_p5, List.forall_mem_cons.mpr ⟨lw_p6, List.forall_mem_cons.mpr ⟨lw_p7, List.forall_mem_cons.mpr ⟨lw_p8, List.forall_mem_cons.mpr ⟨lw_p9, List.forall_mem_cons.mpr ⟨lw_p10, List.forall_mem_cons.mpr ⟨lw_p11, List.forall_mem_cons.mpr ⟨lw_p12, List.forall_mem_cons.mpr ⟨lw_p13, List.forall_mem_cons.mpr ⟨lw_p14, List.forall_mem_cons.mpr ⟨lw_p15, fun _ h => absurd h List.not_mem_nil⟩⟩⟩⟩⟩⟩⟩⟩⟩⟩⟩⟩⟩⟩⟩⟩
theorem lw_p16 : lw_okq (⟨"CopyRegisterModel", "isWork", "(I)Z"⟩, 35) := ⟨⟨by decide +kernel, by decide +kernel⟩, List.mem_of_getElem? (i := 564) (by decide +kernel), List.mem_of_getElem? (i := 727) (by decide +kernel), List.mem_of_getElem? (i := 728) (by decide +kernel)⟩
theorem lw_p17 : lw_okq (⟨"CopyRegisterModel", "endAt", "(III)I"⟩, 35) := ⟨⟨by decide +kernel, by decide +kernel⟩, List.mem_of_getElem? (i := 564) (by decide +kernel), List.mem_of_getElem? (i := 731) (by decide +kernel), List.mem_of_getElem? (i := 732) (by decide +kernel)⟩
theorem lw_p18 : lw_okq (⟨"CopyRegisterModel", "actAt", "(I)I"⟩, 35) := ⟨⟨by decide +kernel, by decide +kernel⟩, List.mem_of_getElem? (i := 564) (by decide +kernel), List.mem_of_getElem? (i := 735) (by decide +kernel), List.mem_of_getElem? (i := 736) (by decide +kernel)⟩
theorem lw_p19 : lw_okq (⟨"CopyRegisterModel", "endBy", "(III)I"⟩, 35) := ⟨⟨by decide +kernel, by decide +kernel⟩, List.mem_of_getElem? (i := 564) (by decide +kernel), List.mem_of_getElem? (i := 739) (by decide +kernel), List.mem_of_getElem? (i := 740) (by decide +kernel)⟩
theorem lw_p20 : lw_okq (⟨"CopyRegisterModel", "hasRight", "(III)Z"⟩, 35) := ⟨⟨by decide +kernel, by decide +kernel⟩, List.mem_of_getElem? (i := 564) (by decide +kernel), List.mem_of_getElem? (i := 751) (by decide +kernel), List.mem_of_getElem? (i := 752) (by decide +kernel)⟩
theorem lw_p21 : lw_okq (⟨"CopyRegisterModel", "areTwo", "(III)Z"⟩, 35) := ⟨⟨by decide +kernel, by decide +kernel⟩, List.mem_of_getElem? (i := 564) (by decide +kernel), List.mem_of_getElem? (i := 759) (by decide +kernel), List.mem_of_getElem? (i := 760) (by decide +kernel)⟩
theorem lw_p22 : lw_okq (⟨"CopyRegisterModel", "freeOf", "(II)I"⟩, 35) := ⟨⟨by decide +kernel, by decide +kernel⟩, List.mem_of_getElem? (i := 564) (by decide +kernel), List.mem_of_getElem? (i := 763) (by decide +kernel), List.mem_of_getElem? (i := 764) (by decide +kernel)⟩
theorem lw_p23 : lw_okq (⟨"CopyRegisterModel", "pledgedBy", "(II)I"⟩, 35) := ⟨⟨by decide +kernel, by decide +kernel⟩, List.mem_of_getElem? (i := 564) (by decide +kernel), List.mem_of_getElem? (i := 767) (by decide +kernel), List.mem_of_getElem? (i := 768) (by decide +kernel)⟩
theorem lw_p24 : lw_okq (⟨"CopyRegisterModel", "isAgreed", "(I)Z"⟩, 35) := ⟨⟨by decide +kernel, by decide +kernel⟩, List.mem_of_getElem? (i := 564) (by decide +kernel), List.mem_of_getElem? (i := 791) (by decide +kernel), List.mem_of_getElem? (i := 792) (by decide +kernel)⟩
theorem lw_p25 : lw_okq (⟨"CopyRegisterModel", "layRest", "(II)V"⟩, 35) := ⟨⟨by decide +kernel, by decide +kernel⟩, List.mem_of_getElem? (i := 564) (by decide +kernel), List.mem_of_getElem? (i := 811) (by decide +kernel), List.mem_of_getElem? (i := 812) (by decide +kernel)⟩
theorem lw_p26 : lw_okq (⟨"CopyRegisterModel", "areLike", "(IIII)Z"⟩, 35) := ⟨⟨by decide +kernel, by decide +kernel⟩, List.mem_of_getElem? (i := 564) (by decide +kernel), List.mem_of_getElem? (i := 815) (by decide +kernel), List.mem_of_getElem? (i := 816) (by decide +kernel)⟩
theorem lw_p27 : lw_okq (⟨"CopyRegisterModel", "placeFor", "(IIIII)I"⟩, 35) := ⟨⟨by decide +kernel, by decide +kernel⟩, List.mem_of_getElem? (i := 564) (by decide +kernel), List.mem_of_getElem? (i := 823) (by decide +kernel), List.mem_of_getElem? (i := 824) (by decide +kernel)⟩
def lw_privs_2 : List (MethodName × Nat) := [(⟨"CopyRegisterModel", "isWork", "(I)Z"⟩, 35), (⟨"CopyRegisterModel", "endAt", "(III)I"⟩, 35), (⟨"CopyRegisterModel", "actAt", "(I)I"⟩, 35), (⟨"CopyRegisterModel", "endBy", "(III)I"⟩, 35), (⟨"CopyRegisterModel", "hasRight", "(III)Z"⟩, 35), (⟨"CopyRegisterModel", "areTwo", "(III)Z"⟩, 35), (⟨"CopyRegisterModel", "freeOf", "(II)I"⟩, 35), (⟨"CopyRegisterModel", "pledgedBy", "(II)I"⟩, 35), (⟨"CopyRegisterModel", "isAgreed", "(I)Z"⟩, 35), (⟨"CopyRegisterModel", "layRest", "(II)V"⟩, 35), (⟨"CopyRegisterModel", "areLike", "(IIII)Z"⟩, 35), (⟨"CopyRegisterModel", "placeFor", "(IIIII)I"⟩, 35)]
theorem lw_r2 : ∀ q ∈ lw_privs_2, lw_okq q := List.forall_mem_cons.mpr ⟨lw_p16, List.forall_mem_cons.mpr ⟨lw_p17, List.forall_mem_cons.mpr ⟨lw_p18, List.forall_mem_cons.mpr ⟨lw_p19, List.forall_mem_cons.mpr ⟨lw_p20, List.forall_mem_cons.mpr ⟨lw_p21, List.forall_mem_cons.mpr ⟨lw_p22, List.forall_mem_cons.mpr ⟨lw_p23, List.forall_mem_cons.mpr ⟨lw_p24, List.forall_mem_cons.mpr ⟨lw_p25, List.forall_mem_cons.mpr ⟨lw_p26, List.forall_mem_cons.mpr ⟨lw_p27, fun _ h => absurd h List.not_mem_nil⟩⟩⟩⟩⟩⟩⟩⟩⟩⟩⟩⟩
def lw_privs : List (MethodName × Nat) := lw_privs_1 ++ (lw_privs_2)
def lw_tbl : List Cond := k2_sels lw_privs ++ tables_1
theorem lw_privs_ok : ∀ q ∈ lw_privs, lw_okq q := by
  show ∀ q ∈ lw_privs_1 ++ (lw_privs_2), lw_okq q
  exact List.forall_mem_append.mpr ⟨lw_r1, lw_r2⟩
/-! ===== BEGIN words of one list among another's, by their places ===== -/
theorem goodIn_r {big : List Cond} (ws : List Cond) (ps : List Nat) (hp : ws = ps.filterMap (fun i => big[i]?)) (h : ws.all goodWord = true) : GoodIn big ws := by
  intro w hw
  have h1 := List.all_eq_true.mp h w hw
  rw [hp] at hw
  obtain ⟨i, -, hi⟩ := List.mem_filterMap.mp hw
  have hm : w ∈ big := by first | exact List.mem_of_getElem? hi | exact List.getElem?_mem hi
  exact ⟨hm, good_of_word h1⟩
theorem goodIn_app {big a b : List Cond} (ha : GoodIn big a) (hb : GoodIn big b) : GoodIn big (a ++ b) := fun w h => (List.mem_append.mp h).elim (ha w) (hb w)
theorem goodIn_ca {big a b : List Cond} {c : Cond} (ha : GoodIn big (c :: a)) (hb : GoodIn big b) : GoodIn big (c :: (a ++ b)) := fun w h => (List.mem_cons.mp h).elim (fun e => ha w (List.mem_cons.mpr (Or.inl e))) (fun h => (List.mem_append.mp h).elim (fun h => ha w (List.mem_cons.mpr (Or.inr h))) (hb w))
theorem goodIn_sub {big ws : List Cond} (hm : ∀ w ∈ ws, w ∈ big) (h : ws.all goodWord = true) : GoodIn big ws := fun w hw => ⟨hm w hw, good_of_word (List.all_eq_true.mp h w hw)⟩
/-! ===== END ===== -/
def RX0 : String := "CopyRegister$Act"
def TX0 : u_T := fun k => match k with
  | 0 => ("CopyRegister$Act", "day", "I", true)
  | 1 => ("CopyRegister$Act", "fix", "I", true)
  | 2 => ("CopyRegister$Act", "life", "I", true)
  | 3 => ("CopyRegister$Act", "way", "I", true)
  | _ => ("CopyRegister$Act", "consent", "I", true)
def tyX0 : Nat → FieldType := fun k => match k with
  | 0 => .int
  | 1 => .int
  | 2 => .int
  | 3 => .int
  | _ => .int
abbrev wsX00 : List Cond := u_ws RX0 TX0 5
theorem nmX0 : ∀ a, a < 5 → ∀ b, b < 5 → a ≠ b → (TX0 a).2.1 ≠ (TX0 b).2.1 := by decide +kernel
theorem tyX0_ok : ∀ k, k < 5 → parseFieldDescriptor (TX0 k).2.2.1 = some (tyX0 k) := by decide +kernel
abbrev cX0_init : ByteArray := prog_2_method_1_code
def yX0_init : MethodName := ⟨RX0, "<init>", "(IIIII)V"⟩
abbrev cX0_endFor : ByteArray := prog_2_method_2_code
def yX0_endFor : MethodName := ⟨RX0, "endFor", "(LCopyRegister$Work;I)I"⟩
abbrev cX0_comesLaterTo : ByteArray := prog_2_method_3_code
def yX0_comesLaterTo : MethodName := ⟨RX0, "comesLaterTo", "(LCopyRegister$Work;I)Z"⟩
abbrev cX0_changes : ByteArray := prog_2_method_4_code
def yX0_changes : MethodName := ⟨RX0, "changes", "(I)Z"⟩
abbrev cX0_leavesFree : ByteArray := prog_2_method_5_code
def yX0_leavesFree : MethodName := ⟨RX0, "leavesFree", "(II)Z"⟩
def RX1 : String := "CopyRegister$Acts"
def TX1 : u_T := fun k => match k with
  | 0 => ("CopyRegister$Acts", "rows", "[LCopyRegister$Act;", true)
  | _ => ("CopyRegister$Acts", "size", "I", false)
def tyX1 : Nat → FieldType := fun k => match k with
  | 0 => .array (.object "CopyRegister$Act")
  | _ => .int
abbrev wsX10 : List Cond := u_ws RX1 TX1 2
theorem nmX1 : ∀ a, a < 2 → ∀ b, b < 2 → a ≠ b → (TX1 a).2.1 ≠ (TX1 b).2.1 := by decide +kernel
theorem tyX1_ok : ∀ k, k < 2 → parseFieldDescriptor (TX1 k).2.2.1 = some (tyX1 k) := by decide +kernel
abbrev cX1_init : ByteArray := prog_3_method_1_code
def yX1_init : MethodName := ⟨RX1, "<init>", "()V"⟩
abbrev cX1_rowAt : ByteArray := prog_3_method_2_code
def yX1_rowAt : MethodName := ⟨RX1, "rowAt", "(I)LCopyRegister$Act;"⟩
abbrev cX1_allEarlierThan : ByteArray := prog_3_method_3_code
def yX1_allEarlierThan : MethodName := ⟨RX1, "allEarlierThan", "(I)Z"⟩
abbrev cX1_append : ByteArray := prog_3_method_4_code
def yX1_append : MethodName := ⟨RX1, "append", "(LCopyRegister$Act;)I"⟩
abbrev cX1_inForceOn : ByteArray := prog_3_method_5_code
def yX1_inForceOn : MethodName := ⟨RX1, "inForceOn", "(I)LCopyRegister$Act;"⟩
abbrev cX1_consentOn : ByteArray := prog_3_method_6_code
def yX1_consentOn : MethodName := ⟨RX1, "consentOn", "(I)I"⟩
abbrev cX1_endKnownAt : ByteArray := prog_3_method_7_code
def yX1_endKnownAt : MethodName := ⟨RX1, "endKnownAt", "(LCopyRegister$Work;I)I"⟩
abbrev cX1_endAheadOf : ByteArray := prog_3_method_8_code
def yX1_endAheadOf : MethodName := ⟨RX1, "endAheadOf", "(ILCopyRegister$Work;I)I"⟩
abbrev cX1_protect : ByteArray := prog_3_method_9_code
def yX1_protect : MethodName := ⟨RX1, "protect", "(LCopyRegister$Work;II)Z"⟩
abbrev cX1_leaveFree : ByteArray := prog_3_method_10_code
def yX1_leaveFree : MethodName := ⟨RX1, "leaveFree", "(LCopyRegister$Work;II)Z"⟩
def RX2 : String := "CopyRegister$CommonLines"
def TX2 : u_T := fun k => match k with
  | 0 => ("CopyRegister$CommonLines", "marks", "[Z", true)
  | _ => ("CopyRegister$CommonLines", "size", "I", false)
def tyX2 : Nat → FieldType := fun k => match k with
  | 0 => .array .boolean
  | _ => .int
abbrev wsX20 : List Cond := u_ws RX2 TX2 2
theorem nmX2 : ∀ a, a < 2 → ∀ b, b < 2 → a ≠ b → (TX2 a).2.1 ≠ (TX2 b).2.1 := by decide +kernel
theorem tyX2_ok : ∀ k, k < 2 → parseFieldDescriptor (TX2 k).2.2.1 = some (tyX2 k) := by decide +kernel
abbrev cX2_init : ByteArray := prog_4_method_1_code
def yX2_init : MethodName := ⟨RX2, "<init>", "()V"⟩
abbrev cX2_contain : ByteArray := prog_4_method_2_code
def yX2_contain : MethodName := ⟨RX2, "contain", "(I)Z"⟩
abbrev cX2_mark : ByteArray := prog_4_method_3_code
def yX2_mark : MethodName := ⟨RX2, "mark", "(IZ)I"⟩
def RX3 : String := "CopyRegister$Comparison"
def TX3 : u_T := fun k => match k with
  | _ => ("CopyRegister$Comparison", "rest", "[[I", true)
def tyX3 : Nat → FieldType := fun k => match k with
  | _ => .array (.array .int)
abbrev wsX30 : List Cond := u_ws RX3 TX3 1
theorem nmX3 : ∀ a, a < 1 → ∀ b, b < 1 → a ≠ b → (TX3 a).2.1 ≠ (TX3 b).2.1 := by decide +kernel
theorem tyX3_ok : ∀ k, k < 1 → parseFieldDescriptor (TX3 k).2.2.1 = some (tyX3 k) := by decide +kernel
abbrev cX3_init : ByteArray := prog_5_method_1_code
def yX3_init : MethodName := ⟨RX3, "<init>", "()V"⟩
abbrev cX3_isPlace : ByteArray := prog_5_method_2_code
def yX3_isPlace : MethodName := ⟨RX3, "isPlace", "(I)Z"⟩
abbrev cX3_restFrom : ByteArray := prog_5_method_3_code
def yX3_restFrom : MethodName := ⟨RX3, "restFrom", "(II)I"⟩
abbrev cX3_setRest : ByteArray := prog_5_method_4_code
def yX3_setRest : MethodName := ⟨RX3, "setRest", "(III)V"⟩
abbrev cX3_measure : ByteArray := prog_5_method_5_code
def yX3_measure : MethodName := ⟨RX3, "measure", "(LCopyRegister$Lines;LCopyRegister$Lines;LCopyRegister$CommonLines;)I"⟩
abbrev cX3_clearEdges : ByteArray := prog_5_method_6_code
def yX3_clearEdges : MethodName := ⟨RX3, "clearEdges", "(II)V"⟩
abbrev cX3_placeOf : ByteArray := prog_5_method_7_code
def yX3_placeOf : MethodName := ⟨RX3, "placeOf", "(LCopyRegister$Lines;LCopyRegister$Lines;LCopyRegister$CommonLines;IZ)I"⟩
def RX4 : String := "CopyRegister$Licence"
def TX4 : u_T := fun k => match k with
  | 0 => ("CopyRegister$Licence", "work", "I", true)
  | 1 => ("CopyRegister$Licence", "use", "I", true)
  | 2 => ("CopyRegister$Licence", "person", "I", true)
  | 3 => ("CopyRegister$Licence", "givenDay", "I", true)
  | 4 => ("CopyRegister$Licence", "from", "I", true)
  | _ => ("CopyRegister$Licence", "to", "I", true)
def tyX4 : Nat → FieldType := fun k => match k with
  | 0 => .int
  | 1 => .int
  | 2 => .int
  | 3 => .int
  | 4 => .int
  | _ => .int
abbrev wsX40 : List Cond := u_ws RX4 TX4 6
theorem nmX4 : ∀ a, a < 6 → ∀ b, b < 6 → a ≠ b → (TX4 a).2.1 ≠ (TX4 b).2.1 := by decide +kernel
theorem tyX4_ok : ∀ k, k < 6 → parseFieldDescriptor (TX4 k).2.2.1 = some (tyX4 k) := by decide +kernel
abbrev cX4_init : ByteArray := prog_6_method_1_code
def yX4_init : MethodName := ⟨RX4, "<init>", "(IIIIII)V"⟩
abbrev cX4_fits : ByteArray := prog_6_method_2_code
def yX4_fits : MethodName := ⟨RX4, "fits", "(III)Z"⟩
abbrev cX4_coversDay : ByteArray := prog_6_method_3_code
def yX4_coversDay : MethodName := ⟨RX4, "coversDay", "(I)Z"⟩
def RX5 : String := "CopyRegister$Lines"
def TX5 : u_T := fun k => match k with
  | 0 => ("CopyRegister$Lines", "rows", "[I", true)
  | _ => ("CopyRegister$Lines", "size", "I", false)
def tyX5 : Nat → FieldType := fun k => match k with
  | 0 => .array .int
  | _ => .int
abbrev wsX50 : List Cond := u_ws RX5 TX5 2
theorem nmX5 : ∀ a, a < 2 → ∀ b, b < 2 → a ≠ b → (TX5 a).2.1 ≠ (TX5 b).2.1 := by decide +kernel
theorem tyX5_ok : ∀ k, k < 2 → parseFieldDescriptor (TX5 k).2.2.1 = some (tyX5 k) := by decide +kernel
abbrev cX5_init : ByteArray := prog_7_method_1_code
def yX5_init : MethodName := ⟨RX5, "<init>", "()V"⟩
abbrev cX5_append : ByteArray := prog_7_method_2_code
def yX5_append : MethodName := ⟨RX5, "append", "(I)I"⟩
abbrev cX5_rowAt : ByteArray := prog_7_method_3_code
def yX5_rowAt : MethodName := ⟨RX5, "rowAt", "(I)I"⟩
abbrev cX5_firstPlaceOf : ByteArray := prog_7_method_4_code
def yX5_firstPlaceOf : MethodName := ⟨RX5, "firstPlaceOf", "(II)I"⟩
abbrev cX5_sizeWithout : ByteArray := prog_7_method_5_code
def yX5_sizeWithout : MethodName := ⟨RX5, "sizeWithout", "(LCopyRegister$CommonLines;)I"⟩
def RX6 : String := "CopyRegister$Page"
def TX6 : u_T := fun k => match k with
  | 0 => ("CopyRegister$Page", "day", "I", true)
  | 1 => ("CopyRegister$Page", "before", "LCopyRegister$Page;", true)
  | _ => ("CopyRegister$Page", "owned", "[I", true)
def tyX6 : Nat → FieldType := fun k => match k with
  | 0 => .int
  | 1 => .object "CopyRegister$Page"
  | _ => .array .int
abbrev wsX60 : List Cond := u_ws RX6 TX6 3
theorem nmX6 : ∀ a, a < 3 → ∀ b, b < 3 → a ≠ b → (TX6 a).2.1 ≠ (TX6 b).2.1 := by decide +kernel
theorem tyX6_ok : ∀ k, k < 3 → parseFieldDescriptor (TX6 k).2.2.1 = some (tyX6 k) := by decide +kernel
abbrev cX6_init : ByteArray := prog_8_method_1_code
def yX6_init : MethodName := ⟨RX6, "<init>", "(ILCopyRegister$Page;)V"⟩
abbrev cX6_placeOf : ByteArray := prog_8_method_2_code
def yX6_placeOf : MethodName := ⟨RX6, "placeOf", "(I)I"⟩
abbrev cX6_sharesOf : ByteArray := prog_8_method_3_code
def yX6_sharesOf : MethodName := ⟨RX6, "sharesOf", "(I)I"⟩
abbrev cX6_change : ByteArray := prog_8_method_4_code
def yX6_change : MethodName := ⟨RX6, "change", "(II)V"⟩
def RX7 : String := "CopyRegister$Person"
def TX7 : u_T := fun k => match k with
  | 0 => ("CopyRegister$Person", "heirNumber", "I", false)
  | 1 => ("CopyRegister$Person", "deathDay", "I", false)
  | _ => ("CopyRegister$Person", "learntDay", "I", false)
def tyX7 : Nat → FieldType := fun k => match k with
  | 0 => .int
  | 1 => .int
  | _ => .int
abbrev wsX70 : List Cond := u_ws RX7 TX7 3
theorem nmX7 : ∀ a, a < 3 → ∀ b, b < 3 → a ≠ b → (TX7 a).2.1 ≠ (TX7 b).2.1 := by decide +kernel
theorem tyX7_ok : ∀ k, k < 3 → parseFieldDescriptor (TX7 k).2.2.1 = some (tyX7 k) := by decide +kernel
abbrev cX7_init : ByteArray := prog_9_method_1_code
def yX7_init : MethodName := ⟨RX7, "<init>", "()V"⟩
abbrev cX7_tellDead : ByteArray := prog_9_method_2_code
def yX7_tellDead : MethodName := ⟨RX7, "tellDead", "(II)V"⟩
abbrev cX7_isToldDead : ByteArray := prog_9_method_3_code
def yX7_isToldDead : MethodName := ⟨RX7, "isToldDead", "()Z"⟩
abbrev cX7_isDeathKnownAt : ByteArray := prog_9_method_4_code
def yX7_isDeathKnownAt : MethodName := ⟨RX7, "isDeathKnownAt", "(I)Z"⟩
def RX8 : String := "CopyRegister$Shares"
def TX8 : u_T := fun k => match k with
  | 0 => ("CopyRegister$Shares", "newest", "LCopyRegister$Page;", false)
  | _ => ("CopyRegister$Shares", "pledged", "[[I", true)
def tyX8 : Nat → FieldType := fun k => match k with
  | 0 => .object "CopyRegister$Page"
  | _ => .array (.array .int)
abbrev wsX80 : List Cond := u_ws RX8 TX8 2
theorem nmX8 : ∀ a, a < 2 → ∀ b, b < 2 → a ≠ b → (TX8 a).2.1 ≠ (TX8 b).2.1 := by decide +kernel
theorem tyX8_ok : ∀ k, k < 2 → parseFieldDescriptor (TX8 k).2.2.1 = some (tyX8 k) := by decide +kernel
abbrev cX8_init : ByteArray := prog_10_method_1_code
def yX8_init : MethodName := ⟨RX8, "<init>", "(II)V"⟩
abbrev cX8_ownedNow : ByteArray := prog_10_method_2_code
def yX8_ownedNow : MethodName := ⟨RX8, "ownedNow", "(I)I"⟩
abbrev cX8_ownedOn : ByteArray := prog_10_method_3_code
def yX8_ownedOn : MethodName := ⟨RX8, "ownedOn", "(II)I"⟩
abbrev cX8_freeOf : ByteArray := prog_10_method_4_code
def yX8_freeOf : MethodName := ⟨RX8, "freeOf", "(I)I"⟩
abbrev cX8_pledgedBy : ByteArray := prog_10_method_5_code
def yX8_pledgedBy : MethodName := ⟨RX8, "pledgedBy", "(I)I"⟩
abbrev cX8_pledgedTo : ByteArray := prog_10_method_6_code
def yX8_pledgedTo : MethodName := ⟨RX8, "pledgedTo", "(II)I"⟩
abbrev cX8_canPledge : ByteArray := prog_10_method_7_code
def yX8_canPledge : MethodName := ⟨RX8, "canPledge", "(II)Z"⟩
abbrev cX8_addPledge : ByteArray := prog_10_method_8_code
def yX8_addPledge : MethodName := ⟨RX8, "addPledge", "(III)V"⟩
abbrev cX8_dropPledge : ByteArray := prog_10_method_9_code
def yX8_dropPledge : MethodName := ⟨RX8, "dropPledge", "(II)I"⟩
abbrev cX8_move : ByteArray := prog_10_method_10_code
def yX8_move : MethodName := ⟨RX8, "move", "(IIII)V"⟩
abbrev cX8_passOn : ByteArray := prog_10_method_11_code
def yX8_passOn : MethodName := ⟨RX8, "passOn", "(III)V"⟩
def RX9 : String := "CopyRegister$Work"
def TX9 : u_T := fun k => match k with
  | 0 => ("CopyRegister$Work", "author", "LCopyRegister$Person;", true)
  | 1 => ("CopyRegister$Work", "entryDay", "I", true)
  | 2 => ("CopyRegister$Work", "shares", "LCopyRegister$Shares;", true)
  | 3 => ("CopyRegister$Work", "agreeing", "[Z", true)
  | _ => ("CopyRegister$Work", "lines", "LCopyRegister$Lines;", true)
def tyX9 : Nat → FieldType := fun k => match k with
  | 0 => .object "CopyRegister$Person"
  | 1 => .int
  | 2 => .object "CopyRegister$Shares"
  | 3 => .array .boolean
  | _ => .object "CopyRegister$Lines"
abbrev wsX90 : List Cond := u_ws RX9 TX9 5
theorem nmX9 : ∀ a, a < 5 → ∀ b, b < 5 → a ≠ b → (TX9 a).2.1 ≠ (TX9 b).2.1 := by decide +kernel
theorem tyX9_ok : ∀ k, k < 5 → parseFieldDescriptor (TX9 k).2.2.1 = some (tyX9 k) := by decide +kernel
abbrev cX9_init : ByteArray := prog_11_method_1_code
def yX9_init : MethodName := ⟨RX9, "<init>", "(LCopyRegister$Person;II)V"⟩
abbrev cX9_setAgreeing : ByteArray := prog_11_method_2_code
def yX9_setAgreeing : MethodName := ⟨RX9, "setAgreeing", "(IZ)Z"⟩
abbrev cX9_agreeingShares : ByteArray := prog_11_method_3_code
def yX9_agreeingShares : MethodName := ⟨RX9, "agreeingShares", "()I"⟩
def RX10 : String := "CopyRegister"
def TX10 : u_T := fun k => match k with
  | 0 => ("CopyRegister", "today", "I", false)
  | 1 => ("CopyRegister", "persons", "[LCopyRegister$Person;", true)
  | 2 => ("CopyRegister", "personCount", "I", false)
  | 3 => ("CopyRegister", "acts", "LCopyRegister$Acts;", true)
  | 4 => ("CopyRegister", "works", "[LCopyRegister$Work;", true)
  | 5 => ("CopyRegister", "workCount", "I", false)
  | 6 => ("CopyRegister", "licences", "[LCopyRegister$Licence;", true)
  | 7 => ("CopyRegister", "licenceCount", "I", false)
  | 8 => ("CopyRegister", "commonLines", "LCopyRegister$CommonLines;", true)
  | _ => ("CopyRegister", "comparison", "LCopyRegister$Comparison;", true)
def tyX10 : Nat → FieldType := fun k => match k with
  | 0 => .int
  | 1 => .array (.object "CopyRegister$Person")
  | 2 => .int
  | 3 => .object "CopyRegister$Acts"
  | 4 => .array (.object "CopyRegister$Work")
  | 5 => .int
  | 6 => .array (.object "CopyRegister$Licence")
  | 7 => .int
  | 8 => .object "CopyRegister$CommonLines"
  | _ => .object "CopyRegister$Comparison"
abbrev wsX100 : List Cond := u_ws RX10 TX10 10
theorem nmX10 : ∀ a, a < 10 → ∀ b, b < 10 → a ≠ b → (TX10 a).2.1 ≠ (TX10 b).2.1 := by decide +kernel
theorem tyX10_ok : ∀ k, k < 10 → parseFieldDescriptor (TX10 k).2.2.1 = some (tyX10 k) := by decide +kernel
abbrev cX10_init : ByteArray := prog_1_method_1_code
def yX10_init : MethodName := ⟨RX10, "<init>", "()V"⟩
abbrev cX10_days : ByteArray := prog_1_method_2_code
def yX10_days : MethodName := ⟨RX10, "days", "(I)I"⟩
abbrev cX10_person : ByteArray := prog_1_method_3_code
def yX10_person : MethodName := ⟨RX10, "person", "()I"⟩
abbrev cX10_heir : ByteArray := prog_1_method_4_code
def yX10_heir : MethodName := ⟨RX10, "heir", "(II)I"⟩
abbrev cX10_death : ByteArray := prog_1_method_5_code
def yX10_death : MethodName := ⟨RX10, "death", "(II)I"⟩
abbrev cX10_died : ByteArray := prog_1_method_6_code
def yX10_died : MethodName := ⟨RX10, "died", "(II)I"⟩
abbrev cX10_act : ByteArray := prog_1_method_7_code
def yX10_act : MethodName := ⟨RX10, "act", "(IIIII)I"⟩
abbrev cX10_work : ByteArray := prog_1_method_8_code
def yX10_work : MethodName := ⟨RX10, "work", "(I)I"⟩
abbrev cX10_end : ByteArray := prog_1_method_9_code
def yX10_end : MethodName := ⟨RX10, "end", "(II)I"⟩
abbrev cX10_inRight : ByteArray := prog_1_method_10_code
def yX10_inRight : MethodName := ⟨RX10, "inRight", "(III)I"⟩
abbrev cX10_sell : ByteArray := prog_1_method_11_code
def yX10_sell : MethodName := ⟨RX10, "sell", "(IIII)I"⟩
abbrev cX10_pledge : ByteArray := prog_1_method_12_code
def yX10_pledge : MethodName := ⟨RX10, "pledge", "(IIII)I"⟩
abbrev cX10_redeem : ByteArray := prog_1_method_13_code
def yX10_redeem : MethodName := ⟨RX10, "redeem", "(III)I"⟩
abbrev cX10_held : ByteArray := prog_1_method_14_code
def yX10_held : MethodName := ⟨RX10, "held", "(III)I"⟩
abbrev cX10_agree : ByteArray := prog_1_method_15_code
def yX10_agree : MethodName := ⟨RX10, "agree", "(IIZ)I"⟩
abbrev cX10_license : ByteArray := prog_1_method_16_code
def yX10_license : MethodName := ⟨RX10, "license", "(IIIII)I"⟩
abbrev cX10_may : ByteArray := prog_1_method_17_code
def yX10_may : MethodName := ⟨RX10, "may", "(IIIII)I"⟩
abbrev cX10_line : ByteArray := prog_1_method_18_code
def yX10_line : MethodName := ⟨RX10, "line", "(II)I"⟩
abbrev cX10_common : ByteArray := prog_1_method_19_code
def yX10_common : MethodName := ⟨RX10, "common", "(IZ)I"⟩
abbrev cX10_alike : ByteArray := prog_1_method_20_code
def yX10_alike : MethodName := ⟨RX10, "alike", "(II)I"⟩
abbrev cX10_pair : ByteArray := prog_1_method_21_code
def yX10_pair : MethodName := ⟨RX10, "pair", "(IIII)I"⟩
abbrev cX10_copied : ByteArray := prog_1_method_22_code
def yX10_copied : MethodName := ⟨RX10, "copied", "(III)I"⟩
abbrev cX10_count : ByteArray := prog_1_method_23_code
def yX10_count : MethodName := ⟨RX10, "count", "(I)I"⟩
abbrev cX10_isWithin : ByteArray := prog_1_method_24_code
def yX10_isWithin : MethodName := ⟨RX10, "isWithin", "(III)Z"⟩
abbrev cX10_isDay : ByteArray := prog_1_method_25_code
def yX10_isDay : MethodName := ⟨RX10, "isDay", "(I)Z"⟩
abbrev cX10_isDayOf : ByteArray := prog_1_method_26_code
def yX10_isDayOf : MethodName := ⟨RX10, "isDayOf", "(LCopyRegister$Work;I)Z"⟩
abbrev cX10_oneIf : ByteArray := prog_1_method_27_code
def yX10_oneIf : MethodName := ⟨RX10, "oneIf", "(Z)I"⟩
abbrev cX10_personAt : ByteArray := prog_1_method_28_code
def yX10_personAt : MethodName := ⟨RX10, "personAt", "(I)LCopyRegister$Person;"⟩
abbrev cX10_workAt : ByteArray := prog_1_method_29_code
def yX10_workAt : MethodName := ⟨RX10, "workAt", "(I)LCopyRegister$Work;"⟩
abbrev cX10_areTwoPersons : ByteArray := prog_1_method_30_code
def yX10_areTwoPersons : MethodName := ⟨RX10, "areTwoPersons", "(II)Z"⟩
abbrev cX10_receiverFrom : ByteArray := prog_1_method_31_code
def yX10_receiverFrom : MethodName := ⟨RX10, "receiverFrom", "(LCopyRegister$Person;)I"⟩
abbrev cX10_isLicensed : ByteArray := prog_1_method_32_code
def yX10_isLicensed : MethodName := ⟨RX10, "isLicensed", "(IIII)Z"⟩
def RX11 : String := "CopyRegisterModel"
def TX11 : u_T := fun k => match k with
  | 0 => ("CopyRegisterModel", "day", "I", false)
  | 1 => ("CopyRegisterModel", "persons", "I", false)
  | 2 => ("CopyRegisterModel", "heir", "[I", true)
  | 3 => ("CopyRegisterModel", "died", "[I", true)
  | 4 => ("CopyRegisterModel", "learnt", "[I", true)
  | 5 => ("CopyRegisterModel", "acts", "I", false)
  | 6 => ("CopyRegisterModel", "actDay", "[I", true)
  | 7 => ("CopyRegisterModel", "fix", "[I", true)
  | 8 => ("CopyRegisterModel", "life", "[I", true)
  | 9 => ("CopyRegisterModel", "way", "[I", true)
  | 10 => ("CopyRegisterModel", "consent", "[I", true)
  | 11 => ("CopyRegisterModel", "works", "I", false)
  | 12 => ("CopyRegisterModel", "author", "[I", true)
  | 13 => ("CopyRegisterModel", "entry", "[I", true)
  | 14 => ("CopyRegisterModel", "moves", "I", false)
  | 15 => ("CopyRegisterModel", "moveDay", "[I", true)
  | 16 => ("CopyRegisterModel", "moveWork", "[I", true)
  | 17 => ("CopyRegisterModel", "moveFrom", "[I", true)
  | 18 => ("CopyRegisterModel", "moveTo", "[I", true)
  | 19 => ("CopyRegisterModel", "moveMany", "[I", true)
  | 20 => ("CopyRegisterModel", "pledged", "[I", true)
  | 21 => ("CopyRegisterModel", "agrees", "[Z", true)
  | 22 => ("CopyRegisterModel", "licences", "I", false)
  | 23 => ("CopyRegisterModel", "licenceWork", "[I", true)
  | 24 => ("CopyRegisterModel", "licenceUse", "[I", true)
  | 25 => ("CopyRegisterModel", "licencePerson", "[I", true)
  | 26 => ("CopyRegisterModel", "licenceFrom", "[I", true)
  | 27 => ("CopyRegisterModel", "licenceTo", "[I", true)
  | 28 => ("CopyRegisterModel", "licenceDay", "[I", true)
  | 29 => ("CopyRegisterModel", "lineMany", "[I", true)
  | 30 => ("CopyRegisterModel", "lines", "[I", true)
  | 31 => ("CopyRegisterModel", "commons", "I", false)
  | 32 => ("CopyRegisterModel", "isCommon", "[Z", true)
  | 33 => ("CopyRegisterModel", "isGap", "Z", false)
  | _ => ("CopyRegisterModel", "rest", "[I", true)
def tyX11 : Nat → FieldType := fun k => match k with
  | 0 => .int
  | 1 => .int
  | 2 => .array .int
  | 3 => .array .int
  | 4 => .array .int
  | 5 => .int
  | 6 => .array .int
  | 7 => .array .int
  | 8 => .array .int
  | 9 => .array .int
  | 10 => .array .int
  | 11 => .int
  | 12 => .array .int
  | 13 => .array .int
  | 14 => .int
  | 15 => .array .int
  | 16 => .array .int
  | 17 => .array .int
  | 18 => .array .int
  | 19 => .array .int
  | 20 => .array .int
  | 21 => .array .boolean
  | 22 => .int
  | 23 => .array .int
  | 24 => .array .int
  | 25 => .array .int
  | 26 => .array .int
  | 27 => .array .int
  | 28 => .array .int
  | 29 => .array .int
  | 30 => .array .int
  | 31 => .int
  | 32 => .array .boolean
  | 33 => .boolean
  | _ => .array .int
abbrev wsX110 : List Cond := u_ws RX11 TX11 35
theorem nmX11 : ∀ a, a < 35 → ∀ b, b < 35 → a ≠ b → (TX11 a).2.1 ≠ (TX11 b).2.1 := by decide +kernel
theorem tyX11_ok : ∀ k, k < 35 → parseFieldDescriptor (TX11 k).2.2.1 = some (tyX11 k) := by decide +kernel
abbrev cX11_init : ByteArray := prog_13_method_1_code
def yX11_init : MethodName := ⟨RX11, "<init>", "()V"⟩
abbrev cX11_in : ByteArray := prog_13_method_2_code
def yX11_in : MethodName := ⟨RX11, "in", "(III)Z"⟩
abbrev cX11_greater : ByteArray := prog_13_method_3_code
def yX11_greater : MethodName := ⟨RX11, "greater", "(II)I"⟩
abbrev cX11_days : ByteArray := prog_13_method_4_code
def yX11_days : MethodName := ⟨RX11, "days", "(I)I"⟩
abbrev cX11_isPerson : ByteArray := prog_13_method_5_code
def yX11_isPerson : MethodName := ⟨RX11, "isPerson", "(I)Z"⟩
abbrev cX11_isWork : ByteArray := prog_13_method_6_code
def yX11_isWork : MethodName := ⟨RX11, "isWork", "(I)Z"⟩
abbrev cX11_person : ByteArray := prog_13_method_7_code
def yX11_person : MethodName := ⟨RX11, "person", "()I"⟩
abbrev cX11_heir : ByteArray := prog_13_method_8_code
def yX11_heir : MethodName := ⟨RX11, "heir", "(II)I"⟩
abbrev cX11_death : ByteArray := prog_13_method_9_code
def yX11_death : MethodName := ⟨RX11, "death", "(II)I"⟩
abbrev cX11_deathAt : ByteArray := prog_13_method_10_code
def yX11_deathAt : MethodName := ⟨RX11, "deathAt", "(II)I"⟩
abbrev cX11_died : ByteArray := prog_13_method_11_code
def yX11_died : MethodName := ⟨RX11, "died", "(II)I"⟩
abbrev cX11_act : ByteArray := prog_13_method_12_code
def yX11_act : MethodName := ⟨RX11, "act", "(IIIII)I"⟩
abbrev cX11_actAt : ByteArray := prog_13_method_13_code
def yX11_actAt : MethodName := ⟨RX11, "actAt", "(I)I"⟩
abbrev cX11_work : ByteArray := prog_13_method_14_code
def yX11_work : MethodName := ⟨RX11, "work", "(I)I"⟩
abbrev cX11_endBy : ByteArray := prog_13_method_15_code
def yX11_endBy : MethodName := ⟨RX11, "endBy", "(III)I"⟩
abbrev cX11_endAt : ByteArray := prog_13_method_16_code
def yX11_endAt : MethodName := ⟨RX11, "endAt", "(III)I"⟩
abbrev cX11_end : ByteArray := prog_13_method_17_code
def yX11_end : MethodName := ⟨RX11, "end", "(II)I"⟩
abbrev cX11_hasRight : ByteArray := prog_13_method_18_code
def yX11_hasRight : MethodName := ⟨RX11, "hasRight", "(III)Z"⟩
abbrev cX11_inRight : ByteArray := prog_13_method_19_code
def yX11_inRight : MethodName := ⟨RX11, "inRight", "(III)I"⟩
abbrev cX11_move : ByteArray := prog_13_method_20_code
def yX11_move : MethodName := ⟨RX11, "move", "(IIII)V"⟩
abbrev cX11_holds : ByteArray := prog_13_method_21_code
def yX11_holds : MethodName := ⟨RX11, "holds", "(III)I"⟩
abbrev cX11_pledgedBy : ByteArray := prog_13_method_22_code
def yX11_pledgedBy : MethodName := ⟨RX11, "pledgedBy", "(II)I"⟩
abbrev cX11_freeOf : ByteArray := prog_13_method_23_code
def yX11_freeOf : MethodName := ⟨RX11, "freeOf", "(II)I"⟩
abbrev cX11_areTwo : ByteArray := prog_13_method_24_code
def yX11_areTwo : MethodName := ⟨RX11, "areTwo", "(III)Z"⟩
abbrev cX11_sell : ByteArray := prog_13_method_25_code
def yX11_sell : MethodName := ⟨RX11, "sell", "(IIII)I"⟩
abbrev cX11_pledge : ByteArray := prog_13_method_26_code
def yX11_pledge : MethodName := ⟨RX11, "pledge", "(IIII)I"⟩
abbrev cX11_redeem : ByteArray := prog_13_method_27_code
def yX11_redeem : MethodName := ⟨RX11, "redeem", "(III)I"⟩
abbrev cX11_held : ByteArray := prog_13_method_28_code
def yX11_held : MethodName := ⟨RX11, "held", "(III)I"⟩
abbrev cX11_agree : ByteArray := prog_13_method_29_code
def yX11_agree : MethodName := ⟨RX11, "agree", "(IIZ)I"⟩
abbrev cX11_isAgreed : ByteArray := prog_13_method_30_code
def yX11_isAgreed : MethodName := ⟨RX11, "isAgreed", "(I)Z"⟩
abbrev cX11_license : ByteArray := prog_13_method_31_code
def yX11_license : MethodName := ⟨RX11, "license", "(IIIII)I"⟩
abbrev cX11_may : ByteArray := prog_13_method_32_code
def yX11_may : MethodName := ⟨RX11, "may", "(IIIII)I"⟩
abbrev cX11_line : ByteArray := prog_13_method_33_code
def yX11_line : MethodName := ⟨RX11, "line", "(II)I"⟩
abbrev cX11_common : ByteArray := prog_13_method_34_code
def yX11_common : MethodName := ⟨RX11, "common", "(IZ)I"⟩
abbrev cX11_areLike : ByteArray := prog_13_method_35_code
def yX11_areLike : MethodName := ⟨RX11, "areLike", "(IIII)Z"⟩
abbrev cX11_layRest : ByteArray := prog_13_method_36_code
def yX11_layRest : MethodName := ⟨RX11, "layRest", "(II)V"⟩
abbrev cX11_alike : ByteArray := prog_13_method_37_code
def yX11_alike : MethodName := ⟨RX11, "alike", "(II)I"⟩
abbrev cX11_placeFor : ByteArray := prog_13_method_38_code
def yX11_placeFor : MethodName := ⟨RX11, "placeFor", "(IIIII)I"⟩
abbrev cX11_pair : ByteArray := prog_13_method_39_code
def yX11_pair : MethodName := ⟨RX11, "pair", "(IIII)I"⟩
abbrev cX11_copied : ByteArray := prog_13_method_40_code
def yX11_copied : MethodName := ⟨RX11, "copied", "(III)I"⟩
abbrev cX11_count : ByteArray := prog_13_method_41_code
def yX11_count : MethodName := ⟨RX11, "count", "(I)I"⟩
def RJ9 : String := "java/lang/Math"
def TJ9 : u_T := fun k => match k with
  | _ => ("", "", "", false)
def tyJ9 : Nat → FieldType := fun k => match k with
  | _ => .int
abbrev wsJ90 : List Cond := u_ws RJ9 TJ9 0
theorem nmJ9 : ∀ a, a < 0 → ∀ b, b < 0 → a ≠ b → (TJ9 a).2.1 ≠ (TJ9 b).2.1 := by decide +kernel
theorem tyJ9_ok : ∀ k, k < 0 → parseFieldDescriptor (TJ9 k).2.2.1 = some (tyJ9 k) := by decide +kernel
abbrev cJ9_max_7cf53 : ByteArray := prog_14_method_65_code
def yJ9_max_7cf53 : MethodName := ⟨RJ9, "max", "(II)I"⟩
def RJ10 : String := "java/lang/System"
def TJ10 : u_T := fun k => match k with
  | _ => ("", "", "", false)
def tyJ10 : Nat → FieldType := fun k => match k with
  | _ => .int
abbrev wsJ100 : List Cond := u_ws RJ10 TJ10 0
theorem nmJ10 : ∀ a, a < 0 → ∀ b, b < 0 → a ≠ b → (TJ10 a).2.1 ≠ (TJ10 b).2.1 := by decide +kernel
theorem tyJ10_ok : ∀ k, k < 0 → parseFieldDescriptor (TJ10 k).2.2.1 = some (tyJ10 k) := by decide +kernel
def RL : String := "CopyRegisterLaw"
abbrev cL_law : ByteArray := code
def yL_law : MethodName := ⟨RL, "law", "([I)Z"⟩
