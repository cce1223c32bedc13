section
-- ===== PART A: goes FIRST, ahead of the names: the tables' words, and 'selects' of the private methods out of them =====
/-- a private method of a class that the tables say can be made, by its rows of tables_1 -/
def lw_okq (q : MethodName × Nat) : Prop := (q.1.cls ≠ "java/lang/invoke/MethodHandle" ∧ q.1.cls ≠ "java/lang/invoke/VarHandle") ∧ Cond.instantiable q.1.cls q.2 ∈ tables_1 ∧ Cond.privateMethod q.1 ∈ tables_1 ∧ Cond.instanceMethod q.1 ∈ tables_1
theorem lw_p0 : lw_okq (⟨"ColourWorks$Store", "isUsable", "(II)Z"⟩, 5) := ⟨⟨by decide +kernel, by decide +kernel⟩, List.mem_of_getElem? (i := 47) (by decide +kernel), List.mem_of_getElem? (i := 381) (by decide +kernel), List.mem_of_getElem? (i := 382) (by decide +kernel)⟩
theorem lw_p1 : lw_okq (⟨"ColourWorks$Cookbook", "resolveAll", "()Z"⟩, 7) := ⟨⟨by decide +kernel, by decide +kernel⟩, List.mem_of_getElem? (i := 72) (by decide +kernel), List.mem_of_getElem? (i := 409) (by decide +kernel), List.mem_of_getElem? (i := 410) (by decide +kernel)⟩
theorem lw_p2 : lw_okq (⟨"ColourWorks$Cookbook", "resolveInTrial", "(I)I"⟩, 7) := ⟨⟨by decide +kernel, by decide +kernel⟩, List.mem_of_getElem? (i := 72) (by decide +kernel), List.mem_of_getElem? (i := 416) (by decide +kernel), List.mem_of_getElem? (i := 417) (by decide +kernel)⟩
theorem lw_p3 : lw_okq (⟨"ColourWorks$Cookbook", "addPartToTrial", "(II)V"⟩, 7) := ⟨⟨by decide +kernel, by decide +kernel⟩, List.mem_of_getElem? (i := 72) (by decide +kernel), List.mem_of_getElem? (i := 420) (by decide +kernel), List.mem_of_getElem? (i := 421) (by decide +kernel)⟩
theorem lw_p4 : lw_okq (⟨"ColourWorks", "hasBatch", "(I)Z"⟩, 12) := ⟨⟨by decide +kernel, by decide +kernel⟩, List.mem_of_getElem? (i := 18) (by decide +kernel), List.mem_of_getElem? (i := 443) (by decide +kernel), List.mem_of_getElem? (i := 444) (by decide +kernel)⟩
theorem lw_p5 : lw_okq (⟨"ColourWorks", "takeWanted", "(LColourWorks$Batch;)I"⟩, 12) := ⟨⟨by decide +kernel, by decide +kernel⟩, List.mem_of_getElem? (i := 18) (by decide +kernel), List.mem_of_getElem? (i := 448) (by decide +kernel), List.mem_of_getElem? (i := 449) (by decide +kernel)⟩
theorem lw_p6 : lw_okq (⟨"ColourWorks$Store", "nextToEnd", "(I)I"⟩, 5) := ⟨⟨by decide +kernel, by decide +kernel⟩, List.mem_of_getElem? (i := 47) (by decide +kernel), List.mem_of_getElem? (i := 464) (by decide +kernel), List.mem_of_getElem? (i := 465) (by decide +kernel)⟩
theorem lw_p7 : lw_okq (⟨"ColourWorks$Palette", "weighted", "([I[II)J"⟩, 3) := ⟨⟨by decide +kernel, by decide +kernel⟩, List.mem_of_getElem? (i := 26) (by decide +kernel), List.mem_of_getElem? (i := 501) (by decide +kernel), List.mem_of_getElem? (i := 502) (by decide +kernel)⟩
theorem lw_p8 : lw_okq (⟨"ColourWorks$DropSearch", "judge", "()V"⟩, 11) := ⟨⟨by decide +kernel, by decide +kernel⟩, List.mem_of_getElem? (i := 104) (by decide +kernel), List.mem_of_getElem? (i := 514) (by decide +kernel), List.mem_of_getElem? (i := 515) (by decide +kernel)⟩
theorem lw_p9 : lw_okq (⟨"ColourWorks$DropSearch", "missOfTrial", "()I"⟩, 11) := ⟨⟨by decide +kernel, by decide +kernel⟩, List.mem_of_getElem? (i := 104) (by decide +kernel), List.mem_of_getElem? (i := 518) (by decide +kernel), List.mem_of_getElem? (i := 519) (by decide +kernel)⟩
theorem lw_p10 : lw_okq (⟨"ColourWorks$DropSearch", "advance", "(LColourWorks$Palette;)Z"⟩, 11) := ⟨⟨by decide +kernel, by decide +kernel⟩, List.mem_of_getElem? (i := 104) (by decide +kernel), List.mem_of_getElem? (i := 537) (by decide +kernel), List.mem_of_getElem? (i := 538) (by decide +kernel)⟩
theorem lw_p11 : lw_okq (⟨"ColourWorks$DropSearch", "change", "(IILColourWorks$Palette;)V"⟩, 11) := ⟨⟨by decide +kernel, by decide +kernel⟩, List.mem_of_getElem? (i := 104) (by decide +kernel), List.mem_of_getElem? (i := 541) (by decide +kernel), List.mem_of_getElem? (i := 542) (by decide +kernel)⟩
theorem lw_p12 : lw_okq (⟨"ColourWorks$Tank", "isAlike", "(LColourWorks$Mix;LColourWorks$Palette;I)Z"⟩, 7) := ⟨⟨by decide +kernel, by decide +kernel⟩, List.mem_of_getElem? (i := 253) (by decide +kernel), List.mem_of_getElem? (i := 595) (by decide +kernel), List.mem_of_getElem? (i := 596) (by decide +kernel)⟩
theorem lw_p13 : lw_okq (⟨"ColourWorks$Tank", "coversStain", "(LColourWorks$Mix;LColourWorks$Palette;)Z"⟩, 7) := ⟨⟨by decide +kernel, by decide +kernel⟩, List.mem_of_getElem? (i := 253) (by decide +kernel), List.mem_of_getElem? (i := 601) (by decide +kernel), List.mem_of_getElem? (i := 602) (by decide +kernel)⟩
theorem lw_p14 : lw_okq (⟨"ColourWorks", "openBatchesWith", "(I)I"⟩, 12) := ⟨⟨by decide +kernel, by decide +kernel⟩, List.mem_of_getElem? (i := 18) (by decide +kernel), List.mem_of_getElem? (i := 682) (by decide +kernel), List.mem_of_getElem? (i := 683) (by decide +kernel)⟩
theorem lw_p15 : lw_okq (⟨"ColourWorks", "tanksWith", "(I)I"⟩, 12) := ⟨⟨by decide +kernel, by decide +kernel⟩, List.mem_of_getElem? (i := 18) (by decide +kernel), List.mem_of_getElem? (i := 686) (by decide +kernel), List.mem_of_getElem? (i := 687) (by decide +kernel)⟩
def lw_privs_1 : List (MethodName × Nat) := [(⟨"ColourWorks$Store", "isUsable", "(II)Z"⟩, 5), (⟨"ColourWorks$Cookbook", "resolveAll", "()Z"⟩, 7), (⟨"ColourWorks$Cookbook", "resolveInTrial", "(I)I"⟩, 7), (⟨"ColourWorks$Cookbook", "addPartToTrial", "(II)V"⟩, 7), (⟨"ColourWorks", "hasBatch", "(I)Z"⟩, 12), (⟨"ColourWorks", "takeWanted", "(LColourWorks$Batch;)I"⟩, 12), (⟨"ColourWorks$Store", "nextToEnd", "(I)I"⟩, 5), (⟨"ColourWorks$Palette", "weighted", "([I[II)J"⟩, 3), (⟨"ColourWorks$DropSearch", "judge", "()V"⟩, 11), (⟨"ColourWorks$DropSearch", "missOfTrial", "()I"⟩, 11), (⟨"ColourWorks$DropSearch", "advance", "(LColourWorks$Palette;)Z"⟩, 11), (⟨"ColourWorks$DropSearch", "change", "(IILColourWorks$Palette;)V"⟩, 11), (⟨"ColourWorks$Tank", "isAlike", "(LColourWorks$Mix;LColourWorks$Palette;I)Z"⟩, 7), (⟨"ColourWorks$Tank", "coversStain", "(LColourWorks$Mix;LColourWorks$Palette;)Z"⟩, 7), (⟨"ColourWorks", "openBatchesWith", "(I)I"⟩, 12), (⟨"ColourWorks", "tanksWith", "(I)I"⟩, 12)]
theorem lw_r1 : ∀ q ∈ lw_privs_1, lw_okq q := List.forall_mem_cons.mpr ⟨lw_p0, List.forall_mem_cons.mpr ⟨lw_p1, List.forall_mem_cons.mpr ⟨lw_p2, List.forall_mem_cons.mpr ⟨lw_p3, List.forall_mem_cons.mpr ⟨lw_p4, List.forall_mem_cons.mpr ⟨lw_p5, List.forall_mem_cons.mpr ⟨lw_p6, List.forall_mem_cons.mpr ⟨lw_p7, List.forall_mem_cons.mpr ⟨lw_p8, List.forall_mem_cons.mpr ⟨lw_p9, List.forall_mem_cons.mpr ⟨lw_p10, List.forall_mem_cons.mpr ⟨lw_p11, List.forall_mem_cons.mpr ⟨lw_p12, List.forall_mem_cons.mpr ⟨lw_p13, List.forall_mem_cons.mpr ⟨lw_p14, List.forall_mem_cons.mpr ⟨lw_p15, fun _ h => absurd h List.not_mem_nil⟩⟩⟩⟩⟩⟩⟩⟩⟩⟩⟩⟩⟩⟩⟩⟩
theorem lw_p16 : lw_okq (⟨"ColourWorks$Schedule", "timeOfSet", "(I)I"⟩, 9) := ⟨⟨by decide +kernel, by decide +kernel⟩, List.mem_of_getElem? (i := 180) (by decide +kernel), List.mem_of_getElem? (i := 717) (by decide +kernel), List.mem_of_getElem? (i := 718) (by decide +kernel)⟩
theorem lw_p17 : lw_okq (⟨"ColourWorks$Schedule", "bestNext", "(III)I"⟩, 9) := ⟨⟨by decide +kernel, by decide +kernel⟩, List.mem_of_getElem? (i := 180) (by decide +kernel), List.mem_of_getElem? (i := 722) (by decide +kernel), List.mem_of_getElem? (i := 723) (by decide +kernel)⟩
theorem lw_p18 : lw_okq (⟨"ColourWorks$Schedule", "costWith", "(IIII)I"⟩, 9) := ⟨⟨by decide +kernel, by decide +kernel⟩, List.mem_of_getElem? (i := 180) (by decide +kernel), List.mem_of_getElem? (i := 726) (by decide +kernel), List.mem_of_getElem? (i := 727) (by decide +kernel)⟩
theorem lw_p19 : lw_okq (⟨"ColourWorks$Schedule", "writeOrder", "(I)V"⟩, 9) := ⟨⟨by decide +kernel, by decide +kernel⟩, List.mem_of_getElem? (i := 180) (by decide +kernel), List.mem_of_getElem? (i := 731) (by decide +kernel), List.mem_of_getElem? (i := 732) (by decide +kernel)⟩
theorem lw_p20 : lw_okq (⟨"ColourWorksModel", "isBase", "(I)Z"⟩, 49) := ⟨⟨by decide +kernel, by decide +kernel⟩, List.mem_of_getElem? (i := 747) (by decide +kernel), List.mem_of_getElem? (i := 912) (by decide +kernel), List.mem_of_getElem? (i := 913) (by decide +kernel)⟩
theorem lw_p21 : lw_okq (⟨"ColourWorksModel", "mayOf", "(I)I"⟩, 49) := ⟨⟨by decide +kernel, by decide +kernel⟩, List.mem_of_getElem? (i := 747) (by decide +kernel), List.mem_of_getElem? (i := 928) (by decide +kernel), List.mem_of_getElem? (i := 929) (by decide +kernel)⟩
theorem lw_p22 : lw_okq (⟨"ColourWorksModel", "mayTake", "(II)Z"⟩, 49) := ⟨⟨by decide +kernel, by decide +kernel⟩, List.mem_of_getElem? (i := 747) (by decide +kernel), List.mem_of_getElem? (i := 932) (by decide +kernel), List.mem_of_getElem? (i := 933) (by decide +kernel)⟩
theorem lw_p23 : lw_okq (⟨"ColourWorksModel", "findNeeds", "()Z"⟩, 49) := ⟨⟨by decide +kernel, by decide +kernel⟩, List.mem_of_getElem? (i := 747) (by decide +kernel), List.mem_of_getElem? (i := 948) (by decide +kernel), List.mem_of_getElem? (i := 949) (by decide +kernel)⟩
theorem lw_p24 : lw_okq (⟨"ColourWorksModel", "isBatch", "(I)Z"⟩, 49) := ⟨⟨by decide +kernel, by decide +kernel⟩, List.mem_of_getElem? (i := 747) (by decide +kernel), List.mem_of_getElem? (i := 964) (by decide +kernel), List.mem_of_getElem? (i := 965) (by decide +kernel)⟩
theorem lw_p25 : lw_okq (⟨"ColourWorksModel", "unitsOf", "(I)I"⟩, 49) := ⟨⟨by decide +kernel, by decide +kernel⟩, List.mem_of_getElem? (i := 747) (by decide +kernel), List.mem_of_getElem? (i := 968) (by decide +kernel), List.mem_of_getElem? (i := 969) (by decide +kernel)⟩
theorem lw_p26 : lw_okq (⟨"ColourWorksModel", "take", "(III)V"⟩, 49) := ⟨⟨by decide +kernel, by decide +kernel⟩, List.mem_of_getElem? (i := 747) (by decide +kernel), List.mem_of_getElem? (i := 972) (by decide +kernel), List.mem_of_getElem? (i := 973) (by decide +kernel)⟩
theorem lw_p27 : lw_okq (⟨"ColourWorksModel", "missOf", "(I[IIII)I"⟩, 49) := ⟨⟨by decide +kernel, by decide +kernel⟩, List.mem_of_getElem? (i := 747) (by decide +kernel), List.mem_of_getElem? (i := 988) (by decide +kernel), List.mem_of_getElem? (i := 989) (by decide +kernel)⟩
theorem lw_p28 : lw_okq (⟨"ColourWorksModel", "shadeOf", "([II[II)I"⟩, 49) := ⟨⟨by decide +kernel, by decide +kernel⟩, List.mem_of_getElem? (i := 747) (by decide +kernel), List.mem_of_getElem? (i := 992) (by decide +kernel), List.mem_of_getElem? (i := 993) (by decide +kernel)⟩
theorem lw_p29 : lw_okq (⟨"ColourWorksModel", "hasNext", "([II)Z"⟩, 49) := ⟨⟨by decide +kernel, by decide +kernel⟩, List.mem_of_getElem? (i := 747) (by decide +kernel), List.mem_of_getElem? (i := 998) (by decide +kernel), List.mem_of_getElem? (i := 999) (by decide +kernel)⟩
theorem lw_p30 : lw_okq (⟨"ColourWorksModel", "mayPour", "(II)Z"⟩, 49) := ⟨⟨by decide +kernel, by decide +kernel⟩, List.mem_of_getElem? (i := 747) (by decide +kernel), List.mem_of_getElem? (i := 1038) (by decide +kernel), List.mem_of_getElem? (i := 1039) (by decide +kernel)⟩
theorem lw_p31 : lw_okq (⟨"ColourWorksModel", "bestNext", "(II)I"⟩, 49) := ⟨⟨by decide +kernel, by decide +kernel⟩, List.mem_of_getElem? (i := 747) (by decide +kernel), List.mem_of_getElem? (i := 1088) (by decide +kernel), List.mem_of_getElem? (i := 1089) (by decide +kernel)⟩
def lw_privs_2 : List (MethodName × Nat) := [(⟨"ColourWorks$Schedule", "timeOfSet", "(I)I"⟩, 9), (⟨"ColourWorks$Schedule", "bestNext", "(III)I"⟩, 9), (⟨"ColourWorks$Schedule", "costWith", "(IIII)I"⟩, 9), (⟨"ColourWorks$Schedule", "writeOrder", "(I)V"⟩, 9), (⟨"ColourWorksModel", "isBase", "(I)Z"⟩, 49), (⟨"ColourWorksModel", "mayOf", "(I)I"⟩, 49), (⟨"ColourWorksModel", "mayTake", "(II)Z"⟩, 49), (⟨"ColourWorksModel", "findNeeds", "()Z"⟩, 49), (⟨"ColourWorksModel", "isBatch", "(I)Z"⟩, 49), (⟨"ColourWorksModel", "unitsOf", "(I)I"⟩, 49), (⟨"ColourWorksModel", "take", "(III)V"⟩, 49), (⟨"ColourWorksModel", "missOf", "(I[IIII)I"⟩, 49), (⟨"ColourWorksModel", "shadeOf", "([II[II)I"⟩, 49), (⟨"ColourWorksModel", "hasNext", "([II)Z"⟩, 49), (⟨"ColourWorksModel", "mayPour", "(II)Z"⟩, 49), (⟨"ColourWorksModel", "bestNext", "(II)I"⟩, 49)]
theorem lw_r2 : ∀ q ∈ lw_privs_2, lw_okq q := List.forall_mem_cons.mpr ⟨lw_p16, List.forall_mem_cons.mpr ⟨lw_p17, List.forall_mem_cons.mpr ⟨lw_p18, List.forall_mem_cons.mpr ⟨lw_p19, List.forall_mem_cons.mpr ⟨lw_p20, List.forall_mem_cons.mpr ⟨lw_p21, List.forall_mem_cons.mpr ⟨lw_p22, List.forall_mem_cons.mpr ⟨lw_p23, List.forall_mem_cons.mpr ⟨lw_p24, List.forall_mem_cons.mpr ⟨lw_p25, List.forall_mem_cons.mpr ⟨lw_p26, List.forall_mem_cons.mpr ⟨lw_p27, List.forall_mem_cons.mpr ⟨lw_p28, List.forall_mem_cons.mpr ⟨lw_p29, List.forall_mem_cons.mpr ⟨lw_p30, List.forall_mem_cons.mpr ⟨lw_p31, fun _ h => absurd h List.not_mem_nil⟩⟩⟩⟩⟩⟩⟩⟩⟩⟩⟩⟩⟩⟩⟩⟩
theorem lw_p32 : lw_okq (⟨"ColourWorksModel", "through", "(III)I"⟩, 49) := ⟨⟨by decide +kernel, by decide +kernel⟩, List.mem_of_getElem? (i := 747) (by decide +kernel), List.mem_of_getElem? (i := 1092) (by decide +kernel), List.mem_of_getElem? (i := 1093) (by decide +kernel)⟩
def lw_privs_3 : List (MethodName × Nat) := [(⟨"ColourWorksModel", "through", "(III)I"⟩, 49)]
theorem lw_r3 : ∀ q ∈ lw_privs_3, lw_okq q := List.forall_mem_cons.mpr ⟨lw_p32, fun _ h => absurd h List.not_mem_nil⟩
def lw_privs : List (MethodName × Nat) := lw_privs_1 ++ (lw_privs_2 ++ (lw_privs_3))
def lw_tbl : List Cond := k2_sels lw_privs ++ tables_1
theorem lw_privs_ok : ∀ q ∈ lw_privs, lw_okq q := by
  show ∀ q ∈ lw_privs_1 ++ (lw_privs_2 ++ (lw_privs_3)), lw_okq q
  exact List.forall_mem_append.mpr ⟨lw_r1, List.forall_mem_append.mpr ⟨lw_r2, lw_r3⟩⟩
end
section
def RX0 : String := "ColourWorks$Batch"
def TX0 : u_T := fun k => match k with
  | 0 => ("ColourWorks$Batch", "mix", "LColourWorks$Mix;", true)
  | _ => ("ColourWorks$Batch", "poured", "Z", false)
def tyX0 : Nat → FieldType := fun k => match k with
  | 0 => .object "ColourWorks$Mix"
  | _ => .boolean
abbrev wsX00 : List Cond := u_ws RX0 TX0 2
theorem nmX0 : ∀ a, a < 2 → ∀ b, b < 2 → a ≠ b → (TX0 a).2.1 ≠ (TX0 b).2.1 := by decide +kernel
theorem tyX0_ok : ∀ k, k < 2 → parseFieldDescriptor (TX0 k).2.2.1 = some (tyX0 k) := by decide +kernel
abbrev cX0_init : ByteArray := prog_2_method_1_code
def yX0_init : MethodName := ⟨RX0, "<init>", "()V"⟩
def RX1 : String := "ColourWorks$Cookbook"
def TX1 : u_T := fun k => match k with
  | 0 => ("ColourWorks$Cookbook", "ofElder", "[Z", true)
  | 1 => ("ColourWorks$Cookbook", "source", "[I", true)
  | 2 => ("ColourWorks$Cookbook", "times", "[I", true)
  | 3 => ("ColourWorks$Cookbook", "partCount", "[I", true)
  | 4 => ("ColourWorks$Cookbook", "needs", "[I", true)
  | 5 => ("ColourWorks$Cookbook", "trial", "[I", true)
  | _ => ("ColourWorks$Cookbook", "size", "I", false)
def tyX1 : Nat → FieldType := fun k => match k with
  | 0 => .array .boolean
  | 1 => .array .int
  | 2 => .array .int
  | 3 => .array .int
  | 4 => .array .int
  | 5 => .array .int
  | _ => .int
abbrev wsX10 : List Cond := u_ws RX1 TX1 7
theorem nmX1 : ∀ a, a < 7 → ∀ b, b < 7 → a ≠ b → (TX1 a).2.1 ≠ (TX1 b).2.1 := by decide +kernel
theorem tyX1_ok : ∀ k, k < 7 → parseFieldDescriptor (TX1 k).2.2.1 = some (tyX1 k) := by decide +kernel
abbrev cX1_init : ByteArray := prog_3_method_1_code
def yX1_init : MethodName := ⟨RX1, "<init>", "()V"⟩
abbrev cX1_has : ByteArray := prog_3_method_2_code
def yX1_has : MethodName := ⟨RX1, "has", "(I)Z"⟩
abbrev cX1_add : ByteArray := prog_3_method_3_code
def yX1_add : MethodName := ⟨RX1, "add", "()I"⟩
abbrev cX1_need : ByteArray := prog_3_method_4_code
def yX1_need : MethodName := ⟨RX1, "need", "(II)I"⟩
abbrev cX1_addPart : ByteArray := prog_3_method_5_code
def yX1_addPart : MethodName := ⟨RX1, "addPart", "(IZII)I"⟩
abbrev cX1_resolveAll : ByteArray := prog_3_method_6_code
def yX1_resolveAll : MethodName := ⟨RX1, "resolveAll", "()Z"⟩
abbrev cX1_resolveInTrial : ByteArray := prog_3_method_7_code
def yX1_resolveInTrial : MethodName := ⟨RX1, "resolveInTrial", "(I)I"⟩
abbrev cX1_addPartToTrial : ByteArray := prog_3_method_8_code
def yX1_addPartToTrial : MethodName := ⟨RX1, "addPartToTrial", "(II)V"⟩
def RX2 : String := "ColourWorks$DropSearch"
def TX2 : u_T := fun k => match k with
  | 0 => ("ColourWorks$DropSearch", "best", "[I", true)
  | 1 => ("ColourWorks$DropSearch", "hasFound", "Z", false)
  | 2 => ("ColourWorks$DropSearch", "bestMiss", "I", false)
  | 3 => ("ColourWorks$DropSearch", "bestUnits", "I", false)
  | 4 => ("ColourWorks$DropSearch", "aim", "[I", true)
  | 5 => ("ColourWorks$DropSearch", "caps", "[I", true)
  | 6 => ("ColourWorks$DropSearch", "trial", "[I", true)
  | 7 => ("ColourWorks$DropSearch", "trialUnits", "I", false)
  | 8 => ("ColourWorks$DropSearch", "room", "I", false)
  | 9 => ("ColourWorks$DropSearch", "absorbed", "[J", true)
  | _ => ("ColourWorks$DropSearch", "scattered", "[J", true)
def tyX2 : Nat → FieldType := fun k => match k with
  | 0 => .array .int
  | 1 => .boolean
  | 2 => .int
  | 3 => .int
  | 4 => .array .int
  | 5 => .array .int
  | 6 => .array .int
  | 7 => .int
  | 8 => .int
  | 9 => .array .long
  | _ => .array .long
abbrev wsX20 : List Cond := u_ws RX2 TX2 11
theorem nmX2 : ∀ a, a < 11 → ∀ b, b < 11 → a ≠ b → (TX2 a).2.1 ≠ (TX2 b).2.1 := by decide +kernel
theorem tyX2_ok : ∀ k, k < 11 → parseFieldDescriptor (TX2 k).2.2.1 = some (tyX2 k) := by decide +kernel
abbrev cX2_init : ByteArray := prog_4_method_1_code
def yX2_init : MethodName := ⟨RX2, "<init>", "()V"⟩
abbrev cX2_aimAt : ByteArray := prog_4_method_2_code
def yX2_aimAt : MethodName := ⟨RX2, "aimAt", "(III)V"⟩
abbrev cX2_start : ByteArray := prog_4_method_3_code
def yX2_start : MethodName := ⟨RX2, "start", "(LColourWorks$Mix;ILColourWorks$Palette;LColourWorks$Store;)V"⟩
abbrev cX2_run : ByteArray := prog_4_method_4_code
def yX2_run : MethodName := ⟨RX2, "run", "(LColourWorks$Palette;)I"⟩
abbrev cX2_judge : ByteArray := prog_4_method_5_code
def yX2_judge : MethodName := ⟨RX2, "judge", "()V"⟩
abbrev cX2_missOfTrial : ByteArray := prog_4_method_6_code
def yX2_missOfTrial : MethodName := ⟨RX2, "missOfTrial", "()I"⟩
abbrev cX2_advance : ByteArray := prog_4_method_7_code
def yX2_advance : MethodName := ⟨RX2, "advance", "(LColourWorks$Palette;)Z"⟩
abbrev cX2_change : ByteArray := prog_4_method_8_code
def yX2_change : MethodName := ⟨RX2, "change", "(IILColourWorks$Palette;)V"⟩
def RX3 : String := "ColourWorks$DrumYard"
def TX3 : u_T := fun k => match k with
  | 0 => ("ColourWorks$DrumYard", "units", "[I", true)
  | 1 => ("ColourWorks$DrumYard", "fromTank", "[I", true)
  | 2 => ("ColourWorks$DrumYard", "filledOn", "[I", true)
  | 3 => ("ColourWorks$DrumYard", "batches", "[I", true)
  | 4 => ("ColourWorks$DrumYard", "lots", "[J", true)
  | _ => ("ColourWorks$DrumYard", "size", "I", false)
def tyX3 : Nat → FieldType := fun k => match k with
  | 0 => .array .int
  | 1 => .array .int
  | 2 => .array .int
  | 3 => .array .int
  | 4 => .array .long
  | _ => .int
abbrev wsX30 : List Cond := u_ws RX3 TX3 6
theorem nmX3 : ∀ a, a < 6 → ∀ b, b < 6 → a ≠ b → (TX3 a).2.1 ≠ (TX3 b).2.1 := by decide +kernel
theorem tyX3_ok : ∀ k, k < 6 → parseFieldDescriptor (TX3 k).2.2.1 = some (tyX3 k) := by decide +kernel
abbrev cX3_init : ByteArray := prog_5_method_1_code
def yX3_init : MethodName := ⟨RX3, "<init>", "()V"⟩
abbrev cX3_has : ByteArray := prog_5_method_2_code
def yX3_has : MethodName := ⟨RX3, "has", "(I)Z"⟩
abbrev cX3_add : ByteArray := prog_5_method_3_code
def yX3_add : MethodName := ⟨RX3, "add", "(IIILColourWorks$Tank;)I"⟩
abbrev cX3_countWith : ByteArray := prog_5_method_4_code
def yX3_countWith : MethodName := ⟨RX3, "countWith", "(I)I"⟩
def RX4 : String := "ColourWorks$Mix"
def TX4 : u_T := fun k => match k with
  | 0 => ("ColourWorks$Mix", "amounts", "[I", true)
  | 1 => ("ColourWorks$Mix", "units", "I", false)
  | _ => ("ColourWorks$Mix", "lots", "J", false)
def tyX4 : Nat → FieldType := fun k => match k with
  | 0 => .array .int
  | 1 => .int
  | _ => .long
abbrev wsX40 : List Cond := u_ws RX4 TX4 3
theorem nmX4 : ∀ a, a < 3 → ∀ b, b < 3 → a ≠ b → (TX4 a).2.1 ≠ (TX4 b).2.1 := by decide +kernel
theorem tyX4_ok : ∀ k, k < 3 → parseFieldDescriptor (TX4 k).2.2.1 = some (tyX4 k) := by decide +kernel
abbrev cX4_init : ByteArray := prog_6_method_1_code
def yX4_init : MethodName := ⟨RX4, "<init>", "()V"⟩
abbrev cX4_add : ByteArray := prog_6_method_2_code
def yX4_add : MethodName := ⟨RX4, "add", "(III)V"⟩
abbrev cX4_addAll : ByteArray := prog_6_method_3_code
def yX4_addAll : MethodName := ⟨RX4, "addAll", "(LColourWorks$Mix;)V"⟩
abbrev cX4_empty : ByteArray := prog_6_method_4_code
def yX4_empty : MethodName := ⟨RX4, "empty", "()V"⟩
def RX5 : String := "ColourWorks$Palette"
def TX5 : u_T := fun k => match k with
  | 0 => ("ColourWorks$Palette", "absorb", "[I", true)
  | 1 => ("ColourWorks$Palette", "scatter", "[I", true)
  | _ => ("ColourWorks$Palette", "size", "I", false)
def tyX5 : Nat → FieldType := fun k => match k with
  | 0 => .array .int
  | 1 => .array .int
  | _ => .int
abbrev wsX50 : List Cond := u_ws RX5 TX5 3
theorem nmX5 : ∀ a, a < 3 → ∀ b, b < 3 → a ≠ b → (TX5 a).2.1 ≠ (TX5 b).2.1 := by decide +kernel
theorem tyX5_ok : ∀ k, k < 3 → parseFieldDescriptor (TX5 k).2.2.1 = some (tyX5 k) := by decide +kernel
abbrev cX5_init : ByteArray := prog_7_method_1_code
def yX5_init : MethodName := ⟨RX5, "<init>", "()V"⟩
abbrev cX5_has : ByteArray := prog_7_method_2_code
def yX5_has : MethodName := ⟨RX5, "has", "(I)Z"⟩
abbrev cX5_add : ByteArray := prog_7_method_3_code
def yX5_add : MethodName := ⟨RX5, "add", "(II)I"⟩
abbrev cX5_tell : ByteArray := prog_7_method_4_code
def yX5_tell : MethodName := ⟨RX5, "tell", "(IIII)V"⟩
abbrev cX5_absorbed : ByteArray := prog_7_method_5_code
def yX5_absorbed : MethodName := ⟨RX5, "absorbed", "(LColourWorks$Mix;I)J"⟩
abbrev cX5_scattered : ByteArray := prog_7_method_6_code
def yX5_scattered : MethodName := ⟨RX5, "scattered", "(LColourWorks$Mix;I)J"⟩
abbrev cX5_shadeOf : ByteArray := prog_7_method_7_code
def yX5_shadeOf : MethodName := ⟨RX5, "shadeOf", "(LColourWorks$Mix;I)I"⟩
abbrev cX5_weighted : ByteArray := prog_7_method_8_code
def yX5_weighted : MethodName := ⟨RX5, "weighted", "([I[II)J"⟩
def RX6 : String := "ColourWorks$Schedule"
def TX6 : u_T := fun k => match k with
  | 0 => ("ColourWorks$Schedule", "hueOf", "[I", true)
  | 1 => ("ColourWorks$Schedule", "timeOf", "[I", true)
  | 2 => ("ColourWorks$Schedule", "dueOf", "[I", true)
  | 3 => ("ColourWorks$Schedule", "priceOf", "[I", true)
  | 4 => ("ColourWorks$Schedule", "size", "I", false)
  | 5 => ("ColourWorks$Schedule", "changes", "[I", true)
  | 6 => ("ColourWorks$Schedule", "costAhead", "[I", true)
  | 7 => ("ColourWorks$Schedule", "order", "[I", true)
  | _ => ("ColourWorks$Schedule", "places", "I", false)
def tyX6 : Nat → FieldType := fun k => match k with
  | 0 => .array .int
  | 1 => .array .int
  | 2 => .array .int
  | 3 => .array .int
  | 4 => .int
  | 5 => .array .int
  | 6 => .array .int
  | 7 => .array .int
  | _ => .int
abbrev wsX60 : List Cond := u_ws RX6 TX6 9
theorem nmX6 : ∀ a, a < 9 → ∀ b, b < 9 → a ≠ b → (TX6 a).2.1 ≠ (TX6 b).2.1 := by decide +kernel
theorem tyX6_ok : ∀ k, k < 9 → parseFieldDescriptor (TX6 k).2.2.1 = some (tyX6 k) := by decide +kernel
abbrev cX6_init : ByteArray := prog_8_method_1_code
def yX6_init : MethodName := ⟨RX6, "<init>", "()V"⟩
abbrev cX6_add : ByteArray := prog_8_method_2_code
def yX6_add : MethodName := ⟨RX6, "add", "(IIII)I"⟩
abbrev cX6_tellChange : ByteArray := prog_8_method_3_code
def yX6_tellChange : MethodName := ⟨RX6, "tellChange", "(III)I"⟩
abbrev cX6_arrange : ByteArray := prog_8_method_4_code
def yX6_arrange : MethodName := ⟨RX6, "arrange", "(I)I"⟩
abbrev cX6_writeOrder : ByteArray := prog_8_method_5_code
def yX6_writeOrder : MethodName := ⟨RX6, "writeOrder", "(I)V"⟩
abbrev cX6_bestNext : ByteArray := prog_8_method_6_code
def yX6_bestNext : MethodName := ⟨RX6, "bestNext", "(III)I"⟩
abbrev cX6_costWith : ByteArray := prog_8_method_7_code
def yX6_costWith : MethodName := ⟨RX6, "costWith", "(IIII)I"⟩
abbrev cX6_timeOfSet : ByteArray := prog_8_method_8_code
def yX6_timeOfSet : MethodName := ⟨RX6, "timeOfSet", "(I)I"⟩
def RX7 : String := "ColourWorks$Store"
def TX7 : u_T := fun k => match k with
  | 0 => ("ColourWorks$Store", "baseOf", "[I", true)
  | 1 => ("ColourWorks$Store", "stock", "[I", true)
  | 2 => ("ColourWorks$Store", "lastDay", "[I", true)
  | 3 => ("ColourWorks$Store", "size", "I", false)
  | _ => ("ColourWorks$Store", "today", "I", false)
def tyX7 : Nat → FieldType := fun k => match k with
  | 0 => .array .int
  | 1 => .array .int
  | 2 => .array .int
  | 3 => .int
  | _ => .int
abbrev wsX70 : List Cond := u_ws RX7 TX7 5
theorem nmX7 : ∀ a, a < 5 → ∀ b, b < 5 → a ≠ b → (TX7 a).2.1 ≠ (TX7 b).2.1 := by decide +kernel
theorem tyX7_ok : ∀ k, k < 5 → parseFieldDescriptor (TX7 k).2.2.1 = some (tyX7 k) := by decide +kernel
abbrev cX7_init : ByteArray := prog_9_method_1_code
def yX7_init : MethodName := ⟨RX7, "<init>", "()V"⟩
abbrev cX7_has : ByteArray := prog_9_method_2_code
def yX7_has : MethodName := ⟨RX7, "has", "(I)Z"⟩
abbrev cX7_add : ByteArray := prog_9_method_3_code
def yX7_add : MethodName := ⟨RX7, "add", "(III)I"⟩
abbrev cX7_usableOf : ByteArray := prog_9_method_4_code
def yX7_usableOf : MethodName := ⟨RX7, "usableOf", "(I)I"⟩
abbrev cX7_lacks : ByteArray := prog_9_method_5_code
def yX7_lacks : MethodName := ⟨RX7, "lacks", "([I)Z"⟩
abbrev cX7_take : ByteArray := prog_9_method_6_code
def yX7_take : MethodName := ⟨RX7, "take", "(IILColourWorks$Mix;)V"⟩
abbrev cX7_isUsable : ByteArray := prog_9_method_7_code
def yX7_isUsable : MethodName := ⟨RX7, "isUsable", "(II)Z"⟩
abbrev cX7_nextToEnd : ByteArray := prog_9_method_8_code
def yX7_nextToEnd : MethodName := ⟨RX7, "nextToEnd", "(I)I"⟩
def RX8 : String := "ColourWorks$Tank"
def TX8 : u_T := fun k => match k with
  | 0 => ("ColourWorks$Tank", "mix", "LColourWorks$Mix;", true)
  | 1 => ("ColourWorks$Tank", "stain", "[I", true)
  | 2 => ("ColourWorks$Tank", "inside", "I", false)
  | 3 => ("ColourWorks$Tank", "size", "I", false)
  | 4 => ("ColourWorks$Tank", "batches", "I", false)
  | 5 => ("ColourWorks$Tank", "tapped", "Z", false)
  | _ => ("ColourWorks$Tank", "stained", "Z", false)
def tyX8 : Nat → FieldType := fun k => match k with
  | 0 => .object "ColourWorks$Mix"
  | 1 => .array .int
  | 2 => .int
  | 3 => .int
  | 4 => .int
  | 5 => .boolean
  | _ => .boolean
abbrev wsX80 : List Cond := u_ws RX8 TX8 7
theorem nmX8 : ∀ a, a < 7 → ∀ b, b < 7 → a ≠ b → (TX8 a).2.1 ≠ (TX8 b).2.1 := by decide +kernel
theorem tyX8_ok : ∀ k, k < 7 → parseFieldDescriptor (TX8 k).2.2.1 = some (tyX8 k) := by decide +kernel
abbrev cX8_init : ByteArray := prog_10_method_1_code
def yX8_init : MethodName := ⟨RX8, "<init>", "()V"⟩
abbrev cX8_isClean : ByteArray := prog_10_method_2_code
def yX8_isClean : MethodName := ⟨RX8, "isClean", "()Z"⟩
abbrev cX8_admits : ByteArray := prog_10_method_3_code
def yX8_admits : MethodName := ⟨RX8, "admits", "(LColourWorks$Mix;LColourWorks$Palette;I)Z"⟩
abbrev cX8_receive : ByteArray := prog_10_method_4_code
def yX8_receive : MethodName := ⟨RX8, "receive", "(LColourWorks$Mix;I)V"⟩
abbrev cX8_draw : ByteArray := prog_10_method_5_code
def yX8_draw : MethodName := ⟨RX8, "draw", "(ILColourWorks$Palette;)V"⟩
abbrev cX8_isAlike : ByteArray := prog_10_method_6_code
def yX8_isAlike : MethodName := ⟨RX8, "isAlike", "(LColourWorks$Mix;LColourWorks$Palette;I)Z"⟩
abbrev cX8_coversStain : ByteArray := prog_10_method_7_code
def yX8_coversStain : MethodName := ⟨RX8, "coversStain", "(LColourWorks$Mix;LColourWorks$Palette;)Z"⟩
def RX9 : String := "ColourWorks"
def TX9 : u_T := fun k => match k with
  | 0 => ("ColourWorks", "palette", "LColourWorks$Palette;", true)
  | 1 => ("ColourWorks", "store", "LColourWorks$Store;", true)
  | 2 => ("ColourWorks", "cookbook", "LColourWorks$Cookbook;", true)
  | 3 => ("ColourWorks", "batches", "[LColourWorks$Batch;", true)
  | 4 => ("ColourWorks", "batchCount", "I", false)
  | 5 => ("ColourWorks", "search", "LColourWorks$DropSearch;", true)
  | 6 => ("ColourWorks", "tanks", "[LColourWorks$Tank;", true)
  | 7 => ("ColourWorks", "yard", "LColourWorks$DrumYard;", true)
  | 8 => ("ColourWorks", "schedule", "LColourWorks$Schedule;", true)
  | 9 => ("ColourWorks", "wanted", "[I", true)
  | 10 => ("ColourWorks", "greatestGap", "I", false)
  | _ => ("ColourWorks", "stainsCleaned", "I", false)
def tyX9 : Nat → FieldType := fun k => match k with
  | 0 => .object "ColourWorks$Palette"
  | 1 => .object "ColourWorks$Store"
  | 2 => .object "ColourWorks$Cookbook"
  | 3 => .array (.object "ColourWorks$Batch")
  | 4 => .int
  | 5 => .object "ColourWorks$DropSearch"
  | 6 => .array (.object "ColourWorks$Tank")
  | 7 => .object "ColourWorks$DrumYard"
  | 8 => .object "ColourWorks$Schedule"
  | 9 => .array .int
  | 10 => .int
  | _ => .int
abbrev wsX90 : List Cond := u_ws RX9 TX9 12
theorem nmX9 : ∀ a, a < 12 → ∀ b, b < 12 → a ≠ b → (TX9 a).2.1 ≠ (TX9 b).2.1 := by decide +kernel
theorem tyX9_ok : ∀ k, k < 12 → parseFieldDescriptor (TX9 k).2.2.1 = some (tyX9 k) := by decide +kernel
abbrev cX9_init : ByteArray := prog_1_method_1_code
def yX9_init : MethodName := ⟨RX9, "<init>", "()V"⟩
abbrev cX9_base : ByteArray := prog_1_method_2_code
def yX9_base : MethodName := ⟨RX9, "base", "(II)I"⟩
abbrev cX9_band : ByteArray := prog_1_method_3_code
def yX9_band : MethodName := ⟨RX9, "band", "(IIII)I"⟩
abbrev cX9_lot : ByteArray := prog_1_method_4_code
def yX9_lot : MethodName := ⟨RX9, "lot", "(III)I"⟩
abbrev cX9_left : ByteArray := prog_1_method_5_code
def yX9_left : MethodName := ⟨RX9, "left", "(I)I"⟩
abbrev cX9_may : ByteArray := prog_1_method_6_code
def yX9_may : MethodName := ⟨RX9, "may", "(I)I"⟩
abbrev cX9_day : ByteArray := prog_1_method_7_code
def yX9_day : MethodName := ⟨RX9, "day", "(I)I"⟩
abbrev cX9_recipe : ByteArray := prog_1_method_8_code
def yX9_recipe : MethodName := ⟨RX9, "recipe", "()I"⟩
abbrev cX9_part : ByteArray := prog_1_method_9_code
def yX9_part : MethodName := ⟨RX9, "part", "(IZII)I"⟩
abbrev cX9_resolved : ByteArray := prog_1_method_10_code
def yX9_resolved : MethodName := ⟨RX9, "resolved", "(II)I"⟩
abbrev cX9_batch : ByteArray := prog_1_method_11_code
def yX9_batch : MethodName := ⟨RX9, "batch", "()I"⟩
abbrev cX9_weigh : ByteArray := prog_1_method_12_code
def yX9_weigh : MethodName := ⟨RX9, "weigh", "(III)I"⟩
abbrev cX9_brew : ByteArray := prog_1_method_13_code
def yX9_brew : MethodName := ⟨RX9, "brew", "(III)I"⟩
abbrev cX9_drops : ByteArray := prog_1_method_14_code
def yX9_drops : MethodName := ⟨RX9, "drops", "(IIIII)I"⟩
abbrev cX9_drop : ByteArray := prog_1_method_15_code
def yX9_drop : MethodName := ⟨RX9, "drop", "(I)I"⟩
abbrev cX9_dropIn : ByteArray := prog_1_method_16_code
def yX9_dropIn : MethodName := ⟨RX9, "dropIn", "(I)I"⟩
abbrev cX9_amount : ByteArray := prog_1_method_17_code
def yX9_amount : MethodName := ⟨RX9, "amount", "(II)I"⟩
abbrev cX9_shade : ByteArray := prog_1_method_18_code
def yX9_shade : MethodName := ⟨RX9, "shade", "(II)I"⟩
abbrev cX9_miss : ByteArray := prog_1_method_19_code
def yX9_miss : MethodName := ⟨RX9, "miss", "(IIII)I"⟩
abbrev cX9_holds : ByteArray := prog_1_method_20_code
def yX9_holds : MethodName := ⟨RX9, "holds", "(II)I"⟩
abbrev cX9_limit : ByteArray := prog_1_method_21_code
def yX9_limit : MethodName := ⟨RX9, "limit", "(I)I"⟩
abbrev cX9_pour : ByteArray := prog_1_method_22_code
def yX9_pour : MethodName := ⟨RX9, "pour", "(II)I"⟩
abbrev cX9_clean : ByteArray := prog_1_method_23_code
def yX9_clean : MethodName := ⟨RX9, "clean", "(I)I"⟩
abbrev cX9_fill : ByteArray := prog_1_method_24_code
def yX9_fill : MethodName := ⟨RX9, "fill", "(II)I"⟩
abbrev cX9_tank : ByteArray := prog_1_method_25_code
def yX9_tank : MethodName := ⟨RX9, "tank", "(II)I"⟩
abbrev cX9_tankShade : ByteArray := prog_1_method_26_code
def yX9_tankShade : MethodName := ⟨RX9, "tankShade", "(II)I"⟩
abbrev cX9_drum : ByteArray := prog_1_method_27_code
def yX9_drum : MethodName := ⟨RX9, "drum", "(II)I"⟩
abbrev cX9_inDrum : ByteArray := prog_1_method_28_code
def yX9_inDrum : MethodName := ⟨RX9, "inDrum", "(IZI)I"⟩
abbrev cX9_recall : ByteArray := prog_1_method_29_code
def yX9_recall : MethodName := ⟨RX9, "recall", "(II)I"⟩
abbrev cX9_job : ByteArray := prog_1_method_30_code
def yX9_job : MethodName := ⟨RX9, "job", "(IIII)I"⟩
abbrev cX9_cleaning : ByteArray := prog_1_method_31_code
def yX9_cleaning : MethodName := ⟨RX9, "cleaning", "(III)I"⟩
abbrev cX9_plan : ByteArray := prog_1_method_32_code
def yX9_plan : MethodName := ⟨RX9, "plan", "(I)I"⟩
abbrev cX9_planned : ByteArray := prog_1_method_33_code
def yX9_planned : MethodName := ⟨RX9, "planned", "(I)I"⟩
abbrev cX9_idle : ByteArray := prog_1_method_34_code
def yX9_idle : MethodName := ⟨RX9, "idle", "()I"⟩
abbrev cX9_count : ByteArray := prog_1_method_35_code
def yX9_count : MethodName := ⟨RX9, "count", "(I)I"⟩
abbrev cX9_hasBatch : ByteArray := prog_1_method_36_code
def yX9_hasBatch : MethodName := ⟨RX9, "hasBatch", "(I)Z"⟩
abbrev cX9_takeWanted : ByteArray := prog_1_method_37_code
def yX9_takeWanted : MethodName := ⟨RX9, "takeWanted", "(LColourWorks$Batch;)I"⟩
abbrev cX9_openBatchesWith : ByteArray := prog_1_method_38_code
def yX9_openBatchesWith : MethodName := ⟨RX9, "openBatchesWith", "(I)I"⟩
abbrev cX9_tanksWith : ByteArray := prog_1_method_39_code
def yX9_tanksWith : MethodName := ⟨RX9, "tanksWith", "(I)I"⟩
abbrev cX9_within : ByteArray := prog_1_method_40_code
def yX9_within : MethodName := ⟨RX9, "within", "(III)Z"⟩
abbrev cX9_isStrength : ByteArray := prog_1_method_41_code
def yX9_isStrength : MethodName := ⟨RX9, "isStrength", "(I)Z"⟩
abbrev cX9_isBand : ByteArray := prog_1_method_42_code
def yX9_isBand : MethodName := ⟨RX9, "isBand", "(I)Z"⟩
abbrev cX9_isTank : ByteArray := prog_1_method_43_code
def yX9_isTank : MethodName := ⟨RX9, "isTank", "(I)Z"⟩
abbrev cX9_isHue : ByteArray := prog_1_method_44_code
def yX9_isHue : MethodName := ⟨RX9, "isHue", "(I)Z"⟩
abbrev cX9_isAim : ByteArray := prog_1_method_45_code
def yX9_isAim : MethodName := ⟨RX9, "isAim", "(III)Z"⟩
abbrev cX9_hasBit : ByteArray := prog_1_method_46_code
def yX9_hasBit : MethodName := ⟨RX9, "hasBit", "(JI)Z"⟩
abbrev cX9_sum : ByteArray := prog_1_method_47_code
def yX9_sum : MethodName := ⟨RX9, "sum", "([I)I"⟩
abbrev cX9_shadeOfSums : ByteArray := prog_1_method_48_code
def yX9_shadeOfSums : MethodName := ⟨RX9, "shadeOfSums", "(JJ)I"⟩
def RX10 : String := "ColourWorksModel"
def TX10 : u_T := fun k => match k with
  | 0 => ("ColourWorksModel", "day", "I", false)
  | 1 => ("ColourWorksModel", "bases", "I", false)
  | 2 => ("ColourWorksModel", "absorb", "[I", true)
  | 3 => ("ColourWorksModel", "scatter", "[I", true)
  | 4 => ("ColourWorksModel", "lots", "I", false)
  | 5 => ("ColourWorksModel", "lotBase", "[I", true)
  | 6 => ("ColourWorksModel", "lotLeft", "[I", true)
  | 7 => ("ColourWorksModel", "lotLast", "[I", true)
  | 8 => ("ColourWorksModel", "recipes", "I", false)
  | 9 => ("ColourWorksModel", "parts", "[I", true)
  | 10 => ("ColourWorksModel", "isElder", "[Z", true)
  | 11 => ("ColourWorksModel", "partOf", "[I", true)
  | 12 => ("ColourWorksModel", "partTimes", "[I", true)
  | 13 => ("ColourWorksModel", "needs", "[I", true)
  | 14 => ("ColourWorksModel", "tryNeeds", "[I", true)
  | 15 => ("ColourWorksModel", "batches", "I", false)
  | 16 => ("ColourWorksModel", "amounts", "[I", true)
  | 17 => ("ColourWorksModel", "batchLots", "[J", true)
  | 18 => ("ColourWorksModel", "isPoured", "[Z", true)
  | 19 => ("ColourWorksModel", "hasDrops", "Z", false)
  | 20 => ("ColourWorksModel", "drops", "[I", true)
  | 21 => ("ColourWorksModel", "tryDrops", "[I", true)
  | 22 => ("ColourWorksModel", "room", "[I", true)
  | 23 => ("ColourWorksModel", "held", "[I", true)
  | 24 => ("ColourWorksModel", "isStained", "[Z", true)
  | 25 => ("ColourWorksModel", "wasDrawn", "[Z", true)
  | 26 => ("ColourWorksModel", "inTank", "[I", true)
  | 27 => ("ColourWorksModel", "tankLots", "[J", true)
  | 28 => ("ColourWorksModel", "tankBatches", "[I", true)
  | 29 => ("ColourWorksModel", "stains", "[I", true)
  | 30 => ("ColourWorksModel", "limit", "I", false)
  | 31 => ("ColourWorksModel", "drums", "I", false)
  | 32 => ("ColourWorksModel", "drumUnits", "[I", true)
  | 33 => ("ColourWorksModel", "drumTank", "[I", true)
  | 34 => ("ColourWorksModel", "drumDay", "[I", true)
  | 35 => ("ColourWorksModel", "drumLots", "[J", true)
  | 36 => ("ColourWorksModel", "drumBatches", "[I", true)
  | 37 => ("ColourWorksModel", "cleaned", "I", false)
  | 38 => ("ColourWorksModel", "jobs", "I", false)
  | 39 => ("ColourWorksModel", "jobHue", "[I", true)
  | 40 => ("ColourWorksModel", "jobTime", "[I", true)
  | 41 => ("ColourWorksModel", "jobDue", "[I", true)
  | 42 => ("ColourWorksModel", "jobPrice", "[I", true)
  | 43 => ("ColourWorksModel", "cleaning", "[I", true)
  | 44 => ("ColourWorksModel", "planned", "I", false)
  | 45 => ("ColourWorksModel", "plan", "[I", true)
  | 46 => ("ColourWorksModel", "costs", "[I", true)
  | 47 => ("ColourWorksModel", "nothing", "[I", true)
  | _ => ("ColourWorksModel", "mayDrop", "[I", true)
def tyX10 : Nat → FieldType := fun k => match k with
  | 0 => .int
  | 1 => .int
  | 2 => .array .int
  | 3 => .array .int
  | 4 => .int
  | 5 => .array .int
  | 6 => .array .int
  | 7 => .array .int
  | 8 => .int
  | 9 => .array .int
  | 10 => .array .boolean
  | 11 => .array .int
  | 12 => .array .int
  | 13 => .array .int
  | 14 => .array .int
  | 15 => .int
  | 16 => .array .int
  | 17 => .array .long
  | 18 => .array .boolean
  | 19 => .boolean
  | 20 => .array .int
  | 21 => .array .int
  | 22 => .array .int
  | 23 => .array .int
  | 24 => .array .boolean
  | 25 => .array .boolean
  | 26 => .array .int
  | 27 => .array .long
  | 28 => .array .int
  | 29 => .array .int
  | 30 => .int
  | 31 => .int
  | 32 => .array .int
  | 33 => .array .int
  | 34 => .array .int
  | 35 => .array .long
  | 36 => .array .int
  | 37 => .int
  | 38 => .int
  | 39 => .array .int
  | 40 => .array .int
  | 41 => .array .int
  | 42 => .array .int
  | 43 => .array .int
  | 44 => .int
  | 45 => .array .int
  | 46 => .array .int
  | 47 => .array .int
  | _ => .array .int
abbrev wsX100 : List Cond := u_ws RX10 TX10 49
theorem nmX10 : ∀ a, a < 49 → ∀ b, b < 49 → a ≠ b → (TX10 a).2.1 ≠ (TX10 b).2.1 := by decide +kernel
theorem tyX10_ok : ∀ k, k < 49 → parseFieldDescriptor (TX10 k).2.2.1 = some (tyX10 k) := by decide +kernel
abbrev cX10_init : ByteArray := prog_12_method_1_code
def yX10_init : MethodName := ⟨RX10, "<init>", "()V"⟩
abbrev cX10_in : ByteArray := prog_12_method_2_code
def yX10_in : MethodName := ⟨RX10, "in", "(III)Z"⟩
abbrev cX10_isBase : ByteArray := prog_12_method_3_code
def yX10_isBase : MethodName := ⟨RX10, "isBase", "(I)Z"⟩
abbrev cX10_isBatch : ByteArray := prog_12_method_4_code
def yX10_isBatch : MethodName := ⟨RX10, "isBatch", "(I)Z"⟩
abbrev cX10_isTank : ByteArray := prog_12_method_5_code
def yX10_isTank : MethodName := ⟨RX10, "isTank", "(I)Z"⟩
abbrev cX10_base : ByteArray := prog_12_method_6_code
def yX10_base : MethodName := ⟨RX10, "base", "(II)I"⟩
abbrev cX10_band : ByteArray := prog_12_method_7_code
def yX10_band : MethodName := ⟨RX10, "band", "(IIII)I"⟩
abbrev cX10_lot : ByteArray := prog_12_method_8_code
def yX10_lot : MethodName := ⟨RX10, "lot", "(III)I"⟩
abbrev cX10_left : ByteArray := prog_12_method_9_code
def yX10_left : MethodName := ⟨RX10, "left", "(I)I"⟩
abbrev cX10_mayTake : ByteArray := prog_12_method_10_code
def yX10_mayTake : MethodName := ⟨RX10, "mayTake", "(II)Z"⟩
abbrev cX10_mayOf : ByteArray := prog_12_method_11_code
def yX10_mayOf : MethodName := ⟨RX10, "mayOf", "(I)I"⟩
abbrev cX10_may : ByteArray := prog_12_method_12_code
def yX10_may : MethodName := ⟨RX10, "may", "(I)I"⟩
abbrev cX10_day : ByteArray := prog_12_method_13_code
def yX10_day : MethodName := ⟨RX10, "day", "(I)I"⟩
abbrev cX10_take : ByteArray := prog_12_method_14_code
def yX10_take : MethodName := ⟨RX10, "take", "(III)V"⟩
abbrev cX10_recipe : ByteArray := prog_12_method_15_code
def yX10_recipe : MethodName := ⟨RX10, "recipe", "()I"⟩
abbrev cX10_findNeeds : ByteArray := prog_12_method_16_code
def yX10_findNeeds : MethodName := ⟨RX10, "findNeeds", "()Z"⟩
abbrev cX10_part : ByteArray := prog_12_method_17_code
def yX10_part : MethodName := ⟨RX10, "part", "(IZII)I"⟩
abbrev cX10_resolved : ByteArray := prog_12_method_18_code
def yX10_resolved : MethodName := ⟨RX10, "resolved", "(II)I"⟩
abbrev cX10_batch : ByteArray := prog_12_method_19_code
def yX10_batch : MethodName := ⟨RX10, "batch", "()I"⟩
abbrev cX10_unitsOf : ByteArray := prog_12_method_20_code
def yX10_unitsOf : MethodName := ⟨RX10, "unitsOf", "(I)I"⟩
abbrev cX10_weigh : ByteArray := prog_12_method_21_code
def yX10_weigh : MethodName := ⟨RX10, "weigh", "(III)I"⟩
abbrev cX10_brew : ByteArray := prog_12_method_22_code
def yX10_brew : MethodName := ⟨RX10, "brew", "(III)I"⟩
abbrev cX10_shadeOf : ByteArray := prog_12_method_23_code
def yX10_shadeOf : MethodName := ⟨RX10, "shadeOf", "([II[II)I"⟩
abbrev cX10_missOf : ByteArray := prog_12_method_24_code
def yX10_missOf : MethodName := ⟨RX10, "missOf", "(I[IIII)I"⟩
abbrev cX10_isAim : ByteArray := prog_12_method_25_code
def yX10_isAim : MethodName := ⟨RX10, "isAim", "(III)Z"⟩
abbrev cX10_hasNext : ByteArray := prog_12_method_26_code
def yX10_hasNext : MethodName := ⟨RX10, "hasNext", "([II)Z"⟩
abbrev cX10_drops : ByteArray := prog_12_method_27_code
def yX10_drops : MethodName := ⟨RX10, "drops", "(IIIII)I"⟩
abbrev cX10_drop : ByteArray := prog_12_method_28_code
def yX10_drop : MethodName := ⟨RX10, "drop", "(I)I"⟩
abbrev cX10_dropIn : ByteArray := prog_12_method_29_code
def yX10_dropIn : MethodName := ⟨RX10, "dropIn", "(I)I"⟩
abbrev cX10_amount : ByteArray := prog_12_method_30_code
def yX10_amount : MethodName := ⟨RX10, "amount", "(II)I"⟩
abbrev cX10_shade : ByteArray := prog_12_method_31_code
def yX10_shade : MethodName := ⟨RX10, "shade", "(II)I"⟩
abbrev cX10_miss : ByteArray := prog_12_method_32_code
def yX10_miss : MethodName := ⟨RX10, "miss", "(IIII)I"⟩
abbrev cX10_holds : ByteArray := prog_12_method_33_code
def yX10_holds : MethodName := ⟨RX10, "holds", "(II)I"⟩
abbrev cX10_limit : ByteArray := prog_12_method_34_code
def yX10_limit : MethodName := ⟨RX10, "limit", "(I)I"⟩
abbrev cX10_mayPour : ByteArray := prog_12_method_35_code
def yX10_mayPour : MethodName := ⟨RX10, "mayPour", "(II)Z"⟩
abbrev cX10_pour : ByteArray := prog_12_method_36_code
def yX10_pour : MethodName := ⟨RX10, "pour", "(II)I"⟩
abbrev cX10_clean : ByteArray := prog_12_method_37_code
def yX10_clean : MethodName := ⟨RX10, "clean", "(I)I"⟩
abbrev cX10_fill : ByteArray := prog_12_method_38_code
def yX10_fill : MethodName := ⟨RX10, "fill", "(II)I"⟩
abbrev cX10_tank : ByteArray := prog_12_method_39_code
def yX10_tank : MethodName := ⟨RX10, "tank", "(II)I"⟩
abbrev cX10_tankShade : ByteArray := prog_12_method_40_code
def yX10_tankShade : MethodName := ⟨RX10, "tankShade", "(II)I"⟩
abbrev cX10_many : ByteArray := prog_12_method_41_code
def yX10_many : MethodName := ⟨RX10, "many", "(J)I"⟩
abbrev cX10_drum : ByteArray := prog_12_method_42_code
def yX10_drum : MethodName := ⟨RX10, "drum", "(II)I"⟩
abbrev cX10_inDrum : ByteArray := prog_12_method_43_code
def yX10_inDrum : MethodName := ⟨RX10, "inDrum", "(IZI)I"⟩
abbrev cX10_recall : ByteArray := prog_12_method_44_code
def yX10_recall : MethodName := ⟨RX10, "recall", "(II)I"⟩
abbrev cX10_isHue : ByteArray := prog_12_method_45_code
def yX10_isHue : MethodName := ⟨RX10, "isHue", "(I)Z"⟩
abbrev cX10_job : ByteArray := prog_12_method_46_code
def yX10_job : MethodName := ⟨RX10, "job", "(IIII)I"⟩
abbrev cX10_cleaning : ByteArray := prog_12_method_47_code
def yX10_cleaning : MethodName := ⟨RX10, "cleaning", "(III)I"⟩
abbrev cX10_through : ByteArray := prog_12_method_48_code
def yX10_through : MethodName := ⟨RX10, "through", "(III)I"⟩
abbrev cX10_bestNext : ByteArray := prog_12_method_49_code
def yX10_bestNext : MethodName := ⟨RX10, "bestNext", "(II)I"⟩
abbrev cX10_plan : ByteArray := prog_12_method_50_code
def yX10_plan : MethodName := ⟨RX10, "plan", "(I)I"⟩
abbrev cX10_planned : ByteArray := prog_12_method_51_code
def yX10_planned : MethodName := ⟨RX10, "planned", "(I)I"⟩
abbrev cX10_idle : ByteArray := prog_12_method_52_code
def yX10_idle : MethodName := ⟨RX10, "idle", "()I"⟩
abbrev cX10_count : ByteArray := prog_12_method_53_code
def yX10_count : MethodName := ⟨RX10, "count", "(I)I"⟩
def RJ6 : String := "java/lang/Integer"
abbrev cJ6_bitCount_0f7a4 : ByteArray := prog_13_method_49_code
def yJ6_bitCount_0f7a4 : MethodName := ⟨RJ6, "bitCount", "(I)I"⟩
def RJ13 : String := "java/lang/Long"
abbrev cJ13_bitCount_95d88 : ByteArray := prog_14_method_50_code
def yJ13_bitCount_95d88 : MethodName := ⟨RJ13, "bitCount", "(J)I"⟩
def RJ9 : String := "java/lang/Math"
abbrev cJ9_abs_0f7a4 : ByteArray := prog_15_method_59_code
def yJ9_abs_0f7a4 : MethodName := ⟨RJ9, "abs", "(I)I"⟩
abbrev cJ9_max_7cf53 : ByteArray := prog_15_method_65_code
def yJ9_max_7cf53 : MethodName := ⟨RJ9, "max", "(II)I"⟩
abbrev cJ9_min_7cf53 : ByteArray := prog_15_method_69_code
def yJ9_min_7cf53 : MethodName := ⟨RJ9, "min", "(II)I"⟩
abbrev cJ9_min_f86c9 : ByteArray := prog_15_method_70_code
def yJ9_min_f86c9 : MethodName := ⟨RJ9, "min", "(JJ)J"⟩
def RJ10 : String := "java/lang/System"
def RJ7 : String := "java/util/Arrays"
abbrev cJ7_fill_53178 : ByteArray := prog_17_method_103_code
def yJ7_fill_53178 : MethodName := ⟨RJ7, "fill", "([II)V"⟩
def RL : String := "ColourWorksLaw"
abbrev cL_law : ByteArray := code
def yL_law : MethodName := ⟨RL, "law", "([I)Z"⟩
abbrev vwCl : List vw_C := [(RX0, TX0, 2), (RX1, TX1, 7), (RX2, TX2, 11), (RX3, TX3, 6), (RX4, TX4, 3), (RX5, TX5, 3), (RX6, TX6, 9), (RX7, TX7, 5), (RX8, TX8, 7), (RX9, TX9, 12), (RX10, TX10, 49)]
end
section
theorem dX0_init_0 : decode cX0_init 0 = .ok (.aload_n 0, 1) := by decide +kernel
theorem dX0_init_1 : decode cX0_init 1 = .ok (.invokespecial 1, 3) := by decide +kernel
theorem dX0_init_4 : decode cX0_init 4 = .ok (.aload_n 0, 1) := by decide +kernel
theorem dX0_init_5 : decode cX0_init 5 = .ok (.new 7, 3) := by decide +kernel
theorem dX0_init_8 : decode cX0_init 8 = .ok (.dup, 1) := by decide +kernel
theorem dX0_init_9 : decode cX0_init 9 = .ok (.invokespecial 9, 3) := by decide +kernel
theorem dX0_init_12 : decode cX0_init 12 = .ok (.putfield 10, 3) := by decide +kernel
theorem dX0_init_15 : decode cX0_init 15 = .ok (.aload_n 0, 1) := by decide +kernel
theorem dX0_init_16 : decode cX0_init 16 = .ok (.iconst 0, 1) := by decide +kernel
theorem dX0_init_17 : decode cX0_init 17 = .ok (.putfield 16, 3) := by decide +kernel
theorem dX0_init_20 : decode cX0_init 20 = .ok (.return_, 1) := by decide +kernel
theorem dX1_init_0 : decode cX1_init 0 = .ok (.aload_n 0, 1) := by decide +kernel
theorem dX1_init_1 : decode cX1_init 1 = .ok (.invokespecial 3, 3) := by decide +kernel
theorem dX1_init_4 : decode cX1_init 4 = .ok (.aload_n 0, 1) := by decide +kernel
theorem dX1_init_5 : decode cX1_init 5 = .ok (.bipush 72, 2) := by decide +kernel
theorem dX1_init_7 : decode cX1_init 7 = .ok (.newarray .boolean, 2) := by decide +kernel
theorem dX1_init_9 : decode cX1_init 9 = .ok (.putfield 9, 3) := by decide +kernel
theorem dX1_init_12 : decode cX1_init 12 = .ok (.aload_n 0, 1) := by decide +kernel
theorem dX1_init_13 : decode cX1_init 13 = .ok (.bipush 72, 2) := by decide +kernel
theorem dX1_init_15 : decode cX1_init 15 = .ok (.newarray .int, 2) := by decide +kernel
theorem dX1_init_17 : decode cX1_init 17 = .ok (.putfield 15, 3) := by decide +kernel
theorem dX1_init_20 : decode cX1_init 20 = .ok (.aload_n 0, 1) := by decide +kernel
theorem dX1_init_21 : decode cX1_init 21 = .ok (.bipush 72, 2) := by decide +kernel
theorem dX1_init_23 : decode cX1_init 23 = .ok (.newarray .int, 2) := by decide +kernel
theorem dX1_init_25 : decode cX1_init 25 = .ok (.putfield 19, 3) := by decide +kernel
theorem dX1_init_28 : decode cX1_init 28 = .ok (.aload_n 0, 1) := by decide +kernel
theorem dX1_init_29 : decode cX1_init 29 = .ok (.bipush 12, 2) := by decide +kernel
theorem dX1_init_31 : decode cX1_init 31 = .ok (.newarray .int, 2) := by decide +kernel
theorem dX1_init_33 : decode cX1_init 33 = .ok (.putfield 22, 3) := by decide +kernel
theorem dX1_init_36 : decode cX1_init 36 = .ok (.aload_n 0, 1) := by decide +kernel
theorem dX1_init_37 : decode cX1_init 37 = .ok (.bipush 96, 2) := by decide +kernel
theorem dX1_init_39 : decode cX1_init 39 = .ok (.newarray .int, 2) := by decide +kernel
theorem dX1_init_41 : decode cX1_init 41 = .ok (.putfield 25, 3) := by decide +kernel
theorem dX1_init_44 : decode cX1_init 44 = .ok (.aload_n 0, 1) := by decide +kernel
theorem dX1_init_45 : decode cX1_init 45 = .ok (.bipush 96, 2) := by decide +kernel
theorem dX1_init_47 : decode cX1_init 47 = .ok (.newarray .int, 2) := by decide +kernel
theorem dX1_init_49 : decode cX1_init 49 = .ok (.putfield 28, 3) := by decide +kernel
theorem dX1_init_52 : decode cX1_init 52 = .ok (.aload_n 0, 1) := by decide +kernel
theorem dX1_init_53 : decode cX1_init 53 = .ok (.iconst 0, 1) := by decide +kernel
theorem dX1_init_54 : decode cX1_init 54 = .ok (.putfield 31, 3) := by decide +kernel
theorem dX1_init_57 : decode cX1_init 57 = .ok (.return_, 1) := by decide +kernel
theorem dX1_has_0 : decode cX1_has 0 = .ok (.iload_n 1, 1) := by decide +kernel
theorem dX1_has_1 : decode cX1_has 1 = .ok (.ifCond .lt 15, 3) := by decide +kernel
theorem dX1_has_4 : decode cX1_has 4 = .ok (.iload_n 1, 1) := by decide +kernel
theorem dX1_has_5 : decode cX1_has 5 = .ok (.aload_n 0, 1) := by decide +kernel
theorem dX1_has_6 : decode cX1_has 6 = .ok (.getfield 31, 3) := by decide +kernel
theorem dX1_has_9 : decode cX1_has 9 = .ok (.if_icmp .ge 7, 3) := by decide +kernel
theorem dX1_has_12 : decode cX1_has 12 = .ok (.iconst 1, 1) := by decide +kernel
theorem dX1_has_13 : decode cX1_has 13 = .ok (.goto 4, 3) := by decide +kernel
theorem dX1_has_16 : decode cX1_has 16 = .ok (.iconst 0, 1) := by decide +kernel
theorem dX1_has_17 : decode cX1_has 17 = .ok (.ireturn, 1) := by decide +kernel
theorem dX1_add_0 : decode cX1_add 0 = .ok (.aload_n 0, 1) := by decide +kernel
theorem dX1_add_1 : decode cX1_add 1 = .ok (.getfield 31, 3) := by decide +kernel
theorem dX1_add_4 : decode cX1_add 4 = .ok (.bipush 12, 2) := by decide +kernel
theorem dX1_add_6 : decode cX1_add 6 = .ok (.if_icmp .lt 6, 3) := by decide +kernel
theorem dX1_add_9 : decode cX1_add 9 = .ok (.bipush (-6), 2) := by decide +kernel
theorem dX1_add_11 : decode cX1_add 11 = .ok (.ireturn, 1) := by decide +kernel
theorem dX1_add_12 : decode cX1_add 12 = .ok (.aload_n 0, 1) := by decide +kernel
theorem dX1_add_13 : decode cX1_add 13 = .ok (.dup, 1) := by decide +kernel
theorem dX1_add_14 : decode cX1_add 14 = .ok (.getfield 31, 3) := by decide +kernel
theorem dX1_add_17 : decode cX1_add 17 = .ok (.iconst 1, 1) := by decide +kernel
theorem dX1_add_18 : decode cX1_add 18 = .ok (.iadd, 1) := by decide +kernel
theorem dX1_add_19 : decode cX1_add 19 = .ok (.putfield 31, 3) := by decide +kernel
theorem dX1_add_22 : decode cX1_add 22 = .ok (.aload_n 0, 1) := by decide +kernel
theorem dX1_add_23 : decode cX1_add 23 = .ok (.getfield 31, 3) := by decide +kernel
theorem dX1_add_26 : decode cX1_add 26 = .ok (.iconst 1, 1) := by decide +kernel
theorem dX1_add_27 : decode cX1_add 27 = .ok (.isub, 1) := by decide +kernel
theorem dX1_add_28 : decode cX1_add 28 = .ok (.ireturn, 1) := by decide +kernel
theorem dX1_need_0 : decode cX1_need 0 = .ok (.aload_n 0, 1) := by decide +kernel
theorem dX1_need_1 : decode cX1_need 1 = .ok (.getfield 25, 3) := by decide +kernel
theorem dX1_need_4 : decode cX1_need 4 = .ok (.iload_n 1, 1) := by decide +kernel
theorem dX1_need_5 : decode cX1_need 5 = .ok (.bipush 8, 2) := by decide +kernel
theorem dX1_need_7 : decode cX1_need 7 = .ok (.imul, 1) := by decide +kernel
theorem dX1_need_8 : decode cX1_need 8 = .ok (.iload_n 2, 1) := by decide +kernel
theorem dX1_need_9 : decode cX1_need 9 = .ok (.iadd, 1) := by decide +kernel
theorem dX1_need_10 : decode cX1_need 10 = .ok (.iaload, 1) := by decide +kernel
theorem dX1_need_11 : decode cX1_need 11 = .ok (.ireturn, 1) := by decide +kernel
theorem dX1_addPart_0 : decode cX1_addPart 0 = .ok (.aload_n 0, 1) := by decide +kernel
theorem dX1_addPart_1 : decode cX1_addPart 1 = .ok (.getfield 22, 3) := by decide +kernel
theorem dX1_addPart_4 : decode cX1_addPart 4 = .ok (.iload_n 1, 1) := by decide +kernel
theorem dX1_addPart_5 : decode cX1_addPart 5 = .ok (.iaload, 1) := by decide +kernel
theorem dX1_addPart_6 : decode cX1_addPart 6 = .ok (.bipush 6, 2) := by decide +kernel
theorem dX1_addPart_8 : decode cX1_addPart 8 = .ok (.if_icmp .lt 6, 3) := by decide +kernel
theorem dX1_addPart_11 : decode cX1_addPart 11 = .ok (.bipush (-6), 2) := by decide +kernel
theorem dX1_addPart_13 : decode cX1_addPart 13 = .ok (.ireturn, 1) := by decide +kernel
theorem dX1_addPart_14 : decode cX1_addPart 14 = .ok (.iload_n 1, 1) := by decide +kernel
theorem dX1_addPart_15 : decode cX1_addPart 15 = .ok (.bipush 6, 2) := by decide +kernel
theorem dX1_addPart_17 : decode cX1_addPart 17 = .ok (.imul, 1) := by decide +kernel
theorem dX1_addPart_18 : decode cX1_addPart 18 = .ok (.aload_n 0, 1) := by decide +kernel
theorem dX1_addPart_19 : decode cX1_addPart 19 = .ok (.getfield 22, 3) := by decide +kernel
theorem dX1_addPart_22 : decode cX1_addPart 22 = .ok (.iload_n 1, 1) := by decide +kernel
theorem dX1_addPart_23 : decode cX1_addPart 23 = .ok (.iaload, 1) := by decide +kernel
theorem dX1_addPart_24 : decode cX1_addPart 24 = .ok (.iadd, 1) := by decide +kernel
theorem dX1_addPart_25 : decode cX1_addPart 25 = .ok (.istore 5, 2) := by decide +kernel
theorem dX1_addPart_27 : decode cX1_addPart 27 = .ok (.aload_n 0, 1) := by decide +kernel
theorem dX1_addPart_28 : decode cX1_addPart 28 = .ok (.getfield 9, 3) := by decide +kernel
theorem dX1_addPart_31 : decode cX1_addPart 31 = .ok (.iload 5, 2) := by decide +kernel
theorem dX1_addPart_33 : decode cX1_addPart 33 = .ok (.iload_n 2, 1) := by decide +kernel
theorem dX1_addPart_34 : decode cX1_addPart 34 = .ok (.bastore, 1) := by decide +kernel
theorem dX1_addPart_35 : decode cX1_addPart 35 = .ok (.aload_n 0, 1) := by decide +kernel
theorem dX1_addPart_36 : decode cX1_addPart 36 = .ok (.getfield 15, 3) := by decide +kernel
theorem dX1_addPart_39 : decode cX1_addPart 39 = .ok (.iload 5, 2) := by decide +kernel
theorem dX1_addPart_41 : decode cX1_addPart 41 = .ok (.iload_n 3, 1) := by decide +kernel
theorem dX1_addPart_42 : decode cX1_addPart 42 = .ok (.iastore, 1) := by decide +kernel
theorem dX1_addPart_43 : decode cX1_addPart 43 = .ok (.aload_n 0, 1) := by decide +kernel
theorem dX1_addPart_44 : decode cX1_addPart 44 = .ok (.getfield 19, 3) := by decide +kernel
theorem dX1_addPart_47 : decode cX1_addPart 47 = .ok (.iload 5, 2) := by decide +kernel
theorem dX1_addPart_49 : decode cX1_addPart 49 = .ok (.iload 4, 2) := by decide +kernel
theorem dX1_addPart_51 : decode cX1_addPart 51 = .ok (.iastore, 1) := by decide +kernel
theorem dX1_addPart_52 : decode cX1_addPart 52 = .ok (.aload_n 0, 1) := by decide +kernel
theorem dX1_addPart_53 : decode cX1_addPart 53 = .ok (.getfield 22, 3) := by decide +kernel
theorem dX1_addPart_56 : decode cX1_addPart 56 = .ok (.iload_n 1, 1) := by decide +kernel
theorem dX1_addPart_57 : decode cX1_addPart 57 = .ok (.dup2, 1) := by decide +kernel
theorem dX1_addPart_58 : decode cX1_addPart 58 = .ok (.iaload, 1) := by decide +kernel
theorem dX1_addPart_59 : decode cX1_addPart 59 = .ok (.iconst 1, 1) := by decide +kernel
theorem dX1_addPart_60 : decode cX1_addPart 60 = .ok (.iadd, 1) := by decide +kernel
theorem dX1_addPart_61 : decode cX1_addPart 61 = .ok (.iastore, 1) := by decide +kernel
theorem dX1_addPart_62 : decode cX1_addPart 62 = .ok (.aload_n 0, 1) := by decide +kernel
theorem dX1_addPart_63 : decode cX1_addPart 63 = .ok (.invokevirtual 35, 3) := by decide +kernel
theorem dX1_addPart_66 : decode cX1_addPart 66 = .ok (.ifCond .ne 16, 3) := by decide +kernel
theorem dX1_addPart_69 : decode cX1_addPart 69 = .ok (.aload_n 0, 1) := by decide +kernel
theorem dX1_addPart_70 : decode cX1_addPart 70 = .ok (.getfield 22, 3) := by decide +kernel
theorem dX1_addPart_73 : decode cX1_addPart 73 = .ok (.iload_n 1, 1) := by decide +kernel
theorem dX1_addPart_74 : decode cX1_addPart 74 = .ok (.dup2, 1) := by decide +kernel
theorem dX1_addPart_75 : decode cX1_addPart 75 = .ok (.iaload, 1) := by decide +kernel
theorem dX1_addPart_76 : decode cX1_addPart 76 = .ok (.iconst 1, 1) := by decide +kernel
theorem dX1_addPart_77 : decode cX1_addPart 77 = .ok (.isub, 1) := by decide +kernel
theorem dX1_addPart_78 : decode cX1_addPart 78 = .ok (.iastore, 1) := by decide +kernel
theorem dX1_addPart_79 : decode cX1_addPart 79 = .ok (.bipush (-6), 2) := by decide +kernel
theorem dX1_addPart_81 : decode cX1_addPart 81 = .ok (.ireturn, 1) := by decide +kernel
theorem dX1_addPart_82 : decode cX1_addPart 82 = .ok (.aload_n 0, 1) := by decide +kernel
theorem dX1_addPart_83 : decode cX1_addPart 83 = .ok (.getfield 28, 3) := by decide +kernel
theorem dX1_addPart_86 : decode cX1_addPart 86 = .ok (.iconst 0, 1) := by decide +kernel
theorem dX1_addPart_87 : decode cX1_addPart 87 = .ok (.aload_n 0, 1) := by decide +kernel
theorem dX1_addPart_88 : decode cX1_addPart 88 = .ok (.getfield 25, 3) := by decide +kernel
theorem dX1_addPart_91 : decode cX1_addPart 91 = .ok (.iconst 0, 1) := by decide +kernel
theorem dX1_addPart_92 : decode cX1_addPart 92 = .ok (.aload_n 0, 1) := by decide +kernel
theorem dX1_addPart_93 : decode cX1_addPart 93 = .ok (.getfield 25, 3) := by decide +kernel
theorem dX1_addPart_96 : decode cX1_addPart 96 = .ok (.arraylength, 1) := by decide +kernel
theorem dX1_addPart_97 : decode cX1_addPart 97 = .ok (.invokestatic 39, 3) := by decide +kernel
theorem dX1_addPart_100 : decode cX1_addPart 100 = .ok (.aload_n 0, 1) := by decide +kernel
theorem dX1_addPart_101 : decode cX1_addPart 101 = .ok (.getfield 22, 3) := by decide +kernel
theorem dX1_addPart_104 : decode cX1_addPart 104 = .ok (.iload_n 1, 1) := by decide +kernel
theorem dX1_addPart_105 : decode cX1_addPart 105 = .ok (.iaload, 1) := by decide +kernel
theorem dX1_addPart_106 : decode cX1_addPart 106 = .ok (.ireturn, 1) := by decide +kernel
theorem dX1_resolveAll_0 : decode cX1_resolveAll 0 = .ok (.aload_n 0, 1) := by decide +kernel
theorem dX1_resolveAll_1 : decode cX1_resolveAll 1 = .ok (.getfield 28, 3) := by decide +kernel
theorem dX1_resolveAll_4 : decode cX1_resolveAll 4 = .ok (.iconst 0, 1) := by decide +kernel
theorem dX1_resolveAll_5 : decode cX1_resolveAll 5 = .ok (.invokestatic 45, 3) := by decide +kernel
theorem dX1_resolveAll_8 : decode cX1_resolveAll 8 = .ok (.iconst 0, 1) := by decide +kernel
theorem dX1_resolveAll_9 : decode cX1_resolveAll 9 = .ok (.istore_n 1, 1) := by decide +kernel
theorem dX1_resolveAll_10 : decode cX1_resolveAll 10 = .ok (.iload_n 1, 1) := by decide +kernel
theorem dX1_resolveAll_11 : decode cX1_resolveAll 11 = .ok (.aload_n 0, 1) := by decide +kernel
theorem dX1_resolveAll_12 : decode cX1_resolveAll 12 = .ok (.getfield 31, 3) := by decide +kernel
theorem dX1_resolveAll_15 : decode cX1_resolveAll 15 = .ok (.if_icmp .ge 22, 3) := by decide +kernel
theorem dX1_resolveAll_18 : decode cX1_resolveAll 18 = .ok (.aload_n 0, 1) := by decide +kernel
theorem dX1_resolveAll_19 : decode cX1_resolveAll 19 = .ok (.iload_n 1, 1) := by decide +kernel
theorem dX1_resolveAll_20 : decode cX1_resolveAll 20 = .ok (.invokevirtual 51, 3) := by decide +kernel
theorem dX1_resolveAll_23 : decode cX1_resolveAll 23 = .ok (.sipush 20000, 3) := by decide +kernel
theorem dX1_resolveAll_26 : decode cX1_resolveAll 26 = .ok (.if_icmp .le 5, 3) := by decide +kernel
theorem dX1_resolveAll_29 : decode cX1_resolveAll 29 = .ok (.iconst 0, 1) := by decide +kernel
theorem dX1_resolveAll_30 : decode cX1_resolveAll 30 = .ok (.ireturn, 1) := by decide +kernel
theorem dX1_resolveAll_31 : decode cX1_resolveAll 31 = .ok (.iinc 1 1, 3) := by decide +kernel
theorem dX1_resolveAll_34 : decode cX1_resolveAll 34 = .ok (.goto (-24), 3) := by decide +kernel
theorem dX1_resolveAll_37 : decode cX1_resolveAll 37 = .ok (.iconst 1, 1) := by decide +kernel
theorem dX1_resolveAll_38 : decode cX1_resolveAll 38 = .ok (.ireturn, 1) := by decide +kernel
theorem dX1_resolveInTrial_0 : decode cX1_resolveInTrial 0 = .ok (.iconst 0, 1) := by decide +kernel
theorem dX1_resolveInTrial_1 : decode cX1_resolveInTrial 1 = .ok (.istore_n 2, 1) := by decide +kernel
theorem dX1_resolveInTrial_2 : decode cX1_resolveInTrial 2 = .ok (.iload_n 2, 1) := by decide +kernel
theorem dX1_resolveInTrial_3 : decode cX1_resolveInTrial 3 = .ok (.aload_n 0, 1) := by decide +kernel
theorem dX1_resolveInTrial_4 : decode cX1_resolveInTrial 4 = .ok (.getfield 22, 3) := by decide +kernel
theorem dX1_resolveInTrial_7 : decode cX1_resolveInTrial 7 = .ok (.iload_n 1, 1) := by decide +kernel
theorem dX1_resolveInTrial_8 : decode cX1_resolveInTrial 8 = .ok (.iaload, 1) := by decide +kernel
theorem dX1_resolveInTrial_9 : decode cX1_resolveInTrial 9 = .ok (.if_icmp .ge 20, 3) := by decide +kernel
theorem dX1_resolveInTrial_12 : decode cX1_resolveInTrial 12 = .ok (.aload_n 0, 1) := by decide +kernel
theorem dX1_resolveInTrial_13 : decode cX1_resolveInTrial 13 = .ok (.iload_n 1, 1) := by decide +kernel
theorem dX1_resolveInTrial_14 : decode cX1_resolveInTrial 14 = .ok (.iload_n 1, 1) := by decide +kernel
theorem dX1_resolveInTrial_15 : decode cX1_resolveInTrial 15 = .ok (.bipush 6, 2) := by decide +kernel
theorem dX1_resolveInTrial_17 : decode cX1_resolveInTrial 17 = .ok (.imul, 1) := by decide +kernel
theorem dX1_resolveInTrial_18 : decode cX1_resolveInTrial 18 = .ok (.iload_n 2, 1) := by decide +kernel
theorem dX1_resolveInTrial_19 : decode cX1_resolveInTrial 19 = .ok (.iadd, 1) := by decide +kernel
theorem dX1_resolveInTrial_20 : decode cX1_resolveInTrial 20 = .ok (.invokevirtual 55, 3) := by decide +kernel
theorem dX1_resolveInTrial_23 : decode cX1_resolveInTrial 23 = .ok (.iinc 2 1, 3) := by decide +kernel
theorem dX1_resolveInTrial_26 : decode cX1_resolveInTrial 26 = .ok (.goto (-24), 3) := by decide +kernel
theorem dX1_resolveInTrial_29 : decode cX1_resolveInTrial 29 = .ok (.iconst 0, 1) := by decide +kernel
theorem dX1_resolveInTrial_30 : decode cX1_resolveInTrial 30 = .ok (.istore_n 2, 1) := by decide +kernel
theorem dX1_resolveInTrial_31 : decode cX1_resolveInTrial 31 = .ok (.iconst 0, 1) := by decide +kernel
theorem dX1_resolveInTrial_32 : decode cX1_resolveInTrial 32 = .ok (.istore_n 3, 1) := by decide +kernel
theorem dX1_resolveInTrial_33 : decode cX1_resolveInTrial 33 = .ok (.iload_n 3, 1) := by decide +kernel
theorem dX1_resolveInTrial_34 : decode cX1_resolveInTrial 34 = .ok (.bipush 8, 2) := by decide +kernel
theorem dX1_resolveInTrial_36 : decode cX1_resolveInTrial 36 = .ok (.if_icmp .ge 23, 3) := by decide +kernel
theorem dX1_resolveInTrial_39 : decode cX1_resolveInTrial 39 = .ok (.iload_n 2, 1) := by decide +kernel
theorem dX1_resolveInTrial_40 : decode cX1_resolveInTrial 40 = .ok (.aload_n 0, 1) := by decide +kernel
theorem dX1_resolveInTrial_41 : decode cX1_resolveInTrial 41 = .ok (.getfield 28, 3) := by decide +kernel
theorem dX1_resolveInTrial_44 : decode cX1_resolveInTrial 44 = .ok (.iload_n 1, 1) := by decide +kernel
theorem dX1_resolveInTrial_45 : decode cX1_resolveInTrial 45 = .ok (.bipush 8, 2) := by decide +kernel
theorem dX1_resolveInTrial_47 : decode cX1_resolveInTrial 47 = .ok (.imul, 1) := by decide +kernel
theorem dX1_resolveInTrial_48 : decode cX1_resolveInTrial 48 = .ok (.iload_n 3, 1) := by decide +kernel
theorem dX1_resolveInTrial_49 : decode cX1_resolveInTrial 49 = .ok (.iadd, 1) := by decide +kernel
theorem dX1_resolveInTrial_50 : decode cX1_resolveInTrial 50 = .ok (.iaload, 1) := by decide +kernel
theorem dX1_resolveInTrial_51 : decode cX1_resolveInTrial 51 = .ok (.iadd, 1) := by decide +kernel
theorem dX1_resolveInTrial_52 : decode cX1_resolveInTrial 52 = .ok (.istore_n 2, 1) := by decide +kernel
theorem dX1_resolveInTrial_53 : decode cX1_resolveInTrial 53 = .ok (.iinc 3 1, 3) := by decide +kernel
theorem dX1_resolveInTrial_56 : decode cX1_resolveInTrial 56 = .ok (.goto (-23), 3) := by decide +kernel
theorem dX1_resolveInTrial_59 : decode cX1_resolveInTrial 59 = .ok (.iload_n 2, 1) := by decide +kernel
theorem dX1_resolveInTrial_60 : decode cX1_resolveInTrial 60 = .ok (.ireturn, 1) := by decide +kernel
theorem dX1_addPartToTrial_0 : decode cX1_addPartToTrial 0 = .ok (.iload_n 1, 1) := by decide +kernel
theorem dX1_addPartToTrial_1 : decode cX1_addPartToTrial 1 = .ok (.bipush 8, 2) := by decide +kernel
theorem dX1_addPartToTrial_3 : decode cX1_addPartToTrial 3 = .ok (.imul, 1) := by decide +kernel
theorem dX1_addPartToTrial_4 : decode cX1_addPartToTrial 4 = .ok (.istore_n 3, 1) := by decide +kernel
theorem dX1_addPartToTrial_5 : decode cX1_addPartToTrial 5 = .ok (.aload_n 0, 1) := by decide +kernel
theorem dX1_addPartToTrial_6 : decode cX1_addPartToTrial 6 = .ok (.getfield 9, 3) := by decide +kernel
theorem dX1_addPartToTrial_9 : decode cX1_addPartToTrial 9 = .ok (.iload_n 2, 1) := by decide +kernel
theorem dX1_addPartToTrial_10 : decode cX1_addPartToTrial 10 = .ok (.baload, 1) := by decide +kernel
theorem dX1_addPartToTrial_11 : decode cX1_addPartToTrial 11 = .ok (.ifCond .ne 26, 3) := by decide +kernel
theorem dX1_addPartToTrial_14 : decode cX1_addPartToTrial 14 = .ok (.aload_n 0, 1) := by decide +kernel
theorem dX1_addPartToTrial_15 : decode cX1_addPartToTrial 15 = .ok (.getfield 28, 3) := by decide +kernel
theorem dX1_addPartToTrial_18 : decode cX1_addPartToTrial 18 = .ok (.iload_n 3, 1) := by decide +kernel
theorem dX1_addPartToTrial_19 : decode cX1_addPartToTrial 19 = .ok (.aload_n 0, 1) := by decide +kernel
theorem dX1_addPartToTrial_20 : decode cX1_addPartToTrial 20 = .ok (.getfield 15, 3) := by decide +kernel
theorem dX1_addPartToTrial_23 : decode cX1_addPartToTrial 23 = .ok (.iload_n 2, 1) := by decide +kernel
theorem dX1_addPartToTrial_24 : decode cX1_addPartToTrial 24 = .ok (.iaload, 1) := by decide +kernel
theorem dX1_addPartToTrial_25 : decode cX1_addPartToTrial 25 = .ok (.iadd, 1) := by decide +kernel
theorem dX1_addPartToTrial_26 : decode cX1_addPartToTrial 26 = .ok (.dup2, 1) := by decide +kernel
theorem dX1_addPartToTrial_27 : decode cX1_addPartToTrial 27 = .ok (.iaload, 1) := by decide +kernel
theorem dX1_addPartToTrial_28 : decode cX1_addPartToTrial 28 = .ok (.aload_n 0, 1) := by decide +kernel
theorem dX1_addPartToTrial_29 : decode cX1_addPartToTrial 29 = .ok (.getfield 19, 3) := by decide +kernel
theorem dX1_addPartToTrial_32 : decode cX1_addPartToTrial 32 = .ok (.iload_n 2, 1) := by decide +kernel
theorem dX1_addPartToTrial_33 : decode cX1_addPartToTrial 33 = .ok (.iaload, 1) := by decide +kernel
theorem dX1_addPartToTrial_34 : decode cX1_addPartToTrial 34 = .ok (.iadd, 1) := by decide +kernel
theorem dX1_addPartToTrial_35 : decode cX1_addPartToTrial 35 = .ok (.iastore, 1) := by decide +kernel
theorem dX1_addPartToTrial_36 : decode cX1_addPartToTrial 36 = .ok (.return_, 1) := by decide +kernel
theorem dX1_addPartToTrial_37 : decode cX1_addPartToTrial 37 = .ok (.iconst 0, 1) := by decide +kernel
theorem dX1_addPartToTrial_38 : decode cX1_addPartToTrial 38 = .ok (.istore 4, 2) := by decide +kernel
theorem dX1_addPartToTrial_40 : decode cX1_addPartToTrial 40 = .ok (.iload 4, 2) := by decide +kernel
theorem dX1_addPartToTrial_42 : decode cX1_addPartToTrial 42 = .ok (.bipush 8, 2) := by decide +kernel
theorem dX1_addPartToTrial_44 : decode cX1_addPartToTrial 44 = .ok (.if_icmp .ge 45, 3) := by decide +kernel
theorem dX1_addPartToTrial_47 : decode cX1_addPartToTrial 47 = .ok (.aload_n 0, 1) := by decide +kernel
theorem dX1_addPartToTrial_48 : decode cX1_addPartToTrial 48 = .ok (.getfield 28, 3) := by decide +kernel
theorem dX1_addPartToTrial_51 : decode cX1_addPartToTrial 51 = .ok (.iload_n 3, 1) := by decide +kernel
theorem dX1_addPartToTrial_52 : decode cX1_addPartToTrial 52 = .ok (.iload 4, 2) := by decide +kernel
theorem dX1_addPartToTrial_54 : decode cX1_addPartToTrial 54 = .ok (.iadd, 1) := by decide +kernel
theorem dX1_addPartToTrial_55 : decode cX1_addPartToTrial 55 = .ok (.dup2, 1) := by decide +kernel
theorem dX1_addPartToTrial_56 : decode cX1_addPartToTrial 56 = .ok (.iaload, 1) := by decide +kernel
theorem dX1_addPartToTrial_57 : decode cX1_addPartToTrial 57 = .ok (.aload_n 0, 1) := by decide +kernel
theorem dX1_addPartToTrial_58 : decode cX1_addPartToTrial 58 = .ok (.getfield 19, 3) := by decide +kernel
theorem dX1_addPartToTrial_61 : decode cX1_addPartToTrial 61 = .ok (.iload_n 2, 1) := by decide +kernel
theorem dX1_addPartToTrial_62 : decode cX1_addPartToTrial 62 = .ok (.iaload, 1) := by decide +kernel
theorem dX1_addPartToTrial_63 : decode cX1_addPartToTrial 63 = .ok (.aload_n 0, 1) := by decide +kernel
theorem dX1_addPartToTrial_64 : decode cX1_addPartToTrial 64 = .ok (.getfield 28, 3) := by decide +kernel
theorem dX1_addPartToTrial_67 : decode cX1_addPartToTrial 67 = .ok (.aload_n 0, 1) := by decide +kernel
theorem dX1_addPartToTrial_68 : decode cX1_addPartToTrial 68 = .ok (.getfield 15, 3) := by decide +kernel
theorem dX1_addPartToTrial_71 : decode cX1_addPartToTrial 71 = .ok (.iload_n 2, 1) := by decide +kernel
theorem dX1_addPartToTrial_72 : decode cX1_addPartToTrial 72 = .ok (.iaload, 1) := by decide +kernel
theorem dX1_addPartToTrial_73 : decode cX1_addPartToTrial 73 = .ok (.bipush 8, 2) := by decide +kernel
theorem dX1_addPartToTrial_75 : decode cX1_addPartToTrial 75 = .ok (.imul, 1) := by decide +kernel
theorem dX1_addPartToTrial_76 : decode cX1_addPartToTrial 76 = .ok (.iload 4, 2) := by decide +kernel
theorem dX1_addPartToTrial_78 : decode cX1_addPartToTrial 78 = .ok (.iadd, 1) := by decide +kernel
theorem dX1_addPartToTrial_79 : decode cX1_addPartToTrial 79 = .ok (.iaload, 1) := by decide +kernel
theorem dX1_addPartToTrial_80 : decode cX1_addPartToTrial 80 = .ok (.imul, 1) := by decide +kernel
theorem dX1_addPartToTrial_81 : decode cX1_addPartToTrial 81 = .ok (.iadd, 1) := by decide +kernel
theorem dX1_addPartToTrial_82 : decode cX1_addPartToTrial 82 = .ok (.iastore, 1) := by decide +kernel
theorem dX1_addPartToTrial_83 : decode cX1_addPartToTrial 83 = .ok (.iinc 4 1, 3) := by decide +kernel
theorem dX1_addPartToTrial_86 : decode cX1_addPartToTrial 86 = .ok (.goto (-46), 3) := by decide +kernel
theorem dX1_addPartToTrial_89 : decode cX1_addPartToTrial 89 = .ok (.return_, 1) := by decide +kernel
theorem dX2_init_0 : decode cX2_init 0 = .ok (.aload_n 0, 1) := by decide +kernel
theorem dX2_init_1 : decode cX2_init 1 = .ok (.invokespecial 3, 3) := by decide +kernel
theorem dX2_init_4 : decode cX2_init 4 = .ok (.aload_n 0, 1) := by decide +kernel
theorem dX2_init_5 : decode cX2_init 5 = .ok (.bipush 8, 2) := by decide +kernel
theorem dX2_init_7 : decode cX2_init 7 = .ok (.newarray .int, 2) := by decide +kernel
theorem dX2_init_9 : decode cX2_init 9 = .ok (.putfield 9, 3) := by decide +kernel
theorem dX2_init_12 : decode cX2_init 12 = .ok (.aload_n 0, 1) := by decide +kernel
theorem dX2_init_13 : decode cX2_init 13 = .ok (.iconst 0, 1) := by decide +kernel
theorem dX2_init_14 : decode cX2_init 14 = .ok (.putfield 15, 3) := by decide +kernel
theorem dX2_init_17 : decode cX2_init 17 = .ok (.aload_n 0, 1) := by decide +kernel
theorem dX2_init_18 : decode cX2_init 18 = .ok (.iconst 0, 1) := by decide +kernel
theorem dX2_init_19 : decode cX2_init 19 = .ok (.putfield 19, 3) := by decide +kernel
theorem dX2_init_22 : decode cX2_init 22 = .ok (.aload_n 0, 1) := by decide +kernel
theorem dX2_init_23 : decode cX2_init 23 = .ok (.iconst 0, 1) := by decide +kernel
theorem dX2_init_24 : decode cX2_init 24 = .ok (.putfield 23, 3) := by decide +kernel
theorem dX2_init_27 : decode cX2_init 27 = .ok (.aload_n 0, 1) := by decide +kernel
theorem dX2_init_28 : decode cX2_init 28 = .ok (.iconst 3, 1) := by decide +kernel
theorem dX2_init_29 : decode cX2_init 29 = .ok (.newarray .int, 2) := by decide +kernel
theorem dX2_init_31 : decode cX2_init 31 = .ok (.putfield 26, 3) := by decide +kernel
theorem dX2_init_34 : decode cX2_init 34 = .ok (.aload_n 0, 1) := by decide +kernel
theorem dX2_init_35 : decode cX2_init 35 = .ok (.bipush 8, 2) := by decide +kernel
theorem dX2_init_37 : decode cX2_init 37 = .ok (.newarray .int, 2) := by decide +kernel
theorem dX2_init_39 : decode cX2_init 39 = .ok (.putfield 29, 3) := by decide +kernel
theorem dX2_init_42 : decode cX2_init 42 = .ok (.aload_n 0, 1) := by decide +kernel
theorem dX2_init_43 : decode cX2_init 43 = .ok (.bipush 8, 2) := by decide +kernel
theorem dX2_init_45 : decode cX2_init 45 = .ok (.newarray .int, 2) := by decide +kernel
theorem dX2_init_47 : decode cX2_init 47 = .ok (.putfield 32, 3) := by decide +kernel
theorem dX2_init_50 : decode cX2_init 50 = .ok (.aload_n 0, 1) := by decide +kernel
theorem dX2_init_51 : decode cX2_init 51 = .ok (.iconst 0, 1) := by decide +kernel
theorem dX2_init_52 : decode cX2_init 52 = .ok (.putfield 35, 3) := by decide +kernel
theorem dX2_init_55 : decode cX2_init 55 = .ok (.aload_n 0, 1) := by decide +kernel
theorem dX2_init_56 : decode cX2_init 56 = .ok (.iconst 0, 1) := by decide +kernel
theorem dX2_init_57 : decode cX2_init 57 = .ok (.putfield 38, 3) := by decide +kernel
theorem dX2_init_60 : decode cX2_init 60 = .ok (.aload_n 0, 1) := by decide +kernel
theorem dX2_init_61 : decode cX2_init 61 = .ok (.iconst 3, 1) := by decide +kernel
theorem dX2_init_62 : decode cX2_init 62 = .ok (.newarray .long, 2) := by decide +kernel
theorem dX2_init_64 : decode cX2_init 64 = .ok (.putfield 41, 3) := by decide +kernel
theorem dX2_init_67 : decode cX2_init 67 = .ok (.aload_n 0, 1) := by decide +kernel
theorem dX2_init_68 : decode cX2_init 68 = .ok (.iconst 3, 1) := by decide +kernel
theorem dX2_init_69 : decode cX2_init 69 = .ok (.newarray .long, 2) := by decide +kernel
theorem dX2_init_71 : decode cX2_init 71 = .ok (.putfield 45, 3) := by decide +kernel
theorem dX2_init_74 : decode cX2_init 74 = .ok (.return_, 1) := by decide +kernel
theorem dX2_aimAt_0 : decode cX2_aimAt 0 = .ok (.aload_n 0, 1) := by decide +kernel
theorem dX2_aimAt_1 : decode cX2_aimAt 1 = .ok (.getfield 26, 3) := by decide +kernel
theorem dX2_aimAt_4 : decode cX2_aimAt 4 = .ok (.iconst 0, 1) := by decide +kernel
theorem dX2_aimAt_5 : decode cX2_aimAt 5 = .ok (.iload_n 1, 1) := by decide +kernel
theorem dX2_aimAt_6 : decode cX2_aimAt 6 = .ok (.iastore, 1) := by decide +kernel
theorem dX2_aimAt_7 : decode cX2_aimAt 7 = .ok (.aload_n 0, 1) := by decide +kernel
theorem dX2_aimAt_8 : decode cX2_aimAt 8 = .ok (.getfield 26, 3) := by decide +kernel
theorem dX2_aimAt_11 : decode cX2_aimAt 11 = .ok (.iconst 1, 1) := by decide +kernel
theorem dX2_aimAt_12 : decode cX2_aimAt 12 = .ok (.iload_n 2, 1) := by decide +kernel
theorem dX2_aimAt_13 : decode cX2_aimAt 13 = .ok (.iastore, 1) := by decide +kernel
theorem dX2_aimAt_14 : decode cX2_aimAt 14 = .ok (.aload_n 0, 1) := by decide +kernel
theorem dX2_aimAt_15 : decode cX2_aimAt 15 = .ok (.getfield 26, 3) := by decide +kernel
theorem dX2_aimAt_18 : decode cX2_aimAt 18 = .ok (.iconst 2, 1) := by decide +kernel
theorem dX2_aimAt_19 : decode cX2_aimAt 19 = .ok (.iload_n 3, 1) := by decide +kernel
theorem dX2_aimAt_20 : decode cX2_aimAt 20 = .ok (.iastore, 1) := by decide +kernel
theorem dX2_aimAt_21 : decode cX2_aimAt 21 = .ok (.return_, 1) := by decide +kernel
theorem dX2_start_0 : decode cX2_start 0 = .ok (.aload_n 0, 1) := by decide +kernel
theorem dX2_start_1 : decode cX2_start 1 = .ok (.iload_n 2, 1) := by decide +kernel
theorem dX2_start_2 : decode cX2_start 2 = .ok (.sipush 20000, 3) := by decide +kernel
theorem dX2_start_5 : decode cX2_start 5 = .ok (.aload_n 1, 1) := by decide +kernel
theorem dX2_start_6 : decode cX2_start 6 = .ok (.getfield 48, 3) := by decide +kernel
theorem dX2_start_9 : decode cX2_start 9 = .ok (.isub, 1) := by decide +kernel
theorem dX2_start_10 : decode cX2_start 10 = .ok (.invokestatic 53, 3) := by decide +kernel
theorem dX2_start_13 : decode cX2_start 13 = .ok (.putfield 38, 3) := by decide +kernel
theorem dX2_start_16 : decode cX2_start 16 = .ok (.aload_n 0, 1) := by decide +kernel
theorem dX2_start_17 : decode cX2_start 17 = .ok (.iconst 0, 1) := by decide +kernel
theorem dX2_start_18 : decode cX2_start 18 = .ok (.putfield 35, 3) := by decide +kernel
theorem dX2_start_21 : decode cX2_start 21 = .ok (.iconst 0, 1) := by decide +kernel
theorem dX2_start_22 : decode cX2_start 22 = .ok (.istore 5, 2) := by decide +kernel
theorem dX2_start_24 : decode cX2_start 24 = .ok (.iload 5, 2) := by decide +kernel
theorem dX2_start_26 : decode cX2_start 26 = .ok (.bipush 8, 2) := by decide +kernel
theorem dX2_start_28 : decode cX2_start 28 = .ok (.if_icmp .ge 31, 3) := by decide +kernel
theorem dX2_start_31 : decode cX2_start 31 = .ok (.aload_n 0, 1) := by decide +kernel
theorem dX2_start_32 : decode cX2_start 32 = .ok (.getfield 32, 3) := by decide +kernel
theorem dX2_start_35 : decode cX2_start 35 = .ok (.iload 5, 2) := by decide +kernel
theorem dX2_start_37 : decode cX2_start 37 = .ok (.iconst 0, 1) := by decide +kernel
theorem dX2_start_38 : decode cX2_start 38 = .ok (.iastore, 1) := by decide +kernel
theorem dX2_start_39 : decode cX2_start 39 = .ok (.aload_n 0, 1) := by decide +kernel
theorem dX2_start_40 : decode cX2_start 40 = .ok (.getfield 29, 3) := by decide +kernel
theorem dX2_start_43 : decode cX2_start 43 = .ok (.iload 5, 2) := by decide +kernel
theorem dX2_start_45 : decode cX2_start 45 = .ok (.aload 4, 2) := by decide +kernel
theorem dX2_start_47 : decode cX2_start 47 = .ok (.iload 5, 2) := by decide +kernel
theorem dX2_start_49 : decode cX2_start 49 = .ok (.invokevirtual 59, 3) := by decide +kernel
theorem dX2_start_52 : decode cX2_start 52 = .ok (.iastore, 1) := by decide +kernel
theorem dX2_start_53 : decode cX2_start 53 = .ok (.iinc 5 1, 3) := by decide +kernel
theorem dX2_start_56 : decode cX2_start 56 = .ok (.goto (-32), 3) := by decide +kernel
theorem dX2_start_59 : decode cX2_start 59 = .ok (.iconst 0, 1) := by decide +kernel
theorem dX2_start_60 : decode cX2_start 60 = .ok (.istore 5, 2) := by decide +kernel
theorem dX2_start_62 : decode cX2_start 62 = .ok (.iload 5, 2) := by decide +kernel
theorem dX2_start_64 : decode cX2_start 64 = .ok (.iconst 3, 1) := by decide +kernel
theorem dX2_start_65 : decode cX2_start 65 = .ok (.if_icmp .ge 37, 3) := by decide +kernel
theorem dX2_start_68 : decode cX2_start 68 = .ok (.aload_n 0, 1) := by decide +kernel
theorem dX2_start_69 : decode cX2_start 69 = .ok (.getfield 41, 3) := by decide +kernel
theorem dX2_start_72 : decode cX2_start 72 = .ok (.iload 5, 2) := by decide +kernel
theorem dX2_start_74 : decode cX2_start 74 = .ok (.aload_n 3, 1) := by decide +kernel
theorem dX2_start_75 : decode cX2_start 75 = .ok (.aload_n 1, 1) := by decide +kernel
theorem dX2_start_76 : decode cX2_start 76 = .ok (.iload 5, 2) := by decide +kernel
theorem dX2_start_78 : decode cX2_start 78 = .ok (.invokevirtual 65, 3) := by decide +kernel
theorem dX2_start_81 : decode cX2_start 81 = .ok (.lastore, 1) := by decide +kernel
theorem dX2_start_82 : decode cX2_start 82 = .ok (.aload_n 0, 1) := by decide +kernel
theorem dX2_start_83 : decode cX2_start 83 = .ok (.getfield 45, 3) := by decide +kernel
theorem dX2_start_86 : decode cX2_start 86 = .ok (.iload 5, 2) := by decide +kernel
theorem dX2_start_88 : decode cX2_start 88 = .ok (.aload_n 3, 1) := by decide +kernel
theorem dX2_start_89 : decode cX2_start 89 = .ok (.aload_n 1, 1) := by decide +kernel
theorem dX2_start_90 : decode cX2_start 90 = .ok (.iload 5, 2) := by decide +kernel
theorem dX2_start_92 : decode cX2_start 92 = .ok (.invokevirtual 70, 3) := by decide +kernel
theorem dX2_start_95 : decode cX2_start 95 = .ok (.lastore, 1) := by decide +kernel
theorem dX2_start_96 : decode cX2_start 96 = .ok (.iinc 5 1, 3) := by decide +kernel
theorem dX2_start_99 : decode cX2_start 99 = .ok (.goto (-37), 3) := by decide +kernel
theorem dX2_start_102 : decode cX2_start 102 = .ok (.return_, 1) := by decide +kernel
theorem dX2_run_0 : decode cX2_run 0 = .ok (.aload_n 0, 1) := by decide +kernel
theorem dX2_run_1 : decode cX2_run 1 = .ok (.iconst 1, 1) := by decide +kernel
theorem dX2_run_2 : decode cX2_run 2 = .ok (.putfield 15, 3) := by decide +kernel
theorem dX2_run_5 : decode cX2_run 5 = .ok (.aload_n 0, 1) := by decide +kernel
theorem dX2_run_6 : decode cX2_run 6 = .ok (.ldc 72, 2) := by decide +kernel
theorem dX2_run_8 : decode cX2_run 8 = .ok (.putfield 19, 3) := by decide +kernel
theorem dX2_run_11 : decode cX2_run 11 = .ok (.iconst 0, 1) := by decide +kernel
theorem dX2_run_12 : decode cX2_run 12 = .ok (.istore_n 2, 1) := by decide +kernel
theorem dX2_run_13 : decode cX2_run 13 = .ok (.iload_n 2, 1) := by decide +kernel
theorem dX2_run_14 : decode cX2_run 14 = .ok (.sipush 12870, 3) := by decide +kernel
theorem dX2_run_17 : decode cX2_run 17 = .ok (.if_icmp .ge 24, 3) := by decide +kernel
theorem dX2_run_20 : decode cX2_run 20 = .ok (.aload_n 0, 1) := by decide +kernel
theorem dX2_run_21 : decode cX2_run 21 = .ok (.invokevirtual 73, 3) := by decide +kernel
theorem dX2_run_24 : decode cX2_run 24 = .ok (.aload_n 0, 1) := by decide +kernel
theorem dX2_run_25 : decode cX2_run 25 = .ok (.aload_n 1, 1) := by decide +kernel
theorem dX2_run_26 : decode cX2_run 26 = .ok (.invokevirtual 76, 3) := by decide +kernel
theorem dX2_run_29 : decode cX2_run 29 = .ok (.ifCond .ne 6, 3) := by decide +kernel
theorem dX2_run_32 : decode cX2_run 32 = .ok (.goto 9, 3) := by decide +kernel
theorem dX2_run_35 : decode cX2_run 35 = .ok (.iinc 2 1, 3) := by decide +kernel
theorem dX2_run_38 : decode cX2_run 38 = .ok (.goto (-25), 3) := by decide +kernel
theorem dX2_run_41 : decode cX2_run 41 = .ok (.aload_n 0, 1) := by decide +kernel
theorem dX2_run_42 : decode cX2_run 42 = .ok (.getfield 19, 3) := by decide +kernel
theorem dX2_run_45 : decode cX2_run 45 = .ok (.ireturn, 1) := by decide +kernel
theorem dX2_judge_0 : decode cX2_judge 0 = .ok (.aload_n 0, 1) := by decide +kernel
theorem dX2_judge_1 : decode cX2_judge 1 = .ok (.invokevirtual 80, 3) := by decide +kernel
theorem dX2_judge_4 : decode cX2_judge 4 = .ok (.istore_n 1, 1) := by decide +kernel
theorem dX2_judge_5 : decode cX2_judge 5 = .ok (.iload_n 1, 1) := by decide +kernel
theorem dX2_judge_6 : decode cX2_judge 6 = .ok (.aload_n 0, 1) := by decide +kernel
theorem dX2_judge_7 : decode cX2_judge 7 = .ok (.getfield 19, 3) := by decide +kernel
theorem dX2_judge_10 : decode cX2_judge 10 = .ok (.if_icmp .lt 22, 3) := by decide +kernel
theorem dX2_judge_13 : decode cX2_judge 13 = .ok (.iload_n 1, 1) := by decide +kernel
theorem dX2_judge_14 : decode cX2_judge 14 = .ok (.aload_n 0, 1) := by decide +kernel
theorem dX2_judge_15 : decode cX2_judge 15 = .ok (.getfield 19, 3) := by decide +kernel
theorem dX2_judge_18 : decode cX2_judge 18 = .ok (.if_icmp .ne 42, 3) := by decide +kernel
theorem dX2_judge_21 : decode cX2_judge 21 = .ok (.aload_n 0, 1) := by decide +kernel
theorem dX2_judge_22 : decode cX2_judge 22 = .ok (.getfield 35, 3) := by decide +kernel
theorem dX2_judge_25 : decode cX2_judge 25 = .ok (.aload_n 0, 1) := by decide +kernel
theorem dX2_judge_26 : decode cX2_judge 26 = .ok (.getfield 23, 3) := by decide +kernel
theorem dX2_judge_29 : decode cX2_judge 29 = .ok (.if_icmp .ge 31, 3) := by decide +kernel
theorem dX2_judge_32 : decode cX2_judge 32 = .ok (.aload_n 0, 1) := by decide +kernel
theorem dX2_judge_33 : decode cX2_judge 33 = .ok (.iload_n 1, 1) := by decide +kernel
theorem dX2_judge_34 : decode cX2_judge 34 = .ok (.putfield 19, 3) := by decide +kernel
theorem dX2_judge_37 : decode cX2_judge 37 = .ok (.aload_n 0, 1) := by decide +kernel
theorem dX2_judge_38 : decode cX2_judge 38 = .ok (.aload_n 0, 1) := by decide +kernel
theorem dX2_judge_39 : decode cX2_judge 39 = .ok (.getfield 35, 3) := by decide +kernel
theorem dX2_judge_42 : decode cX2_judge 42 = .ok (.putfield 23, 3) := by decide +kernel
theorem dX2_judge_45 : decode cX2_judge 45 = .ok (.aload_n 0, 1) := by decide +kernel
theorem dX2_judge_46 : decode cX2_judge 46 = .ok (.getfield 32, 3) := by decide +kernel
theorem dX2_judge_49 : decode cX2_judge 49 = .ok (.iconst 0, 1) := by decide +kernel
theorem dX2_judge_50 : decode cX2_judge 50 = .ok (.aload_n 0, 1) := by decide +kernel
theorem dX2_judge_51 : decode cX2_judge 51 = .ok (.getfield 9, 3) := by decide +kernel
theorem dX2_judge_54 : decode cX2_judge 54 = .ok (.iconst 0, 1) := by decide +kernel
theorem dX2_judge_55 : decode cX2_judge 55 = .ok (.bipush 8, 2) := by decide +kernel
theorem dX2_judge_57 : decode cX2_judge 57 = .ok (.invokestatic 84, 3) := by decide +kernel
theorem dX2_judge_60 : decode cX2_judge 60 = .ok (.return_, 1) := by decide +kernel
theorem dX2_missOfTrial_0 : decode cX2_missOfTrial 0 = .ok (.iconst 0, 1) := by decide +kernel
theorem dX2_missOfTrial_1 : decode cX2_missOfTrial 1 = .ok (.istore_n 1, 1) := by decide +kernel
theorem dX2_missOfTrial_2 : decode cX2_missOfTrial 2 = .ok (.iconst 0, 1) := by decide +kernel
theorem dX2_missOfTrial_3 : decode cX2_missOfTrial 3 = .ok (.istore_n 2, 1) := by decide +kernel
theorem dX2_missOfTrial_4 : decode cX2_missOfTrial 4 = .ok (.iload_n 2, 1) := by decide +kernel
theorem dX2_missOfTrial_5 : decode cX2_missOfTrial 5 = .ok (.iconst 3, 1) := by decide +kernel
theorem dX2_missOfTrial_6 : decode cX2_missOfTrial 6 = .ok (.if_icmp .ge 49, 3) := by decide +kernel
theorem dX2_missOfTrial_9 : decode cX2_missOfTrial 9 = .ok (.iload_n 1, 1) := by decide +kernel
theorem dX2_missOfTrial_10 : decode cX2_missOfTrial 10 = .ok (.aload_n 0, 1) := by decide +kernel
theorem dX2_missOfTrial_11 : decode cX2_missOfTrial 11 = .ok (.getfield 19, 3) := by decide +kernel
theorem dX2_missOfTrial_14 : decode cX2_missOfTrial 14 = .ok (.if_icmp .gt 41, 3) := by decide +kernel
theorem dX2_missOfTrial_17 : decode cX2_missOfTrial 17 = .ok (.aload_n 0, 1) := by decide +kernel
theorem dX2_missOfTrial_18 : decode cX2_missOfTrial 18 = .ok (.getfield 41, 3) := by decide +kernel
theorem dX2_missOfTrial_21 : decode cX2_missOfTrial 21 = .ok (.iload_n 2, 1) := by decide +kernel
theorem dX2_missOfTrial_22 : decode cX2_missOfTrial 22 = .ok (.laload, 1) := by decide +kernel
theorem dX2_missOfTrial_23 : decode cX2_missOfTrial 23 = .ok (.aload_n 0, 1) := by decide +kernel
theorem dX2_missOfTrial_24 : decode cX2_missOfTrial 24 = .ok (.getfield 45, 3) := by decide +kernel
theorem dX2_missOfTrial_27 : decode cX2_missOfTrial 27 = .ok (.iload_n 2, 1) := by decide +kernel
theorem dX2_missOfTrial_28 : decode cX2_missOfTrial 28 = .ok (.laload, 1) := by decide +kernel
theorem dX2_missOfTrial_29 : decode cX2_missOfTrial 29 = .ok (.invokestatic 90, 3) := by decide +kernel
theorem dX2_missOfTrial_32 : decode cX2_missOfTrial 32 = .ok (.aload_n 0, 1) := by decide +kernel
theorem dX2_missOfTrial_33 : decode cX2_missOfTrial 33 = .ok (.getfield 26, 3) := by decide +kernel
theorem dX2_missOfTrial_36 : decode cX2_missOfTrial 36 = .ok (.iload_n 2, 1) := by decide +kernel
theorem dX2_missOfTrial_37 : decode cX2_missOfTrial 37 = .ok (.iaload, 1) := by decide +kernel
theorem dX2_missOfTrial_38 : decode cX2_missOfTrial 38 = .ok (.isub, 1) := by decide +kernel
theorem dX2_missOfTrial_39 : decode cX2_missOfTrial 39 = .ok (.invokestatic 94, 3) := by decide +kernel
theorem dX2_missOfTrial_42 : decode cX2_missOfTrial 42 = .ok (.istore_n 3, 1) := by decide +kernel
theorem dX2_missOfTrial_43 : decode cX2_missOfTrial 43 = .ok (.iload_n 1, 1) := by decide +kernel
theorem dX2_missOfTrial_44 : decode cX2_missOfTrial 44 = .ok (.iload_n 3, 1) := by decide +kernel
theorem dX2_missOfTrial_45 : decode cX2_missOfTrial 45 = .ok (.invokestatic 97, 3) := by decide +kernel
theorem dX2_missOfTrial_48 : decode cX2_missOfTrial 48 = .ok (.istore_n 1, 1) := by decide +kernel
theorem dX2_missOfTrial_49 : decode cX2_missOfTrial 49 = .ok (.iinc 2 1, 3) := by decide +kernel
theorem dX2_missOfTrial_52 : decode cX2_missOfTrial 52 = .ok (.goto (-48), 3) := by decide +kernel
theorem dX2_missOfTrial_55 : decode cX2_missOfTrial 55 = .ok (.iload_n 1, 1) := by decide +kernel
theorem dX2_missOfTrial_56 : decode cX2_missOfTrial 56 = .ok (.ireturn, 1) := by decide +kernel
theorem dX2_advance_0 : decode cX2_advance 0 = .ok (.aload_n 1, 1) := by decide +kernel
theorem dX2_advance_1 : decode cX2_advance 1 = .ok (.getfield 100, 3) := by decide +kernel
theorem dX2_advance_4 : decode cX2_advance 4 = .ok (.iconst 1, 1) := by decide +kernel
theorem dX2_advance_5 : decode cX2_advance 5 = .ok (.isub, 1) := by decide +kernel
theorem dX2_advance_6 : decode cX2_advance 6 = .ok (.istore_n 2, 1) := by decide +kernel
theorem dX2_advance_7 : decode cX2_advance 7 = .ok (.iload_n 2, 1) := by decide +kernel
theorem dX2_advance_8 : decode cX2_advance 8 = .ok (.ifCond .lt 66, 3) := by decide +kernel
theorem dX2_advance_11 : decode cX2_advance 11 = .ok (.aload_n 0, 1) := by decide +kernel
theorem dX2_advance_12 : decode cX2_advance 12 = .ok (.getfield 35, 3) := by decide +kernel
theorem dX2_advance_15 : decode cX2_advance 15 = .ok (.aload_n 0, 1) := by decide +kernel
theorem dX2_advance_16 : decode cX2_advance 16 = .ok (.getfield 38, 3) := by decide +kernel
theorem dX2_advance_19 : decode cX2_advance 19 = .ok (.if_icmp .ge 27, 3) := by decide +kernel
theorem dX2_advance_22 : decode cX2_advance 22 = .ok (.aload_n 0, 1) := by decide +kernel
theorem dX2_advance_23 : decode cX2_advance 23 = .ok (.getfield 32, 3) := by decide +kernel
theorem dX2_advance_26 : decode cX2_advance 26 = .ok (.iload_n 2, 1) := by decide +kernel
theorem dX2_advance_27 : decode cX2_advance 27 = .ok (.iaload, 1) := by decide +kernel
theorem dX2_advance_28 : decode cX2_advance 28 = .ok (.aload_n 0, 1) := by decide +kernel
theorem dX2_advance_29 : decode cX2_advance 29 = .ok (.getfield 29, 3) := by decide +kernel
theorem dX2_advance_32 : decode cX2_advance 32 = .ok (.iload_n 2, 1) := by decide +kernel
theorem dX2_advance_33 : decode cX2_advance 33 = .ok (.iaload, 1) := by decide +kernel
theorem dX2_advance_34 : decode cX2_advance 34 = .ok (.if_icmp .ge 12, 3) := by decide +kernel
theorem dX2_advance_37 : decode cX2_advance 37 = .ok (.aload_n 0, 1) := by decide +kernel
theorem dX2_advance_38 : decode cX2_advance 38 = .ok (.iload_n 2, 1) := by decide +kernel
theorem dX2_advance_39 : decode cX2_advance 39 = .ok (.iconst 1, 1) := by decide +kernel
theorem dX2_advance_40 : decode cX2_advance 40 = .ok (.aload_n 1, 1) := by decide +kernel
theorem dX2_advance_41 : decode cX2_advance 41 = .ok (.invokevirtual 103, 3) := by decide +kernel
theorem dX2_advance_44 : decode cX2_advance 44 = .ok (.iconst 1, 1) := by decide +kernel
theorem dX2_advance_45 : decode cX2_advance 45 = .ok (.ireturn, 1) := by decide +kernel
theorem dX2_advance_46 : decode cX2_advance 46 = .ok (.aload_n 0, 1) := by decide +kernel
theorem dX2_advance_47 : decode cX2_advance 47 = .ok (.getfield 32, 3) := by decide +kernel
theorem dX2_advance_50 : decode cX2_advance 50 = .ok (.iload_n 2, 1) := by decide +kernel
theorem dX2_advance_51 : decode cX2_advance 51 = .ok (.iaload, 1) := by decide +kernel
theorem dX2_advance_52 : decode cX2_advance 52 = .ok (.ifCond .le 16, 3) := by decide +kernel
theorem dX2_advance_55 : decode cX2_advance 55 = .ok (.aload_n 0, 1) := by decide +kernel
theorem dX2_advance_56 : decode cX2_advance 56 = .ok (.iload_n 2, 1) := by decide +kernel
theorem dX2_advance_57 : decode cX2_advance 57 = .ok (.aload_n 0, 1) := by decide +kernel
theorem dX2_advance_58 : decode cX2_advance 58 = .ok (.getfield 32, 3) := by decide +kernel
theorem dX2_advance_61 : decode cX2_advance 61 = .ok (.iload_n 2, 1) := by decide +kernel
theorem dX2_advance_62 : decode cX2_advance 62 = .ok (.iaload, 1) := by decide +kernel
theorem dX2_advance_63 : decode cX2_advance 63 = .ok (.ineg, 1) := by decide +kernel
theorem dX2_advance_64 : decode cX2_advance 64 = .ok (.aload_n 1, 1) := by decide +kernel
theorem dX2_advance_65 : decode cX2_advance 65 = .ok (.invokevirtual 103, 3) := by decide +kernel
theorem dX2_advance_68 : decode cX2_advance 68 = .ok (.iinc 2 (-1), 3) := by decide +kernel
theorem dX2_advance_71 : decode cX2_advance 71 = .ok (.goto (-64), 3) := by decide +kernel
theorem dX2_advance_74 : decode cX2_advance 74 = .ok (.iconst 0, 1) := by decide +kernel
theorem dX2_advance_75 : decode cX2_advance 75 = .ok (.ireturn, 1) := by decide +kernel
theorem dX2_change_0 : decode cX2_change 0 = .ok (.aload_n 0, 1) := by decide +kernel
theorem dX2_change_1 : decode cX2_change 1 = .ok (.getfield 32, 3) := by decide +kernel
theorem dX2_change_4 : decode cX2_change 4 = .ok (.iload_n 1, 1) := by decide +kernel
theorem dX2_change_5 : decode cX2_change 5 = .ok (.dup2, 1) := by decide +kernel
theorem dX2_change_6 : decode cX2_change 6 = .ok (.iaload, 1) := by decide +kernel
theorem dX2_change_7 : decode cX2_change 7 = .ok (.iload_n 2, 1) := by decide +kernel
theorem dX2_change_8 : decode cX2_change 8 = .ok (.iadd, 1) := by decide +kernel
theorem dX2_change_9 : decode cX2_change 9 = .ok (.iastore, 1) := by decide +kernel
theorem dX2_change_10 : decode cX2_change 10 = .ok (.aload_n 0, 1) := by decide +kernel
theorem dX2_change_11 : decode cX2_change 11 = .ok (.dup, 1) := by decide +kernel
theorem dX2_change_12 : decode cX2_change 12 = .ok (.getfield 35, 3) := by decide +kernel
theorem dX2_change_15 : decode cX2_change 15 = .ok (.iload_n 2, 1) := by decide +kernel
theorem dX2_change_16 : decode cX2_change 16 = .ok (.iadd, 1) := by decide +kernel
theorem dX2_change_17 : decode cX2_change 17 = .ok (.putfield 35, 3) := by decide +kernel
theorem dX2_change_20 : decode cX2_change 20 = .ok (.iconst 0, 1) := by decide +kernel
theorem dX2_change_21 : decode cX2_change 21 = .ok (.istore 4, 2) := by decide +kernel
theorem dX2_change_23 : decode cX2_change 23 = .ok (.iload 4, 2) := by decide +kernel
theorem dX2_change_25 : decode cX2_change 25 = .ok (.iconst 3, 1) := by decide +kernel
theorem dX2_change_26 : decode cX2_change 26 = .ok (.if_icmp .ge 57, 3) := by decide +kernel
theorem dX2_change_29 : decode cX2_change 29 = .ok (.aload_n 0, 1) := by decide +kernel
theorem dX2_change_30 : decode cX2_change 30 = .ok (.getfield 41, 3) := by decide +kernel
theorem dX2_change_33 : decode cX2_change 33 = .ok (.iload 4, 2) := by decide +kernel
theorem dX2_change_35 : decode cX2_change 35 = .ok (.dup2, 1) := by decide +kernel
theorem dX2_change_36 : decode cX2_change 36 = .ok (.laload, 1) := by decide +kernel
theorem dX2_change_37 : decode cX2_change 37 = .ok (.iload_n 2, 1) := by decide +kernel
theorem dX2_change_38 : decode cX2_change 38 = .ok (.aload_n 3, 1) := by decide +kernel
theorem dX2_change_39 : decode cX2_change 39 = .ok (.getfield 107, 3) := by decide +kernel
theorem dX2_change_42 : decode cX2_change 42 = .ok (.iload_n 1, 1) := by decide +kernel
theorem dX2_change_43 : decode cX2_change 43 = .ok (.iconst 3, 1) := by decide +kernel
theorem dX2_change_44 : decode cX2_change 44 = .ok (.imul, 1) := by decide +kernel
theorem dX2_change_45 : decode cX2_change 45 = .ok (.iload 4, 2) := by decide +kernel
theorem dX2_change_47 : decode cX2_change 47 = .ok (.iadd, 1) := by decide +kernel
theorem dX2_change_48 : decode cX2_change 48 = .ok (.iaload, 1) := by decide +kernel
theorem dX2_change_49 : decode cX2_change 49 = .ok (.imul, 1) := by decide +kernel
theorem dX2_change_50 : decode cX2_change 50 = .ok (.i2l, 1) := by decide +kernel
theorem dX2_change_51 : decode cX2_change 51 = .ok (.ladd, 1) := by decide +kernel
theorem dX2_change_52 : decode cX2_change 52 = .ok (.lastore, 1) := by decide +kernel
theorem dX2_change_53 : decode cX2_change 53 = .ok (.aload_n 0, 1) := by decide +kernel
theorem dX2_change_54 : decode cX2_change 54 = .ok (.getfield 45, 3) := by decide +kernel
theorem dX2_change_57 : decode cX2_change 57 = .ok (.iload 4, 2) := by decide +kernel
theorem dX2_change_59 : decode cX2_change 59 = .ok (.dup2, 1) := by decide +kernel
theorem dX2_change_60 : decode cX2_change 60 = .ok (.laload, 1) := by decide +kernel
theorem dX2_change_61 : decode cX2_change 61 = .ok (.iload_n 2, 1) := by decide +kernel
theorem dX2_change_62 : decode cX2_change 62 = .ok (.aload_n 3, 1) := by decide +kernel
theorem dX2_change_63 : decode cX2_change 63 = .ok (.getfield 110, 3) := by decide +kernel
theorem dX2_change_66 : decode cX2_change 66 = .ok (.iload_n 1, 1) := by decide +kernel
theorem dX2_change_67 : decode cX2_change 67 = .ok (.iconst 3, 1) := by decide +kernel
theorem dX2_change_68 : decode cX2_change 68 = .ok (.imul, 1) := by decide +kernel
theorem dX2_change_69 : decode cX2_change 69 = .ok (.iload 4, 2) := by decide +kernel
theorem dX2_change_71 : decode cX2_change 71 = .ok (.iadd, 1) := by decide +kernel
theorem dX2_change_72 : decode cX2_change 72 = .ok (.iaload, 1) := by decide +kernel
theorem dX2_change_73 : decode cX2_change 73 = .ok (.imul, 1) := by decide +kernel
theorem dX2_change_74 : decode cX2_change 74 = .ok (.i2l, 1) := by decide +kernel
theorem dX2_change_75 : decode cX2_change 75 = .ok (.ladd, 1) := by decide +kernel
theorem dX2_change_76 : decode cX2_change 76 = .ok (.lastore, 1) := by decide +kernel
theorem dX2_change_77 : decode cX2_change 77 = .ok (.iinc 4 1, 3) := by decide +kernel
theorem dX2_change_80 : decode cX2_change 80 = .ok (.goto (-57), 3) := by decide +kernel
theorem dX2_change_83 : decode cX2_change 83 = .ok (.return_, 1) := by decide +kernel
theorem dX3_init_0 : decode cX3_init 0 = .ok (.aload_n 0, 1) := by decide +kernel
theorem dX3_init_1 : decode cX3_init 1 = .ok (.invokespecial 3, 3) := by decide +kernel
theorem dX3_init_4 : decode cX3_init 4 = .ok (.aload_n 0, 1) := by decide +kernel
theorem dX3_init_5 : decode cX3_init 5 = .ok (.bipush 100, 2) := by decide +kernel
theorem dX3_init_7 : decode cX3_init 7 = .ok (.newarray .int, 2) := by decide +kernel
theorem dX3_init_9 : decode cX3_init 9 = .ok (.putfield 9, 3) := by decide +kernel
theorem dX3_init_12 : decode cX3_init 12 = .ok (.aload_n 0, 1) := by decide +kernel
theorem dX3_init_13 : decode cX3_init 13 = .ok (.bipush 100, 2) := by decide +kernel
theorem dX3_init_15 : decode cX3_init 15 = .ok (.newarray .int, 2) := by decide +kernel
theorem dX3_init_17 : decode cX3_init 17 = .ok (.putfield 15, 3) := by decide +kernel
theorem dX3_init_20 : decode cX3_init 20 = .ok (.aload_n 0, 1) := by decide +kernel
theorem dX3_init_21 : decode cX3_init 21 = .ok (.bipush 100, 2) := by decide +kernel
theorem dX3_init_23 : decode cX3_init 23 = .ok (.newarray .int, 2) := by decide +kernel
theorem dX3_init_25 : decode cX3_init 25 = .ok (.putfield 18, 3) := by decide +kernel
theorem dX3_init_28 : decode cX3_init 28 = .ok (.aload_n 0, 1) := by decide +kernel
theorem dX3_init_29 : decode cX3_init 29 = .ok (.bipush 100, 2) := by decide +kernel
theorem dX3_init_31 : decode cX3_init 31 = .ok (.newarray .int, 2) := by decide +kernel
theorem dX3_init_33 : decode cX3_init 33 = .ok (.putfield 21, 3) := by decide +kernel
theorem dX3_init_36 : decode cX3_init 36 = .ok (.aload_n 0, 1) := by decide +kernel
theorem dX3_init_37 : decode cX3_init 37 = .ok (.bipush 100, 2) := by decide +kernel
theorem dX3_init_39 : decode cX3_init 39 = .ok (.newarray .long, 2) := by decide +kernel
theorem dX3_init_41 : decode cX3_init 41 = .ok (.putfield 24, 3) := by decide +kernel
theorem dX3_init_44 : decode cX3_init 44 = .ok (.aload_n 0, 1) := by decide +kernel
theorem dX3_init_45 : decode cX3_init 45 = .ok (.iconst 0, 1) := by decide +kernel
theorem dX3_init_46 : decode cX3_init 46 = .ok (.putfield 28, 3) := by decide +kernel
theorem dX3_init_49 : decode cX3_init 49 = .ok (.return_, 1) := by decide +kernel
theorem dX3_has_0 : decode cX3_has 0 = .ok (.iload_n 1, 1) := by decide +kernel
theorem dX3_has_1 : decode cX3_has 1 = .ok (.ifCond .lt 15, 3) := by decide +kernel
theorem dX3_has_4 : decode cX3_has 4 = .ok (.iload_n 1, 1) := by decide +kernel
theorem dX3_has_5 : decode cX3_has 5 = .ok (.aload_n 0, 1) := by decide +kernel
theorem dX3_has_6 : decode cX3_has 6 = .ok (.getfield 28, 3) := by decide +kernel
theorem dX3_has_9 : decode cX3_has 9 = .ok (.if_icmp .ge 7, 3) := by decide +kernel
theorem dX3_has_12 : decode cX3_has 12 = .ok (.iconst 1, 1) := by decide +kernel
theorem dX3_has_13 : decode cX3_has 13 = .ok (.goto 4, 3) := by decide +kernel
theorem dX3_has_16 : decode cX3_has 16 = .ok (.iconst 0, 1) := by decide +kernel
theorem dX3_has_17 : decode cX3_has 17 = .ok (.ireturn, 1) := by decide +kernel
theorem dX3_add_0 : decode cX3_add 0 = .ok (.aload_n 0, 1) := by decide +kernel
theorem dX3_add_1 : decode cX3_add 1 = .ok (.getfield 28, 3) := by decide +kernel
theorem dX3_add_4 : decode cX3_add 4 = .ok (.bipush 100, 2) := by decide +kernel
theorem dX3_add_6 : decode cX3_add 6 = .ok (.if_icmp .lt 6, 3) := by decide +kernel
theorem dX3_add_9 : decode cX3_add 9 = .ok (.bipush (-6), 2) := by decide +kernel
theorem dX3_add_11 : decode cX3_add 11 = .ok (.ireturn, 1) := by decide +kernel
theorem dX3_add_12 : decode cX3_add 12 = .ok (.aload_n 0, 1) := by decide +kernel
theorem dX3_add_13 : decode cX3_add 13 = .ok (.getfield 9, 3) := by decide +kernel
theorem dX3_add_16 : decode cX3_add 16 = .ok (.aload_n 0, 1) := by decide +kernel
theorem dX3_add_17 : decode cX3_add 17 = .ok (.getfield 28, 3) := by decide +kernel
theorem dX3_add_20 : decode cX3_add 20 = .ok (.iload_n 1, 1) := by decide +kernel
theorem dX3_add_21 : decode cX3_add 21 = .ok (.iastore, 1) := by decide +kernel
theorem dX3_add_22 : decode cX3_add 22 = .ok (.aload_n 0, 1) := by decide +kernel
theorem dX3_add_23 : decode cX3_add 23 = .ok (.getfield 15, 3) := by decide +kernel
theorem dX3_add_26 : decode cX3_add 26 = .ok (.aload_n 0, 1) := by decide +kernel
theorem dX3_add_27 : decode cX3_add 27 = .ok (.getfield 28, 3) := by decide +kernel
theorem dX3_add_30 : decode cX3_add 30 = .ok (.iload_n 2, 1) := by decide +kernel
theorem dX3_add_31 : decode cX3_add 31 = .ok (.iastore, 1) := by decide +kernel
theorem dX3_add_32 : decode cX3_add 32 = .ok (.aload_n 0, 1) := by decide +kernel
theorem dX3_add_33 : decode cX3_add 33 = .ok (.getfield 18, 3) := by decide +kernel
theorem dX3_add_36 : decode cX3_add 36 = .ok (.aload_n 0, 1) := by decide +kernel
theorem dX3_add_37 : decode cX3_add 37 = .ok (.getfield 28, 3) := by decide +kernel
theorem dX3_add_40 : decode cX3_add 40 = .ok (.iload_n 3, 1) := by decide +kernel
theorem dX3_add_41 : decode cX3_add 41 = .ok (.iastore, 1) := by decide +kernel
theorem dX3_add_42 : decode cX3_add 42 = .ok (.aload_n 0, 1) := by decide +kernel
theorem dX3_add_43 : decode cX3_add 43 = .ok (.getfield 21, 3) := by decide +kernel
theorem dX3_add_46 : decode cX3_add 46 = .ok (.aload_n 0, 1) := by decide +kernel
theorem dX3_add_47 : decode cX3_add 47 = .ok (.getfield 28, 3) := by decide +kernel
theorem dX3_add_50 : decode cX3_add 50 = .ok (.aload 4, 2) := by decide +kernel
theorem dX3_add_52 : decode cX3_add 52 = .ok (.getfield 32, 3) := by decide +kernel
theorem dX3_add_55 : decode cX3_add 55 = .ok (.iastore, 1) := by decide +kernel
theorem dX3_add_56 : decode cX3_add 56 = .ok (.aload_n 0, 1) := by decide +kernel
theorem dX3_add_57 : decode cX3_add 57 = .ok (.getfield 24, 3) := by decide +kernel
theorem dX3_add_60 : decode cX3_add 60 = .ok (.aload_n 0, 1) := by decide +kernel
theorem dX3_add_61 : decode cX3_add 61 = .ok (.getfield 28, 3) := by decide +kernel
theorem dX3_add_64 : decode cX3_add 64 = .ok (.aload 4, 2) := by decide +kernel
theorem dX3_add_66 : decode cX3_add 66 = .ok (.getfield 36, 3) := by decide +kernel
theorem dX3_add_69 : decode cX3_add 69 = .ok (.getfield 40, 3) := by decide +kernel
theorem dX3_add_72 : decode cX3_add 72 = .ok (.lastore, 1) := by decide +kernel
theorem dX3_add_73 : decode cX3_add 73 = .ok (.aload_n 0, 1) := by decide +kernel
theorem dX3_add_74 : decode cX3_add 74 = .ok (.dup, 1) := by decide +kernel
theorem dX3_add_75 : decode cX3_add 75 = .ok (.getfield 28, 3) := by decide +kernel
theorem dX3_add_78 : decode cX3_add 78 = .ok (.iconst 1, 1) := by decide +kernel
theorem dX3_add_79 : decode cX3_add 79 = .ok (.iadd, 1) := by decide +kernel
theorem dX3_add_80 : decode cX3_add 80 = .ok (.putfield 28, 3) := by decide +kernel
theorem dX3_add_83 : decode cX3_add 83 = .ok (.aload_n 0, 1) := by decide +kernel
theorem dX3_add_84 : decode cX3_add 84 = .ok (.getfield 28, 3) := by decide +kernel
theorem dX3_add_87 : decode cX3_add 87 = .ok (.iconst 1, 1) := by decide +kernel
theorem dX3_add_88 : decode cX3_add 88 = .ok (.isub, 1) := by decide +kernel
theorem dX3_add_89 : decode cX3_add 89 = .ok (.ireturn, 1) := by decide +kernel
theorem dX3_countWith_0 : decode cX3_countWith 0 = .ok (.iconst 0, 1) := by decide +kernel
theorem dX3_countWith_1 : decode cX3_countWith 1 = .ok (.istore_n 2, 1) := by decide +kernel
theorem dX3_countWith_2 : decode cX3_countWith 2 = .ok (.iconst 0, 1) := by decide +kernel
theorem dX3_countWith_3 : decode cX3_countWith 3 = .ok (.istore_n 3, 1) := by decide +kernel
theorem dX3_countWith_4 : decode cX3_countWith 4 = .ok (.iload_n 3, 1) := by decide +kernel
theorem dX3_countWith_5 : decode cX3_countWith 5 = .ok (.aload_n 0, 1) := by decide +kernel
theorem dX3_countWith_6 : decode cX3_countWith 6 = .ok (.getfield 28, 3) := by decide +kernel
theorem dX3_countWith_9 : decode cX3_countWith 9 = .ok (.if_icmp .ge 25, 3) := by decide +kernel
theorem dX3_countWith_12 : decode cX3_countWith 12 = .ok (.aload_n 0, 1) := by decide +kernel
theorem dX3_countWith_13 : decode cX3_countWith 13 = .ok (.getfield 24, 3) := by decide +kernel
theorem dX3_countWith_16 : decode cX3_countWith 16 = .ok (.iload_n 3, 1) := by decide +kernel
theorem dX3_countWith_17 : decode cX3_countWith 17 = .ok (.laload, 1) := by decide +kernel
theorem dX3_countWith_18 : decode cX3_countWith 18 = .ok (.iload_n 1, 1) := by decide +kernel
theorem dX3_countWith_19 : decode cX3_countWith 19 = .ok (.invokestatic 45, 3) := by decide +kernel
theorem dX3_countWith_22 : decode cX3_countWith 22 = .ok (.ifCond .eq 6, 3) := by decide +kernel
theorem dX3_countWith_25 : decode cX3_countWith 25 = .ok (.iinc 2 1, 3) := by decide +kernel
theorem dX3_countWith_28 : decode cX3_countWith 28 = .ok (.iinc 3 1, 3) := by decide +kernel
theorem dX3_countWith_31 : decode cX3_countWith 31 = .ok (.goto (-27), 3) := by decide +kernel
theorem dX3_countWith_34 : decode cX3_countWith 34 = .ok (.iload_n 2, 1) := by decide +kernel
theorem dX3_countWith_35 : decode cX3_countWith 35 = .ok (.ireturn, 1) := by decide +kernel
theorem dX4_init_0 : decode cX4_init 0 = .ok (.aload_n 0, 1) := by decide +kernel
theorem dX4_init_1 : decode cX4_init 1 = .ok (.invokespecial 3, 3) := by decide +kernel
theorem dX4_init_4 : decode cX4_init 4 = .ok (.aload_n 0, 1) := by decide +kernel
theorem dX4_init_5 : decode cX4_init 5 = .ok (.bipush 8, 2) := by decide +kernel
theorem dX4_init_7 : decode cX4_init 7 = .ok (.newarray .int, 2) := by decide +kernel
theorem dX4_init_9 : decode cX4_init 9 = .ok (.putfield 9, 3) := by decide +kernel
theorem dX4_init_12 : decode cX4_init 12 = .ok (.aload_n 0, 1) := by decide +kernel
theorem dX4_init_13 : decode cX4_init 13 = .ok (.iconst 0, 1) := by decide +kernel
theorem dX4_init_14 : decode cX4_init 14 = .ok (.putfield 15, 3) := by decide +kernel
theorem dX4_init_17 : decode cX4_init 17 = .ok (.aload_n 0, 1) := by decide +kernel
theorem dX4_init_18 : decode cX4_init 18 = .ok (.lconst 0, 1) := by decide +kernel
theorem dX4_init_19 : decode cX4_init 19 = .ok (.putfield 19, 3) := by decide +kernel
theorem dX4_init_22 : decode cX4_init 22 = .ok (.return_, 1) := by decide +kernel
theorem dX4_add_0 : decode cX4_add 0 = .ok (.aload_n 0, 1) := by decide +kernel
theorem dX4_add_1 : decode cX4_add 1 = .ok (.getfield 9, 3) := by decide +kernel
theorem dX4_add_4 : decode cX4_add 4 = .ok (.iload_n 1, 1) := by decide +kernel
theorem dX4_add_5 : decode cX4_add 5 = .ok (.dup2, 1) := by decide +kernel
theorem dX4_add_6 : decode cX4_add 6 = .ok (.iaload, 1) := by decide +kernel
theorem dX4_add_7 : decode cX4_add 7 = .ok (.iload_n 2, 1) := by decide +kernel
theorem dX4_add_8 : decode cX4_add 8 = .ok (.iadd, 1) := by decide +kernel
theorem dX4_add_9 : decode cX4_add 9 = .ok (.iastore, 1) := by decide +kernel
theorem dX4_add_10 : decode cX4_add 10 = .ok (.aload_n 0, 1) := by decide +kernel
theorem dX4_add_11 : decode cX4_add 11 = .ok (.dup, 1) := by decide +kernel
theorem dX4_add_12 : decode cX4_add 12 = .ok (.getfield 15, 3) := by decide +kernel
theorem dX4_add_15 : decode cX4_add 15 = .ok (.iload_n 2, 1) := by decide +kernel
theorem dX4_add_16 : decode cX4_add 16 = .ok (.iadd, 1) := by decide +kernel
theorem dX4_add_17 : decode cX4_add 17 = .ok (.putfield 15, 3) := by decide +kernel
theorem dX4_add_20 : decode cX4_add 20 = .ok (.aload_n 0, 1) := by decide +kernel
theorem dX4_add_21 : decode cX4_add 21 = .ok (.dup, 1) := by decide +kernel
theorem dX4_add_22 : decode cX4_add 22 = .ok (.getfield 19, 3) := by decide +kernel
theorem dX4_add_25 : decode cX4_add 25 = .ok (.lconst 1, 1) := by decide +kernel
theorem dX4_add_26 : decode cX4_add 26 = .ok (.iload_n 3, 1) := by decide +kernel
theorem dX4_add_27 : decode cX4_add 27 = .ok (.lshl, 1) := by decide +kernel
theorem dX4_add_28 : decode cX4_add 28 = .ok (.lor, 1) := by decide +kernel
theorem dX4_add_29 : decode cX4_add 29 = .ok (.putfield 19, 3) := by decide +kernel
theorem dX4_add_32 : decode cX4_add 32 = .ok (.return_, 1) := by decide +kernel
theorem dX4_addAll_0 : decode cX4_addAll 0 = .ok (.iconst 0, 1) := by decide +kernel
theorem dX4_addAll_1 : decode cX4_addAll 1 = .ok (.istore_n 2, 1) := by decide +kernel
theorem dX4_addAll_2 : decode cX4_addAll 2 = .ok (.iload_n 2, 1) := by decide +kernel
theorem dX4_addAll_3 : decode cX4_addAll 3 = .ok (.bipush 8, 2) := by decide +kernel
theorem dX4_addAll_5 : decode cX4_addAll 5 = .ok (.if_icmp .ge 24, 3) := by decide +kernel
theorem dX4_addAll_8 : decode cX4_addAll 8 = .ok (.aload_n 0, 1) := by decide +kernel
theorem dX4_addAll_9 : decode cX4_addAll 9 = .ok (.getfield 9, 3) := by decide +kernel
theorem dX4_addAll_12 : decode cX4_addAll 12 = .ok (.iload_n 2, 1) := by decide +kernel
theorem dX4_addAll_13 : decode cX4_addAll 13 = .ok (.dup2, 1) := by decide +kernel
theorem dX4_addAll_14 : decode cX4_addAll 14 = .ok (.iaload, 1) := by decide +kernel
theorem dX4_addAll_15 : decode cX4_addAll 15 = .ok (.aload_n 1, 1) := by decide +kernel
theorem dX4_addAll_16 : decode cX4_addAll 16 = .ok (.getfield 9, 3) := by decide +kernel
theorem dX4_addAll_19 : decode cX4_addAll 19 = .ok (.iload_n 2, 1) := by decide +kernel
theorem dX4_addAll_20 : decode cX4_addAll 20 = .ok (.iaload, 1) := by decide +kernel
theorem dX4_addAll_21 : decode cX4_addAll 21 = .ok (.iadd, 1) := by decide +kernel
theorem dX4_addAll_22 : decode cX4_addAll 22 = .ok (.iastore, 1) := by decide +kernel
theorem dX4_addAll_23 : decode cX4_addAll 23 = .ok (.iinc 2 1, 3) := by decide +kernel
theorem dX4_addAll_26 : decode cX4_addAll 26 = .ok (.goto (-24), 3) := by decide +kernel
theorem dX4_addAll_29 : decode cX4_addAll 29 = .ok (.aload_n 0, 1) := by decide +kernel
theorem dX4_addAll_30 : decode cX4_addAll 30 = .ok (.dup, 1) := by decide +kernel
theorem dX4_addAll_31 : decode cX4_addAll 31 = .ok (.getfield 15, 3) := by decide +kernel
theorem dX4_addAll_34 : decode cX4_addAll 34 = .ok (.aload_n 1, 1) := by decide +kernel
theorem dX4_addAll_35 : decode cX4_addAll 35 = .ok (.getfield 15, 3) := by decide +kernel
theorem dX4_addAll_38 : decode cX4_addAll 38 = .ok (.iadd, 1) := by decide +kernel
theorem dX4_addAll_39 : decode cX4_addAll 39 = .ok (.putfield 15, 3) := by decide +kernel
theorem dX4_addAll_42 : decode cX4_addAll 42 = .ok (.aload_n 0, 1) := by decide +kernel
theorem dX4_addAll_43 : decode cX4_addAll 43 = .ok (.dup, 1) := by decide +kernel
theorem dX4_addAll_44 : decode cX4_addAll 44 = .ok (.getfield 19, 3) := by decide +kernel
theorem dX4_addAll_47 : decode cX4_addAll 47 = .ok (.aload_n 1, 1) := by decide +kernel
theorem dX4_addAll_48 : decode cX4_addAll 48 = .ok (.getfield 19, 3) := by decide +kernel
theorem dX4_addAll_51 : decode cX4_addAll 51 = .ok (.lor, 1) := by decide +kernel
theorem dX4_addAll_52 : decode cX4_addAll 52 = .ok (.putfield 19, 3) := by decide +kernel
theorem dX4_addAll_55 : decode cX4_addAll 55 = .ok (.return_, 1) := by decide +kernel
theorem dX4_empty_0 : decode cX4_empty 0 = .ok (.aload_n 0, 1) := by decide +kernel
theorem dX4_empty_1 : decode cX4_empty 1 = .ok (.getfield 9, 3) := by decide +kernel
theorem dX4_empty_4 : decode cX4_empty 4 = .ok (.iconst 0, 1) := by decide +kernel
theorem dX4_empty_5 : decode cX4_empty 5 = .ok (.invokestatic 23, 3) := by decide +kernel
theorem dX4_empty_8 : decode cX4_empty 8 = .ok (.aload_n 0, 1) := by decide +kernel
theorem dX4_empty_9 : decode cX4_empty 9 = .ok (.iconst 0, 1) := by decide +kernel
theorem dX4_empty_10 : decode cX4_empty 10 = .ok (.putfield 15, 3) := by decide +kernel
theorem dX4_empty_13 : decode cX4_empty 13 = .ok (.aload_n 0, 1) := by decide +kernel
theorem dX4_empty_14 : decode cX4_empty 14 = .ok (.lconst 0, 1) := by decide +kernel
theorem dX4_empty_15 : decode cX4_empty 15 = .ok (.putfield 19, 3) := by decide +kernel
theorem dX4_empty_18 : decode cX4_empty 18 = .ok (.return_, 1) := by decide +kernel
theorem dX5_init_0 : decode cX5_init 0 = .ok (.aload_n 0, 1) := by decide +kernel
theorem dX5_init_1 : decode cX5_init 1 = .ok (.invokespecial 3, 3) := by decide +kernel
theorem dX5_init_4 : decode cX5_init 4 = .ok (.aload_n 0, 1) := by decide +kernel
theorem dX5_init_5 : decode cX5_init 5 = .ok (.bipush 24, 2) := by decide +kernel
theorem dX5_init_7 : decode cX5_init 7 = .ok (.newarray .int, 2) := by decide +kernel
theorem dX5_init_9 : decode cX5_init 9 = .ok (.putfield 9, 3) := by decide +kernel
theorem dX5_init_12 : decode cX5_init 12 = .ok (.aload_n 0, 1) := by decide +kernel
theorem dX5_init_13 : decode cX5_init 13 = .ok (.bipush 24, 2) := by decide +kernel
theorem dX5_init_15 : decode cX5_init 15 = .ok (.newarray .int, 2) := by decide +kernel
theorem dX5_init_17 : decode cX5_init 17 = .ok (.putfield 15, 3) := by decide +kernel
theorem dX5_init_20 : decode cX5_init 20 = .ok (.aload_n 0, 1) := by decide +kernel
theorem dX5_init_21 : decode cX5_init 21 = .ok (.iconst 0, 1) := by decide +kernel
theorem dX5_init_22 : decode cX5_init 22 = .ok (.putfield 18, 3) := by decide +kernel
theorem dX5_init_25 : decode cX5_init 25 = .ok (.return_, 1) := by decide +kernel
theorem dX5_has_0 : decode cX5_has 0 = .ok (.iload_n 1, 1) := by decide +kernel
theorem dX5_has_1 : decode cX5_has 1 = .ok (.ifCond .lt 15, 3) := by decide +kernel
theorem dX5_has_4 : decode cX5_has 4 = .ok (.iload_n 1, 1) := by decide +kernel
theorem dX5_has_5 : decode cX5_has 5 = .ok (.aload_n 0, 1) := by decide +kernel
theorem dX5_has_6 : decode cX5_has 6 = .ok (.getfield 18, 3) := by decide +kernel
theorem dX5_has_9 : decode cX5_has 9 = .ok (.if_icmp .ge 7, 3) := by decide +kernel
theorem dX5_has_12 : decode cX5_has 12 = .ok (.iconst 1, 1) := by decide +kernel
theorem dX5_has_13 : decode cX5_has 13 = .ok (.goto 4, 3) := by decide +kernel
theorem dX5_has_16 : decode cX5_has 16 = .ok (.iconst 0, 1) := by decide +kernel
theorem dX5_has_17 : decode cX5_has 17 = .ok (.ireturn, 1) := by decide +kernel
theorem dX5_add_0 : decode cX5_add 0 = .ok (.aload_n 0, 1) := by decide +kernel
theorem dX5_add_1 : decode cX5_add 1 = .ok (.getfield 18, 3) := by decide +kernel
theorem dX5_add_4 : decode cX5_add 4 = .ok (.bipush 8, 2) := by decide +kernel
theorem dX5_add_6 : decode cX5_add 6 = .ok (.if_icmp .lt 6, 3) := by decide +kernel
theorem dX5_add_9 : decode cX5_add 9 = .ok (.bipush (-6), 2) := by decide +kernel
theorem dX5_add_11 : decode cX5_add 11 = .ok (.ireturn, 1) := by decide +kernel
theorem dX5_add_12 : decode cX5_add 12 = .ok (.iconst 0, 1) := by decide +kernel
theorem dX5_add_13 : decode cX5_add 13 = .ok (.istore_n 3, 1) := by decide +kernel
theorem dX5_add_14 : decode cX5_add 14 = .ok (.iload_n 3, 1) := by decide +kernel
theorem dX5_add_15 : decode cX5_add 15 = .ok (.iconst 3, 1) := by decide +kernel
theorem dX5_add_16 : decode cX5_add 16 = .ok (.if_icmp .ge 20, 3) := by decide +kernel
theorem dX5_add_19 : decode cX5_add 19 = .ok (.aload_n 0, 1) := by decide +kernel
theorem dX5_add_20 : decode cX5_add 20 = .ok (.aload_n 0, 1) := by decide +kernel
theorem dX5_add_21 : decode cX5_add 21 = .ok (.getfield 18, 3) := by decide +kernel
theorem dX5_add_24 : decode cX5_add 24 = .ok (.iload_n 3, 1) := by decide +kernel
theorem dX5_add_25 : decode cX5_add 25 = .ok (.iload_n 1, 1) := by decide +kernel
theorem dX5_add_26 : decode cX5_add 26 = .ok (.iload_n 2, 1) := by decide +kernel
theorem dX5_add_27 : decode cX5_add 27 = .ok (.invokevirtual 22, 3) := by decide +kernel
theorem dX5_add_30 : decode cX5_add 30 = .ok (.iinc 3 1, 3) := by decide +kernel
theorem dX5_add_33 : decode cX5_add 33 = .ok (.goto (-19), 3) := by decide +kernel
theorem dX5_add_36 : decode cX5_add 36 = .ok (.aload_n 0, 1) := by decide +kernel
theorem dX5_add_37 : decode cX5_add 37 = .ok (.dup, 1) := by decide +kernel
theorem dX5_add_38 : decode cX5_add 38 = .ok (.getfield 18, 3) := by decide +kernel
theorem dX5_add_41 : decode cX5_add 41 = .ok (.iconst 1, 1) := by decide +kernel
theorem dX5_add_42 : decode cX5_add 42 = .ok (.iadd, 1) := by decide +kernel
theorem dX5_add_43 : decode cX5_add 43 = .ok (.putfield 18, 3) := by decide +kernel
theorem dX5_add_46 : decode cX5_add 46 = .ok (.aload_n 0, 1) := by decide +kernel
theorem dX5_add_47 : decode cX5_add 47 = .ok (.getfield 18, 3) := by decide +kernel
theorem dX5_add_50 : decode cX5_add 50 = .ok (.iconst 1, 1) := by decide +kernel
theorem dX5_add_51 : decode cX5_add 51 = .ok (.isub, 1) := by decide +kernel
theorem dX5_add_52 : decode cX5_add 52 = .ok (.ireturn, 1) := by decide +kernel
theorem dX5_tell_0 : decode cX5_tell 0 = .ok (.aload_n 0, 1) := by decide +kernel
theorem dX5_tell_1 : decode cX5_tell 1 = .ok (.getfield 9, 3) := by decide +kernel
theorem dX5_tell_4 : decode cX5_tell 4 = .ok (.iload_n 1, 1) := by decide +kernel
theorem dX5_tell_5 : decode cX5_tell 5 = .ok (.iconst 3, 1) := by decide +kernel
theorem dX5_tell_6 : decode cX5_tell 6 = .ok (.imul, 1) := by decide +kernel
theorem dX5_tell_7 : decode cX5_tell 7 = .ok (.iload_n 2, 1) := by decide +kernel
theorem dX5_tell_8 : decode cX5_tell 8 = .ok (.iadd, 1) := by decide +kernel
theorem dX5_tell_9 : decode cX5_tell 9 = .ok (.iload_n 3, 1) := by decide +kernel
theorem dX5_tell_10 : decode cX5_tell 10 = .ok (.iastore, 1) := by decide +kernel
theorem dX5_tell_11 : decode cX5_tell 11 = .ok (.aload_n 0, 1) := by decide +kernel
theorem dX5_tell_12 : decode cX5_tell 12 = .ok (.getfield 15, 3) := by decide +kernel
theorem dX5_tell_15 : decode cX5_tell 15 = .ok (.iload_n 1, 1) := by decide +kernel
theorem dX5_tell_16 : decode cX5_tell 16 = .ok (.iconst 3, 1) := by decide +kernel
theorem dX5_tell_17 : decode cX5_tell 17 = .ok (.imul, 1) := by decide +kernel
theorem dX5_tell_18 : decode cX5_tell 18 = .ok (.iload_n 2, 1) := by decide +kernel
theorem dX5_tell_19 : decode cX5_tell 19 = .ok (.iadd, 1) := by decide +kernel
theorem dX5_tell_20 : decode cX5_tell 20 = .ok (.iload 4, 2) := by decide +kernel
theorem dX5_tell_22 : decode cX5_tell 22 = .ok (.iastore, 1) := by decide +kernel
theorem dX5_tell_23 : decode cX5_tell 23 = .ok (.return_, 1) := by decide +kernel
theorem dX5_absorbed_0 : decode cX5_absorbed 0 = .ok (.aload_n 0, 1) := by decide +kernel
theorem dX5_absorbed_1 : decode cX5_absorbed 1 = .ok (.aload_n 1, 1) := by decide +kernel
theorem dX5_absorbed_2 : decode cX5_absorbed 2 = .ok (.getfield 26, 3) := by decide +kernel
theorem dX5_absorbed_5 : decode cX5_absorbed 5 = .ok (.aload_n 0, 1) := by decide +kernel
theorem dX5_absorbed_6 : decode cX5_absorbed 6 = .ok (.getfield 9, 3) := by decide +kernel
theorem dX5_absorbed_9 : decode cX5_absorbed 9 = .ok (.iload_n 2, 1) := by decide +kernel
theorem dX5_absorbed_10 : decode cX5_absorbed 10 = .ok (.invokevirtual 31, 3) := by decide +kernel
theorem dX5_absorbed_13 : decode cX5_absorbed 13 = .ok (.lreturn, 1) := by decide +kernel
theorem dX5_scattered_0 : decode cX5_scattered 0 = .ok (.aload_n 0, 1) := by decide +kernel
theorem dX5_scattered_1 : decode cX5_scattered 1 = .ok (.aload_n 1, 1) := by decide +kernel
theorem dX5_scattered_2 : decode cX5_scattered 2 = .ok (.getfield 26, 3) := by decide +kernel
theorem dX5_scattered_5 : decode cX5_scattered 5 = .ok (.aload_n 0, 1) := by decide +kernel
theorem dX5_scattered_6 : decode cX5_scattered 6 = .ok (.getfield 15, 3) := by decide +kernel
theorem dX5_scattered_9 : decode cX5_scattered 9 = .ok (.iload_n 2, 1) := by decide +kernel
theorem dX5_scattered_10 : decode cX5_scattered 10 = .ok (.invokevirtual 31, 3) := by decide +kernel
theorem dX5_scattered_13 : decode cX5_scattered 13 = .ok (.lreturn, 1) := by decide +kernel
theorem dX5_shadeOf_0 : decode cX5_shadeOf 0 = .ok (.aload_n 0, 1) := by decide +kernel
theorem dX5_shadeOf_1 : decode cX5_shadeOf 1 = .ok (.aload_n 1, 1) := by decide +kernel
theorem dX5_shadeOf_2 : decode cX5_shadeOf 2 = .ok (.iload_n 2, 1) := by decide +kernel
theorem dX5_shadeOf_3 : decode cX5_shadeOf 3 = .ok (.invokevirtual 35, 3) := by decide +kernel
theorem dX5_shadeOf_6 : decode cX5_shadeOf 6 = .ok (.aload_n 0, 1) := by decide +kernel
theorem dX5_shadeOf_7 : decode cX5_shadeOf 7 = .ok (.aload_n 1, 1) := by decide +kernel
theorem dX5_shadeOf_8 : decode cX5_shadeOf 8 = .ok (.iload_n 2, 1) := by decide +kernel
theorem dX5_shadeOf_9 : decode cX5_shadeOf 9 = .ok (.invokevirtual 39, 3) := by decide +kernel
theorem dX5_shadeOf_12 : decode cX5_shadeOf 12 = .ok (.invokestatic 42, 3) := by decide +kernel
theorem dX5_shadeOf_15 : decode cX5_shadeOf 15 = .ok (.ireturn, 1) := by decide +kernel
theorem dX5_weighted_0 : decode cX5_weighted 0 = .ok (.lconst 0, 1) := by decide +kernel
theorem dX5_weighted_1 : decode cX5_weighted 1 = .ok (.lstore 4, 2) := by decide +kernel
theorem dX5_weighted_3 : decode cX5_weighted 3 = .ok (.iconst 0, 1) := by decide +kernel
theorem dX5_weighted_4 : decode cX5_weighted 4 = .ok (.istore 6, 2) := by decide +kernel
theorem dX5_weighted_6 : decode cX5_weighted 6 = .ok (.iload 6, 2) := by decide +kernel
theorem dX5_weighted_8 : decode cX5_weighted 8 = .ok (.aload_n 0, 1) := by decide +kernel
theorem dX5_weighted_9 : decode cX5_weighted 9 = .ok (.getfield 18, 3) := by decide +kernel
theorem dX5_weighted_12 : decode cX5_weighted 12 = .ok (.if_icmp .ge 29, 3) := by decide +kernel
theorem dX5_weighted_15 : decode cX5_weighted 15 = .ok (.lload 4, 2) := by decide +kernel
theorem dX5_weighted_17 : decode cX5_weighted 17 = .ok (.aload_n 1, 1) := by decide +kernel
theorem dX5_weighted_18 : decode cX5_weighted 18 = .ok (.iload 6, 2) := by decide +kernel
theorem dX5_weighted_20 : decode cX5_weighted 20 = .ok (.iaload, 1) := by decide +kernel
theorem dX5_weighted_21 : decode cX5_weighted 21 = .ok (.i2l, 1) := by decide +kernel
theorem dX5_weighted_22 : decode cX5_weighted 22 = .ok (.aload_n 2, 1) := by decide +kernel
theorem dX5_weighted_23 : decode cX5_weighted 23 = .ok (.iload 6, 2) := by decide +kernel
theorem dX5_weighted_25 : decode cX5_weighted 25 = .ok (.iconst 3, 1) := by decide +kernel
theorem dX5_weighted_26 : decode cX5_weighted 26 = .ok (.imul, 1) := by decide +kernel
theorem dX5_weighted_27 : decode cX5_weighted 27 = .ok (.iload_n 3, 1) := by decide +kernel
theorem dX5_weighted_28 : decode cX5_weighted 28 = .ok (.iadd, 1) := by decide +kernel
theorem dX5_weighted_29 : decode cX5_weighted 29 = .ok (.iaload, 1) := by decide +kernel
theorem dX5_weighted_30 : decode cX5_weighted 30 = .ok (.i2l, 1) := by decide +kernel
theorem dX5_weighted_31 : decode cX5_weighted 31 = .ok (.lmul, 1) := by decide +kernel
theorem dX5_weighted_32 : decode cX5_weighted 32 = .ok (.ladd, 1) := by decide +kernel
theorem dX5_weighted_33 : decode cX5_weighted 33 = .ok (.lstore 4, 2) := by decide +kernel
theorem dX5_weighted_35 : decode cX5_weighted 35 = .ok (.iinc 6 1, 3) := by decide +kernel
theorem dX5_weighted_38 : decode cX5_weighted 38 = .ok (.goto (-32), 3) := by decide +kernel
theorem dX5_weighted_41 : decode cX5_weighted 41 = .ok (.lload 4, 2) := by decide +kernel
theorem dX5_weighted_43 : decode cX5_weighted 43 = .ok (.lreturn, 1) := by decide +kernel
theorem dX6_init_0 : decode cX6_init 0 = .ok (.aload_n 0, 1) := by decide +kernel
theorem dX6_init_1 : decode cX6_init 1 = .ok (.invokespecial 3, 3) := by decide +kernel
theorem dX6_init_4 : decode cX6_init 4 = .ok (.aload_n 0, 1) := by decide +kernel
theorem dX6_init_5 : decode cX6_init 5 = .ok (.bipush 8, 2) := by decide +kernel
theorem dX6_init_7 : decode cX6_init 7 = .ok (.newarray .int, 2) := by decide +kernel
theorem dX6_init_9 : decode cX6_init 9 = .ok (.putfield 9, 3) := by decide +kernel
theorem dX6_init_12 : decode cX6_init 12 = .ok (.aload_n 0, 1) := by decide +kernel
theorem dX6_init_13 : decode cX6_init 13 = .ok (.bipush 8, 2) := by decide +kernel
theorem dX6_init_15 : decode cX6_init 15 = .ok (.newarray .int, 2) := by decide +kernel
theorem dX6_init_17 : decode cX6_init 17 = .ok (.putfield 15, 3) := by decide +kernel
theorem dX6_init_20 : decode cX6_init 20 = .ok (.aload_n 0, 1) := by decide +kernel
theorem dX6_init_21 : decode cX6_init 21 = .ok (.bipush 8, 2) := by decide +kernel
theorem dX6_init_23 : decode cX6_init 23 = .ok (.newarray .int, 2) := by decide +kernel
theorem dX6_init_25 : decode cX6_init 25 = .ok (.putfield 18, 3) := by decide +kernel
theorem dX6_init_28 : decode cX6_init 28 = .ok (.aload_n 0, 1) := by decide +kernel
theorem dX6_init_29 : decode cX6_init 29 = .ok (.bipush 8, 2) := by decide +kernel
theorem dX6_init_31 : decode cX6_init 31 = .ok (.newarray .int, 2) := by decide +kernel
theorem dX6_init_33 : decode cX6_init 33 = .ok (.putfield 21, 3) := by decide +kernel
theorem dX6_init_36 : decode cX6_init 36 = .ok (.aload_n 0, 1) := by decide +kernel
theorem dX6_init_37 : decode cX6_init 37 = .ok (.iconst 0, 1) := by decide +kernel
theorem dX6_init_38 : decode cX6_init 38 = .ok (.putfield 24, 3) := by decide +kernel
theorem dX6_init_41 : decode cX6_init 41 = .ok (.aload_n 0, 1) := by decide +kernel
theorem dX6_init_42 : decode cX6_init 42 = .ok (.bipush 36, 2) := by decide +kernel
theorem dX6_init_44 : decode cX6_init 44 = .ok (.newarray .int, 2) := by decide +kernel
theorem dX6_init_46 : decode cX6_init 46 = .ok (.putfield 28, 3) := by decide +kernel
theorem dX6_init_49 : decode cX6_init 49 = .ok (.aload_n 0, 1) := by decide +kernel
theorem dX6_init_50 : decode cX6_init 50 = .ok (.sipush 1536, 3) := by decide +kernel
theorem dX6_init_53 : decode cX6_init 53 = .ok (.newarray .int, 2) := by decide +kernel
theorem dX6_init_55 : decode cX6_init 55 = .ok (.putfield 31, 3) := by decide +kernel
theorem dX6_init_58 : decode cX6_init 58 = .ok (.aload_n 0, 1) := by decide +kernel
theorem dX6_init_59 : decode cX6_init 59 = .ok (.bipush 8, 2) := by decide +kernel
theorem dX6_init_61 : decode cX6_init 61 = .ok (.newarray .int, 2) := by decide +kernel
theorem dX6_init_63 : decode cX6_init 63 = .ok (.putfield 34, 3) := by decide +kernel
theorem dX6_init_66 : decode cX6_init 66 = .ok (.aload_n 0, 1) := by decide +kernel
theorem dX6_init_67 : decode cX6_init 67 = .ok (.iconst 0, 1) := by decide +kernel
theorem dX6_init_68 : decode cX6_init 68 = .ok (.putfield 37, 3) := by decide +kernel
theorem dX6_init_71 : decode cX6_init 71 = .ok (.return_, 1) := by decide +kernel
theorem dX6_add_0 : decode cX6_add 0 = .ok (.aload_n 0, 1) := by decide +kernel
theorem dX6_add_1 : decode cX6_add 1 = .ok (.getfield 24, 3) := by decide +kernel
theorem dX6_add_4 : decode cX6_add 4 = .ok (.bipush 8, 2) := by decide +kernel
theorem dX6_add_6 : decode cX6_add 6 = .ok (.if_icmp .lt 6, 3) := by decide +kernel
theorem dX6_add_9 : decode cX6_add 9 = .ok (.bipush (-6), 2) := by decide +kernel
theorem dX6_add_11 : decode cX6_add 11 = .ok (.ireturn, 1) := by decide +kernel
theorem dX6_add_12 : decode cX6_add 12 = .ok (.aload_n 0, 1) := by decide +kernel
theorem dX6_add_13 : decode cX6_add 13 = .ok (.getfield 9, 3) := by decide +kernel
theorem dX6_add_16 : decode cX6_add 16 = .ok (.aload_n 0, 1) := by decide +kernel
theorem dX6_add_17 : decode cX6_add 17 = .ok (.getfield 24, 3) := by decide +kernel
theorem dX6_add_20 : decode cX6_add 20 = .ok (.iload_n 1, 1) := by decide +kernel
theorem dX6_add_21 : decode cX6_add 21 = .ok (.iastore, 1) := by decide +kernel
theorem dX6_add_22 : decode cX6_add 22 = .ok (.aload_n 0, 1) := by decide +kernel
theorem dX6_add_23 : decode cX6_add 23 = .ok (.getfield 15, 3) := by decide +kernel
theorem dX6_add_26 : decode cX6_add 26 = .ok (.aload_n 0, 1) := by decide +kernel
theorem dX6_add_27 : decode cX6_add 27 = .ok (.getfield 24, 3) := by decide +kernel
theorem dX6_add_30 : decode cX6_add 30 = .ok (.iload_n 2, 1) := by decide +kernel
theorem dX6_add_31 : decode cX6_add 31 = .ok (.iastore, 1) := by decide +kernel
theorem dX6_add_32 : decode cX6_add 32 = .ok (.aload_n 0, 1) := by decide +kernel
theorem dX6_add_33 : decode cX6_add 33 = .ok (.getfield 18, 3) := by decide +kernel
theorem dX6_add_36 : decode cX6_add 36 = .ok (.aload_n 0, 1) := by decide +kernel
theorem dX6_add_37 : decode cX6_add 37 = .ok (.getfield 24, 3) := by decide +kernel
theorem dX6_add_40 : decode cX6_add 40 = .ok (.iload_n 3, 1) := by decide +kernel
theorem dX6_add_41 : decode cX6_add 41 = .ok (.iastore, 1) := by decide +kernel
theorem dX6_add_42 : decode cX6_add 42 = .ok (.aload_n 0, 1) := by decide +kernel
theorem dX6_add_43 : decode cX6_add 43 = .ok (.getfield 21, 3) := by decide +kernel
theorem dX6_add_46 : decode cX6_add 46 = .ok (.aload_n 0, 1) := by decide +kernel
theorem dX6_add_47 : decode cX6_add 47 = .ok (.getfield 24, 3) := by decide +kernel
theorem dX6_add_50 : decode cX6_add 50 = .ok (.iload 4, 2) := by decide +kernel
theorem dX6_add_52 : decode cX6_add 52 = .ok (.iastore, 1) := by decide +kernel
theorem dX6_add_53 : decode cX6_add 53 = .ok (.aload_n 0, 1) := by decide +kernel
theorem dX6_add_54 : decode cX6_add 54 = .ok (.dup, 1) := by decide +kernel
theorem dX6_add_55 : decode cX6_add 55 = .ok (.getfield 24, 3) := by decide +kernel
theorem dX6_add_58 : decode cX6_add 58 = .ok (.iconst 1, 1) := by decide +kernel
theorem dX6_add_59 : decode cX6_add 59 = .ok (.iadd, 1) := by decide +kernel
theorem dX6_add_60 : decode cX6_add 60 = .ok (.putfield 24, 3) := by decide +kernel
theorem dX6_add_63 : decode cX6_add 63 = .ok (.aload_n 0, 1) := by decide +kernel
theorem dX6_add_64 : decode cX6_add 64 = .ok (.getfield 24, 3) := by decide +kernel
theorem dX6_add_67 : decode cX6_add 67 = .ok (.iconst 1, 1) := by decide +kernel
theorem dX6_add_68 : decode cX6_add 68 = .ok (.isub, 1) := by decide +kernel
theorem dX6_add_69 : decode cX6_add 69 = .ok (.ireturn, 1) := by decide +kernel
theorem dX6_tellChange_0 : decode cX6_tellChange 0 = .ok (.aload_n 0, 1) := by decide +kernel
theorem dX6_tellChange_1 : decode cX6_tellChange 1 = .ok (.getfield 28, 3) := by decide +kernel
theorem dX6_tellChange_4 : decode cX6_tellChange 4 = .ok (.iload_n 1, 1) := by decide +kernel
theorem dX6_tellChange_5 : decode cX6_tellChange 5 = .ok (.bipush 6, 2) := by decide +kernel
theorem dX6_tellChange_7 : decode cX6_tellChange 7 = .ok (.imul, 1) := by decide +kernel
theorem dX6_tellChange_8 : decode cX6_tellChange 8 = .ok (.iload_n 2, 1) := by decide +kernel
theorem dX6_tellChange_9 : decode cX6_tellChange 9 = .ok (.iadd, 1) := by decide +kernel
theorem dX6_tellChange_10 : decode cX6_tellChange 10 = .ok (.iaload, 1) := by decide +kernel
theorem dX6_tellChange_11 : decode cX6_tellChange 11 = .ok (.istore 4, 2) := by decide +kernel
theorem dX6_tellChange_13 : decode cX6_tellChange 13 = .ok (.aload_n 0, 1) := by decide +kernel
theorem dX6_tellChange_14 : decode cX6_tellChange 14 = .ok (.getfield 28, 3) := by decide +kernel
theorem dX6_tellChange_17 : decode cX6_tellChange 17 = .ok (.iload_n 1, 1) := by decide +kernel
theorem dX6_tellChange_18 : decode cX6_tellChange 18 = .ok (.bipush 6, 2) := by decide +kernel
theorem dX6_tellChange_20 : decode cX6_tellChange 20 = .ok (.imul, 1) := by decide +kernel
theorem dX6_tellChange_21 : decode cX6_tellChange 21 = .ok (.iload_n 2, 1) := by decide +kernel
theorem dX6_tellChange_22 : decode cX6_tellChange 22 = .ok (.iadd, 1) := by decide +kernel
theorem dX6_tellChange_23 : decode cX6_tellChange 23 = .ok (.iload_n 3, 1) := by decide +kernel
theorem dX6_tellChange_24 : decode cX6_tellChange 24 = .ok (.iastore, 1) := by decide +kernel
theorem dX6_tellChange_25 : decode cX6_tellChange 25 = .ok (.iload 4, 2) := by decide +kernel
theorem dX6_tellChange_27 : decode cX6_tellChange 27 = .ok (.ireturn, 1) := by decide +kernel
theorem dX6_arrange_0 : decode cX6_arrange 0 = .ok (.iconst 1, 1) := by decide +kernel
theorem dX6_arrange_1 : decode cX6_arrange 1 = .ok (.aload_n 0, 1) := by decide +kernel
theorem dX6_arrange_2 : decode cX6_arrange 2 = .ok (.getfield 24, 3) := by decide +kernel
theorem dX6_arrange_5 : decode cX6_arrange 5 = .ok (.ishl, 1) := by decide +kernel
theorem dX6_arrange_6 : decode cX6_arrange 6 = .ok (.iconst 1, 1) := by decide +kernel
theorem dX6_arrange_7 : decode cX6_arrange 7 = .ok (.isub, 1) := by decide +kernel
theorem dX6_arrange_8 : decode cX6_arrange 8 = .ok (.istore_n 2, 1) := by decide +kernel
theorem dX6_arrange_9 : decode cX6_arrange 9 = .ok (.iload_n 2, 1) := by decide +kernel
theorem dX6_arrange_10 : decode cX6_arrange 10 = .ok (.istore_n 3, 1) := by decide +kernel
theorem dX6_arrange_11 : decode cX6_arrange 11 = .ok (.iload_n 3, 1) := by decide +kernel
theorem dX6_arrange_12 : decode cX6_arrange 12 = .ok (.ifCond .lt 76, 3) := by decide +kernel
theorem dX6_arrange_15 : decode cX6_arrange 15 = .ok (.aload_n 0, 1) := by decide +kernel
theorem dX6_arrange_16 : decode cX6_arrange 16 = .ok (.iload_n 3, 1) := by decide +kernel
theorem dX6_arrange_17 : decode cX6_arrange 17 = .ok (.invokevirtual 40, 3) := by decide +kernel
theorem dX6_arrange_20 : decode cX6_arrange 20 = .ok (.istore 4, 2) := by decide +kernel
theorem dX6_arrange_22 : decode cX6_arrange 22 = .ok (.iconst 0, 1) := by decide +kernel
theorem dX6_arrange_23 : decode cX6_arrange 23 = .ok (.istore 5, 2) := by decide +kernel
theorem dX6_arrange_25 : decode cX6_arrange 25 = .ok (.iload 5, 2) := by decide +kernel
theorem dX6_arrange_27 : decode cX6_arrange 27 = .ok (.bipush 6, 2) := by decide +kernel
theorem dX6_arrange_29 : decode cX6_arrange 29 = .ok (.if_icmp .ge 53, 3) := by decide +kernel
theorem dX6_arrange_32 : decode cX6_arrange 32 = .ok (.aload_n 0, 1) := by decide +kernel
theorem dX6_arrange_33 : decode cX6_arrange 33 = .ok (.iload_n 3, 1) := by decide +kernel
theorem dX6_arrange_34 : decode cX6_arrange 34 = .ok (.iload 5, 2) := by decide +kernel
theorem dX6_arrange_36 : decode cX6_arrange 36 = .ok (.iload 4, 2) := by decide +kernel
theorem dX6_arrange_38 : decode cX6_arrange 38 = .ok (.invokevirtual 44, 3) := by decide +kernel
theorem dX6_arrange_41 : decode cX6_arrange 41 = .ok (.istore 6, 2) := by decide +kernel
theorem dX6_arrange_43 : decode cX6_arrange 43 = .ok (.aload_n 0, 1) := by decide +kernel
theorem dX6_arrange_44 : decode cX6_arrange 44 = .ok (.getfield 31, 3) := by decide +kernel
theorem dX6_arrange_47 : decode cX6_arrange 47 = .ok (.iload_n 3, 1) := by decide +kernel
theorem dX6_arrange_48 : decode cX6_arrange 48 = .ok (.bipush 6, 2) := by decide +kernel
theorem dX6_arrange_50 : decode cX6_arrange 50 = .ok (.imul, 1) := by decide +kernel
theorem dX6_arrange_51 : decode cX6_arrange 51 = .ok (.iload 5, 2) := by decide +kernel
theorem dX6_arrange_53 : decode cX6_arrange 53 = .ok (.iadd, 1) := by decide +kernel
theorem dX6_arrange_54 : decode cX6_arrange 54 = .ok (.iload 6, 2) := by decide +kernel
theorem dX6_arrange_56 : decode cX6_arrange 56 = .ok (.iconst (-1), 1) := by decide +kernel
theorem dX6_arrange_57 : decode cX6_arrange 57 = .ok (.if_icmp .ne 7, 3) := by decide +kernel
theorem dX6_arrange_60 : decode cX6_arrange 60 = .ok (.iconst 0, 1) := by decide +kernel
theorem dX6_arrange_61 : decode cX6_arrange 61 = .ok (.goto 14, 3) := by decide +kernel
theorem dX6_arrange_64 : decode cX6_arrange 64 = .ok (.aload_n 0, 1) := by decide +kernel
theorem dX6_arrange_65 : decode cX6_arrange 65 = .ok (.iload 6, 2) := by decide +kernel
theorem dX6_arrange_67 : decode cX6_arrange 67 = .ok (.iload_n 3, 1) := by decide +kernel
theorem dX6_arrange_68 : decode cX6_arrange 68 = .ok (.iload 5, 2) := by decide +kernel
theorem dX6_arrange_70 : decode cX6_arrange 70 = .ok (.iload 4, 2) := by decide +kernel
theorem dX6_arrange_72 : decode cX6_arrange 72 = .ok (.invokevirtual 48, 3) := by decide +kernel
theorem dX6_arrange_75 : decode cX6_arrange 75 = .ok (.iastore, 1) := by decide +kernel
theorem dX6_arrange_76 : decode cX6_arrange 76 = .ok (.iinc 5 1, 3) := by decide +kernel
theorem dX6_arrange_79 : decode cX6_arrange 79 = .ok (.goto (-54), 3) := by decide +kernel
theorem dX6_arrange_82 : decode cX6_arrange 82 = .ok (.iinc 3 (-1), 3) := by decide +kernel
theorem dX6_arrange_85 : decode cX6_arrange 85 = .ok (.goto (-74), 3) := by decide +kernel
theorem dX6_arrange_88 : decode cX6_arrange 88 = .ok (.aload_n 0, 1) := by decide +kernel
theorem dX6_arrange_89 : decode cX6_arrange 89 = .ok (.iload_n 1, 1) := by decide +kernel
theorem dX6_arrange_90 : decode cX6_arrange 90 = .ok (.invokevirtual 52, 3) := by decide +kernel
theorem dX6_arrange_93 : decode cX6_arrange 93 = .ok (.aload_n 0, 1) := by decide +kernel
theorem dX6_arrange_94 : decode cX6_arrange 94 = .ok (.getfield 31, 3) := by decide +kernel
theorem dX6_arrange_97 : decode cX6_arrange 97 = .ok (.iload_n 1, 1) := by decide +kernel
theorem dX6_arrange_98 : decode cX6_arrange 98 = .ok (.iaload, 1) := by decide +kernel
theorem dX6_arrange_99 : decode cX6_arrange 99 = .ok (.ireturn, 1) := by decide +kernel
theorem dX6_writeOrder_0 : decode cX6_writeOrder 0 = .ok (.iconst 0, 1) := by decide +kernel
theorem dX6_writeOrder_1 : decode cX6_writeOrder 1 = .ok (.istore_n 2, 1) := by decide +kernel
theorem dX6_writeOrder_2 : decode cX6_writeOrder 2 = .ok (.iload_n 1, 1) := by decide +kernel
theorem dX6_writeOrder_3 : decode cX6_writeOrder 3 = .ok (.istore_n 3, 1) := by decide +kernel
theorem dX6_writeOrder_4 : decode cX6_writeOrder 4 = .ok (.iconst 0, 1) := by decide +kernel
theorem dX6_writeOrder_5 : decode cX6_writeOrder 5 = .ok (.istore 4, 2) := by decide +kernel
theorem dX6_writeOrder_7 : decode cX6_writeOrder 7 = .ok (.aload_n 0, 1) := by decide +kernel
theorem dX6_writeOrder_8 : decode cX6_writeOrder 8 = .ok (.aload_n 0, 1) := by decide +kernel
theorem dX6_writeOrder_9 : decode cX6_writeOrder 9 = .ok (.getfield 24, 3) := by decide +kernel
theorem dX6_writeOrder_12 : decode cX6_writeOrder 12 = .ok (.putfield 37, 3) := by decide +kernel
theorem dX6_writeOrder_15 : decode cX6_writeOrder 15 = .ok (.iconst 0, 1) := by decide +kernel
theorem dX6_writeOrder_16 : decode cX6_writeOrder 16 = .ok (.istore 5, 2) := by decide +kernel
theorem dX6_writeOrder_18 : decode cX6_writeOrder 18 = .ok (.iload 5, 2) := by decide +kernel
theorem dX6_writeOrder_20 : decode cX6_writeOrder 20 = .ok (.aload_n 0, 1) := by decide +kernel
theorem dX6_writeOrder_21 : decode cX6_writeOrder 21 = .ok (.getfield 24, 3) := by decide +kernel
theorem dX6_writeOrder_24 : decode cX6_writeOrder 24 = .ok (.if_icmp .ge 62, 3) := by decide +kernel
theorem dX6_writeOrder_27 : decode cX6_writeOrder 27 = .ok (.aload_n 0, 1) := by decide +kernel
theorem dX6_writeOrder_28 : decode cX6_writeOrder 28 = .ok (.iload_n 2, 1) := by decide +kernel
theorem dX6_writeOrder_29 : decode cX6_writeOrder 29 = .ok (.iload_n 3, 1) := by decide +kernel
theorem dX6_writeOrder_30 : decode cX6_writeOrder 30 = .ok (.iload 4, 2) := by decide +kernel
theorem dX6_writeOrder_32 : decode cX6_writeOrder 32 = .ok (.invokevirtual 44, 3) := by decide +kernel
theorem dX6_writeOrder_35 : decode cX6_writeOrder 35 = .ok (.istore 6, 2) := by decide +kernel
theorem dX6_writeOrder_37 : decode cX6_writeOrder 37 = .ok (.iload 6, 2) := by decide +kernel
theorem dX6_writeOrder_39 : decode cX6_writeOrder 39 = .ok (.iconst (-1), 1) := by decide +kernel
theorem dX6_writeOrder_40 : decode cX6_writeOrder 40 = .ok (.if_icmp .ne 4, 3) := by decide +kernel
theorem dX6_writeOrder_43 : decode cX6_writeOrder 43 = .ok (.return_, 1) := by decide +kernel
theorem dX6_writeOrder_44 : decode cX6_writeOrder 44 = .ok (.aload_n 0, 1) := by decide +kernel
theorem dX6_writeOrder_45 : decode cX6_writeOrder 45 = .ok (.getfield 34, 3) := by decide +kernel
theorem dX6_writeOrder_48 : decode cX6_writeOrder 48 = .ok (.iload 5, 2) := by decide +kernel
theorem dX6_writeOrder_50 : decode cX6_writeOrder 50 = .ok (.iload 6, 2) := by decide +kernel
theorem dX6_writeOrder_52 : decode cX6_writeOrder 52 = .ok (.iastore, 1) := by decide +kernel
theorem dX6_writeOrder_53 : decode cX6_writeOrder 53 = .ok (.iload_n 2, 1) := by decide +kernel
theorem dX6_writeOrder_54 : decode cX6_writeOrder 54 = .ok (.iconst 1, 1) := by decide +kernel
theorem dX6_writeOrder_55 : decode cX6_writeOrder 55 = .ok (.iload 6, 2) := by decide +kernel
theorem dX6_writeOrder_57 : decode cX6_writeOrder 57 = .ok (.ishl, 1) := by decide +kernel
theorem dX6_writeOrder_58 : decode cX6_writeOrder 58 = .ok (.ior, 1) := by decide +kernel
theorem dX6_writeOrder_59 : decode cX6_writeOrder 59 = .ok (.istore_n 2, 1) := by decide +kernel
theorem dX6_writeOrder_60 : decode cX6_writeOrder 60 = .ok (.aload_n 0, 1) := by decide +kernel
theorem dX6_writeOrder_61 : decode cX6_writeOrder 61 = .ok (.getfield 9, 3) := by decide +kernel
theorem dX6_writeOrder_64 : decode cX6_writeOrder 64 = .ok (.iload 6, 2) := by decide +kernel
theorem dX6_writeOrder_66 : decode cX6_writeOrder 66 = .ok (.iaload, 1) := by decide +kernel
theorem dX6_writeOrder_67 : decode cX6_writeOrder 67 = .ok (.istore_n 3, 1) := by decide +kernel
theorem dX6_writeOrder_68 : decode cX6_writeOrder 68 = .ok (.iload 4, 2) := by decide +kernel
theorem dX6_writeOrder_70 : decode cX6_writeOrder 70 = .ok (.aload_n 0, 1) := by decide +kernel
theorem dX6_writeOrder_71 : decode cX6_writeOrder 71 = .ok (.getfield 15, 3) := by decide +kernel
theorem dX6_writeOrder_74 : decode cX6_writeOrder 74 = .ok (.iload 6, 2) := by decide +kernel
theorem dX6_writeOrder_76 : decode cX6_writeOrder 76 = .ok (.iaload, 1) := by decide +kernel
theorem dX6_writeOrder_77 : decode cX6_writeOrder 77 = .ok (.iadd, 1) := by decide +kernel
theorem dX6_writeOrder_78 : decode cX6_writeOrder 78 = .ok (.istore 4, 2) := by decide +kernel
theorem dX6_writeOrder_80 : decode cX6_writeOrder 80 = .ok (.iinc 5 1, 3) := by decide +kernel
theorem dX6_writeOrder_83 : decode cX6_writeOrder 83 = .ok (.goto (-65), 3) := by decide +kernel
theorem dX6_writeOrder_86 : decode cX6_writeOrder 86 = .ok (.return_, 1) := by decide +kernel
theorem dX6_bestNext_0 : decode cX6_bestNext 0 = .ok (.iconst (-1), 1) := by decide +kernel
theorem dX6_bestNext_1 : decode cX6_bestNext 1 = .ok (.istore 4, 2) := by decide +kernel
theorem dX6_bestNext_3 : decode cX6_bestNext 3 = .ok (.iconst 0, 1) := by decide +kernel
theorem dX6_bestNext_4 : decode cX6_bestNext 4 = .ok (.istore 5, 2) := by decide +kernel
theorem dX6_bestNext_6 : decode cX6_bestNext 6 = .ok (.iconst 0, 1) := by decide +kernel
theorem dX6_bestNext_7 : decode cX6_bestNext 7 = .ok (.istore 6, 2) := by decide +kernel
theorem dX6_bestNext_9 : decode cX6_bestNext 9 = .ok (.iload 6, 2) := by decide +kernel
theorem dX6_bestNext_11 : decode cX6_bestNext 11 = .ok (.aload_n 0, 1) := by decide +kernel
theorem dX6_bestNext_12 : decode cX6_bestNext 12 = .ok (.getfield 24, 3) := by decide +kernel
theorem dX6_bestNext_15 : decode cX6_bestNext 15 = .ok (.if_icmp .ge 54, 3) := by decide +kernel
theorem dX6_bestNext_18 : decode cX6_bestNext 18 = .ok (.iload_n 1, 1) := by decide +kernel
theorem dX6_bestNext_19 : decode cX6_bestNext 19 = .ok (.i2l, 1) := by decide +kernel
theorem dX6_bestNext_20 : decode cX6_bestNext 20 = .ok (.iload 6, 2) := by decide +kernel
theorem dX6_bestNext_22 : decode cX6_bestNext 22 = .ok (.invokestatic 56, 3) := by decide +kernel
theorem dX6_bestNext_25 : decode cX6_bestNext 25 = .ok (.ifCond .eq 6, 3) := by decide +kernel
theorem dX6_bestNext_28 : decode cX6_bestNext 28 = .ok (.goto 35, 3) := by decide +kernel
theorem dX6_bestNext_31 : decode cX6_bestNext 31 = .ok (.aload_n 0, 1) := by decide +kernel
theorem dX6_bestNext_32 : decode cX6_bestNext 32 = .ok (.iload 6, 2) := by decide +kernel
theorem dX6_bestNext_34 : decode cX6_bestNext 34 = .ok (.iload_n 1, 1) := by decide +kernel
theorem dX6_bestNext_35 : decode cX6_bestNext 35 = .ok (.iload_n 2, 1) := by decide +kernel
theorem dX6_bestNext_36 : decode cX6_bestNext 36 = .ok (.iload_n 3, 1) := by decide +kernel
theorem dX6_bestNext_37 : decode cX6_bestNext 37 = .ok (.invokevirtual 48, 3) := by decide +kernel
theorem dX6_bestNext_40 : decode cX6_bestNext 40 = .ok (.istore 7, 2) := by decide +kernel
theorem dX6_bestNext_42 : decode cX6_bestNext 42 = .ok (.iload 4, 2) := by decide +kernel
theorem dX6_bestNext_44 : decode cX6_bestNext 44 = .ok (.iconst (-1), 1) := by decide +kernel
theorem dX6_bestNext_45 : decode cX6_bestNext 45 = .ok (.if_icmp .eq 10, 3) := by decide +kernel
theorem dX6_bestNext_48 : decode cX6_bestNext 48 = .ok (.iload 7, 2) := by decide +kernel
theorem dX6_bestNext_50 : decode cX6_bestNext 50 = .ok (.iload 5, 2) := by decide +kernel
theorem dX6_bestNext_52 : decode cX6_bestNext 52 = .ok (.if_icmp .ge 11, 3) := by decide +kernel
theorem dX6_bestNext_55 : decode cX6_bestNext 55 = .ok (.iload 6, 2) := by decide +kernel
theorem dX6_bestNext_57 : decode cX6_bestNext 57 = .ok (.istore 4, 2) := by decide +kernel
theorem dX6_bestNext_59 : decode cX6_bestNext 59 = .ok (.iload 7, 2) := by decide +kernel
theorem dX6_bestNext_61 : decode cX6_bestNext 61 = .ok (.istore 5, 2) := by decide +kernel
theorem dX6_bestNext_63 : decode cX6_bestNext 63 = .ok (.iinc 6 1, 3) := by decide +kernel
theorem dX6_bestNext_66 : decode cX6_bestNext 66 = .ok (.goto (-57), 3) := by decide +kernel
theorem dX6_bestNext_69 : decode cX6_bestNext 69 = .ok (.iload 4, 2) := by decide +kernel
theorem dX6_bestNext_71 : decode cX6_bestNext 71 = .ok (.ireturn, 1) := by decide +kernel
theorem dX6_costWith_0 : decode cX6_costWith 0 = .ok (.iconst 0, 1) := by decide +kernel
theorem dX6_costWith_1 : decode cX6_costWith 1 = .ok (.iload 4, 2) := by decide +kernel
theorem dX6_costWith_3 : decode cX6_costWith 3 = .ok (.aload_n 0, 1) := by decide +kernel
theorem dX6_costWith_4 : decode cX6_costWith 4 = .ok (.getfield 15, 3) := by decide +kernel
theorem dX6_costWith_7 : decode cX6_costWith 7 = .ok (.iload_n 1, 1) := by decide +kernel
theorem dX6_costWith_8 : decode cX6_costWith 8 = .ok (.iaload, 1) := by decide +kernel
theorem dX6_costWith_9 : decode cX6_costWith 9 = .ok (.iadd, 1) := by decide +kernel
theorem dX6_costWith_10 : decode cX6_costWith 10 = .ok (.aload_n 0, 1) := by decide +kernel
theorem dX6_costWith_11 : decode cX6_costWith 11 = .ok (.getfield 18, 3) := by decide +kernel
theorem dX6_costWith_14 : decode cX6_costWith 14 = .ok (.iload_n 1, 1) := by decide +kernel
theorem dX6_costWith_15 : decode cX6_costWith 15 = .ok (.iaload, 1) := by decide +kernel
theorem dX6_costWith_16 : decode cX6_costWith 16 = .ok (.isub, 1) := by decide +kernel
theorem dX6_costWith_17 : decode cX6_costWith 17 = .ok (.invokestatic 60, 3) := by decide +kernel
theorem dX6_costWith_20 : decode cX6_costWith 20 = .ok (.istore 5, 2) := by decide +kernel
theorem dX6_costWith_22 : decode cX6_costWith 22 = .ok (.aload_n 0, 1) := by decide +kernel
theorem dX6_costWith_23 : decode cX6_costWith 23 = .ok (.getfield 31, 3) := by decide +kernel
theorem dX6_costWith_26 : decode cX6_costWith 26 = .ok (.iload_n 2, 1) := by decide +kernel
theorem dX6_costWith_27 : decode cX6_costWith 27 = .ok (.iconst 1, 1) := by decide +kernel
theorem dX6_costWith_28 : decode cX6_costWith 28 = .ok (.iload_n 1, 1) := by decide +kernel
theorem dX6_costWith_29 : decode cX6_costWith 29 = .ok (.ishl, 1) := by decide +kernel
theorem dX6_costWith_30 : decode cX6_costWith 30 = .ok (.ior, 1) := by decide +kernel
theorem dX6_costWith_31 : decode cX6_costWith 31 = .ok (.bipush 6, 2) := by decide +kernel
theorem dX6_costWith_33 : decode cX6_costWith 33 = .ok (.imul, 1) := by decide +kernel
theorem dX6_costWith_34 : decode cX6_costWith 34 = .ok (.aload_n 0, 1) := by decide +kernel
theorem dX6_costWith_35 : decode cX6_costWith 35 = .ok (.getfield 9, 3) := by decide +kernel
theorem dX6_costWith_38 : decode cX6_costWith 38 = .ok (.iload_n 1, 1) := by decide +kernel
theorem dX6_costWith_39 : decode cX6_costWith 39 = .ok (.iaload, 1) := by decide +kernel
theorem dX6_costWith_40 : decode cX6_costWith 40 = .ok (.iadd, 1) := by decide +kernel
theorem dX6_costWith_41 : decode cX6_costWith 41 = .ok (.iaload, 1) := by decide +kernel
theorem dX6_costWith_42 : decode cX6_costWith 42 = .ok (.istore 6, 2) := by decide +kernel
theorem dX6_costWith_44 : decode cX6_costWith 44 = .ok (.aload_n 0, 1) := by decide +kernel
theorem dX6_costWith_45 : decode cX6_costWith 45 = .ok (.getfield 28, 3) := by decide +kernel
theorem dX6_costWith_48 : decode cX6_costWith 48 = .ok (.iload_n 3, 1) := by decide +kernel
theorem dX6_costWith_49 : decode cX6_costWith 49 = .ok (.bipush 6, 2) := by decide +kernel
theorem dX6_costWith_51 : decode cX6_costWith 51 = .ok (.imul, 1) := by decide +kernel
theorem dX6_costWith_52 : decode cX6_costWith 52 = .ok (.aload_n 0, 1) := by decide +kernel
theorem dX6_costWith_53 : decode cX6_costWith 53 = .ok (.getfield 9, 3) := by decide +kernel
theorem dX6_costWith_56 : decode cX6_costWith 56 = .ok (.iload_n 1, 1) := by decide +kernel
theorem dX6_costWith_57 : decode cX6_costWith 57 = .ok (.iaload, 1) := by decide +kernel
theorem dX6_costWith_58 : decode cX6_costWith 58 = .ok (.iadd, 1) := by decide +kernel
theorem dX6_costWith_59 : decode cX6_costWith 59 = .ok (.iaload, 1) := by decide +kernel
theorem dX6_costWith_60 : decode cX6_costWith 60 = .ok (.aload_n 0, 1) := by decide +kernel
theorem dX6_costWith_61 : decode cX6_costWith 61 = .ok (.getfield 21, 3) := by decide +kernel
theorem dX6_costWith_64 : decode cX6_costWith 64 = .ok (.iload_n 1, 1) := by decide +kernel
theorem dX6_costWith_65 : decode cX6_costWith 65 = .ok (.iaload, 1) := by decide +kernel
theorem dX6_costWith_66 : decode cX6_costWith 66 = .ok (.iload 5, 2) := by decide +kernel
theorem dX6_costWith_68 : decode cX6_costWith 68 = .ok (.imul, 1) := by decide +kernel
theorem dX6_costWith_69 : decode cX6_costWith 69 = .ok (.iadd, 1) := by decide +kernel
theorem dX6_costWith_70 : decode cX6_costWith 70 = .ok (.iload 6, 2) := by decide +kernel
theorem dX6_costWith_72 : decode cX6_costWith 72 = .ok (.iadd, 1) := by decide +kernel
theorem dX6_costWith_73 : decode cX6_costWith 73 = .ok (.ireturn, 1) := by decide +kernel
theorem dX6_timeOfSet_0 : decode cX6_timeOfSet 0 = .ok (.iconst 0, 1) := by decide +kernel
theorem dX6_timeOfSet_1 : decode cX6_timeOfSet 1 = .ok (.istore_n 2, 1) := by decide +kernel
theorem dX6_timeOfSet_2 : decode cX6_timeOfSet 2 = .ok (.iconst 0, 1) := by decide +kernel
theorem dX6_timeOfSet_3 : decode cX6_timeOfSet 3 = .ok (.istore_n 3, 1) := by decide +kernel
theorem dX6_timeOfSet_4 : decode cX6_timeOfSet 4 = .ok (.iload_n 3, 1) := by decide +kernel
theorem dX6_timeOfSet_5 : decode cX6_timeOfSet 5 = .ok (.aload_n 0, 1) := by decide +kernel
theorem dX6_timeOfSet_6 : decode cX6_timeOfSet 6 = .ok (.getfield 24, 3) := by decide +kernel
theorem dX6_timeOfSet_9 : decode cX6_timeOfSet 9 = .ok (.if_icmp .ge 27, 3) := by decide +kernel
theorem dX6_timeOfSet_12 : decode cX6_timeOfSet 12 = .ok (.iload_n 1, 1) := by decide +kernel
theorem dX6_timeOfSet_13 : decode cX6_timeOfSet 13 = .ok (.i2l, 1) := by decide +kernel
theorem dX6_timeOfSet_14 : decode cX6_timeOfSet 14 = .ok (.iload_n 3, 1) := by decide +kernel
theorem dX6_timeOfSet_15 : decode cX6_timeOfSet 15 = .ok (.invokestatic 56, 3) := by decide +kernel
theorem dX6_timeOfSet_18 : decode cX6_timeOfSet 18 = .ok (.ifCond .eq 12, 3) := by decide +kernel
theorem dX6_timeOfSet_21 : decode cX6_timeOfSet 21 = .ok (.iload_n 2, 1) := by decide +kernel
theorem dX6_timeOfSet_22 : decode cX6_timeOfSet 22 = .ok (.aload_n 0, 1) := by decide +kernel
theorem dX6_timeOfSet_23 : decode cX6_timeOfSet 23 = .ok (.getfield 15, 3) := by decide +kernel
theorem dX6_timeOfSet_26 : decode cX6_timeOfSet 26 = .ok (.iload_n 3, 1) := by decide +kernel
theorem dX6_timeOfSet_27 : decode cX6_timeOfSet 27 = .ok (.iaload, 1) := by decide +kernel
theorem dX6_timeOfSet_28 : decode cX6_timeOfSet 28 = .ok (.iadd, 1) := by decide +kernel
theorem dX6_timeOfSet_29 : decode cX6_timeOfSet 29 = .ok (.istore_n 2, 1) := by decide +kernel
theorem dX6_timeOfSet_30 : decode cX6_timeOfSet 30 = .ok (.iinc 3 1, 3) := by decide +kernel
theorem dX6_timeOfSet_33 : decode cX6_timeOfSet 33 = .ok (.goto (-29), 3) := by decide +kernel
theorem dX6_timeOfSet_36 : decode cX6_timeOfSet 36 = .ok (.iload_n 2, 1) := by decide +kernel
theorem dX6_timeOfSet_37 : decode cX6_timeOfSet 37 = .ok (.ireturn, 1) := by decide +kernel
theorem dX7_init_0 : decode cX7_init 0 = .ok (.aload_n 0, 1) := by decide +kernel
theorem dX7_init_1 : decode cX7_init 1 = .ok (.invokespecial 3, 3) := by decide +kernel
theorem dX7_init_4 : decode cX7_init 4 = .ok (.aload_n 0, 1) := by decide +kernel
theorem dX7_init_5 : decode cX7_init 5 = .ok (.bipush 40, 2) := by decide +kernel
theorem dX7_init_7 : decode cX7_init 7 = .ok (.newarray .int, 2) := by decide +kernel
theorem dX7_init_9 : decode cX7_init 9 = .ok (.putfield 9, 3) := by decide +kernel
theorem dX7_init_12 : decode cX7_init 12 = .ok (.aload_n 0, 1) := by decide +kernel
theorem dX7_init_13 : decode cX7_init 13 = .ok (.bipush 40, 2) := by decide +kernel
theorem dX7_init_15 : decode cX7_init 15 = .ok (.newarray .int, 2) := by decide +kernel
theorem dX7_init_17 : decode cX7_init 17 = .ok (.putfield 15, 3) := by decide +kernel
theorem dX7_init_20 : decode cX7_init 20 = .ok (.aload_n 0, 1) := by decide +kernel
theorem dX7_init_21 : decode cX7_init 21 = .ok (.bipush 40, 2) := by decide +kernel
theorem dX7_init_23 : decode cX7_init 23 = .ok (.newarray .int, 2) := by decide +kernel
theorem dX7_init_25 : decode cX7_init 25 = .ok (.putfield 18, 3) := by decide +kernel
theorem dX7_init_28 : decode cX7_init 28 = .ok (.aload_n 0, 1) := by decide +kernel
theorem dX7_init_29 : decode cX7_init 29 = .ok (.iconst 0, 1) := by decide +kernel
theorem dX7_init_30 : decode cX7_init 30 = .ok (.putfield 21, 3) := by decide +kernel
theorem dX7_init_33 : decode cX7_init 33 = .ok (.aload_n 0, 1) := by decide +kernel
theorem dX7_init_34 : decode cX7_init 34 = .ok (.iconst 0, 1) := by decide +kernel
theorem dX7_init_35 : decode cX7_init 35 = .ok (.putfield 25, 3) := by decide +kernel
theorem dX7_init_38 : decode cX7_init 38 = .ok (.return_, 1) := by decide +kernel
theorem dX7_has_0 : decode cX7_has 0 = .ok (.iload_n 1, 1) := by decide +kernel
theorem dX7_has_1 : decode cX7_has 1 = .ok (.ifCond .lt 15, 3) := by decide +kernel
theorem dX7_has_4 : decode cX7_has 4 = .ok (.iload_n 1, 1) := by decide +kernel
theorem dX7_has_5 : decode cX7_has 5 = .ok (.aload_n 0, 1) := by decide +kernel
theorem dX7_has_6 : decode cX7_has 6 = .ok (.getfield 21, 3) := by decide +kernel
theorem dX7_has_9 : decode cX7_has 9 = .ok (.if_icmp .ge 7, 3) := by decide +kernel
theorem dX7_has_12 : decode cX7_has 12 = .ok (.iconst 1, 1) := by decide +kernel
theorem dX7_has_13 : decode cX7_has 13 = .ok (.goto 4, 3) := by decide +kernel
theorem dX7_has_16 : decode cX7_has 16 = .ok (.iconst 0, 1) := by decide +kernel
theorem dX7_has_17 : decode cX7_has 17 = .ok (.ireturn, 1) := by decide +kernel
theorem dX7_add_0 : decode cX7_add 0 = .ok (.aload_n 0, 1) := by decide +kernel
theorem dX7_add_1 : decode cX7_add 1 = .ok (.getfield 21, 3) := by decide +kernel
theorem dX7_add_4 : decode cX7_add 4 = .ok (.bipush 40, 2) := by decide +kernel
theorem dX7_add_6 : decode cX7_add 6 = .ok (.if_icmp .lt 6, 3) := by decide +kernel
theorem dX7_add_9 : decode cX7_add 9 = .ok (.bipush (-6), 2) := by decide +kernel
theorem dX7_add_11 : decode cX7_add 11 = .ok (.ireturn, 1) := by decide +kernel
theorem dX7_add_12 : decode cX7_add 12 = .ok (.aload_n 0, 1) := by decide +kernel
theorem dX7_add_13 : decode cX7_add 13 = .ok (.getfield 9, 3) := by decide +kernel
theorem dX7_add_16 : decode cX7_add 16 = .ok (.aload_n 0, 1) := by decide +kernel
theorem dX7_add_17 : decode cX7_add 17 = .ok (.getfield 21, 3) := by decide +kernel
theorem dX7_add_20 : decode cX7_add 20 = .ok (.iload_n 1, 1) := by decide +kernel
theorem dX7_add_21 : decode cX7_add 21 = .ok (.iastore, 1) := by decide +kernel
theorem dX7_add_22 : decode cX7_add 22 = .ok (.aload_n 0, 1) := by decide +kernel
theorem dX7_add_23 : decode cX7_add 23 = .ok (.getfield 15, 3) := by decide +kernel
theorem dX7_add_26 : decode cX7_add 26 = .ok (.aload_n 0, 1) := by decide +kernel
theorem dX7_add_27 : decode cX7_add 27 = .ok (.getfield 21, 3) := by decide +kernel
theorem dX7_add_30 : decode cX7_add 30 = .ok (.iload_n 2, 1) := by decide +kernel
theorem dX7_add_31 : decode cX7_add 31 = .ok (.iastore, 1) := by decide +kernel
theorem dX7_add_32 : decode cX7_add 32 = .ok (.aload_n 0, 1) := by decide +kernel
theorem dX7_add_33 : decode cX7_add 33 = .ok (.getfield 18, 3) := by decide +kernel
theorem dX7_add_36 : decode cX7_add 36 = .ok (.aload_n 0, 1) := by decide +kernel
theorem dX7_add_37 : decode cX7_add 37 = .ok (.getfield 21, 3) := by decide +kernel
theorem dX7_add_40 : decode cX7_add 40 = .ok (.iload_n 3, 1) := by decide +kernel
theorem dX7_add_41 : decode cX7_add 41 = .ok (.iastore, 1) := by decide +kernel
theorem dX7_add_42 : decode cX7_add 42 = .ok (.aload_n 0, 1) := by decide +kernel
theorem dX7_add_43 : decode cX7_add 43 = .ok (.dup, 1) := by decide +kernel
theorem dX7_add_44 : decode cX7_add 44 = .ok (.getfield 21, 3) := by decide +kernel
theorem dX7_add_47 : decode cX7_add 47 = .ok (.iconst 1, 1) := by decide +kernel
theorem dX7_add_48 : decode cX7_add 48 = .ok (.iadd, 1) := by decide +kernel
theorem dX7_add_49 : decode cX7_add 49 = .ok (.putfield 21, 3) := by decide +kernel
theorem dX7_add_52 : decode cX7_add 52 = .ok (.aload_n 0, 1) := by decide +kernel
theorem dX7_add_53 : decode cX7_add 53 = .ok (.getfield 21, 3) := by decide +kernel
theorem dX7_add_56 : decode cX7_add 56 = .ok (.iconst 1, 1) := by decide +kernel
theorem dX7_add_57 : decode cX7_add 57 = .ok (.isub, 1) := by decide +kernel
theorem dX7_add_58 : decode cX7_add 58 = .ok (.ireturn, 1) := by decide +kernel
theorem dX7_usableOf_0 : decode cX7_usableOf 0 = .ok (.iconst 0, 1) := by decide +kernel
theorem dX7_usableOf_1 : decode cX7_usableOf 1 = .ok (.istore_n 2, 1) := by decide +kernel
theorem dX7_usableOf_2 : decode cX7_usableOf 2 = .ok (.iconst 0, 1) := by decide +kernel
theorem dX7_usableOf_3 : decode cX7_usableOf 3 = .ok (.istore_n 3, 1) := by decide +kernel
theorem dX7_usableOf_4 : decode cX7_usableOf 4 = .ok (.iload_n 3, 1) := by decide +kernel
theorem dX7_usableOf_5 : decode cX7_usableOf 5 = .ok (.aload_n 0, 1) := by decide +kernel
theorem dX7_usableOf_6 : decode cX7_usableOf 6 = .ok (.getfield 21, 3) := by decide +kernel
theorem dX7_usableOf_9 : decode cX7_usableOf 9 = .ok (.if_icmp .ge 27, 3) := by decide +kernel
theorem dX7_usableOf_12 : decode cX7_usableOf 12 = .ok (.aload_n 0, 1) := by decide +kernel
theorem dX7_usableOf_13 : decode cX7_usableOf 13 = .ok (.iload_n 3, 1) := by decide +kernel
theorem dX7_usableOf_14 : decode cX7_usableOf 14 = .ok (.iload_n 1, 1) := by decide +kernel
theorem dX7_usableOf_15 : decode cX7_usableOf 15 = .ok (.invokevirtual 28, 3) := by decide +kernel
theorem dX7_usableOf_18 : decode cX7_usableOf 18 = .ok (.ifCond .eq 12, 3) := by decide +kernel
theorem dX7_usableOf_21 : decode cX7_usableOf 21 = .ok (.iload_n 2, 1) := by decide +kernel
theorem dX7_usableOf_22 : decode cX7_usableOf 22 = .ok (.aload_n 0, 1) := by decide +kernel
theorem dX7_usableOf_23 : decode cX7_usableOf 23 = .ok (.getfield 15, 3) := by decide +kernel
theorem dX7_usableOf_26 : decode cX7_usableOf 26 = .ok (.iload_n 3, 1) := by decide +kernel
theorem dX7_usableOf_27 : decode cX7_usableOf 27 = .ok (.iaload, 1) := by decide +kernel
theorem dX7_usableOf_28 : decode cX7_usableOf 28 = .ok (.iadd, 1) := by decide +kernel
theorem dX7_usableOf_29 : decode cX7_usableOf 29 = .ok (.istore_n 2, 1) := by decide +kernel
theorem dX7_usableOf_30 : decode cX7_usableOf 30 = .ok (.iinc 3 1, 3) := by decide +kernel
theorem dX7_usableOf_33 : decode cX7_usableOf 33 = .ok (.goto (-29), 3) := by decide +kernel
theorem dX7_usableOf_36 : decode cX7_usableOf 36 = .ok (.iload_n 2, 1) := by decide +kernel
theorem dX7_usableOf_37 : decode cX7_usableOf 37 = .ok (.ireturn, 1) := by decide +kernel
theorem dX7_lacks_0 : decode cX7_lacks 0 = .ok (.iconst 0, 1) := by decide +kernel
theorem dX7_lacks_1 : decode cX7_lacks 1 = .ok (.istore_n 2, 1) := by decide +kernel
theorem dX7_lacks_2 : decode cX7_lacks 2 = .ok (.iload_n 2, 1) := by decide +kernel
theorem dX7_lacks_3 : decode cX7_lacks 3 = .ok (.bipush 8, 2) := by decide +kernel
theorem dX7_lacks_5 : decode cX7_lacks 5 = .ok (.if_icmp .ge 28, 3) := by decide +kernel
theorem dX7_lacks_8 : decode cX7_lacks 8 = .ok (.aload_n 1, 1) := by decide +kernel
theorem dX7_lacks_9 : decode cX7_lacks 9 = .ok (.iload_n 2, 1) := by decide +kernel
theorem dX7_lacks_10 : decode cX7_lacks 10 = .ok (.iaload, 1) := by decide +kernel
theorem dX7_lacks_11 : decode cX7_lacks 11 = .ok (.ifCond .le 16, 3) := by decide +kernel
theorem dX7_lacks_14 : decode cX7_lacks 14 = .ok (.aload_n 0, 1) := by decide +kernel
theorem dX7_lacks_15 : decode cX7_lacks 15 = .ok (.iload_n 2, 1) := by decide +kernel
theorem dX7_lacks_16 : decode cX7_lacks 16 = .ok (.invokevirtual 32, 3) := by decide +kernel
theorem dX7_lacks_19 : decode cX7_lacks 19 = .ok (.aload_n 1, 1) := by decide +kernel
theorem dX7_lacks_20 : decode cX7_lacks 20 = .ok (.iload_n 2, 1) := by decide +kernel
theorem dX7_lacks_21 : decode cX7_lacks 21 = .ok (.iaload, 1) := by decide +kernel
theorem dX7_lacks_22 : decode cX7_lacks 22 = .ok (.if_icmp .ge 5, 3) := by decide +kernel
theorem dX7_lacks_25 : decode cX7_lacks 25 = .ok (.iconst 1, 1) := by decide +kernel
theorem dX7_lacks_26 : decode cX7_lacks 26 = .ok (.ireturn, 1) := by decide +kernel
theorem dX7_lacks_27 : decode cX7_lacks 27 = .ok (.iinc 2 1, 3) := by decide +kernel
theorem dX7_lacks_30 : decode cX7_lacks 30 = .ok (.goto (-28), 3) := by decide +kernel
theorem dX7_lacks_33 : decode cX7_lacks 33 = .ok (.iconst 0, 1) := by decide +kernel
theorem dX7_lacks_34 : decode cX7_lacks 34 = .ok (.ireturn, 1) := by decide +kernel
theorem dX7_take_0 : decode cX7_take 0 = .ok (.iload_n 2, 1) := by decide +kernel
theorem dX7_take_1 : decode cX7_take 1 = .ok (.istore 4, 2) := by decide +kernel
theorem dX7_take_3 : decode cX7_take 3 = .ok (.iconst 0, 1) := by decide +kernel
theorem dX7_take_4 : decode cX7_take 4 = .ok (.istore 5, 2) := by decide +kernel
theorem dX7_take_6 : decode cX7_take 6 = .ok (.iload 5, 2) := by decide +kernel
theorem dX7_take_8 : decode cX7_take 8 = .ok (.aload_n 0, 1) := by decide +kernel
theorem dX7_take_9 : decode cX7_take 9 = .ok (.getfield 21, 3) := by decide +kernel
theorem dX7_take_12 : decode cX7_take 12 = .ok (.if_icmp .ge 70, 3) := by decide +kernel
theorem dX7_take_15 : decode cX7_take 15 = .ok (.iload 4, 2) := by decide +kernel
theorem dX7_take_17 : decode cX7_take 17 = .ok (.ifCond .le 65, 3) := by decide +kernel
theorem dX7_take_20 : decode cX7_take 20 = .ok (.aload_n 0, 1) := by decide +kernel
theorem dX7_take_21 : decode cX7_take 21 = .ok (.iload_n 1, 1) := by decide +kernel
theorem dX7_take_22 : decode cX7_take 22 = .ok (.invokevirtual 36, 3) := by decide +kernel
theorem dX7_take_25 : decode cX7_take 25 = .ok (.istore 6, 2) := by decide +kernel
theorem dX7_take_27 : decode cX7_take 27 = .ok (.iload 6, 2) := by decide +kernel
theorem dX7_take_29 : decode cX7_take 29 = .ok (.iconst (-1), 1) := by decide +kernel
theorem dX7_take_30 : decode cX7_take 30 = .ok (.if_icmp .ne 4, 3) := by decide +kernel
theorem dX7_take_33 : decode cX7_take 33 = .ok (.return_, 1) := by decide +kernel
theorem dX7_take_34 : decode cX7_take 34 = .ok (.aload_n 0, 1) := by decide +kernel
theorem dX7_take_35 : decode cX7_take 35 = .ok (.getfield 15, 3) := by decide +kernel
theorem dX7_take_38 : decode cX7_take 38 = .ok (.iload 6, 2) := by decide +kernel
theorem dX7_take_40 : decode cX7_take 40 = .ok (.iaload, 1) := by decide +kernel
theorem dX7_take_41 : decode cX7_take 41 = .ok (.iload 4, 2) := by decide +kernel
theorem dX7_take_43 : decode cX7_take 43 = .ok (.invokestatic 39, 3) := by decide +kernel
theorem dX7_take_46 : decode cX7_take 46 = .ok (.istore 7, 2) := by decide +kernel
theorem dX7_take_48 : decode cX7_take 48 = .ok (.aload_n 0, 1) := by decide +kernel
theorem dX7_take_49 : decode cX7_take 49 = .ok (.getfield 15, 3) := by decide +kernel
theorem dX7_take_52 : decode cX7_take 52 = .ok (.iload 6, 2) := by decide +kernel
theorem dX7_take_54 : decode cX7_take 54 = .ok (.dup2, 1) := by decide +kernel
theorem dX7_take_55 : decode cX7_take 55 = .ok (.iaload, 1) := by decide +kernel
theorem dX7_take_56 : decode cX7_take 56 = .ok (.iload 7, 2) := by decide +kernel
theorem dX7_take_58 : decode cX7_take 58 = .ok (.isub, 1) := by decide +kernel
theorem dX7_take_59 : decode cX7_take 59 = .ok (.iastore, 1) := by decide +kernel
theorem dX7_take_60 : decode cX7_take 60 = .ok (.iload 4, 2) := by decide +kernel
theorem dX7_take_62 : decode cX7_take 62 = .ok (.iload 7, 2) := by decide +kernel
theorem dX7_take_64 : decode cX7_take 64 = .ok (.isub, 1) := by decide +kernel
theorem dX7_take_65 : decode cX7_take 65 = .ok (.istore 4, 2) := by decide +kernel
theorem dX7_take_67 : decode cX7_take 67 = .ok (.aload_n 3, 1) := by decide +kernel
theorem dX7_take_68 : decode cX7_take 68 = .ok (.iload_n 1, 1) := by decide +kernel
theorem dX7_take_69 : decode cX7_take 69 = .ok (.iload 7, 2) := by decide +kernel
theorem dX7_take_71 : decode cX7_take 71 = .ok (.iload 6, 2) := by decide +kernel
theorem dX7_take_73 : decode cX7_take 73 = .ok (.invokevirtual 45, 3) := by decide +kernel
theorem dX7_take_76 : decode cX7_take 76 = .ok (.iinc 5 1, 3) := by decide +kernel
theorem dX7_take_79 : decode cX7_take 79 = .ok (.goto (-73), 3) := by decide +kernel
theorem dX7_take_82 : decode cX7_take 82 = .ok (.return_, 1) := by decide +kernel
theorem dX7_isUsable_0 : decode cX7_isUsable 0 = .ok (.aload_n 0, 1) := by decide +kernel
theorem dX7_isUsable_1 : decode cX7_isUsable 1 = .ok (.getfield 9, 3) := by decide +kernel
theorem dX7_isUsable_4 : decode cX7_isUsable 4 = .ok (.iload_n 1, 1) := by decide +kernel
theorem dX7_isUsable_5 : decode cX7_isUsable 5 = .ok (.iaload, 1) := by decide +kernel
theorem dX7_isUsable_6 : decode cX7_isUsable 6 = .ok (.iload_n 2, 1) := by decide +kernel
theorem dX7_isUsable_7 : decode cX7_isUsable 7 = .ok (.if_icmp .ne 29, 3) := by decide +kernel
theorem dX7_isUsable_10 : decode cX7_isUsable 10 = .ok (.aload_n 0, 1) := by decide +kernel
theorem dX7_isUsable_11 : decode cX7_isUsable 11 = .ok (.getfield 18, 3) := by decide +kernel
theorem dX7_isUsable_14 : decode cX7_isUsable 14 = .ok (.iload_n 1, 1) := by decide +kernel
theorem dX7_isUsable_15 : decode cX7_isUsable 15 = .ok (.iaload, 1) := by decide +kernel
theorem dX7_isUsable_16 : decode cX7_isUsable 16 = .ok (.aload_n 0, 1) := by decide +kernel
theorem dX7_isUsable_17 : decode cX7_isUsable 17 = .ok (.getfield 25, 3) := by decide +kernel
theorem dX7_isUsable_20 : decode cX7_isUsable 20 = .ok (.if_icmp .lt 16, 3) := by decide +kernel
theorem dX7_isUsable_23 : decode cX7_isUsable 23 = .ok (.aload_n 0, 1) := by decide +kernel
theorem dX7_isUsable_24 : decode cX7_isUsable 24 = .ok (.getfield 15, 3) := by decide +kernel
theorem dX7_isUsable_27 : decode cX7_isUsable 27 = .ok (.iload_n 1, 1) := by decide +kernel
theorem dX7_isUsable_28 : decode cX7_isUsable 28 = .ok (.iaload, 1) := by decide +kernel
theorem dX7_isUsable_29 : decode cX7_isUsable 29 = .ok (.ifCond .le 7, 3) := by decide +kernel
theorem dX7_isUsable_32 : decode cX7_isUsable 32 = .ok (.iconst 1, 1) := by decide +kernel
theorem dX7_isUsable_33 : decode cX7_isUsable 33 = .ok (.goto 4, 3) := by decide +kernel
theorem dX7_isUsable_36 : decode cX7_isUsable 36 = .ok (.iconst 0, 1) := by decide +kernel
theorem dX7_isUsable_37 : decode cX7_isUsable 37 = .ok (.ireturn, 1) := by decide +kernel
theorem dX7_nextToEnd_0 : decode cX7_nextToEnd 0 = .ok (.iconst (-1), 1) := by decide +kernel
theorem dX7_nextToEnd_1 : decode cX7_nextToEnd 1 = .ok (.istore_n 2, 1) := by decide +kernel
theorem dX7_nextToEnd_2 : decode cX7_nextToEnd 2 = .ok (.iconst 0, 1) := by decide +kernel
theorem dX7_nextToEnd_3 : decode cX7_nextToEnd 3 = .ok (.istore_n 3, 1) := by decide +kernel
theorem dX7_nextToEnd_4 : decode cX7_nextToEnd 4 = .ok (.iload_n 3, 1) := by decide +kernel
theorem dX7_nextToEnd_5 : decode cX7_nextToEnd 5 = .ok (.aload_n 0, 1) := by decide +kernel
theorem dX7_nextToEnd_6 : decode cX7_nextToEnd 6 = .ok (.getfield 21, 3) := by decide +kernel
theorem dX7_nextToEnd_9 : decode cX7_nextToEnd 9 = .ok (.if_icmp .ge 40, 3) := by decide +kernel
theorem dX7_nextToEnd_12 : decode cX7_nextToEnd 12 = .ok (.aload_n 0, 1) := by decide +kernel
theorem dX7_nextToEnd_13 : decode cX7_nextToEnd 13 = .ok (.iload_n 3, 1) := by decide +kernel
theorem dX7_nextToEnd_14 : decode cX7_nextToEnd 14 = .ok (.iload_n 1, 1) := by decide +kernel
theorem dX7_nextToEnd_15 : decode cX7_nextToEnd 15 = .ok (.invokevirtual 28, 3) := by decide +kernel
theorem dX7_nextToEnd_18 : decode cX7_nextToEnd 18 = .ok (.ifCond .eq 25, 3) := by decide +kernel
theorem dX7_nextToEnd_21 : decode cX7_nextToEnd 21 = .ok (.iload_n 2, 1) := by decide +kernel
theorem dX7_nextToEnd_22 : decode cX7_nextToEnd 22 = .ok (.iconst (-1), 1) := by decide +kernel
theorem dX7_nextToEnd_23 : decode cX7_nextToEnd 23 = .ok (.if_icmp .eq 18, 3) := by decide +kernel
theorem dX7_nextToEnd_26 : decode cX7_nextToEnd 26 = .ok (.aload_n 0, 1) := by decide +kernel
theorem dX7_nextToEnd_27 : decode cX7_nextToEnd 27 = .ok (.getfield 18, 3) := by decide +kernel
theorem dX7_nextToEnd_30 : decode cX7_nextToEnd 30 = .ok (.iload_n 3, 1) := by decide +kernel
theorem dX7_nextToEnd_31 : decode cX7_nextToEnd 31 = .ok (.iaload, 1) := by decide +kernel
theorem dX7_nextToEnd_32 : decode cX7_nextToEnd 32 = .ok (.aload_n 0, 1) := by decide +kernel
theorem dX7_nextToEnd_33 : decode cX7_nextToEnd 33 = .ok (.getfield 18, 3) := by decide +kernel
theorem dX7_nextToEnd_36 : decode cX7_nextToEnd 36 = .ok (.iload_n 2, 1) := by decide +kernel
theorem dX7_nextToEnd_37 : decode cX7_nextToEnd 37 = .ok (.iaload, 1) := by decide +kernel
theorem dX7_nextToEnd_38 : decode cX7_nextToEnd 38 = .ok (.if_icmp .ge 5, 3) := by decide +kernel
theorem dX7_nextToEnd_41 : decode cX7_nextToEnd 41 = .ok (.iload_n 3, 1) := by decide +kernel
theorem dX7_nextToEnd_42 : decode cX7_nextToEnd 42 = .ok (.istore_n 2, 1) := by decide +kernel
theorem dX7_nextToEnd_43 : decode cX7_nextToEnd 43 = .ok (.iinc 3 1, 3) := by decide +kernel
theorem dX7_nextToEnd_46 : decode cX7_nextToEnd 46 = .ok (.goto (-42), 3) := by decide +kernel
theorem dX7_nextToEnd_49 : decode cX7_nextToEnd 49 = .ok (.iload_n 2, 1) := by decide +kernel
theorem dX7_nextToEnd_50 : decode cX7_nextToEnd 50 = .ok (.ireturn, 1) := by decide +kernel
theorem dX8_init_0 : decode cX8_init 0 = .ok (.aload_n 0, 1) := by decide +kernel
theorem dX8_init_1 : decode cX8_init 1 = .ok (.invokespecial 3, 3) := by decide +kernel
theorem dX8_init_4 : decode cX8_init 4 = .ok (.aload_n 0, 1) := by decide +kernel
theorem dX8_init_5 : decode cX8_init 5 = .ok (.new 9, 3) := by decide +kernel
theorem dX8_init_8 : decode cX8_init 8 = .ok (.dup, 1) := by decide +kernel
theorem dX8_init_9 : decode cX8_init 9 = .ok (.invokespecial 11, 3) := by decide +kernel
theorem dX8_init_12 : decode cX8_init 12 = .ok (.putfield 12, 3) := by decide +kernel
theorem dX8_init_15 : decode cX8_init 15 = .ok (.aload_n 0, 1) := by decide +kernel
theorem dX8_init_16 : decode cX8_init 16 = .ok (.iconst 3, 1) := by decide +kernel
theorem dX8_init_17 : decode cX8_init 17 = .ok (.newarray .int, 2) := by decide +kernel
theorem dX8_init_19 : decode cX8_init 19 = .ok (.putfield 18, 3) := by decide +kernel
theorem dX8_init_22 : decode cX8_init 22 = .ok (.aload_n 0, 1) := by decide +kernel
theorem dX8_init_23 : decode cX8_init 23 = .ok (.iconst 0, 1) := by decide +kernel
theorem dX8_init_24 : decode cX8_init 24 = .ok (.putfield 22, 3) := by decide +kernel
theorem dX8_init_27 : decode cX8_init 27 = .ok (.aload_n 0, 1) := by decide +kernel
theorem dX8_init_28 : decode cX8_init 28 = .ok (.sipush 1000, 3) := by decide +kernel
theorem dX8_init_31 : decode cX8_init 31 = .ok (.putfield 26, 3) := by decide +kernel
theorem dX8_init_34 : decode cX8_init 34 = .ok (.aload_n 0, 1) := by decide +kernel
theorem dX8_init_35 : decode cX8_init 35 = .ok (.iconst 0, 1) := by decide +kernel
theorem dX8_init_36 : decode cX8_init 36 = .ok (.putfield 29, 3) := by decide +kernel
theorem dX8_init_39 : decode cX8_init 39 = .ok (.aload_n 0, 1) := by decide +kernel
theorem dX8_init_40 : decode cX8_init 40 = .ok (.iconst 0, 1) := by decide +kernel
theorem dX8_init_41 : decode cX8_init 41 = .ok (.putfield 32, 3) := by decide +kernel
theorem dX8_init_44 : decode cX8_init 44 = .ok (.aload_n 0, 1) := by decide +kernel
theorem dX8_init_45 : decode cX8_init 45 = .ok (.iconst 0, 1) := by decide +kernel
theorem dX8_init_46 : decode cX8_init 46 = .ok (.putfield 36, 3) := by decide +kernel
theorem dX8_init_49 : decode cX8_init 49 = .ok (.return_, 1) := by decide +kernel
theorem dX8_isClean_0 : decode cX8_isClean 0 = .ok (.aload_n 0, 1) := by decide +kernel
theorem dX8_isClean_1 : decode cX8_isClean 1 = .ok (.getfield 22, 3) := by decide +kernel
theorem dX8_isClean_4 : decode cX8_isClean 4 = .ok (.ifCond .ne 14, 3) := by decide +kernel
theorem dX8_isClean_7 : decode cX8_isClean 7 = .ok (.aload_n 0, 1) := by decide +kernel
theorem dX8_isClean_8 : decode cX8_isClean 8 = .ok (.getfield 36, 3) := by decide +kernel
theorem dX8_isClean_11 : decode cX8_isClean 11 = .ok (.ifCond .ne 7, 3) := by decide +kernel
theorem dX8_isClean_14 : decode cX8_isClean 14 = .ok (.iconst 1, 1) := by decide +kernel
theorem dX8_isClean_15 : decode cX8_isClean 15 = .ok (.goto 4, 3) := by decide +kernel
theorem dX8_isClean_18 : decode cX8_isClean 18 = .ok (.iconst 0, 1) := by decide +kernel
theorem dX8_isClean_19 : decode cX8_isClean 19 = .ok (.ireturn, 1) := by decide +kernel
theorem dX8_admits_0 : decode cX8_admits 0 = .ok (.aload_n 0, 1) := by decide +kernel
theorem dX8_admits_1 : decode cX8_admits 1 = .ok (.getfield 22, 3) := by decide +kernel
theorem dX8_admits_4 : decode cX8_admits 4 = .ok (.ifCond .le 26, 3) := by decide +kernel
theorem dX8_admits_7 : decode cX8_admits 7 = .ok (.aload_n 0, 1) := by decide +kernel
theorem dX8_admits_8 : decode cX8_admits 8 = .ok (.getfield 32, 3) := by decide +kernel
theorem dX8_admits_11 : decode cX8_admits 11 = .ok (.ifCond .ne 17, 3) := by decide +kernel
theorem dX8_admits_14 : decode cX8_admits 14 = .ok (.aload_n 0, 1) := by decide +kernel
theorem dX8_admits_15 : decode cX8_admits 15 = .ok (.aload_n 1, 1) := by decide +kernel
theorem dX8_admits_16 : decode cX8_admits 16 = .ok (.aload_n 2, 1) := by decide +kernel
theorem dX8_admits_17 : decode cX8_admits 17 = .ok (.iload_n 3, 1) := by decide +kernel
theorem dX8_admits_18 : decode cX8_admits 18 = .ok (.invokevirtual 39, 3) := by decide +kernel
theorem dX8_admits_21 : decode cX8_admits 21 = .ok (.ifCond .eq 7, 3) := by decide +kernel
theorem dX8_admits_24 : decode cX8_admits 24 = .ok (.iconst 1, 1) := by decide +kernel
theorem dX8_admits_25 : decode cX8_admits 25 = .ok (.goto 4, 3) := by decide +kernel
theorem dX8_admits_28 : decode cX8_admits 28 = .ok (.iconst 0, 1) := by decide +kernel
theorem dX8_admits_29 : decode cX8_admits 29 = .ok (.ireturn, 1) := by decide +kernel
theorem dX8_admits_30 : decode cX8_admits 30 = .ok (.aload_n 0, 1) := by decide +kernel
theorem dX8_admits_31 : decode cX8_admits 31 = .ok (.getfield 36, 3) := by decide +kernel
theorem dX8_admits_34 : decode cX8_admits 34 = .ok (.ifCond .eq 12, 3) := by decide +kernel
theorem dX8_admits_37 : decode cX8_admits 37 = .ok (.aload_n 0, 1) := by decide +kernel
theorem dX8_admits_38 : decode cX8_admits 38 = .ok (.aload_n 1, 1) := by decide +kernel
theorem dX8_admits_39 : decode cX8_admits 39 = .ok (.aload_n 2, 1) := by decide +kernel
theorem dX8_admits_40 : decode cX8_admits 40 = .ok (.invokevirtual 43, 3) := by decide +kernel
theorem dX8_admits_43 : decode cX8_admits 43 = .ok (.ifCond .eq 7, 3) := by decide +kernel
theorem dX8_admits_46 : decode cX8_admits 46 = .ok (.iconst 1, 1) := by decide +kernel
theorem dX8_admits_47 : decode cX8_admits 47 = .ok (.goto 4, 3) := by decide +kernel
theorem dX8_admits_50 : decode cX8_admits 50 = .ok (.iconst 0, 1) := by decide +kernel
theorem dX8_admits_51 : decode cX8_admits 51 = .ok (.ireturn, 1) := by decide +kernel
theorem dX8_receive_0 : decode cX8_receive 0 = .ok (.aload_n 0, 1) := by decide +kernel
theorem dX8_receive_1 : decode cX8_receive 1 = .ok (.getfield 22, 3) := by decide +kernel
theorem dX8_receive_4 : decode cX8_receive 4 = .ok (.ifCond .ne 25, 3) := by decide +kernel
theorem dX8_receive_7 : decode cX8_receive 7 = .ok (.aload_n 0, 1) := by decide +kernel
theorem dX8_receive_8 : decode cX8_receive 8 = .ok (.getfield 12, 3) := by decide +kernel
theorem dX8_receive_11 : decode cX8_receive 11 = .ok (.invokevirtual 47, 3) := by decide +kernel
theorem dX8_receive_14 : decode cX8_receive 14 = .ok (.aload_n 0, 1) := by decide +kernel
theorem dX8_receive_15 : decode cX8_receive 15 = .ok (.iconst 0, 1) := by decide +kernel
theorem dX8_receive_16 : decode cX8_receive 16 = .ok (.putfield 29, 3) := by decide +kernel
theorem dX8_receive_19 : decode cX8_receive 19 = .ok (.aload_n 0, 1) := by decide +kernel
theorem dX8_receive_20 : decode cX8_receive 20 = .ok (.iconst 0, 1) := by decide +kernel
theorem dX8_receive_21 : decode cX8_receive 21 = .ok (.putfield 32, 3) := by decide +kernel
theorem dX8_receive_24 : decode cX8_receive 24 = .ok (.aload_n 0, 1) := by decide +kernel
theorem dX8_receive_25 : decode cX8_receive 25 = .ok (.iconst 0, 1) := by decide +kernel
theorem dX8_receive_26 : decode cX8_receive 26 = .ok (.putfield 36, 3) := by decide +kernel
theorem dX8_receive_29 : decode cX8_receive 29 = .ok (.aload_n 0, 1) := by decide +kernel
theorem dX8_receive_30 : decode cX8_receive 30 = .ok (.getfield 12, 3) := by decide +kernel
theorem dX8_receive_33 : decode cX8_receive 33 = .ok (.aload_n 1, 1) := by decide +kernel
theorem dX8_receive_34 : decode cX8_receive 34 = .ok (.invokevirtual 50, 3) := by decide +kernel
theorem dX8_receive_37 : decode cX8_receive 37 = .ok (.aload_n 0, 1) := by decide +kernel
theorem dX8_receive_38 : decode cX8_receive 38 = .ok (.dup, 1) := by decide +kernel
theorem dX8_receive_39 : decode cX8_receive 39 = .ok (.getfield 22, 3) := by decide +kernel
theorem dX8_receive_42 : decode cX8_receive 42 = .ok (.aload_n 1, 1) := by decide +kernel
theorem dX8_receive_43 : decode cX8_receive 43 = .ok (.getfield 54, 3) := by decide +kernel
theorem dX8_receive_46 : decode cX8_receive 46 = .ok (.iadd, 1) := by decide +kernel
theorem dX8_receive_47 : decode cX8_receive 47 = .ok (.putfield 22, 3) := by decide +kernel
theorem dX8_receive_50 : decode cX8_receive 50 = .ok (.aload_n 0, 1) := by decide +kernel
theorem dX8_receive_51 : decode cX8_receive 51 = .ok (.dup, 1) := by decide +kernel
theorem dX8_receive_52 : decode cX8_receive 52 = .ok (.getfield 29, 3) := by decide +kernel
theorem dX8_receive_55 : decode cX8_receive 55 = .ok (.iconst 1, 1) := by decide +kernel
theorem dX8_receive_56 : decode cX8_receive 56 = .ok (.iload_n 2, 1) := by decide +kernel
theorem dX8_receive_57 : decode cX8_receive 57 = .ok (.ishl, 1) := by decide +kernel
theorem dX8_receive_58 : decode cX8_receive 58 = .ok (.ior, 1) := by decide +kernel
theorem dX8_receive_59 : decode cX8_receive 59 = .ok (.putfield 29, 3) := by decide +kernel
theorem dX8_receive_62 : decode cX8_receive 62 = .ok (.return_, 1) := by decide +kernel
theorem dX8_draw_0 : decode cX8_draw 0 = .ok (.aload_n 0, 1) := by decide +kernel
theorem dX8_draw_1 : decode cX8_draw 1 = .ok (.dup, 1) := by decide +kernel
theorem dX8_draw_2 : decode cX8_draw 2 = .ok (.getfield 22, 3) := by decide +kernel
theorem dX8_draw_5 : decode cX8_draw 5 = .ok (.iload_n 1, 1) := by decide +kernel
theorem dX8_draw_6 : decode cX8_draw 6 = .ok (.isub, 1) := by decide +kernel
theorem dX8_draw_7 : decode cX8_draw 7 = .ok (.putfield 22, 3) := by decide +kernel
theorem dX8_draw_10 : decode cX8_draw 10 = .ok (.aload_n 0, 1) := by decide +kernel
theorem dX8_draw_11 : decode cX8_draw 11 = .ok (.iconst 1, 1) := by decide +kernel
theorem dX8_draw_12 : decode cX8_draw 12 = .ok (.putfield 32, 3) := by decide +kernel
theorem dX8_draw_15 : decode cX8_draw 15 = .ok (.aload_n 0, 1) := by decide +kernel
theorem dX8_draw_16 : decode cX8_draw 16 = .ok (.getfield 22, 3) := by decide +kernel
theorem dX8_draw_19 : decode cX8_draw 19 = .ok (.ifCond .le 4, 3) := by decide +kernel
theorem dX8_draw_22 : decode cX8_draw 22 = .ok (.return_, 1) := by decide +kernel
theorem dX8_draw_23 : decode cX8_draw 23 = .ok (.aload_n 0, 1) := by decide +kernel
theorem dX8_draw_24 : decode cX8_draw 24 = .ok (.iconst 1, 1) := by decide +kernel
theorem dX8_draw_25 : decode cX8_draw 25 = .ok (.putfield 36, 3) := by decide +kernel
theorem dX8_draw_28 : decode cX8_draw 28 = .ok (.iconst 0, 1) := by decide +kernel
theorem dX8_draw_29 : decode cX8_draw 29 = .ok (.istore_n 3, 1) := by decide +kernel
theorem dX8_draw_30 : decode cX8_draw 30 = .ok (.iload_n 3, 1) := by decide +kernel
theorem dX8_draw_31 : decode cX8_draw 31 = .ok (.iconst 3, 1) := by decide +kernel
theorem dX8_draw_32 : decode cX8_draw 32 = .ok (.if_icmp .ge 24, 3) := by decide +kernel
theorem dX8_draw_35 : decode cX8_draw 35 = .ok (.aload_n 0, 1) := by decide +kernel
theorem dX8_draw_36 : decode cX8_draw 36 = .ok (.getfield 18, 3) := by decide +kernel
theorem dX8_draw_39 : decode cX8_draw 39 = .ok (.iload_n 3, 1) := by decide +kernel
theorem dX8_draw_40 : decode cX8_draw 40 = .ok (.aload_n 2, 1) := by decide +kernel
theorem dX8_draw_41 : decode cX8_draw 41 = .ok (.aload_n 0, 1) := by decide +kernel
theorem dX8_draw_42 : decode cX8_draw 42 = .ok (.getfield 12, 3) := by decide +kernel
theorem dX8_draw_45 : decode cX8_draw 45 = .ok (.iload_n 3, 1) := by decide +kernel
theorem dX8_draw_46 : decode cX8_draw 46 = .ok (.invokevirtual 57, 3) := by decide +kernel
theorem dX8_draw_49 : decode cX8_draw 49 = .ok (.iastore, 1) := by decide +kernel
theorem dX8_draw_50 : decode cX8_draw 50 = .ok (.iinc 3 1, 3) := by decide +kernel
theorem dX8_draw_53 : decode cX8_draw 53 = .ok (.goto (-23), 3) := by decide +kernel
theorem dX8_draw_56 : decode cX8_draw 56 = .ok (.return_, 1) := by decide +kernel
theorem dX8_isAlike_0 : decode cX8_isAlike 0 = .ok (.iconst 0, 1) := by decide +kernel
theorem dX8_isAlike_1 : decode cX8_isAlike 1 = .ok (.istore 4, 2) := by decide +kernel
theorem dX8_isAlike_3 : decode cX8_isAlike 3 = .ok (.iload 4, 2) := by decide +kernel
theorem dX8_isAlike_5 : decode cX8_isAlike 5 = .ok (.iconst 3, 1) := by decide +kernel
theorem dX8_isAlike_6 : decode cX8_isAlike 6 = .ok (.if_icmp .ge 36, 3) := by decide +kernel
theorem dX8_isAlike_9 : decode cX8_isAlike 9 = .ok (.aload_n 2, 1) := by decide +kernel
theorem dX8_isAlike_10 : decode cX8_isAlike 10 = .ok (.aload_n 0, 1) := by decide +kernel
theorem dX8_isAlike_11 : decode cX8_isAlike 11 = .ok (.getfield 12, 3) := by decide +kernel
theorem dX8_isAlike_14 : decode cX8_isAlike 14 = .ok (.iload 4, 2) := by decide +kernel
theorem dX8_isAlike_16 : decode cX8_isAlike 16 = .ok (.invokevirtual 57, 3) := by decide +kernel
theorem dX8_isAlike_19 : decode cX8_isAlike 19 = .ok (.aload_n 2, 1) := by decide +kernel
theorem dX8_isAlike_20 : decode cX8_isAlike 20 = .ok (.aload_n 1, 1) := by decide +kernel
theorem dX8_isAlike_21 : decode cX8_isAlike 21 = .ok (.iload 4, 2) := by decide +kernel
theorem dX8_isAlike_23 : decode cX8_isAlike 23 = .ok (.invokevirtual 57, 3) := by decide +kernel
theorem dX8_isAlike_26 : decode cX8_isAlike 26 = .ok (.isub, 1) := by decide +kernel
theorem dX8_isAlike_27 : decode cX8_isAlike 27 = .ok (.invokestatic 63, 3) := by decide +kernel
theorem dX8_isAlike_30 : decode cX8_isAlike 30 = .ok (.iload_n 3, 1) := by decide +kernel
theorem dX8_isAlike_31 : decode cX8_isAlike 31 = .ok (.if_icmp .le 5, 3) := by decide +kernel
theorem dX8_isAlike_34 : decode cX8_isAlike 34 = .ok (.iconst 0, 1) := by decide +kernel
theorem dX8_isAlike_35 : decode cX8_isAlike 35 = .ok (.ireturn, 1) := by decide +kernel
theorem dX8_isAlike_36 : decode cX8_isAlike 36 = .ok (.iinc 4 1, 3) := by decide +kernel
theorem dX8_isAlike_39 : decode cX8_isAlike 39 = .ok (.goto (-36), 3) := by decide +kernel
theorem dX8_isAlike_42 : decode cX8_isAlike 42 = .ok (.iconst 1, 1) := by decide +kernel
theorem dX8_isAlike_43 : decode cX8_isAlike 43 = .ok (.ireturn, 1) := by decide +kernel
theorem dX8_coversStain_0 : decode cX8_coversStain 0 = .ok (.iconst 0, 1) := by decide +kernel
theorem dX8_coversStain_1 : decode cX8_coversStain 1 = .ok (.istore_n 3, 1) := by decide +kernel
theorem dX8_coversStain_2 : decode cX8_coversStain 2 = .ok (.iload_n 3, 1) := by decide +kernel
theorem dX8_coversStain_3 : decode cX8_coversStain 3 = .ok (.iconst 3, 1) := by decide +kernel
theorem dX8_coversStain_4 : decode cX8_coversStain 4 = .ok (.if_icmp .ge 26, 3) := by decide +kernel
theorem dX8_coversStain_7 : decode cX8_coversStain 7 = .ok (.aload_n 2, 1) := by decide +kernel
theorem dX8_coversStain_8 : decode cX8_coversStain 8 = .ok (.aload_n 1, 1) := by decide +kernel
theorem dX8_coversStain_9 : decode cX8_coversStain 9 = .ok (.iload_n 3, 1) := by decide +kernel
theorem dX8_coversStain_10 : decode cX8_coversStain 10 = .ok (.invokevirtual 57, 3) := by decide +kernel
theorem dX8_coversStain_13 : decode cX8_coversStain 13 = .ok (.aload_n 0, 1) := by decide +kernel
theorem dX8_coversStain_14 : decode cX8_coversStain 14 = .ok (.getfield 18, 3) := by decide +kernel
theorem dX8_coversStain_17 : decode cX8_coversStain 17 = .ok (.iload_n 3, 1) := by decide +kernel
theorem dX8_coversStain_18 : decode cX8_coversStain 18 = .ok (.iaload, 1) := by decide +kernel
theorem dX8_coversStain_19 : decode cX8_coversStain 19 = .ok (.if_icmp .ge 5, 3) := by decide +kernel
theorem dX8_coversStain_22 : decode cX8_coversStain 22 = .ok (.iconst 0, 1) := by decide +kernel
theorem dX8_coversStain_23 : decode cX8_coversStain 23 = .ok (.ireturn, 1) := by decide +kernel
theorem dX8_coversStain_24 : decode cX8_coversStain 24 = .ok (.iinc 3 1, 3) := by decide +kernel
theorem dX8_coversStain_27 : decode cX8_coversStain 27 = .ok (.goto (-25), 3) := by decide +kernel
theorem dX8_coversStain_30 : decode cX8_coversStain 30 = .ok (.iconst 1, 1) := by decide +kernel
theorem dX8_coversStain_31 : decode cX8_coversStain 31 = .ok (.ireturn, 1) := by decide +kernel
theorem dJ6_bitCount_0f7a4_0 : decode cJ6_bitCount_0f7a4 0 = .ok (.iload_n 0, 1) := by decide +kernel
theorem dJ6_bitCount_0f7a4_1 : decode cJ6_bitCount_0f7a4 1 = .ok (.iload_n 0, 1) := by decide +kernel
theorem dJ6_bitCount_0f7a4_2 : decode cJ6_bitCount_0f7a4 2 = .ok (.iconst 1, 1) := by decide +kernel
theorem dJ6_bitCount_0f7a4_3 : decode cJ6_bitCount_0f7a4 3 = .ok (.iushr, 1) := by decide +kernel
theorem dJ6_bitCount_0f7a4_4 : decode cJ6_bitCount_0f7a4 4 = .ok (.ldc_w 265, 3) := by decide +kernel
theorem dJ6_bitCount_0f7a4_7 : decode cJ6_bitCount_0f7a4 7 = .ok (.iand, 1) := by decide +kernel
theorem dJ6_bitCount_0f7a4_8 : decode cJ6_bitCount_0f7a4 8 = .ok (.isub, 1) := by decide +kernel
theorem dJ6_bitCount_0f7a4_9 : decode cJ6_bitCount_0f7a4 9 = .ok (.istore_n 0, 1) := by decide +kernel
theorem dJ6_bitCount_0f7a4_10 : decode cJ6_bitCount_0f7a4 10 = .ok (.iload_n 0, 1) := by decide +kernel
theorem dJ6_bitCount_0f7a4_11 : decode cJ6_bitCount_0f7a4 11 = .ok (.ldc_w 266, 3) := by decide +kernel
theorem dJ6_bitCount_0f7a4_14 : decode cJ6_bitCount_0f7a4 14 = .ok (.iand, 1) := by decide +kernel
theorem dJ6_bitCount_0f7a4_15 : decode cJ6_bitCount_0f7a4 15 = .ok (.iload_n 0, 1) := by decide +kernel
theorem dJ6_bitCount_0f7a4_16 : decode cJ6_bitCount_0f7a4 16 = .ok (.iconst 2, 1) := by decide +kernel
theorem dJ6_bitCount_0f7a4_17 : decode cJ6_bitCount_0f7a4 17 = .ok (.iushr, 1) := by decide +kernel
theorem dJ6_bitCount_0f7a4_18 : decode cJ6_bitCount_0f7a4 18 = .ok (.ldc_w 266, 3) := by decide +kernel
theorem dJ6_bitCount_0f7a4_21 : decode cJ6_bitCount_0f7a4 21 = .ok (.iand, 1) := by decide +kernel
theorem dJ6_bitCount_0f7a4_22 : decode cJ6_bitCount_0f7a4 22 = .ok (.iadd, 1) := by decide +kernel
theorem dJ6_bitCount_0f7a4_23 : decode cJ6_bitCount_0f7a4 23 = .ok (.istore_n 0, 1) := by decide +kernel
theorem dJ6_bitCount_0f7a4_24 : decode cJ6_bitCount_0f7a4 24 = .ok (.iload_n 0, 1) := by decide +kernel
theorem dJ6_bitCount_0f7a4_25 : decode cJ6_bitCount_0f7a4 25 = .ok (.iload_n 0, 1) := by decide +kernel
theorem dJ6_bitCount_0f7a4_26 : decode cJ6_bitCount_0f7a4 26 = .ok (.iconst 4, 1) := by decide +kernel
theorem dJ6_bitCount_0f7a4_27 : decode cJ6_bitCount_0f7a4 27 = .ok (.iushr, 1) := by decide +kernel
theorem dJ6_bitCount_0f7a4_28 : decode cJ6_bitCount_0f7a4 28 = .ok (.iadd, 1) := by decide +kernel
theorem dJ6_bitCount_0f7a4_29 : decode cJ6_bitCount_0f7a4 29 = .ok (.ldc_w 267, 3) := by decide +kernel
theorem dJ6_bitCount_0f7a4_32 : decode cJ6_bitCount_0f7a4 32 = .ok (.iand, 1) := by decide +kernel
theorem dJ6_bitCount_0f7a4_33 : decode cJ6_bitCount_0f7a4 33 = .ok (.istore_n 0, 1) := by decide +kernel
theorem dJ6_bitCount_0f7a4_34 : decode cJ6_bitCount_0f7a4 34 = .ok (.iload_n 0, 1) := by decide +kernel
theorem dJ6_bitCount_0f7a4_35 : decode cJ6_bitCount_0f7a4 35 = .ok (.iload_n 0, 1) := by decide +kernel
theorem dJ6_bitCount_0f7a4_36 : decode cJ6_bitCount_0f7a4 36 = .ok (.bipush 8, 2) := by decide +kernel
theorem dJ6_bitCount_0f7a4_38 : decode cJ6_bitCount_0f7a4 38 = .ok (.iushr, 1) := by decide +kernel
theorem dJ6_bitCount_0f7a4_39 : decode cJ6_bitCount_0f7a4 39 = .ok (.iadd, 1) := by decide +kernel
theorem dJ6_bitCount_0f7a4_40 : decode cJ6_bitCount_0f7a4 40 = .ok (.istore_n 0, 1) := by decide +kernel
theorem dJ6_bitCount_0f7a4_41 : decode cJ6_bitCount_0f7a4 41 = .ok (.iload_n 0, 1) := by decide +kernel
theorem dJ6_bitCount_0f7a4_42 : decode cJ6_bitCount_0f7a4 42 = .ok (.iload_n 0, 1) := by decide +kernel
theorem dJ6_bitCount_0f7a4_43 : decode cJ6_bitCount_0f7a4 43 = .ok (.bipush 16, 2) := by decide +kernel
theorem dJ6_bitCount_0f7a4_45 : decode cJ6_bitCount_0f7a4 45 = .ok (.iushr, 1) := by decide +kernel
theorem dJ6_bitCount_0f7a4_46 : decode cJ6_bitCount_0f7a4 46 = .ok (.iadd, 1) := by decide +kernel
theorem dJ6_bitCount_0f7a4_47 : decode cJ6_bitCount_0f7a4 47 = .ok (.istore_n 0, 1) := by decide +kernel
theorem dJ6_bitCount_0f7a4_48 : decode cJ6_bitCount_0f7a4 48 = .ok (.iload_n 0, 1) := by decide +kernel
theorem dJ6_bitCount_0f7a4_49 : decode cJ6_bitCount_0f7a4 49 = .ok (.bipush 63, 2) := by decide +kernel
theorem dJ6_bitCount_0f7a4_51 : decode cJ6_bitCount_0f7a4 51 = .ok (.iand, 1) := by decide +kernel
theorem dJ6_bitCount_0f7a4_52 : decode cJ6_bitCount_0f7a4 52 = .ok (.ireturn, 1) := by decide +kernel
theorem dJ13_bitCount_95d88_0 : decode cJ13_bitCount_95d88 0 = .ok (.lload_n 0, 1) := by decide +kernel
theorem dJ13_bitCount_95d88_1 : decode cJ13_bitCount_95d88 1 = .ok (.lload_n 0, 1) := by decide +kernel
theorem dJ13_bitCount_95d88_2 : decode cJ13_bitCount_95d88 2 = .ok (.iconst 1, 1) := by decide +kernel
theorem dJ13_bitCount_95d88_3 : decode cJ13_bitCount_95d88 3 = .ok (.lushr, 1) := by decide +kernel
theorem dJ13_bitCount_95d88_4 : decode cJ13_bitCount_95d88 4 = .ok (.ldc2_w 314, 3) := by decide +kernel
theorem dJ13_bitCount_95d88_7 : decode cJ13_bitCount_95d88 7 = .ok (.land, 1) := by decide +kernel
theorem dJ13_bitCount_95d88_8 : decode cJ13_bitCount_95d88 8 = .ok (.lsub, 1) := by decide +kernel
theorem dJ13_bitCount_95d88_9 : decode cJ13_bitCount_95d88 9 = .ok (.lstore_n 0, 1) := by decide +kernel
theorem dJ13_bitCount_95d88_10 : decode cJ13_bitCount_95d88 10 = .ok (.lload_n 0, 1) := by decide +kernel
theorem dJ13_bitCount_95d88_11 : decode cJ13_bitCount_95d88 11 = .ok (.ldc2_w 316, 3) := by decide +kernel
theorem dJ13_bitCount_95d88_14 : decode cJ13_bitCount_95d88 14 = .ok (.land, 1) := by decide +kernel
theorem dJ13_bitCount_95d88_15 : decode cJ13_bitCount_95d88 15 = .ok (.lload_n 0, 1) := by decide +kernel
theorem dJ13_bitCount_95d88_16 : decode cJ13_bitCount_95d88 16 = .ok (.iconst 2, 1) := by decide +kernel
theorem dJ13_bitCount_95d88_17 : decode cJ13_bitCount_95d88 17 = .ok (.lushr, 1) := by decide +kernel
theorem dJ13_bitCount_95d88_18 : decode cJ13_bitCount_95d88 18 = .ok (.ldc2_w 316, 3) := by decide +kernel
theorem dJ13_bitCount_95d88_21 : decode cJ13_bitCount_95d88 21 = .ok (.land, 1) := by decide +kernel
theorem dJ13_bitCount_95d88_22 : decode cJ13_bitCount_95d88 22 = .ok (.ladd, 1) := by decide +kernel
theorem dJ13_bitCount_95d88_23 : decode cJ13_bitCount_95d88 23 = .ok (.lstore_n 0, 1) := by decide +kernel
theorem dJ13_bitCount_95d88_24 : decode cJ13_bitCount_95d88 24 = .ok (.lload_n 0, 1) := by decide +kernel
theorem dJ13_bitCount_95d88_25 : decode cJ13_bitCount_95d88 25 = .ok (.lload_n 0, 1) := by decide +kernel
theorem dJ13_bitCount_95d88_26 : decode cJ13_bitCount_95d88 26 = .ok (.iconst 4, 1) := by decide +kernel
theorem dJ13_bitCount_95d88_27 : decode cJ13_bitCount_95d88 27 = .ok (.lushr, 1) := by decide +kernel
theorem dJ13_bitCount_95d88_28 : decode cJ13_bitCount_95d88 28 = .ok (.ladd, 1) := by decide +kernel
theorem dJ13_bitCount_95d88_29 : decode cJ13_bitCount_95d88 29 = .ok (.ldc2_w 318, 3) := by decide +kernel
theorem dJ13_bitCount_95d88_32 : decode cJ13_bitCount_95d88 32 = .ok (.land, 1) := by decide +kernel
theorem dJ13_bitCount_95d88_33 : decode cJ13_bitCount_95d88 33 = .ok (.lstore_n 0, 1) := by decide +kernel
theorem dJ13_bitCount_95d88_34 : decode cJ13_bitCount_95d88 34 = .ok (.lload_n 0, 1) := by decide +kernel
theorem dJ13_bitCount_95d88_35 : decode cJ13_bitCount_95d88 35 = .ok (.lload_n 0, 1) := by decide +kernel
theorem dJ13_bitCount_95d88_36 : decode cJ13_bitCount_95d88 36 = .ok (.bipush 8, 2) := by decide +kernel
theorem dJ13_bitCount_95d88_38 : decode cJ13_bitCount_95d88 38 = .ok (.lushr, 1) := by decide +kernel
theorem dJ13_bitCount_95d88_39 : decode cJ13_bitCount_95d88 39 = .ok (.ladd, 1) := by decide +kernel
theorem dJ13_bitCount_95d88_40 : decode cJ13_bitCount_95d88 40 = .ok (.lstore_n 0, 1) := by decide +kernel
theorem dJ13_bitCount_95d88_41 : decode cJ13_bitCount_95d88 41 = .ok (.lload_n 0, 1) := by decide +kernel
theorem dJ13_bitCount_95d88_42 : decode cJ13_bitCount_95d88 42 = .ok (.lload_n 0, 1) := by decide +kernel
theorem dJ13_bitCount_95d88_43 : decode cJ13_bitCount_95d88 43 = .ok (.bipush 16, 2) := by decide +kernel
theorem dJ13_bitCount_95d88_45 : decode cJ13_bitCount_95d88 45 = .ok (.lushr, 1) := by decide +kernel
theorem dJ13_bitCount_95d88_46 : decode cJ13_bitCount_95d88 46 = .ok (.ladd, 1) := by decide +kernel
theorem dJ13_bitCount_95d88_47 : decode cJ13_bitCount_95d88 47 = .ok (.lstore_n 0, 1) := by decide +kernel
theorem dJ13_bitCount_95d88_48 : decode cJ13_bitCount_95d88 48 = .ok (.lload_n 0, 1) := by decide +kernel
theorem dJ13_bitCount_95d88_49 : decode cJ13_bitCount_95d88 49 = .ok (.lload_n 0, 1) := by decide +kernel
theorem dJ13_bitCount_95d88_50 : decode cJ13_bitCount_95d88 50 = .ok (.bipush 32, 2) := by decide +kernel
theorem dJ13_bitCount_95d88_52 : decode cJ13_bitCount_95d88 52 = .ok (.lushr, 1) := by decide +kernel
theorem dJ13_bitCount_95d88_53 : decode cJ13_bitCount_95d88 53 = .ok (.ladd, 1) := by decide +kernel
theorem dJ13_bitCount_95d88_54 : decode cJ13_bitCount_95d88 54 = .ok (.lstore_n 0, 1) := by decide +kernel
theorem dJ13_bitCount_95d88_55 : decode cJ13_bitCount_95d88 55 = .ok (.lload_n 0, 1) := by decide +kernel
theorem dJ13_bitCount_95d88_56 : decode cJ13_bitCount_95d88 56 = .ok (.l2i, 1) := by decide +kernel
theorem dJ13_bitCount_95d88_57 : decode cJ13_bitCount_95d88 57 = .ok (.bipush 127, 2) := by decide +kernel
theorem dJ13_bitCount_95d88_59 : decode cJ13_bitCount_95d88 59 = .ok (.iand, 1) := by decide +kernel
theorem dJ13_bitCount_95d88_60 : decode cJ13_bitCount_95d88 60 = .ok (.ireturn, 1) := by decide +kernel
theorem dJ9_abs_0f7a4_0 : decode cJ9_abs_0f7a4 0 = .ok (.iload_n 0, 1) := by decide +kernel
theorem dJ9_abs_0f7a4_1 : decode cJ9_abs_0f7a4 1 = .ok (.ifCond .ge 8, 3) := by decide +kernel
theorem dJ9_abs_0f7a4_4 : decode cJ9_abs_0f7a4 4 = .ok (.iload_n 0, 1) := by decide +kernel
theorem dJ9_abs_0f7a4_5 : decode cJ9_abs_0f7a4 5 = .ok (.ineg, 1) := by decide +kernel
theorem dJ9_abs_0f7a4_6 : decode cJ9_abs_0f7a4 6 = .ok (.goto 4, 3) := by decide +kernel
theorem dJ9_abs_0f7a4_9 : decode cJ9_abs_0f7a4 9 = .ok (.iload_n 0, 1) := by decide +kernel
theorem dJ9_abs_0f7a4_10 : decode cJ9_abs_0f7a4 10 = .ok (.ireturn, 1) := by decide +kernel
theorem dJ9_max_7cf53_0 : decode cJ9_max_7cf53 0 = .ok (.iload_n 0, 1) := by decide +kernel
theorem dJ9_max_7cf53_1 : decode cJ9_max_7cf53 1 = .ok (.iload_n 1, 1) := by decide +kernel
theorem dJ9_max_7cf53_2 : decode cJ9_max_7cf53 2 = .ok (.if_icmp .lt 7, 3) := by decide +kernel
theorem dJ9_max_7cf53_5 : decode cJ9_max_7cf53 5 = .ok (.iload_n 0, 1) := by decide +kernel
theorem dJ9_max_7cf53_6 : decode cJ9_max_7cf53 6 = .ok (.goto 4, 3) := by decide +kernel
theorem dJ9_max_7cf53_9 : decode cJ9_max_7cf53 9 = .ok (.iload_n 1, 1) := by decide +kernel
theorem dJ9_max_7cf53_10 : decode cJ9_max_7cf53 10 = .ok (.ireturn, 1) := by decide +kernel
theorem dJ9_min_7cf53_0 : decode cJ9_min_7cf53 0 = .ok (.iload_n 0, 1) := by decide +kernel
theorem dJ9_min_7cf53_1 : decode cJ9_min_7cf53 1 = .ok (.iload_n 1, 1) := by decide +kernel
theorem dJ9_min_7cf53_2 : decode cJ9_min_7cf53 2 = .ok (.if_icmp .gt 7, 3) := by decide +kernel
theorem dJ9_min_7cf53_5 : decode cJ9_min_7cf53 5 = .ok (.iload_n 0, 1) := by decide +kernel
theorem dJ9_min_7cf53_6 : decode cJ9_min_7cf53 6 = .ok (.goto 4, 3) := by decide +kernel
theorem dJ9_min_7cf53_9 : decode cJ9_min_7cf53 9 = .ok (.iload_n 1, 1) := by decide +kernel
theorem dJ9_min_7cf53_10 : decode cJ9_min_7cf53 10 = .ok (.ireturn, 1) := by decide +kernel
theorem dJ9_min_f86c9_0 : decode cJ9_min_f86c9 0 = .ok (.lload_n 0, 1) := by decide +kernel
theorem dJ9_min_f86c9_1 : decode cJ9_min_f86c9 1 = .ok (.lload_n 2, 1) := by decide +kernel
theorem dJ9_min_f86c9_2 : decode cJ9_min_f86c9 2 = .ok (.lcmp, 1) := by decide +kernel
theorem dJ9_min_f86c9_3 : decode cJ9_min_f86c9 3 = .ok (.ifCond .gt 7, 3) := by decide +kernel
theorem dJ9_min_f86c9_6 : decode cJ9_min_f86c9 6 = .ok (.lload_n 0, 1) := by decide +kernel
theorem dJ9_min_f86c9_7 : decode cJ9_min_f86c9 7 = .ok (.goto 4, 3) := by decide +kernel
theorem dJ9_min_f86c9_10 : decode cJ9_min_f86c9 10 = .ok (.lload_n 2, 1) := by decide +kernel
theorem dJ9_min_f86c9_11 : decode cJ9_min_f86c9 11 = .ok (.lreturn, 1) := by decide +kernel
theorem dJ7_fill_53178_0 : decode cJ7_fill_53178 0 = .ok (.iconst 0, 1) := by decide +kernel
theorem dJ7_fill_53178_1 : decode cJ7_fill_53178 1 = .ok (.istore_n 2, 1) := by decide +kernel
theorem dJ7_fill_53178_2 : decode cJ7_fill_53178 2 = .ok (.aload_n 0, 1) := by decide +kernel
theorem dJ7_fill_53178_3 : decode cJ7_fill_53178 3 = .ok (.arraylength, 1) := by decide +kernel
theorem dJ7_fill_53178_4 : decode cJ7_fill_53178 4 = .ok (.istore_n 3, 1) := by decide +kernel
theorem dJ7_fill_53178_5 : decode cJ7_fill_53178 5 = .ok (.iload_n 2, 1) := by decide +kernel
theorem dJ7_fill_53178_6 : decode cJ7_fill_53178 6 = .ok (.iload_n 3, 1) := by decide +kernel
theorem dJ7_fill_53178_7 : decode cJ7_fill_53178 7 = .ok (.if_icmp .ge 13, 3) := by decide +kernel
theorem dJ7_fill_53178_10 : decode cJ7_fill_53178 10 = .ok (.aload_n 0, 1) := by decide +kernel
theorem dJ7_fill_53178_11 : decode cJ7_fill_53178 11 = .ok (.iload_n 2, 1) := by decide +kernel
theorem dJ7_fill_53178_12 : decode cJ7_fill_53178 12 = .ok (.iload_n 1, 1) := by decide +kernel
theorem dJ7_fill_53178_13 : decode cJ7_fill_53178 13 = .ok (.iastore, 1) := by decide +kernel
theorem dJ7_fill_53178_14 : decode cJ7_fill_53178 14 = .ok (.iinc 2 1, 3) := by decide +kernel
theorem dJ7_fill_53178_17 : decode cJ7_fill_53178 17 = .ok (.goto (-12), 3) := by decide +kernel
theorem dJ7_fill_53178_20 : decode cJ7_fill_53178 20 = .ok (.return_, 1) := by decide +kernel
end
section
theorem dX9_init_0 : decode cX9_init 0 = .ok (.aload_n 0, 1) := by decide +kernel
theorem dX9_init_1 : decode cX9_init 1 = .ok (.invokespecial 3, 3) := by decide +kernel
theorem dX9_init_4 : decode cX9_init 4 = .ok (.aload_n 0, 1) := by decide +kernel
theorem dX9_init_5 : decode cX9_init 5 = .ok (.new 9, 3) := by decide +kernel
theorem dX9_init_8 : decode cX9_init 8 = .ok (.dup, 1) := by decide +kernel
theorem dX9_init_9 : decode cX9_init 9 = .ok (.invokespecial 11, 3) := by decide +kernel
theorem dX9_init_12 : decode cX9_init 12 = .ok (.putfield 12, 3) := by decide +kernel
theorem dX9_init_15 : decode cX9_init 15 = .ok (.aload_n 0, 1) := by decide +kernel
theorem dX9_init_16 : decode cX9_init 16 = .ok (.new 16, 3) := by decide +kernel
theorem dX9_init_19 : decode cX9_init 19 = .ok (.dup, 1) := by decide +kernel
theorem dX9_init_20 : decode cX9_init 20 = .ok (.invokespecial 18, 3) := by decide +kernel
theorem dX9_init_23 : decode cX9_init 23 = .ok (.putfield 19, 3) := by decide +kernel
theorem dX9_init_26 : decode cX9_init 26 = .ok (.aload_n 0, 1) := by decide +kernel
theorem dX9_init_27 : decode cX9_init 27 = .ok (.new 23, 3) := by decide +kernel
theorem dX9_init_30 : decode cX9_init 30 = .ok (.dup, 1) := by decide +kernel
theorem dX9_init_31 : decode cX9_init 31 = .ok (.invokespecial 25, 3) := by decide +kernel
theorem dX9_init_34 : decode cX9_init 34 = .ok (.putfield 26, 3) := by decide +kernel
theorem dX9_init_37 : decode cX9_init 37 = .ok (.aload_n 0, 1) := by decide +kernel
theorem dX9_init_38 : decode cX9_init 38 = .ok (.bipush 24, 2) := by decide +kernel
theorem dX9_init_40 : decode cX9_init 40 = .ok (.anewarray 30, 3) := by decide +kernel
theorem dX9_init_43 : decode cX9_init 43 = .ok (.putfield 32, 3) := by decide +kernel
theorem dX9_init_46 : decode cX9_init 46 = .ok (.aload_n 0, 1) := by decide +kernel
theorem dX9_init_47 : decode cX9_init 47 = .ok (.iconst 0, 1) := by decide +kernel
theorem dX9_init_48 : decode cX9_init 48 = .ok (.putfield 36, 3) := by decide +kernel
theorem dX9_init_51 : decode cX9_init 51 = .ok (.aload_n 0, 1) := by decide +kernel
theorem dX9_init_52 : decode cX9_init 52 = .ok (.new 40, 3) := by decide +kernel
theorem dX9_init_55 : decode cX9_init 55 = .ok (.dup, 1) := by decide +kernel
theorem dX9_init_56 : decode cX9_init 56 = .ok (.invokespecial 42, 3) := by decide +kernel
theorem dX9_init_59 : decode cX9_init 59 = .ok (.putfield 43, 3) := by decide +kernel
theorem dX9_init_62 : decode cX9_init 62 = .ok (.aload_n 0, 1) := by decide +kernel
theorem dX9_init_63 : decode cX9_init 63 = .ok (.iconst 5, 1) := by decide +kernel
theorem dX9_init_64 : decode cX9_init 64 = .ok (.anewarray 47, 3) := by decide +kernel
theorem dX9_init_67 : decode cX9_init 67 = .ok (.putfield 49, 3) := by decide +kernel
theorem dX9_init_70 : decode cX9_init 70 = .ok (.aload_n 0, 1) := by decide +kernel
theorem dX9_init_71 : decode cX9_init 71 = .ok (.new 53, 3) := by decide +kernel
theorem dX9_init_74 : decode cX9_init 74 = .ok (.dup, 1) := by decide +kernel
theorem dX9_init_75 : decode cX9_init 75 = .ok (.invokespecial 55, 3) := by decide +kernel
theorem dX9_init_78 : decode cX9_init 78 = .ok (.putfield 56, 3) := by decide +kernel
theorem dX9_init_81 : decode cX9_init 81 = .ok (.aload_n 0, 1) := by decide +kernel
theorem dX9_init_82 : decode cX9_init 82 = .ok (.new 60, 3) := by decide +kernel
theorem dX9_init_85 : decode cX9_init 85 = .ok (.dup, 1) := by decide +kernel
theorem dX9_init_86 : decode cX9_init 86 = .ok (.invokespecial 62, 3) := by decide +kernel
theorem dX9_init_89 : decode cX9_init 89 = .ok (.putfield 63, 3) := by decide +kernel
theorem dX9_init_92 : decode cX9_init 92 = .ok (.aload_n 0, 1) := by decide +kernel
theorem dX9_init_93 : decode cX9_init 93 = .ok (.bipush 8, 2) := by decide +kernel
theorem dX9_init_95 : decode cX9_init 95 = .ok (.newarray .int, 2) := by decide +kernel
theorem dX9_init_97 : decode cX9_init 97 = .ok (.putfield 67, 3) := by decide +kernel
theorem dX9_init_100 : decode cX9_init 100 = .ok (.aload_n 0, 1) := by decide +kernel
theorem dX9_init_101 : decode cX9_init 101 = .ok (.bipush 10, 2) := by decide +kernel
theorem dX9_init_103 : decode cX9_init 103 = .ok (.putfield 71, 3) := by decide +kernel
theorem dX9_init_106 : decode cX9_init 106 = .ok (.aload_n 0, 1) := by decide +kernel
theorem dX9_init_107 : decode cX9_init 107 = .ok (.iconst 0, 1) := by decide +kernel
theorem dX9_init_108 : decode cX9_init 108 = .ok (.putfield 74, 3) := by decide +kernel
theorem dX9_init_111 : decode cX9_init 111 = .ok (.iconst 0, 1) := by decide +kernel
theorem dX9_init_112 : decode cX9_init 112 = .ok (.istore_n 1, 1) := by decide +kernel
theorem dX9_init_113 : decode cX9_init 113 = .ok (.iload_n 1, 1) := by decide +kernel
theorem dX9_init_114 : decode cX9_init 114 = .ok (.bipush 24, 2) := by decide +kernel
theorem dX9_init_116 : decode cX9_init 116 = .ok (.if_icmp .ge 22, 3) := by decide +kernel
theorem dX9_init_119 : decode cX9_init 119 = .ok (.aload_n 0, 1) := by decide +kernel
theorem dX9_init_120 : decode cX9_init 120 = .ok (.getfield 32, 3) := by decide +kernel
theorem dX9_init_123 : decode cX9_init 123 = .ok (.iload_n 1, 1) := by decide +kernel
theorem dX9_init_124 : decode cX9_init 124 = .ok (.new 30, 3) := by decide +kernel
theorem dX9_init_127 : decode cX9_init 127 = .ok (.dup, 1) := by decide +kernel
theorem dX9_init_128 : decode cX9_init 128 = .ok (.invokespecial 77, 3) := by decide +kernel
theorem dX9_init_131 : decode cX9_init 131 = .ok (.aastore, 1) := by decide +kernel
theorem dX9_init_132 : decode cX9_init 132 = .ok (.iinc 1 1, 3) := by decide +kernel
theorem dX9_init_135 : decode cX9_init 135 = .ok (.goto (-22), 3) := by decide +kernel
theorem dX9_init_138 : decode cX9_init 138 = .ok (.iconst 0, 1) := by decide +kernel
theorem dX9_init_139 : decode cX9_init 139 = .ok (.istore_n 1, 1) := by decide +kernel
theorem dX9_init_140 : decode cX9_init 140 = .ok (.iload_n 1, 1) := by decide +kernel
theorem dX9_init_141 : decode cX9_init 141 = .ok (.iconst 5, 1) := by decide +kernel
theorem dX9_init_142 : decode cX9_init 142 = .ok (.if_icmp .ge 22, 3) := by decide +kernel
theorem dX9_init_145 : decode cX9_init 145 = .ok (.aload_n 0, 1) := by decide +kernel
theorem dX9_init_146 : decode cX9_init 146 = .ok (.getfield 49, 3) := by decide +kernel
theorem dX9_init_149 : decode cX9_init 149 = .ok (.iload_n 1, 1) := by decide +kernel
theorem dX9_init_150 : decode cX9_init 150 = .ok (.new 47, 3) := by decide +kernel
theorem dX9_init_153 : decode cX9_init 153 = .ok (.dup, 1) := by decide +kernel
theorem dX9_init_154 : decode cX9_init 154 = .ok (.invokespecial 78, 3) := by decide +kernel
theorem dX9_init_157 : decode cX9_init 157 = .ok (.aastore, 1) := by decide +kernel
theorem dX9_init_158 : decode cX9_init 158 = .ok (.iinc 1 1, 3) := by decide +kernel
theorem dX9_init_161 : decode cX9_init 161 = .ok (.goto (-21), 3) := by decide +kernel
theorem dX9_init_164 : decode cX9_init 164 = .ok (.return_, 1) := by decide +kernel
theorem dX9_base_0 : decode cX9_base 0 = .ok (.iload_n 1, 1) := by decide +kernel
theorem dX9_base_1 : decode cX9_base 1 = .ok (.invokestatic 79, 3) := by decide +kernel
theorem dX9_base_4 : decode cX9_base 4 = .ok (.ifCond .eq 10, 3) := by decide +kernel
theorem dX9_base_7 : decode cX9_base 7 = .ok (.iload_n 2, 1) := by decide +kernel
theorem dX9_base_8 : decode cX9_base 8 = .ok (.invokestatic 79, 3) := by decide +kernel
theorem dX9_base_11 : decode cX9_base 11 = .ok (.ifCond .ne 6, 3) := by decide +kernel
theorem dX9_base_14 : decode cX9_base 14 = .ok (.bipush (-3), 2) := by decide +kernel
theorem dX9_base_16 : decode cX9_base 16 = .ok (.ireturn, 1) := by decide +kernel
theorem dX9_base_17 : decode cX9_base 17 = .ok (.aload_n 0, 1) := by decide +kernel
theorem dX9_base_18 : decode cX9_base 18 = .ok (.getfield 12, 3) := by decide +kernel
theorem dX9_base_21 : decode cX9_base 21 = .ok (.iload_n 1, 1) := by decide +kernel
theorem dX9_base_22 : decode cX9_base 22 = .ok (.iload_n 2, 1) := by decide +kernel
theorem dX9_base_23 : decode cX9_base 23 = .ok (.invokevirtual 83, 3) := by decide +kernel
theorem dX9_base_26 : decode cX9_base 26 = .ok (.ireturn, 1) := by decide +kernel
theorem dX9_band_0 : decode cX9_band 0 = .ok (.aload_n 0, 1) := by decide +kernel
theorem dX9_band_1 : decode cX9_band 1 = .ok (.getfield 12, 3) := by decide +kernel
theorem dX9_band_4 : decode cX9_band 4 = .ok (.iload_n 1, 1) := by decide +kernel
theorem dX9_band_5 : decode cX9_band 5 = .ok (.invokevirtual 87, 3) := by decide +kernel
theorem dX9_band_8 : decode cX9_band 8 = .ok (.ifCond .eq 10, 3) := by decide +kernel
theorem dX9_band_11 : decode cX9_band 11 = .ok (.iload_n 2, 1) := by decide +kernel
theorem dX9_band_12 : decode cX9_band 12 = .ok (.invokestatic 90, 3) := by decide +kernel
theorem dX9_band_15 : decode cX9_band 15 = .ok (.ifCond .ne 6, 3) := by decide +kernel
theorem dX9_band_18 : decode cX9_band 18 = .ok (.bipush (-2), 2) := by decide +kernel
theorem dX9_band_20 : decode cX9_band 20 = .ok (.ireturn, 1) := by decide +kernel
theorem dX9_band_21 : decode cX9_band 21 = .ok (.iload_n 3, 1) := by decide +kernel
theorem dX9_band_22 : decode cX9_band 22 = .ok (.invokestatic 79, 3) := by decide +kernel
theorem dX9_band_25 : decode cX9_band 25 = .ok (.ifCond .eq 11, 3) := by decide +kernel
theorem dX9_band_28 : decode cX9_band 28 = .ok (.iload 4, 2) := by decide +kernel
theorem dX9_band_30 : decode cX9_band 30 = .ok (.invokestatic 79, 3) := by decide +kernel
theorem dX9_band_33 : decode cX9_band 33 = .ok (.ifCond .ne 6, 3) := by decide +kernel
theorem dX9_band_36 : decode cX9_band 36 = .ok (.bipush (-3), 2) := by decide +kernel
theorem dX9_band_38 : decode cX9_band 38 = .ok (.ireturn, 1) := by decide +kernel
theorem dX9_band_39 : decode cX9_band 39 = .ok (.aload_n 0, 1) := by decide +kernel
theorem dX9_band_40 : decode cX9_band 40 = .ok (.getfield 12, 3) := by decide +kernel
theorem dX9_band_43 : decode cX9_band 43 = .ok (.iload_n 1, 1) := by decide +kernel
theorem dX9_band_44 : decode cX9_band 44 = .ok (.iload_n 2, 1) := by decide +kernel
theorem dX9_band_45 : decode cX9_band 45 = .ok (.iload_n 3, 1) := by decide +kernel
theorem dX9_band_46 : decode cX9_band 46 = .ok (.iload 4, 2) := by decide +kernel
theorem dX9_band_48 : decode cX9_band 48 = .ok (.invokevirtual 93, 3) := by decide +kernel
theorem dX9_band_51 : decode cX9_band 51 = .ok (.iconst 1, 1) := by decide +kernel
theorem dX9_band_52 : decode cX9_band 52 = .ok (.ireturn, 1) := by decide +kernel
theorem dX9_lot_0 : decode cX9_lot 0 = .ok (.aload_n 0, 1) := by decide +kernel
theorem dX9_lot_1 : decode cX9_lot 1 = .ok (.getfield 12, 3) := by decide +kernel
theorem dX9_lot_4 : decode cX9_lot 4 = .ok (.iload_n 1, 1) := by decide +kernel
theorem dX9_lot_5 : decode cX9_lot 5 = .ok (.invokevirtual 87, 3) := by decide +kernel
theorem dX9_lot_8 : decode cX9_lot 8 = .ok (.ifCond .ne 6, 3) := by decide +kernel
theorem dX9_lot_11 : decode cX9_lot 11 = .ok (.bipush (-2), 2) := by decide +kernel
theorem dX9_lot_13 : decode cX9_lot 13 = .ok (.ireturn, 1) := by decide +kernel
theorem dX9_lot_14 : decode cX9_lot 14 = .ok (.iload_n 2, 1) := by decide +kernel
theorem dX9_lot_15 : decode cX9_lot 15 = .ok (.iconst 1, 1) := by decide +kernel
theorem dX9_lot_16 : decode cX9_lot 16 = .ok (.sipush 20000, 3) := by decide +kernel
theorem dX9_lot_19 : decode cX9_lot 19 = .ok (.invokestatic 97, 3) := by decide +kernel
theorem dX9_lot_22 : decode cX9_lot 22 = .ok (.ifCond .eq 14, 3) := by decide +kernel
theorem dX9_lot_25 : decode cX9_lot 25 = .ok (.iload_n 3, 1) := by decide +kernel
theorem dX9_lot_26 : decode cX9_lot 26 = .ok (.iconst 0, 1) := by decide +kernel
theorem dX9_lot_27 : decode cX9_lot 27 = .ok (.sipush 10000, 3) := by decide +kernel
theorem dX9_lot_30 : decode cX9_lot 30 = .ok (.invokestatic 97, 3) := by decide +kernel
theorem dX9_lot_33 : decode cX9_lot 33 = .ok (.ifCond .ne 6, 3) := by decide +kernel
theorem dX9_lot_36 : decode cX9_lot 36 = .ok (.bipush (-3), 2) := by decide +kernel
theorem dX9_lot_38 : decode cX9_lot 38 = .ok (.ireturn, 1) := by decide +kernel
theorem dX9_lot_39 : decode cX9_lot 39 = .ok (.aload_n 0, 1) := by decide +kernel
theorem dX9_lot_40 : decode cX9_lot 40 = .ok (.getfield 19, 3) := by decide +kernel
theorem dX9_lot_43 : decode cX9_lot 43 = .ok (.iload_n 1, 1) := by decide +kernel
theorem dX9_lot_44 : decode cX9_lot 44 = .ok (.iload_n 2, 1) := by decide +kernel
theorem dX9_lot_45 : decode cX9_lot 45 = .ok (.iload_n 3, 1) := by decide +kernel
theorem dX9_lot_46 : decode cX9_lot 46 = .ok (.invokevirtual 101, 3) := by decide +kernel
theorem dX9_lot_49 : decode cX9_lot 49 = .ok (.ireturn, 1) := by decide +kernel
theorem dX9_left_0 : decode cX9_left 0 = .ok (.aload_n 0, 1) := by decide +kernel
theorem dX9_left_1 : decode cX9_left 1 = .ok (.getfield 19, 3) := by decide +kernel
theorem dX9_left_4 : decode cX9_left 4 = .ok (.iload_n 1, 1) := by decide +kernel
theorem dX9_left_5 : decode cX9_left 5 = .ok (.invokevirtual 104, 3) := by decide +kernel
theorem dX9_left_8 : decode cX9_left 8 = .ok (.ifCond .eq 15, 3) := by decide +kernel
theorem dX9_left_11 : decode cX9_left 11 = .ok (.aload_n 0, 1) := by decide +kernel
theorem dX9_left_12 : decode cX9_left 12 = .ok (.getfield 19, 3) := by decide +kernel
theorem dX9_left_15 : decode cX9_left 15 = .ok (.getfield 105, 3) := by decide +kernel
theorem dX9_left_18 : decode cX9_left 18 = .ok (.iload_n 1, 1) := by decide +kernel
theorem dX9_left_19 : decode cX9_left 19 = .ok (.iaload, 1) := by decide +kernel
theorem dX9_left_20 : decode cX9_left 20 = .ok (.goto 5, 3) := by decide +kernel
theorem dX9_left_23 : decode cX9_left 23 = .ok (.bipush (-2), 2) := by decide +kernel
theorem dX9_left_25 : decode cX9_left 25 = .ok (.ireturn, 1) := by decide +kernel
theorem dX9_may_0 : decode cX9_may 0 = .ok (.aload_n 0, 1) := by decide +kernel
theorem dX9_may_1 : decode cX9_may 1 = .ok (.getfield 12, 3) := by decide +kernel
theorem dX9_may_4 : decode cX9_may 4 = .ok (.iload_n 1, 1) := by decide +kernel
theorem dX9_may_5 : decode cX9_may 5 = .ok (.invokevirtual 87, 3) := by decide +kernel
theorem dX9_may_8 : decode cX9_may 8 = .ok (.ifCond .eq 14, 3) := by decide +kernel
theorem dX9_may_11 : decode cX9_may 11 = .ok (.aload_n 0, 1) := by decide +kernel
theorem dX9_may_12 : decode cX9_may 12 = .ok (.getfield 19, 3) := by decide +kernel
theorem dX9_may_15 : decode cX9_may 15 = .ok (.iload_n 1, 1) := by decide +kernel
theorem dX9_may_16 : decode cX9_may 16 = .ok (.invokevirtual 108, 3) := by decide +kernel
theorem dX9_may_19 : decode cX9_may 19 = .ok (.goto 5, 3) := by decide +kernel
theorem dX9_may_22 : decode cX9_may 22 = .ok (.bipush (-2), 2) := by decide +kernel
theorem dX9_may_24 : decode cX9_may 24 = .ok (.ireturn, 1) := by decide +kernel
theorem dX9_day_0 : decode cX9_day 0 = .ok (.iload_n 1, 1) := by decide +kernel
theorem dX9_day_1 : decode cX9_day 1 = .ok (.iconst 0, 1) := by decide +kernel
theorem dX9_day_2 : decode cX9_day 2 = .ok (.sipush 1000, 3) := by decide +kernel
theorem dX9_day_5 : decode cX9_day 5 = .ok (.invokestatic 97, 3) := by decide +kernel
theorem dX9_day_8 : decode cX9_day 8 = .ok (.ifCond .eq 18, 3) := by decide +kernel
theorem dX9_day_11 : decode cX9_day 11 = .ok (.aload_n 0, 1) := by decide +kernel
theorem dX9_day_12 : decode cX9_day 12 = .ok (.getfield 19, 3) := by decide +kernel
theorem dX9_day_15 : decode cX9_day 15 = .ok (.getfield 112, 3) := by decide +kernel
theorem dX9_day_18 : decode cX9_day 18 = .ok (.iload_n 1, 1) := by decide +kernel
theorem dX9_day_19 : decode cX9_day 19 = .ok (.iadd, 1) := by decide +kernel
theorem dX9_day_20 : decode cX9_day 20 = .ok (.sipush 10000, 3) := by decide +kernel
theorem dX9_day_23 : decode cX9_day 23 = .ok (.if_icmp .le 6, 3) := by decide +kernel
theorem dX9_day_26 : decode cX9_day 26 = .ok (.bipush (-3), 2) := by decide +kernel
theorem dX9_day_28 : decode cX9_day 28 = .ok (.ireturn, 1) := by decide +kernel
theorem dX9_day_29 : decode cX9_day 29 = .ok (.aload_n 0, 1) := by decide +kernel
theorem dX9_day_30 : decode cX9_day 30 = .ok (.getfield 19, 3) := by decide +kernel
theorem dX9_day_33 : decode cX9_day 33 = .ok (.dup, 1) := by decide +kernel
theorem dX9_day_34 : decode cX9_day 34 = .ok (.getfield 112, 3) := by decide +kernel
theorem dX9_day_37 : decode cX9_day 37 = .ok (.iload_n 1, 1) := by decide +kernel
theorem dX9_day_38 : decode cX9_day 38 = .ok (.iadd, 1) := by decide +kernel
theorem dX9_day_39 : decode cX9_day 39 = .ok (.putfield 112, 3) := by decide +kernel
theorem dX9_day_42 : decode cX9_day 42 = .ok (.aload_n 0, 1) := by decide +kernel
theorem dX9_day_43 : decode cX9_day 43 = .ok (.getfield 19, 3) := by decide +kernel
theorem dX9_day_46 : decode cX9_day 46 = .ok (.getfield 112, 3) := by decide +kernel
theorem dX9_day_49 : decode cX9_day 49 = .ok (.ireturn, 1) := by decide +kernel
theorem dX9_recipe_0 : decode cX9_recipe 0 = .ok (.aload_n 0, 1) := by decide +kernel
theorem dX9_recipe_1 : decode cX9_recipe 1 = .ok (.getfield 26, 3) := by decide +kernel
theorem dX9_recipe_4 : decode cX9_recipe 4 = .ok (.invokevirtual 115, 3) := by decide +kernel
theorem dX9_recipe_7 : decode cX9_recipe 7 = .ok (.ireturn, 1) := by decide +kernel
theorem dX9_part_0 : decode cX9_part 0 = .ok (.aload_n 0, 1) := by decide +kernel
theorem dX9_part_1 : decode cX9_part 1 = .ok (.getfield 26, 3) := by decide +kernel
theorem dX9_part_4 : decode cX9_part 4 = .ok (.iload_n 1, 1) := by decide +kernel
theorem dX9_part_5 : decode cX9_part 5 = .ok (.invokevirtual 118, 3) := by decide +kernel
theorem dX9_part_8 : decode cX9_part 8 = .ok (.ifCond .eq 32, 3) := by decide +kernel
theorem dX9_part_11 : decode cX9_part 11 = .ok (.iload_n 2, 1) := by decide +kernel
theorem dX9_part_12 : decode cX9_part 12 = .ok (.ifCond .eq 17, 3) := by decide +kernel
theorem dX9_part_15 : decode cX9_part 15 = .ok (.aload_n 0, 1) := by decide +kernel
theorem dX9_part_16 : decode cX9_part 16 = .ok (.getfield 26, 3) := by decide +kernel
theorem dX9_part_19 : decode cX9_part 19 = .ok (.iload_n 3, 1) := by decide +kernel
theorem dX9_part_20 : decode cX9_part 20 = .ok (.invokevirtual 118, 3) := by decide +kernel
theorem dX9_part_23 : decode cX9_part 23 = .ok (.ifCond .eq 17, 3) := by decide +kernel
theorem dX9_part_26 : decode cX9_part 26 = .ok (.goto 17, 3) := by decide +kernel
theorem dX9_part_29 : decode cX9_part 29 = .ok (.aload_n 0, 1) := by decide +kernel
theorem dX9_part_30 : decode cX9_part 30 = .ok (.getfield 12, 3) := by decide +kernel
theorem dX9_part_33 : decode cX9_part 33 = .ok (.iload_n 3, 1) := by decide +kernel
theorem dX9_part_34 : decode cX9_part 34 = .ok (.invokevirtual 87, 3) := by decide +kernel
theorem dX9_part_37 : decode cX9_part 37 = .ok (.ifCond .ne 6, 3) := by decide +kernel
theorem dX9_part_40 : decode cX9_part 40 = .ok (.bipush (-2), 2) := by decide +kernel
theorem dX9_part_42 : decode cX9_part 42 = .ok (.ireturn, 1) := by decide +kernel
theorem dX9_part_43 : decode cX9_part 43 = .ok (.iload 4, 2) := by decide +kernel
theorem dX9_part_45 : decode cX9_part 45 = .ok (.iconst 1, 1) := by decide +kernel
theorem dX9_part_46 : decode cX9_part 46 = .ok (.bipush 100, 2) := by decide +kernel
theorem dX9_part_48 : decode cX9_part 48 = .ok (.invokestatic 97, 3) := by decide +kernel
theorem dX9_part_51 : decode cX9_part 51 = .ok (.ifCond .eq 12, 3) := by decide +kernel
theorem dX9_part_54 : decode cX9_part 54 = .ok (.iload_n 2, 1) := by decide +kernel
theorem dX9_part_55 : decode cX9_part 55 = .ok (.ifCond .eq 11, 3) := by decide +kernel
theorem dX9_part_58 : decode cX9_part 58 = .ok (.iload_n 3, 1) := by decide +kernel
theorem dX9_part_59 : decode cX9_part 59 = .ok (.iload_n 1, 1) := by decide +kernel
theorem dX9_part_60 : decode cX9_part 60 = .ok (.if_icmp .lt 6, 3) := by decide +kernel
theorem dX9_part_63 : decode cX9_part 63 = .ok (.bipush (-3), 2) := by decide +kernel
theorem dX9_part_65 : decode cX9_part 65 = .ok (.ireturn, 1) := by decide +kernel
theorem dX9_part_66 : decode cX9_part 66 = .ok (.aload_n 0, 1) := by decide +kernel
theorem dX9_part_67 : decode cX9_part 67 = .ok (.getfield 26, 3) := by decide +kernel
theorem dX9_part_70 : decode cX9_part 70 = .ok (.iload_n 1, 1) := by decide +kernel
theorem dX9_part_71 : decode cX9_part 71 = .ok (.iload_n 2, 1) := by decide +kernel
theorem dX9_part_72 : decode cX9_part 72 = .ok (.iload_n 3, 1) := by decide +kernel
theorem dX9_part_73 : decode cX9_part 73 = .ok (.iload 4, 2) := by decide +kernel
theorem dX9_part_75 : decode cX9_part 75 = .ok (.invokevirtual 119, 3) := by decide +kernel
theorem dX9_part_78 : decode cX9_part 78 = .ok (.ireturn, 1) := by decide +kernel
theorem dX9_resolved_0 : decode cX9_resolved 0 = .ok (.aload_n 0, 1) := by decide +kernel
theorem dX9_resolved_1 : decode cX9_resolved 1 = .ok (.getfield 26, 3) := by decide +kernel
theorem dX9_resolved_4 : decode cX9_resolved 4 = .ok (.iload_n 1, 1) := by decide +kernel
theorem dX9_resolved_5 : decode cX9_resolved 5 = .ok (.invokevirtual 118, 3) := by decide +kernel
theorem dX9_resolved_8 : decode cX9_resolved 8 = .ok (.ifCond .eq 14, 3) := by decide +kernel
theorem dX9_resolved_11 : decode cX9_resolved 11 = .ok (.aload_n 0, 1) := by decide +kernel
theorem dX9_resolved_12 : decode cX9_resolved 12 = .ok (.getfield 12, 3) := by decide +kernel
theorem dX9_resolved_15 : decode cX9_resolved 15 = .ok (.iload_n 2, 1) := by decide +kernel
theorem dX9_resolved_16 : decode cX9_resolved 16 = .ok (.invokevirtual 87, 3) := by decide +kernel
theorem dX9_resolved_19 : decode cX9_resolved 19 = .ok (.ifCond .ne 6, 3) := by decide +kernel
theorem dX9_resolved_22 : decode cX9_resolved 22 = .ok (.bipush (-2), 2) := by decide +kernel
theorem dX9_resolved_24 : decode cX9_resolved 24 = .ok (.ireturn, 1) := by decide +kernel
theorem dX9_resolved_25 : decode cX9_resolved 25 = .ok (.aload_n 0, 1) := by decide +kernel
theorem dX9_resolved_26 : decode cX9_resolved 26 = .ok (.getfield 26, 3) := by decide +kernel
theorem dX9_resolved_29 : decode cX9_resolved 29 = .ok (.iload_n 1, 1) := by decide +kernel
theorem dX9_resolved_30 : decode cX9_resolved 30 = .ok (.iload_n 2, 1) := by decide +kernel
theorem dX9_resolved_31 : decode cX9_resolved 31 = .ok (.invokevirtual 123, 3) := by decide +kernel
theorem dX9_resolved_34 : decode cX9_resolved 34 = .ok (.ireturn, 1) := by decide +kernel
theorem dX9_batch_0 : decode cX9_batch 0 = .ok (.aload_n 0, 1) := by decide +kernel
theorem dX9_batch_1 : decode cX9_batch 1 = .ok (.getfield 36, 3) := by decide +kernel
theorem dX9_batch_4 : decode cX9_batch 4 = .ok (.bipush 24, 2) := by decide +kernel
theorem dX9_batch_6 : decode cX9_batch 6 = .ok (.if_icmp .lt 6, 3) := by decide +kernel
theorem dX9_batch_9 : decode cX9_batch 9 = .ok (.bipush (-6), 2) := by decide +kernel
theorem dX9_batch_11 : decode cX9_batch 11 = .ok (.ireturn, 1) := by decide +kernel
theorem dX9_batch_12 : decode cX9_batch 12 = .ok (.aload_n 0, 1) := by decide +kernel
theorem dX9_batch_13 : decode cX9_batch 13 = .ok (.dup, 1) := by decide +kernel
theorem dX9_batch_14 : decode cX9_batch 14 = .ok (.getfield 36, 3) := by decide +kernel
theorem dX9_batch_17 : decode cX9_batch 17 = .ok (.iconst 1, 1) := by decide +kernel
theorem dX9_batch_18 : decode cX9_batch 18 = .ok (.iadd, 1) := by decide +kernel
theorem dX9_batch_19 : decode cX9_batch 19 = .ok (.putfield 36, 3) := by decide +kernel
theorem dX9_batch_22 : decode cX9_batch 22 = .ok (.aload_n 0, 1) := by decide +kernel
theorem dX9_batch_23 : decode cX9_batch 23 = .ok (.getfield 36, 3) := by decide +kernel
theorem dX9_batch_26 : decode cX9_batch 26 = .ok (.iconst 1, 1) := by decide +kernel
theorem dX9_batch_27 : decode cX9_batch 27 = .ok (.isub, 1) := by decide +kernel
theorem dX9_batch_28 : decode cX9_batch 28 = .ok (.ireturn, 1) := by decide +kernel
theorem dX9_weigh_0 : decode cX9_weigh 0 = .ok (.aload_n 0, 1) := by decide +kernel
theorem dX9_weigh_1 : decode cX9_weigh 1 = .ok (.iload_n 1, 1) := by decide +kernel
theorem dX9_weigh_2 : decode cX9_weigh 2 = .ok (.invokevirtual 126, 3) := by decide +kernel
theorem dX9_weigh_5 : decode cX9_weigh 5 = .ok (.ifCond .eq 14, 3) := by decide +kernel
theorem dX9_weigh_8 : decode cX9_weigh 8 = .ok (.aload_n 0, 1) := by decide +kernel
theorem dX9_weigh_9 : decode cX9_weigh 9 = .ok (.getfield 12, 3) := by decide +kernel
theorem dX9_weigh_12 : decode cX9_weigh 12 = .ok (.iload_n 2, 1) := by decide +kernel
theorem dX9_weigh_13 : decode cX9_weigh 13 = .ok (.invokevirtual 87, 3) := by decide +kernel
theorem dX9_weigh_16 : decode cX9_weigh 16 = .ok (.ifCond .ne 6, 3) := by decide +kernel
theorem dX9_weigh_19 : decode cX9_weigh 19 = .ok (.bipush (-2), 2) := by decide +kernel
theorem dX9_weigh_21 : decode cX9_weigh 21 = .ok (.ireturn, 1) := by decide +kernel
theorem dX9_weigh_22 : decode cX9_weigh 22 = .ok (.iload_n 3, 1) := by decide +kernel
theorem dX9_weigh_23 : decode cX9_weigh 23 = .ok (.iconst 1, 1) := by decide +kernel
theorem dX9_weigh_24 : decode cX9_weigh 24 = .ok (.sipush 20000, 3) := by decide +kernel
theorem dX9_weigh_27 : decode cX9_weigh 27 = .ok (.invokestatic 97, 3) := by decide +kernel
theorem dX9_weigh_30 : decode cX9_weigh 30 = .ok (.ifCond .ne 6, 3) := by decide +kernel
theorem dX9_weigh_33 : decode cX9_weigh 33 = .ok (.bipush (-3), 2) := by decide +kernel
theorem dX9_weigh_35 : decode cX9_weigh 35 = .ok (.ireturn, 1) := by decide +kernel
theorem dX9_weigh_36 : decode cX9_weigh 36 = .ok (.aload_n 0, 1) := by decide +kernel
theorem dX9_weigh_37 : decode cX9_weigh 37 = .ok (.getfield 67, 3) := by decide +kernel
theorem dX9_weigh_40 : decode cX9_weigh 40 = .ok (.iconst 0, 1) := by decide +kernel
theorem dX9_weigh_41 : decode cX9_weigh 41 = .ok (.invokestatic 129, 3) := by decide +kernel
theorem dX9_weigh_44 : decode cX9_weigh 44 = .ok (.aload_n 0, 1) := by decide +kernel
theorem dX9_weigh_45 : decode cX9_weigh 45 = .ok (.getfield 67, 3) := by decide +kernel
theorem dX9_weigh_48 : decode cX9_weigh 48 = .ok (.iload_n 2, 1) := by decide +kernel
theorem dX9_weigh_49 : decode cX9_weigh 49 = .ok (.iload_n 3, 1) := by decide +kernel
theorem dX9_weigh_50 : decode cX9_weigh 50 = .ok (.iastore, 1) := by decide +kernel
theorem dX9_weigh_51 : decode cX9_weigh 51 = .ok (.aload_n 0, 1) := by decide +kernel
theorem dX9_weigh_52 : decode cX9_weigh 52 = .ok (.aload_n 0, 1) := by decide +kernel
theorem dX9_weigh_53 : decode cX9_weigh 53 = .ok (.getfield 32, 3) := by decide +kernel
theorem dX9_weigh_56 : decode cX9_weigh 56 = .ok (.iload_n 1, 1) := by decide +kernel
theorem dX9_weigh_57 : decode cX9_weigh 57 = .ok (.aaload, 1) := by decide +kernel
theorem dX9_weigh_58 : decode cX9_weigh 58 = .ok (.invokevirtual 135, 3) := by decide +kernel
theorem dX9_weigh_61 : decode cX9_weigh 61 = .ok (.ireturn, 1) := by decide +kernel
theorem dX9_brew_0 : decode cX9_brew 0 = .ok (.aload_n 0, 1) := by decide +kernel
theorem dX9_brew_1 : decode cX9_brew 1 = .ok (.iload_n 1, 1) := by decide +kernel
theorem dX9_brew_2 : decode cX9_brew 2 = .ok (.invokevirtual 126, 3) := by decide +kernel
theorem dX9_brew_5 : decode cX9_brew 5 = .ok (.ifCond .eq 14, 3) := by decide +kernel
theorem dX9_brew_8 : decode cX9_brew 8 = .ok (.aload_n 0, 1) := by decide +kernel
theorem dX9_brew_9 : decode cX9_brew 9 = .ok (.getfield 26, 3) := by decide +kernel
theorem dX9_brew_12 : decode cX9_brew 12 = .ok (.iload_n 2, 1) := by decide +kernel
theorem dX9_brew_13 : decode cX9_brew 13 = .ok (.invokevirtual 118, 3) := by decide +kernel
theorem dX9_brew_16 : decode cX9_brew 16 = .ok (.ifCond .ne 6, 3) := by decide +kernel
theorem dX9_brew_19 : decode cX9_brew 19 = .ok (.bipush (-2), 2) := by decide +kernel
theorem dX9_brew_21 : decode cX9_brew 21 = .ok (.ireturn, 1) := by decide +kernel
theorem dX9_brew_22 : decode cX9_brew 22 = .ok (.iload_n 3, 1) := by decide +kernel
theorem dX9_brew_23 : decode cX9_brew 23 = .ok (.iconst 1, 1) := by decide +kernel
theorem dX9_brew_24 : decode cX9_brew 24 = .ok (.bipush 100, 2) := by decide +kernel
theorem dX9_brew_26 : decode cX9_brew 26 = .ok (.invokestatic 97, 3) := by decide +kernel
theorem dX9_brew_29 : decode cX9_brew 29 = .ok (.ifCond .ne 6, 3) := by decide +kernel
theorem dX9_brew_32 : decode cX9_brew 32 = .ok (.bipush (-3), 2) := by decide +kernel
theorem dX9_brew_34 : decode cX9_brew 34 = .ok (.ireturn, 1) := by decide +kernel
theorem dX9_brew_35 : decode cX9_brew 35 = .ok (.iconst 0, 1) := by decide +kernel
theorem dX9_brew_36 : decode cX9_brew 36 = .ok (.istore 4, 2) := by decide +kernel
theorem dX9_brew_38 : decode cX9_brew 38 = .ok (.iload 4, 2) := by decide +kernel
theorem dX9_brew_40 : decode cX9_brew 40 = .ok (.bipush 8, 2) := by decide +kernel
theorem dX9_brew_42 : decode cX9_brew 42 = .ok (.if_icmp .ge 28, 3) := by decide +kernel
theorem dX9_brew_45 : decode cX9_brew 45 = .ok (.aload_n 0, 1) := by decide +kernel
theorem dX9_brew_46 : decode cX9_brew 46 = .ok (.getfield 67, 3) := by decide +kernel
theorem dX9_brew_49 : decode cX9_brew 49 = .ok (.iload 4, 2) := by decide +kernel
theorem dX9_brew_51 : decode cX9_brew 51 = .ok (.iload_n 3, 1) := by decide +kernel
theorem dX9_brew_52 : decode cX9_brew 52 = .ok (.aload_n 0, 1) := by decide +kernel
theorem dX9_brew_53 : decode cX9_brew 53 = .ok (.getfield 26, 3) := by decide +kernel
theorem dX9_brew_56 : decode cX9_brew 56 = .ok (.iload_n 2, 1) := by decide +kernel
theorem dX9_brew_57 : decode cX9_brew 57 = .ok (.iload 4, 2) := by decide +kernel
theorem dX9_brew_59 : decode cX9_brew 59 = .ok (.invokevirtual 123, 3) := by decide +kernel
theorem dX9_brew_62 : decode cX9_brew 62 = .ok (.imul, 1) := by decide +kernel
theorem dX9_brew_63 : decode cX9_brew 63 = .ok (.iastore, 1) := by decide +kernel
theorem dX9_brew_64 : decode cX9_brew 64 = .ok (.iinc 4 1, 3) := by decide +kernel
theorem dX9_brew_67 : decode cX9_brew 67 = .ok (.goto (-29), 3) := by decide +kernel
theorem dX9_brew_70 : decode cX9_brew 70 = .ok (.aload_n 0, 1) := by decide +kernel
theorem dX9_brew_71 : decode cX9_brew 71 = .ok (.getfield 67, 3) := by decide +kernel
theorem dX9_brew_74 : decode cX9_brew 74 = .ok (.invokestatic 139, 3) := by decide +kernel
theorem dX9_brew_77 : decode cX9_brew 77 = .ok (.ifCond .ne 8, 3) := by decide +kernel
theorem dX9_brew_80 : decode cX9_brew 80 = .ok (.bipush (-4), 2) := by decide +kernel
theorem dX9_brew_82 : decode cX9_brew 82 = .ok (.goto 13, 3) := by decide +kernel
theorem dX9_brew_85 : decode cX9_brew 85 = .ok (.aload_n 0, 1) := by decide +kernel
theorem dX9_brew_86 : decode cX9_brew 86 = .ok (.aload_n 0, 1) := by decide +kernel
theorem dX9_brew_87 : decode cX9_brew 87 = .ok (.getfield 32, 3) := by decide +kernel
theorem dX9_brew_90 : decode cX9_brew 90 = .ok (.iload_n 1, 1) := by decide +kernel
theorem dX9_brew_91 : decode cX9_brew 91 = .ok (.aaload, 1) := by decide +kernel
theorem dX9_brew_92 : decode cX9_brew 92 = .ok (.invokevirtual 135, 3) := by decide +kernel
theorem dX9_brew_95 : decode cX9_brew 95 = .ok (.ireturn, 1) := by decide +kernel
theorem dX9_drops_0 : decode cX9_drops 0 = .ok (.aload_n 0, 1) := by decide +kernel
theorem dX9_drops_1 : decode cX9_drops 1 = .ok (.iload_n 1, 1) := by decide +kernel
theorem dX9_drops_2 : decode cX9_drops 2 = .ok (.invokevirtual 126, 3) := by decide +kernel
theorem dX9_drops_5 : decode cX9_drops 5 = .ok (.ifCond .ne 6, 3) := by decide +kernel
theorem dX9_drops_8 : decode cX9_drops 8 = .ok (.bipush (-2), 2) := by decide +kernel
theorem dX9_drops_10 : decode cX9_drops 10 = .ok (.ireturn, 1) := by decide +kernel
theorem dX9_drops_11 : decode cX9_drops 11 = .ok (.iload_n 2, 1) := by decide +kernel
theorem dX9_drops_12 : decode cX9_drops 12 = .ok (.iconst 0, 1) := by decide +kernel
theorem dX9_drops_13 : decode cX9_drops 13 = .ok (.bipush 8, 2) := by decide +kernel
theorem dX9_drops_15 : decode cX9_drops 15 = .ok (.invokestatic 97, 3) := by decide +kernel
theorem dX9_drops_18 : decode cX9_drops 18 = .ok (.ifCond .eq 14, 3) := by decide +kernel
theorem dX9_drops_21 : decode cX9_drops 21 = .ok (.iload_n 3, 1) := by decide +kernel
theorem dX9_drops_22 : decode cX9_drops 22 = .ok (.iload 4, 2) := by decide +kernel
theorem dX9_drops_24 : decode cX9_drops 24 = .ok (.iload 5, 2) := by decide +kernel
theorem dX9_drops_26 : decode cX9_drops 26 = .ok (.invokestatic 143, 3) := by decide +kernel
theorem dX9_drops_29 : decode cX9_drops 29 = .ok (.ifCond .ne 6, 3) := by decide +kernel
theorem dX9_drops_32 : decode cX9_drops 32 = .ok (.bipush (-3), 2) := by decide +kernel
theorem dX9_drops_34 : decode cX9_drops 34 = .ok (.ireturn, 1) := by decide +kernel
theorem dX9_drops_35 : decode cX9_drops 35 = .ok (.aload_n 0, 1) := by decide +kernel
theorem dX9_drops_36 : decode cX9_drops 36 = .ok (.getfield 32, 3) := by decide +kernel
theorem dX9_drops_39 : decode cX9_drops 39 = .ok (.iload_n 1, 1) := by decide +kernel
theorem dX9_drops_40 : decode cX9_drops 40 = .ok (.aaload, 1) := by decide +kernel
theorem dX9_drops_41 : decode cX9_drops 41 = .ok (.astore 6, 2) := by decide +kernel
theorem dX9_drops_43 : decode cX9_drops 43 = .ok (.aload 6, 2) := by decide +kernel
theorem dX9_drops_45 : decode cX9_drops 45 = .ok (.getfield 146, 3) := by decide +kernel
theorem dX9_drops_48 : decode cX9_drops 48 = .ok (.ifCond .ne 14, 3) := by decide +kernel
theorem dX9_drops_51 : decode cX9_drops 51 = .ok (.aload 6, 2) := by decide +kernel
theorem dX9_drops_53 : decode cX9_drops 53 = .ok (.getfield 150, 3) := by decide +kernel
theorem dX9_drops_56 : decode cX9_drops 56 = .ok (.getfield 154, 3) := by decide +kernel
theorem dX9_drops_59 : decode cX9_drops 59 = .ok (.ifCond .ne 6, 3) := by decide +kernel
theorem dX9_drops_62 : decode cX9_drops 62 = .ok (.bipush (-4), 2) := by decide +kernel
theorem dX9_drops_64 : decode cX9_drops 64 = .ok (.ireturn, 1) := by decide +kernel
theorem dX9_drops_65 : decode cX9_drops 65 = .ok (.aload_n 0, 1) := by decide +kernel
theorem dX9_drops_66 : decode cX9_drops 66 = .ok (.getfield 43, 3) := by decide +kernel
theorem dX9_drops_69 : decode cX9_drops 69 = .ok (.iload_n 3, 1) := by decide +kernel
theorem dX9_drops_70 : decode cX9_drops 70 = .ok (.iload 4, 2) := by decide +kernel
theorem dX9_drops_72 : decode cX9_drops 72 = .ok (.iload 5, 2) := by decide +kernel
theorem dX9_drops_74 : decode cX9_drops 74 = .ok (.invokevirtual 159, 3) := by decide +kernel
theorem dX9_drops_77 : decode cX9_drops 77 = .ok (.aload_n 0, 1) := by decide +kernel
theorem dX9_drops_78 : decode cX9_drops 78 = .ok (.getfield 43, 3) := by decide +kernel
theorem dX9_drops_81 : decode cX9_drops 81 = .ok (.aload 6, 2) := by decide +kernel
theorem dX9_drops_83 : decode cX9_drops 83 = .ok (.getfield 150, 3) := by decide +kernel
theorem dX9_drops_86 : decode cX9_drops 86 = .ok (.iload_n 2, 1) := by decide +kernel
theorem dX9_drops_87 : decode cX9_drops 87 = .ok (.aload_n 0, 1) := by decide +kernel
theorem dX9_drops_88 : decode cX9_drops 88 = .ok (.getfield 12, 3) := by decide +kernel
theorem dX9_drops_91 : decode cX9_drops 91 = .ok (.aload_n 0, 1) := by decide +kernel
theorem dX9_drops_92 : decode cX9_drops 92 = .ok (.getfield 19, 3) := by decide +kernel
theorem dX9_drops_95 : decode cX9_drops 95 = .ok (.invokevirtual 163, 3) := by decide +kernel
theorem dX9_drops_98 : decode cX9_drops 98 = .ok (.aload_n 0, 1) := by decide +kernel
theorem dX9_drops_99 : decode cX9_drops 99 = .ok (.getfield 43, 3) := by decide +kernel
theorem dX9_drops_102 : decode cX9_drops 102 = .ok (.aload_n 0, 1) := by decide +kernel
theorem dX9_drops_103 : decode cX9_drops 103 = .ok (.getfield 12, 3) := by decide +kernel
theorem dX9_drops_106 : decode cX9_drops 106 = .ok (.invokevirtual 167, 3) := by decide +kernel
theorem dX9_drops_109 : decode cX9_drops 109 = .ok (.ireturn, 1) := by decide +kernel
theorem dX9_drop_0 : decode cX9_drop 0 = .ok (.aload_n 0, 1) := by decide +kernel
theorem dX9_drop_1 : decode cX9_drop 1 = .ok (.getfield 12, 3) := by decide +kernel
theorem dX9_drop_4 : decode cX9_drop 4 = .ok (.iload_n 1, 1) := by decide +kernel
theorem dX9_drop_5 : decode cX9_drop 5 = .ok (.invokevirtual 87, 3) := by decide +kernel
theorem dX9_drop_8 : decode cX9_drop 8 = .ok (.ifCond .eq 15, 3) := by decide +kernel
theorem dX9_drop_11 : decode cX9_drop 11 = .ok (.aload_n 0, 1) := by decide +kernel
theorem dX9_drop_12 : decode cX9_drop 12 = .ok (.getfield 43, 3) := by decide +kernel
theorem dX9_drop_15 : decode cX9_drop 15 = .ok (.getfield 171, 3) := by decide +kernel
theorem dX9_drop_18 : decode cX9_drop 18 = .ok (.iload_n 1, 1) := by decide +kernel
theorem dX9_drop_19 : decode cX9_drop 19 = .ok (.iaload, 1) := by decide +kernel
theorem dX9_drop_20 : decode cX9_drop 20 = .ok (.goto 5, 3) := by decide +kernel
theorem dX9_drop_23 : decode cX9_drop 23 = .ok (.bipush (-2), 2) := by decide +kernel
theorem dX9_drop_25 : decode cX9_drop 25 = .ok (.ireturn, 1) := by decide +kernel
theorem dX9_dropIn_0 : decode cX9_dropIn 0 = .ok (.aload_n 0, 1) := by decide +kernel
theorem dX9_dropIn_1 : decode cX9_dropIn 1 = .ok (.iload_n 1, 1) := by decide +kernel
theorem dX9_dropIn_2 : decode cX9_dropIn 2 = .ok (.invokevirtual 126, 3) := by decide +kernel
theorem dX9_dropIn_5 : decode cX9_dropIn 5 = .ok (.ifCond .ne 6, 3) := by decide +kernel
theorem dX9_dropIn_8 : decode cX9_dropIn 8 = .ok (.bipush (-2), 2) := by decide +kernel
theorem dX9_dropIn_10 : decode cX9_dropIn 10 = .ok (.ireturn, 1) := by decide +kernel
theorem dX9_dropIn_11 : decode cX9_dropIn 11 = .ok (.aload_n 0, 1) := by decide +kernel
theorem dX9_dropIn_12 : decode cX9_dropIn 12 = .ok (.getfield 43, 3) := by decide +kernel
theorem dX9_dropIn_15 : decode cX9_dropIn 15 = .ok (.getfield 174, 3) := by decide +kernel
theorem dX9_dropIn_18 : decode cX9_dropIn 18 = .ok (.ifCond .ne 6, 3) := by decide +kernel
theorem dX9_dropIn_21 : decode cX9_dropIn 21 = .ok (.bipush (-4), 2) := by decide +kernel
theorem dX9_dropIn_23 : decode cX9_dropIn 23 = .ok (.ireturn, 1) := by decide +kernel
theorem dX9_dropIn_24 : decode cX9_dropIn 24 = .ok (.aload_n 0, 1) := by decide +kernel
theorem dX9_dropIn_25 : decode cX9_dropIn 25 = .ok (.getfield 43, 3) := by decide +kernel
theorem dX9_dropIn_28 : decode cX9_dropIn 28 = .ok (.getfield 171, 3) := by decide +kernel
theorem dX9_dropIn_31 : decode cX9_dropIn 31 = .ok (.iconst 0, 1) := by decide +kernel
theorem dX9_dropIn_32 : decode cX9_dropIn 32 = .ok (.aload_n 0, 1) := by decide +kernel
theorem dX9_dropIn_33 : decode cX9_dropIn 33 = .ok (.getfield 67, 3) := by decide +kernel
theorem dX9_dropIn_36 : decode cX9_dropIn 36 = .ok (.iconst 0, 1) := by decide +kernel
theorem dX9_dropIn_37 : decode cX9_dropIn 37 = .ok (.bipush 8, 2) := by decide +kernel
theorem dX9_dropIn_39 : decode cX9_dropIn 39 = .ok (.invokestatic 177, 3) := by decide +kernel
theorem dX9_dropIn_42 : decode cX9_dropIn 42 = .ok (.aload_n 0, 1) := by decide +kernel
theorem dX9_dropIn_43 : decode cX9_dropIn 43 = .ok (.aload_n 0, 1) := by decide +kernel
theorem dX9_dropIn_44 : decode cX9_dropIn 44 = .ok (.getfield 32, 3) := by decide +kernel
theorem dX9_dropIn_47 : decode cX9_dropIn 47 = .ok (.iload_n 1, 1) := by decide +kernel
theorem dX9_dropIn_48 : decode cX9_dropIn 48 = .ok (.aaload, 1) := by decide +kernel
theorem dX9_dropIn_49 : decode cX9_dropIn 49 = .ok (.invokevirtual 135, 3) := by decide +kernel
theorem dX9_dropIn_52 : decode cX9_dropIn 52 = .ok (.ireturn, 1) := by decide +kernel
theorem dX9_amount_0 : decode cX9_amount 0 = .ok (.aload_n 0, 1) := by decide +kernel
theorem dX9_amount_1 : decode cX9_amount 1 = .ok (.iload_n 1, 1) := by decide +kernel
theorem dX9_amount_2 : decode cX9_amount 2 = .ok (.invokevirtual 126, 3) := by decide +kernel
theorem dX9_amount_5 : decode cX9_amount 5 = .ok (.ifCond .eq 14, 3) := by decide +kernel
theorem dX9_amount_8 : decode cX9_amount 8 = .ok (.aload_n 0, 1) := by decide +kernel
theorem dX9_amount_9 : decode cX9_amount 9 = .ok (.getfield 12, 3) := by decide +kernel
theorem dX9_amount_12 : decode cX9_amount 12 = .ok (.iload_n 2, 1) := by decide +kernel
theorem dX9_amount_13 : decode cX9_amount 13 = .ok (.invokevirtual 87, 3) := by decide +kernel
theorem dX9_amount_16 : decode cX9_amount 16 = .ok (.ifCond .ne 6, 3) := by decide +kernel
theorem dX9_amount_19 : decode cX9_amount 19 = .ok (.bipush (-2), 2) := by decide +kernel
theorem dX9_amount_21 : decode cX9_amount 21 = .ok (.ireturn, 1) := by decide +kernel
theorem dX9_amount_22 : decode cX9_amount 22 = .ok (.aload_n 0, 1) := by decide +kernel
theorem dX9_amount_23 : decode cX9_amount 23 = .ok (.getfield 32, 3) := by decide +kernel
theorem dX9_amount_26 : decode cX9_amount 26 = .ok (.iload_n 1, 1) := by decide +kernel
theorem dX9_amount_27 : decode cX9_amount 27 = .ok (.aaload, 1) := by decide +kernel
theorem dX9_amount_28 : decode cX9_amount 28 = .ok (.getfield 150, 3) := by decide +kernel
theorem dX9_amount_31 : decode cX9_amount 31 = .ok (.getfield 183, 3) := by decide +kernel
theorem dX9_amount_34 : decode cX9_amount 34 = .ok (.iload_n 2, 1) := by decide +kernel
theorem dX9_amount_35 : decode cX9_amount 35 = .ok (.iaload, 1) := by decide +kernel
theorem dX9_amount_36 : decode cX9_amount 36 = .ok (.ireturn, 1) := by decide +kernel
theorem dX9_shade_0 : decode cX9_shade 0 = .ok (.aload_n 0, 1) := by decide +kernel
theorem dX9_shade_1 : decode cX9_shade 1 = .ok (.iload_n 1, 1) := by decide +kernel
theorem dX9_shade_2 : decode cX9_shade 2 = .ok (.invokevirtual 126, 3) := by decide +kernel
theorem dX9_shade_5 : decode cX9_shade 5 = .ok (.ifCond .eq 10, 3) := by decide +kernel
theorem dX9_shade_8 : decode cX9_shade 8 = .ok (.iload_n 2, 1) := by decide +kernel
theorem dX9_shade_9 : decode cX9_shade 9 = .ok (.invokestatic 90, 3) := by decide +kernel
theorem dX9_shade_12 : decode cX9_shade 12 = .ok (.ifCond .ne 6, 3) := by decide +kernel
theorem dX9_shade_15 : decode cX9_shade 15 = .ok (.bipush (-2), 2) := by decide +kernel
theorem dX9_shade_17 : decode cX9_shade 17 = .ok (.ireturn, 1) := by decide +kernel
theorem dX9_shade_18 : decode cX9_shade 18 = .ok (.aload_n 0, 1) := by decide +kernel
theorem dX9_shade_19 : decode cX9_shade 19 = .ok (.getfield 32, 3) := by decide +kernel
theorem dX9_shade_22 : decode cX9_shade 22 = .ok (.iload_n 1, 1) := by decide +kernel
theorem dX9_shade_23 : decode cX9_shade 23 = .ok (.aaload, 1) := by decide +kernel
theorem dX9_shade_24 : decode cX9_shade 24 = .ok (.getfield 150, 3) := by decide +kernel
theorem dX9_shade_27 : decode cX9_shade 27 = .ok (.astore_n 3, 1) := by decide +kernel
theorem dX9_shade_28 : decode cX9_shade 28 = .ok (.aload_n 3, 1) := by decide +kernel
theorem dX9_shade_29 : decode cX9_shade 29 = .ok (.getfield 154, 3) := by decide +kernel
theorem dX9_shade_32 : decode cX9_shade 32 = .ok (.ifCond .ne 8, 3) := by decide +kernel
theorem dX9_shade_35 : decode cX9_shade 35 = .ok (.bipush (-4), 2) := by decide +kernel
theorem dX9_shade_37 : decode cX9_shade 37 = .ok (.goto 12, 3) := by decide +kernel
theorem dX9_shade_40 : decode cX9_shade 40 = .ok (.aload_n 0, 1) := by decide +kernel
theorem dX9_shade_41 : decode cX9_shade 41 = .ok (.getfield 12, 3) := by decide +kernel
theorem dX9_shade_44 : decode cX9_shade 44 = .ok (.aload_n 3, 1) := by decide +kernel
theorem dX9_shade_45 : decode cX9_shade 45 = .ok (.iload_n 2, 1) := by decide +kernel
theorem dX9_shade_46 : decode cX9_shade 46 = .ok (.invokevirtual 186, 3) := by decide +kernel
theorem dX9_shade_49 : decode cX9_shade 49 = .ok (.ireturn, 1) := by decide +kernel
theorem dX9_miss_0 : decode cX9_miss 0 = .ok (.aload_n 0, 1) := by decide +kernel
theorem dX9_miss_1 : decode cX9_miss 1 = .ok (.iload_n 1, 1) := by decide +kernel
theorem dX9_miss_2 : decode cX9_miss 2 = .ok (.invokevirtual 126, 3) := by decide +kernel
theorem dX9_miss_5 : decode cX9_miss 5 = .ok (.ifCond .ne 6, 3) := by decide +kernel
theorem dX9_miss_8 : decode cX9_miss 8 = .ok (.bipush (-2), 2) := by decide +kernel
theorem dX9_miss_10 : decode cX9_miss 10 = .ok (.ireturn, 1) := by decide +kernel
theorem dX9_miss_11 : decode cX9_miss 11 = .ok (.iload_n 2, 1) := by decide +kernel
theorem dX9_miss_12 : decode cX9_miss 12 = .ok (.iload_n 3, 1) := by decide +kernel
theorem dX9_miss_13 : decode cX9_miss 13 = .ok (.iload 4, 2) := by decide +kernel
theorem dX9_miss_15 : decode cX9_miss 15 = .ok (.invokestatic 143, 3) := by decide +kernel
theorem dX9_miss_18 : decode cX9_miss 18 = .ok (.ifCond .ne 6, 3) := by decide +kernel
theorem dX9_miss_21 : decode cX9_miss 21 = .ok (.bipush (-3), 2) := by decide +kernel
theorem dX9_miss_23 : decode cX9_miss 23 = .ok (.ireturn, 1) := by decide +kernel
theorem dX9_miss_24 : decode cX9_miss 24 = .ok (.aload_n 0, 1) := by decide +kernel
theorem dX9_miss_25 : decode cX9_miss 25 = .ok (.getfield 32, 3) := by decide +kernel
theorem dX9_miss_28 : decode cX9_miss 28 = .ok (.iload_n 1, 1) := by decide +kernel
theorem dX9_miss_29 : decode cX9_miss 29 = .ok (.aaload, 1) := by decide +kernel
theorem dX9_miss_30 : decode cX9_miss 30 = .ok (.getfield 150, 3) := by decide +kernel
theorem dX9_miss_33 : decode cX9_miss 33 = .ok (.astore 5, 2) := by decide +kernel
theorem dX9_miss_35 : decode cX9_miss 35 = .ok (.aload 5, 2) := by decide +kernel
theorem dX9_miss_37 : decode cX9_miss 37 = .ok (.getfield 154, 3) := by decide +kernel
theorem dX9_miss_40 : decode cX9_miss 40 = .ok (.ifCond .ne 6, 3) := by decide +kernel
theorem dX9_miss_43 : decode cX9_miss 43 = .ok (.bipush (-4), 2) := by decide +kernel
theorem dX9_miss_45 : decode cX9_miss 45 = .ok (.ireturn, 1) := by decide +kernel
theorem dX9_miss_46 : decode cX9_miss 46 = .ok (.aload_n 0, 1) := by decide +kernel
theorem dX9_miss_47 : decode cX9_miss 47 = .ok (.getfield 12, 3) := by decide +kernel
theorem dX9_miss_50 : decode cX9_miss 50 = .ok (.aload 5, 2) := by decide +kernel
theorem dX9_miss_52 : decode cX9_miss 52 = .ok (.iconst 0, 1) := by decide +kernel
theorem dX9_miss_53 : decode cX9_miss 53 = .ok (.invokevirtual 186, 3) := by decide +kernel
theorem dX9_miss_56 : decode cX9_miss 56 = .ok (.iload_n 2, 1) := by decide +kernel
theorem dX9_miss_57 : decode cX9_miss 57 = .ok (.isub, 1) := by decide +kernel
theorem dX9_miss_58 : decode cX9_miss 58 = .ok (.invokestatic 190, 3) := by decide +kernel
theorem dX9_miss_61 : decode cX9_miss 61 = .ok (.istore 6, 2) := by decide +kernel
theorem dX9_miss_63 : decode cX9_miss 63 = .ok (.iload 6, 2) := by decide +kernel
theorem dX9_miss_65 : decode cX9_miss 65 = .ok (.aload_n 0, 1) := by decide +kernel
theorem dX9_miss_66 : decode cX9_miss 66 = .ok (.getfield 12, 3) := by decide +kernel
theorem dX9_miss_69 : decode cX9_miss 69 = .ok (.aload 5, 2) := by decide +kernel
theorem dX9_miss_71 : decode cX9_miss 71 = .ok (.iconst 1, 1) := by decide +kernel
theorem dX9_miss_72 : decode cX9_miss 72 = .ok (.invokevirtual 186, 3) := by decide +kernel
theorem dX9_miss_75 : decode cX9_miss 75 = .ok (.iload_n 3, 1) := by decide +kernel
theorem dX9_miss_76 : decode cX9_miss 76 = .ok (.isub, 1) := by decide +kernel
theorem dX9_miss_77 : decode cX9_miss 77 = .ok (.invokestatic 190, 3) := by decide +kernel
theorem dX9_miss_80 : decode cX9_miss 80 = .ok (.invokestatic 195, 3) := by decide +kernel
theorem dX9_miss_83 : decode cX9_miss 83 = .ok (.istore 6, 2) := by decide +kernel
theorem dX9_miss_85 : decode cX9_miss 85 = .ok (.iload 6, 2) := by decide +kernel
theorem dX9_miss_87 : decode cX9_miss 87 = .ok (.aload_n 0, 1) := by decide +kernel
theorem dX9_miss_88 : decode cX9_miss 88 = .ok (.getfield 12, 3) := by decide +kernel
theorem dX9_miss_91 : decode cX9_miss 91 = .ok (.aload 5, 2) := by decide +kernel
theorem dX9_miss_93 : decode cX9_miss 93 = .ok (.iconst 2, 1) := by decide +kernel
theorem dX9_miss_94 : decode cX9_miss 94 = .ok (.invokevirtual 186, 3) := by decide +kernel
theorem dX9_miss_97 : decode cX9_miss 97 = .ok (.iload 4, 2) := by decide +kernel
theorem dX9_miss_99 : decode cX9_miss 99 = .ok (.isub, 1) := by decide +kernel
theorem dX9_miss_100 : decode cX9_miss 100 = .ok (.invokestatic 190, 3) := by decide +kernel
theorem dX9_miss_103 : decode cX9_miss 103 = .ok (.invokestatic 195, 3) := by decide +kernel
theorem dX9_miss_106 : decode cX9_miss 106 = .ok (.ireturn, 1) := by decide +kernel
theorem dX9_holds_0 : decode cX9_holds 0 = .ok (.iload_n 1, 1) := by decide +kernel
theorem dX9_holds_1 : decode cX9_holds 1 = .ok (.invokestatic 198, 3) := by decide +kernel
theorem dX9_holds_4 : decode cX9_holds 4 = .ok (.ifCond .ne 6, 3) := by decide +kernel
theorem dX9_holds_7 : decode cX9_holds 7 = .ok (.bipush (-2), 2) := by decide +kernel
theorem dX9_holds_9 : decode cX9_holds 9 = .ok (.ireturn, 1) := by decide +kernel
theorem dX9_holds_10 : decode cX9_holds 10 = .ok (.iload_n 2, 1) := by decide +kernel
theorem dX9_holds_11 : decode cX9_holds 11 = .ok (.iconst 1, 1) := by decide +kernel
theorem dX9_holds_12 : decode cX9_holds 12 = .ok (.ldc 201, 2) := by decide +kernel
theorem dX9_holds_14 : decode cX9_holds 14 = .ok (.invokestatic 97, 3) := by decide +kernel
theorem dX9_holds_17 : decode cX9_holds 17 = .ok (.ifCond .ne 6, 3) := by decide +kernel
theorem dX9_holds_20 : decode cX9_holds 20 = .ok (.bipush (-3), 2) := by decide +kernel
theorem dX9_holds_22 : decode cX9_holds 22 = .ok (.ireturn, 1) := by decide +kernel
theorem dX9_holds_23 : decode cX9_holds 23 = .ok (.aload_n 0, 1) := by decide +kernel
theorem dX9_holds_24 : decode cX9_holds 24 = .ok (.getfield 49, 3) := by decide +kernel
theorem dX9_holds_27 : decode cX9_holds 27 = .ok (.iload_n 1, 1) := by decide +kernel
theorem dX9_holds_28 : decode cX9_holds 28 = .ok (.aaload, 1) := by decide +kernel
theorem dX9_holds_29 : decode cX9_holds 29 = .ok (.astore_n 3, 1) := by decide +kernel
theorem dX9_holds_30 : decode cX9_holds 30 = .ok (.aload_n 3, 1) := by decide +kernel
theorem dX9_holds_31 : decode cX9_holds 31 = .ok (.getfield 202, 3) := by decide +kernel
theorem dX9_holds_34 : decode cX9_holds 34 = .ok (.iload_n 2, 1) := by decide +kernel
theorem dX9_holds_35 : decode cX9_holds 35 = .ok (.if_icmp .le 6, 3) := by decide +kernel
theorem dX9_holds_38 : decode cX9_holds 38 = .ok (.bipush (-4), 2) := by decide +kernel
theorem dX9_holds_40 : decode cX9_holds 40 = .ok (.ireturn, 1) := by decide +kernel
theorem dX9_holds_41 : decode cX9_holds 41 = .ok (.aload_n 3, 1) := by decide +kernel
theorem dX9_holds_42 : decode cX9_holds 42 = .ok (.getfield 205, 3) := by decide +kernel
theorem dX9_holds_45 : decode cX9_holds 45 = .ok (.istore 4, 2) := by decide +kernel
theorem dX9_holds_47 : decode cX9_holds 47 = .ok (.aload_n 3, 1) := by decide +kernel
theorem dX9_holds_48 : decode cX9_holds 48 = .ok (.iload_n 2, 1) := by decide +kernel
theorem dX9_holds_49 : decode cX9_holds 49 = .ok (.putfield 205, 3) := by decide +kernel
theorem dX9_holds_52 : decode cX9_holds 52 = .ok (.iload 4, 2) := by decide +kernel
theorem dX9_holds_54 : decode cX9_holds 54 = .ok (.ireturn, 1) := by decide +kernel
theorem dX9_limit_0 : decode cX9_limit 0 = .ok (.iload_n 1, 1) := by decide +kernel
theorem dX9_limit_1 : decode cX9_limit 1 = .ok (.iconst 0, 1) := by decide +kernel
theorem dX9_limit_2 : decode cX9_limit 2 = .ok (.ldc 208, 2) := by decide +kernel
theorem dX9_limit_4 : decode cX9_limit 4 = .ok (.invokestatic 97, 3) := by decide +kernel
theorem dX9_limit_7 : decode cX9_limit 7 = .ok (.ifCond .ne 6, 3) := by decide +kernel
theorem dX9_limit_10 : decode cX9_limit 10 = .ok (.bipush (-3), 2) := by decide +kernel
theorem dX9_limit_12 : decode cX9_limit 12 = .ok (.ireturn, 1) := by decide +kernel
theorem dX9_limit_13 : decode cX9_limit 13 = .ok (.aload_n 0, 1) := by decide +kernel
theorem dX9_limit_14 : decode cX9_limit 14 = .ok (.getfield 71, 3) := by decide +kernel
theorem dX9_limit_17 : decode cX9_limit 17 = .ok (.istore_n 2, 1) := by decide +kernel
theorem dX9_limit_18 : decode cX9_limit 18 = .ok (.aload_n 0, 1) := by decide +kernel
theorem dX9_limit_19 : decode cX9_limit 19 = .ok (.iload_n 1, 1) := by decide +kernel
theorem dX9_limit_20 : decode cX9_limit 20 = .ok (.putfield 71, 3) := by decide +kernel
theorem dX9_limit_23 : decode cX9_limit 23 = .ok (.iload_n 2, 1) := by decide +kernel
theorem dX9_limit_24 : decode cX9_limit 24 = .ok (.ireturn, 1) := by decide +kernel
theorem dX9_pour_0 : decode cX9_pour 0 = .ok (.aload_n 0, 1) := by decide +kernel
theorem dX9_pour_1 : decode cX9_pour 1 = .ok (.iload_n 1, 1) := by decide +kernel
theorem dX9_pour_2 : decode cX9_pour 2 = .ok (.invokevirtual 126, 3) := by decide +kernel
theorem dX9_pour_5 : decode cX9_pour 5 = .ok (.ifCond .eq 10, 3) := by decide +kernel
theorem dX9_pour_8 : decode cX9_pour 8 = .ok (.iload_n 2, 1) := by decide +kernel
theorem dX9_pour_9 : decode cX9_pour 9 = .ok (.invokestatic 198, 3) := by decide +kernel
theorem dX9_pour_12 : decode cX9_pour 12 = .ok (.ifCond .ne 6, 3) := by decide +kernel
theorem dX9_pour_15 : decode cX9_pour 15 = .ok (.bipush (-2), 2) := by decide +kernel
theorem dX9_pour_17 : decode cX9_pour 17 = .ok (.ireturn, 1) := by decide +kernel
theorem dX9_pour_18 : decode cX9_pour 18 = .ok (.aload_n 0, 1) := by decide +kernel
theorem dX9_pour_19 : decode cX9_pour 19 = .ok (.getfield 32, 3) := by decide +kernel
theorem dX9_pour_22 : decode cX9_pour 22 = .ok (.iload_n 1, 1) := by decide +kernel
theorem dX9_pour_23 : decode cX9_pour 23 = .ok (.aaload, 1) := by decide +kernel
theorem dX9_pour_24 : decode cX9_pour 24 = .ok (.astore_n 3, 1) := by decide +kernel
theorem dX9_pour_25 : decode cX9_pour 25 = .ok (.aload_n 0, 1) := by decide +kernel
theorem dX9_pour_26 : decode cX9_pour 26 = .ok (.getfield 49, 3) := by decide +kernel
theorem dX9_pour_29 : decode cX9_pour 29 = .ok (.iload_n 2, 1) := by decide +kernel
theorem dX9_pour_30 : decode cX9_pour 30 = .ok (.aaload, 1) := by decide +kernel
theorem dX9_pour_31 : decode cX9_pour 31 = .ok (.astore 4, 2) := by decide +kernel
theorem dX9_pour_33 : decode cX9_pour 33 = .ok (.aload_n 3, 1) := by decide +kernel
theorem dX9_pour_34 : decode cX9_pour 34 = .ok (.getfield 146, 3) := by decide +kernel
theorem dX9_pour_37 : decode cX9_pour 37 = .ok (.ifCond .ne 33, 3) := by decide +kernel
theorem dX9_pour_40 : decode cX9_pour 40 = .ok (.aload_n 3, 1) := by decide +kernel
theorem dX9_pour_41 : decode cX9_pour 41 = .ok (.getfield 150, 3) := by decide +kernel
theorem dX9_pour_44 : decode cX9_pour 44 = .ok (.getfield 154, 3) := by decide +kernel
theorem dX9_pour_47 : decode cX9_pour 47 = .ok (.ifCond .eq 23, 3) := by decide +kernel
theorem dX9_pour_50 : decode cX9_pour 50 = .ok (.aload 4, 2) := by decide +kernel
theorem dX9_pour_52 : decode cX9_pour 52 = .ok (.aload_n 3, 1) := by decide +kernel
theorem dX9_pour_53 : decode cX9_pour 53 = .ok (.getfield 150, 3) := by decide +kernel
theorem dX9_pour_56 : decode cX9_pour 56 = .ok (.aload_n 0, 1) := by decide +kernel
theorem dX9_pour_57 : decode cX9_pour 57 = .ok (.getfield 12, 3) := by decide +kernel
theorem dX9_pour_60 : decode cX9_pour 60 = .ok (.aload_n 0, 1) := by decide +kernel
theorem dX9_pour_61 : decode cX9_pour 61 = .ok (.getfield 71, 3) := by decide +kernel
theorem dX9_pour_64 : decode cX9_pour 64 = .ok (.invokevirtual 209, 3) := by decide +kernel
theorem dX9_pour_67 : decode cX9_pour 67 = .ok (.ifCond .ne 6, 3) := by decide +kernel
theorem dX9_pour_70 : decode cX9_pour 70 = .ok (.bipush (-4), 2) := by decide +kernel
theorem dX9_pour_72 : decode cX9_pour 72 = .ok (.ireturn, 1) := by decide +kernel
theorem dX9_pour_73 : decode cX9_pour 73 = .ok (.aload 4, 2) := by decide +kernel
theorem dX9_pour_75 : decode cX9_pour 75 = .ok (.getfield 202, 3) := by decide +kernel
theorem dX9_pour_78 : decode cX9_pour 78 = .ok (.aload_n 3, 1) := by decide +kernel
theorem dX9_pour_79 : decode cX9_pour 79 = .ok (.getfield 150, 3) := by decide +kernel
theorem dX9_pour_82 : decode cX9_pour 82 = .ok (.getfield 154, 3) := by decide +kernel
theorem dX9_pour_85 : decode cX9_pour 85 = .ok (.iadd, 1) := by decide +kernel
theorem dX9_pour_86 : decode cX9_pour 86 = .ok (.aload 4, 2) := by decide +kernel
theorem dX9_pour_88 : decode cX9_pour 88 = .ok (.getfield 205, 3) := by decide +kernel
theorem dX9_pour_91 : decode cX9_pour 91 = .ok (.if_icmp .le 6, 3) := by decide +kernel
theorem dX9_pour_94 : decode cX9_pour 94 = .ok (.bipush (-6), 2) := by decide +kernel
theorem dX9_pour_96 : decode cX9_pour 96 = .ok (.ireturn, 1) := by decide +kernel
theorem dX9_pour_97 : decode cX9_pour 97 = .ok (.aload 4, 2) := by decide +kernel
theorem dX9_pour_99 : decode cX9_pour 99 = .ok (.aload_n 3, 1) := by decide +kernel
theorem dX9_pour_100 : decode cX9_pour 100 = .ok (.getfield 150, 3) := by decide +kernel
theorem dX9_pour_103 : decode cX9_pour 103 = .ok (.iload_n 1, 1) := by decide +kernel
theorem dX9_pour_104 : decode cX9_pour 104 = .ok (.invokevirtual 213, 3) := by decide +kernel
theorem dX9_pour_107 : decode cX9_pour 107 = .ok (.aload_n 3, 1) := by decide +kernel
theorem dX9_pour_108 : decode cX9_pour 108 = .ok (.iconst 1, 1) := by decide +kernel
theorem dX9_pour_109 : decode cX9_pour 109 = .ok (.putfield 146, 3) := by decide +kernel
theorem dX9_pour_112 : decode cX9_pour 112 = .ok (.aload 4, 2) := by decide +kernel
theorem dX9_pour_114 : decode cX9_pour 114 = .ok (.getfield 202, 3) := by decide +kernel
theorem dX9_pour_117 : decode cX9_pour 117 = .ok (.ireturn, 1) := by decide +kernel
theorem dX9_clean_0 : decode cX9_clean 0 = .ok (.iload_n 1, 1) := by decide +kernel
theorem dX9_clean_1 : decode cX9_clean 1 = .ok (.invokestatic 198, 3) := by decide +kernel
theorem dX9_clean_4 : decode cX9_clean 4 = .ok (.ifCond .ne 6, 3) := by decide +kernel
theorem dX9_clean_7 : decode cX9_clean 7 = .ok (.bipush (-2), 2) := by decide +kernel
theorem dX9_clean_9 : decode cX9_clean 9 = .ok (.ireturn, 1) := by decide +kernel
theorem dX9_clean_10 : decode cX9_clean 10 = .ok (.aload_n 0, 1) := by decide +kernel
theorem dX9_clean_11 : decode cX9_clean 11 = .ok (.getfield 49, 3) := by decide +kernel
theorem dX9_clean_14 : decode cX9_clean 14 = .ok (.iload_n 1, 1) := by decide +kernel
theorem dX9_clean_15 : decode cX9_clean 15 = .ok (.aaload, 1) := by decide +kernel
theorem dX9_clean_16 : decode cX9_clean 16 = .ok (.astore_n 2, 1) := by decide +kernel
theorem dX9_clean_17 : decode cX9_clean 17 = .ok (.aload_n 2, 1) := by decide +kernel
theorem dX9_clean_18 : decode cX9_clean 18 = .ok (.getfield 202, 3) := by decide +kernel
theorem dX9_clean_21 : decode cX9_clean 21 = .ok (.ifCond .le 6, 3) := by decide +kernel
theorem dX9_clean_24 : decode cX9_clean 24 = .ok (.bipush (-4), 2) := by decide +kernel
theorem dX9_clean_26 : decode cX9_clean 26 = .ok (.ireturn, 1) := by decide +kernel
theorem dX9_clean_27 : decode cX9_clean 27 = .ok (.aload_n 2, 1) := by decide +kernel
theorem dX9_clean_28 : decode cX9_clean 28 = .ok (.getfield 217, 3) := by decide +kernel
theorem dX9_clean_31 : decode cX9_clean 31 = .ok (.ifCond .ne 5, 3) := by decide +kernel
theorem dX9_clean_34 : decode cX9_clean 34 = .ok (.iconst 0, 1) := by decide +kernel
theorem dX9_clean_35 : decode cX9_clean 35 = .ok (.ireturn, 1) := by decide +kernel
theorem dX9_clean_36 : decode cX9_clean 36 = .ok (.aload_n 2, 1) := by decide +kernel
theorem dX9_clean_37 : decode cX9_clean 37 = .ok (.iconst 0, 1) := by decide +kernel
theorem dX9_clean_38 : decode cX9_clean 38 = .ok (.putfield 217, 3) := by decide +kernel
theorem dX9_clean_41 : decode cX9_clean 41 = .ok (.aload_n 0, 1) := by decide +kernel
theorem dX9_clean_42 : decode cX9_clean 42 = .ok (.dup, 1) := by decide +kernel
theorem dX9_clean_43 : decode cX9_clean 43 = .ok (.getfield 74, 3) := by decide +kernel
theorem dX9_clean_46 : decode cX9_clean 46 = .ok (.iconst 1, 1) := by decide +kernel
theorem dX9_clean_47 : decode cX9_clean 47 = .ok (.iadd, 1) := by decide +kernel
theorem dX9_clean_48 : decode cX9_clean 48 = .ok (.putfield 74, 3) := by decide +kernel
theorem dX9_clean_51 : decode cX9_clean 51 = .ok (.iconst 1, 1) := by decide +kernel
theorem dX9_clean_52 : decode cX9_clean 52 = .ok (.ireturn, 1) := by decide +kernel
theorem dX9_fill_0 : decode cX9_fill 0 = .ok (.iload_n 1, 1) := by decide +kernel
theorem dX9_fill_1 : decode cX9_fill 1 = .ok (.invokestatic 198, 3) := by decide +kernel
theorem dX9_fill_4 : decode cX9_fill 4 = .ok (.ifCond .ne 6, 3) := by decide +kernel
theorem dX9_fill_7 : decode cX9_fill 7 = .ok (.bipush (-2), 2) := by decide +kernel
theorem dX9_fill_9 : decode cX9_fill 9 = .ok (.ireturn, 1) := by decide +kernel
theorem dX9_fill_10 : decode cX9_fill 10 = .ok (.iload_n 2, 1) := by decide +kernel
theorem dX9_fill_11 : decode cX9_fill 11 = .ok (.iconst 1, 1) := by decide +kernel
theorem dX9_fill_12 : decode cX9_fill 12 = .ok (.sipush 1000, 3) := by decide +kernel
theorem dX9_fill_15 : decode cX9_fill 15 = .ok (.invokestatic 97, 3) := by decide +kernel
theorem dX9_fill_18 : decode cX9_fill 18 = .ok (.ifCond .ne 6, 3) := by decide +kernel
theorem dX9_fill_21 : decode cX9_fill 21 = .ok (.bipush (-3), 2) := by decide +kernel
theorem dX9_fill_23 : decode cX9_fill 23 = .ok (.ireturn, 1) := by decide +kernel
theorem dX9_fill_24 : decode cX9_fill 24 = .ok (.aload_n 0, 1) := by decide +kernel
theorem dX9_fill_25 : decode cX9_fill 25 = .ok (.getfield 49, 3) := by decide +kernel
theorem dX9_fill_28 : decode cX9_fill 28 = .ok (.iload_n 1, 1) := by decide +kernel
theorem dX9_fill_29 : decode cX9_fill 29 = .ok (.aaload, 1) := by decide +kernel
theorem dX9_fill_30 : decode cX9_fill 30 = .ok (.getfield 202, 3) := by decide +kernel
theorem dX9_fill_33 : decode cX9_fill 33 = .ok (.iload_n 2, 1) := by decide +kernel
theorem dX9_fill_34 : decode cX9_fill 34 = .ok (.if_icmp .ge 6, 3) := by decide +kernel
theorem dX9_fill_37 : decode cX9_fill 37 = .ok (.bipush (-4), 2) := by decide +kernel
theorem dX9_fill_39 : decode cX9_fill 39 = .ok (.ireturn, 1) := by decide +kernel
theorem dX9_fill_40 : decode cX9_fill 40 = .ok (.aload_n 0, 1) := by decide +kernel
theorem dX9_fill_41 : decode cX9_fill 41 = .ok (.getfield 56, 3) := by decide +kernel
theorem dX9_fill_44 : decode cX9_fill 44 = .ok (.iload_n 2, 1) := by decide +kernel
theorem dX9_fill_45 : decode cX9_fill 45 = .ok (.iload_n 1, 1) := by decide +kernel
theorem dX9_fill_46 : decode cX9_fill 46 = .ok (.aload_n 0, 1) := by decide +kernel
theorem dX9_fill_47 : decode cX9_fill 47 = .ok (.getfield 19, 3) := by decide +kernel
theorem dX9_fill_50 : decode cX9_fill 50 = .ok (.getfield 112, 3) := by decide +kernel
theorem dX9_fill_53 : decode cX9_fill 53 = .ok (.aload_n 0, 1) := by decide +kernel
theorem dX9_fill_54 : decode cX9_fill 54 = .ok (.getfield 49, 3) := by decide +kernel
theorem dX9_fill_57 : decode cX9_fill 57 = .ok (.iload_n 1, 1) := by decide +kernel
theorem dX9_fill_58 : decode cX9_fill 58 = .ok (.aaload, 1) := by decide +kernel
theorem dX9_fill_59 : decode cX9_fill 59 = .ok (.invokevirtual 220, 3) := by decide +kernel
theorem dX9_fill_62 : decode cX9_fill 62 = .ok (.istore_n 3, 1) := by decide +kernel
theorem dX9_fill_63 : decode cX9_fill 63 = .ok (.iload_n 3, 1) := by decide +kernel
theorem dX9_fill_64 : decode cX9_fill 64 = .ok (.bipush (-6), 2) := by decide +kernel
theorem dX9_fill_66 : decode cX9_fill 66 = .ok (.if_icmp .eq 17, 3) := by decide +kernel
theorem dX9_fill_69 : decode cX9_fill 69 = .ok (.aload_n 0, 1) := by decide +kernel
theorem dX9_fill_70 : decode cX9_fill 70 = .ok (.getfield 49, 3) := by decide +kernel
theorem dX9_fill_73 : decode cX9_fill 73 = .ok (.iload_n 1, 1) := by decide +kernel
theorem dX9_fill_74 : decode cX9_fill 74 = .ok (.aaload, 1) := by decide +kernel
theorem dX9_fill_75 : decode cX9_fill 75 = .ok (.iload_n 2, 1) := by decide +kernel
theorem dX9_fill_76 : decode cX9_fill 76 = .ok (.aload_n 0, 1) := by decide +kernel
theorem dX9_fill_77 : decode cX9_fill 77 = .ok (.getfield 12, 3) := by decide +kernel
theorem dX9_fill_80 : decode cX9_fill 80 = .ok (.invokevirtual 223, 3) := by decide +kernel
theorem dX9_fill_83 : decode cX9_fill 83 = .ok (.iload_n 3, 1) := by decide +kernel
theorem dX9_fill_84 : decode cX9_fill 84 = .ok (.ireturn, 1) := by decide +kernel
theorem dX9_tank_0 : decode cX9_tank 0 = .ok (.iload_n 1, 1) := by decide +kernel
theorem dX9_tank_1 : decode cX9_tank 1 = .ok (.invokestatic 198, 3) := by decide +kernel
theorem dX9_tank_4 : decode cX9_tank 4 = .ok (.ifCond .ne 6, 3) := by decide +kernel
theorem dX9_tank_7 : decode cX9_tank 7 = .ok (.bipush (-2), 2) := by decide +kernel
theorem dX9_tank_9 : decode cX9_tank 9 = .ok (.ireturn, 1) := by decide +kernel
theorem dX9_tank_10 : decode cX9_tank 10 = .ok (.aload_n 0, 1) := by decide +kernel
theorem dX9_tank_11 : decode cX9_tank 11 = .ok (.getfield 49, 3) := by decide +kernel
theorem dX9_tank_14 : decode cX9_tank 14 = .ok (.iload_n 1, 1) := by decide +kernel
theorem dX9_tank_15 : decode cX9_tank 15 = .ok (.aaload, 1) := by decide +kernel
theorem dX9_tank_16 : decode cX9_tank 16 = .ok (.astore_n 3, 1) := by decide +kernel
theorem dX9_tank_17 : decode cX9_tank 17 = .ok (.iload_n 2, 1) := by decide +kernel
theorem dX9_tank_18 : decode cX9_tank 18 = .ok (.tableswitch 66 0 3 #[30, 35, 48, 61], 30) := by decide +kernel
theorem dX9_tank_48 : decode cX9_tank 48 = .ok (.aload_n 3, 1) := by decide +kernel
theorem dX9_tank_49 : decode cX9_tank 49 = .ok (.getfield 202, 3) := by decide +kernel
theorem dX9_tank_52 : decode cX9_tank 52 = .ok (.ireturn, 1) := by decide +kernel
theorem dX9_tank_53 : decode cX9_tank 53 = .ok (.aload_n 3, 1) := by decide +kernel
theorem dX9_tank_54 : decode cX9_tank 54 = .ok (.invokevirtual 227, 3) := by decide +kernel
theorem dX9_tank_57 : decode cX9_tank 57 = .ok (.ifCond .eq 7, 3) := by decide +kernel
theorem dX9_tank_60 : decode cX9_tank 60 = .ok (.iconst 1, 1) := by decide +kernel
theorem dX9_tank_61 : decode cX9_tank 61 = .ok (.goto 4, 3) := by decide +kernel
theorem dX9_tank_64 : decode cX9_tank 64 = .ok (.iconst 0, 1) := by decide +kernel
theorem dX9_tank_65 : decode cX9_tank 65 = .ok (.ireturn, 1) := by decide +kernel
theorem dX9_tank_66 : decode cX9_tank 66 = .ok (.aload_n 3, 1) := by decide +kernel
theorem dX9_tank_67 : decode cX9_tank 67 = .ok (.getfield 217, 3) := by decide +kernel
theorem dX9_tank_70 : decode cX9_tank 70 = .ok (.ifCond .eq 7, 3) := by decide +kernel
theorem dX9_tank_73 : decode cX9_tank 73 = .ok (.iconst 1, 1) := by decide +kernel
theorem dX9_tank_74 : decode cX9_tank 74 = .ok (.goto 4, 3) := by decide +kernel
theorem dX9_tank_77 : decode cX9_tank 77 = .ok (.iconst 0, 1) := by decide +kernel
theorem dX9_tank_78 : decode cX9_tank 78 = .ok (.ireturn, 1) := by decide +kernel
theorem dX9_tank_79 : decode cX9_tank 79 = .ok (.aload_n 3, 1) := by decide +kernel
theorem dX9_tank_80 : decode cX9_tank 80 = .ok (.getfield 205, 3) := by decide +kernel
theorem dX9_tank_83 : decode cX9_tank 83 = .ok (.ireturn, 1) := by decide +kernel
theorem dX9_tank_84 : decode cX9_tank 84 = .ok (.bipush (-3), 2) := by decide +kernel
theorem dX9_tank_86 : decode cX9_tank 86 = .ok (.ireturn, 1) := by decide +kernel
theorem dX9_tankShade_0 : decode cX9_tankShade 0 = .ok (.iload_n 1, 1) := by decide +kernel
theorem dX9_tankShade_1 : decode cX9_tankShade 1 = .ok (.invokestatic 198, 3) := by decide +kernel
theorem dX9_tankShade_4 : decode cX9_tankShade 4 = .ok (.ifCond .eq 10, 3) := by decide +kernel
theorem dX9_tankShade_7 : decode cX9_tankShade 7 = .ok (.iload_n 2, 1) := by decide +kernel
theorem dX9_tankShade_8 : decode cX9_tankShade 8 = .ok (.invokestatic 90, 3) := by decide +kernel
theorem dX9_tankShade_11 : decode cX9_tankShade 11 = .ok (.ifCond .ne 6, 3) := by decide +kernel
theorem dX9_tankShade_14 : decode cX9_tankShade 14 = .ok (.bipush (-2), 2) := by decide +kernel
theorem dX9_tankShade_16 : decode cX9_tankShade 16 = .ok (.ireturn, 1) := by decide +kernel
theorem dX9_tankShade_17 : decode cX9_tankShade 17 = .ok (.aload_n 0, 1) := by decide +kernel
theorem dX9_tankShade_18 : decode cX9_tankShade 18 = .ok (.getfield 49, 3) := by decide +kernel
theorem dX9_tankShade_21 : decode cX9_tankShade 21 = .ok (.iload_n 1, 1) := by decide +kernel
theorem dX9_tankShade_22 : decode cX9_tankShade 22 = .ok (.aaload, 1) := by decide +kernel
theorem dX9_tankShade_23 : decode cX9_tankShade 23 = .ok (.astore_n 3, 1) := by decide +kernel
theorem dX9_tankShade_24 : decode cX9_tankShade 24 = .ok (.aload_n 3, 1) := by decide +kernel
theorem dX9_tankShade_25 : decode cX9_tankShade 25 = .ok (.invokevirtual 227, 3) := by decide +kernel
theorem dX9_tankShade_28 : decode cX9_tankShade 28 = .ok (.ifCond .eq 6, 3) := by decide +kernel
theorem dX9_tankShade_31 : decode cX9_tankShade 31 = .ok (.bipush (-4), 2) := by decide +kernel
theorem dX9_tankShade_33 : decode cX9_tankShade 33 = .ok (.ireturn, 1) := by decide +kernel
theorem dX9_tankShade_34 : decode cX9_tankShade 34 = .ok (.aload_n 3, 1) := by decide +kernel
theorem dX9_tankShade_35 : decode cX9_tankShade 35 = .ok (.getfield 217, 3) := by decide +kernel
theorem dX9_tankShade_38 : decode cX9_tankShade 38 = .ok (.ifCond .eq 12, 3) := by decide +kernel
theorem dX9_tankShade_41 : decode cX9_tankShade 41 = .ok (.aload_n 3, 1) := by decide +kernel
theorem dX9_tankShade_42 : decode cX9_tankShade 42 = .ok (.getfield 231, 3) := by decide +kernel
theorem dX9_tankShade_45 : decode cX9_tankShade 45 = .ok (.iload_n 2, 1) := by decide +kernel
theorem dX9_tankShade_46 : decode cX9_tankShade 46 = .ok (.iaload, 1) := by decide +kernel
theorem dX9_tankShade_47 : decode cX9_tankShade 47 = .ok (.goto 15, 3) := by decide +kernel
theorem dX9_tankShade_50 : decode cX9_tankShade 50 = .ok (.aload_n 0, 1) := by decide +kernel
theorem dX9_tankShade_51 : decode cX9_tankShade 51 = .ok (.getfield 12, 3) := by decide +kernel
theorem dX9_tankShade_54 : decode cX9_tankShade 54 = .ok (.aload_n 3, 1) := by decide +kernel
theorem dX9_tankShade_55 : decode cX9_tankShade 55 = .ok (.getfield 234, 3) := by decide +kernel
theorem dX9_tankShade_58 : decode cX9_tankShade 58 = .ok (.iload_n 2, 1) := by decide +kernel
theorem dX9_tankShade_59 : decode cX9_tankShade 59 = .ok (.invokevirtual 186, 3) := by decide +kernel
theorem dX9_tankShade_62 : decode cX9_tankShade 62 = .ok (.ireturn, 1) := by decide +kernel
theorem dX9_drum_0 : decode cX9_drum 0 = .ok (.aload_n 0, 1) := by decide +kernel
theorem dX9_drum_1 : decode cX9_drum 1 = .ok (.getfield 56, 3) := by decide +kernel
theorem dX9_drum_4 : decode cX9_drum 4 = .ok (.iload_n 1, 1) := by decide +kernel
theorem dX9_drum_5 : decode cX9_drum 5 = .ok (.invokevirtual 235, 3) := by decide +kernel
theorem dX9_drum_8 : decode cX9_drum 8 = .ok (.ifCond .ne 6, 3) := by decide +kernel
theorem dX9_drum_11 : decode cX9_drum 11 = .ok (.bipush (-2), 2) := by decide +kernel
theorem dX9_drum_13 : decode cX9_drum 13 = .ok (.ireturn, 1) := by decide +kernel
theorem dX9_drum_14 : decode cX9_drum 14 = .ok (.iload_n 2, 1) := by decide +kernel
theorem dX9_drum_15 : decode cX9_drum 15 = .ok (.tableswitch 89 0 4 #[33, 43, 53, 63, 76], 33) := by decide +kernel
theorem dX9_drum_48 : decode cX9_drum 48 = .ok (.aload_n 0, 1) := by decide +kernel
theorem dX9_drum_49 : decode cX9_drum 49 = .ok (.getfield 56, 3) := by decide +kernel
theorem dX9_drum_52 : decode cX9_drum 52 = .ok (.getfield 236, 3) := by decide +kernel
theorem dX9_drum_55 : decode cX9_drum 55 = .ok (.iload_n 1, 1) := by decide +kernel
theorem dX9_drum_56 : decode cX9_drum 56 = .ok (.iaload, 1) := by decide +kernel
theorem dX9_drum_57 : decode cX9_drum 57 = .ok (.ireturn, 1) := by decide +kernel
theorem dX9_drum_58 : decode cX9_drum 58 = .ok (.aload_n 0, 1) := by decide +kernel
theorem dX9_drum_59 : decode cX9_drum 59 = .ok (.getfield 56, 3) := by decide +kernel
theorem dX9_drum_62 : decode cX9_drum 62 = .ok (.getfield 238, 3) := by decide +kernel
theorem dX9_drum_65 : decode cX9_drum 65 = .ok (.iload_n 1, 1) := by decide +kernel
theorem dX9_drum_66 : decode cX9_drum 66 = .ok (.iaload, 1) := by decide +kernel
theorem dX9_drum_67 : decode cX9_drum 67 = .ok (.ireturn, 1) := by decide +kernel
theorem dX9_drum_68 : decode cX9_drum 68 = .ok (.aload_n 0, 1) := by decide +kernel
theorem dX9_drum_69 : decode cX9_drum 69 = .ok (.getfield 56, 3) := by decide +kernel
theorem dX9_drum_72 : decode cX9_drum 72 = .ok (.getfield 241, 3) := by decide +kernel
theorem dX9_drum_75 : decode cX9_drum 75 = .ok (.iload_n 1, 1) := by decide +kernel
theorem dX9_drum_76 : decode cX9_drum 76 = .ok (.iaload, 1) := by decide +kernel
theorem dX9_drum_77 : decode cX9_drum 77 = .ok (.ireturn, 1) := by decide +kernel
theorem dX9_drum_78 : decode cX9_drum 78 = .ok (.aload_n 0, 1) := by decide +kernel
theorem dX9_drum_79 : decode cX9_drum 79 = .ok (.getfield 56, 3) := by decide +kernel
theorem dX9_drum_82 : decode cX9_drum 82 = .ok (.getfield 244, 3) := by decide +kernel
theorem dX9_drum_85 : decode cX9_drum 85 = .ok (.iload_n 1, 1) := by decide +kernel
theorem dX9_drum_86 : decode cX9_drum 86 = .ok (.iaload, 1) := by decide +kernel
theorem dX9_drum_87 : decode cX9_drum 87 = .ok (.invokestatic 246, 3) := by decide +kernel
theorem dX9_drum_90 : decode cX9_drum 90 = .ok (.ireturn, 1) := by decide +kernel
theorem dX9_drum_91 : decode cX9_drum 91 = .ok (.aload_n 0, 1) := by decide +kernel
theorem dX9_drum_92 : decode cX9_drum 92 = .ok (.getfield 56, 3) := by decide +kernel
theorem dX9_drum_95 : decode cX9_drum 95 = .ok (.getfield 251, 3) := by decide +kernel
theorem dX9_drum_98 : decode cX9_drum 98 = .ok (.iload_n 1, 1) := by decide +kernel
theorem dX9_drum_99 : decode cX9_drum 99 = .ok (.laload, 1) := by decide +kernel
theorem dX9_drum_100 : decode cX9_drum 100 = .ok (.invokestatic 255, 3) := by decide +kernel
theorem dX9_drum_103 : decode cX9_drum 103 = .ok (.ireturn, 1) := by decide +kernel
theorem dX9_drum_104 : decode cX9_drum 104 = .ok (.bipush (-3), 2) := by decide +kernel
theorem dX9_drum_106 : decode cX9_drum 106 = .ok (.ireturn, 1) := by decide +kernel
theorem dX9_inDrum_0 : decode cX9_inDrum 0 = .ok (.aload_n 0, 1) := by decide +kernel
theorem dX9_inDrum_1 : decode cX9_inDrum 1 = .ok (.getfield 56, 3) := by decide +kernel
theorem dX9_inDrum_4 : decode cX9_inDrum 4 = .ok (.iload_n 1, 1) := by decide +kernel
theorem dX9_inDrum_5 : decode cX9_inDrum 5 = .ok (.invokevirtual 235, 3) := by decide +kernel
theorem dX9_inDrum_8 : decode cX9_inDrum 8 = .ok (.ifCond .eq 29, 3) := by decide +kernel
theorem dX9_inDrum_11 : decode cX9_inDrum 11 = .ok (.iload_n 2, 1) := by decide +kernel
theorem dX9_inDrum_12 : decode cX9_inDrum 12 = .ok (.ifCond .eq 17, 3) := by decide +kernel
theorem dX9_inDrum_15 : decode cX9_inDrum 15 = .ok (.aload_n 0, 1) := by decide +kernel
theorem dX9_inDrum_16 : decode cX9_inDrum 16 = .ok (.getfield 19, 3) := by decide +kernel
theorem dX9_inDrum_19 : decode cX9_inDrum 19 = .ok (.iload_n 3, 1) := by decide +kernel
theorem dX9_inDrum_20 : decode cX9_inDrum 20 = .ok (.invokevirtual 104, 3) := by decide +kernel
theorem dX9_inDrum_23 : decode cX9_inDrum 23 = .ok (.ifCond .eq 14, 3) := by decide +kernel
theorem dX9_inDrum_26 : decode cX9_inDrum 26 = .ok (.goto 14, 3) := by decide +kernel
theorem dX9_inDrum_29 : decode cX9_inDrum 29 = .ok (.aload_n 0, 1) := by decide +kernel
theorem dX9_inDrum_30 : decode cX9_inDrum 30 = .ok (.iload_n 3, 1) := by decide +kernel
theorem dX9_inDrum_31 : decode cX9_inDrum 31 = .ok (.invokevirtual 126, 3) := by decide +kernel
theorem dX9_inDrum_34 : decode cX9_inDrum 34 = .ok (.ifCond .ne 6, 3) := by decide +kernel
theorem dX9_inDrum_37 : decode cX9_inDrum 37 = .ok (.bipush (-2), 2) := by decide +kernel
theorem dX9_inDrum_39 : decode cX9_inDrum 39 = .ok (.ireturn, 1) := by decide +kernel
theorem dX9_inDrum_40 : decode cX9_inDrum 40 = .ok (.iload_n 2, 1) := by decide +kernel
theorem dX9_inDrum_41 : decode cX9_inDrum 41 = .ok (.ifCond .eq 19, 3) := by decide +kernel
theorem dX9_inDrum_44 : decode cX9_inDrum 44 = .ok (.aload_n 0, 1) := by decide +kernel
theorem dX9_inDrum_45 : decode cX9_inDrum 45 = .ok (.getfield 56, 3) := by decide +kernel
theorem dX9_inDrum_48 : decode cX9_inDrum 48 = .ok (.getfield 251, 3) := by decide +kernel
theorem dX9_inDrum_51 : decode cX9_inDrum 51 = .ok (.iload_n 1, 1) := by decide +kernel
theorem dX9_inDrum_52 : decode cX9_inDrum 52 = .ok (.laload, 1) := by decide +kernel
theorem dX9_inDrum_53 : decode cX9_inDrum 53 = .ok (.iload_n 3, 1) := by decide +kernel
theorem dX9_inDrum_54 : decode cX9_inDrum 54 = .ok (.invokestatic 260, 3) := by decide +kernel
theorem dX9_inDrum_57 : decode cX9_inDrum 57 = .ok (.goto 17, 3) := by decide +kernel
theorem dX9_inDrum_60 : decode cX9_inDrum 60 = .ok (.aload_n 0, 1) := by decide +kernel
theorem dX9_inDrum_61 : decode cX9_inDrum 61 = .ok (.getfield 56, 3) := by decide +kernel
theorem dX9_inDrum_64 : decode cX9_inDrum 64 = .ok (.getfield 244, 3) := by decide +kernel
theorem dX9_inDrum_67 : decode cX9_inDrum 67 = .ok (.iload_n 1, 1) := by decide +kernel
theorem dX9_inDrum_68 : decode cX9_inDrum 68 = .ok (.iaload, 1) := by decide +kernel
theorem dX9_inDrum_69 : decode cX9_inDrum 69 = .ok (.i2l, 1) := by decide +kernel
theorem dX9_inDrum_70 : decode cX9_inDrum 70 = .ok (.iload_n 3, 1) := by decide +kernel
theorem dX9_inDrum_71 : decode cX9_inDrum 71 = .ok (.invokestatic 260, 3) := by decide +kernel
theorem dX9_inDrum_74 : decode cX9_inDrum 74 = .ok (.istore 4, 2) := by decide +kernel
theorem dX9_inDrum_76 : decode cX9_inDrum 76 = .ok (.iload 4, 2) := by decide +kernel
theorem dX9_inDrum_78 : decode cX9_inDrum 78 = .ok (.ifCond .eq 7, 3) := by decide +kernel
theorem dX9_inDrum_81 : decode cX9_inDrum 81 = .ok (.iconst 1, 1) := by decide +kernel
theorem dX9_inDrum_82 : decode cX9_inDrum 82 = .ok (.goto 4, 3) := by decide +kernel
theorem dX9_inDrum_85 : decode cX9_inDrum 85 = .ok (.iconst 0, 1) := by decide +kernel
theorem dX9_inDrum_86 : decode cX9_inDrum 86 = .ok (.ireturn, 1) := by decide +kernel
theorem dX9_recall_0 : decode cX9_recall 0 = .ok (.aload_n 0, 1) := by decide +kernel
theorem dX9_recall_1 : decode cX9_recall 1 = .ok (.getfield 19, 3) := by decide +kernel
theorem dX9_recall_4 : decode cX9_recall 4 = .ok (.iload_n 1, 1) := by decide +kernel
theorem dX9_recall_5 : decode cX9_recall 5 = .ok (.invokevirtual 104, 3) := by decide +kernel
theorem dX9_recall_8 : decode cX9_recall 8 = .ok (.ifCond .ne 6, 3) := by decide +kernel
theorem dX9_recall_11 : decode cX9_recall 11 = .ok (.bipush (-2), 2) := by decide +kernel
theorem dX9_recall_13 : decode cX9_recall 13 = .ok (.ireturn, 1) := by decide +kernel
theorem dX9_recall_14 : decode cX9_recall 14 = .ok (.iload_n 2, 1) := by decide +kernel
theorem dX9_recall_15 : decode cX9_recall 15 = .ok (.tableswitch 46 0 2 #[25, 34, 40], 25) := by decide +kernel
theorem dX9_recall_40 : decode cX9_recall 40 = .ok (.aload_n 0, 1) := by decide +kernel
theorem dX9_recall_41 : decode cX9_recall 41 = .ok (.getfield 56, 3) := by decide +kernel
theorem dX9_recall_44 : decode cX9_recall 44 = .ok (.iload_n 1, 1) := by decide +kernel
theorem dX9_recall_45 : decode cX9_recall 45 = .ok (.invokevirtual 264, 3) := by decide +kernel
theorem dX9_recall_48 : decode cX9_recall 48 = .ok (.ireturn, 1) := by decide +kernel
theorem dX9_recall_49 : decode cX9_recall 49 = .ok (.aload_n 0, 1) := by decide +kernel
theorem dX9_recall_50 : decode cX9_recall 50 = .ok (.iload_n 1, 1) := by decide +kernel
theorem dX9_recall_51 : decode cX9_recall 51 = .ok (.invokevirtual 267, 3) := by decide +kernel
theorem dX9_recall_54 : decode cX9_recall 54 = .ok (.ireturn, 1) := by decide +kernel
theorem dX9_recall_55 : decode cX9_recall 55 = .ok (.aload_n 0, 1) := by decide +kernel
theorem dX9_recall_56 : decode cX9_recall 56 = .ok (.iload_n 1, 1) := by decide +kernel
theorem dX9_recall_57 : decode cX9_recall 57 = .ok (.invokevirtual 270, 3) := by decide +kernel
theorem dX9_recall_60 : decode cX9_recall 60 = .ok (.ireturn, 1) := by decide +kernel
theorem dX9_recall_61 : decode cX9_recall 61 = .ok (.bipush (-3), 2) := by decide +kernel
theorem dX9_recall_63 : decode cX9_recall 63 = .ok (.ireturn, 1) := by decide +kernel
theorem dX9_job_0 : decode cX9_job 0 = .ok (.iload_n 1, 1) := by decide +kernel
theorem dX9_job_1 : decode cX9_job 1 = .ok (.invokestatic 273, 3) := by decide +kernel
theorem dX9_job_4 : decode cX9_job 4 = .ok (.ifCond .ne 6, 3) := by decide +kernel
theorem dX9_job_7 : decode cX9_job 7 = .ok (.bipush (-2), 2) := by decide +kernel
theorem dX9_job_9 : decode cX9_job 9 = .ok (.ireturn, 1) := by decide +kernel
theorem dX9_job_10 : decode cX9_job 10 = .ok (.iload_n 2, 1) := by decide +kernel
theorem dX9_job_11 : decode cX9_job 11 = .ok (.iconst 1, 1) := by decide +kernel
theorem dX9_job_12 : decode cX9_job 12 = .ok (.bipush 100, 2) := by decide +kernel
theorem dX9_job_14 : decode cX9_job 14 = .ok (.invokestatic 97, 3) := by decide +kernel
theorem dX9_job_17 : decode cX9_job 17 = .ok (.ifCond .eq 25, 3) := by decide +kernel
theorem dX9_job_20 : decode cX9_job 20 = .ok (.iload_n 3, 1) := by decide +kernel
theorem dX9_job_21 : decode cX9_job 21 = .ok (.iconst 0, 1) := by decide +kernel
theorem dX9_job_22 : decode cX9_job 22 = .ok (.sipush 1000, 3) := by decide +kernel
theorem dX9_job_25 : decode cX9_job 25 = .ok (.invokestatic 97, 3) := by decide +kernel
theorem dX9_job_28 : decode cX9_job 28 = .ok (.ifCond .eq 14, 3) := by decide +kernel
theorem dX9_job_31 : decode cX9_job 31 = .ok (.iload 4, 2) := by decide +kernel
theorem dX9_job_33 : decode cX9_job 33 = .ok (.iconst 0, 1) := by decide +kernel
theorem dX9_job_34 : decode cX9_job 34 = .ok (.bipush 100, 2) := by decide +kernel
theorem dX9_job_36 : decode cX9_job 36 = .ok (.invokestatic 97, 3) := by decide +kernel
theorem dX9_job_39 : decode cX9_job 39 = .ok (.ifCond .ne 6, 3) := by decide +kernel
theorem dX9_job_42 : decode cX9_job 42 = .ok (.bipush (-3), 2) := by decide +kernel
theorem dX9_job_44 : decode cX9_job 44 = .ok (.ireturn, 1) := by decide +kernel
theorem dX9_job_45 : decode cX9_job 45 = .ok (.aload_n 0, 1) := by decide +kernel
theorem dX9_job_46 : decode cX9_job 46 = .ok (.getfield 63, 3) := by decide +kernel
theorem dX9_job_49 : decode cX9_job 49 = .ok (.iload_n 1, 1) := by decide +kernel
theorem dX9_job_50 : decode cX9_job 50 = .ok (.iload_n 2, 1) := by decide +kernel
theorem dX9_job_51 : decode cX9_job 51 = .ok (.iload_n 3, 1) := by decide +kernel
theorem dX9_job_52 : decode cX9_job 52 = .ok (.iload 4, 2) := by decide +kernel
theorem dX9_job_54 : decode cX9_job 54 = .ok (.invokevirtual 276, 3) := by decide +kernel
theorem dX9_job_57 : decode cX9_job 57 = .ok (.ireturn, 1) := by decide +kernel
theorem dX9_cleaning_0 : decode cX9_cleaning 0 = .ok (.iload_n 1, 1) := by decide +kernel
theorem dX9_cleaning_1 : decode cX9_cleaning 1 = .ok (.invokestatic 273, 3) := by decide +kernel
theorem dX9_cleaning_4 : decode cX9_cleaning 4 = .ok (.ifCond .eq 10, 3) := by decide +kernel
theorem dX9_cleaning_7 : decode cX9_cleaning 7 = .ok (.iload_n 2, 1) := by decide +kernel
theorem dX9_cleaning_8 : decode cX9_cleaning 8 = .ok (.invokestatic 273, 3) := by decide +kernel
theorem dX9_cleaning_11 : decode cX9_cleaning 11 = .ok (.ifCond .ne 6, 3) := by decide +kernel
theorem dX9_cleaning_14 : decode cX9_cleaning 14 = .ok (.bipush (-2), 2) := by decide +kernel
theorem dX9_cleaning_16 : decode cX9_cleaning 16 = .ok (.ireturn, 1) := by decide +kernel
theorem dX9_cleaning_17 : decode cX9_cleaning 17 = .ok (.iload_n 3, 1) := by decide +kernel
theorem dX9_cleaning_18 : decode cX9_cleaning 18 = .ok (.iconst 0, 1) := by decide +kernel
theorem dX9_cleaning_19 : decode cX9_cleaning 19 = .ok (.sipush 1000, 3) := by decide +kernel
theorem dX9_cleaning_22 : decode cX9_cleaning 22 = .ok (.invokestatic 97, 3) := by decide +kernel
theorem dX9_cleaning_25 : decode cX9_cleaning 25 = .ok (.ifCond .ne 6, 3) := by decide +kernel
theorem dX9_cleaning_28 : decode cX9_cleaning 28 = .ok (.bipush (-3), 2) := by decide +kernel
theorem dX9_cleaning_30 : decode cX9_cleaning 30 = .ok (.ireturn, 1) := by decide +kernel
theorem dX9_cleaning_31 : decode cX9_cleaning 31 = .ok (.aload_n 0, 1) := by decide +kernel
theorem dX9_cleaning_32 : decode cX9_cleaning 32 = .ok (.getfield 63, 3) := by decide +kernel
theorem dX9_cleaning_35 : decode cX9_cleaning 35 = .ok (.iload_n 1, 1) := by decide +kernel
theorem dX9_cleaning_36 : decode cX9_cleaning 36 = .ok (.iload_n 2, 1) := by decide +kernel
theorem dX9_cleaning_37 : decode cX9_cleaning 37 = .ok (.iload_n 3, 1) := by decide +kernel
theorem dX9_cleaning_38 : decode cX9_cleaning 38 = .ok (.invokevirtual 279, 3) := by decide +kernel
theorem dX9_cleaning_41 : decode cX9_cleaning 41 = .ok (.ireturn, 1) := by decide +kernel
theorem dX9_plan_0 : decode cX9_plan 0 = .ok (.iload_n 1, 1) := by decide +kernel
theorem dX9_plan_1 : decode cX9_plan 1 = .ok (.invokestatic 273, 3) := by decide +kernel
theorem dX9_plan_4 : decode cX9_plan 4 = .ok (.ifCond .eq 14, 3) := by decide +kernel
theorem dX9_plan_7 : decode cX9_plan 7 = .ok (.aload_n 0, 1) := by decide +kernel
theorem dX9_plan_8 : decode cX9_plan 8 = .ok (.getfield 63, 3) := by decide +kernel
theorem dX9_plan_11 : decode cX9_plan 11 = .ok (.iload_n 1, 1) := by decide +kernel
theorem dX9_plan_12 : decode cX9_plan 12 = .ok (.invokevirtual 282, 3) := by decide +kernel
theorem dX9_plan_15 : decode cX9_plan 15 = .ok (.goto 5, 3) := by decide +kernel
theorem dX9_plan_18 : decode cX9_plan 18 = .ok (.bipush (-2), 2) := by decide +kernel
theorem dX9_plan_20 : decode cX9_plan 20 = .ok (.ireturn, 1) := by decide +kernel
theorem dX9_planned_0 : decode cX9_planned 0 = .ok (.iload_n 1, 1) := by decide +kernel
theorem dX9_planned_1 : decode cX9_planned 1 = .ok (.ifCond .lt 26, 3) := by decide +kernel
theorem dX9_planned_4 : decode cX9_planned 4 = .ok (.iload_n 1, 1) := by decide +kernel
theorem dX9_planned_5 : decode cX9_planned 5 = .ok (.aload_n 0, 1) := by decide +kernel
theorem dX9_planned_6 : decode cX9_planned 6 = .ok (.getfield 63, 3) := by decide +kernel
theorem dX9_planned_9 : decode cX9_planned 9 = .ok (.getfield 285, 3) := by decide +kernel
theorem dX9_planned_12 : decode cX9_planned 12 = .ok (.if_icmp .ge 15, 3) := by decide +kernel
theorem dX9_planned_15 : decode cX9_planned 15 = .ok (.aload_n 0, 1) := by decide +kernel
theorem dX9_planned_16 : decode cX9_planned 16 = .ok (.getfield 63, 3) := by decide +kernel
theorem dX9_planned_19 : decode cX9_planned 19 = .ok (.getfield 288, 3) := by decide +kernel
theorem dX9_planned_22 : decode cX9_planned 22 = .ok (.iload_n 1, 1) := by decide +kernel
theorem dX9_planned_23 : decode cX9_planned 23 = .ok (.iaload, 1) := by decide +kernel
theorem dX9_planned_24 : decode cX9_planned 24 = .ok (.goto 5, 3) := by decide +kernel
theorem dX9_planned_27 : decode cX9_planned 27 = .ok (.bipush (-2), 2) := by decide +kernel
theorem dX9_planned_29 : decode cX9_planned 29 = .ok (.ireturn, 1) := by decide +kernel
theorem dX9_idle_0 : decode cX9_idle 0 = .ok (.aload_n 0, 1) := by decide +kernel
theorem dX9_idle_1 : decode cX9_idle 1 = .ok (.getfield 63, 3) := by decide +kernel
theorem dX9_idle_4 : decode cX9_idle 4 = .ok (.getfield 291, 3) := by decide +kernel
theorem dX9_idle_7 : decode cX9_idle 7 = .ok (.istore_n 1, 1) := by decide +kernel
theorem dX9_idle_8 : decode cX9_idle 8 = .ok (.aload_n 0, 1) := by decide +kernel
theorem dX9_idle_9 : decode cX9_idle 9 = .ok (.getfield 63, 3) := by decide +kernel
theorem dX9_idle_12 : decode cX9_idle 12 = .ok (.iconst 0, 1) := by decide +kernel
theorem dX9_idle_13 : decode cX9_idle 13 = .ok (.putfield 291, 3) := by decide +kernel
theorem dX9_idle_16 : decode cX9_idle 16 = .ok (.iload_n 1, 1) := by decide +kernel
theorem dX9_idle_17 : decode cX9_idle 17 = .ok (.ireturn, 1) := by decide +kernel
theorem dX9_count_0 : decode cX9_count 0 = .ok (.iload_n 1, 1) := by decide +kernel
theorem dX9_count_1 : decode cX9_count 1 = .ok (.tableswitch 105 0 7 #[47, 55, 63, 71, 76, 84, 92, 100], 47) := by decide +kernel
theorem dX9_count_48 : decode cX9_count 48 = .ok (.aload_n 0, 1) := by decide +kernel
theorem dX9_count_49 : decode cX9_count 49 = .ok (.getfield 12, 3) := by decide +kernel
theorem dX9_count_52 : decode cX9_count 52 = .ok (.getfield 292, 3) := by decide +kernel
theorem dX9_count_55 : decode cX9_count 55 = .ok (.ireturn, 1) := by decide +kernel
theorem dX9_count_56 : decode cX9_count 56 = .ok (.aload_n 0, 1) := by decide +kernel
theorem dX9_count_57 : decode cX9_count 57 = .ok (.getfield 19, 3) := by decide +kernel
theorem dX9_count_60 : decode cX9_count 60 = .ok (.getfield 293, 3) := by decide +kernel
theorem dX9_count_63 : decode cX9_count 63 = .ok (.ireturn, 1) := by decide +kernel
theorem dX9_count_64 : decode cX9_count 64 = .ok (.aload_n 0, 1) := by decide +kernel
theorem dX9_count_65 : decode cX9_count 65 = .ok (.getfield 26, 3) := by decide +kernel
theorem dX9_count_68 : decode cX9_count 68 = .ok (.getfield 294, 3) := by decide +kernel
theorem dX9_count_71 : decode cX9_count 71 = .ok (.ireturn, 1) := by decide +kernel
theorem dX9_count_72 : decode cX9_count 72 = .ok (.aload_n 0, 1) := by decide +kernel
theorem dX9_count_73 : decode cX9_count 73 = .ok (.getfield 36, 3) := by decide +kernel
theorem dX9_count_76 : decode cX9_count 76 = .ok (.ireturn, 1) := by decide +kernel
theorem dX9_count_77 : decode cX9_count 77 = .ok (.aload_n 0, 1) := by decide +kernel
theorem dX9_count_78 : decode cX9_count 78 = .ok (.getfield 56, 3) := by decide +kernel
theorem dX9_count_81 : decode cX9_count 81 = .ok (.getfield 295, 3) := by decide +kernel
theorem dX9_count_84 : decode cX9_count 84 = .ok (.ireturn, 1) := by decide +kernel
theorem dX9_count_85 : decode cX9_count 85 = .ok (.aload_n 0, 1) := by decide +kernel
theorem dX9_count_86 : decode cX9_count 86 = .ok (.getfield 63, 3) := by decide +kernel
theorem dX9_count_89 : decode cX9_count 89 = .ok (.getfield 291, 3) := by decide +kernel
theorem dX9_count_92 : decode cX9_count 92 = .ok (.ireturn, 1) := by decide +kernel
theorem dX9_count_93 : decode cX9_count 93 = .ok (.aload_n 0, 1) := by decide +kernel
theorem dX9_count_94 : decode cX9_count 94 = .ok (.getfield 19, 3) := by decide +kernel
theorem dX9_count_97 : decode cX9_count 97 = .ok (.getfield 112, 3) := by decide +kernel
theorem dX9_count_100 : decode cX9_count 100 = .ok (.ireturn, 1) := by decide +kernel
theorem dX9_count_101 : decode cX9_count 101 = .ok (.aload_n 0, 1) := by decide +kernel
theorem dX9_count_102 : decode cX9_count 102 = .ok (.getfield 74, 3) := by decide +kernel
theorem dX9_count_105 : decode cX9_count 105 = .ok (.ireturn, 1) := by decide +kernel
theorem dX9_count_106 : decode cX9_count 106 = .ok (.bipush (-3), 2) := by decide +kernel
theorem dX9_count_108 : decode cX9_count 108 = .ok (.ireturn, 1) := by decide +kernel
theorem dX9_hasBatch_0 : decode cX9_hasBatch 0 = .ok (.iload_n 1, 1) := by decide +kernel
theorem dX9_hasBatch_1 : decode cX9_hasBatch 1 = .ok (.ifCond .lt 15, 3) := by decide +kernel
theorem dX9_hasBatch_4 : decode cX9_hasBatch 4 = .ok (.iload_n 1, 1) := by decide +kernel
theorem dX9_hasBatch_5 : decode cX9_hasBatch 5 = .ok (.aload_n 0, 1) := by decide +kernel
theorem dX9_hasBatch_6 : decode cX9_hasBatch 6 = .ok (.getfield 36, 3) := by decide +kernel
theorem dX9_hasBatch_9 : decode cX9_hasBatch 9 = .ok (.if_icmp .ge 7, 3) := by decide +kernel
theorem dX9_hasBatch_12 : decode cX9_hasBatch 12 = .ok (.iconst 1, 1) := by decide +kernel
theorem dX9_hasBatch_13 : decode cX9_hasBatch 13 = .ok (.goto 4, 3) := by decide +kernel
theorem dX9_hasBatch_16 : decode cX9_hasBatch 16 = .ok (.iconst 0, 1) := by decide +kernel
theorem dX9_hasBatch_17 : decode cX9_hasBatch 17 = .ok (.ireturn, 1) := by decide +kernel
theorem dX9_takeWanted_0 : decode cX9_takeWanted 0 = .ok (.aload_n 1, 1) := by decide +kernel
theorem dX9_takeWanted_1 : decode cX9_takeWanted 1 = .ok (.getfield 146, 3) := by decide +kernel
theorem dX9_takeWanted_4 : decode cX9_takeWanted 4 = .ok (.ifCond .eq 6, 3) := by decide +kernel
theorem dX9_takeWanted_7 : decode cX9_takeWanted 7 = .ok (.bipush (-4), 2) := by decide +kernel
theorem dX9_takeWanted_9 : decode cX9_takeWanted 9 = .ok (.ireturn, 1) := by decide +kernel
theorem dX9_takeWanted_10 : decode cX9_takeWanted 10 = .ok (.aload_n 0, 1) := by decide +kernel
theorem dX9_takeWanted_11 : decode cX9_takeWanted 11 = .ok (.getfield 19, 3) := by decide +kernel
theorem dX9_takeWanted_14 : decode cX9_takeWanted 14 = .ok (.aload_n 0, 1) := by decide +kernel
theorem dX9_takeWanted_15 : decode cX9_takeWanted 15 = .ok (.getfield 67, 3) := by decide +kernel
theorem dX9_takeWanted_18 : decode cX9_takeWanted 18 = .ok (.invokevirtual 296, 3) := by decide +kernel
theorem dX9_takeWanted_21 : decode cX9_takeWanted 21 = .ok (.ifCond .eq 6, 3) := by decide +kernel
theorem dX9_takeWanted_24 : decode cX9_takeWanted 24 = .ok (.bipush (-5), 2) := by decide +kernel
theorem dX9_takeWanted_26 : decode cX9_takeWanted 26 = .ok (.ireturn, 1) := by decide +kernel
theorem dX9_takeWanted_27 : decode cX9_takeWanted 27 = .ok (.aload_n 1, 1) := by decide +kernel
theorem dX9_takeWanted_28 : decode cX9_takeWanted 28 = .ok (.getfield 150, 3) := by decide +kernel
theorem dX9_takeWanted_31 : decode cX9_takeWanted 31 = .ok (.getfield 154, 3) := by decide +kernel
theorem dX9_takeWanted_34 : decode cX9_takeWanted 34 = .ok (.aload_n 0, 1) := by decide +kernel
theorem dX9_takeWanted_35 : decode cX9_takeWanted 35 = .ok (.getfield 67, 3) := by decide +kernel
theorem dX9_takeWanted_38 : decode cX9_takeWanted 38 = .ok (.invokestatic 139, 3) := by decide +kernel
theorem dX9_takeWanted_41 : decode cX9_takeWanted 41 = .ok (.iadd, 1) := by decide +kernel
theorem dX9_takeWanted_42 : decode cX9_takeWanted 42 = .ok (.sipush 20000, 3) := by decide +kernel
theorem dX9_takeWanted_45 : decode cX9_takeWanted 45 = .ok (.if_icmp .le 6, 3) := by decide +kernel
theorem dX9_takeWanted_48 : decode cX9_takeWanted 48 = .ok (.bipush (-6), 2) := by decide +kernel
theorem dX9_takeWanted_50 : decode cX9_takeWanted 50 = .ok (.ireturn, 1) := by decide +kernel
theorem dX9_takeWanted_51 : decode cX9_takeWanted 51 = .ok (.iconst 0, 1) := by decide +kernel
theorem dX9_takeWanted_52 : decode cX9_takeWanted 52 = .ok (.istore_n 2, 1) := by decide +kernel
theorem dX9_takeWanted_53 : decode cX9_takeWanted 53 = .ok (.iload_n 2, 1) := by decide +kernel
theorem dX9_takeWanted_54 : decode cX9_takeWanted 54 = .ok (.bipush 8, 2) := by decide +kernel
theorem dX9_takeWanted_56 : decode cX9_takeWanted 56 = .ok (.if_icmp .ge 27, 3) := by decide +kernel
theorem dX9_takeWanted_59 : decode cX9_takeWanted 59 = .ok (.aload_n 0, 1) := by decide +kernel
theorem dX9_takeWanted_60 : decode cX9_takeWanted 60 = .ok (.getfield 19, 3) := by decide +kernel
theorem dX9_takeWanted_63 : decode cX9_takeWanted 63 = .ok (.iload_n 2, 1) := by decide +kernel
theorem dX9_takeWanted_64 : decode cX9_takeWanted 64 = .ok (.aload_n 0, 1) := by decide +kernel
theorem dX9_takeWanted_65 : decode cX9_takeWanted 65 = .ok (.getfield 67, 3) := by decide +kernel
theorem dX9_takeWanted_68 : decode cX9_takeWanted 68 = .ok (.iload_n 2, 1) := by decide +kernel
theorem dX9_takeWanted_69 : decode cX9_takeWanted 69 = .ok (.iaload, 1) := by decide +kernel
theorem dX9_takeWanted_70 : decode cX9_takeWanted 70 = .ok (.aload_n 1, 1) := by decide +kernel
theorem dX9_takeWanted_71 : decode cX9_takeWanted 71 = .ok (.getfield 150, 3) := by decide +kernel
theorem dX9_takeWanted_74 : decode cX9_takeWanted 74 = .ok (.invokevirtual 300, 3) := by decide +kernel
theorem dX9_takeWanted_77 : decode cX9_takeWanted 77 = .ok (.iinc 2 1, 3) := by decide +kernel
theorem dX9_takeWanted_80 : decode cX9_takeWanted 80 = .ok (.goto (-27), 3) := by decide +kernel
theorem dX9_takeWanted_83 : decode cX9_takeWanted 83 = .ok (.aload_n 1, 1) := by decide +kernel
theorem dX9_takeWanted_84 : decode cX9_takeWanted 84 = .ok (.getfield 150, 3) := by decide +kernel
theorem dX9_takeWanted_87 : decode cX9_takeWanted 87 = .ok (.getfield 154, 3) := by decide +kernel
theorem dX9_takeWanted_90 : decode cX9_takeWanted 90 = .ok (.ireturn, 1) := by decide +kernel
theorem dX9_openBatchesWith_0 : decode cX9_openBatchesWith 0 = .ok (.iconst 0, 1) := by decide +kernel
theorem dX9_openBatchesWith_1 : decode cX9_openBatchesWith 1 = .ok (.istore_n 2, 1) := by decide +kernel
theorem dX9_openBatchesWith_2 : decode cX9_openBatchesWith 2 = .ok (.iconst 0, 1) := by decide +kernel
theorem dX9_openBatchesWith_3 : decode cX9_openBatchesWith 3 = .ok (.istore_n 3, 1) := by decide +kernel
theorem dX9_openBatchesWith_4 : decode cX9_openBatchesWith 4 = .ok (.iload_n 3, 1) := by decide +kernel
theorem dX9_openBatchesWith_5 : decode cX9_openBatchesWith 5 = .ok (.aload_n 0, 1) := by decide +kernel
theorem dX9_openBatchesWith_6 : decode cX9_openBatchesWith 6 = .ok (.getfield 36, 3) := by decide +kernel
theorem dX9_openBatchesWith_9 : decode cX9_openBatchesWith 9 = .ok (.if_icmp .ge 43, 3) := by decide +kernel
theorem dX9_openBatchesWith_12 : decode cX9_openBatchesWith 12 = .ok (.aload_n 0, 1) := by decide +kernel
theorem dX9_openBatchesWith_13 : decode cX9_openBatchesWith 13 = .ok (.getfield 32, 3) := by decide +kernel
theorem dX9_openBatchesWith_16 : decode cX9_openBatchesWith 16 = .ok (.iload_n 3, 1) := by decide +kernel
theorem dX9_openBatchesWith_17 : decode cX9_openBatchesWith 17 = .ok (.aaload, 1) := by decide +kernel
theorem dX9_openBatchesWith_18 : decode cX9_openBatchesWith 18 = .ok (.getfield 146, 3) := by decide +kernel
theorem dX9_openBatchesWith_21 : decode cX9_openBatchesWith 21 = .ok (.ifCond .ne 25, 3) := by decide +kernel
theorem dX9_openBatchesWith_24 : decode cX9_openBatchesWith 24 = .ok (.aload_n 0, 1) := by decide +kernel
theorem dX9_openBatchesWith_25 : decode cX9_openBatchesWith 25 = .ok (.getfield 32, 3) := by decide +kernel
theorem dX9_openBatchesWith_28 : decode cX9_openBatchesWith 28 = .ok (.iload_n 3, 1) := by decide +kernel
theorem dX9_openBatchesWith_29 : decode cX9_openBatchesWith 29 = .ok (.aaload, 1) := by decide +kernel
theorem dX9_openBatchesWith_30 : decode cX9_openBatchesWith 30 = .ok (.getfield 150, 3) := by decide +kernel
theorem dX9_openBatchesWith_33 : decode cX9_openBatchesWith 33 = .ok (.getfield 304, 3) := by decide +kernel
theorem dX9_openBatchesWith_36 : decode cX9_openBatchesWith 36 = .ok (.iload_n 1, 1) := by decide +kernel
theorem dX9_openBatchesWith_37 : decode cX9_openBatchesWith 37 = .ok (.invokestatic 260, 3) := by decide +kernel
theorem dX9_openBatchesWith_40 : decode cX9_openBatchesWith 40 = .ok (.ifCond .eq 6, 3) := by decide +kernel
theorem dX9_openBatchesWith_43 : decode cX9_openBatchesWith 43 = .ok (.iinc 2 1, 3) := by decide +kernel
theorem dX9_openBatchesWith_46 : decode cX9_openBatchesWith 46 = .ok (.iinc 3 1, 3) := by decide +kernel
theorem dX9_openBatchesWith_49 : decode cX9_openBatchesWith 49 = .ok (.goto (-45), 3) := by decide +kernel
theorem dX9_openBatchesWith_52 : decode cX9_openBatchesWith 52 = .ok (.iload_n 2, 1) := by decide +kernel
theorem dX9_openBatchesWith_53 : decode cX9_openBatchesWith 53 = .ok (.ireturn, 1) := by decide +kernel
theorem dX9_tanksWith_0 : decode cX9_tanksWith 0 = .ok (.iconst 0, 1) := by decide +kernel
theorem dX9_tanksWith_1 : decode cX9_tanksWith 1 = .ok (.istore_n 2, 1) := by decide +kernel
theorem dX9_tanksWith_2 : decode cX9_tanksWith 2 = .ok (.iconst 0, 1) := by decide +kernel
theorem dX9_tanksWith_3 : decode cX9_tanksWith 3 = .ok (.istore_n 3, 1) := by decide +kernel
theorem dX9_tanksWith_4 : decode cX9_tanksWith 4 = .ok (.iload_n 3, 1) := by decide +kernel
theorem dX9_tanksWith_5 : decode cX9_tanksWith 5 = .ok (.iconst 5, 1) := by decide +kernel
theorem dX9_tanksWith_6 : decode cX9_tanksWith 6 = .ok (.if_icmp .ge 43, 3) := by decide +kernel
theorem dX9_tanksWith_9 : decode cX9_tanksWith 9 = .ok (.aload_n 0, 1) := by decide +kernel
theorem dX9_tanksWith_10 : decode cX9_tanksWith 10 = .ok (.getfield 49, 3) := by decide +kernel
theorem dX9_tanksWith_13 : decode cX9_tanksWith 13 = .ok (.iload_n 3, 1) := by decide +kernel
theorem dX9_tanksWith_14 : decode cX9_tanksWith 14 = .ok (.aaload, 1) := by decide +kernel
theorem dX9_tanksWith_15 : decode cX9_tanksWith 15 = .ok (.getfield 202, 3) := by decide +kernel
theorem dX9_tanksWith_18 : decode cX9_tanksWith 18 = .ok (.ifCond .le 25, 3) := by decide +kernel
theorem dX9_tanksWith_21 : decode cX9_tanksWith 21 = .ok (.aload_n 0, 1) := by decide +kernel
theorem dX9_tanksWith_22 : decode cX9_tanksWith 22 = .ok (.getfield 49, 3) := by decide +kernel
theorem dX9_tanksWith_25 : decode cX9_tanksWith 25 = .ok (.iload_n 3, 1) := by decide +kernel
theorem dX9_tanksWith_26 : decode cX9_tanksWith 26 = .ok (.aaload, 1) := by decide +kernel
theorem dX9_tanksWith_27 : decode cX9_tanksWith 27 = .ok (.getfield 234, 3) := by decide +kernel
theorem dX9_tanksWith_30 : decode cX9_tanksWith 30 = .ok (.getfield 304, 3) := by decide +kernel
theorem dX9_tanksWith_33 : decode cX9_tanksWith 33 = .ok (.iload_n 1, 1) := by decide +kernel
theorem dX9_tanksWith_34 : decode cX9_tanksWith 34 = .ok (.invokestatic 260, 3) := by decide +kernel
theorem dX9_tanksWith_37 : decode cX9_tanksWith 37 = .ok (.ifCond .eq 6, 3) := by decide +kernel
theorem dX9_tanksWith_40 : decode cX9_tanksWith 40 = .ok (.iinc 2 1, 3) := by decide +kernel
theorem dX9_tanksWith_43 : decode cX9_tanksWith 43 = .ok (.iinc 3 1, 3) := by decide +kernel
theorem dX9_tanksWith_46 : decode cX9_tanksWith 46 = .ok (.goto (-42), 3) := by decide +kernel
theorem dX9_tanksWith_49 : decode cX9_tanksWith 49 = .ok (.iload_n 2, 1) := by decide +kernel
theorem dX9_tanksWith_50 : decode cX9_tanksWith 50 = .ok (.ireturn, 1) := by decide +kernel
theorem dX9_within_0 : decode cX9_within 0 = .ok (.iload_n 0, 1) := by decide +kernel
theorem dX9_within_1 : decode cX9_within 1 = .ok (.iload_n 1, 1) := by decide +kernel
theorem dX9_within_2 : decode cX9_within 2 = .ok (.if_icmp .lt 12, 3) := by decide +kernel
theorem dX9_within_5 : decode cX9_within 5 = .ok (.iload_n 0, 1) := by decide +kernel
theorem dX9_within_6 : decode cX9_within 6 = .ok (.iload_n 2, 1) := by decide +kernel
theorem dX9_within_7 : decode cX9_within 7 = .ok (.if_icmp .gt 7, 3) := by decide +kernel
theorem dX9_within_10 : decode cX9_within 10 = .ok (.iconst 1, 1) := by decide +kernel
theorem dX9_within_11 : decode cX9_within 11 = .ok (.goto 4, 3) := by decide +kernel
theorem dX9_within_14 : decode cX9_within 14 = .ok (.iconst 0, 1) := by decide +kernel
theorem dX9_within_15 : decode cX9_within 15 = .ok (.ireturn, 1) := by decide +kernel
theorem dX9_isStrength_0 : decode cX9_isStrength 0 = .ok (.iload_n 0, 1) := by decide +kernel
theorem dX9_isStrength_1 : decode cX9_isStrength 1 = .ok (.iconst 0, 1) := by decide +kernel
theorem dX9_isStrength_2 : decode cX9_isStrength 2 = .ok (.sipush 1000, 3) := by decide +kernel
theorem dX9_isStrength_5 : decode cX9_isStrength 5 = .ok (.invokestatic 97, 3) := by decide +kernel
theorem dX9_isStrength_8 : decode cX9_isStrength 8 = .ok (.ireturn, 1) := by decide +kernel
theorem dX9_isBand_0 : decode cX9_isBand 0 = .ok (.iload_n 0, 1) := by decide +kernel
theorem dX9_isBand_1 : decode cX9_isBand 1 = .ok (.iconst 0, 1) := by decide +kernel
theorem dX9_isBand_2 : decode cX9_isBand 2 = .ok (.iconst 2, 1) := by decide +kernel
theorem dX9_isBand_3 : decode cX9_isBand 3 = .ok (.invokestatic 97, 3) := by decide +kernel
theorem dX9_isBand_6 : decode cX9_isBand 6 = .ok (.ireturn, 1) := by decide +kernel
theorem dX9_isTank_0 : decode cX9_isTank 0 = .ok (.iload_n 0, 1) := by decide +kernel
theorem dX9_isTank_1 : decode cX9_isTank 1 = .ok (.iconst 0, 1) := by decide +kernel
theorem dX9_isTank_2 : decode cX9_isTank 2 = .ok (.iconst 4, 1) := by decide +kernel
theorem dX9_isTank_3 : decode cX9_isTank 3 = .ok (.invokestatic 97, 3) := by decide +kernel
theorem dX9_isTank_6 : decode cX9_isTank 6 = .ok (.ireturn, 1) := by decide +kernel
theorem dX9_isHue_0 : decode cX9_isHue 0 = .ok (.iload_n 0, 1) := by decide +kernel
theorem dX9_isHue_1 : decode cX9_isHue 1 = .ok (.iconst 0, 1) := by decide +kernel
theorem dX9_isHue_2 : decode cX9_isHue 2 = .ok (.iconst 5, 1) := by decide +kernel
theorem dX9_isHue_3 : decode cX9_isHue 3 = .ok (.invokestatic 97, 3) := by decide +kernel
theorem dX9_isHue_6 : decode cX9_isHue 6 = .ok (.ireturn, 1) := by decide +kernel
theorem dX9_isAim_0 : decode cX9_isAim 0 = .ok (.iload_n 0, 1) := by decide +kernel
theorem dX9_isAim_1 : decode cX9_isAim 1 = .ok (.iconst 0, 1) := by decide +kernel
theorem dX9_isAim_2 : decode cX9_isAim 2 = .ok (.ldc 208, 2) := by decide +kernel
theorem dX9_isAim_4 : decode cX9_isAim 4 = .ok (.invokestatic 97, 3) := by decide +kernel
theorem dX9_isAim_7 : decode cX9_isAim 7 = .ok (.ifCond .eq 27, 3) := by decide +kernel
theorem dX9_isAim_10 : decode cX9_isAim 10 = .ok (.iload_n 1, 1) := by decide +kernel
theorem dX9_isAim_11 : decode cX9_isAim 11 = .ok (.iconst 0, 1) := by decide +kernel
theorem dX9_isAim_12 : decode cX9_isAim 12 = .ok (.ldc 208, 2) := by decide +kernel
theorem dX9_isAim_14 : decode cX9_isAim 14 = .ok (.invokestatic 97, 3) := by decide +kernel
theorem dX9_isAim_17 : decode cX9_isAim 17 = .ok (.ifCond .eq 17, 3) := by decide +kernel
theorem dX9_isAim_20 : decode cX9_isAim 20 = .ok (.iload_n 2, 1) := by decide +kernel
theorem dX9_isAim_21 : decode cX9_isAim 21 = .ok (.iconst 0, 1) := by decide +kernel
theorem dX9_isAim_22 : decode cX9_isAim 22 = .ok (.ldc 208, 2) := by decide +kernel
theorem dX9_isAim_24 : decode cX9_isAim 24 = .ok (.invokestatic 97, 3) := by decide +kernel
theorem dX9_isAim_27 : decode cX9_isAim 27 = .ok (.ifCond .eq 7, 3) := by decide +kernel
theorem dX9_isAim_30 : decode cX9_isAim 30 = .ok (.iconst 1, 1) := by decide +kernel
theorem dX9_isAim_31 : decode cX9_isAim 31 = .ok (.goto 4, 3) := by decide +kernel
theorem dX9_isAim_34 : decode cX9_isAim 34 = .ok (.iconst 0, 1) := by decide +kernel
theorem dX9_isAim_35 : decode cX9_isAim 35 = .ok (.ireturn, 1) := by decide +kernel
theorem dX9_hasBit_0 : decode cX9_hasBit 0 = .ok (.lload_n 0, 1) := by decide +kernel
theorem dX9_hasBit_1 : decode cX9_hasBit 1 = .ok (.iload_n 2, 1) := by decide +kernel
theorem dX9_hasBit_2 : decode cX9_hasBit 2 = .ok (.lshr, 1) := by decide +kernel
theorem dX9_hasBit_3 : decode cX9_hasBit 3 = .ok (.lconst 1, 1) := by decide +kernel
theorem dX9_hasBit_4 : decode cX9_hasBit 4 = .ok (.land, 1) := by decide +kernel
theorem dX9_hasBit_5 : decode cX9_hasBit 5 = .ok (.lconst 0, 1) := by decide +kernel
theorem dX9_hasBit_6 : decode cX9_hasBit 6 = .ok (.lcmp, 1) := by decide +kernel
theorem dX9_hasBit_7 : decode cX9_hasBit 7 = .ok (.ifCond .eq 7, 3) := by decide +kernel
theorem dX9_hasBit_10 : decode cX9_hasBit 10 = .ok (.iconst 1, 1) := by decide +kernel
theorem dX9_hasBit_11 : decode cX9_hasBit 11 = .ok (.goto 4, 3) := by decide +kernel
theorem dX9_hasBit_14 : decode cX9_hasBit 14 = .ok (.iconst 0, 1) := by decide +kernel
theorem dX9_hasBit_15 : decode cX9_hasBit 15 = .ok (.ireturn, 1) := by decide +kernel
theorem dX9_sum_0 : decode cX9_sum 0 = .ok (.iconst 0, 1) := by decide +kernel
theorem dX9_sum_1 : decode cX9_sum 1 = .ok (.istore_n 1, 1) := by decide +kernel
theorem dX9_sum_2 : decode cX9_sum 2 = .ok (.iconst 0, 1) := by decide +kernel
theorem dX9_sum_3 : decode cX9_sum 3 = .ok (.istore_n 2, 1) := by decide +kernel
theorem dX9_sum_4 : decode cX9_sum 4 = .ok (.iload_n 2, 1) := by decide +kernel
theorem dX9_sum_5 : decode cX9_sum 5 = .ok (.aload_n 0, 1) := by decide +kernel
theorem dX9_sum_6 : decode cX9_sum 6 = .ok (.arraylength, 1) := by decide +kernel
theorem dX9_sum_7 : decode cX9_sum 7 = .ok (.if_icmp .ge 15, 3) := by decide +kernel
theorem dX9_sum_10 : decode cX9_sum 10 = .ok (.iload_n 1, 1) := by decide +kernel
theorem dX9_sum_11 : decode cX9_sum 11 = .ok (.aload_n 0, 1) := by decide +kernel
theorem dX9_sum_12 : decode cX9_sum 12 = .ok (.iload_n 2, 1) := by decide +kernel
theorem dX9_sum_13 : decode cX9_sum 13 = .ok (.iaload, 1) := by decide +kernel
theorem dX9_sum_14 : decode cX9_sum 14 = .ok (.iadd, 1) := by decide +kernel
theorem dX9_sum_15 : decode cX9_sum 15 = .ok (.istore_n 1, 1) := by decide +kernel
theorem dX9_sum_16 : decode cX9_sum 16 = .ok (.iinc 2 1, 3) := by decide +kernel
theorem dX9_sum_19 : decode cX9_sum 19 = .ok (.goto (-15), 3) := by decide +kernel
theorem dX9_sum_22 : decode cX9_sum 22 = .ok (.iload_n 1, 1) := by decide +kernel
theorem dX9_sum_23 : decode cX9_sum 23 = .ok (.ireturn, 1) := by decide +kernel
theorem dX9_shadeOfSums_0 : decode cX9_shadeOfSums 0 = .ok (.lload_n 2, 1) := by decide +kernel
theorem dX9_shadeOfSums_1 : decode cX9_shadeOfSums 1 = .ok (.lconst 0, 1) := by decide +kernel
theorem dX9_shadeOfSums_2 : decode cX9_shadeOfSums 2 = .ok (.lcmp, 1) := by decide +kernel
theorem dX9_shadeOfSums_3 : decode cX9_shadeOfSums 3 = .ok (.ifCond .ne 6, 3) := by decide +kernel
theorem dX9_shadeOfSums_6 : decode cX9_shadeOfSums 6 = .ok (.ldc 208, 2) := by decide +kernel
theorem dX9_shadeOfSums_8 : decode cX9_shadeOfSums 8 = .ok (.ireturn, 1) := by decide +kernel
theorem dX9_shadeOfSums_9 : decode cX9_shadeOfSums 9 = .ok (.ldc2_w 307, 3) := by decide +kernel
theorem dX9_shadeOfSums_12 : decode cX9_shadeOfSums 12 = .ok (.ldc2_w 309, 3) := by decide +kernel
theorem dX9_shadeOfSums_15 : decode cX9_shadeOfSums 15 = .ok (.lload_n 0, 1) := by decide +kernel
theorem dX9_shadeOfSums_16 : decode cX9_shadeOfSums 16 = .ok (.lmul, 1) := by decide +kernel
theorem dX9_shadeOfSums_17 : decode cX9_shadeOfSums 17 = .ok (.lload_n 2, 1) := by decide +kernel
theorem dX9_shadeOfSums_18 : decode cX9_shadeOfSums 18 = .ok (.ldiv, 1) := by decide +kernel
theorem dX9_shadeOfSums_19 : decode cX9_shadeOfSums 19 = .ok (.invokestatic 311, 3) := by decide +kernel
theorem dX9_shadeOfSums_22 : decode cX9_shadeOfSums 22 = .ok (.l2i, 1) := by decide +kernel
theorem dX9_shadeOfSums_23 : decode cX9_shadeOfSums 23 = .ok (.ireturn, 1) := by decide +kernel
end
section
theorem dX10_init_0 : decode cX10_init 0 = .ok (.aload_n 0, 1) := by decide +kernel
theorem dX10_init_1 : decode cX10_init 1 = .ok (.invokespecial 1, 3) := by decide +kernel
theorem dX10_init_4 : decode cX10_init 4 = .ok (.aload_n 0, 1) := by decide +kernel
theorem dX10_init_5 : decode cX10_init 5 = .ok (.bipush 24, 2) := by decide +kernel
theorem dX10_init_7 : decode cX10_init 7 = .ok (.newarray .int, 2) := by decide +kernel
theorem dX10_init_9 : decode cX10_init 9 = .ok (.putfield 7, 3) := by decide +kernel
theorem dX10_init_12 : decode cX10_init 12 = .ok (.aload_n 0, 1) := by decide +kernel
theorem dX10_init_13 : decode cX10_init 13 = .ok (.bipush 24, 2) := by decide +kernel
theorem dX10_init_15 : decode cX10_init 15 = .ok (.newarray .int, 2) := by decide +kernel
theorem dX10_init_17 : decode cX10_init 17 = .ok (.putfield 13, 3) := by decide +kernel
theorem dX10_init_20 : decode cX10_init 20 = .ok (.aload_n 0, 1) := by decide +kernel
theorem dX10_init_21 : decode cX10_init 21 = .ok (.bipush 40, 2) := by decide +kernel
theorem dX10_init_23 : decode cX10_init 23 = .ok (.newarray .int, 2) := by decide +kernel
theorem dX10_init_25 : decode cX10_init 25 = .ok (.putfield 16, 3) := by decide +kernel
theorem dX10_init_28 : decode cX10_init 28 = .ok (.aload_n 0, 1) := by decide +kernel
theorem dX10_init_29 : decode cX10_init 29 = .ok (.bipush 40, 2) := by decide +kernel
theorem dX10_init_31 : decode cX10_init 31 = .ok (.newarray .int, 2) := by decide +kernel
theorem dX10_init_33 : decode cX10_init 33 = .ok (.putfield 19, 3) := by decide +kernel
theorem dX10_init_36 : decode cX10_init 36 = .ok (.aload_n 0, 1) := by decide +kernel
theorem dX10_init_37 : decode cX10_init 37 = .ok (.bipush 40, 2) := by decide +kernel
theorem dX10_init_39 : decode cX10_init 39 = .ok (.newarray .int, 2) := by decide +kernel
theorem dX10_init_41 : decode cX10_init 41 = .ok (.putfield 22, 3) := by decide +kernel
theorem dX10_init_44 : decode cX10_init 44 = .ok (.aload_n 0, 1) := by decide +kernel
theorem dX10_init_45 : decode cX10_init 45 = .ok (.bipush 12, 2) := by decide +kernel
theorem dX10_init_47 : decode cX10_init 47 = .ok (.newarray .int, 2) := by decide +kernel
theorem dX10_init_49 : decode cX10_init 49 = .ok (.putfield 25, 3) := by decide +kernel
theorem dX10_init_52 : decode cX10_init 52 = .ok (.aload_n 0, 1) := by decide +kernel
theorem dX10_init_53 : decode cX10_init 53 = .ok (.bipush 72, 2) := by decide +kernel
theorem dX10_init_55 : decode cX10_init 55 = .ok (.newarray .boolean, 2) := by decide +kernel
theorem dX10_init_57 : decode cX10_init 57 = .ok (.putfield 28, 3) := by decide +kernel
theorem dX10_init_60 : decode cX10_init 60 = .ok (.aload_n 0, 1) := by decide +kernel
theorem dX10_init_61 : decode cX10_init 61 = .ok (.bipush 72, 2) := by decide +kernel
theorem dX10_init_63 : decode cX10_init 63 = .ok (.newarray .int, 2) := by decide +kernel
theorem dX10_init_65 : decode cX10_init 65 = .ok (.putfield 32, 3) := by decide +kernel
theorem dX10_init_68 : decode cX10_init 68 = .ok (.aload_n 0, 1) := by decide +kernel
theorem dX10_init_69 : decode cX10_init 69 = .ok (.bipush 72, 2) := by decide +kernel
theorem dX10_init_71 : decode cX10_init 71 = .ok (.newarray .int, 2) := by decide +kernel
theorem dX10_init_73 : decode cX10_init 73 = .ok (.putfield 35, 3) := by decide +kernel
theorem dX10_init_76 : decode cX10_init 76 = .ok (.aload_n 0, 1) := by decide +kernel
theorem dX10_init_77 : decode cX10_init 77 = .ok (.bipush 96, 2) := by decide +kernel
theorem dX10_init_79 : decode cX10_init 79 = .ok (.newarray .int, 2) := by decide +kernel
theorem dX10_init_81 : decode cX10_init 81 = .ok (.putfield 38, 3) := by decide +kernel
theorem dX10_init_84 : decode cX10_init 84 = .ok (.aload_n 0, 1) := by decide +kernel
theorem dX10_init_85 : decode cX10_init 85 = .ok (.bipush 96, 2) := by decide +kernel
theorem dX10_init_87 : decode cX10_init 87 = .ok (.newarray .int, 2) := by decide +kernel
theorem dX10_init_89 : decode cX10_init 89 = .ok (.putfield 41, 3) := by decide +kernel
theorem dX10_init_92 : decode cX10_init 92 = .ok (.aload_n 0, 1) := by decide +kernel
theorem dX10_init_93 : decode cX10_init 93 = .ok (.sipush 192, 3) := by decide +kernel
theorem dX10_init_96 : decode cX10_init 96 = .ok (.newarray .int, 2) := by decide +kernel
theorem dX10_init_98 : decode cX10_init 98 = .ok (.putfield 44, 3) := by decide +kernel
theorem dX10_init_101 : decode cX10_init 101 = .ok (.aload_n 0, 1) := by decide +kernel
theorem dX10_init_102 : decode cX10_init 102 = .ok (.bipush 24, 2) := by decide +kernel
theorem dX10_init_104 : decode cX10_init 104 = .ok (.newarray .long, 2) := by decide +kernel
theorem dX10_init_106 : decode cX10_init 106 = .ok (.putfield 47, 3) := by decide +kernel
theorem dX10_init_109 : decode cX10_init 109 = .ok (.aload_n 0, 1) := by decide +kernel
theorem dX10_init_110 : decode cX10_init 110 = .ok (.bipush 24, 2) := by decide +kernel
theorem dX10_init_112 : decode cX10_init 112 = .ok (.newarray .boolean, 2) := by decide +kernel
theorem dX10_init_114 : decode cX10_init 114 = .ok (.putfield 51, 3) := by decide +kernel
theorem dX10_init_117 : decode cX10_init 117 = .ok (.aload_n 0, 1) := by decide +kernel
theorem dX10_init_118 : decode cX10_init 118 = .ok (.bipush 8, 2) := by decide +kernel
theorem dX10_init_120 : decode cX10_init 120 = .ok (.newarray .int, 2) := by decide +kernel
theorem dX10_init_122 : decode cX10_init 122 = .ok (.putfield 54, 3) := by decide +kernel
theorem dX10_init_125 : decode cX10_init 125 = .ok (.aload_n 0, 1) := by decide +kernel
theorem dX10_init_126 : decode cX10_init 126 = .ok (.bipush 8, 2) := by decide +kernel
theorem dX10_init_128 : decode cX10_init 128 = .ok (.newarray .int, 2) := by decide +kernel
theorem dX10_init_130 : decode cX10_init 130 = .ok (.putfield 57, 3) := by decide +kernel
theorem dX10_init_133 : decode cX10_init 133 = .ok (.aload_n 0, 1) := by decide +kernel
theorem dX10_init_134 : decode cX10_init 134 = .ok (.iconst 5, 1) := by decide +kernel
theorem dX10_init_135 : decode cX10_init 135 = .ok (.newarray .int, 2) := by decide +kernel
theorem dX10_init_137 : decode cX10_init 137 = .ok (.putfield 60, 3) := by decide +kernel
theorem dX10_init_140 : decode cX10_init 140 = .ok (.aload_n 0, 1) := by decide +kernel
theorem dX10_init_141 : decode cX10_init 141 = .ok (.iconst 5, 1) := by decide +kernel
theorem dX10_init_142 : decode cX10_init 142 = .ok (.newarray .int, 2) := by decide +kernel
theorem dX10_init_144 : decode cX10_init 144 = .ok (.putfield 63, 3) := by decide +kernel
theorem dX10_init_147 : decode cX10_init 147 = .ok (.aload_n 0, 1) := by decide +kernel
theorem dX10_init_148 : decode cX10_init 148 = .ok (.iconst 5, 1) := by decide +kernel
theorem dX10_init_149 : decode cX10_init 149 = .ok (.newarray .boolean, 2) := by decide +kernel
theorem dX10_init_151 : decode cX10_init 151 = .ok (.putfield 66, 3) := by decide +kernel
theorem dX10_init_154 : decode cX10_init 154 = .ok (.aload_n 0, 1) := by decide +kernel
theorem dX10_init_155 : decode cX10_init 155 = .ok (.iconst 5, 1) := by decide +kernel
theorem dX10_init_156 : decode cX10_init 156 = .ok (.newarray .boolean, 2) := by decide +kernel
theorem dX10_init_158 : decode cX10_init 158 = .ok (.putfield 69, 3) := by decide +kernel
theorem dX10_init_161 : decode cX10_init 161 = .ok (.aload_n 0, 1) := by decide +kernel
theorem dX10_init_162 : decode cX10_init 162 = .ok (.bipush 40, 2) := by decide +kernel
theorem dX10_init_164 : decode cX10_init 164 = .ok (.newarray .int, 2) := by decide +kernel
theorem dX10_init_166 : decode cX10_init 166 = .ok (.putfield 72, 3) := by decide +kernel
theorem dX10_init_169 : decode cX10_init 169 = .ok (.aload_n 0, 1) := by decide +kernel
theorem dX10_init_170 : decode cX10_init 170 = .ok (.iconst 5, 1) := by decide +kernel
theorem dX10_init_171 : decode cX10_init 171 = .ok (.newarray .long, 2) := by decide +kernel
theorem dX10_init_173 : decode cX10_init 173 = .ok (.putfield 75, 3) := by decide +kernel
theorem dX10_init_176 : decode cX10_init 176 = .ok (.aload_n 0, 1) := by decide +kernel
theorem dX10_init_177 : decode cX10_init 177 = .ok (.iconst 5, 1) := by decide +kernel
theorem dX10_init_178 : decode cX10_init 178 = .ok (.newarray .int, 2) := by decide +kernel
theorem dX10_init_180 : decode cX10_init 180 = .ok (.putfield 78, 3) := by decide +kernel
theorem dX10_init_183 : decode cX10_init 183 = .ok (.aload_n 0, 1) := by decide +kernel
theorem dX10_init_184 : decode cX10_init 184 = .ok (.bipush 15, 2) := by decide +kernel
theorem dX10_init_186 : decode cX10_init 186 = .ok (.newarray .int, 2) := by decide +kernel
theorem dX10_init_188 : decode cX10_init 188 = .ok (.putfield 81, 3) := by decide +kernel
theorem dX10_init_191 : decode cX10_init 191 = .ok (.aload_n 0, 1) := by decide +kernel
theorem dX10_init_192 : decode cX10_init 192 = .ok (.bipush 10, 2) := by decide +kernel
theorem dX10_init_194 : decode cX10_init 194 = .ok (.putfield 84, 3) := by decide +kernel
theorem dX10_init_197 : decode cX10_init 197 = .ok (.aload_n 0, 1) := by decide +kernel
theorem dX10_init_198 : decode cX10_init 198 = .ok (.bipush 100, 2) := by decide +kernel
theorem dX10_init_200 : decode cX10_init 200 = .ok (.newarray .int, 2) := by decide +kernel
theorem dX10_init_202 : decode cX10_init 202 = .ok (.putfield 88, 3) := by decide +kernel
theorem dX10_init_205 : decode cX10_init 205 = .ok (.aload_n 0, 1) := by decide +kernel
theorem dX10_init_206 : decode cX10_init 206 = .ok (.bipush 100, 2) := by decide +kernel
theorem dX10_init_208 : decode cX10_init 208 = .ok (.newarray .int, 2) := by decide +kernel
theorem dX10_init_210 : decode cX10_init 210 = .ok (.putfield 91, 3) := by decide +kernel
theorem dX10_init_213 : decode cX10_init 213 = .ok (.aload_n 0, 1) := by decide +kernel
theorem dX10_init_214 : decode cX10_init 214 = .ok (.bipush 100, 2) := by decide +kernel
theorem dX10_init_216 : decode cX10_init 216 = .ok (.newarray .int, 2) := by decide +kernel
theorem dX10_init_218 : decode cX10_init 218 = .ok (.putfield 94, 3) := by decide +kernel
theorem dX10_init_221 : decode cX10_init 221 = .ok (.aload_n 0, 1) := by decide +kernel
theorem dX10_init_222 : decode cX10_init 222 = .ok (.bipush 100, 2) := by decide +kernel
theorem dX10_init_224 : decode cX10_init 224 = .ok (.newarray .long, 2) := by decide +kernel
theorem dX10_init_226 : decode cX10_init 226 = .ok (.putfield 97, 3) := by decide +kernel
theorem dX10_init_229 : decode cX10_init 229 = .ok (.aload_n 0, 1) := by decide +kernel
theorem dX10_init_230 : decode cX10_init 230 = .ok (.bipush 100, 2) := by decide +kernel
theorem dX10_init_232 : decode cX10_init 232 = .ok (.newarray .int, 2) := by decide +kernel
theorem dX10_init_234 : decode cX10_init 234 = .ok (.putfield 100, 3) := by decide +kernel
theorem dX10_init_237 : decode cX10_init 237 = .ok (.aload_n 0, 1) := by decide +kernel
theorem dX10_init_238 : decode cX10_init 238 = .ok (.bipush 8, 2) := by decide +kernel
theorem dX10_init_240 : decode cX10_init 240 = .ok (.newarray .int, 2) := by decide +kernel
theorem dX10_init_242 : decode cX10_init 242 = .ok (.putfield 103, 3) := by decide +kernel
theorem dX10_init_245 : decode cX10_init 245 = .ok (.aload_n 0, 1) := by decide +kernel
theorem dX10_init_246 : decode cX10_init 246 = .ok (.bipush 8, 2) := by decide +kernel
theorem dX10_init_248 : decode cX10_init 248 = .ok (.newarray .int, 2) := by decide +kernel
theorem dX10_init_250 : decode cX10_init 250 = .ok (.putfield 106, 3) := by decide +kernel
theorem dX10_init_253 : decode cX10_init 253 = .ok (.aload_n 0, 1) := by decide +kernel
theorem dX10_init_254 : decode cX10_init 254 = .ok (.bipush 8, 2) := by decide +kernel
theorem dX10_init_256 : decode cX10_init 256 = .ok (.newarray .int, 2) := by decide +kernel
theorem dX10_init_258 : decode cX10_init 258 = .ok (.putfield 109, 3) := by decide +kernel
theorem dX10_init_261 : decode cX10_init 261 = .ok (.aload_n 0, 1) := by decide +kernel
theorem dX10_init_262 : decode cX10_init 262 = .ok (.bipush 8, 2) := by decide +kernel
theorem dX10_init_264 : decode cX10_init 264 = .ok (.newarray .int, 2) := by decide +kernel
theorem dX10_init_266 : decode cX10_init 266 = .ok (.putfield 112, 3) := by decide +kernel
theorem dX10_init_269 : decode cX10_init 269 = .ok (.aload_n 0, 1) := by decide +kernel
theorem dX10_init_270 : decode cX10_init 270 = .ok (.bipush 36, 2) := by decide +kernel
theorem dX10_init_272 : decode cX10_init 272 = .ok (.newarray .int, 2) := by decide +kernel
theorem dX10_init_274 : decode cX10_init 274 = .ok (.putfield 115, 3) := by decide +kernel
theorem dX10_init_277 : decode cX10_init 277 = .ok (.aload_n 0, 1) := by decide +kernel
theorem dX10_init_278 : decode cX10_init 278 = .ok (.bipush 8, 2) := by decide +kernel
theorem dX10_init_280 : decode cX10_init 280 = .ok (.newarray .int, 2) := by decide +kernel
theorem dX10_init_282 : decode cX10_init 282 = .ok (.putfield 118, 3) := by decide +kernel
theorem dX10_init_285 : decode cX10_init 285 = .ok (.aload_n 0, 1) := by decide +kernel
theorem dX10_init_286 : decode cX10_init 286 = .ok (.sipush 2304, 3) := by decide +kernel
theorem dX10_init_289 : decode cX10_init 289 = .ok (.newarray .int, 2) := by decide +kernel
theorem dX10_init_291 : decode cX10_init 291 = .ok (.putfield 121, 3) := by decide +kernel
theorem dX10_init_294 : decode cX10_init 294 = .ok (.aload_n 0, 1) := by decide +kernel
theorem dX10_init_295 : decode cX10_init 295 = .ok (.bipush 8, 2) := by decide +kernel
theorem dX10_init_297 : decode cX10_init 297 = .ok (.newarray .int, 2) := by decide +kernel
theorem dX10_init_299 : decode cX10_init 299 = .ok (.putfield 124, 3) := by decide +kernel
theorem dX10_init_302 : decode cX10_init 302 = .ok (.aload_n 0, 1) := by decide +kernel
theorem dX10_init_303 : decode cX10_init 303 = .ok (.bipush 8, 2) := by decide +kernel
theorem dX10_init_305 : decode cX10_init 305 = .ok (.newarray .int, 2) := by decide +kernel
theorem dX10_init_307 : decode cX10_init 307 = .ok (.putfield 127, 3) := by decide +kernel
theorem dX10_init_310 : decode cX10_init 310 = .ok (.iconst 0, 1) := by decide +kernel
theorem dX10_init_311 : decode cX10_init 311 = .ok (.istore_n 1, 1) := by decide +kernel
theorem dX10_init_312 : decode cX10_init 312 = .ok (.iload_n 1, 1) := by decide +kernel
theorem dX10_init_313 : decode cX10_init 313 = .ok (.iconst 5, 1) := by decide +kernel
theorem dX10_init_314 : decode cX10_init 314 = .ok (.if_icmp .ge 18, 3) := by decide +kernel
theorem dX10_init_317 : decode cX10_init 317 = .ok (.aload_n 0, 1) := by decide +kernel
theorem dX10_init_318 : decode cX10_init 318 = .ok (.getfield 60, 3) := by decide +kernel
theorem dX10_init_321 : decode cX10_init 321 = .ok (.iload_n 1, 1) := by decide +kernel
theorem dX10_init_322 : decode cX10_init 322 = .ok (.sipush 1000, 3) := by decide +kernel
theorem dX10_init_325 : decode cX10_init 325 = .ok (.iastore, 1) := by decide +kernel
theorem dX10_init_326 : decode cX10_init 326 = .ok (.iinc 1 1, 3) := by decide +kernel
theorem dX10_init_329 : decode cX10_init 329 = .ok (.goto (-17), 3) := by decide +kernel
theorem dX10_init_332 : decode cX10_init 332 = .ok (.return_, 1) := by decide +kernel
theorem dX10_in_0 : decode cX10_in 0 = .ok (.iload_n 0, 1) := by decide +kernel
theorem dX10_in_1 : decode cX10_in 1 = .ok (.iload_n 1, 1) := by decide +kernel
theorem dX10_in_2 : decode cX10_in 2 = .ok (.if_icmp .lt 12, 3) := by decide +kernel
theorem dX10_in_5 : decode cX10_in 5 = .ok (.iload_n 0, 1) := by decide +kernel
theorem dX10_in_6 : decode cX10_in 6 = .ok (.iload_n 2, 1) := by decide +kernel
theorem dX10_in_7 : decode cX10_in 7 = .ok (.if_icmp .gt 7, 3) := by decide +kernel
theorem dX10_in_10 : decode cX10_in 10 = .ok (.iconst 1, 1) := by decide +kernel
theorem dX10_in_11 : decode cX10_in 11 = .ok (.goto 4, 3) := by decide +kernel
theorem dX10_in_14 : decode cX10_in 14 = .ok (.iconst 0, 1) := by decide +kernel
theorem dX10_in_15 : decode cX10_in 15 = .ok (.ireturn, 1) := by decide +kernel
theorem dX10_isBase_0 : decode cX10_isBase 0 = .ok (.iload_n 1, 1) := by decide +kernel
theorem dX10_isBase_1 : decode cX10_isBase 1 = .ok (.iconst 0, 1) := by decide +kernel
theorem dX10_isBase_2 : decode cX10_isBase 2 = .ok (.aload_n 0, 1) := by decide +kernel
theorem dX10_isBase_3 : decode cX10_isBase 3 = .ok (.getfield 130, 3) := by decide +kernel
theorem dX10_isBase_6 : decode cX10_isBase 6 = .ok (.iconst 1, 1) := by decide +kernel
theorem dX10_isBase_7 : decode cX10_isBase 7 = .ok (.isub, 1) := by decide +kernel
theorem dX10_isBase_8 : decode cX10_isBase 8 = .ok (.invokestatic 133, 3) := by decide +kernel
theorem dX10_isBase_11 : decode cX10_isBase 11 = .ok (.ireturn, 1) := by decide +kernel
theorem dX10_isBatch_0 : decode cX10_isBatch 0 = .ok (.iload_n 1, 1) := by decide +kernel
theorem dX10_isBatch_1 : decode cX10_isBatch 1 = .ok (.iconst 0, 1) := by decide +kernel
theorem dX10_isBatch_2 : decode cX10_isBatch 2 = .ok (.aload_n 0, 1) := by decide +kernel
theorem dX10_isBatch_3 : decode cX10_isBatch 3 = .ok (.getfield 137, 3) := by decide +kernel
theorem dX10_isBatch_6 : decode cX10_isBatch 6 = .ok (.iconst 1, 1) := by decide +kernel
theorem dX10_isBatch_7 : decode cX10_isBatch 7 = .ok (.isub, 1) := by decide +kernel
theorem dX10_isBatch_8 : decode cX10_isBatch 8 = .ok (.invokestatic 133, 3) := by decide +kernel
theorem dX10_isBatch_11 : decode cX10_isBatch 11 = .ok (.ireturn, 1) := by decide +kernel
theorem dX10_isTank_0 : decode cX10_isTank 0 = .ok (.iload_n 0, 1) := by decide +kernel
theorem dX10_isTank_1 : decode cX10_isTank 1 = .ok (.iconst 0, 1) := by decide +kernel
theorem dX10_isTank_2 : decode cX10_isTank 2 = .ok (.iconst 4, 1) := by decide +kernel
theorem dX10_isTank_3 : decode cX10_isTank 3 = .ok (.invokestatic 133, 3) := by decide +kernel
theorem dX10_isTank_6 : decode cX10_isTank 6 = .ok (.ireturn, 1) := by decide +kernel
theorem dX10_base_0 : decode cX10_base 0 = .ok (.iload_n 1, 1) := by decide +kernel
theorem dX10_base_1 : decode cX10_base 1 = .ok (.iconst 0, 1) := by decide +kernel
theorem dX10_base_2 : decode cX10_base 2 = .ok (.sipush 1000, 3) := by decide +kernel
theorem dX10_base_5 : decode cX10_base 5 = .ok (.invokestatic 133, 3) := by decide +kernel
theorem dX10_base_8 : decode cX10_base 8 = .ok (.ifCond .eq 14, 3) := by decide +kernel
theorem dX10_base_11 : decode cX10_base 11 = .ok (.iload_n 2, 1) := by decide +kernel
theorem dX10_base_12 : decode cX10_base 12 = .ok (.iconst 0, 1) := by decide +kernel
theorem dX10_base_13 : decode cX10_base 13 = .ok (.sipush 1000, 3) := by decide +kernel
theorem dX10_base_16 : decode cX10_base 16 = .ok (.invokestatic 133, 3) := by decide +kernel
theorem dX10_base_19 : decode cX10_base 19 = .ok (.ifCond .ne 6, 3) := by decide +kernel
theorem dX10_base_22 : decode cX10_base 22 = .ok (.bipush (-3), 2) := by decide +kernel
theorem dX10_base_24 : decode cX10_base 24 = .ok (.ireturn, 1) := by decide +kernel
theorem dX10_base_25 : decode cX10_base 25 = .ok (.aload_n 0, 1) := by decide +kernel
theorem dX10_base_26 : decode cX10_base 26 = .ok (.getfield 130, 3) := by decide +kernel
theorem dX10_base_29 : decode cX10_base 29 = .ok (.bipush 8, 2) := by decide +kernel
theorem dX10_base_31 : decode cX10_base 31 = .ok (.if_icmp .ne 6, 3) := by decide +kernel
theorem dX10_base_34 : decode cX10_base 34 = .ok (.bipush (-6), 2) := by decide +kernel
theorem dX10_base_36 : decode cX10_base 36 = .ok (.ireturn, 1) := by decide +kernel
theorem dX10_base_37 : decode cX10_base 37 = .ok (.iconst 0, 1) := by decide +kernel
theorem dX10_base_38 : decode cX10_base 38 = .ok (.istore_n 3, 1) := by decide +kernel
theorem dX10_base_39 : decode cX10_base 39 = .ok (.iload_n 3, 1) := by decide +kernel
theorem dX10_base_40 : decode cX10_base 40 = .ok (.iconst 3, 1) := by decide +kernel
theorem dX10_base_41 : decode cX10_base 41 = .ok (.if_icmp .ge 39, 3) := by decide +kernel
theorem dX10_base_44 : decode cX10_base 44 = .ok (.aload_n 0, 1) := by decide +kernel
theorem dX10_base_45 : decode cX10_base 45 = .ok (.getfield 7, 3) := by decide +kernel
theorem dX10_base_48 : decode cX10_base 48 = .ok (.bipush 8, 2) := by decide +kernel
theorem dX10_base_50 : decode cX10_base 50 = .ok (.iload_n 3, 1) := by decide +kernel
theorem dX10_base_51 : decode cX10_base 51 = .ok (.imul, 1) := by decide +kernel
theorem dX10_base_52 : decode cX10_base 52 = .ok (.aload_n 0, 1) := by decide +kernel
theorem dX10_base_53 : decode cX10_base 53 = .ok (.getfield 130, 3) := by decide +kernel
theorem dX10_base_56 : decode cX10_base 56 = .ok (.iadd, 1) := by decide +kernel
theorem dX10_base_57 : decode cX10_base 57 = .ok (.iload_n 1, 1) := by decide +kernel
theorem dX10_base_58 : decode cX10_base 58 = .ok (.iastore, 1) := by decide +kernel
theorem dX10_base_59 : decode cX10_base 59 = .ok (.aload_n 0, 1) := by decide +kernel
theorem dX10_base_60 : decode cX10_base 60 = .ok (.getfield 13, 3) := by decide +kernel
theorem dX10_base_63 : decode cX10_base 63 = .ok (.bipush 8, 2) := by decide +kernel
theorem dX10_base_65 : decode cX10_base 65 = .ok (.iload_n 3, 1) := by decide +kernel
theorem dX10_base_66 : decode cX10_base 66 = .ok (.imul, 1) := by decide +kernel
theorem dX10_base_67 : decode cX10_base 67 = .ok (.aload_n 0, 1) := by decide +kernel
theorem dX10_base_68 : decode cX10_base 68 = .ok (.getfield 130, 3) := by decide +kernel
theorem dX10_base_71 : decode cX10_base 71 = .ok (.iadd, 1) := by decide +kernel
theorem dX10_base_72 : decode cX10_base 72 = .ok (.iload_n 2, 1) := by decide +kernel
theorem dX10_base_73 : decode cX10_base 73 = .ok (.iastore, 1) := by decide +kernel
theorem dX10_base_74 : decode cX10_base 74 = .ok (.iinc 3 1, 3) := by decide +kernel
theorem dX10_base_77 : decode cX10_base 77 = .ok (.goto (-38), 3) := by decide +kernel
theorem dX10_base_80 : decode cX10_base 80 = .ok (.aload_n 0, 1) := by decide +kernel
theorem dX10_base_81 : decode cX10_base 81 = .ok (.dup, 1) := by decide +kernel
theorem dX10_base_82 : decode cX10_base 82 = .ok (.getfield 130, 3) := by decide +kernel
theorem dX10_base_85 : decode cX10_base 85 = .ok (.iconst 1, 1) := by decide +kernel
theorem dX10_base_86 : decode cX10_base 86 = .ok (.iadd, 1) := by decide +kernel
theorem dX10_base_87 : decode cX10_base 87 = .ok (.putfield 130, 3) := by decide +kernel
theorem dX10_base_90 : decode cX10_base 90 = .ok (.aload_n 0, 1) := by decide +kernel
theorem dX10_base_91 : decode cX10_base 91 = .ok (.getfield 130, 3) := by decide +kernel
theorem dX10_base_94 : decode cX10_base 94 = .ok (.iconst 1, 1) := by decide +kernel
theorem dX10_base_95 : decode cX10_base 95 = .ok (.isub, 1) := by decide +kernel
theorem dX10_base_96 : decode cX10_base 96 = .ok (.ireturn, 1) := by decide +kernel
theorem dX10_band_0 : decode cX10_band 0 = .ok (.aload_n 0, 1) := by decide +kernel
theorem dX10_band_1 : decode cX10_band 1 = .ok (.iload_n 1, 1) := by decide +kernel
theorem dX10_band_2 : decode cX10_band 2 = .ok (.invokevirtual 140, 3) := by decide +kernel
theorem dX10_band_5 : decode cX10_band 5 = .ok (.ifCond .eq 12, 3) := by decide +kernel
theorem dX10_band_8 : decode cX10_band 8 = .ok (.iload_n 2, 1) := by decide +kernel
theorem dX10_band_9 : decode cX10_band 9 = .ok (.iconst 0, 1) := by decide +kernel
theorem dX10_band_10 : decode cX10_band 10 = .ok (.iconst 2, 1) := by decide +kernel
theorem dX10_band_11 : decode cX10_band 11 = .ok (.invokestatic 133, 3) := by decide +kernel
theorem dX10_band_14 : decode cX10_band 14 = .ok (.ifCond .ne 6, 3) := by decide +kernel
theorem dX10_band_17 : decode cX10_band 17 = .ok (.bipush (-2), 2) := by decide +kernel
theorem dX10_band_19 : decode cX10_band 19 = .ok (.ireturn, 1) := by decide +kernel
theorem dX10_band_20 : decode cX10_band 20 = .ok (.iload_n 3, 1) := by decide +kernel
theorem dX10_band_21 : decode cX10_band 21 = .ok (.iconst 0, 1) := by decide +kernel
theorem dX10_band_22 : decode cX10_band 22 = .ok (.sipush 1000, 3) := by decide +kernel
theorem dX10_band_25 : decode cX10_band 25 = .ok (.invokestatic 133, 3) := by decide +kernel
theorem dX10_band_28 : decode cX10_band 28 = .ok (.ifCond .eq 15, 3) := by decide +kernel
theorem dX10_band_31 : decode cX10_band 31 = .ok (.iload 4, 2) := by decide +kernel
theorem dX10_band_33 : decode cX10_band 33 = .ok (.iconst 0, 1) := by decide +kernel
theorem dX10_band_34 : decode cX10_band 34 = .ok (.sipush 1000, 3) := by decide +kernel
theorem dX10_band_37 : decode cX10_band 37 = .ok (.invokestatic 133, 3) := by decide +kernel
theorem dX10_band_40 : decode cX10_band 40 = .ok (.ifCond .ne 6, 3) := by decide +kernel
theorem dX10_band_43 : decode cX10_band 43 = .ok (.bipush (-3), 2) := by decide +kernel
theorem dX10_band_45 : decode cX10_band 45 = .ok (.ireturn, 1) := by decide +kernel
theorem dX10_band_46 : decode cX10_band 46 = .ok (.aload_n 0, 1) := by decide +kernel
theorem dX10_band_47 : decode cX10_band 47 = .ok (.getfield 7, 3) := by decide +kernel
theorem dX10_band_50 : decode cX10_band 50 = .ok (.bipush 8, 2) := by decide +kernel
theorem dX10_band_52 : decode cX10_band 52 = .ok (.iload_n 2, 1) := by decide +kernel
theorem dX10_band_53 : decode cX10_band 53 = .ok (.imul, 1) := by decide +kernel
theorem dX10_band_54 : decode cX10_band 54 = .ok (.iload_n 1, 1) := by decide +kernel
theorem dX10_band_55 : decode cX10_band 55 = .ok (.iadd, 1) := by decide +kernel
theorem dX10_band_56 : decode cX10_band 56 = .ok (.iload_n 3, 1) := by decide +kernel
theorem dX10_band_57 : decode cX10_band 57 = .ok (.iastore, 1) := by decide +kernel
theorem dX10_band_58 : decode cX10_band 58 = .ok (.aload_n 0, 1) := by decide +kernel
theorem dX10_band_59 : decode cX10_band 59 = .ok (.getfield 13, 3) := by decide +kernel
theorem dX10_band_62 : decode cX10_band 62 = .ok (.bipush 8, 2) := by decide +kernel
theorem dX10_band_64 : decode cX10_band 64 = .ok (.iload_n 2, 1) := by decide +kernel
theorem dX10_band_65 : decode cX10_band 65 = .ok (.imul, 1) := by decide +kernel
theorem dX10_band_66 : decode cX10_band 66 = .ok (.iload_n 1, 1) := by decide +kernel
theorem dX10_band_67 : decode cX10_band 67 = .ok (.iadd, 1) := by decide +kernel
theorem dX10_band_68 : decode cX10_band 68 = .ok (.iload 4, 2) := by decide +kernel
theorem dX10_band_70 : decode cX10_band 70 = .ok (.iastore, 1) := by decide +kernel
theorem dX10_band_71 : decode cX10_band 71 = .ok (.iconst 1, 1) := by decide +kernel
theorem dX10_band_72 : decode cX10_band 72 = .ok (.ireturn, 1) := by decide +kernel
theorem dX10_lot_0 : decode cX10_lot 0 = .ok (.aload_n 0, 1) := by decide +kernel
theorem dX10_lot_1 : decode cX10_lot 1 = .ok (.iload_n 1, 1) := by decide +kernel
theorem dX10_lot_2 : decode cX10_lot 2 = .ok (.invokevirtual 140, 3) := by decide +kernel
theorem dX10_lot_5 : decode cX10_lot 5 = .ok (.ifCond .ne 6, 3) := by decide +kernel
theorem dX10_lot_8 : decode cX10_lot 8 = .ok (.bipush (-2), 2) := by decide +kernel
theorem dX10_lot_10 : decode cX10_lot 10 = .ok (.ireturn, 1) := by decide +kernel
theorem dX10_lot_11 : decode cX10_lot 11 = .ok (.iload_n 2, 1) := by decide +kernel
theorem dX10_lot_12 : decode cX10_lot 12 = .ok (.iconst 1, 1) := by decide +kernel
theorem dX10_lot_13 : decode cX10_lot 13 = .ok (.sipush 20000, 3) := by decide +kernel
theorem dX10_lot_16 : decode cX10_lot 16 = .ok (.invokestatic 133, 3) := by decide +kernel
theorem dX10_lot_19 : decode cX10_lot 19 = .ok (.ifCond .eq 14, 3) := by decide +kernel
theorem dX10_lot_22 : decode cX10_lot 22 = .ok (.iload_n 3, 1) := by decide +kernel
theorem dX10_lot_23 : decode cX10_lot 23 = .ok (.iconst 0, 1) := by decide +kernel
theorem dX10_lot_24 : decode cX10_lot 24 = .ok (.sipush 10000, 3) := by decide +kernel
theorem dX10_lot_27 : decode cX10_lot 27 = .ok (.invokestatic 133, 3) := by decide +kernel
theorem dX10_lot_30 : decode cX10_lot 30 = .ok (.ifCond .ne 6, 3) := by decide +kernel
theorem dX10_lot_33 : decode cX10_lot 33 = .ok (.bipush (-3), 2) := by decide +kernel
theorem dX10_lot_35 : decode cX10_lot 35 = .ok (.ireturn, 1) := by decide +kernel
theorem dX10_lot_36 : decode cX10_lot 36 = .ok (.aload_n 0, 1) := by decide +kernel
theorem dX10_lot_37 : decode cX10_lot 37 = .ok (.getfield 144, 3) := by decide +kernel
theorem dX10_lot_40 : decode cX10_lot 40 = .ok (.bipush 40, 2) := by decide +kernel
theorem dX10_lot_42 : decode cX10_lot 42 = .ok (.if_icmp .ne 6, 3) := by decide +kernel
theorem dX10_lot_45 : decode cX10_lot 45 = .ok (.bipush (-6), 2) := by decide +kernel
theorem dX10_lot_47 : decode cX10_lot 47 = .ok (.ireturn, 1) := by decide +kernel
theorem dX10_lot_48 : decode cX10_lot 48 = .ok (.aload_n 0, 1) := by decide +kernel
theorem dX10_lot_49 : decode cX10_lot 49 = .ok (.getfield 16, 3) := by decide +kernel
theorem dX10_lot_52 : decode cX10_lot 52 = .ok (.aload_n 0, 1) := by decide +kernel
theorem dX10_lot_53 : decode cX10_lot 53 = .ok (.getfield 144, 3) := by decide +kernel
theorem dX10_lot_56 : decode cX10_lot 56 = .ok (.iload_n 1, 1) := by decide +kernel
theorem dX10_lot_57 : decode cX10_lot 57 = .ok (.iastore, 1) := by decide +kernel
theorem dX10_lot_58 : decode cX10_lot 58 = .ok (.aload_n 0, 1) := by decide +kernel
theorem dX10_lot_59 : decode cX10_lot 59 = .ok (.getfield 19, 3) := by decide +kernel
theorem dX10_lot_62 : decode cX10_lot 62 = .ok (.aload_n 0, 1) := by decide +kernel
theorem dX10_lot_63 : decode cX10_lot 63 = .ok (.getfield 144, 3) := by decide +kernel
theorem dX10_lot_66 : decode cX10_lot 66 = .ok (.iload_n 2, 1) := by decide +kernel
theorem dX10_lot_67 : decode cX10_lot 67 = .ok (.iastore, 1) := by decide +kernel
theorem dX10_lot_68 : decode cX10_lot 68 = .ok (.aload_n 0, 1) := by decide +kernel
theorem dX10_lot_69 : decode cX10_lot 69 = .ok (.getfield 22, 3) := by decide +kernel
theorem dX10_lot_72 : decode cX10_lot 72 = .ok (.aload_n 0, 1) := by decide +kernel
theorem dX10_lot_73 : decode cX10_lot 73 = .ok (.getfield 144, 3) := by decide +kernel
theorem dX10_lot_76 : decode cX10_lot 76 = .ok (.iload_n 3, 1) := by decide +kernel
theorem dX10_lot_77 : decode cX10_lot 77 = .ok (.iastore, 1) := by decide +kernel
theorem dX10_lot_78 : decode cX10_lot 78 = .ok (.aload_n 0, 1) := by decide +kernel
theorem dX10_lot_79 : decode cX10_lot 79 = .ok (.dup, 1) := by decide +kernel
theorem dX10_lot_80 : decode cX10_lot 80 = .ok (.getfield 144, 3) := by decide +kernel
theorem dX10_lot_83 : decode cX10_lot 83 = .ok (.iconst 1, 1) := by decide +kernel
theorem dX10_lot_84 : decode cX10_lot 84 = .ok (.iadd, 1) := by decide +kernel
theorem dX10_lot_85 : decode cX10_lot 85 = .ok (.putfield 144, 3) := by decide +kernel
theorem dX10_lot_88 : decode cX10_lot 88 = .ok (.aload_n 0, 1) := by decide +kernel
theorem dX10_lot_89 : decode cX10_lot 89 = .ok (.getfield 144, 3) := by decide +kernel
theorem dX10_lot_92 : decode cX10_lot 92 = .ok (.iconst 1, 1) := by decide +kernel
theorem dX10_lot_93 : decode cX10_lot 93 = .ok (.isub, 1) := by decide +kernel
theorem dX10_lot_94 : decode cX10_lot 94 = .ok (.ireturn, 1) := by decide +kernel
theorem dX10_left_0 : decode cX10_left 0 = .ok (.iload_n 1, 1) := by decide +kernel
theorem dX10_left_1 : decode cX10_left 1 = .ok (.iconst 0, 1) := by decide +kernel
theorem dX10_left_2 : decode cX10_left 2 = .ok (.aload_n 0, 1) := by decide +kernel
theorem dX10_left_3 : decode cX10_left 3 = .ok (.getfield 144, 3) := by decide +kernel
theorem dX10_left_6 : decode cX10_left 6 = .ok (.iconst 1, 1) := by decide +kernel
theorem dX10_left_7 : decode cX10_left 7 = .ok (.isub, 1) := by decide +kernel
theorem dX10_left_8 : decode cX10_left 8 = .ok (.invokestatic 133, 3) := by decide +kernel
theorem dX10_left_11 : decode cX10_left 11 = .ok (.ifCond .eq 12, 3) := by decide +kernel
theorem dX10_left_14 : decode cX10_left 14 = .ok (.aload_n 0, 1) := by decide +kernel
theorem dX10_left_15 : decode cX10_left 15 = .ok (.getfield 19, 3) := by decide +kernel
theorem dX10_left_18 : decode cX10_left 18 = .ok (.iload_n 1, 1) := by decide +kernel
theorem dX10_left_19 : decode cX10_left 19 = .ok (.iaload, 1) := by decide +kernel
theorem dX10_left_20 : decode cX10_left 20 = .ok (.goto 5, 3) := by decide +kernel
theorem dX10_left_23 : decode cX10_left 23 = .ok (.bipush (-2), 2) := by decide +kernel
theorem dX10_left_25 : decode cX10_left 25 = .ok (.ireturn, 1) := by decide +kernel
theorem dX10_mayTake_0 : decode cX10_mayTake 0 = .ok (.aload_n 0, 1) := by decide +kernel
theorem dX10_mayTake_1 : decode cX10_mayTake 1 = .ok (.getfield 16, 3) := by decide +kernel
theorem dX10_mayTake_4 : decode cX10_mayTake 4 = .ok (.iload_n 1, 1) := by decide +kernel
theorem dX10_mayTake_5 : decode cX10_mayTake 5 = .ok (.iaload, 1) := by decide +kernel
theorem dX10_mayTake_6 : decode cX10_mayTake 6 = .ok (.iload_n 2, 1) := by decide +kernel
theorem dX10_mayTake_7 : decode cX10_mayTake 7 = .ok (.if_icmp .ne 29, 3) := by decide +kernel
theorem dX10_mayTake_10 : decode cX10_mayTake 10 = .ok (.aload_n 0, 1) := by decide +kernel
theorem dX10_mayTake_11 : decode cX10_mayTake 11 = .ok (.getfield 19, 3) := by decide +kernel
theorem dX10_mayTake_14 : decode cX10_mayTake 14 = .ok (.iload_n 1, 1) := by decide +kernel
theorem dX10_mayTake_15 : decode cX10_mayTake 15 = .ok (.iaload, 1) := by decide +kernel
theorem dX10_mayTake_16 : decode cX10_mayTake 16 = .ok (.ifCond .le 20, 3) := by decide +kernel
theorem dX10_mayTake_19 : decode cX10_mayTake 19 = .ok (.aload_n 0, 1) := by decide +kernel
theorem dX10_mayTake_20 : decode cX10_mayTake 20 = .ok (.getfield 22, 3) := by decide +kernel
theorem dX10_mayTake_23 : decode cX10_mayTake 23 = .ok (.iload_n 1, 1) := by decide +kernel
theorem dX10_mayTake_24 : decode cX10_mayTake 24 = .ok (.iaload, 1) := by decide +kernel
theorem dX10_mayTake_25 : decode cX10_mayTake 25 = .ok (.aload_n 0, 1) := by decide +kernel
theorem dX10_mayTake_26 : decode cX10_mayTake 26 = .ok (.getfield 147, 3) := by decide +kernel
theorem dX10_mayTake_29 : decode cX10_mayTake 29 = .ok (.if_icmp .lt 7, 3) := by decide +kernel
theorem dX10_mayTake_32 : decode cX10_mayTake 32 = .ok (.iconst 1, 1) := by decide +kernel
theorem dX10_mayTake_33 : decode cX10_mayTake 33 = .ok (.goto 4, 3) := by decide +kernel
theorem dX10_mayTake_36 : decode cX10_mayTake 36 = .ok (.iconst 0, 1) := by decide +kernel
theorem dX10_mayTake_37 : decode cX10_mayTake 37 = .ok (.ireturn, 1) := by decide +kernel
theorem dX10_mayOf_0 : decode cX10_mayOf 0 = .ok (.iconst 0, 1) := by decide +kernel
theorem dX10_mayOf_1 : decode cX10_mayOf 1 = .ok (.istore_n 2, 1) := by decide +kernel
theorem dX10_mayOf_2 : decode cX10_mayOf 2 = .ok (.iconst 0, 1) := by decide +kernel
theorem dX10_mayOf_3 : decode cX10_mayOf 3 = .ok (.istore_n 3, 1) := by decide +kernel
theorem dX10_mayOf_4 : decode cX10_mayOf 4 = .ok (.iload_n 3, 1) := by decide +kernel
theorem dX10_mayOf_5 : decode cX10_mayOf 5 = .ok (.aload_n 0, 1) := by decide +kernel
theorem dX10_mayOf_6 : decode cX10_mayOf 6 = .ok (.getfield 144, 3) := by decide +kernel
theorem dX10_mayOf_9 : decode cX10_mayOf 9 = .ok (.if_icmp .ge 31, 3) := by decide +kernel
theorem dX10_mayOf_12 : decode cX10_mayOf 12 = .ok (.iload_n 2, 1) := by decide +kernel
theorem dX10_mayOf_13 : decode cX10_mayOf 13 = .ok (.aload_n 0, 1) := by decide +kernel
theorem dX10_mayOf_14 : decode cX10_mayOf 14 = .ok (.iload_n 3, 1) := by decide +kernel
theorem dX10_mayOf_15 : decode cX10_mayOf 15 = .ok (.iload_n 1, 1) := by decide +kernel
theorem dX10_mayOf_16 : decode cX10_mayOf 16 = .ok (.invokevirtual 150, 3) := by decide +kernel
theorem dX10_mayOf_19 : decode cX10_mayOf 19 = .ok (.ifCond .eq 12, 3) := by decide +kernel
theorem dX10_mayOf_22 : decode cX10_mayOf 22 = .ok (.aload_n 0, 1) := by decide +kernel
theorem dX10_mayOf_23 : decode cX10_mayOf 23 = .ok (.getfield 19, 3) := by decide +kernel
theorem dX10_mayOf_26 : decode cX10_mayOf 26 = .ok (.iload_n 3, 1) := by decide +kernel
theorem dX10_mayOf_27 : decode cX10_mayOf 27 = .ok (.iaload, 1) := by decide +kernel
theorem dX10_mayOf_28 : decode cX10_mayOf 28 = .ok (.goto 4, 3) := by decide +kernel
theorem dX10_mayOf_31 : decode cX10_mayOf 31 = .ok (.iconst 0, 1) := by decide +kernel
theorem dX10_mayOf_32 : decode cX10_mayOf 32 = .ok (.iadd, 1) := by decide +kernel
theorem dX10_mayOf_33 : decode cX10_mayOf 33 = .ok (.istore_n 2, 1) := by decide +kernel
theorem dX10_mayOf_34 : decode cX10_mayOf 34 = .ok (.iinc 3 1, 3) := by decide +kernel
theorem dX10_mayOf_37 : decode cX10_mayOf 37 = .ok (.goto (-33), 3) := by decide +kernel
theorem dX10_mayOf_40 : decode cX10_mayOf 40 = .ok (.iload_n 2, 1) := by decide +kernel
theorem dX10_mayOf_41 : decode cX10_mayOf 41 = .ok (.ireturn, 1) := by decide +kernel
theorem dX10_may_0 : decode cX10_may 0 = .ok (.aload_n 0, 1) := by decide +kernel
theorem dX10_may_1 : decode cX10_may 1 = .ok (.iload_n 1, 1) := by decide +kernel
theorem dX10_may_2 : decode cX10_may 2 = .ok (.invokevirtual 140, 3) := by decide +kernel
theorem dX10_may_5 : decode cX10_may 5 = .ok (.ifCond .eq 11, 3) := by decide +kernel
theorem dX10_may_8 : decode cX10_may 8 = .ok (.aload_n 0, 1) := by decide +kernel
theorem dX10_may_9 : decode cX10_may 9 = .ok (.iload_n 1, 1) := by decide +kernel
theorem dX10_may_10 : decode cX10_may 10 = .ok (.invokevirtual 154, 3) := by decide +kernel
theorem dX10_may_13 : decode cX10_may 13 = .ok (.goto 5, 3) := by decide +kernel
theorem dX10_may_16 : decode cX10_may 16 = .ok (.bipush (-2), 2) := by decide +kernel
theorem dX10_may_18 : decode cX10_may 18 = .ok (.ireturn, 1) := by decide +kernel
theorem dX10_day_0 : decode cX10_day 0 = .ok (.iload_n 1, 1) := by decide +kernel
theorem dX10_day_1 : decode cX10_day 1 = .ok (.iconst 0, 1) := by decide +kernel
theorem dX10_day_2 : decode cX10_day 2 = .ok (.sipush 1000, 3) := by decide +kernel
theorem dX10_day_5 : decode cX10_day 5 = .ok (.invokestatic 133, 3) := by decide +kernel
theorem dX10_day_8 : decode cX10_day 8 = .ok (.ifCond .eq 15, 3) := by decide +kernel
theorem dX10_day_11 : decode cX10_day 11 = .ok (.aload_n 0, 1) := by decide +kernel
theorem dX10_day_12 : decode cX10_day 12 = .ok (.getfield 147, 3) := by decide +kernel
theorem dX10_day_15 : decode cX10_day 15 = .ok (.iload_n 1, 1) := by decide +kernel
theorem dX10_day_16 : decode cX10_day 16 = .ok (.iadd, 1) := by decide +kernel
theorem dX10_day_17 : decode cX10_day 17 = .ok (.sipush 10000, 3) := by decide +kernel
theorem dX10_day_20 : decode cX10_day 20 = .ok (.if_icmp .le 6, 3) := by decide +kernel
theorem dX10_day_23 : decode cX10_day 23 = .ok (.bipush (-3), 2) := by decide +kernel
theorem dX10_day_25 : decode cX10_day 25 = .ok (.ireturn, 1) := by decide +kernel
theorem dX10_day_26 : decode cX10_day 26 = .ok (.aload_n 0, 1) := by decide +kernel
theorem dX10_day_27 : decode cX10_day 27 = .ok (.dup, 1) := by decide +kernel
theorem dX10_day_28 : decode cX10_day 28 = .ok (.getfield 147, 3) := by decide +kernel
theorem dX10_day_31 : decode cX10_day 31 = .ok (.iload_n 1, 1) := by decide +kernel
theorem dX10_day_32 : decode cX10_day 32 = .ok (.iadd, 1) := by decide +kernel
theorem dX10_day_33 : decode cX10_day 33 = .ok (.putfield 147, 3) := by decide +kernel
theorem dX10_day_36 : decode cX10_day 36 = .ok (.aload_n 0, 1) := by decide +kernel
theorem dX10_day_37 : decode cX10_day 37 = .ok (.getfield 147, 3) := by decide +kernel
theorem dX10_day_40 : decode cX10_day 40 = .ok (.ireturn, 1) := by decide +kernel
theorem dX10_take_0 : decode cX10_take 0 = .ok (.iload_n 3, 1) := by decide +kernel
theorem dX10_take_1 : decode cX10_take 1 = .ok (.istore 4, 2) := by decide +kernel
theorem dX10_take_3 : decode cX10_take 3 = .ok (.iload 4, 2) := by decide +kernel
theorem dX10_take_5 : decode cX10_take 5 = .ok (.ifCond .le 131, 3) := by decide +kernel
theorem dX10_take_8 : decode cX10_take 8 = .ok (.iconst (-1), 1) := by decide +kernel
theorem dX10_take_9 : decode cX10_take 9 = .ok (.istore 5, 2) := by decide +kernel
theorem dX10_take_11 : decode cX10_take 11 = .ok (.iconst 0, 1) := by decide +kernel
theorem dX10_take_12 : decode cX10_take 12 = .ok (.istore 6, 2) := by decide +kernel
theorem dX10_take_14 : decode cX10_take 14 = .ok (.iload 6, 2) := by decide +kernel
theorem dX10_take_16 : decode cX10_take 16 = .ok (.aload_n 0, 1) := by decide +kernel
theorem dX10_take_17 : decode cX10_take 17 = .ok (.getfield 144, 3) := by decide +kernel
theorem dX10_take_20 : decode cX10_take 20 = .ok (.if_icmp .ge 51, 3) := by decide +kernel
theorem dX10_take_23 : decode cX10_take 23 = .ok (.aload_n 0, 1) := by decide +kernel
theorem dX10_take_24 : decode cX10_take 24 = .ok (.iload 6, 2) := by decide +kernel
theorem dX10_take_26 : decode cX10_take 26 = .ok (.iload_n 2, 1) := by decide +kernel
theorem dX10_take_27 : decode cX10_take 27 = .ok (.invokevirtual 150, 3) := by decide +kernel
theorem dX10_take_30 : decode cX10_take 30 = .ok (.ifCond .eq 31, 3) := by decide +kernel
theorem dX10_take_33 : decode cX10_take 33 = .ok (.iload 5, 2) := by decide +kernel
theorem dX10_take_35 : decode cX10_take 35 = .ok (.iconst (-1), 1) := by decide +kernel
theorem dX10_take_36 : decode cX10_take 36 = .ok (.if_icmp .eq 20, 3) := by decide +kernel
theorem dX10_take_39 : decode cX10_take 39 = .ok (.aload_n 0, 1) := by decide +kernel
theorem dX10_take_40 : decode cX10_take 40 = .ok (.getfield 22, 3) := by decide +kernel
theorem dX10_take_43 : decode cX10_take 43 = .ok (.iload 6, 2) := by decide +kernel
theorem dX10_take_45 : decode cX10_take 45 = .ok (.iaload, 1) := by decide +kernel
theorem dX10_take_46 : decode cX10_take 46 = .ok (.aload_n 0, 1) := by decide +kernel
theorem dX10_take_47 : decode cX10_take 47 = .ok (.getfield 22, 3) := by decide +kernel
theorem dX10_take_50 : decode cX10_take 50 = .ok (.iload 5, 2) := by decide +kernel
theorem dX10_take_52 : decode cX10_take 52 = .ok (.iaload, 1) := by decide +kernel
theorem dX10_take_53 : decode cX10_take 53 = .ok (.if_icmp .ge 8, 3) := by decide +kernel
theorem dX10_take_56 : decode cX10_take 56 = .ok (.iload 6, 2) := by decide +kernel
theorem dX10_take_58 : decode cX10_take 58 = .ok (.goto 5, 3) := by decide +kernel
theorem dX10_take_61 : decode cX10_take 61 = .ok (.iload 5, 2) := by decide +kernel
theorem dX10_take_63 : decode cX10_take 63 = .ok (.istore 5, 2) := by decide +kernel
theorem dX10_take_65 : decode cX10_take 65 = .ok (.iinc 6 1, 3) := by decide +kernel
theorem dX10_take_68 : decode cX10_take 68 = .ok (.goto (-54), 3) := by decide +kernel
theorem dX10_take_71 : decode cX10_take 71 = .ok (.aload_n 0, 1) := by decide +kernel
theorem dX10_take_72 : decode cX10_take 72 = .ok (.getfield 19, 3) := by decide +kernel
theorem dX10_take_75 : decode cX10_take 75 = .ok (.iload 5, 2) := by decide +kernel
theorem dX10_take_77 : decode cX10_take 77 = .ok (.iaload, 1) := by decide +kernel
theorem dX10_take_78 : decode cX10_take 78 = .ok (.iload 4, 2) := by decide +kernel
theorem dX10_take_80 : decode cX10_take 80 = .ok (.if_icmp .ge 13, 3) := by decide +kernel
theorem dX10_take_83 : decode cX10_take 83 = .ok (.aload_n 0, 1) := by decide +kernel
theorem dX10_take_84 : decode cX10_take 84 = .ok (.getfield 19, 3) := by decide +kernel
theorem dX10_take_87 : decode cX10_take 87 = .ok (.iload 5, 2) := by decide +kernel
theorem dX10_take_89 : decode cX10_take 89 = .ok (.iaload, 1) := by decide +kernel
theorem dX10_take_90 : decode cX10_take 90 = .ok (.goto 5, 3) := by decide +kernel
theorem dX10_take_93 : decode cX10_take 93 = .ok (.iload 4, 2) := by decide +kernel
theorem dX10_take_95 : decode cX10_take 95 = .ok (.istore 6, 2) := by decide +kernel
theorem dX10_take_97 : decode cX10_take 97 = .ok (.aload_n 0, 1) := by decide +kernel
theorem dX10_take_98 : decode cX10_take 98 = .ok (.getfield 19, 3) := by decide +kernel
theorem dX10_take_101 : decode cX10_take 101 = .ok (.iload 5, 2) := by decide +kernel
theorem dX10_take_103 : decode cX10_take 103 = .ok (.dup2, 1) := by decide +kernel
theorem dX10_take_104 : decode cX10_take 104 = .ok (.iaload, 1) := by decide +kernel
theorem dX10_take_105 : decode cX10_take 105 = .ok (.iload 6, 2) := by decide +kernel
theorem dX10_take_107 : decode cX10_take 107 = .ok (.isub, 1) := by decide +kernel
theorem dX10_take_108 : decode cX10_take 108 = .ok (.iastore, 1) := by decide +kernel
theorem dX10_take_109 : decode cX10_take 109 = .ok (.iload 4, 2) := by decide +kernel
theorem dX10_take_111 : decode cX10_take 111 = .ok (.iload 6, 2) := by decide +kernel
theorem dX10_take_113 : decode cX10_take 113 = .ok (.isub, 1) := by decide +kernel
theorem dX10_take_114 : decode cX10_take 114 = .ok (.istore 4, 2) := by decide +kernel
theorem dX10_take_116 : decode cX10_take 116 = .ok (.aload_n 0, 1) := by decide +kernel
theorem dX10_take_117 : decode cX10_take 117 = .ok (.getfield 47, 3) := by decide +kernel
theorem dX10_take_120 : decode cX10_take 120 = .ok (.iload_n 1, 1) := by decide +kernel
theorem dX10_take_121 : decode cX10_take 121 = .ok (.aload_n 0, 1) := by decide +kernel
theorem dX10_take_122 : decode cX10_take 122 = .ok (.getfield 47, 3) := by decide +kernel
theorem dX10_take_125 : decode cX10_take 125 = .ok (.iload_n 1, 1) := by decide +kernel
theorem dX10_take_126 : decode cX10_take 126 = .ok (.laload, 1) := by decide +kernel
theorem dX10_take_127 : decode cX10_take 127 = .ok (.lconst 1, 1) := by decide +kernel
theorem dX10_take_128 : decode cX10_take 128 = .ok (.iload 5, 2) := by decide +kernel
theorem dX10_take_130 : decode cX10_take 130 = .ok (.lshl, 1) := by decide +kernel
theorem dX10_take_131 : decode cX10_take 131 = .ok (.lor, 1) := by decide +kernel
theorem dX10_take_132 : decode cX10_take 132 = .ok (.lastore, 1) := by decide +kernel
theorem dX10_take_133 : decode cX10_take 133 = .ok (.goto (-130), 3) := by decide +kernel
theorem dX10_take_136 : decode cX10_take 136 = .ok (.aload_n 0, 1) := by decide +kernel
theorem dX10_take_137 : decode cX10_take 137 = .ok (.getfield 44, 3) := by decide +kernel
theorem dX10_take_140 : decode cX10_take 140 = .ok (.bipush 8, 2) := by decide +kernel
theorem dX10_take_142 : decode cX10_take 142 = .ok (.iload_n 1, 1) := by decide +kernel
theorem dX10_take_143 : decode cX10_take 143 = .ok (.imul, 1) := by decide +kernel
theorem dX10_take_144 : decode cX10_take 144 = .ok (.iload_n 2, 1) := by decide +kernel
theorem dX10_take_145 : decode cX10_take 145 = .ok (.iadd, 1) := by decide +kernel
theorem dX10_take_146 : decode cX10_take 146 = .ok (.dup2, 1) := by decide +kernel
theorem dX10_take_147 : decode cX10_take 147 = .ok (.iaload, 1) := by decide +kernel
theorem dX10_take_148 : decode cX10_take 148 = .ok (.iload_n 3, 1) := by decide +kernel
theorem dX10_take_149 : decode cX10_take 149 = .ok (.iadd, 1) := by decide +kernel
theorem dX10_take_150 : decode cX10_take 150 = .ok (.iastore, 1) := by decide +kernel
theorem dX10_take_151 : decode cX10_take 151 = .ok (.return_, 1) := by decide +kernel
theorem dX10_recipe_0 : decode cX10_recipe 0 = .ok (.aload_n 0, 1) := by decide +kernel
theorem dX10_recipe_1 : decode cX10_recipe 1 = .ok (.getfield 158, 3) := by decide +kernel
theorem dX10_recipe_4 : decode cX10_recipe 4 = .ok (.bipush 12, 2) := by decide +kernel
theorem dX10_recipe_6 : decode cX10_recipe 6 = .ok (.if_icmp .ne 6, 3) := by decide +kernel
theorem dX10_recipe_9 : decode cX10_recipe 9 = .ok (.bipush (-6), 2) := by decide +kernel
theorem dX10_recipe_11 : decode cX10_recipe 11 = .ok (.ireturn, 1) := by decide +kernel
theorem dX10_recipe_12 : decode cX10_recipe 12 = .ok (.aload_n 0, 1) := by decide +kernel
theorem dX10_recipe_13 : decode cX10_recipe 13 = .ok (.dup, 1) := by decide +kernel
theorem dX10_recipe_14 : decode cX10_recipe 14 = .ok (.getfield 158, 3) := by decide +kernel
theorem dX10_recipe_17 : decode cX10_recipe 17 = .ok (.iconst 1, 1) := by decide +kernel
theorem dX10_recipe_18 : decode cX10_recipe 18 = .ok (.iadd, 1) := by decide +kernel
theorem dX10_recipe_19 : decode cX10_recipe 19 = .ok (.putfield 158, 3) := by decide +kernel
theorem dX10_recipe_22 : decode cX10_recipe 22 = .ok (.aload_n 0, 1) := by decide +kernel
theorem dX10_recipe_23 : decode cX10_recipe 23 = .ok (.getfield 158, 3) := by decide +kernel
theorem dX10_recipe_26 : decode cX10_recipe 26 = .ok (.iconst 1, 1) := by decide +kernel
theorem dX10_recipe_27 : decode cX10_recipe 27 = .ok (.isub, 1) := by decide +kernel
theorem dX10_recipe_28 : decode cX10_recipe 28 = .ok (.ireturn, 1) := by decide +kernel
theorem dX10_findNeeds_0 : decode cX10_findNeeds 0 = .ok (.iconst 0, 1) := by decide +kernel
theorem dX10_findNeeds_1 : decode cX10_findNeeds 1 = .ok (.istore_n 1, 1) := by decide +kernel
theorem dX10_findNeeds_2 : decode cX10_findNeeds 2 = .ok (.iload_n 1, 1) := by decide +kernel
theorem dX10_findNeeds_3 : decode cX10_findNeeds 3 = .ok (.aload_n 0, 1) := by decide +kernel
theorem dX10_findNeeds_4 : decode cX10_findNeeds 4 = .ok (.getfield 158, 3) := by decide +kernel
theorem dX10_findNeeds_7 : decode cX10_findNeeds 7 = .ok (.if_icmp .ge 149, 3) := by decide +kernel
theorem dX10_findNeeds_10 : decode cX10_findNeeds 10 = .ok (.iconst 0, 1) := by decide +kernel
theorem dX10_findNeeds_11 : decode cX10_findNeeds 11 = .ok (.istore_n 2, 1) := by decide +kernel
theorem dX10_findNeeds_12 : decode cX10_findNeeds 12 = .ok (.iconst 0, 1) := by decide +kernel
theorem dX10_findNeeds_13 : decode cX10_findNeeds 13 = .ok (.istore_n 3, 1) := by decide +kernel
theorem dX10_findNeeds_14 : decode cX10_findNeeds 14 = .ok (.iload_n 3, 1) := by decide +kernel
theorem dX10_findNeeds_15 : decode cX10_findNeeds 15 = .ok (.bipush 8, 2) := by decide +kernel
theorem dX10_findNeeds_17 : decode cX10_findNeeds 17 = .ok (.if_icmp .ge 124, 3) := by decide +kernel
theorem dX10_findNeeds_20 : decode cX10_findNeeds 20 = .ok (.iconst 0, 1) := by decide +kernel
theorem dX10_findNeeds_21 : decode cX10_findNeeds 21 = .ok (.istore 4, 2) := by decide +kernel
theorem dX10_findNeeds_23 : decode cX10_findNeeds 23 = .ok (.iconst 0, 1) := by decide +kernel
theorem dX10_findNeeds_24 : decode cX10_findNeeds 24 = .ok (.istore 5, 2) := by decide +kernel
theorem dX10_findNeeds_26 : decode cX10_findNeeds 26 = .ok (.iload 5, 2) := by decide +kernel
theorem dX10_findNeeds_28 : decode cX10_findNeeds 28 = .ok (.aload_n 0, 1) := by decide +kernel
theorem dX10_findNeeds_29 : decode cX10_findNeeds 29 = .ok (.getfield 25, 3) := by decide +kernel
theorem dX10_findNeeds_32 : decode cX10_findNeeds 32 = .ok (.iload_n 1, 1) := by decide +kernel
theorem dX10_findNeeds_33 : decode cX10_findNeeds 33 = .ok (.iaload, 1) := by decide +kernel
theorem dX10_findNeeds_34 : decode cX10_findNeeds 34 = .ok (.if_icmp .ge 83, 3) := by decide +kernel
theorem dX10_findNeeds_37 : decode cX10_findNeeds 37 = .ok (.bipush 6, 2) := by decide +kernel
theorem dX10_findNeeds_39 : decode cX10_findNeeds 39 = .ok (.iload_n 1, 1) := by decide +kernel
theorem dX10_findNeeds_40 : decode cX10_findNeeds 40 = .ok (.imul, 1) := by decide +kernel
theorem dX10_findNeeds_41 : decode cX10_findNeeds 41 = .ok (.iload 5, 2) := by decide +kernel
theorem dX10_findNeeds_43 : decode cX10_findNeeds 43 = .ok (.iadd, 1) := by decide +kernel
theorem dX10_findNeeds_44 : decode cX10_findNeeds 44 = .ok (.istore 6, 2) := by decide +kernel
theorem dX10_findNeeds_46 : decode cX10_findNeeds 46 = .ok (.iload 4, 2) := by decide +kernel
theorem dX10_findNeeds_48 : decode cX10_findNeeds 48 = .ok (.aload_n 0, 1) := by decide +kernel
theorem dX10_findNeeds_49 : decode cX10_findNeeds 49 = .ok (.getfield 28, 3) := by decide +kernel
theorem dX10_findNeeds_52 : decode cX10_findNeeds 52 = .ok (.iload 6, 2) := by decide +kernel
theorem dX10_findNeeds_54 : decode cX10_findNeeds 54 = .ok (.baload, 1) := by decide +kernel
theorem dX10_findNeeds_55 : decode cX10_findNeeds 55 = .ok (.ifCond .eq 31, 3) := by decide +kernel
theorem dX10_findNeeds_58 : decode cX10_findNeeds 58 = .ok (.aload_n 0, 1) := by decide +kernel
theorem dX10_findNeeds_59 : decode cX10_findNeeds 59 = .ok (.getfield 35, 3) := by decide +kernel
theorem dX10_findNeeds_62 : decode cX10_findNeeds 62 = .ok (.iload 6, 2) := by decide +kernel
theorem dX10_findNeeds_64 : decode cX10_findNeeds 64 = .ok (.iaload, 1) := by decide +kernel
theorem dX10_findNeeds_65 : decode cX10_findNeeds 65 = .ok (.aload_n 0, 1) := by decide +kernel
theorem dX10_findNeeds_66 : decode cX10_findNeeds 66 = .ok (.getfield 41, 3) := by decide +kernel
theorem dX10_findNeeds_69 : decode cX10_findNeeds 69 = .ok (.bipush 8, 2) := by decide +kernel
theorem dX10_findNeeds_71 : decode cX10_findNeeds 71 = .ok (.aload_n 0, 1) := by decide +kernel
theorem dX10_findNeeds_72 : decode cX10_findNeeds 72 = .ok (.getfield 32, 3) := by decide +kernel
theorem dX10_findNeeds_75 : decode cX10_findNeeds 75 = .ok (.iload 6, 2) := by decide +kernel
theorem dX10_findNeeds_77 : decode cX10_findNeeds 77 = .ok (.iaload, 1) := by decide +kernel
theorem dX10_findNeeds_78 : decode cX10_findNeeds 78 = .ok (.imul, 1) := by decide +kernel
theorem dX10_findNeeds_79 : decode cX10_findNeeds 79 = .ok (.iload_n 3, 1) := by decide +kernel
theorem dX10_findNeeds_80 : decode cX10_findNeeds 80 = .ok (.iadd, 1) := by decide +kernel
theorem dX10_findNeeds_81 : decode cX10_findNeeds 81 = .ok (.iaload, 1) := by decide +kernel
theorem dX10_findNeeds_82 : decode cX10_findNeeds 82 = .ok (.imul, 1) := by decide +kernel
theorem dX10_findNeeds_83 : decode cX10_findNeeds 83 = .ok (.goto 25, 3) := by decide +kernel
theorem dX10_findNeeds_86 : decode cX10_findNeeds 86 = .ok (.aload_n 0, 1) := by decide +kernel
theorem dX10_findNeeds_87 : decode cX10_findNeeds 87 = .ok (.getfield 32, 3) := by decide +kernel
theorem dX10_findNeeds_90 : decode cX10_findNeeds 90 = .ok (.iload 6, 2) := by decide +kernel
theorem dX10_findNeeds_92 : decode cX10_findNeeds 92 = .ok (.iaload, 1) := by decide +kernel
theorem dX10_findNeeds_93 : decode cX10_findNeeds 93 = .ok (.iload_n 3, 1) := by decide +kernel
theorem dX10_findNeeds_94 : decode cX10_findNeeds 94 = .ok (.if_icmp .ne 13, 3) := by decide +kernel
theorem dX10_findNeeds_97 : decode cX10_findNeeds 97 = .ok (.aload_n 0, 1) := by decide +kernel
theorem dX10_findNeeds_98 : decode cX10_findNeeds 98 = .ok (.getfield 35, 3) := by decide +kernel
theorem dX10_findNeeds_101 : decode cX10_findNeeds 101 = .ok (.iload 6, 2) := by decide +kernel
theorem dX10_findNeeds_103 : decode cX10_findNeeds 103 = .ok (.iaload, 1) := by decide +kernel
theorem dX10_findNeeds_104 : decode cX10_findNeeds 104 = .ok (.goto 4, 3) := by decide +kernel
theorem dX10_findNeeds_107 : decode cX10_findNeeds 107 = .ok (.iconst 0, 1) := by decide +kernel
theorem dX10_findNeeds_108 : decode cX10_findNeeds 108 = .ok (.iadd, 1) := by decide +kernel
theorem dX10_findNeeds_109 : decode cX10_findNeeds 109 = .ok (.istore 4, 2) := by decide +kernel
theorem dX10_findNeeds_111 : decode cX10_findNeeds 111 = .ok (.iinc 5 1, 3) := by decide +kernel
theorem dX10_findNeeds_114 : decode cX10_findNeeds 114 = .ok (.goto (-88), 3) := by decide +kernel
theorem dX10_findNeeds_117 : decode cX10_findNeeds 117 = .ok (.aload_n 0, 1) := by decide +kernel
theorem dX10_findNeeds_118 : decode cX10_findNeeds 118 = .ok (.getfield 41, 3) := by decide +kernel
theorem dX10_findNeeds_121 : decode cX10_findNeeds 121 = .ok (.bipush 8, 2) := by decide +kernel
theorem dX10_findNeeds_123 : decode cX10_findNeeds 123 = .ok (.iload_n 1, 1) := by decide +kernel
theorem dX10_findNeeds_124 : decode cX10_findNeeds 124 = .ok (.imul, 1) := by decide +kernel
theorem dX10_findNeeds_125 : decode cX10_findNeeds 125 = .ok (.iload_n 3, 1) := by decide +kernel
theorem dX10_findNeeds_126 : decode cX10_findNeeds 126 = .ok (.iadd, 1) := by decide +kernel
theorem dX10_findNeeds_127 : decode cX10_findNeeds 127 = .ok (.iload 4, 2) := by decide +kernel
theorem dX10_findNeeds_129 : decode cX10_findNeeds 129 = .ok (.iastore, 1) := by decide +kernel
theorem dX10_findNeeds_130 : decode cX10_findNeeds 130 = .ok (.iload_n 2, 1) := by decide +kernel
theorem dX10_findNeeds_131 : decode cX10_findNeeds 131 = .ok (.iload 4, 2) := by decide +kernel
theorem dX10_findNeeds_133 : decode cX10_findNeeds 133 = .ok (.iadd, 1) := by decide +kernel
theorem dX10_findNeeds_134 : decode cX10_findNeeds 134 = .ok (.istore_n 2, 1) := by decide +kernel
theorem dX10_findNeeds_135 : decode cX10_findNeeds 135 = .ok (.iinc 3 1, 3) := by decide +kernel
theorem dX10_findNeeds_138 : decode cX10_findNeeds 138 = .ok (.goto (-124), 3) := by decide +kernel
theorem dX10_findNeeds_141 : decode cX10_findNeeds 141 = .ok (.iload_n 2, 1) := by decide +kernel
theorem dX10_findNeeds_142 : decode cX10_findNeeds 142 = .ok (.sipush 20000, 3) := by decide +kernel
theorem dX10_findNeeds_145 : decode cX10_findNeeds 145 = .ok (.if_icmp .le 5, 3) := by decide +kernel
theorem dX10_findNeeds_148 : decode cX10_findNeeds 148 = .ok (.iconst 0, 1) := by decide +kernel
theorem dX10_findNeeds_149 : decode cX10_findNeeds 149 = .ok (.ireturn, 1) := by decide +kernel
theorem dX10_findNeeds_150 : decode cX10_findNeeds 150 = .ok (.iinc 1 1, 3) := by decide +kernel
theorem dX10_findNeeds_153 : decode cX10_findNeeds 153 = .ok (.goto (-151), 3) := by decide +kernel
theorem dX10_findNeeds_156 : decode cX10_findNeeds 156 = .ok (.iconst 1, 1) := by decide +kernel
theorem dX10_findNeeds_157 : decode cX10_findNeeds 157 = .ok (.ireturn, 1) := by decide +kernel
theorem dX10_part_0 : decode cX10_part 0 = .ok (.iload_n 1, 1) := by decide +kernel
theorem dX10_part_1 : decode cX10_part 1 = .ok (.iconst 0, 1) := by decide +kernel
theorem dX10_part_2 : decode cX10_part 2 = .ok (.aload_n 0, 1) := by decide +kernel
theorem dX10_part_3 : decode cX10_part 3 = .ok (.getfield 158, 3) := by decide +kernel
theorem dX10_part_6 : decode cX10_part 6 = .ok (.iconst 1, 1) := by decide +kernel
theorem dX10_part_7 : decode cX10_part 7 = .ok (.isub, 1) := by decide +kernel
theorem dX10_part_8 : decode cX10_part 8 = .ok (.invokestatic 133, 3) := by decide +kernel
theorem dX10_part_11 : decode cX10_part 11 = .ok (.ifCond .eq 32, 3) := by decide +kernel
theorem dX10_part_14 : decode cX10_part 14 = .ok (.iload_n 2, 1) := by decide +kernel
theorem dX10_part_15 : decode cX10_part 15 = .ok (.ifCond .eq 20, 3) := by decide +kernel
theorem dX10_part_18 : decode cX10_part 18 = .ok (.iload_n 3, 1) := by decide +kernel
theorem dX10_part_19 : decode cX10_part 19 = .ok (.iconst 0, 1) := by decide +kernel
theorem dX10_part_20 : decode cX10_part 20 = .ok (.aload_n 0, 1) := by decide +kernel
theorem dX10_part_21 : decode cX10_part 21 = .ok (.getfield 158, 3) := by decide +kernel
theorem dX10_part_24 : decode cX10_part 24 = .ok (.iconst 1, 1) := by decide +kernel
theorem dX10_part_25 : decode cX10_part 25 = .ok (.isub, 1) := by decide +kernel
theorem dX10_part_26 : decode cX10_part 26 = .ok (.invokestatic 133, 3) := by decide +kernel
theorem dX10_part_29 : decode cX10_part 29 = .ok (.ifCond .ne 17, 3) := by decide +kernel
theorem dX10_part_32 : decode cX10_part 32 = .ok (.goto 11, 3) := by decide +kernel
theorem dX10_part_35 : decode cX10_part 35 = .ok (.aload_n 0, 1) := by decide +kernel
theorem dX10_part_36 : decode cX10_part 36 = .ok (.iload_n 3, 1) := by decide +kernel
theorem dX10_part_37 : decode cX10_part 37 = .ok (.invokevirtual 140, 3) := by decide +kernel
theorem dX10_part_40 : decode cX10_part 40 = .ok (.ifCond .ne 6, 3) := by decide +kernel
theorem dX10_part_43 : decode cX10_part 43 = .ok (.bipush (-2), 2) := by decide +kernel
theorem dX10_part_45 : decode cX10_part 45 = .ok (.ireturn, 1) := by decide +kernel
theorem dX10_part_46 : decode cX10_part 46 = .ok (.iload 4, 2) := by decide +kernel
theorem dX10_part_48 : decode cX10_part 48 = .ok (.iconst 1, 1) := by decide +kernel
theorem dX10_part_49 : decode cX10_part 49 = .ok (.bipush 100, 2) := by decide +kernel
theorem dX10_part_51 : decode cX10_part 51 = .ok (.invokestatic 133, 3) := by decide +kernel
theorem dX10_part_54 : decode cX10_part 54 = .ok (.ifCond .eq 12, 3) := by decide +kernel
theorem dX10_part_57 : decode cX10_part 57 = .ok (.iload_n 2, 1) := by decide +kernel
theorem dX10_part_58 : decode cX10_part 58 = .ok (.ifCond .eq 11, 3) := by decide +kernel
theorem dX10_part_61 : decode cX10_part 61 = .ok (.iload_n 3, 1) := by decide +kernel
theorem dX10_part_62 : decode cX10_part 62 = .ok (.iload_n 1, 1) := by decide +kernel
theorem dX10_part_63 : decode cX10_part 63 = .ok (.if_icmp .lt 6, 3) := by decide +kernel
theorem dX10_part_66 : decode cX10_part 66 = .ok (.bipush (-3), 2) := by decide +kernel
theorem dX10_part_68 : decode cX10_part 68 = .ok (.ireturn, 1) := by decide +kernel
theorem dX10_part_69 : decode cX10_part 69 = .ok (.aload_n 0, 1) := by decide +kernel
theorem dX10_part_70 : decode cX10_part 70 = .ok (.getfield 25, 3) := by decide +kernel
theorem dX10_part_73 : decode cX10_part 73 = .ok (.iload_n 1, 1) := by decide +kernel
theorem dX10_part_74 : decode cX10_part 74 = .ok (.iaload, 1) := by decide +kernel
theorem dX10_part_75 : decode cX10_part 75 = .ok (.bipush 6, 2) := by decide +kernel
theorem dX10_part_77 : decode cX10_part 77 = .ok (.if_icmp .ne 6, 3) := by decide +kernel
theorem dX10_part_80 : decode cX10_part 80 = .ok (.bipush (-6), 2) := by decide +kernel
theorem dX10_part_82 : decode cX10_part 82 = .ok (.ireturn, 1) := by decide +kernel
theorem dX10_part_83 : decode cX10_part 83 = .ok (.bipush 6, 2) := by decide +kernel
theorem dX10_part_85 : decode cX10_part 85 = .ok (.iload_n 1, 1) := by decide +kernel
theorem dX10_part_86 : decode cX10_part 86 = .ok (.imul, 1) := by decide +kernel
theorem dX10_part_87 : decode cX10_part 87 = .ok (.aload_n 0, 1) := by decide +kernel
theorem dX10_part_88 : decode cX10_part 88 = .ok (.getfield 25, 3) := by decide +kernel
theorem dX10_part_91 : decode cX10_part 91 = .ok (.iload_n 1, 1) := by decide +kernel
theorem dX10_part_92 : decode cX10_part 92 = .ok (.iaload, 1) := by decide +kernel
theorem dX10_part_93 : decode cX10_part 93 = .ok (.iadd, 1) := by decide +kernel
theorem dX10_part_94 : decode cX10_part 94 = .ok (.istore 5, 2) := by decide +kernel
theorem dX10_part_96 : decode cX10_part 96 = .ok (.aload_n 0, 1) := by decide +kernel
theorem dX10_part_97 : decode cX10_part 97 = .ok (.getfield 28, 3) := by decide +kernel
theorem dX10_part_100 : decode cX10_part 100 = .ok (.iload 5, 2) := by decide +kernel
theorem dX10_part_102 : decode cX10_part 102 = .ok (.iload_n 2, 1) := by decide +kernel
theorem dX10_part_103 : decode cX10_part 103 = .ok (.bastore, 1) := by decide +kernel
theorem dX10_part_104 : decode cX10_part 104 = .ok (.aload_n 0, 1) := by decide +kernel
theorem dX10_part_105 : decode cX10_part 105 = .ok (.getfield 32, 3) := by decide +kernel
theorem dX10_part_108 : decode cX10_part 108 = .ok (.iload 5, 2) := by decide +kernel
theorem dX10_part_110 : decode cX10_part 110 = .ok (.iload_n 3, 1) := by decide +kernel
theorem dX10_part_111 : decode cX10_part 111 = .ok (.iastore, 1) := by decide +kernel
theorem dX10_part_112 : decode cX10_part 112 = .ok (.aload_n 0, 1) := by decide +kernel
theorem dX10_part_113 : decode cX10_part 113 = .ok (.getfield 35, 3) := by decide +kernel
theorem dX10_part_116 : decode cX10_part 116 = .ok (.iload 5, 2) := by decide +kernel
theorem dX10_part_118 : decode cX10_part 118 = .ok (.iload 4, 2) := by decide +kernel
theorem dX10_part_120 : decode cX10_part 120 = .ok (.iastore, 1) := by decide +kernel
theorem dX10_part_121 : decode cX10_part 121 = .ok (.aload_n 0, 1) := by decide +kernel
theorem dX10_part_122 : decode cX10_part 122 = .ok (.getfield 25, 3) := by decide +kernel
theorem dX10_part_125 : decode cX10_part 125 = .ok (.iload_n 1, 1) := by decide +kernel
theorem dX10_part_126 : decode cX10_part 126 = .ok (.dup2, 1) := by decide +kernel
theorem dX10_part_127 : decode cX10_part 127 = .ok (.iaload, 1) := by decide +kernel
theorem dX10_part_128 : decode cX10_part 128 = .ok (.iconst 1, 1) := by decide +kernel
theorem dX10_part_129 : decode cX10_part 129 = .ok (.iadd, 1) := by decide +kernel
theorem dX10_part_130 : decode cX10_part 130 = .ok (.iastore, 1) := by decide +kernel
theorem dX10_part_131 : decode cX10_part 131 = .ok (.aload_n 0, 1) := by decide +kernel
theorem dX10_part_132 : decode cX10_part 132 = .ok (.invokevirtual 161, 3) := by decide +kernel
theorem dX10_part_135 : decode cX10_part 135 = .ok (.ifCond .ne 16, 3) := by decide +kernel
theorem dX10_part_138 : decode cX10_part 138 = .ok (.aload_n 0, 1) := by decide +kernel
theorem dX10_part_139 : decode cX10_part 139 = .ok (.getfield 25, 3) := by decide +kernel
theorem dX10_part_142 : decode cX10_part 142 = .ok (.iload_n 1, 1) := by decide +kernel
theorem dX10_part_143 : decode cX10_part 143 = .ok (.dup2, 1) := by decide +kernel
theorem dX10_part_144 : decode cX10_part 144 = .ok (.iaload, 1) := by decide +kernel
theorem dX10_part_145 : decode cX10_part 145 = .ok (.iconst 1, 1) := by decide +kernel
theorem dX10_part_146 : decode cX10_part 146 = .ok (.isub, 1) := by decide +kernel
theorem dX10_part_147 : decode cX10_part 147 = .ok (.iastore, 1) := by decide +kernel
theorem dX10_part_148 : decode cX10_part 148 = .ok (.bipush (-6), 2) := by decide +kernel
theorem dX10_part_150 : decode cX10_part 150 = .ok (.ireturn, 1) := by decide +kernel
theorem dX10_part_151 : decode cX10_part 151 = .ok (.iconst 0, 1) := by decide +kernel
theorem dX10_part_152 : decode cX10_part 152 = .ok (.istore 6, 2) := by decide +kernel
theorem dX10_part_154 : decode cX10_part 154 = .ok (.iload 6, 2) := by decide +kernel
theorem dX10_part_156 : decode cX10_part 156 = .ok (.bipush 96, 2) := by decide +kernel
theorem dX10_part_158 : decode cX10_part 158 = .ok (.if_icmp .ge 23, 3) := by decide +kernel
theorem dX10_part_161 : decode cX10_part 161 = .ok (.aload_n 0, 1) := by decide +kernel
theorem dX10_part_162 : decode cX10_part 162 = .ok (.getfield 38, 3) := by decide +kernel
theorem dX10_part_165 : decode cX10_part 165 = .ok (.iload 6, 2) := by decide +kernel
theorem dX10_part_167 : decode cX10_part 167 = .ok (.aload_n 0, 1) := by decide +kernel
theorem dX10_part_168 : decode cX10_part 168 = .ok (.getfield 41, 3) := by decide +kernel
theorem dX10_part_171 : decode cX10_part 171 = .ok (.iload 6, 2) := by decide +kernel
theorem dX10_part_173 : decode cX10_part 173 = .ok (.iaload, 1) := by decide +kernel
theorem dX10_part_174 : decode cX10_part 174 = .ok (.iastore, 1) := by decide +kernel
theorem dX10_part_175 : decode cX10_part 175 = .ok (.iinc 6 1, 3) := by decide +kernel
theorem dX10_part_178 : decode cX10_part 178 = .ok (.goto (-24), 3) := by decide +kernel
theorem dX10_part_181 : decode cX10_part 181 = .ok (.aload_n 0, 1) := by decide +kernel
theorem dX10_part_182 : decode cX10_part 182 = .ok (.getfield 25, 3) := by decide +kernel
theorem dX10_part_185 : decode cX10_part 185 = .ok (.iload_n 1, 1) := by decide +kernel
theorem dX10_part_186 : decode cX10_part 186 = .ok (.iaload, 1) := by decide +kernel
theorem dX10_part_187 : decode cX10_part 187 = .ok (.ireturn, 1) := by decide +kernel
theorem dX10_resolved_0 : decode cX10_resolved 0 = .ok (.iload_n 1, 1) := by decide +kernel
theorem dX10_resolved_1 : decode cX10_resolved 1 = .ok (.iconst 0, 1) := by decide +kernel
theorem dX10_resolved_2 : decode cX10_resolved 2 = .ok (.aload_n 0, 1) := by decide +kernel
theorem dX10_resolved_3 : decode cX10_resolved 3 = .ok (.getfield 158, 3) := by decide +kernel
theorem dX10_resolved_6 : decode cX10_resolved 6 = .ok (.iconst 1, 1) := by decide +kernel
theorem dX10_resolved_7 : decode cX10_resolved 7 = .ok (.isub, 1) := by decide +kernel
theorem dX10_resolved_8 : decode cX10_resolved 8 = .ok (.invokestatic 133, 3) := by decide +kernel
theorem dX10_resolved_11 : decode cX10_resolved 11 = .ok (.ifCond .eq 25, 3) := by decide +kernel
theorem dX10_resolved_14 : decode cX10_resolved 14 = .ok (.aload_n 0, 1) := by decide +kernel
theorem dX10_resolved_15 : decode cX10_resolved 15 = .ok (.iload_n 2, 1) := by decide +kernel
theorem dX10_resolved_16 : decode cX10_resolved 16 = .ok (.invokevirtual 140, 3) := by decide +kernel
theorem dX10_resolved_19 : decode cX10_resolved 19 = .ok (.ifCond .eq 17, 3) := by decide +kernel
theorem dX10_resolved_22 : decode cX10_resolved 22 = .ok (.aload_n 0, 1) := by decide +kernel
theorem dX10_resolved_23 : decode cX10_resolved 23 = .ok (.getfield 38, 3) := by decide +kernel
theorem dX10_resolved_26 : decode cX10_resolved 26 = .ok (.bipush 8, 2) := by decide +kernel
theorem dX10_resolved_28 : decode cX10_resolved 28 = .ok (.iload_n 1, 1) := by decide +kernel
theorem dX10_resolved_29 : decode cX10_resolved 29 = .ok (.imul, 1) := by decide +kernel
theorem dX10_resolved_30 : decode cX10_resolved 30 = .ok (.iload_n 2, 1) := by decide +kernel
theorem dX10_resolved_31 : decode cX10_resolved 31 = .ok (.iadd, 1) := by decide +kernel
theorem dX10_resolved_32 : decode cX10_resolved 32 = .ok (.iaload, 1) := by decide +kernel
theorem dX10_resolved_33 : decode cX10_resolved 33 = .ok (.goto 5, 3) := by decide +kernel
theorem dX10_resolved_36 : decode cX10_resolved 36 = .ok (.bipush (-2), 2) := by decide +kernel
theorem dX10_resolved_38 : decode cX10_resolved 38 = .ok (.ireturn, 1) := by decide +kernel
theorem dX10_batch_0 : decode cX10_batch 0 = .ok (.aload_n 0, 1) := by decide +kernel
theorem dX10_batch_1 : decode cX10_batch 1 = .ok (.getfield 137, 3) := by decide +kernel
theorem dX10_batch_4 : decode cX10_batch 4 = .ok (.bipush 24, 2) := by decide +kernel
theorem dX10_batch_6 : decode cX10_batch 6 = .ok (.if_icmp .ne 6, 3) := by decide +kernel
theorem dX10_batch_9 : decode cX10_batch 9 = .ok (.bipush (-6), 2) := by decide +kernel
theorem dX10_batch_11 : decode cX10_batch 11 = .ok (.ireturn, 1) := by decide +kernel
theorem dX10_batch_12 : decode cX10_batch 12 = .ok (.aload_n 0, 1) := by decide +kernel
theorem dX10_batch_13 : decode cX10_batch 13 = .ok (.dup, 1) := by decide +kernel
theorem dX10_batch_14 : decode cX10_batch 14 = .ok (.getfield 137, 3) := by decide +kernel
theorem dX10_batch_17 : decode cX10_batch 17 = .ok (.iconst 1, 1) := by decide +kernel
theorem dX10_batch_18 : decode cX10_batch 18 = .ok (.iadd, 1) := by decide +kernel
theorem dX10_batch_19 : decode cX10_batch 19 = .ok (.putfield 137, 3) := by decide +kernel
theorem dX10_batch_22 : decode cX10_batch 22 = .ok (.aload_n 0, 1) := by decide +kernel
theorem dX10_batch_23 : decode cX10_batch 23 = .ok (.getfield 137, 3) := by decide +kernel
theorem dX10_batch_26 : decode cX10_batch 26 = .ok (.iconst 1, 1) := by decide +kernel
theorem dX10_batch_27 : decode cX10_batch 27 = .ok (.isub, 1) := by decide +kernel
theorem dX10_batch_28 : decode cX10_batch 28 = .ok (.ireturn, 1) := by decide +kernel
theorem dX10_unitsOf_0 : decode cX10_unitsOf 0 = .ok (.iconst 0, 1) := by decide +kernel
theorem dX10_unitsOf_1 : decode cX10_unitsOf 1 = .ok (.istore_n 2, 1) := by decide +kernel
theorem dX10_unitsOf_2 : decode cX10_unitsOf 2 = .ok (.iconst 0, 1) := by decide +kernel
theorem dX10_unitsOf_3 : decode cX10_unitsOf 3 = .ok (.istore_n 3, 1) := by decide +kernel
theorem dX10_unitsOf_4 : decode cX10_unitsOf 4 = .ok (.iload_n 3, 1) := by decide +kernel
theorem dX10_unitsOf_5 : decode cX10_unitsOf 5 = .ok (.bipush 8, 2) := by decide +kernel
theorem dX10_unitsOf_7 : decode cX10_unitsOf 7 = .ok (.if_icmp .ge 23, 3) := by decide +kernel
theorem dX10_unitsOf_10 : decode cX10_unitsOf 10 = .ok (.iload_n 2, 1) := by decide +kernel
theorem dX10_unitsOf_11 : decode cX10_unitsOf 11 = .ok (.aload_n 0, 1) := by decide +kernel
theorem dX10_unitsOf_12 : decode cX10_unitsOf 12 = .ok (.getfield 44, 3) := by decide +kernel
theorem dX10_unitsOf_15 : decode cX10_unitsOf 15 = .ok (.bipush 8, 2) := by decide +kernel
theorem dX10_unitsOf_17 : decode cX10_unitsOf 17 = .ok (.iload_n 1, 1) := by decide +kernel
theorem dX10_unitsOf_18 : decode cX10_unitsOf 18 = .ok (.imul, 1) := by decide +kernel
theorem dX10_unitsOf_19 : decode cX10_unitsOf 19 = .ok (.iload_n 3, 1) := by decide +kernel
theorem dX10_unitsOf_20 : decode cX10_unitsOf 20 = .ok (.iadd, 1) := by decide +kernel
theorem dX10_unitsOf_21 : decode cX10_unitsOf 21 = .ok (.iaload, 1) := by decide +kernel
theorem dX10_unitsOf_22 : decode cX10_unitsOf 22 = .ok (.iadd, 1) := by decide +kernel
theorem dX10_unitsOf_23 : decode cX10_unitsOf 23 = .ok (.istore_n 2, 1) := by decide +kernel
theorem dX10_unitsOf_24 : decode cX10_unitsOf 24 = .ok (.iinc 3 1, 3) := by decide +kernel
theorem dX10_unitsOf_27 : decode cX10_unitsOf 27 = .ok (.goto (-23), 3) := by decide +kernel
theorem dX10_unitsOf_30 : decode cX10_unitsOf 30 = .ok (.iload_n 2, 1) := by decide +kernel
theorem dX10_unitsOf_31 : decode cX10_unitsOf 31 = .ok (.ireturn, 1) := by decide +kernel
theorem dX10_weigh_0 : decode cX10_weigh 0 = .ok (.aload_n 0, 1) := by decide +kernel
theorem dX10_weigh_1 : decode cX10_weigh 1 = .ok (.iload_n 1, 1) := by decide +kernel
theorem dX10_weigh_2 : decode cX10_weigh 2 = .ok (.invokevirtual 165, 3) := by decide +kernel
theorem dX10_weigh_5 : decode cX10_weigh 5 = .ok (.ifCond .eq 11, 3) := by decide +kernel
theorem dX10_weigh_8 : decode cX10_weigh 8 = .ok (.aload_n 0, 1) := by decide +kernel
theorem dX10_weigh_9 : decode cX10_weigh 9 = .ok (.iload_n 2, 1) := by decide +kernel
theorem dX10_weigh_10 : decode cX10_weigh 10 = .ok (.invokevirtual 140, 3) := by decide +kernel
theorem dX10_weigh_13 : decode cX10_weigh 13 = .ok (.ifCond .ne 6, 3) := by decide +kernel
theorem dX10_weigh_16 : decode cX10_weigh 16 = .ok (.bipush (-2), 2) := by decide +kernel
theorem dX10_weigh_18 : decode cX10_weigh 18 = .ok (.ireturn, 1) := by decide +kernel
theorem dX10_weigh_19 : decode cX10_weigh 19 = .ok (.iload_n 3, 1) := by decide +kernel
theorem dX10_weigh_20 : decode cX10_weigh 20 = .ok (.iconst 1, 1) := by decide +kernel
theorem dX10_weigh_21 : decode cX10_weigh 21 = .ok (.sipush 20000, 3) := by decide +kernel
theorem dX10_weigh_24 : decode cX10_weigh 24 = .ok (.invokestatic 133, 3) := by decide +kernel
theorem dX10_weigh_27 : decode cX10_weigh 27 = .ok (.ifCond .ne 6, 3) := by decide +kernel
theorem dX10_weigh_30 : decode cX10_weigh 30 = .ok (.bipush (-3), 2) := by decide +kernel
theorem dX10_weigh_32 : decode cX10_weigh 32 = .ok (.ireturn, 1) := by decide +kernel
theorem dX10_weigh_33 : decode cX10_weigh 33 = .ok (.aload_n 0, 1) := by decide +kernel
theorem dX10_weigh_34 : decode cX10_weigh 34 = .ok (.getfield 51, 3) := by decide +kernel
theorem dX10_weigh_37 : decode cX10_weigh 37 = .ok (.iload_n 1, 1) := by decide +kernel
theorem dX10_weigh_38 : decode cX10_weigh 38 = .ok (.baload, 1) := by decide +kernel
theorem dX10_weigh_39 : decode cX10_weigh 39 = .ok (.ifCond .eq 6, 3) := by decide +kernel
theorem dX10_weigh_42 : decode cX10_weigh 42 = .ok (.bipush (-4), 2) := by decide +kernel
theorem dX10_weigh_44 : decode cX10_weigh 44 = .ok (.ireturn, 1) := by decide +kernel
theorem dX10_weigh_45 : decode cX10_weigh 45 = .ok (.aload_n 0, 1) := by decide +kernel
theorem dX10_weigh_46 : decode cX10_weigh 46 = .ok (.iload_n 2, 1) := by decide +kernel
theorem dX10_weigh_47 : decode cX10_weigh 47 = .ok (.invokevirtual 154, 3) := by decide +kernel
theorem dX10_weigh_50 : decode cX10_weigh 50 = .ok (.iload_n 3, 1) := by decide +kernel
theorem dX10_weigh_51 : decode cX10_weigh 51 = .ok (.if_icmp .ge 6, 3) := by decide +kernel
theorem dX10_weigh_54 : decode cX10_weigh 54 = .ok (.bipush (-5), 2) := by decide +kernel
theorem dX10_weigh_56 : decode cX10_weigh 56 = .ok (.ireturn, 1) := by decide +kernel
theorem dX10_weigh_57 : decode cX10_weigh 57 = .ok (.aload_n 0, 1) := by decide +kernel
theorem dX10_weigh_58 : decode cX10_weigh 58 = .ok (.iload_n 1, 1) := by decide +kernel
theorem dX10_weigh_59 : decode cX10_weigh 59 = .ok (.invokevirtual 168, 3) := by decide +kernel
theorem dX10_weigh_62 : decode cX10_weigh 62 = .ok (.iload_n 3, 1) := by decide +kernel
theorem dX10_weigh_63 : decode cX10_weigh 63 = .ok (.iadd, 1) := by decide +kernel
theorem dX10_weigh_64 : decode cX10_weigh 64 = .ok (.sipush 20000, 3) := by decide +kernel
theorem dX10_weigh_67 : decode cX10_weigh 67 = .ok (.if_icmp .le 6, 3) := by decide +kernel
theorem dX10_weigh_70 : decode cX10_weigh 70 = .ok (.bipush (-6), 2) := by decide +kernel
theorem dX10_weigh_72 : decode cX10_weigh 72 = .ok (.ireturn, 1) := by decide +kernel
theorem dX10_weigh_73 : decode cX10_weigh 73 = .ok (.aload_n 0, 1) := by decide +kernel
theorem dX10_weigh_74 : decode cX10_weigh 74 = .ok (.iload_n 1, 1) := by decide +kernel
theorem dX10_weigh_75 : decode cX10_weigh 75 = .ok (.iload_n 2, 1) := by decide +kernel
theorem dX10_weigh_76 : decode cX10_weigh 76 = .ok (.iload_n 3, 1) := by decide +kernel
theorem dX10_weigh_77 : decode cX10_weigh 77 = .ok (.invokevirtual 171, 3) := by decide +kernel
theorem dX10_weigh_80 : decode cX10_weigh 80 = .ok (.aload_n 0, 1) := by decide +kernel
theorem dX10_weigh_81 : decode cX10_weigh 81 = .ok (.iload_n 1, 1) := by decide +kernel
theorem dX10_weigh_82 : decode cX10_weigh 82 = .ok (.invokevirtual 168, 3) := by decide +kernel
theorem dX10_weigh_85 : decode cX10_weigh 85 = .ok (.ireturn, 1) := by decide +kernel
theorem dX10_brew_0 : decode cX10_brew 0 = .ok (.aload_n 0, 1) := by decide +kernel
theorem dX10_brew_1 : decode cX10_brew 1 = .ok (.iload_n 1, 1) := by decide +kernel
theorem dX10_brew_2 : decode cX10_brew 2 = .ok (.invokevirtual 165, 3) := by decide +kernel
theorem dX10_brew_5 : decode cX10_brew 5 = .ok (.ifCond .eq 17, 3) := by decide +kernel
theorem dX10_brew_8 : decode cX10_brew 8 = .ok (.iload_n 2, 1) := by decide +kernel
theorem dX10_brew_9 : decode cX10_brew 9 = .ok (.iconst 0, 1) := by decide +kernel
theorem dX10_brew_10 : decode cX10_brew 10 = .ok (.aload_n 0, 1) := by decide +kernel
theorem dX10_brew_11 : decode cX10_brew 11 = .ok (.getfield 158, 3) := by decide +kernel
theorem dX10_brew_14 : decode cX10_brew 14 = .ok (.iconst 1, 1) := by decide +kernel
theorem dX10_brew_15 : decode cX10_brew 15 = .ok (.isub, 1) := by decide +kernel
theorem dX10_brew_16 : decode cX10_brew 16 = .ok (.invokestatic 133, 3) := by decide +kernel
theorem dX10_brew_19 : decode cX10_brew 19 = .ok (.ifCond .ne 6, 3) := by decide +kernel
theorem dX10_brew_22 : decode cX10_brew 22 = .ok (.bipush (-2), 2) := by decide +kernel
theorem dX10_brew_24 : decode cX10_brew 24 = .ok (.ireturn, 1) := by decide +kernel
theorem dX10_brew_25 : decode cX10_brew 25 = .ok (.iload_n 3, 1) := by decide +kernel
theorem dX10_brew_26 : decode cX10_brew 26 = .ok (.iconst 1, 1) := by decide +kernel
theorem dX10_brew_27 : decode cX10_brew 27 = .ok (.bipush 100, 2) := by decide +kernel
theorem dX10_brew_29 : decode cX10_brew 29 = .ok (.invokestatic 133, 3) := by decide +kernel
theorem dX10_brew_32 : decode cX10_brew 32 = .ok (.ifCond .ne 6, 3) := by decide +kernel
theorem dX10_brew_35 : decode cX10_brew 35 = .ok (.bipush (-3), 2) := by decide +kernel
theorem dX10_brew_37 : decode cX10_brew 37 = .ok (.ireturn, 1) := by decide +kernel
theorem dX10_brew_38 : decode cX10_brew 38 = .ok (.iconst 0, 1) := by decide +kernel
theorem dX10_brew_39 : decode cX10_brew 39 = .ok (.istore 4, 2) := by decide +kernel
theorem dX10_brew_41 : decode cX10_brew 41 = .ok (.iconst 0, 1) := by decide +kernel
theorem dX10_brew_42 : decode cX10_brew 42 = .ok (.istore 5, 2) := by decide +kernel
theorem dX10_brew_44 : decode cX10_brew 44 = .ok (.iconst 0, 1) := by decide +kernel
theorem dX10_brew_45 : decode cX10_brew 45 = .ok (.istore 6, 2) := by decide +kernel
theorem dX10_brew_47 : decode cX10_brew 47 = .ok (.iload 6, 2) := by decide +kernel
theorem dX10_brew_49 : decode cX10_brew 49 = .ok (.bipush 8, 2) := by decide +kernel
theorem dX10_brew_51 : decode cX10_brew 51 = .ok (.if_icmp .ge 60, 3) := by decide +kernel
theorem dX10_brew_54 : decode cX10_brew 54 = .ok (.iload_n 3, 1) := by decide +kernel
theorem dX10_brew_55 : decode cX10_brew 55 = .ok (.aload_n 0, 1) := by decide +kernel
theorem dX10_brew_56 : decode cX10_brew 56 = .ok (.getfield 38, 3) := by decide +kernel
theorem dX10_brew_59 : decode cX10_brew 59 = .ok (.bipush 8, 2) := by decide +kernel
theorem dX10_brew_61 : decode cX10_brew 61 = .ok (.iload_n 2, 1) := by decide +kernel
theorem dX10_brew_62 : decode cX10_brew 62 = .ok (.imul, 1) := by decide +kernel
theorem dX10_brew_63 : decode cX10_brew 63 = .ok (.iload 6, 2) := by decide +kernel
theorem dX10_brew_65 : decode cX10_brew 65 = .ok (.iadd, 1) := by decide +kernel
theorem dX10_brew_66 : decode cX10_brew 66 = .ok (.iaload, 1) := by decide +kernel
theorem dX10_brew_67 : decode cX10_brew 67 = .ok (.imul, 1) := by decide +kernel
theorem dX10_brew_68 : decode cX10_brew 68 = .ok (.istore 7, 2) := by decide +kernel
theorem dX10_brew_70 : decode cX10_brew 70 = .ok (.iload 4, 2) := by decide +kernel
theorem dX10_brew_72 : decode cX10_brew 72 = .ok (.iload 7, 2) := by decide +kernel
theorem dX10_brew_74 : decode cX10_brew 74 = .ok (.iadd, 1) := by decide +kernel
theorem dX10_brew_75 : decode cX10_brew 75 = .ok (.istore 4, 2) := by decide +kernel
theorem dX10_brew_77 : decode cX10_brew 77 = .ok (.iload 5, 2) := by decide +kernel
theorem dX10_brew_79 : decode cX10_brew 79 = .ok (.ifCond .ne 19, 3) := by decide +kernel
theorem dX10_brew_82 : decode cX10_brew 82 = .ok (.iload 7, 2) := by decide +kernel
theorem dX10_brew_84 : decode cX10_brew 84 = .ok (.ifCond .le 18, 3) := by decide +kernel
theorem dX10_brew_87 : decode cX10_brew 87 = .ok (.aload_n 0, 1) := by decide +kernel
theorem dX10_brew_88 : decode cX10_brew 88 = .ok (.iload 6, 2) := by decide +kernel
theorem dX10_brew_90 : decode cX10_brew 90 = .ok (.invokevirtual 154, 3) := by decide +kernel
theorem dX10_brew_93 : decode cX10_brew 93 = .ok (.iload 7, 2) := by decide +kernel
theorem dX10_brew_95 : decode cX10_brew 95 = .ok (.if_icmp .ge 7, 3) := by decide +kernel
theorem dX10_brew_98 : decode cX10_brew 98 = .ok (.iconst 1, 1) := by decide +kernel
theorem dX10_brew_99 : decode cX10_brew 99 = .ok (.goto 4, 3) := by decide +kernel
theorem dX10_brew_102 : decode cX10_brew 102 = .ok (.iconst 0, 1) := by decide +kernel
theorem dX10_brew_103 : decode cX10_brew 103 = .ok (.istore 5, 2) := by decide +kernel
theorem dX10_brew_105 : decode cX10_brew 105 = .ok (.iinc 6 1, 3) := by decide +kernel
theorem dX10_brew_108 : decode cX10_brew 108 = .ok (.goto (-61), 3) := by decide +kernel
theorem dX10_brew_111 : decode cX10_brew 111 = .ok (.aload_n 0, 1) := by decide +kernel
theorem dX10_brew_112 : decode cX10_brew 112 = .ok (.getfield 51, 3) := by decide +kernel
theorem dX10_brew_115 : decode cX10_brew 115 = .ok (.iload_n 1, 1) := by decide +kernel
theorem dX10_brew_116 : decode cX10_brew 116 = .ok (.baload, 1) := by decide +kernel
theorem dX10_brew_117 : decode cX10_brew 117 = .ok (.ifCond .ne 8, 3) := by decide +kernel
theorem dX10_brew_120 : decode cX10_brew 120 = .ok (.iload 4, 2) := by decide +kernel
theorem dX10_brew_122 : decode cX10_brew 122 = .ok (.ifCond .ne 6, 3) := by decide +kernel
theorem dX10_brew_125 : decode cX10_brew 125 = .ok (.bipush (-4), 2) := by decide +kernel
theorem dX10_brew_127 : decode cX10_brew 127 = .ok (.ireturn, 1) := by decide +kernel
theorem dX10_brew_128 : decode cX10_brew 128 = .ok (.iload 5, 2) := by decide +kernel
theorem dX10_brew_130 : decode cX10_brew 130 = .ok (.ifCond .eq 6, 3) := by decide +kernel
theorem dX10_brew_133 : decode cX10_brew 133 = .ok (.bipush (-5), 2) := by decide +kernel
theorem dX10_brew_135 : decode cX10_brew 135 = .ok (.ireturn, 1) := by decide +kernel
theorem dX10_brew_136 : decode cX10_brew 136 = .ok (.aload_n 0, 1) := by decide +kernel
theorem dX10_brew_137 : decode cX10_brew 137 = .ok (.iload_n 1, 1) := by decide +kernel
theorem dX10_brew_138 : decode cX10_brew 138 = .ok (.invokevirtual 168, 3) := by decide +kernel
theorem dX10_brew_141 : decode cX10_brew 141 = .ok (.iload 4, 2) := by decide +kernel
theorem dX10_brew_143 : decode cX10_brew 143 = .ok (.iadd, 1) := by decide +kernel
theorem dX10_brew_144 : decode cX10_brew 144 = .ok (.sipush 20000, 3) := by decide +kernel
theorem dX10_brew_147 : decode cX10_brew 147 = .ok (.if_icmp .le 6, 3) := by decide +kernel
theorem dX10_brew_150 : decode cX10_brew 150 = .ok (.bipush (-6), 2) := by decide +kernel
theorem dX10_brew_152 : decode cX10_brew 152 = .ok (.ireturn, 1) := by decide +kernel
theorem dX10_brew_153 : decode cX10_brew 153 = .ok (.iconst 0, 1) := by decide +kernel
theorem dX10_brew_154 : decode cX10_brew 154 = .ok (.istore 6, 2) := by decide +kernel
theorem dX10_brew_156 : decode cX10_brew 156 = .ok (.iload 6, 2) := by decide +kernel
theorem dX10_brew_158 : decode cX10_brew 158 = .ok (.bipush 8, 2) := by decide +kernel
theorem dX10_brew_160 : decode cX10_brew 160 = .ok (.if_icmp .ge 45, 3) := by decide +kernel
theorem dX10_brew_163 : decode cX10_brew 163 = .ok (.aload_n 0, 1) := by decide +kernel
theorem dX10_brew_164 : decode cX10_brew 164 = .ok (.getfield 38, 3) := by decide +kernel
theorem dX10_brew_167 : decode cX10_brew 167 = .ok (.bipush 8, 2) := by decide +kernel
theorem dX10_brew_169 : decode cX10_brew 169 = .ok (.iload_n 2, 1) := by decide +kernel
theorem dX10_brew_170 : decode cX10_brew 170 = .ok (.imul, 1) := by decide +kernel
theorem dX10_brew_171 : decode cX10_brew 171 = .ok (.iload 6, 2) := by decide +kernel
theorem dX10_brew_173 : decode cX10_brew 173 = .ok (.iadd, 1) := by decide +kernel
theorem dX10_brew_174 : decode cX10_brew 174 = .ok (.iaload, 1) := by decide +kernel
theorem dX10_brew_175 : decode cX10_brew 175 = .ok (.ifCond .le 24, 3) := by decide +kernel
theorem dX10_brew_178 : decode cX10_brew 178 = .ok (.aload_n 0, 1) := by decide +kernel
theorem dX10_brew_179 : decode cX10_brew 179 = .ok (.iload_n 1, 1) := by decide +kernel
theorem dX10_brew_180 : decode cX10_brew 180 = .ok (.iload 6, 2) := by decide +kernel
theorem dX10_brew_182 : decode cX10_brew 182 = .ok (.iload_n 3, 1) := by decide +kernel
theorem dX10_brew_183 : decode cX10_brew 183 = .ok (.aload_n 0, 1) := by decide +kernel
theorem dX10_brew_184 : decode cX10_brew 184 = .ok (.getfield 38, 3) := by decide +kernel
theorem dX10_brew_187 : decode cX10_brew 187 = .ok (.bipush 8, 2) := by decide +kernel
theorem dX10_brew_189 : decode cX10_brew 189 = .ok (.iload_n 2, 1) := by decide +kernel
theorem dX10_brew_190 : decode cX10_brew 190 = .ok (.imul, 1) := by decide +kernel
theorem dX10_brew_191 : decode cX10_brew 191 = .ok (.iload 6, 2) := by decide +kernel
theorem dX10_brew_193 : decode cX10_brew 193 = .ok (.iadd, 1) := by decide +kernel
theorem dX10_brew_194 : decode cX10_brew 194 = .ok (.iaload, 1) := by decide +kernel
theorem dX10_brew_195 : decode cX10_brew 195 = .ok (.imul, 1) := by decide +kernel
theorem dX10_brew_196 : decode cX10_brew 196 = .ok (.invokevirtual 171, 3) := by decide +kernel
theorem dX10_brew_199 : decode cX10_brew 199 = .ok (.iinc 6 1, 3) := by decide +kernel
theorem dX10_brew_202 : decode cX10_brew 202 = .ok (.goto (-46), 3) := by decide +kernel
theorem dX10_brew_205 : decode cX10_brew 205 = .ok (.aload_n 0, 1) := by decide +kernel
theorem dX10_brew_206 : decode cX10_brew 206 = .ok (.iload_n 1, 1) := by decide +kernel
theorem dX10_brew_207 : decode cX10_brew 207 = .ok (.invokevirtual 168, 3) := by decide +kernel
theorem dX10_brew_210 : decode cX10_brew 210 = .ok (.ireturn, 1) := by decide +kernel
theorem dX10_shadeOf_0 : decode cX10_shadeOf 0 = .ok (.lconst 0, 1) := by decide +kernel
theorem dX10_shadeOf_1 : decode cX10_shadeOf 1 = .ok (.lstore 5, 2) := by decide +kernel
theorem dX10_shadeOf_3 : decode cX10_shadeOf 3 = .ok (.lconst 0, 1) := by decide +kernel
theorem dX10_shadeOf_4 : decode cX10_shadeOf 4 = .ok (.lstore 7, 2) := by decide +kernel
theorem dX10_shadeOf_6 : decode cX10_shadeOf 6 = .ok (.iconst 0, 1) := by decide +kernel
theorem dX10_shadeOf_7 : decode cX10_shadeOf 7 = .ok (.istore 9, 2) := by decide +kernel
theorem dX10_shadeOf_9 : decode cX10_shadeOf 9 = .ok (.iload 9, 2) := by decide +kernel
theorem dX10_shadeOf_11 : decode cX10_shadeOf 11 = .ok (.bipush 8, 2) := by decide +kernel
theorem dX10_shadeOf_13 : decode cX10_shadeOf 13 = .ok (.if_icmp .ge 67, 3) := by decide +kernel
theorem dX10_shadeOf_16 : decode cX10_shadeOf 16 = .ok (.aload_n 1, 1) := by decide +kernel
theorem dX10_shadeOf_17 : decode cX10_shadeOf 17 = .ok (.iload_n 2, 1) := by decide +kernel
theorem dX10_shadeOf_18 : decode cX10_shadeOf 18 = .ok (.iload 9, 2) := by decide +kernel
theorem dX10_shadeOf_20 : decode cX10_shadeOf 20 = .ok (.iadd, 1) := by decide +kernel
theorem dX10_shadeOf_21 : decode cX10_shadeOf 21 = .ok (.iaload, 1) := by decide +kernel
theorem dX10_shadeOf_22 : decode cX10_shadeOf 22 = .ok (.aload_n 3, 1) := by decide +kernel
theorem dX10_shadeOf_23 : decode cX10_shadeOf 23 = .ok (.iload 9, 2) := by decide +kernel
theorem dX10_shadeOf_25 : decode cX10_shadeOf 25 = .ok (.iaload, 1) := by decide +kernel
theorem dX10_shadeOf_26 : decode cX10_shadeOf 26 = .ok (.iadd, 1) := by decide +kernel
theorem dX10_shadeOf_27 : decode cX10_shadeOf 27 = .ok (.i2l, 1) := by decide +kernel
theorem dX10_shadeOf_28 : decode cX10_shadeOf 28 = .ok (.lstore 10, 2) := by decide +kernel
theorem dX10_shadeOf_30 : decode cX10_shadeOf 30 = .ok (.lload 5, 2) := by decide +kernel
theorem dX10_shadeOf_32 : decode cX10_shadeOf 32 = .ok (.lload 10, 2) := by decide +kernel
theorem dX10_shadeOf_34 : decode cX10_shadeOf 34 = .ok (.aload_n 0, 1) := by decide +kernel
theorem dX10_shadeOf_35 : decode cX10_shadeOf 35 = .ok (.getfield 7, 3) := by decide +kernel
theorem dX10_shadeOf_38 : decode cX10_shadeOf 38 = .ok (.bipush 8, 2) := by decide +kernel
theorem dX10_shadeOf_40 : decode cX10_shadeOf 40 = .ok (.iload 4, 2) := by decide +kernel
theorem dX10_shadeOf_42 : decode cX10_shadeOf 42 = .ok (.imul, 1) := by decide +kernel
theorem dX10_shadeOf_43 : decode cX10_shadeOf 43 = .ok (.iload 9, 2) := by decide +kernel
theorem dX10_shadeOf_45 : decode cX10_shadeOf 45 = .ok (.iadd, 1) := by decide +kernel
theorem dX10_shadeOf_46 : decode cX10_shadeOf 46 = .ok (.iaload, 1) := by decide +kernel
theorem dX10_shadeOf_47 : decode cX10_shadeOf 47 = .ok (.i2l, 1) := by decide +kernel
theorem dX10_shadeOf_48 : decode cX10_shadeOf 48 = .ok (.lmul, 1) := by decide +kernel
theorem dX10_shadeOf_49 : decode cX10_shadeOf 49 = .ok (.ladd, 1) := by decide +kernel
theorem dX10_shadeOf_50 : decode cX10_shadeOf 50 = .ok (.lstore 5, 2) := by decide +kernel
theorem dX10_shadeOf_52 : decode cX10_shadeOf 52 = .ok (.lload 7, 2) := by decide +kernel
theorem dX10_shadeOf_54 : decode cX10_shadeOf 54 = .ok (.lload 10, 2) := by decide +kernel
theorem dX10_shadeOf_56 : decode cX10_shadeOf 56 = .ok (.aload_n 0, 1) := by decide +kernel
theorem dX10_shadeOf_57 : decode cX10_shadeOf 57 = .ok (.getfield 13, 3) := by decide +kernel
theorem dX10_shadeOf_60 : decode cX10_shadeOf 60 = .ok (.bipush 8, 2) := by decide +kernel
theorem dX10_shadeOf_62 : decode cX10_shadeOf 62 = .ok (.iload 4, 2) := by decide +kernel
theorem dX10_shadeOf_64 : decode cX10_shadeOf 64 = .ok (.imul, 1) := by decide +kernel
theorem dX10_shadeOf_65 : decode cX10_shadeOf 65 = .ok (.iload 9, 2) := by decide +kernel
theorem dX10_shadeOf_67 : decode cX10_shadeOf 67 = .ok (.iadd, 1) := by decide +kernel
theorem dX10_shadeOf_68 : decode cX10_shadeOf 68 = .ok (.iaload, 1) := by decide +kernel
theorem dX10_shadeOf_69 : decode cX10_shadeOf 69 = .ok (.i2l, 1) := by decide +kernel
theorem dX10_shadeOf_70 : decode cX10_shadeOf 70 = .ok (.lmul, 1) := by decide +kernel
theorem dX10_shadeOf_71 : decode cX10_shadeOf 71 = .ok (.ladd, 1) := by decide +kernel
theorem dX10_shadeOf_72 : decode cX10_shadeOf 72 = .ok (.lstore 7, 2) := by decide +kernel
theorem dX10_shadeOf_74 : decode cX10_shadeOf 74 = .ok (.iinc 9 1, 3) := by decide +kernel
theorem dX10_shadeOf_77 : decode cX10_shadeOf 77 = .ok (.goto (-68), 3) := by decide +kernel
theorem dX10_shadeOf_80 : decode cX10_shadeOf 80 = .ok (.lload 7, 2) := by decide +kernel
theorem dX10_shadeOf_82 : decode cX10_shadeOf 82 = .ok (.lconst 0, 1) := by decide +kernel
theorem dX10_shadeOf_83 : decode cX10_shadeOf 83 = .ok (.lcmp, 1) := by decide +kernel
theorem dX10_shadeOf_84 : decode cX10_shadeOf 84 = .ok (.ifCond .ne 6, 3) := by decide +kernel
theorem dX10_shadeOf_87 : decode cX10_shadeOf 87 = .ok (.ldc 175, 2) := by decide +kernel
theorem dX10_shadeOf_89 : decode cX10_shadeOf 89 = .ok (.ireturn, 1) := by decide +kernel
theorem dX10_shadeOf_90 : decode cX10_shadeOf 90 = .ok (.ldc2_w 176, 3) := by decide +kernel
theorem dX10_shadeOf_93 : decode cX10_shadeOf 93 = .ok (.lload 5, 2) := by decide +kernel
theorem dX10_shadeOf_95 : decode cX10_shadeOf 95 = .ok (.lmul, 1) := by decide +kernel
theorem dX10_shadeOf_96 : decode cX10_shadeOf 96 = .ok (.lload 7, 2) := by decide +kernel
theorem dX10_shadeOf_98 : decode cX10_shadeOf 98 = .ok (.ldiv, 1) := by decide +kernel
theorem dX10_shadeOf_99 : decode cX10_shadeOf 99 = .ok (.lstore 9, 2) := by decide +kernel
theorem dX10_shadeOf_101 : decode cX10_shadeOf 101 = .ok (.lload 9, 2) := by decide +kernel
theorem dX10_shadeOf_103 : decode cX10_shadeOf 103 = .ok (.ldc2_w 178, 3) := by decide +kernel
theorem dX10_shadeOf_106 : decode cX10_shadeOf 106 = .ok (.lcmp, 1) := by decide +kernel
theorem dX10_shadeOf_107 : decode cX10_shadeOf 107 = .ok (.ifCond .le 8, 3) := by decide +kernel
theorem dX10_shadeOf_110 : decode cX10_shadeOf 110 = .ok (.ldc 175, 2) := by decide +kernel
theorem dX10_shadeOf_112 : decode cX10_shadeOf 112 = .ok (.goto 6, 3) := by decide +kernel
theorem dX10_shadeOf_115 : decode cX10_shadeOf 115 = .ok (.lload 9, 2) := by decide +kernel
theorem dX10_shadeOf_117 : decode cX10_shadeOf 117 = .ok (.l2i, 1) := by decide +kernel
theorem dX10_shadeOf_118 : decode cX10_shadeOf 118 = .ok (.ireturn, 1) := by decide +kernel
theorem dX10_missOf_0 : decode cX10_missOf 0 = .ok (.iconst 0, 1) := by decide +kernel
theorem dX10_missOf_1 : decode cX10_missOf 1 = .ok (.istore 6, 2) := by decide +kernel
theorem dX10_missOf_3 : decode cX10_missOf 3 = .ok (.iconst 0, 1) := by decide +kernel
theorem dX10_missOf_4 : decode cX10_missOf 4 = .ok (.istore 7, 2) := by decide +kernel
theorem dX10_missOf_6 : decode cX10_missOf 6 = .ok (.iload 7, 2) := by decide +kernel
theorem dX10_missOf_8 : decode cX10_missOf 8 = .ok (.iconst 3, 1) := by decide +kernel
theorem dX10_missOf_9 : decode cX10_missOf 9 = .ok (.if_icmp .ge 80, 3) := by decide +kernel
theorem dX10_missOf_12 : decode cX10_missOf 12 = .ok (.aload_n 0, 1) := by decide +kernel
theorem dX10_missOf_13 : decode cX10_missOf 13 = .ok (.aload_n 0, 1) := by decide +kernel
theorem dX10_missOf_14 : decode cX10_missOf 14 = .ok (.getfield 44, 3) := by decide +kernel
theorem dX10_missOf_17 : decode cX10_missOf 17 = .ok (.bipush 8, 2) := by decide +kernel
theorem dX10_missOf_19 : decode cX10_missOf 19 = .ok (.iload_n 1, 1) := by decide +kernel
theorem dX10_missOf_20 : decode cX10_missOf 20 = .ok (.imul, 1) := by decide +kernel
theorem dX10_missOf_21 : decode cX10_missOf 21 = .ok (.aload_n 2, 1) := by decide +kernel
theorem dX10_missOf_22 : decode cX10_missOf 22 = .ok (.iload 7, 2) := by decide +kernel
theorem dX10_missOf_24 : decode cX10_missOf 24 = .ok (.invokevirtual 180, 3) := by decide +kernel
theorem dX10_missOf_27 : decode cX10_missOf 27 = .ok (.iload 7, 2) := by decide +kernel
theorem dX10_missOf_29 : decode cX10_missOf 29 = .ok (.ifCond .ne 7, 3) := by decide +kernel
theorem dX10_missOf_32 : decode cX10_missOf 32 = .ok (.iload_n 3, 1) := by decide +kernel
theorem dX10_missOf_33 : decode cX10_missOf 33 = .ok (.goto 16, 3) := by decide +kernel
theorem dX10_missOf_36 : decode cX10_missOf 36 = .ok (.iload 7, 2) := by decide +kernel
theorem dX10_missOf_38 : decode cX10_missOf 38 = .ok (.iconst 1, 1) := by decide +kernel
theorem dX10_missOf_39 : decode cX10_missOf 39 = .ok (.if_icmp .ne 8, 3) := by decide +kernel
theorem dX10_missOf_42 : decode cX10_missOf 42 = .ok (.iload 4, 2) := by decide +kernel
theorem dX10_missOf_44 : decode cX10_missOf 44 = .ok (.goto 5, 3) := by decide +kernel
theorem dX10_missOf_47 : decode cX10_missOf 47 = .ok (.iload 5, 2) := by decide +kernel
theorem dX10_missOf_49 : decode cX10_missOf 49 = .ok (.isub, 1) := by decide +kernel
theorem dX10_missOf_50 : decode cX10_missOf 50 = .ok (.istore 8, 2) := by decide +kernel
theorem dX10_missOf_52 : decode cX10_missOf 52 = .ok (.iload 8, 2) := by decide +kernel
theorem dX10_missOf_54 : decode cX10_missOf 54 = .ok (.ifCond .ge 9, 3) := by decide +kernel
theorem dX10_missOf_57 : decode cX10_missOf 57 = .ok (.iload 8, 2) := by decide +kernel
theorem dX10_missOf_59 : decode cX10_missOf 59 = .ok (.ineg, 1) := by decide +kernel
theorem dX10_missOf_60 : decode cX10_missOf 60 = .ok (.goto 5, 3) := by decide +kernel
theorem dX10_missOf_63 : decode cX10_missOf 63 = .ok (.iload 8, 2) := by decide +kernel
theorem dX10_missOf_65 : decode cX10_missOf 65 = .ok (.istore 8, 2) := by decide +kernel
theorem dX10_missOf_67 : decode cX10_missOf 67 = .ok (.iload 8, 2) := by decide +kernel
theorem dX10_missOf_69 : decode cX10_missOf 69 = .ok (.iload 6, 2) := by decide +kernel
theorem dX10_missOf_71 : decode cX10_missOf 71 = .ok (.if_icmp .le 8, 3) := by decide +kernel
theorem dX10_missOf_74 : decode cX10_missOf 74 = .ok (.iload 8, 2) := by decide +kernel
theorem dX10_missOf_76 : decode cX10_missOf 76 = .ok (.goto 5, 3) := by decide +kernel
theorem dX10_missOf_79 : decode cX10_missOf 79 = .ok (.iload 6, 2) := by decide +kernel
theorem dX10_missOf_81 : decode cX10_missOf 81 = .ok (.istore 6, 2) := by decide +kernel
theorem dX10_missOf_83 : decode cX10_missOf 83 = .ok (.iinc 7 1, 3) := by decide +kernel
theorem dX10_missOf_86 : decode cX10_missOf 86 = .ok (.goto (-80), 3) := by decide +kernel
theorem dX10_missOf_89 : decode cX10_missOf 89 = .ok (.iload 6, 2) := by decide +kernel
theorem dX10_missOf_91 : decode cX10_missOf 91 = .ok (.ireturn, 1) := by decide +kernel
theorem dX10_isAim_0 : decode cX10_isAim 0 = .ok (.iload_n 0, 1) := by decide +kernel
theorem dX10_isAim_1 : decode cX10_isAim 1 = .ok (.iconst 0, 1) := by decide +kernel
theorem dX10_isAim_2 : decode cX10_isAim 2 = .ok (.ldc 175, 2) := by decide +kernel
theorem dX10_isAim_4 : decode cX10_isAim 4 = .ok (.invokestatic 133, 3) := by decide +kernel
theorem dX10_isAim_7 : decode cX10_isAim 7 = .ok (.ifCond .eq 27, 3) := by decide +kernel
theorem dX10_isAim_10 : decode cX10_isAim 10 = .ok (.iload_n 1, 1) := by decide +kernel
theorem dX10_isAim_11 : decode cX10_isAim 11 = .ok (.iconst 0, 1) := by decide +kernel
theorem dX10_isAim_12 : decode cX10_isAim 12 = .ok (.ldc 175, 2) := by decide +kernel
theorem dX10_isAim_14 : decode cX10_isAim 14 = .ok (.invokestatic 133, 3) := by decide +kernel
theorem dX10_isAim_17 : decode cX10_isAim 17 = .ok (.ifCond .eq 17, 3) := by decide +kernel
theorem dX10_isAim_20 : decode cX10_isAim 20 = .ok (.iload_n 2, 1) := by decide +kernel
theorem dX10_isAim_21 : decode cX10_isAim 21 = .ok (.iconst 0, 1) := by decide +kernel
theorem dX10_isAim_22 : decode cX10_isAim 22 = .ok (.ldc 175, 2) := by decide +kernel
theorem dX10_isAim_24 : decode cX10_isAim 24 = .ok (.invokestatic 133, 3) := by decide +kernel
theorem dX10_isAim_27 : decode cX10_isAim 27 = .ok (.ifCond .eq 7, 3) := by decide +kernel
theorem dX10_isAim_30 : decode cX10_isAim 30 = .ok (.iconst 1, 1) := by decide +kernel
theorem dX10_isAim_31 : decode cX10_isAim 31 = .ok (.goto 4, 3) := by decide +kernel
theorem dX10_isAim_34 : decode cX10_isAim 34 = .ok (.iconst 0, 1) := by decide +kernel
theorem dX10_isAim_35 : decode cX10_isAim 35 = .ok (.ireturn, 1) := by decide +kernel
theorem dX10_hasNext_0 : decode cX10_hasNext 0 = .ok (.iconst 0, 1) := by decide +kernel
theorem dX10_hasNext_1 : decode cX10_hasNext 1 = .ok (.istore_n 3, 1) := by decide +kernel
theorem dX10_hasNext_2 : decode cX10_hasNext 2 = .ok (.iconst 0, 1) := by decide +kernel
theorem dX10_hasNext_3 : decode cX10_hasNext 3 = .ok (.istore 4, 2) := by decide +kernel
theorem dX10_hasNext_5 : decode cX10_hasNext 5 = .ok (.iload 4, 2) := by decide +kernel
theorem dX10_hasNext_7 : decode cX10_hasNext 7 = .ok (.aload_n 0, 1) := by decide +kernel
theorem dX10_hasNext_8 : decode cX10_hasNext 8 = .ok (.getfield 130, 3) := by decide +kernel
theorem dX10_hasNext_11 : decode cX10_hasNext 11 = .ok (.if_icmp .ge 19, 3) := by decide +kernel
theorem dX10_hasNext_14 : decode cX10_hasNext 14 = .ok (.iload_n 3, 1) := by decide +kernel
theorem dX10_hasNext_15 : decode cX10_hasNext 15 = .ok (.aload_n 0, 1) := by decide +kernel
theorem dX10_hasNext_16 : decode cX10_hasNext 16 = .ok (.getfield 57, 3) := by decide +kernel
theorem dX10_hasNext_19 : decode cX10_hasNext 19 = .ok (.iload 4, 2) := by decide +kernel
theorem dX10_hasNext_21 : decode cX10_hasNext 21 = .ok (.iaload, 1) := by decide +kernel
theorem dX10_hasNext_22 : decode cX10_hasNext 22 = .ok (.iadd, 1) := by decide +kernel
theorem dX10_hasNext_23 : decode cX10_hasNext 23 = .ok (.istore_n 3, 1) := by decide +kernel
theorem dX10_hasNext_24 : decode cX10_hasNext 24 = .ok (.iinc 4 1, 3) := by decide +kernel
theorem dX10_hasNext_27 : decode cX10_hasNext 27 = .ok (.goto (-22), 3) := by decide +kernel
theorem dX10_hasNext_30 : decode cX10_hasNext 30 = .ok (.aload_n 0, 1) := by decide +kernel
theorem dX10_hasNext_31 : decode cX10_hasNext 31 = .ok (.getfield 130, 3) := by decide +kernel
theorem dX10_hasNext_34 : decode cX10_hasNext 34 = .ok (.iconst 1, 1) := by decide +kernel
theorem dX10_hasNext_35 : decode cX10_hasNext 35 = .ok (.isub, 1) := by decide +kernel
theorem dX10_hasNext_36 : decode cX10_hasNext 36 = .ok (.istore 4, 2) := by decide +kernel
theorem dX10_hasNext_38 : decode cX10_hasNext 38 = .ok (.iload 4, 2) := by decide +kernel
theorem dX10_hasNext_40 : decode cX10_hasNext 40 = .ok (.ifCond .lt 59, 3) := by decide +kernel
theorem dX10_hasNext_43 : decode cX10_hasNext 43 = .ok (.iload_n 3, 1) := by decide +kernel
theorem dX10_hasNext_44 : decode cX10_hasNext 44 = .ok (.iload_n 2, 1) := by decide +kernel
theorem dX10_hasNext_45 : decode cX10_hasNext 45 = .ok (.if_icmp .ge 30, 3) := by decide +kernel
theorem dX10_hasNext_48 : decode cX10_hasNext 48 = .ok (.aload_n 0, 1) := by decide +kernel
theorem dX10_hasNext_49 : decode cX10_hasNext 49 = .ok (.getfield 57, 3) := by decide +kernel
theorem dX10_hasNext_52 : decode cX10_hasNext 52 = .ok (.iload 4, 2) := by decide +kernel
theorem dX10_hasNext_54 : decode cX10_hasNext 54 = .ok (.iaload, 1) := by decide +kernel
theorem dX10_hasNext_55 : decode cX10_hasNext 55 = .ok (.aload_n 1, 1) := by decide +kernel
theorem dX10_hasNext_56 : decode cX10_hasNext 56 = .ok (.iload 4, 2) := by decide +kernel
theorem dX10_hasNext_58 : decode cX10_hasNext 58 = .ok (.iaload, 1) := by decide +kernel
theorem dX10_hasNext_59 : decode cX10_hasNext 59 = .ok (.if_icmp .ge 16, 3) := by decide +kernel
theorem dX10_hasNext_62 : decode cX10_hasNext 62 = .ok (.aload_n 0, 1) := by decide +kernel
theorem dX10_hasNext_63 : decode cX10_hasNext 63 = .ok (.getfield 57, 3) := by decide +kernel
theorem dX10_hasNext_66 : decode cX10_hasNext 66 = .ok (.iload 4, 2) := by decide +kernel
theorem dX10_hasNext_68 : decode cX10_hasNext 68 = .ok (.dup2, 1) := by decide +kernel
theorem dX10_hasNext_69 : decode cX10_hasNext 69 = .ok (.iaload, 1) := by decide +kernel
theorem dX10_hasNext_70 : decode cX10_hasNext 70 = .ok (.iconst 1, 1) := by decide +kernel
theorem dX10_hasNext_71 : decode cX10_hasNext 71 = .ok (.iadd, 1) := by decide +kernel
theorem dX10_hasNext_72 : decode cX10_hasNext 72 = .ok (.iastore, 1) := by decide +kernel
theorem dX10_hasNext_73 : decode cX10_hasNext 73 = .ok (.iconst 1, 1) := by decide +kernel
theorem dX10_hasNext_74 : decode cX10_hasNext 74 = .ok (.ireturn, 1) := by decide +kernel
theorem dX10_hasNext_75 : decode cX10_hasNext 75 = .ok (.iload_n 3, 1) := by decide +kernel
theorem dX10_hasNext_76 : decode cX10_hasNext 76 = .ok (.aload_n 0, 1) := by decide +kernel
theorem dX10_hasNext_77 : decode cX10_hasNext 77 = .ok (.getfield 57, 3) := by decide +kernel
theorem dX10_hasNext_80 : decode cX10_hasNext 80 = .ok (.iload 4, 2) := by decide +kernel
theorem dX10_hasNext_82 : decode cX10_hasNext 82 = .ok (.iaload, 1) := by decide +kernel
theorem dX10_hasNext_83 : decode cX10_hasNext 83 = .ok (.isub, 1) := by decide +kernel
theorem dX10_hasNext_84 : decode cX10_hasNext 84 = .ok (.istore_n 3, 1) := by decide +kernel
theorem dX10_hasNext_85 : decode cX10_hasNext 85 = .ok (.aload_n 0, 1) := by decide +kernel
theorem dX10_hasNext_86 : decode cX10_hasNext 86 = .ok (.getfield 57, 3) := by decide +kernel
theorem dX10_hasNext_89 : decode cX10_hasNext 89 = .ok (.iload 4, 2) := by decide +kernel
theorem dX10_hasNext_91 : decode cX10_hasNext 91 = .ok (.iconst 0, 1) := by decide +kernel
theorem dX10_hasNext_92 : decode cX10_hasNext 92 = .ok (.iastore, 1) := by decide +kernel
theorem dX10_hasNext_93 : decode cX10_hasNext 93 = .ok (.iinc 4 (-1), 3) := by decide +kernel
theorem dX10_hasNext_96 : decode cX10_hasNext 96 = .ok (.goto (-58), 3) := by decide +kernel
theorem dX10_hasNext_99 : decode cX10_hasNext 99 = .ok (.iconst 0, 1) := by decide +kernel
theorem dX10_hasNext_100 : decode cX10_hasNext 100 = .ok (.ireturn, 1) := by decide +kernel
theorem dX10_drops_0 : decode cX10_drops 0 = .ok (.aload_n 0, 1) := by decide +kernel
theorem dX10_drops_1 : decode cX10_drops 1 = .ok (.iload_n 1, 1) := by decide +kernel
theorem dX10_drops_2 : decode cX10_drops 2 = .ok (.invokevirtual 165, 3) := by decide +kernel
theorem dX10_drops_5 : decode cX10_drops 5 = .ok (.ifCond .ne 6, 3) := by decide +kernel
theorem dX10_drops_8 : decode cX10_drops 8 = .ok (.bipush (-2), 2) := by decide +kernel
theorem dX10_drops_10 : decode cX10_drops 10 = .ok (.ireturn, 1) := by decide +kernel
theorem dX10_drops_11 : decode cX10_drops 11 = .ok (.iload_n 2, 1) := by decide +kernel
theorem dX10_drops_12 : decode cX10_drops 12 = .ok (.iconst 0, 1) := by decide +kernel
theorem dX10_drops_13 : decode cX10_drops 13 = .ok (.bipush 8, 2) := by decide +kernel
theorem dX10_drops_15 : decode cX10_drops 15 = .ok (.invokestatic 133, 3) := by decide +kernel
theorem dX10_drops_18 : decode cX10_drops 18 = .ok (.ifCond .eq 14, 3) := by decide +kernel
theorem dX10_drops_21 : decode cX10_drops 21 = .ok (.iload_n 3, 1) := by decide +kernel
theorem dX10_drops_22 : decode cX10_drops 22 = .ok (.iload 4, 2) := by decide +kernel
theorem dX10_drops_24 : decode cX10_drops 24 = .ok (.iload 5, 2) := by decide +kernel
theorem dX10_drops_26 : decode cX10_drops 26 = .ok (.invokestatic 184, 3) := by decide +kernel
theorem dX10_drops_29 : decode cX10_drops 29 = .ok (.ifCond .ne 6, 3) := by decide +kernel
theorem dX10_drops_32 : decode cX10_drops 32 = .ok (.bipush (-3), 2) := by decide +kernel
theorem dX10_drops_34 : decode cX10_drops 34 = .ok (.ireturn, 1) := by decide +kernel
theorem dX10_drops_35 : decode cX10_drops 35 = .ok (.aload_n 0, 1) := by decide +kernel
theorem dX10_drops_36 : decode cX10_drops 36 = .ok (.iload_n 1, 1) := by decide +kernel
theorem dX10_drops_37 : decode cX10_drops 37 = .ok (.invokevirtual 168, 3) := by decide +kernel
theorem dX10_drops_40 : decode cX10_drops 40 = .ok (.istore 6, 2) := by decide +kernel
theorem dX10_drops_42 : decode cX10_drops 42 = .ok (.aload_n 0, 1) := by decide +kernel
theorem dX10_drops_43 : decode cX10_drops 43 = .ok (.getfield 51, 3) := by decide +kernel
theorem dX10_drops_46 : decode cX10_drops 46 = .ok (.iload_n 1, 1) := by decide +kernel
theorem dX10_drops_47 : decode cX10_drops 47 = .ok (.baload, 1) := by decide +kernel
theorem dX10_drops_48 : decode cX10_drops 48 = .ok (.ifCond .ne 8, 3) := by decide +kernel
theorem dX10_drops_51 : decode cX10_drops 51 = .ok (.iload 6, 2) := by decide +kernel
theorem dX10_drops_53 : decode cX10_drops 53 = .ok (.ifCond .ne 6, 3) := by decide +kernel
theorem dX10_drops_56 : decode cX10_drops 56 = .ok (.bipush (-4), 2) := by decide +kernel
theorem dX10_drops_58 : decode cX10_drops 58 = .ok (.ireturn, 1) := by decide +kernel
theorem dX10_drops_59 : decode cX10_drops 59 = .ok (.sipush 20000, 3) := by decide +kernel
theorem dX10_drops_62 : decode cX10_drops 62 = .ok (.iload 6, 2) := by decide +kernel
theorem dX10_drops_64 : decode cX10_drops 64 = .ok (.isub, 1) := by decide +kernel
theorem dX10_drops_65 : decode cX10_drops 65 = .ok (.iload_n 2, 1) := by decide +kernel
theorem dX10_drops_66 : decode cX10_drops 66 = .ok (.if_icmp .ge 12, 3) := by decide +kernel
theorem dX10_drops_69 : decode cX10_drops 69 = .ok (.sipush 20000, 3) := by decide +kernel
theorem dX10_drops_72 : decode cX10_drops 72 = .ok (.iload 6, 2) := by decide +kernel
theorem dX10_drops_74 : decode cX10_drops 74 = .ok (.isub, 1) := by decide +kernel
theorem dX10_drops_75 : decode cX10_drops 75 = .ok (.goto 4, 3) := by decide +kernel
theorem dX10_drops_78 : decode cX10_drops 78 = .ok (.iload_n 2, 1) := by decide +kernel
theorem dX10_drops_79 : decode cX10_drops 79 = .ok (.istore 7, 2) := by decide +kernel
theorem dX10_drops_81 : decode cX10_drops 81 = .ok (.iconst 0, 1) := by decide +kernel
theorem dX10_drops_82 : decode cX10_drops 82 = .ok (.istore 8, 2) := by decide +kernel
theorem dX10_drops_84 : decode cX10_drops 84 = .ok (.iload 8, 2) := by decide +kernel
theorem dX10_drops_86 : decode cX10_drops 86 = .ok (.bipush 8, 2) := by decide +kernel
theorem dX10_drops_88 : decode cX10_drops 88 = .ok (.if_icmp .ge 43, 3) := by decide +kernel
theorem dX10_drops_91 : decode cX10_drops 91 = .ok (.aload_n 0, 1) := by decide +kernel
theorem dX10_drops_92 : decode cX10_drops 92 = .ok (.getfield 127, 3) := by decide +kernel
theorem dX10_drops_95 : decode cX10_drops 95 = .ok (.iload 8, 2) := by decide +kernel
theorem dX10_drops_97 : decode cX10_drops 97 = .ok (.iload 8, 2) := by decide +kernel
theorem dX10_drops_99 : decode cX10_drops 99 = .ok (.aload_n 0, 1) := by decide +kernel
theorem dX10_drops_100 : decode cX10_drops 100 = .ok (.getfield 130, 3) := by decide +kernel
theorem dX10_drops_103 : decode cX10_drops 103 = .ok (.if_icmp .ge 12, 3) := by decide +kernel
theorem dX10_drops_106 : decode cX10_drops 106 = .ok (.aload_n 0, 1) := by decide +kernel
theorem dX10_drops_107 : decode cX10_drops 107 = .ok (.iload 8, 2) := by decide +kernel
theorem dX10_drops_109 : decode cX10_drops 109 = .ok (.invokevirtual 154, 3) := by decide +kernel
theorem dX10_drops_112 : decode cX10_drops 112 = .ok (.goto 4, 3) := by decide +kernel
theorem dX10_drops_115 : decode cX10_drops 115 = .ok (.iconst 0, 1) := by decide +kernel
theorem dX10_drops_116 : decode cX10_drops 116 = .ok (.iastore, 1) := by decide +kernel
theorem dX10_drops_117 : decode cX10_drops 117 = .ok (.aload_n 0, 1) := by decide +kernel
theorem dX10_drops_118 : decode cX10_drops 118 = .ok (.getfield 57, 3) := by decide +kernel
theorem dX10_drops_121 : decode cX10_drops 121 = .ok (.iload 8, 2) := by decide +kernel
theorem dX10_drops_123 : decode cX10_drops 123 = .ok (.iconst 0, 1) := by decide +kernel
theorem dX10_drops_124 : decode cX10_drops 124 = .ok (.iastore, 1) := by decide +kernel
theorem dX10_drops_125 : decode cX10_drops 125 = .ok (.iinc 8 1, 3) := by decide +kernel
theorem dX10_drops_128 : decode cX10_drops 128 = .ok (.goto (-44), 3) := by decide +kernel
theorem dX10_drops_131 : decode cX10_drops 131 = .ok (.iconst (-1), 1) := by decide +kernel
theorem dX10_drops_132 : decode cX10_drops 132 = .ok (.istore 8, 2) := by decide +kernel
theorem dX10_drops_134 : decode cX10_drops 134 = .ok (.iconst 0, 1) := by decide +kernel
theorem dX10_drops_135 : decode cX10_drops 135 = .ok (.istore 9, 2) := by decide +kernel
theorem dX10_drops_137 : decode cX10_drops 137 = .ok (.iconst 1, 1) := by decide +kernel
theorem dX10_drops_138 : decode cX10_drops 138 = .ok (.istore 10, 2) := by decide +kernel
theorem dX10_drops_140 : decode cX10_drops 140 = .ok (.iload 10, 2) := by decide +kernel
theorem dX10_drops_142 : decode cX10_drops 142 = .ok (.ifCond .eq 130, 3) := by decide +kernel
theorem dX10_drops_145 : decode cX10_drops 145 = .ok (.aload_n 0, 1) := by decide +kernel
theorem dX10_drops_146 : decode cX10_drops 146 = .ok (.iload_n 1, 1) := by decide +kernel
theorem dX10_drops_147 : decode cX10_drops 147 = .ok (.aload_n 0, 1) := by decide +kernel
theorem dX10_drops_148 : decode cX10_drops 148 = .ok (.getfield 57, 3) := by decide +kernel
theorem dX10_drops_151 : decode cX10_drops 151 = .ok (.iload_n 3, 1) := by decide +kernel
theorem dX10_drops_152 : decode cX10_drops 152 = .ok (.iload 4, 2) := by decide +kernel
theorem dX10_drops_154 : decode cX10_drops 154 = .ok (.iload 5, 2) := by decide +kernel
theorem dX10_drops_156 : decode cX10_drops 156 = .ok (.invokevirtual 187, 3) := by decide +kernel
theorem dX10_drops_159 : decode cX10_drops 159 = .ok (.istore 11, 2) := by decide +kernel
theorem dX10_drops_161 : decode cX10_drops 161 = .ok (.iconst 0, 1) := by decide +kernel
theorem dX10_drops_162 : decode cX10_drops 162 = .ok (.istore 12, 2) := by decide +kernel
theorem dX10_drops_164 : decode cX10_drops 164 = .ok (.iconst 0, 1) := by decide +kernel
theorem dX10_drops_165 : decode cX10_drops 165 = .ok (.istore 13, 2) := by decide +kernel
theorem dX10_drops_167 : decode cX10_drops 167 = .ok (.iload 13, 2) := by decide +kernel
theorem dX10_drops_169 : decode cX10_drops 169 = .ok (.bipush 8, 2) := by decide +kernel
theorem dX10_drops_171 : decode cX10_drops 171 = .ok (.if_icmp .ge 21, 3) := by decide +kernel
theorem dX10_drops_174 : decode cX10_drops 174 = .ok (.iload 12, 2) := by decide +kernel
theorem dX10_drops_176 : decode cX10_drops 176 = .ok (.aload_n 0, 1) := by decide +kernel
theorem dX10_drops_177 : decode cX10_drops 177 = .ok (.getfield 57, 3) := by decide +kernel
theorem dX10_drops_180 : decode cX10_drops 180 = .ok (.iload 13, 2) := by decide +kernel
theorem dX10_drops_182 : decode cX10_drops 182 = .ok (.iaload, 1) := by decide +kernel
theorem dX10_drops_183 : decode cX10_drops 183 = .ok (.iadd, 1) := by decide +kernel
theorem dX10_drops_184 : decode cX10_drops 184 = .ok (.istore 12, 2) := by decide +kernel
theorem dX10_drops_186 : decode cX10_drops 186 = .ok (.iinc 13 1, 3) := by decide +kernel
theorem dX10_drops_189 : decode cX10_drops 189 = .ok (.goto (-22), 3) := by decide +kernel
theorem dX10_drops_192 : decode cX10_drops 192 = .ok (.iload 8, 2) := by decide +kernel
theorem dX10_drops_194 : decode cX10_drops 194 = .ok (.iconst (-1), 1) := by decide +kernel
theorem dX10_drops_195 : decode cX10_drops 195 = .ok (.if_icmp .eq 24, 3) := by decide +kernel
theorem dX10_drops_198 : decode cX10_drops 198 = .ok (.iload 11, 2) := by decide +kernel
theorem dX10_drops_200 : decode cX10_drops 200 = .ok (.iload 8, 2) := by decide +kernel
theorem dX10_drops_202 : decode cX10_drops 202 = .ok (.if_icmp .lt 17, 3) := by decide +kernel
theorem dX10_drops_205 : decode cX10_drops 205 = .ok (.iload 11, 2) := by decide +kernel
theorem dX10_drops_207 : decode cX10_drops 207 = .ok (.iload 8, 2) := by decide +kernel
theorem dX10_drops_209 : decode cX10_drops 209 = .ok (.if_icmp .ne 48, 3) := by decide +kernel
theorem dX10_drops_212 : decode cX10_drops 212 = .ok (.iload 12, 2) := by decide +kernel
theorem dX10_drops_214 : decode cX10_drops 214 = .ok (.iload 9, 2) := by decide +kernel
theorem dX10_drops_216 : decode cX10_drops 216 = .ok (.if_icmp .ge 41, 3) := by decide +kernel
theorem dX10_drops_219 : decode cX10_drops 219 = .ok (.iload 11, 2) := by decide +kernel
theorem dX10_drops_221 : decode cX10_drops 221 = .ok (.istore 8, 2) := by decide +kernel
theorem dX10_drops_223 : decode cX10_drops 223 = .ok (.iload 12, 2) := by decide +kernel
theorem dX10_drops_225 : decode cX10_drops 225 = .ok (.istore 9, 2) := by decide +kernel
theorem dX10_drops_227 : decode cX10_drops 227 = .ok (.iconst 0, 1) := by decide +kernel
theorem dX10_drops_228 : decode cX10_drops 228 = .ok (.istore 13, 2) := by decide +kernel
theorem dX10_drops_230 : decode cX10_drops 230 = .ok (.iload 13, 2) := by decide +kernel
theorem dX10_drops_232 : decode cX10_drops 232 = .ok (.bipush 8, 2) := by decide +kernel
theorem dX10_drops_234 : decode cX10_drops 234 = .ok (.if_icmp .ge 23, 3) := by decide +kernel
theorem dX10_drops_237 : decode cX10_drops 237 = .ok (.aload_n 0, 1) := by decide +kernel
theorem dX10_drops_238 : decode cX10_drops 238 = .ok (.getfield 54, 3) := by decide +kernel
theorem dX10_drops_241 : decode cX10_drops 241 = .ok (.iload 13, 2) := by decide +kernel
theorem dX10_drops_243 : decode cX10_drops 243 = .ok (.aload_n 0, 1) := by decide +kernel
theorem dX10_drops_244 : decode cX10_drops 244 = .ok (.getfield 57, 3) := by decide +kernel
theorem dX10_drops_247 : decode cX10_drops 247 = .ok (.iload 13, 2) := by decide +kernel
theorem dX10_drops_249 : decode cX10_drops 249 = .ok (.iaload, 1) := by decide +kernel
theorem dX10_drops_250 : decode cX10_drops 250 = .ok (.iastore, 1) := by decide +kernel
theorem dX10_drops_251 : decode cX10_drops 251 = .ok (.iinc 13 1, 3) := by decide +kernel
theorem dX10_drops_254 : decode cX10_drops 254 = .ok (.goto (-24), 3) := by decide +kernel
theorem dX10_drops_257 : decode cX10_drops 257 = .ok (.aload_n 0, 1) := by decide +kernel
theorem dX10_drops_258 : decode cX10_drops 258 = .ok (.aload_n 0, 1) := by decide +kernel
theorem dX10_drops_259 : decode cX10_drops 259 = .ok (.getfield 127, 3) := by decide +kernel
theorem dX10_drops_262 : decode cX10_drops 262 = .ok (.iload 7, 2) := by decide +kernel
theorem dX10_drops_264 : decode cX10_drops 264 = .ok (.invokevirtual 191, 3) := by decide +kernel
theorem dX10_drops_267 : decode cX10_drops 267 = .ok (.istore 10, 2) := by decide +kernel
theorem dX10_drops_269 : decode cX10_drops 269 = .ok (.goto (-129), 3) := by decide +kernel
theorem dX10_drops_272 : decode cX10_drops 272 = .ok (.aload_n 0, 1) := by decide +kernel
theorem dX10_drops_273 : decode cX10_drops 273 = .ok (.iconst 1, 1) := by decide +kernel
theorem dX10_drops_274 : decode cX10_drops 274 = .ok (.putfield 195, 3) := by decide +kernel
theorem dX10_drops_277 : decode cX10_drops 277 = .ok (.iload 8, 2) := by decide +kernel
theorem dX10_drops_279 : decode cX10_drops 279 = .ok (.ireturn, 1) := by decide +kernel
theorem dX10_drop_0 : decode cX10_drop 0 = .ok (.aload_n 0, 1) := by decide +kernel
theorem dX10_drop_1 : decode cX10_drop 1 = .ok (.iload_n 1, 1) := by decide +kernel
theorem dX10_drop_2 : decode cX10_drop 2 = .ok (.invokevirtual 140, 3) := by decide +kernel
theorem dX10_drop_5 : decode cX10_drop 5 = .ok (.ifCond .ne 8, 3) := by decide +kernel
theorem dX10_drop_8 : decode cX10_drop 8 = .ok (.bipush (-2), 2) := by decide +kernel
theorem dX10_drop_10 : decode cX10_drop 10 = .ok (.goto 20, 3) := by decide +kernel
theorem dX10_drop_13 : decode cX10_drop 13 = .ok (.aload_n 0, 1) := by decide +kernel
theorem dX10_drop_14 : decode cX10_drop 14 = .ok (.getfield 195, 3) := by decide +kernel
theorem dX10_drop_17 : decode cX10_drop 17 = .ok (.ifCond .eq 12, 3) := by decide +kernel
theorem dX10_drop_20 : decode cX10_drop 20 = .ok (.aload_n 0, 1) := by decide +kernel
theorem dX10_drop_21 : decode cX10_drop 21 = .ok (.getfield 54, 3) := by decide +kernel
theorem dX10_drop_24 : decode cX10_drop 24 = .ok (.iload_n 1, 1) := by decide +kernel
theorem dX10_drop_25 : decode cX10_drop 25 = .ok (.iaload, 1) := by decide +kernel
theorem dX10_drop_26 : decode cX10_drop 26 = .ok (.goto 4, 3) := by decide +kernel
theorem dX10_drop_29 : decode cX10_drop 29 = .ok (.iconst 0, 1) := by decide +kernel
theorem dX10_drop_30 : decode cX10_drop 30 = .ok (.ireturn, 1) := by decide +kernel
theorem dX10_dropIn_0 : decode cX10_dropIn 0 = .ok (.aload_n 0, 1) := by decide +kernel
theorem dX10_dropIn_1 : decode cX10_dropIn 1 = .ok (.iload_n 1, 1) := by decide +kernel
theorem dX10_dropIn_2 : decode cX10_dropIn 2 = .ok (.invokevirtual 165, 3) := by decide +kernel
theorem dX10_dropIn_5 : decode cX10_dropIn 5 = .ok (.ifCond .ne 6, 3) := by decide +kernel
theorem dX10_dropIn_8 : decode cX10_dropIn 8 = .ok (.bipush (-2), 2) := by decide +kernel
theorem dX10_dropIn_10 : decode cX10_dropIn 10 = .ok (.ireturn, 1) := by decide +kernel
theorem dX10_dropIn_11 : decode cX10_dropIn 11 = .ok (.aload_n 0, 1) := by decide +kernel
theorem dX10_dropIn_12 : decode cX10_dropIn 12 = .ok (.getfield 51, 3) := by decide +kernel
theorem dX10_dropIn_15 : decode cX10_dropIn 15 = .ok (.iload_n 1, 1) := by decide +kernel
theorem dX10_dropIn_16 : decode cX10_dropIn 16 = .ok (.baload, 1) := by decide +kernel
theorem dX10_dropIn_17 : decode cX10_dropIn 17 = .ok (.ifCond .ne 10, 3) := by decide +kernel
theorem dX10_dropIn_20 : decode cX10_dropIn 20 = .ok (.aload_n 0, 1) := by decide +kernel
theorem dX10_dropIn_21 : decode cX10_dropIn 21 = .ok (.getfield 195, 3) := by decide +kernel
theorem dX10_dropIn_24 : decode cX10_dropIn 24 = .ok (.ifCond .ne 6, 3) := by decide +kernel
theorem dX10_dropIn_27 : decode cX10_dropIn 27 = .ok (.bipush (-4), 2) := by decide +kernel
theorem dX10_dropIn_29 : decode cX10_dropIn 29 = .ok (.ireturn, 1) := by decide +kernel
theorem dX10_dropIn_30 : decode cX10_dropIn 30 = .ok (.iconst 0, 1) := by decide +kernel
theorem dX10_dropIn_31 : decode cX10_dropIn 31 = .ok (.istore_n 2, 1) := by decide +kernel
theorem dX10_dropIn_32 : decode cX10_dropIn 32 = .ok (.iconst 0, 1) := by decide +kernel
theorem dX10_dropIn_33 : decode cX10_dropIn 33 = .ok (.istore_n 3, 1) := by decide +kernel
theorem dX10_dropIn_34 : decode cX10_dropIn 34 = .ok (.iload_n 3, 1) := by decide +kernel
theorem dX10_dropIn_35 : decode cX10_dropIn 35 = .ok (.bipush 8, 2) := by decide +kernel
theorem dX10_dropIn_37 : decode cX10_dropIn 37 = .ok (.if_icmp .ge 44, 3) := by decide +kernel
theorem dX10_dropIn_40 : decode cX10_dropIn 40 = .ok (.iload_n 2, 1) := by decide +kernel
theorem dX10_dropIn_41 : decode cX10_dropIn 41 = .ok (.aload_n 0, 1) := by decide +kernel
theorem dX10_dropIn_42 : decode cX10_dropIn 42 = .ok (.getfield 54, 3) := by decide +kernel
theorem dX10_dropIn_45 : decode cX10_dropIn 45 = .ok (.iload_n 3, 1) := by decide +kernel
theorem dX10_dropIn_46 : decode cX10_dropIn 46 = .ok (.iaload, 1) := by decide +kernel
theorem dX10_dropIn_47 : decode cX10_dropIn 47 = .ok (.iadd, 1) := by decide +kernel
theorem dX10_dropIn_48 : decode cX10_dropIn 48 = .ok (.istore_n 2, 1) := by decide +kernel
theorem dX10_dropIn_49 : decode cX10_dropIn 49 = .ok (.aload_n 0, 1) := by decide +kernel
theorem dX10_dropIn_50 : decode cX10_dropIn 50 = .ok (.getfield 54, 3) := by decide +kernel
theorem dX10_dropIn_53 : decode cX10_dropIn 53 = .ok (.iload_n 3, 1) := by decide +kernel
theorem dX10_dropIn_54 : decode cX10_dropIn 54 = .ok (.iaload, 1) := by decide +kernel
theorem dX10_dropIn_55 : decode cX10_dropIn 55 = .ok (.ifCond .le 20, 3) := by decide +kernel
theorem dX10_dropIn_58 : decode cX10_dropIn 58 = .ok (.aload_n 0, 1) := by decide +kernel
theorem dX10_dropIn_59 : decode cX10_dropIn 59 = .ok (.iload_n 3, 1) := by decide +kernel
theorem dX10_dropIn_60 : decode cX10_dropIn 60 = .ok (.invokevirtual 154, 3) := by decide +kernel
theorem dX10_dropIn_63 : decode cX10_dropIn 63 = .ok (.aload_n 0, 1) := by decide +kernel
theorem dX10_dropIn_64 : decode cX10_dropIn 64 = .ok (.getfield 54, 3) := by decide +kernel
theorem dX10_dropIn_67 : decode cX10_dropIn 67 = .ok (.iload_n 3, 1) := by decide +kernel
theorem dX10_dropIn_68 : decode cX10_dropIn 68 = .ok (.iaload, 1) := by decide +kernel
theorem dX10_dropIn_69 : decode cX10_dropIn 69 = .ok (.if_icmp .ge 6, 3) := by decide +kernel
theorem dX10_dropIn_72 : decode cX10_dropIn 72 = .ok (.bipush (-5), 2) := by decide +kernel
theorem dX10_dropIn_74 : decode cX10_dropIn 74 = .ok (.ireturn, 1) := by decide +kernel
theorem dX10_dropIn_75 : decode cX10_dropIn 75 = .ok (.iinc 3 1, 3) := by decide +kernel
theorem dX10_dropIn_78 : decode cX10_dropIn 78 = .ok (.goto (-44), 3) := by decide +kernel
theorem dX10_dropIn_81 : decode cX10_dropIn 81 = .ok (.aload_n 0, 1) := by decide +kernel
theorem dX10_dropIn_82 : decode cX10_dropIn 82 = .ok (.iload_n 1, 1) := by decide +kernel
theorem dX10_dropIn_83 : decode cX10_dropIn 83 = .ok (.invokevirtual 168, 3) := by decide +kernel
theorem dX10_dropIn_86 : decode cX10_dropIn 86 = .ok (.iload_n 2, 1) := by decide +kernel
theorem dX10_dropIn_87 : decode cX10_dropIn 87 = .ok (.iadd, 1) := by decide +kernel
theorem dX10_dropIn_88 : decode cX10_dropIn 88 = .ok (.sipush 20000, 3) := by decide +kernel
theorem dX10_dropIn_91 : decode cX10_dropIn 91 = .ok (.if_icmp .le 6, 3) := by decide +kernel
theorem dX10_dropIn_94 : decode cX10_dropIn 94 = .ok (.bipush (-6), 2) := by decide +kernel
theorem dX10_dropIn_96 : decode cX10_dropIn 96 = .ok (.ireturn, 1) := by decide +kernel
theorem dX10_dropIn_97 : decode cX10_dropIn 97 = .ok (.iconst 0, 1) := by decide +kernel
theorem dX10_dropIn_98 : decode cX10_dropIn 98 = .ok (.istore_n 3, 1) := by decide +kernel
theorem dX10_dropIn_99 : decode cX10_dropIn 99 = .ok (.iload_n 3, 1) := by decide +kernel
theorem dX10_dropIn_100 : decode cX10_dropIn 100 = .ok (.bipush 8, 2) := by decide +kernel
theorem dX10_dropIn_102 : decode cX10_dropIn 102 = .ok (.if_icmp .ge 30, 3) := by decide +kernel
theorem dX10_dropIn_105 : decode cX10_dropIn 105 = .ok (.aload_n 0, 1) := by decide +kernel
theorem dX10_dropIn_106 : decode cX10_dropIn 106 = .ok (.getfield 54, 3) := by decide +kernel
theorem dX10_dropIn_109 : decode cX10_dropIn 109 = .ok (.iload_n 3, 1) := by decide +kernel
end
section
theorem dX10_dropIn_110 : decode cX10_dropIn 110 = .ok (.iaload, 1) := by decide +kernel
theorem dX10_dropIn_111 : decode cX10_dropIn 111 = .ok (.ifCond .le 15, 3) := by decide +kernel
theorem dX10_dropIn_114 : decode cX10_dropIn 114 = .ok (.aload_n 0, 1) := by decide +kernel
theorem dX10_dropIn_115 : decode cX10_dropIn 115 = .ok (.iload_n 1, 1) := by decide +kernel
theorem dX10_dropIn_116 : decode cX10_dropIn 116 = .ok (.iload_n 3, 1) := by decide +kernel
theorem dX10_dropIn_117 : decode cX10_dropIn 117 = .ok (.aload_n 0, 1) := by decide +kernel
theorem dX10_dropIn_118 : decode cX10_dropIn 118 = .ok (.getfield 54, 3) := by decide +kernel
theorem dX10_dropIn_121 : decode cX10_dropIn 121 = .ok (.iload_n 3, 1) := by decide +kernel
theorem dX10_dropIn_122 : decode cX10_dropIn 122 = .ok (.iaload, 1) := by decide +kernel
theorem dX10_dropIn_123 : decode cX10_dropIn 123 = .ok (.invokevirtual 171, 3) := by decide +kernel
theorem dX10_dropIn_126 : decode cX10_dropIn 126 = .ok (.iinc 3 1, 3) := by decide +kernel
theorem dX10_dropIn_129 : decode cX10_dropIn 129 = .ok (.goto (-30), 3) := by decide +kernel
theorem dX10_dropIn_132 : decode cX10_dropIn 132 = .ok (.aload_n 0, 1) := by decide +kernel
theorem dX10_dropIn_133 : decode cX10_dropIn 133 = .ok (.iload_n 1, 1) := by decide +kernel
theorem dX10_dropIn_134 : decode cX10_dropIn 134 = .ok (.invokevirtual 168, 3) := by decide +kernel
theorem dX10_dropIn_137 : decode cX10_dropIn 137 = .ok (.ireturn, 1) := by decide +kernel
theorem dX10_amount_0 : decode cX10_amount 0 = .ok (.aload_n 0, 1) := by decide +kernel
theorem dX10_amount_1 : decode cX10_amount 1 = .ok (.iload_n 1, 1) := by decide +kernel
theorem dX10_amount_2 : decode cX10_amount 2 = .ok (.invokevirtual 165, 3) := by decide +kernel
theorem dX10_amount_5 : decode cX10_amount 5 = .ok (.ifCond .eq 25, 3) := by decide +kernel
theorem dX10_amount_8 : decode cX10_amount 8 = .ok (.aload_n 0, 1) := by decide +kernel
theorem dX10_amount_9 : decode cX10_amount 9 = .ok (.iload_n 2, 1) := by decide +kernel
theorem dX10_amount_10 : decode cX10_amount 10 = .ok (.invokevirtual 140, 3) := by decide +kernel
theorem dX10_amount_13 : decode cX10_amount 13 = .ok (.ifCond .eq 17, 3) := by decide +kernel
theorem dX10_amount_16 : decode cX10_amount 16 = .ok (.aload_n 0, 1) := by decide +kernel
theorem dX10_amount_17 : decode cX10_amount 17 = .ok (.getfield 44, 3) := by decide +kernel
theorem dX10_amount_20 : decode cX10_amount 20 = .ok (.bipush 8, 2) := by decide +kernel
theorem dX10_amount_22 : decode cX10_amount 22 = .ok (.iload_n 1, 1) := by decide +kernel
theorem dX10_amount_23 : decode cX10_amount 23 = .ok (.imul, 1) := by decide +kernel
theorem dX10_amount_24 : decode cX10_amount 24 = .ok (.iload_n 2, 1) := by decide +kernel
theorem dX10_amount_25 : decode cX10_amount 25 = .ok (.iadd, 1) := by decide +kernel
theorem dX10_amount_26 : decode cX10_amount 26 = .ok (.iaload, 1) := by decide +kernel
theorem dX10_amount_27 : decode cX10_amount 27 = .ok (.goto 5, 3) := by decide +kernel
theorem dX10_amount_30 : decode cX10_amount 30 = .ok (.bipush (-2), 2) := by decide +kernel
theorem dX10_amount_32 : decode cX10_amount 32 = .ok (.ireturn, 1) := by decide +kernel
theorem dX10_shade_0 : decode cX10_shade 0 = .ok (.aload_n 0, 1) := by decide +kernel
theorem dX10_shade_1 : decode cX10_shade 1 = .ok (.iload_n 1, 1) := by decide +kernel
theorem dX10_shade_2 : decode cX10_shade 2 = .ok (.invokevirtual 165, 3) := by decide +kernel
theorem dX10_shade_5 : decode cX10_shade 5 = .ok (.ifCond .eq 12, 3) := by decide +kernel
theorem dX10_shade_8 : decode cX10_shade 8 = .ok (.iload_n 2, 1) := by decide +kernel
theorem dX10_shade_9 : decode cX10_shade 9 = .ok (.iconst 0, 1) := by decide +kernel
theorem dX10_shade_10 : decode cX10_shade 10 = .ok (.iconst 2, 1) := by decide +kernel
theorem dX10_shade_11 : decode cX10_shade 11 = .ok (.invokestatic 133, 3) := by decide +kernel
theorem dX10_shade_14 : decode cX10_shade 14 = .ok (.ifCond .ne 6, 3) := by decide +kernel
theorem dX10_shade_17 : decode cX10_shade 17 = .ok (.bipush (-2), 2) := by decide +kernel
theorem dX10_shade_19 : decode cX10_shade 19 = .ok (.ireturn, 1) := by decide +kernel
theorem dX10_shade_20 : decode cX10_shade 20 = .ok (.aload_n 0, 1) := by decide +kernel
theorem dX10_shade_21 : decode cX10_shade 21 = .ok (.iload_n 1, 1) := by decide +kernel
theorem dX10_shade_22 : decode cX10_shade 22 = .ok (.invokevirtual 168, 3) := by decide +kernel
theorem dX10_shade_25 : decode cX10_shade 25 = .ok (.ifCond .ne 8, 3) := by decide +kernel
theorem dX10_shade_28 : decode cX10_shade 28 = .ok (.bipush (-4), 2) := by decide +kernel
theorem dX10_shade_30 : decode cX10_shade 30 = .ok (.goto 20, 3) := by decide +kernel
theorem dX10_shade_33 : decode cX10_shade 33 = .ok (.aload_n 0, 1) := by decide +kernel
theorem dX10_shade_34 : decode cX10_shade 34 = .ok (.aload_n 0, 1) := by decide +kernel
theorem dX10_shade_35 : decode cX10_shade 35 = .ok (.getfield 44, 3) := by decide +kernel
theorem dX10_shade_38 : decode cX10_shade 38 = .ok (.bipush 8, 2) := by decide +kernel
theorem dX10_shade_40 : decode cX10_shade 40 = .ok (.iload_n 1, 1) := by decide +kernel
theorem dX10_shade_41 : decode cX10_shade 41 = .ok (.imul, 1) := by decide +kernel
theorem dX10_shade_42 : decode cX10_shade 42 = .ok (.aload_n 0, 1) := by decide +kernel
theorem dX10_shade_43 : decode cX10_shade 43 = .ok (.getfield 124, 3) := by decide +kernel
theorem dX10_shade_46 : decode cX10_shade 46 = .ok (.iload_n 2, 1) := by decide +kernel
theorem dX10_shade_47 : decode cX10_shade 47 = .ok (.invokevirtual 180, 3) := by decide +kernel
theorem dX10_shade_50 : decode cX10_shade 50 = .ok (.ireturn, 1) := by decide +kernel
theorem dX10_miss_0 : decode cX10_miss 0 = .ok (.aload_n 0, 1) := by decide +kernel
theorem dX10_miss_1 : decode cX10_miss 1 = .ok (.iload_n 1, 1) := by decide +kernel
theorem dX10_miss_2 : decode cX10_miss 2 = .ok (.invokevirtual 165, 3) := by decide +kernel
theorem dX10_miss_5 : decode cX10_miss 5 = .ok (.ifCond .ne 6, 3) := by decide +kernel
theorem dX10_miss_8 : decode cX10_miss 8 = .ok (.bipush (-2), 2) := by decide +kernel
theorem dX10_miss_10 : decode cX10_miss 10 = .ok (.ireturn, 1) := by decide +kernel
theorem dX10_miss_11 : decode cX10_miss 11 = .ok (.iload_n 2, 1) := by decide +kernel
theorem dX10_miss_12 : decode cX10_miss 12 = .ok (.iload_n 3, 1) := by decide +kernel
theorem dX10_miss_13 : decode cX10_miss 13 = .ok (.iload 4, 2) := by decide +kernel
theorem dX10_miss_15 : decode cX10_miss 15 = .ok (.invokestatic 184, 3) := by decide +kernel
theorem dX10_miss_18 : decode cX10_miss 18 = .ok (.ifCond .ne 6, 3) := by decide +kernel
theorem dX10_miss_21 : decode cX10_miss 21 = .ok (.bipush (-3), 2) := by decide +kernel
theorem dX10_miss_23 : decode cX10_miss 23 = .ok (.ireturn, 1) := by decide +kernel
theorem dX10_miss_24 : decode cX10_miss 24 = .ok (.aload_n 0, 1) := by decide +kernel
theorem dX10_miss_25 : decode cX10_miss 25 = .ok (.iload_n 1, 1) := by decide +kernel
theorem dX10_miss_26 : decode cX10_miss 26 = .ok (.invokevirtual 168, 3) := by decide +kernel
theorem dX10_miss_29 : decode cX10_miss 29 = .ok (.ifCond .ne 8, 3) := by decide +kernel
theorem dX10_miss_32 : decode cX10_miss 32 = .ok (.bipush (-4), 2) := by decide +kernel
theorem dX10_miss_34 : decode cX10_miss 34 = .ok (.goto 16, 3) := by decide +kernel
theorem dX10_miss_37 : decode cX10_miss 37 = .ok (.aload_n 0, 1) := by decide +kernel
theorem dX10_miss_38 : decode cX10_miss 38 = .ok (.iload_n 1, 1) := by decide +kernel
theorem dX10_miss_39 : decode cX10_miss 39 = .ok (.aload_n 0, 1) := by decide +kernel
theorem dX10_miss_40 : decode cX10_miss 40 = .ok (.getfield 124, 3) := by decide +kernel
theorem dX10_miss_43 : decode cX10_miss 43 = .ok (.iload_n 2, 1) := by decide +kernel
theorem dX10_miss_44 : decode cX10_miss 44 = .ok (.iload_n 3, 1) := by decide +kernel
theorem dX10_miss_45 : decode cX10_miss 45 = .ok (.iload 4, 2) := by decide +kernel
theorem dX10_miss_47 : decode cX10_miss 47 = .ok (.invokevirtual 187, 3) := by decide +kernel
theorem dX10_miss_50 : decode cX10_miss 50 = .ok (.ireturn, 1) := by decide +kernel
theorem dX10_holds_0 : decode cX10_holds 0 = .ok (.iload_n 1, 1) := by decide +kernel
theorem dX10_holds_1 : decode cX10_holds 1 = .ok (.invokestatic 199, 3) := by decide +kernel
theorem dX10_holds_4 : decode cX10_holds 4 = .ok (.ifCond .ne 6, 3) := by decide +kernel
theorem dX10_holds_7 : decode cX10_holds 7 = .ok (.bipush (-2), 2) := by decide +kernel
theorem dX10_holds_9 : decode cX10_holds 9 = .ok (.ireturn, 1) := by decide +kernel
theorem dX10_holds_10 : decode cX10_holds 10 = .ok (.iload_n 2, 1) := by decide +kernel
theorem dX10_holds_11 : decode cX10_holds 11 = .ok (.iconst 1, 1) := by decide +kernel
theorem dX10_holds_12 : decode cX10_holds 12 = .ok (.ldc 202, 2) := by decide +kernel
theorem dX10_holds_14 : decode cX10_holds 14 = .ok (.invokestatic 133, 3) := by decide +kernel
theorem dX10_holds_17 : decode cX10_holds 17 = .ok (.ifCond .ne 6, 3) := by decide +kernel
theorem dX10_holds_20 : decode cX10_holds 20 = .ok (.bipush (-3), 2) := by decide +kernel
theorem dX10_holds_22 : decode cX10_holds 22 = .ok (.ireturn, 1) := by decide +kernel
theorem dX10_holds_23 : decode cX10_holds 23 = .ok (.aload_n 0, 1) := by decide +kernel
theorem dX10_holds_24 : decode cX10_holds 24 = .ok (.getfield 63, 3) := by decide +kernel
theorem dX10_holds_27 : decode cX10_holds 27 = .ok (.iload_n 1, 1) := by decide +kernel
theorem dX10_holds_28 : decode cX10_holds 28 = .ok (.iaload, 1) := by decide +kernel
theorem dX10_holds_29 : decode cX10_holds 29 = .ok (.iload_n 2, 1) := by decide +kernel
theorem dX10_holds_30 : decode cX10_holds 30 = .ok (.if_icmp .le 6, 3) := by decide +kernel
theorem dX10_holds_33 : decode cX10_holds 33 = .ok (.bipush (-4), 2) := by decide +kernel
theorem dX10_holds_35 : decode cX10_holds 35 = .ok (.ireturn, 1) := by decide +kernel
theorem dX10_holds_36 : decode cX10_holds 36 = .ok (.aload_n 0, 1) := by decide +kernel
theorem dX10_holds_37 : decode cX10_holds 37 = .ok (.getfield 60, 3) := by decide +kernel
theorem dX10_holds_40 : decode cX10_holds 40 = .ok (.iload_n 1, 1) := by decide +kernel
theorem dX10_holds_41 : decode cX10_holds 41 = .ok (.iaload, 1) := by decide +kernel
theorem dX10_holds_42 : decode cX10_holds 42 = .ok (.istore_n 3, 1) := by decide +kernel
theorem dX10_holds_43 : decode cX10_holds 43 = .ok (.aload_n 0, 1) := by decide +kernel
theorem dX10_holds_44 : decode cX10_holds 44 = .ok (.getfield 60, 3) := by decide +kernel
theorem dX10_holds_47 : decode cX10_holds 47 = .ok (.iload_n 1, 1) := by decide +kernel
theorem dX10_holds_48 : decode cX10_holds 48 = .ok (.iload_n 2, 1) := by decide +kernel
theorem dX10_holds_49 : decode cX10_holds 49 = .ok (.iastore, 1) := by decide +kernel
theorem dX10_holds_50 : decode cX10_holds 50 = .ok (.iload_n 3, 1) := by decide +kernel
theorem dX10_holds_51 : decode cX10_holds 51 = .ok (.ireturn, 1) := by decide +kernel
theorem dX10_limit_0 : decode cX10_limit 0 = .ok (.iload_n 1, 1) := by decide +kernel
theorem dX10_limit_1 : decode cX10_limit 1 = .ok (.iconst 0, 1) := by decide +kernel
theorem dX10_limit_2 : decode cX10_limit 2 = .ok (.ldc 175, 2) := by decide +kernel
theorem dX10_limit_4 : decode cX10_limit 4 = .ok (.invokestatic 133, 3) := by decide +kernel
theorem dX10_limit_7 : decode cX10_limit 7 = .ok (.ifCond .ne 6, 3) := by decide +kernel
theorem dX10_limit_10 : decode cX10_limit 10 = .ok (.bipush (-3), 2) := by decide +kernel
theorem dX10_limit_12 : decode cX10_limit 12 = .ok (.ireturn, 1) := by decide +kernel
theorem dX10_limit_13 : decode cX10_limit 13 = .ok (.aload_n 0, 1) := by decide +kernel
theorem dX10_limit_14 : decode cX10_limit 14 = .ok (.getfield 84, 3) := by decide +kernel
theorem dX10_limit_17 : decode cX10_limit 17 = .ok (.istore_n 2, 1) := by decide +kernel
theorem dX10_limit_18 : decode cX10_limit 18 = .ok (.aload_n 0, 1) := by decide +kernel
theorem dX10_limit_19 : decode cX10_limit 19 = .ok (.iload_n 1, 1) := by decide +kernel
theorem dX10_limit_20 : decode cX10_limit 20 = .ok (.putfield 84, 3) := by decide +kernel
theorem dX10_limit_23 : decode cX10_limit 23 = .ok (.iload_n 2, 1) := by decide +kernel
theorem dX10_limit_24 : decode cX10_limit 24 = .ok (.ireturn, 1) := by decide +kernel
theorem dX10_mayPour_0 : decode cX10_mayPour 0 = .ok (.aload_n 0, 1) := by decide +kernel
theorem dX10_mayPour_1 : decode cX10_mayPour 1 = .ok (.getfield 63, 3) := by decide +kernel
theorem dX10_mayPour_4 : decode cX10_mayPour 4 = .ok (.iload_n 2, 1) := by decide +kernel
theorem dX10_mayPour_5 : decode cX10_mayPour 5 = .ok (.iaload, 1) := by decide +kernel
theorem dX10_mayPour_6 : decode cX10_mayPour 6 = .ok (.ifCond .ne 14, 3) := by decide +kernel
theorem dX10_mayPour_9 : decode cX10_mayPour 9 = .ok (.aload_n 0, 1) := by decide +kernel
theorem dX10_mayPour_10 : decode cX10_mayPour 10 = .ok (.getfield 66, 3) := by decide +kernel
theorem dX10_mayPour_13 : decode cX10_mayPour 13 = .ok (.iload_n 2, 1) := by decide +kernel
theorem dX10_mayPour_14 : decode cX10_mayPour 14 = .ok (.baload, 1) := by decide +kernel
theorem dX10_mayPour_15 : decode cX10_mayPour 15 = .ok (.ifCond .ne 5, 3) := by decide +kernel
theorem dX10_mayPour_18 : decode cX10_mayPour 18 = .ok (.iconst 1, 1) := by decide +kernel
theorem dX10_mayPour_19 : decode cX10_mayPour 19 = .ok (.ireturn, 1) := by decide +kernel
theorem dX10_mayPour_20 : decode cX10_mayPour 20 = .ok (.aload_n 0, 1) := by decide +kernel
theorem dX10_mayPour_21 : decode cX10_mayPour 21 = .ok (.getfield 63, 3) := by decide +kernel
theorem dX10_mayPour_24 : decode cX10_mayPour 24 = .ok (.iload_n 2, 1) := by decide +kernel
theorem dX10_mayPour_25 : decode cX10_mayPour 25 = .ok (.iaload, 1) := by decide +kernel
theorem dX10_mayPour_26 : decode cX10_mayPour 26 = .ok (.ifCond .le 14, 3) := by decide +kernel
theorem dX10_mayPour_29 : decode cX10_mayPour 29 = .ok (.aload_n 0, 1) := by decide +kernel
theorem dX10_mayPour_30 : decode cX10_mayPour 30 = .ok (.getfield 69, 3) := by decide +kernel
theorem dX10_mayPour_33 : decode cX10_mayPour 33 = .ok (.iload_n 2, 1) := by decide +kernel
theorem dX10_mayPour_34 : decode cX10_mayPour 34 = .ok (.baload, 1) := by decide +kernel
theorem dX10_mayPour_35 : decode cX10_mayPour 35 = .ok (.ifCond .eq 5, 3) := by decide +kernel
theorem dX10_mayPour_38 : decode cX10_mayPour 38 = .ok (.iconst 0, 1) := by decide +kernel
theorem dX10_mayPour_39 : decode cX10_mayPour 39 = .ok (.ireturn, 1) := by decide +kernel
theorem dX10_mayPour_40 : decode cX10_mayPour 40 = .ok (.iconst 1, 1) := by decide +kernel
theorem dX10_mayPour_41 : decode cX10_mayPour 41 = .ok (.istore_n 3, 1) := by decide +kernel
theorem dX10_mayPour_42 : decode cX10_mayPour 42 = .ok (.iconst 0, 1) := by decide +kernel
theorem dX10_mayPour_43 : decode cX10_mayPour 43 = .ok (.istore 4, 2) := by decide +kernel
theorem dX10_mayPour_45 : decode cX10_mayPour 45 = .ok (.iload 4, 2) := by decide +kernel
theorem dX10_mayPour_47 : decode cX10_mayPour 47 = .ok (.iconst 3, 1) := by decide +kernel
theorem dX10_mayPour_48 : decode cX10_mayPour 48 = .ok (.if_icmp .ge 124, 3) := by decide +kernel
theorem dX10_mayPour_51 : decode cX10_mayPour 51 = .ok (.aload_n 0, 1) := by decide +kernel
theorem dX10_mayPour_52 : decode cX10_mayPour 52 = .ok (.aload_n 0, 1) := by decide +kernel
theorem dX10_mayPour_53 : decode cX10_mayPour 53 = .ok (.getfield 44, 3) := by decide +kernel
theorem dX10_mayPour_56 : decode cX10_mayPour 56 = .ok (.bipush 8, 2) := by decide +kernel
theorem dX10_mayPour_58 : decode cX10_mayPour 58 = .ok (.iload_n 1, 1) := by decide +kernel
theorem dX10_mayPour_59 : decode cX10_mayPour 59 = .ok (.imul, 1) := by decide +kernel
theorem dX10_mayPour_60 : decode cX10_mayPour 60 = .ok (.aload_n 0, 1) := by decide +kernel
theorem dX10_mayPour_61 : decode cX10_mayPour 61 = .ok (.getfield 124, 3) := by decide +kernel
theorem dX10_mayPour_64 : decode cX10_mayPour 64 = .ok (.iload 4, 2) := by decide +kernel
theorem dX10_mayPour_66 : decode cX10_mayPour 66 = .ok (.invokevirtual 180, 3) := by decide +kernel
theorem dX10_mayPour_69 : decode cX10_mayPour 69 = .ok (.istore 5, 2) := by decide +kernel
theorem dX10_mayPour_71 : decode cX10_mayPour 71 = .ok (.aload_n 0, 1) := by decide +kernel
theorem dX10_mayPour_72 : decode cX10_mayPour 72 = .ok (.getfield 63, 3) := by decide +kernel
theorem dX10_mayPour_75 : decode cX10_mayPour 75 = .ok (.iload_n 2, 1) := by decide +kernel
theorem dX10_mayPour_76 : decode cX10_mayPour 76 = .ok (.iaload, 1) := by decide +kernel
theorem dX10_mayPour_77 : decode cX10_mayPour 77 = .ok (.ifCond .le 27, 3) := by decide +kernel
theorem dX10_mayPour_80 : decode cX10_mayPour 80 = .ok (.aload_n 0, 1) := by decide +kernel
theorem dX10_mayPour_81 : decode cX10_mayPour 81 = .ok (.aload_n 0, 1) := by decide +kernel
theorem dX10_mayPour_82 : decode cX10_mayPour 82 = .ok (.getfield 72, 3) := by decide +kernel
theorem dX10_mayPour_85 : decode cX10_mayPour 85 = .ok (.bipush 8, 2) := by decide +kernel
theorem dX10_mayPour_87 : decode cX10_mayPour 87 = .ok (.iload_n 2, 1) := by decide +kernel
theorem dX10_mayPour_88 : decode cX10_mayPour 88 = .ok (.imul, 1) := by decide +kernel
theorem dX10_mayPour_89 : decode cX10_mayPour 89 = .ok (.aload_n 0, 1) := by decide +kernel
theorem dX10_mayPour_90 : decode cX10_mayPour 90 = .ok (.getfield 124, 3) := by decide +kernel
theorem dX10_mayPour_93 : decode cX10_mayPour 93 = .ok (.iload 4, 2) := by decide +kernel
theorem dX10_mayPour_95 : decode cX10_mayPour 95 = .ok (.invokevirtual 180, 3) := by decide +kernel
theorem dX10_mayPour_98 : decode cX10_mayPour 98 = .ok (.iload 5, 2) := by decide +kernel
theorem dX10_mayPour_100 : decode cX10_mayPour 100 = .ok (.isub, 1) := by decide +kernel
theorem dX10_mayPour_101 : decode cX10_mayPour 101 = .ok (.goto 4, 3) := by decide +kernel
theorem dX10_mayPour_104 : decode cX10_mayPour 104 = .ok (.iconst 0, 1) := by decide +kernel
theorem dX10_mayPour_105 : decode cX10_mayPour 105 = .ok (.istore 6, 2) := by decide +kernel
theorem dX10_mayPour_107 : decode cX10_mayPour 107 = .ok (.iload 6, 2) := by decide +kernel
theorem dX10_mayPour_109 : decode cX10_mayPour 109 = .ok (.ifCond .ge 9, 3) := by decide +kernel
theorem dX10_mayPour_112 : decode cX10_mayPour 112 = .ok (.iload 6, 2) := by decide +kernel
theorem dX10_mayPour_114 : decode cX10_mayPour 114 = .ok (.ineg, 1) := by decide +kernel
theorem dX10_mayPour_115 : decode cX10_mayPour 115 = .ok (.goto 5, 3) := by decide +kernel
theorem dX10_mayPour_118 : decode cX10_mayPour 118 = .ok (.iload 6, 2) := by decide +kernel
theorem dX10_mayPour_120 : decode cX10_mayPour 120 = .ok (.istore 6, 2) := by decide +kernel
theorem dX10_mayPour_122 : decode cX10_mayPour 122 = .ok (.iload_n 3, 1) := by decide +kernel
theorem dX10_mayPour_123 : decode cX10_mayPour 123 = .ok (.ifCond .eq 41, 3) := by decide +kernel
theorem dX10_mayPour_126 : decode cX10_mayPour 126 = .ok (.iload 6, 2) := by decide +kernel
theorem dX10_mayPour_128 : decode cX10_mayPour 128 = .ok (.aload_n 0, 1) := by decide +kernel
theorem dX10_mayPour_129 : decode cX10_mayPour 129 = .ok (.getfield 84, 3) := by decide +kernel
theorem dX10_mayPour_132 : decode cX10_mayPour 132 = .ok (.if_icmp .gt 32, 3) := by decide +kernel
theorem dX10_mayPour_135 : decode cX10_mayPour 135 = .ok (.aload_n 0, 1) := by decide +kernel
theorem dX10_mayPour_136 : decode cX10_mayPour 136 = .ok (.getfield 63, 3) := by decide +kernel
theorem dX10_mayPour_139 : decode cX10_mayPour 139 = .ok (.iload_n 2, 1) := by decide +kernel
theorem dX10_mayPour_140 : decode cX10_mayPour 140 = .ok (.iaload, 1) := by decide +kernel
theorem dX10_mayPour_141 : decode cX10_mayPour 141 = .ok (.ifCond .gt 19, 3) := by decide +kernel
theorem dX10_mayPour_144 : decode cX10_mayPour 144 = .ok (.iload 5, 2) := by decide +kernel
theorem dX10_mayPour_146 : decode cX10_mayPour 146 = .ok (.aload_n 0, 1) := by decide +kernel
theorem dX10_mayPour_147 : decode cX10_mayPour 147 = .ok (.getfield 81, 3) := by decide +kernel
theorem dX10_mayPour_150 : decode cX10_mayPour 150 = .ok (.iconst 3, 1) := by decide +kernel
theorem dX10_mayPour_151 : decode cX10_mayPour 151 = .ok (.iload_n 2, 1) := by decide +kernel
theorem dX10_mayPour_152 : decode cX10_mayPour 152 = .ok (.imul, 1) := by decide +kernel
theorem dX10_mayPour_153 : decode cX10_mayPour 153 = .ok (.iload 4, 2) := by decide +kernel
theorem dX10_mayPour_155 : decode cX10_mayPour 155 = .ok (.iadd, 1) := by decide +kernel
theorem dX10_mayPour_156 : decode cX10_mayPour 156 = .ok (.iaload, 1) := by decide +kernel
theorem dX10_mayPour_157 : decode cX10_mayPour 157 = .ok (.if_icmp .lt 7, 3) := by decide +kernel
theorem dX10_mayPour_160 : decode cX10_mayPour 160 = .ok (.iconst 1, 1) := by decide +kernel
theorem dX10_mayPour_161 : decode cX10_mayPour 161 = .ok (.goto 4, 3) := by decide +kernel
theorem dX10_mayPour_164 : decode cX10_mayPour 164 = .ok (.iconst 0, 1) := by decide +kernel
theorem dX10_mayPour_165 : decode cX10_mayPour 165 = .ok (.istore_n 3, 1) := by decide +kernel
theorem dX10_mayPour_166 : decode cX10_mayPour 166 = .ok (.iinc 4 1, 3) := by decide +kernel
theorem dX10_mayPour_169 : decode cX10_mayPour 169 = .ok (.goto (-124), 3) := by decide +kernel
theorem dX10_mayPour_172 : decode cX10_mayPour 172 = .ok (.iload_n 3, 1) := by decide +kernel
theorem dX10_mayPour_173 : decode cX10_mayPour 173 = .ok (.ireturn, 1) := by decide +kernel
theorem dX10_pour_0 : decode cX10_pour 0 = .ok (.aload_n 0, 1) := by decide +kernel
theorem dX10_pour_1 : decode cX10_pour 1 = .ok (.iload_n 1, 1) := by decide +kernel
theorem dX10_pour_2 : decode cX10_pour 2 = .ok (.invokevirtual 165, 3) := by decide +kernel
theorem dX10_pour_5 : decode cX10_pour 5 = .ok (.ifCond .eq 10, 3) := by decide +kernel
theorem dX10_pour_8 : decode cX10_pour 8 = .ok (.iload_n 2, 1) := by decide +kernel
theorem dX10_pour_9 : decode cX10_pour 9 = .ok (.invokestatic 199, 3) := by decide +kernel
theorem dX10_pour_12 : decode cX10_pour 12 = .ok (.ifCond .ne 6, 3) := by decide +kernel
theorem dX10_pour_15 : decode cX10_pour 15 = .ok (.bipush (-2), 2) := by decide +kernel
theorem dX10_pour_17 : decode cX10_pour 17 = .ok (.ireturn, 1) := by decide +kernel
theorem dX10_pour_18 : decode cX10_pour 18 = .ok (.aload_n 0, 1) := by decide +kernel
theorem dX10_pour_19 : decode cX10_pour 19 = .ok (.iload_n 1, 1) := by decide +kernel
theorem dX10_pour_20 : decode cX10_pour 20 = .ok (.invokevirtual 168, 3) := by decide +kernel
theorem dX10_pour_23 : decode cX10_pour 23 = .ok (.istore_n 3, 1) := by decide +kernel
theorem dX10_pour_24 : decode cX10_pour 24 = .ok (.aload_n 0, 1) := by decide +kernel
theorem dX10_pour_25 : decode cX10_pour 25 = .ok (.getfield 51, 3) := by decide +kernel
theorem dX10_pour_28 : decode cX10_pour 28 = .ok (.iload_n 1, 1) := by decide +kernel
theorem dX10_pour_29 : decode cX10_pour 29 = .ok (.baload, 1) := by decide +kernel
theorem dX10_pour_30 : decode cX10_pour 30 = .ok (.ifCond .ne 16, 3) := by decide +kernel
theorem dX10_pour_33 : decode cX10_pour 33 = .ok (.iload_n 3, 1) := by decide +kernel
theorem dX10_pour_34 : decode cX10_pour 34 = .ok (.ifCond .eq 12, 3) := by decide +kernel
theorem dX10_pour_37 : decode cX10_pour 37 = .ok (.aload_n 0, 1) := by decide +kernel
theorem dX10_pour_38 : decode cX10_pour 38 = .ok (.iload_n 1, 1) := by decide +kernel
theorem dX10_pour_39 : decode cX10_pour 39 = .ok (.iload_n 2, 1) := by decide +kernel
theorem dX10_pour_40 : decode cX10_pour 40 = .ok (.invokevirtual 203, 3) := by decide +kernel
theorem dX10_pour_43 : decode cX10_pour 43 = .ok (.ifCond .ne 6, 3) := by decide +kernel
theorem dX10_pour_46 : decode cX10_pour 46 = .ok (.bipush (-4), 2) := by decide +kernel
theorem dX10_pour_48 : decode cX10_pour 48 = .ok (.ireturn, 1) := by decide +kernel
theorem dX10_pour_49 : decode cX10_pour 49 = .ok (.aload_n 0, 1) := by decide +kernel
theorem dX10_pour_50 : decode cX10_pour 50 = .ok (.getfield 63, 3) := by decide +kernel
theorem dX10_pour_53 : decode cX10_pour 53 = .ok (.iload_n 2, 1) := by decide +kernel
theorem dX10_pour_54 : decode cX10_pour 54 = .ok (.iaload, 1) := by decide +kernel
theorem dX10_pour_55 : decode cX10_pour 55 = .ok (.iload_n 3, 1) := by decide +kernel
theorem dX10_pour_56 : decode cX10_pour 56 = .ok (.iadd, 1) := by decide +kernel
theorem dX10_pour_57 : decode cX10_pour 57 = .ok (.aload_n 0, 1) := by decide +kernel
theorem dX10_pour_58 : decode cX10_pour 58 = .ok (.getfield 60, 3) := by decide +kernel
theorem dX10_pour_61 : decode cX10_pour 61 = .ok (.iload_n 2, 1) := by decide +kernel
theorem dX10_pour_62 : decode cX10_pour 62 = .ok (.iaload, 1) := by decide +kernel
theorem dX10_pour_63 : decode cX10_pour 63 = .ok (.if_icmp .le 6, 3) := by decide +kernel
theorem dX10_pour_66 : decode cX10_pour 66 = .ok (.bipush (-6), 2) := by decide +kernel
theorem dX10_pour_68 : decode cX10_pour 68 = .ok (.ireturn, 1) := by decide +kernel
theorem dX10_pour_69 : decode cX10_pour 69 = .ok (.aload_n 0, 1) := by decide +kernel
theorem dX10_pour_70 : decode cX10_pour 70 = .ok (.getfield 63, 3) := by decide +kernel
theorem dX10_pour_73 : decode cX10_pour 73 = .ok (.iload_n 2, 1) := by decide +kernel
theorem dX10_pour_74 : decode cX10_pour 74 = .ok (.iaload, 1) := by decide +kernel
theorem dX10_pour_75 : decode cX10_pour 75 = .ok (.ifCond .ne 24, 3) := by decide +kernel
theorem dX10_pour_78 : decode cX10_pour 78 = .ok (.aload_n 0, 1) := by decide +kernel
theorem dX10_pour_79 : decode cX10_pour 79 = .ok (.getfield 75, 3) := by decide +kernel
theorem dX10_pour_82 : decode cX10_pour 82 = .ok (.iload_n 2, 1) := by decide +kernel
theorem dX10_pour_83 : decode cX10_pour 83 = .ok (.lconst 0, 1) := by decide +kernel
theorem dX10_pour_84 : decode cX10_pour 84 = .ok (.lastore, 1) := by decide +kernel
theorem dX10_pour_85 : decode cX10_pour 85 = .ok (.aload_n 0, 1) := by decide +kernel
theorem dX10_pour_86 : decode cX10_pour 86 = .ok (.getfield 78, 3) := by decide +kernel
theorem dX10_pour_89 : decode cX10_pour 89 = .ok (.iload_n 2, 1) := by decide +kernel
theorem dX10_pour_90 : decode cX10_pour 90 = .ok (.iconst 0, 1) := by decide +kernel
theorem dX10_pour_91 : decode cX10_pour 91 = .ok (.iastore, 1) := by decide +kernel
theorem dX10_pour_92 : decode cX10_pour 92 = .ok (.aload_n 0, 1) := by decide +kernel
theorem dX10_pour_93 : decode cX10_pour 93 = .ok (.getfield 69, 3) := by decide +kernel
theorem dX10_pour_96 : decode cX10_pour 96 = .ok (.iload_n 2, 1) := by decide +kernel
theorem dX10_pour_97 : decode cX10_pour 97 = .ok (.iconst 0, 1) := by decide +kernel
theorem dX10_pour_98 : decode cX10_pour 98 = .ok (.bastore, 1) := by decide +kernel
theorem dX10_pour_99 : decode cX10_pour 99 = .ok (.iconst 0, 1) := by decide +kernel
theorem dX10_pour_100 : decode cX10_pour 100 = .ok (.istore 4, 2) := by decide +kernel
theorem dX10_pour_102 : decode cX10_pour 102 = .ok (.iload 4, 2) := by decide +kernel
theorem dX10_pour_104 : decode cX10_pour 104 = .ok (.bipush 8, 2) := by decide +kernel
theorem dX10_pour_106 : decode cX10_pour 106 = .ok (.if_icmp .ge 59, 3) := by decide +kernel
theorem dX10_pour_109 : decode cX10_pour 109 = .ok (.aload_n 0, 1) := by decide +kernel
theorem dX10_pour_110 : decode cX10_pour 110 = .ok (.getfield 72, 3) := by decide +kernel
theorem dX10_pour_113 : decode cX10_pour 113 = .ok (.bipush 8, 2) := by decide +kernel
theorem dX10_pour_115 : decode cX10_pour 115 = .ok (.iload_n 2, 1) := by decide +kernel
theorem dX10_pour_116 : decode cX10_pour 116 = .ok (.imul, 1) := by decide +kernel
theorem dX10_pour_117 : decode cX10_pour 117 = .ok (.iload 4, 2) := by decide +kernel
theorem dX10_pour_119 : decode cX10_pour 119 = .ok (.iadd, 1) := by decide +kernel
theorem dX10_pour_120 : decode cX10_pour 120 = .ok (.aload_n 0, 1) := by decide +kernel
theorem dX10_pour_121 : decode cX10_pour 121 = .ok (.getfield 63, 3) := by decide +kernel
theorem dX10_pour_124 : decode cX10_pour 124 = .ok (.iload_n 2, 1) := by decide +kernel
theorem dX10_pour_125 : decode cX10_pour 125 = .ok (.iaload, 1) := by decide +kernel
theorem dX10_pour_126 : decode cX10_pour 126 = .ok (.ifCond .ne 7, 3) := by decide +kernel
theorem dX10_pour_129 : decode cX10_pour 129 = .ok (.iconst 0, 1) := by decide +kernel
theorem dX10_pour_130 : decode cX10_pour 130 = .ok (.goto 15, 3) := by decide +kernel
theorem dX10_pour_133 : decode cX10_pour 133 = .ok (.aload_n 0, 1) := by decide +kernel
theorem dX10_pour_134 : decode cX10_pour 134 = .ok (.getfield 72, 3) := by decide +kernel
theorem dX10_pour_137 : decode cX10_pour 137 = .ok (.bipush 8, 2) := by decide +kernel
theorem dX10_pour_139 : decode cX10_pour 139 = .ok (.iload_n 2, 1) := by decide +kernel
theorem dX10_pour_140 : decode cX10_pour 140 = .ok (.imul, 1) := by decide +kernel
theorem dX10_pour_141 : decode cX10_pour 141 = .ok (.iload 4, 2) := by decide +kernel
theorem dX10_pour_143 : decode cX10_pour 143 = .ok (.iadd, 1) := by decide +kernel
theorem dX10_pour_144 : decode cX10_pour 144 = .ok (.iaload, 1) := by decide +kernel
theorem dX10_pour_145 : decode cX10_pour 145 = .ok (.aload_n 0, 1) := by decide +kernel
theorem dX10_pour_146 : decode cX10_pour 146 = .ok (.getfield 44, 3) := by decide +kernel
theorem dX10_pour_149 : decode cX10_pour 149 = .ok (.bipush 8, 2) := by decide +kernel
theorem dX10_pour_151 : decode cX10_pour 151 = .ok (.iload_n 1, 1) := by decide +kernel
theorem dX10_pour_152 : decode cX10_pour 152 = .ok (.imul, 1) := by decide +kernel
theorem dX10_pour_153 : decode cX10_pour 153 = .ok (.iload 4, 2) := by decide +kernel
theorem dX10_pour_155 : decode cX10_pour 155 = .ok (.iadd, 1) := by decide +kernel
theorem dX10_pour_156 : decode cX10_pour 156 = .ok (.iaload, 1) := by decide +kernel
theorem dX10_pour_157 : decode cX10_pour 157 = .ok (.iadd, 1) := by decide +kernel
theorem dX10_pour_158 : decode cX10_pour 158 = .ok (.iastore, 1) := by decide +kernel
theorem dX10_pour_159 : decode cX10_pour 159 = .ok (.iinc 4 1, 3) := by decide +kernel
theorem dX10_pour_162 : decode cX10_pour 162 = .ok (.goto (-60), 3) := by decide +kernel
theorem dX10_pour_165 : decode cX10_pour 165 = .ok (.aload_n 0, 1) := by decide +kernel
theorem dX10_pour_166 : decode cX10_pour 166 = .ok (.getfield 66, 3) := by decide +kernel
theorem dX10_pour_169 : decode cX10_pour 169 = .ok (.iload_n 2, 1) := by decide +kernel
theorem dX10_pour_170 : decode cX10_pour 170 = .ok (.iconst 0, 1) := by decide +kernel
theorem dX10_pour_171 : decode cX10_pour 171 = .ok (.bastore, 1) := by decide +kernel
theorem dX10_pour_172 : decode cX10_pour 172 = .ok (.aload_n 0, 1) := by decide +kernel
theorem dX10_pour_173 : decode cX10_pour 173 = .ok (.getfield 75, 3) := by decide +kernel
theorem dX10_pour_176 : decode cX10_pour 176 = .ok (.iload_n 2, 1) := by decide +kernel
theorem dX10_pour_177 : decode cX10_pour 177 = .ok (.aload_n 0, 1) := by decide +kernel
theorem dX10_pour_178 : decode cX10_pour 178 = .ok (.getfield 75, 3) := by decide +kernel
theorem dX10_pour_181 : decode cX10_pour 181 = .ok (.iload_n 2, 1) := by decide +kernel
theorem dX10_pour_182 : decode cX10_pour 182 = .ok (.laload, 1) := by decide +kernel
theorem dX10_pour_183 : decode cX10_pour 183 = .ok (.aload_n 0, 1) := by decide +kernel
theorem dX10_pour_184 : decode cX10_pour 184 = .ok (.getfield 47, 3) := by decide +kernel
theorem dX10_pour_187 : decode cX10_pour 187 = .ok (.iload_n 1, 1) := by decide +kernel
theorem dX10_pour_188 : decode cX10_pour 188 = .ok (.laload, 1) := by decide +kernel
theorem dX10_pour_189 : decode cX10_pour 189 = .ok (.lor, 1) := by decide +kernel
theorem dX10_pour_190 : decode cX10_pour 190 = .ok (.lastore, 1) := by decide +kernel
theorem dX10_pour_191 : decode cX10_pour 191 = .ok (.aload_n 0, 1) := by decide +kernel
theorem dX10_pour_192 : decode cX10_pour 192 = .ok (.getfield 78, 3) := by decide +kernel
theorem dX10_pour_195 : decode cX10_pour 195 = .ok (.iload_n 2, 1) := by decide +kernel
theorem dX10_pour_196 : decode cX10_pour 196 = .ok (.aload_n 0, 1) := by decide +kernel
theorem dX10_pour_197 : decode cX10_pour 197 = .ok (.getfield 78, 3) := by decide +kernel
theorem dX10_pour_200 : decode cX10_pour 200 = .ok (.iload_n 2, 1) := by decide +kernel
theorem dX10_pour_201 : decode cX10_pour 201 = .ok (.iaload, 1) := by decide +kernel
theorem dX10_pour_202 : decode cX10_pour 202 = .ok (.iconst 1, 1) := by decide +kernel
theorem dX10_pour_203 : decode cX10_pour 203 = .ok (.iload_n 1, 1) := by decide +kernel
theorem dX10_pour_204 : decode cX10_pour 204 = .ok (.ishl, 1) := by decide +kernel
theorem dX10_pour_205 : decode cX10_pour 205 = .ok (.ior, 1) := by decide +kernel
theorem dX10_pour_206 : decode cX10_pour 206 = .ok (.iastore, 1) := by decide +kernel
theorem dX10_pour_207 : decode cX10_pour 207 = .ok (.aload_n 0, 1) := by decide +kernel
theorem dX10_pour_208 : decode cX10_pour 208 = .ok (.getfield 63, 3) := by decide +kernel
theorem dX10_pour_211 : decode cX10_pour 211 = .ok (.iload_n 2, 1) := by decide +kernel
theorem dX10_pour_212 : decode cX10_pour 212 = .ok (.dup2, 1) := by decide +kernel
theorem dX10_pour_213 : decode cX10_pour 213 = .ok (.iaload, 1) := by decide +kernel
theorem dX10_pour_214 : decode cX10_pour 214 = .ok (.iload_n 3, 1) := by decide +kernel
theorem dX10_pour_215 : decode cX10_pour 215 = .ok (.iadd, 1) := by decide +kernel
theorem dX10_pour_216 : decode cX10_pour 216 = .ok (.iastore, 1) := by decide +kernel
theorem dX10_pour_217 : decode cX10_pour 217 = .ok (.aload_n 0, 1) := by decide +kernel
theorem dX10_pour_218 : decode cX10_pour 218 = .ok (.getfield 51, 3) := by decide +kernel
theorem dX10_pour_221 : decode cX10_pour 221 = .ok (.iload_n 1, 1) := by decide +kernel
theorem dX10_pour_222 : decode cX10_pour 222 = .ok (.iconst 1, 1) := by decide +kernel
theorem dX10_pour_223 : decode cX10_pour 223 = .ok (.bastore, 1) := by decide +kernel
theorem dX10_pour_224 : decode cX10_pour 224 = .ok (.aload_n 0, 1) := by decide +kernel
theorem dX10_pour_225 : decode cX10_pour 225 = .ok (.getfield 63, 3) := by decide +kernel
theorem dX10_pour_228 : decode cX10_pour 228 = .ok (.iload_n 2, 1) := by decide +kernel
theorem dX10_pour_229 : decode cX10_pour 229 = .ok (.iaload, 1) := by decide +kernel
theorem dX10_pour_230 : decode cX10_pour 230 = .ok (.ireturn, 1) := by decide +kernel
theorem dX10_clean_0 : decode cX10_clean 0 = .ok (.iload_n 1, 1) := by decide +kernel
theorem dX10_clean_1 : decode cX10_clean 1 = .ok (.invokestatic 199, 3) := by decide +kernel
theorem dX10_clean_4 : decode cX10_clean 4 = .ok (.ifCond .ne 6, 3) := by decide +kernel
theorem dX10_clean_7 : decode cX10_clean 7 = .ok (.bipush (-2), 2) := by decide +kernel
theorem dX10_clean_9 : decode cX10_clean 9 = .ok (.ireturn, 1) := by decide +kernel
theorem dX10_clean_10 : decode cX10_clean 10 = .ok (.aload_n 0, 1) := by decide +kernel
theorem dX10_clean_11 : decode cX10_clean 11 = .ok (.getfield 63, 3) := by decide +kernel
theorem dX10_clean_14 : decode cX10_clean 14 = .ok (.iload_n 1, 1) := by decide +kernel
theorem dX10_clean_15 : decode cX10_clean 15 = .ok (.iaload, 1) := by decide +kernel
theorem dX10_clean_16 : decode cX10_clean 16 = .ok (.ifCond .le 6, 3) := by decide +kernel
theorem dX10_clean_19 : decode cX10_clean 19 = .ok (.bipush (-4), 2) := by decide +kernel
theorem dX10_clean_21 : decode cX10_clean 21 = .ok (.ireturn, 1) := by decide +kernel
theorem dX10_clean_22 : decode cX10_clean 22 = .ok (.aload_n 0, 1) := by decide +kernel
theorem dX10_clean_23 : decode cX10_clean 23 = .ok (.getfield 66, 3) := by decide +kernel
theorem dX10_clean_26 : decode cX10_clean 26 = .ok (.iload_n 1, 1) := by decide +kernel
theorem dX10_clean_27 : decode cX10_clean 27 = .ok (.baload, 1) := by decide +kernel
theorem dX10_clean_28 : decode cX10_clean 28 = .ok (.ifCond .eq 7, 3) := by decide +kernel
theorem dX10_clean_31 : decode cX10_clean 31 = .ok (.iconst 1, 1) := by decide +kernel
theorem dX10_clean_32 : decode cX10_clean 32 = .ok (.goto 4, 3) := by decide +kernel
theorem dX10_clean_35 : decode cX10_clean 35 = .ok (.iconst 0, 1) := by decide +kernel
theorem dX10_clean_36 : decode cX10_clean 36 = .ok (.istore_n 2, 1) := by decide +kernel
theorem dX10_clean_37 : decode cX10_clean 37 = .ok (.aload_n 0, 1) := by decide +kernel
theorem dX10_clean_38 : decode cX10_clean 38 = .ok (.dup, 1) := by decide +kernel
theorem dX10_clean_39 : decode cX10_clean 39 = .ok (.getfield 206, 3) := by decide +kernel
theorem dX10_clean_42 : decode cX10_clean 42 = .ok (.iload_n 2, 1) := by decide +kernel
theorem dX10_clean_43 : decode cX10_clean 43 = .ok (.iadd, 1) := by decide +kernel
theorem dX10_clean_44 : decode cX10_clean 44 = .ok (.putfield 206, 3) := by decide +kernel
theorem dX10_clean_47 : decode cX10_clean 47 = .ok (.aload_n 0, 1) := by decide +kernel
theorem dX10_clean_48 : decode cX10_clean 48 = .ok (.getfield 66, 3) := by decide +kernel
theorem dX10_clean_51 : decode cX10_clean 51 = .ok (.iload_n 1, 1) := by decide +kernel
theorem dX10_clean_52 : decode cX10_clean 52 = .ok (.iconst 0, 1) := by decide +kernel
theorem dX10_clean_53 : decode cX10_clean 53 = .ok (.bastore, 1) := by decide +kernel
theorem dX10_clean_54 : decode cX10_clean 54 = .ok (.iload_n 2, 1) := by decide +kernel
theorem dX10_clean_55 : decode cX10_clean 55 = .ok (.ireturn, 1) := by decide +kernel
theorem dX10_fill_0 : decode cX10_fill 0 = .ok (.iload_n 1, 1) := by decide +kernel
theorem dX10_fill_1 : decode cX10_fill 1 = .ok (.invokestatic 199, 3) := by decide +kernel
theorem dX10_fill_4 : decode cX10_fill 4 = .ok (.ifCond .ne 6, 3) := by decide +kernel
theorem dX10_fill_7 : decode cX10_fill 7 = .ok (.bipush (-2), 2) := by decide +kernel
theorem dX10_fill_9 : decode cX10_fill 9 = .ok (.ireturn, 1) := by decide +kernel
theorem dX10_fill_10 : decode cX10_fill 10 = .ok (.iload_n 2, 1) := by decide +kernel
theorem dX10_fill_11 : decode cX10_fill 11 = .ok (.iconst 1, 1) := by decide +kernel
theorem dX10_fill_12 : decode cX10_fill 12 = .ok (.sipush 1000, 3) := by decide +kernel
theorem dX10_fill_15 : decode cX10_fill 15 = .ok (.invokestatic 133, 3) := by decide +kernel
theorem dX10_fill_18 : decode cX10_fill 18 = .ok (.ifCond .ne 6, 3) := by decide +kernel
theorem dX10_fill_21 : decode cX10_fill 21 = .ok (.bipush (-3), 2) := by decide +kernel
theorem dX10_fill_23 : decode cX10_fill 23 = .ok (.ireturn, 1) := by decide +kernel
theorem dX10_fill_24 : decode cX10_fill 24 = .ok (.aload_n 0, 1) := by decide +kernel
theorem dX10_fill_25 : decode cX10_fill 25 = .ok (.getfield 63, 3) := by decide +kernel
theorem dX10_fill_28 : decode cX10_fill 28 = .ok (.iload_n 1, 1) := by decide +kernel
theorem dX10_fill_29 : decode cX10_fill 29 = .ok (.iaload, 1) := by decide +kernel
theorem dX10_fill_30 : decode cX10_fill 30 = .ok (.iload_n 2, 1) := by decide +kernel
theorem dX10_fill_31 : decode cX10_fill 31 = .ok (.if_icmp .ge 6, 3) := by decide +kernel
theorem dX10_fill_34 : decode cX10_fill 34 = .ok (.bipush (-4), 2) := by decide +kernel
theorem dX10_fill_36 : decode cX10_fill 36 = .ok (.ireturn, 1) := by decide +kernel
theorem dX10_fill_37 : decode cX10_fill 37 = .ok (.aload_n 0, 1) := by decide +kernel
theorem dX10_fill_38 : decode cX10_fill 38 = .ok (.getfield 209, 3) := by decide +kernel
theorem dX10_fill_41 : decode cX10_fill 41 = .ok (.bipush 100, 2) := by decide +kernel
theorem dX10_fill_43 : decode cX10_fill 43 = .ok (.if_icmp .ne 6, 3) := by decide +kernel
theorem dX10_fill_46 : decode cX10_fill 46 = .ok (.bipush (-6), 2) := by decide +kernel
theorem dX10_fill_48 : decode cX10_fill 48 = .ok (.ireturn, 1) := by decide +kernel
theorem dX10_fill_49 : decode cX10_fill 49 = .ok (.aload_n 0, 1) := by decide +kernel
theorem dX10_fill_50 : decode cX10_fill 50 = .ok (.getfield 88, 3) := by decide +kernel
theorem dX10_fill_53 : decode cX10_fill 53 = .ok (.aload_n 0, 1) := by decide +kernel
theorem dX10_fill_54 : decode cX10_fill 54 = .ok (.getfield 209, 3) := by decide +kernel
theorem dX10_fill_57 : decode cX10_fill 57 = .ok (.iload_n 2, 1) := by decide +kernel
theorem dX10_fill_58 : decode cX10_fill 58 = .ok (.iastore, 1) := by decide +kernel
theorem dX10_fill_59 : decode cX10_fill 59 = .ok (.aload_n 0, 1) := by decide +kernel
theorem dX10_fill_60 : decode cX10_fill 60 = .ok (.getfield 91, 3) := by decide +kernel
theorem dX10_fill_63 : decode cX10_fill 63 = .ok (.aload_n 0, 1) := by decide +kernel
theorem dX10_fill_64 : decode cX10_fill 64 = .ok (.getfield 209, 3) := by decide +kernel
theorem dX10_fill_67 : decode cX10_fill 67 = .ok (.iload_n 1, 1) := by decide +kernel
theorem dX10_fill_68 : decode cX10_fill 68 = .ok (.iastore, 1) := by decide +kernel
theorem dX10_fill_69 : decode cX10_fill 69 = .ok (.aload_n 0, 1) := by decide +kernel
theorem dX10_fill_70 : decode cX10_fill 70 = .ok (.getfield 94, 3) := by decide +kernel
theorem dX10_fill_73 : decode cX10_fill 73 = .ok (.aload_n 0, 1) := by decide +kernel
theorem dX10_fill_74 : decode cX10_fill 74 = .ok (.getfield 209, 3) := by decide +kernel
theorem dX10_fill_77 : decode cX10_fill 77 = .ok (.aload_n 0, 1) := by decide +kernel
theorem dX10_fill_78 : decode cX10_fill 78 = .ok (.getfield 147, 3) := by decide +kernel
theorem dX10_fill_81 : decode cX10_fill 81 = .ok (.iastore, 1) := by decide +kernel
theorem dX10_fill_82 : decode cX10_fill 82 = .ok (.aload_n 0, 1) := by decide +kernel
theorem dX10_fill_83 : decode cX10_fill 83 = .ok (.getfield 97, 3) := by decide +kernel
theorem dX10_fill_86 : decode cX10_fill 86 = .ok (.aload_n 0, 1) := by decide +kernel
theorem dX10_fill_87 : decode cX10_fill 87 = .ok (.getfield 209, 3) := by decide +kernel
theorem dX10_fill_90 : decode cX10_fill 90 = .ok (.aload_n 0, 1) := by decide +kernel
theorem dX10_fill_91 : decode cX10_fill 91 = .ok (.getfield 75, 3) := by decide +kernel
theorem dX10_fill_94 : decode cX10_fill 94 = .ok (.iload_n 1, 1) := by decide +kernel
theorem dX10_fill_95 : decode cX10_fill 95 = .ok (.laload, 1) := by decide +kernel
theorem dX10_fill_96 : decode cX10_fill 96 = .ok (.lastore, 1) := by decide +kernel
theorem dX10_fill_97 : decode cX10_fill 97 = .ok (.aload_n 0, 1) := by decide +kernel
theorem dX10_fill_98 : decode cX10_fill 98 = .ok (.getfield 100, 3) := by decide +kernel
theorem dX10_fill_101 : decode cX10_fill 101 = .ok (.aload_n 0, 1) := by decide +kernel
theorem dX10_fill_102 : decode cX10_fill 102 = .ok (.getfield 209, 3) := by decide +kernel
theorem dX10_fill_105 : decode cX10_fill 105 = .ok (.aload_n 0, 1) := by decide +kernel
theorem dX10_fill_106 : decode cX10_fill 106 = .ok (.getfield 78, 3) := by decide +kernel
theorem dX10_fill_109 : decode cX10_fill 109 = .ok (.iload_n 1, 1) := by decide +kernel
theorem dX10_fill_110 : decode cX10_fill 110 = .ok (.iaload, 1) := by decide +kernel
theorem dX10_fill_111 : decode cX10_fill 111 = .ok (.iastore, 1) := by decide +kernel
theorem dX10_fill_112 : decode cX10_fill 112 = .ok (.aload_n 0, 1) := by decide +kernel
theorem dX10_fill_113 : decode cX10_fill 113 = .ok (.dup, 1) := by decide +kernel
theorem dX10_fill_114 : decode cX10_fill 114 = .ok (.getfield 209, 3) := by decide +kernel
theorem dX10_fill_117 : decode cX10_fill 117 = .ok (.iconst 1, 1) := by decide +kernel
theorem dX10_fill_118 : decode cX10_fill 118 = .ok (.iadd, 1) := by decide +kernel
theorem dX10_fill_119 : decode cX10_fill 119 = .ok (.putfield 209, 3) := by decide +kernel
theorem dX10_fill_122 : decode cX10_fill 122 = .ok (.aload_n 0, 1) := by decide +kernel
theorem dX10_fill_123 : decode cX10_fill 123 = .ok (.getfield 63, 3) := by decide +kernel
theorem dX10_fill_126 : decode cX10_fill 126 = .ok (.iload_n 1, 1) := by decide +kernel
theorem dX10_fill_127 : decode cX10_fill 127 = .ok (.dup2, 1) := by decide +kernel
theorem dX10_fill_128 : decode cX10_fill 128 = .ok (.iaload, 1) := by decide +kernel
theorem dX10_fill_129 : decode cX10_fill 129 = .ok (.iload_n 2, 1) := by decide +kernel
theorem dX10_fill_130 : decode cX10_fill 130 = .ok (.isub, 1) := by decide +kernel
theorem dX10_fill_131 : decode cX10_fill 131 = .ok (.iastore, 1) := by decide +kernel
theorem dX10_fill_132 : decode cX10_fill 132 = .ok (.aload_n 0, 1) := by decide +kernel
theorem dX10_fill_133 : decode cX10_fill 133 = .ok (.getfield 69, 3) := by decide +kernel
theorem dX10_fill_136 : decode cX10_fill 136 = .ok (.iload_n 1, 1) := by decide +kernel
theorem dX10_fill_137 : decode cX10_fill 137 = .ok (.iconst 1, 1) := by decide +kernel
theorem dX10_fill_138 : decode cX10_fill 138 = .ok (.bastore, 1) := by decide +kernel
theorem dX10_fill_139 : decode cX10_fill 139 = .ok (.aload_n 0, 1) := by decide +kernel
theorem dX10_fill_140 : decode cX10_fill 140 = .ok (.getfield 63, 3) := by decide +kernel
theorem dX10_fill_143 : decode cX10_fill 143 = .ok (.iload_n 1, 1) := by decide +kernel
theorem dX10_fill_144 : decode cX10_fill 144 = .ok (.iaload, 1) := by decide +kernel
theorem dX10_fill_145 : decode cX10_fill 145 = .ok (.ifCond .ne 50, 3) := by decide +kernel
theorem dX10_fill_148 : decode cX10_fill 148 = .ok (.aload_n 0, 1) := by decide +kernel
theorem dX10_fill_149 : decode cX10_fill 149 = .ok (.getfield 66, 3) := by decide +kernel
theorem dX10_fill_152 : decode cX10_fill 152 = .ok (.iload_n 1, 1) := by decide +kernel
theorem dX10_fill_153 : decode cX10_fill 153 = .ok (.iconst 1, 1) := by decide +kernel
theorem dX10_fill_154 : decode cX10_fill 154 = .ok (.bastore, 1) := by decide +kernel
theorem dX10_fill_155 : decode cX10_fill 155 = .ok (.iconst 0, 1) := by decide +kernel
theorem dX10_fill_156 : decode cX10_fill 156 = .ok (.istore_n 3, 1) := by decide +kernel
theorem dX10_fill_157 : decode cX10_fill 157 = .ok (.iload_n 3, 1) := by decide +kernel
theorem dX10_fill_158 : decode cX10_fill 158 = .ok (.iconst 3, 1) := by decide +kernel
theorem dX10_fill_159 : decode cX10_fill 159 = .ok (.if_icmp .ge 36, 3) := by decide +kernel
theorem dX10_fill_162 : decode cX10_fill 162 = .ok (.aload_n 0, 1) := by decide +kernel
theorem dX10_fill_163 : decode cX10_fill 163 = .ok (.getfield 81, 3) := by decide +kernel
theorem dX10_fill_166 : decode cX10_fill 166 = .ok (.iconst 3, 1) := by decide +kernel
theorem dX10_fill_167 : decode cX10_fill 167 = .ok (.iload_n 1, 1) := by decide +kernel
theorem dX10_fill_168 : decode cX10_fill 168 = .ok (.imul, 1) := by decide +kernel
theorem dX10_fill_169 : decode cX10_fill 169 = .ok (.iload_n 3, 1) := by decide +kernel
theorem dX10_fill_170 : decode cX10_fill 170 = .ok (.iadd, 1) := by decide +kernel
theorem dX10_fill_171 : decode cX10_fill 171 = .ok (.aload_n 0, 1) := by decide +kernel
theorem dX10_fill_172 : decode cX10_fill 172 = .ok (.aload_n 0, 1) := by decide +kernel
theorem dX10_fill_173 : decode cX10_fill 173 = .ok (.getfield 72, 3) := by decide +kernel
theorem dX10_fill_176 : decode cX10_fill 176 = .ok (.bipush 8, 2) := by decide +kernel
theorem dX10_fill_178 : decode cX10_fill 178 = .ok (.iload_n 1, 1) := by decide +kernel
theorem dX10_fill_179 : decode cX10_fill 179 = .ok (.imul, 1) := by decide +kernel
theorem dX10_fill_180 : decode cX10_fill 180 = .ok (.aload_n 0, 1) := by decide +kernel
theorem dX10_fill_181 : decode cX10_fill 181 = .ok (.getfield 124, 3) := by decide +kernel
theorem dX10_fill_184 : decode cX10_fill 184 = .ok (.iload_n 3, 1) := by decide +kernel
theorem dX10_fill_185 : decode cX10_fill 185 = .ok (.invokevirtual 180, 3) := by decide +kernel
theorem dX10_fill_188 : decode cX10_fill 188 = .ok (.iastore, 1) := by decide +kernel
theorem dX10_fill_189 : decode cX10_fill 189 = .ok (.iinc 3 1, 3) := by decide +kernel
theorem dX10_fill_192 : decode cX10_fill 192 = .ok (.goto (-35), 3) := by decide +kernel
theorem dX10_fill_195 : decode cX10_fill 195 = .ok (.aload_n 0, 1) := by decide +kernel
theorem dX10_fill_196 : decode cX10_fill 196 = .ok (.getfield 209, 3) := by decide +kernel
theorem dX10_fill_199 : decode cX10_fill 199 = .ok (.iconst 1, 1) := by decide +kernel
theorem dX10_fill_200 : decode cX10_fill 200 = .ok (.isub, 1) := by decide +kernel
theorem dX10_fill_201 : decode cX10_fill 201 = .ok (.ireturn, 1) := by decide +kernel
theorem dX10_tank_0 : decode cX10_tank 0 = .ok (.iload_n 1, 1) := by decide +kernel
theorem dX10_tank_1 : decode cX10_tank 1 = .ok (.invokestatic 199, 3) := by decide +kernel
theorem dX10_tank_4 : decode cX10_tank 4 = .ok (.ifCond .ne 6, 3) := by decide +kernel
theorem dX10_tank_7 : decode cX10_tank 7 = .ok (.bipush (-2), 2) := by decide +kernel
theorem dX10_tank_9 : decode cX10_tank 9 = .ok (.ireturn, 1) := by decide +kernel
theorem dX10_tank_10 : decode cX10_tank 10 = .ok (.iload_n 2, 1) := by decide +kernel
theorem dX10_tank_11 : decode cX10_tank 11 = .ok (.tableswitch 82 0 3 #[29, 36, 60, 75], 29) := by decide +kernel
theorem dX10_tank_40 : decode cX10_tank 40 = .ok (.aload_n 0, 1) := by decide +kernel
theorem dX10_tank_41 : decode cX10_tank 41 = .ok (.getfield 63, 3) := by decide +kernel
theorem dX10_tank_44 : decode cX10_tank 44 = .ok (.iload_n 1, 1) := by decide +kernel
theorem dX10_tank_45 : decode cX10_tank 45 = .ok (.iaload, 1) := by decide +kernel
theorem dX10_tank_46 : decode cX10_tank 46 = .ok (.ireturn, 1) := by decide +kernel
theorem dX10_tank_47 : decode cX10_tank 47 = .ok (.aload_n 0, 1) := by decide +kernel
theorem dX10_tank_48 : decode cX10_tank 48 = .ok (.getfield 63, 3) := by decide +kernel
theorem dX10_tank_51 : decode cX10_tank 51 = .ok (.iload_n 1, 1) := by decide +kernel
theorem dX10_tank_52 : decode cX10_tank 52 = .ok (.iaload, 1) := by decide +kernel
theorem dX10_tank_53 : decode cX10_tank 53 = .ok (.ifCond .ne 16, 3) := by decide +kernel
theorem dX10_tank_56 : decode cX10_tank 56 = .ok (.aload_n 0, 1) := by decide +kernel
theorem dX10_tank_57 : decode cX10_tank 57 = .ok (.getfield 66, 3) := by decide +kernel
theorem dX10_tank_60 : decode cX10_tank 60 = .ok (.iload_n 1, 1) := by decide +kernel
theorem dX10_tank_61 : decode cX10_tank 61 = .ok (.baload, 1) := by decide +kernel
theorem dX10_tank_62 : decode cX10_tank 62 = .ok (.ifCond .ne 7, 3) := by decide +kernel
theorem dX10_tank_65 : decode cX10_tank 65 = .ok (.iconst 1, 1) := by decide +kernel
theorem dX10_tank_66 : decode cX10_tank 66 = .ok (.goto 4, 3) := by decide +kernel
theorem dX10_tank_69 : decode cX10_tank 69 = .ok (.iconst 0, 1) := by decide +kernel
theorem dX10_tank_70 : decode cX10_tank 70 = .ok (.ireturn, 1) := by decide +kernel
theorem dX10_tank_71 : decode cX10_tank 71 = .ok (.aload_n 0, 1) := by decide +kernel
theorem dX10_tank_72 : decode cX10_tank 72 = .ok (.getfield 66, 3) := by decide +kernel
theorem dX10_tank_75 : decode cX10_tank 75 = .ok (.iload_n 1, 1) := by decide +kernel
theorem dX10_tank_76 : decode cX10_tank 76 = .ok (.baload, 1) := by decide +kernel
theorem dX10_tank_77 : decode cX10_tank 77 = .ok (.ifCond .eq 7, 3) := by decide +kernel
theorem dX10_tank_80 : decode cX10_tank 80 = .ok (.iconst 1, 1) := by decide +kernel
theorem dX10_tank_81 : decode cX10_tank 81 = .ok (.goto 4, 3) := by decide +kernel
theorem dX10_tank_84 : decode cX10_tank 84 = .ok (.iconst 0, 1) := by decide +kernel
theorem dX10_tank_85 : decode cX10_tank 85 = .ok (.ireturn, 1) := by decide +kernel
theorem dX10_tank_86 : decode cX10_tank 86 = .ok (.aload_n 0, 1) := by decide +kernel
theorem dX10_tank_87 : decode cX10_tank 87 = .ok (.getfield 60, 3) := by decide +kernel
theorem dX10_tank_90 : decode cX10_tank 90 = .ok (.iload_n 1, 1) := by decide +kernel
theorem dX10_tank_91 : decode cX10_tank 91 = .ok (.iaload, 1) := by decide +kernel
theorem dX10_tank_92 : decode cX10_tank 92 = .ok (.ireturn, 1) := by decide +kernel
theorem dX10_tank_93 : decode cX10_tank 93 = .ok (.bipush (-3), 2) := by decide +kernel
theorem dX10_tank_95 : decode cX10_tank 95 = .ok (.ireturn, 1) := by decide +kernel
theorem dX10_tankShade_0 : decode cX10_tankShade 0 = .ok (.iload_n 1, 1) := by decide +kernel
theorem dX10_tankShade_1 : decode cX10_tankShade 1 = .ok (.invokestatic 199, 3) := by decide +kernel
theorem dX10_tankShade_4 : decode cX10_tankShade 4 = .ok (.ifCond .eq 12, 3) := by decide +kernel
theorem dX10_tankShade_7 : decode cX10_tankShade 7 = .ok (.iload_n 2, 1) := by decide +kernel
theorem dX10_tankShade_8 : decode cX10_tankShade 8 = .ok (.iconst 0, 1) := by decide +kernel
theorem dX10_tankShade_9 : decode cX10_tankShade 9 = .ok (.iconst 2, 1) := by decide +kernel
theorem dX10_tankShade_10 : decode cX10_tankShade 10 = .ok (.invokestatic 133, 3) := by decide +kernel
theorem dX10_tankShade_13 : decode cX10_tankShade 13 = .ok (.ifCond .ne 6, 3) := by decide +kernel
theorem dX10_tankShade_16 : decode cX10_tankShade 16 = .ok (.bipush (-2), 2) := by decide +kernel
theorem dX10_tankShade_18 : decode cX10_tankShade 18 = .ok (.ireturn, 1) := by decide +kernel
theorem dX10_tankShade_19 : decode cX10_tankShade 19 = .ok (.aload_n 0, 1) := by decide +kernel
theorem dX10_tankShade_20 : decode cX10_tankShade 20 = .ok (.getfield 63, 3) := by decide +kernel
theorem dX10_tankShade_23 : decode cX10_tankShade 23 = .ok (.iload_n 1, 1) := by decide +kernel
theorem dX10_tankShade_24 : decode cX10_tankShade 24 = .ok (.iaload, 1) := by decide +kernel
theorem dX10_tankShade_25 : decode cX10_tankShade 25 = .ok (.ifCond .le 21, 3) := by decide +kernel
theorem dX10_tankShade_28 : decode cX10_tankShade 28 = .ok (.aload_n 0, 1) := by decide +kernel
theorem dX10_tankShade_29 : decode cX10_tankShade 29 = .ok (.aload_n 0, 1) := by decide +kernel
theorem dX10_tankShade_30 : decode cX10_tankShade 30 = .ok (.getfield 72, 3) := by decide +kernel
theorem dX10_tankShade_33 : decode cX10_tankShade 33 = .ok (.bipush 8, 2) := by decide +kernel
theorem dX10_tankShade_35 : decode cX10_tankShade 35 = .ok (.iload_n 1, 1) := by decide +kernel
theorem dX10_tankShade_36 : decode cX10_tankShade 36 = .ok (.imul, 1) := by decide +kernel
theorem dX10_tankShade_37 : decode cX10_tankShade 37 = .ok (.aload_n 0, 1) := by decide +kernel
theorem dX10_tankShade_38 : decode cX10_tankShade 38 = .ok (.getfield 124, 3) := by decide +kernel
theorem dX10_tankShade_41 : decode cX10_tankShade 41 = .ok (.iload_n 2, 1) := by decide +kernel
theorem dX10_tankShade_42 : decode cX10_tankShade 42 = .ok (.invokevirtual 180, 3) := by decide +kernel
theorem dX10_tankShade_45 : decode cX10_tankShade 45 = .ok (.ireturn, 1) := by decide +kernel
theorem dX10_tankShade_46 : decode cX10_tankShade 46 = .ok (.aload_n 0, 1) := by decide +kernel
theorem dX10_tankShade_47 : decode cX10_tankShade 47 = .ok (.getfield 66, 3) := by decide +kernel
theorem dX10_tankShade_50 : decode cX10_tankShade 50 = .ok (.iload_n 1, 1) := by decide +kernel
theorem dX10_tankShade_51 : decode cX10_tankShade 51 = .ok (.baload, 1) := by decide +kernel
theorem dX10_tankShade_52 : decode cX10_tankShade 52 = .ok (.ifCond .eq 16, 3) := by decide +kernel
theorem dX10_tankShade_55 : decode cX10_tankShade 55 = .ok (.aload_n 0, 1) := by decide +kernel
theorem dX10_tankShade_56 : decode cX10_tankShade 56 = .ok (.getfield 81, 3) := by decide +kernel
theorem dX10_tankShade_59 : decode cX10_tankShade 59 = .ok (.iconst 3, 1) := by decide +kernel
theorem dX10_tankShade_60 : decode cX10_tankShade 60 = .ok (.iload_n 1, 1) := by decide +kernel
theorem dX10_tankShade_61 : decode cX10_tankShade 61 = .ok (.imul, 1) := by decide +kernel
theorem dX10_tankShade_62 : decode cX10_tankShade 62 = .ok (.iload_n 2, 1) := by decide +kernel
theorem dX10_tankShade_63 : decode cX10_tankShade 63 = .ok (.iadd, 1) := by decide +kernel
theorem dX10_tankShade_64 : decode cX10_tankShade 64 = .ok (.iaload, 1) := by decide +kernel
theorem dX10_tankShade_65 : decode cX10_tankShade 65 = .ok (.goto 5, 3) := by decide +kernel
theorem dX10_tankShade_68 : decode cX10_tankShade 68 = .ok (.bipush (-4), 2) := by decide +kernel
theorem dX10_tankShade_70 : decode cX10_tankShade 70 = .ok (.ireturn, 1) := by decide +kernel
theorem dX10_many_0 : decode cX10_many 0 = .ok (.iconst 0, 1) := by decide +kernel
theorem dX10_many_1 : decode cX10_many 1 = .ok (.istore_n 2, 1) := by decide +kernel
theorem dX10_many_2 : decode cX10_many 2 = .ok (.iconst 0, 1) := by decide +kernel
theorem dX10_many_3 : decode cX10_many 3 = .ok (.istore_n 3, 1) := by decide +kernel
theorem dX10_many_4 : decode cX10_many 4 = .ok (.iload_n 3, 1) := by decide +kernel
theorem dX10_many_5 : decode cX10_many 5 = .ok (.bipush 40, 2) := by decide +kernel
theorem dX10_many_7 : decode cX10_many 7 = .ok (.if_icmp .ge 27, 3) := by decide +kernel
theorem dX10_many_10 : decode cX10_many 10 = .ok (.iload_n 2, 1) := by decide +kernel
theorem dX10_many_11 : decode cX10_many 11 = .ok (.lload_n 0, 1) := by decide +kernel
theorem dX10_many_12 : decode cX10_many 12 = .ok (.iload_n 3, 1) := by decide +kernel
theorem dX10_many_13 : decode cX10_many 13 = .ok (.lshr, 1) := by decide +kernel
theorem dX10_many_14 : decode cX10_many 14 = .ok (.lconst 1, 1) := by decide +kernel
theorem dX10_many_15 : decode cX10_many 15 = .ok (.land, 1) := by decide +kernel
theorem dX10_many_16 : decode cX10_many 16 = .ok (.lconst 1, 1) := by decide +kernel
theorem dX10_many_17 : decode cX10_many 17 = .ok (.lcmp, 1) := by decide +kernel
theorem dX10_many_18 : decode cX10_many 18 = .ok (.ifCond .ne 7, 3) := by decide +kernel
theorem dX10_many_21 : decode cX10_many 21 = .ok (.iconst 1, 1) := by decide +kernel
theorem dX10_many_22 : decode cX10_many 22 = .ok (.goto 4, 3) := by decide +kernel
theorem dX10_many_25 : decode cX10_many 25 = .ok (.iconst 0, 1) := by decide +kernel
theorem dX10_many_26 : decode cX10_many 26 = .ok (.iadd, 1) := by decide +kernel
theorem dX10_many_27 : decode cX10_many 27 = .ok (.istore_n 2, 1) := by decide +kernel
theorem dX10_many_28 : decode cX10_many 28 = .ok (.iinc 3 1, 3) := by decide +kernel
theorem dX10_many_31 : decode cX10_many 31 = .ok (.goto (-27), 3) := by decide +kernel
theorem dX10_many_34 : decode cX10_many 34 = .ok (.iload_n 2, 1) := by decide +kernel
theorem dX10_many_35 : decode cX10_many 35 = .ok (.ireturn, 1) := by decide +kernel
theorem dX10_drum_0 : decode cX10_drum 0 = .ok (.iload_n 1, 1) := by decide +kernel
theorem dX10_drum_1 : decode cX10_drum 1 = .ok (.iconst 0, 1) := by decide +kernel
theorem dX10_drum_2 : decode cX10_drum 2 = .ok (.aload_n 0, 1) := by decide +kernel
theorem dX10_drum_3 : decode cX10_drum 3 = .ok (.getfield 209, 3) := by decide +kernel
theorem dX10_drum_6 : decode cX10_drum 6 = .ok (.iconst 1, 1) := by decide +kernel
theorem dX10_drum_7 : decode cX10_drum 7 = .ok (.isub, 1) := by decide +kernel
theorem dX10_drum_8 : decode cX10_drum 8 = .ok (.invokestatic 133, 3) := by decide +kernel
theorem dX10_drum_11 : decode cX10_drum 11 = .ok (.ifCond .ne 6, 3) := by decide +kernel
theorem dX10_drum_14 : decode cX10_drum 14 = .ok (.bipush (-2), 2) := by decide +kernel
theorem dX10_drum_16 : decode cX10_drum 16 = .ok (.ireturn, 1) := by decide +kernel
theorem dX10_drum_17 : decode cX10_drum 17 = .ok (.iload_n 2, 1) := by decide +kernel
theorem dX10_drum_18 : decode cX10_drum 18 = .ok (.tableswitch 76 0 4 #[34, 41, 48, 55, 66], 34) := by decide +kernel
theorem dX10_drum_52 : decode cX10_drum 52 = .ok (.aload_n 0, 1) := by decide +kernel
theorem dX10_drum_53 : decode cX10_drum 53 = .ok (.getfield 88, 3) := by decide +kernel
theorem dX10_drum_56 : decode cX10_drum 56 = .ok (.iload_n 1, 1) := by decide +kernel
theorem dX10_drum_57 : decode cX10_drum 57 = .ok (.iaload, 1) := by decide +kernel
theorem dX10_drum_58 : decode cX10_drum 58 = .ok (.ireturn, 1) := by decide +kernel
theorem dX10_drum_59 : decode cX10_drum 59 = .ok (.aload_n 0, 1) := by decide +kernel
theorem dX10_drum_60 : decode cX10_drum 60 = .ok (.getfield 91, 3) := by decide +kernel
theorem dX10_drum_63 : decode cX10_drum 63 = .ok (.iload_n 1, 1) := by decide +kernel
theorem dX10_drum_64 : decode cX10_drum 64 = .ok (.iaload, 1) := by decide +kernel
theorem dX10_drum_65 : decode cX10_drum 65 = .ok (.ireturn, 1) := by decide +kernel
theorem dX10_drum_66 : decode cX10_drum 66 = .ok (.aload_n 0, 1) := by decide +kernel
theorem dX10_drum_67 : decode cX10_drum 67 = .ok (.getfield 94, 3) := by decide +kernel
theorem dX10_drum_70 : decode cX10_drum 70 = .ok (.iload_n 1, 1) := by decide +kernel
theorem dX10_drum_71 : decode cX10_drum 71 = .ok (.iaload, 1) := by decide +kernel
theorem dX10_drum_72 : decode cX10_drum 72 = .ok (.ireturn, 1) := by decide +kernel
theorem dX10_drum_73 : decode cX10_drum 73 = .ok (.aload_n 0, 1) := by decide +kernel
theorem dX10_drum_74 : decode cX10_drum 74 = .ok (.getfield 100, 3) := by decide +kernel
theorem dX10_drum_77 : decode cX10_drum 77 = .ok (.iload_n 1, 1) := by decide +kernel
theorem dX10_drum_78 : decode cX10_drum 78 = .ok (.iaload, 1) := by decide +kernel
theorem dX10_drum_79 : decode cX10_drum 79 = .ok (.i2l, 1) := by decide +kernel
theorem dX10_drum_80 : decode cX10_drum 80 = .ok (.invokestatic 212, 3) := by decide +kernel
theorem dX10_drum_83 : decode cX10_drum 83 = .ok (.ireturn, 1) := by decide +kernel
theorem dX10_drum_84 : decode cX10_drum 84 = .ok (.aload_n 0, 1) := by decide +kernel
theorem dX10_drum_85 : decode cX10_drum 85 = .ok (.getfield 97, 3) := by decide +kernel
theorem dX10_drum_88 : decode cX10_drum 88 = .ok (.iload_n 1, 1) := by decide +kernel
theorem dX10_drum_89 : decode cX10_drum 89 = .ok (.laload, 1) := by decide +kernel
theorem dX10_drum_90 : decode cX10_drum 90 = .ok (.invokestatic 212, 3) := by decide +kernel
theorem dX10_drum_93 : decode cX10_drum 93 = .ok (.ireturn, 1) := by decide +kernel
theorem dX10_drum_94 : decode cX10_drum 94 = .ok (.bipush (-3), 2) := by decide +kernel
theorem dX10_drum_96 : decode cX10_drum 96 = .ok (.ireturn, 1) := by decide +kernel
theorem dX10_inDrum_0 : decode cX10_inDrum 0 = .ok (.iload_n 1, 1) := by decide +kernel
theorem dX10_inDrum_1 : decode cX10_inDrum 1 = .ok (.iconst 0, 1) := by decide +kernel
theorem dX10_inDrum_2 : decode cX10_inDrum 2 = .ok (.aload_n 0, 1) := by decide +kernel
theorem dX10_inDrum_3 : decode cX10_inDrum 3 = .ok (.getfield 209, 3) := by decide +kernel
theorem dX10_inDrum_6 : decode cX10_inDrum 6 = .ok (.iconst 1, 1) := by decide +kernel
theorem dX10_inDrum_7 : decode cX10_inDrum 7 = .ok (.isub, 1) := by decide +kernel
theorem dX10_inDrum_8 : decode cX10_inDrum 8 = .ok (.invokestatic 133, 3) := by decide +kernel
theorem dX10_inDrum_11 : decode cX10_inDrum 11 = .ok (.ifCond .eq 32, 3) := by decide +kernel
theorem dX10_inDrum_14 : decode cX10_inDrum 14 = .ok (.iload_n 2, 1) := by decide +kernel
theorem dX10_inDrum_15 : decode cX10_inDrum 15 = .ok (.ifCond .eq 20, 3) := by decide +kernel
theorem dX10_inDrum_18 : decode cX10_inDrum 18 = .ok (.iload_n 3, 1) := by decide +kernel
theorem dX10_inDrum_19 : decode cX10_inDrum 19 = .ok (.iconst 0, 1) := by decide +kernel
theorem dX10_inDrum_20 : decode cX10_inDrum 20 = .ok (.aload_n 0, 1) := by decide +kernel
theorem dX10_inDrum_21 : decode cX10_inDrum 21 = .ok (.getfield 144, 3) := by decide +kernel
theorem dX10_inDrum_24 : decode cX10_inDrum 24 = .ok (.iconst 1, 1) := by decide +kernel
theorem dX10_inDrum_25 : decode cX10_inDrum 25 = .ok (.isub, 1) := by decide +kernel
theorem dX10_inDrum_26 : decode cX10_inDrum 26 = .ok (.invokestatic 133, 3) := by decide +kernel
theorem dX10_inDrum_29 : decode cX10_inDrum 29 = .ok (.ifCond .ne 17, 3) := by decide +kernel
theorem dX10_inDrum_32 : decode cX10_inDrum 32 = .ok (.goto 11, 3) := by decide +kernel
theorem dX10_inDrum_35 : decode cX10_inDrum 35 = .ok (.aload_n 0, 1) := by decide +kernel
theorem dX10_inDrum_36 : decode cX10_inDrum 36 = .ok (.iload_n 3, 1) := by decide +kernel
theorem dX10_inDrum_37 : decode cX10_inDrum 37 = .ok (.invokevirtual 165, 3) := by decide +kernel
theorem dX10_inDrum_40 : decode cX10_inDrum 40 = .ok (.ifCond .ne 6, 3) := by decide +kernel
theorem dX10_inDrum_43 : decode cX10_inDrum 43 = .ok (.bipush (-2), 2) := by decide +kernel
theorem dX10_inDrum_45 : decode cX10_inDrum 45 = .ok (.ireturn, 1) := by decide +kernel
theorem dX10_inDrum_46 : decode cX10_inDrum 46 = .ok (.iload_n 2, 1) := by decide +kernel
theorem dX10_inDrum_47 : decode cX10_inDrum 47 = .ok (.ifCond .eq 17, 3) := by decide +kernel
theorem dX10_inDrum_50 : decode cX10_inDrum 50 = .ok (.aload_n 0, 1) := by decide +kernel
theorem dX10_inDrum_51 : decode cX10_inDrum 51 = .ok (.getfield 97, 3) := by decide +kernel
theorem dX10_inDrum_54 : decode cX10_inDrum 54 = .ok (.iload_n 1, 1) := by decide +kernel
theorem dX10_inDrum_55 : decode cX10_inDrum 55 = .ok (.laload, 1) := by decide +kernel
theorem dX10_inDrum_56 : decode cX10_inDrum 56 = .ok (.iload_n 3, 1) := by decide +kernel
theorem dX10_inDrum_57 : decode cX10_inDrum 57 = .ok (.lshr, 1) := by decide +kernel
theorem dX10_inDrum_58 : decode cX10_inDrum 58 = .ok (.lconst 1, 1) := by decide +kernel
theorem dX10_inDrum_59 : decode cX10_inDrum 59 = .ok (.land, 1) := by decide +kernel
theorem dX10_inDrum_60 : decode cX10_inDrum 60 = .ok (.l2i, 1) := by decide +kernel
theorem dX10_inDrum_61 : decode cX10_inDrum 61 = .ok (.goto 13, 3) := by decide +kernel
theorem dX10_inDrum_64 : decode cX10_inDrum 64 = .ok (.aload_n 0, 1) := by decide +kernel
theorem dX10_inDrum_65 : decode cX10_inDrum 65 = .ok (.getfield 100, 3) := by decide +kernel
theorem dX10_inDrum_68 : decode cX10_inDrum 68 = .ok (.iload_n 1, 1) := by decide +kernel
theorem dX10_inDrum_69 : decode cX10_inDrum 69 = .ok (.iaload, 1) := by decide +kernel
theorem dX10_inDrum_70 : decode cX10_inDrum 70 = .ok (.iload_n 3, 1) := by decide +kernel
theorem dX10_inDrum_71 : decode cX10_inDrum 71 = .ok (.ishr, 1) := by decide +kernel
theorem dX10_inDrum_72 : decode cX10_inDrum 72 = .ok (.iconst 1, 1) := by decide +kernel
theorem dX10_inDrum_73 : decode cX10_inDrum 73 = .ok (.iand, 1) := by decide +kernel
theorem dX10_inDrum_74 : decode cX10_inDrum 74 = .ok (.ireturn, 1) := by decide +kernel
theorem dX10_recall_0 : decode cX10_recall 0 = .ok (.iload_n 1, 1) := by decide +kernel
theorem dX10_recall_1 : decode cX10_recall 1 = .ok (.iconst 0, 1) := by decide +kernel
theorem dX10_recall_2 : decode cX10_recall 2 = .ok (.aload_n 0, 1) := by decide +kernel
theorem dX10_recall_3 : decode cX10_recall 3 = .ok (.getfield 144, 3) := by decide +kernel
theorem dX10_recall_6 : decode cX10_recall 6 = .ok (.iconst 1, 1) := by decide +kernel
theorem dX10_recall_7 : decode cX10_recall 7 = .ok (.isub, 1) := by decide +kernel
theorem dX10_recall_8 : decode cX10_recall 8 = .ok (.invokestatic 133, 3) := by decide +kernel
theorem dX10_recall_11 : decode cX10_recall 11 = .ok (.ifCond .ne 6, 3) := by decide +kernel
theorem dX10_recall_14 : decode cX10_recall 14 = .ok (.bipush (-2), 2) := by decide +kernel
theorem dX10_recall_16 : decode cX10_recall 16 = .ok (.ireturn, 1) := by decide +kernel
theorem dX10_recall_17 : decode cX10_recall 17 = .ok (.iload_n 2, 1) := by decide +kernel
theorem dX10_recall_18 : decode cX10_recall 18 = .ok (.iconst 0, 1) := by decide +kernel
theorem dX10_recall_19 : decode cX10_recall 19 = .ok (.iconst 2, 1) := by decide +kernel
theorem dX10_recall_20 : decode cX10_recall 20 = .ok (.invokestatic 133, 3) := by decide +kernel
theorem dX10_recall_23 : decode cX10_recall 23 = .ok (.ifCond .ne 6, 3) := by decide +kernel
theorem dX10_recall_26 : decode cX10_recall 26 = .ok (.bipush (-3), 2) := by decide +kernel
theorem dX10_recall_28 : decode cX10_recall 28 = .ok (.ireturn, 1) := by decide +kernel
theorem dX10_recall_29 : decode cX10_recall 29 = .ok (.iconst 0, 1) := by decide +kernel
theorem dX10_recall_30 : decode cX10_recall 30 = .ok (.istore_n 3, 1) := by decide +kernel
theorem dX10_recall_31 : decode cX10_recall 31 = .ok (.iconst 0, 1) := by decide +kernel
theorem dX10_recall_32 : decode cX10_recall 32 = .ok (.istore 4, 2) := by decide +kernel
theorem dX10_recall_34 : decode cX10_recall 34 = .ok (.iload 4, 2) := by decide +kernel
theorem dX10_recall_36 : decode cX10_recall 36 = .ok (.aload_n 0, 1) := by decide +kernel
theorem dX10_recall_37 : decode cX10_recall 37 = .ok (.getfield 209, 3) := by decide +kernel
theorem dX10_recall_40 : decode cX10_recall 40 = .ok (.if_icmp .ge 28, 3) := by decide +kernel
theorem dX10_recall_43 : decode cX10_recall 43 = .ok (.iload_n 2, 1) := by decide +kernel
theorem dX10_recall_44 : decode cX10_recall 44 = .ok (.ifCond .ne 24, 3) := by decide +kernel
theorem dX10_recall_47 : decode cX10_recall 47 = .ok (.iload_n 3, 1) := by decide +kernel
theorem dX10_recall_48 : decode cX10_recall 48 = .ok (.aload_n 0, 1) := by decide +kernel
theorem dX10_recall_49 : decode cX10_recall 49 = .ok (.getfield 97, 3) := by decide +kernel
theorem dX10_recall_52 : decode cX10_recall 52 = .ok (.iload 4, 2) := by decide +kernel
theorem dX10_recall_54 : decode cX10_recall 54 = .ok (.laload, 1) := by decide +kernel
theorem dX10_recall_55 : decode cX10_recall 55 = .ok (.iload_n 1, 1) := by decide +kernel
theorem dX10_recall_56 : decode cX10_recall 56 = .ok (.lshr, 1) := by decide +kernel
theorem dX10_recall_57 : decode cX10_recall 57 = .ok (.lconst 1, 1) := by decide +kernel
theorem dX10_recall_58 : decode cX10_recall 58 = .ok (.land, 1) := by decide +kernel
theorem dX10_recall_59 : decode cX10_recall 59 = .ok (.l2i, 1) := by decide +kernel
theorem dX10_recall_60 : decode cX10_recall 60 = .ok (.iadd, 1) := by decide +kernel
theorem dX10_recall_61 : decode cX10_recall 61 = .ok (.istore_n 3, 1) := by decide +kernel
theorem dX10_recall_62 : decode cX10_recall 62 = .ok (.iinc 4 1, 3) := by decide +kernel
theorem dX10_recall_65 : decode cX10_recall 65 = .ok (.goto (-31), 3) := by decide +kernel
theorem dX10_recall_68 : decode cX10_recall 68 = .ok (.iconst 0, 1) := by decide +kernel
theorem dX10_recall_69 : decode cX10_recall 69 = .ok (.istore 4, 2) := by decide +kernel
theorem dX10_recall_71 : decode cX10_recall 71 = .ok (.iload 4, 2) := by decide +kernel
theorem dX10_recall_73 : decode cX10_recall 73 = .ok (.aload_n 0, 1) := by decide +kernel
theorem dX10_recall_74 : decode cX10_recall 74 = .ok (.getfield 137, 3) := by decide +kernel
theorem dX10_recall_77 : decode cX10_recall 77 = .ok (.if_icmp .ge 43, 3) := by decide +kernel
theorem dX10_recall_80 : decode cX10_recall 80 = .ok (.iload_n 2, 1) := by decide +kernel
theorem dX10_recall_81 : decode cX10_recall 81 = .ok (.iconst 1, 1) := by decide +kernel
theorem dX10_recall_82 : decode cX10_recall 82 = .ok (.if_icmp .ne 38, 3) := by decide +kernel
theorem dX10_recall_85 : decode cX10_recall 85 = .ok (.iload_n 3, 1) := by decide +kernel
theorem dX10_recall_86 : decode cX10_recall 86 = .ok (.aload_n 0, 1) := by decide +kernel
theorem dX10_recall_87 : decode cX10_recall 87 = .ok (.getfield 51, 3) := by decide +kernel
theorem dX10_recall_90 : decode cX10_recall 90 = .ok (.iload 4, 2) := by decide +kernel
theorem dX10_recall_92 : decode cX10_recall 92 = .ok (.baload, 1) := by decide +kernel
theorem dX10_recall_93 : decode cX10_recall 93 = .ok (.ifCond .eq 7, 3) := by decide +kernel
theorem dX10_recall_96 : decode cX10_recall 96 = .ok (.iconst 0, 1) := by decide +kernel
theorem dX10_recall_97 : decode cX10_recall 97 = .ok (.goto 15, 3) := by decide +kernel
theorem dX10_recall_100 : decode cX10_recall 100 = .ok (.aload_n 0, 1) := by decide +kernel
theorem dX10_recall_101 : decode cX10_recall 101 = .ok (.getfield 47, 3) := by decide +kernel
theorem dX10_recall_104 : decode cX10_recall 104 = .ok (.iload 4, 2) := by decide +kernel
theorem dX10_recall_106 : decode cX10_recall 106 = .ok (.laload, 1) := by decide +kernel
theorem dX10_recall_107 : decode cX10_recall 107 = .ok (.iload_n 1, 1) := by decide +kernel
theorem dX10_recall_108 : decode cX10_recall 108 = .ok (.lshr, 1) := by decide +kernel
theorem dX10_recall_109 : decode cX10_recall 109 = .ok (.lconst 1, 1) := by decide +kernel
theorem dX10_recall_110 : decode cX10_recall 110 = .ok (.land, 1) := by decide +kernel
theorem dX10_recall_111 : decode cX10_recall 111 = .ok (.l2i, 1) := by decide +kernel
theorem dX10_recall_112 : decode cX10_recall 112 = .ok (.iadd, 1) := by decide +kernel
theorem dX10_recall_113 : decode cX10_recall 113 = .ok (.istore_n 3, 1) := by decide +kernel
theorem dX10_recall_114 : decode cX10_recall 114 = .ok (.iinc 4 1, 3) := by decide +kernel
theorem dX10_recall_117 : decode cX10_recall 117 = .ok (.goto (-46), 3) := by decide +kernel
theorem dX10_recall_120 : decode cX10_recall 120 = .ok (.iconst 0, 1) := by decide +kernel
theorem dX10_recall_121 : decode cX10_recall 121 = .ok (.istore 4, 2) := by decide +kernel
theorem dX10_recall_123 : decode cX10_recall 123 = .ok (.iload 4, 2) := by decide +kernel
theorem dX10_recall_125 : decode cX10_recall 125 = .ok (.iconst 5, 1) := by decide +kernel
theorem dX10_recall_126 : decode cX10_recall 126 = .ok (.if_icmp .ge 43, 3) := by decide +kernel
theorem dX10_recall_129 : decode cX10_recall 129 = .ok (.iload_n 2, 1) := by decide +kernel
theorem dX10_recall_130 : decode cX10_recall 130 = .ok (.iconst 2, 1) := by decide +kernel
theorem dX10_recall_131 : decode cX10_recall 131 = .ok (.if_icmp .ne 38, 3) := by decide +kernel
theorem dX10_recall_134 : decode cX10_recall 134 = .ok (.iload_n 3, 1) := by decide +kernel
theorem dX10_recall_135 : decode cX10_recall 135 = .ok (.aload_n 0, 1) := by decide +kernel
theorem dX10_recall_136 : decode cX10_recall 136 = .ok (.getfield 63, 3) := by decide +kernel
theorem dX10_recall_139 : decode cX10_recall 139 = .ok (.iload 4, 2) := by decide +kernel
theorem dX10_recall_141 : decode cX10_recall 141 = .ok (.iaload, 1) := by decide +kernel
theorem dX10_recall_142 : decode cX10_recall 142 = .ok (.ifCond .ne 7, 3) := by decide +kernel
theorem dX10_recall_145 : decode cX10_recall 145 = .ok (.iconst 0, 1) := by decide +kernel
theorem dX10_recall_146 : decode cX10_recall 146 = .ok (.goto 15, 3) := by decide +kernel
theorem dX10_recall_149 : decode cX10_recall 149 = .ok (.aload_n 0, 1) := by decide +kernel
theorem dX10_recall_150 : decode cX10_recall 150 = .ok (.getfield 75, 3) := by decide +kernel
theorem dX10_recall_153 : decode cX10_recall 153 = .ok (.iload 4, 2) := by decide +kernel
theorem dX10_recall_155 : decode cX10_recall 155 = .ok (.laload, 1) := by decide +kernel
theorem dX10_recall_156 : decode cX10_recall 156 = .ok (.iload_n 1, 1) := by decide +kernel
theorem dX10_recall_157 : decode cX10_recall 157 = .ok (.lshr, 1) := by decide +kernel
theorem dX10_recall_158 : decode cX10_recall 158 = .ok (.lconst 1, 1) := by decide +kernel
theorem dX10_recall_159 : decode cX10_recall 159 = .ok (.land, 1) := by decide +kernel
theorem dX10_recall_160 : decode cX10_recall 160 = .ok (.l2i, 1) := by decide +kernel
theorem dX10_recall_161 : decode cX10_recall 161 = .ok (.iadd, 1) := by decide +kernel
theorem dX10_recall_162 : decode cX10_recall 162 = .ok (.istore_n 3, 1) := by decide +kernel
theorem dX10_recall_163 : decode cX10_recall 163 = .ok (.iinc 4 1, 3) := by decide +kernel
theorem dX10_recall_166 : decode cX10_recall 166 = .ok (.goto (-43), 3) := by decide +kernel
theorem dX10_recall_169 : decode cX10_recall 169 = .ok (.iload_n 3, 1) := by decide +kernel
theorem dX10_recall_170 : decode cX10_recall 170 = .ok (.ireturn, 1) := by decide +kernel
theorem dX10_isHue_0 : decode cX10_isHue 0 = .ok (.iload_n 0, 1) := by decide +kernel
theorem dX10_isHue_1 : decode cX10_isHue 1 = .ok (.iconst 0, 1) := by decide +kernel
theorem dX10_isHue_2 : decode cX10_isHue 2 = .ok (.iconst 5, 1) := by decide +kernel
theorem dX10_isHue_3 : decode cX10_isHue 3 = .ok (.invokestatic 133, 3) := by decide +kernel
theorem dX10_isHue_6 : decode cX10_isHue 6 = .ok (.ireturn, 1) := by decide +kernel
theorem dX10_job_0 : decode cX10_job 0 = .ok (.iload_n 1, 1) := by decide +kernel
theorem dX10_job_1 : decode cX10_job 1 = .ok (.invokestatic 216, 3) := by decide +kernel
theorem dX10_job_4 : decode cX10_job 4 = .ok (.ifCond .ne 6, 3) := by decide +kernel
theorem dX10_job_7 : decode cX10_job 7 = .ok (.bipush (-2), 2) := by decide +kernel
theorem dX10_job_9 : decode cX10_job 9 = .ok (.ireturn, 1) := by decide +kernel
theorem dX10_job_10 : decode cX10_job 10 = .ok (.iload_n 2, 1) := by decide +kernel
theorem dX10_job_11 : decode cX10_job 11 = .ok (.iconst 1, 1) := by decide +kernel
theorem dX10_job_12 : decode cX10_job 12 = .ok (.bipush 100, 2) := by decide +kernel
theorem dX10_job_14 : decode cX10_job 14 = .ok (.invokestatic 133, 3) := by decide +kernel
theorem dX10_job_17 : decode cX10_job 17 = .ok (.ifCond .eq 25, 3) := by decide +kernel
theorem dX10_job_20 : decode cX10_job 20 = .ok (.iload_n 3, 1) := by decide +kernel
theorem dX10_job_21 : decode cX10_job 21 = .ok (.iconst 0, 1) := by decide +kernel
theorem dX10_job_22 : decode cX10_job 22 = .ok (.sipush 1000, 3) := by decide +kernel
theorem dX10_job_25 : decode cX10_job 25 = .ok (.invokestatic 133, 3) := by decide +kernel
theorem dX10_job_28 : decode cX10_job 28 = .ok (.ifCond .eq 14, 3) := by decide +kernel
theorem dX10_job_31 : decode cX10_job 31 = .ok (.iload 4, 2) := by decide +kernel
theorem dX10_job_33 : decode cX10_job 33 = .ok (.iconst 0, 1) := by decide +kernel
theorem dX10_job_34 : decode cX10_job 34 = .ok (.bipush 100, 2) := by decide +kernel
theorem dX10_job_36 : decode cX10_job 36 = .ok (.invokestatic 133, 3) := by decide +kernel
theorem dX10_job_39 : decode cX10_job 39 = .ok (.ifCond .ne 6, 3) := by decide +kernel
theorem dX10_job_42 : decode cX10_job 42 = .ok (.bipush (-3), 2) := by decide +kernel
theorem dX10_job_44 : decode cX10_job 44 = .ok (.ireturn, 1) := by decide +kernel
theorem dX10_job_45 : decode cX10_job 45 = .ok (.aload_n 0, 1) := by decide +kernel
theorem dX10_job_46 : decode cX10_job 46 = .ok (.getfield 219, 3) := by decide +kernel
theorem dX10_job_49 : decode cX10_job 49 = .ok (.bipush 8, 2) := by decide +kernel
theorem dX10_job_51 : decode cX10_job 51 = .ok (.if_icmp .ne 6, 3) := by decide +kernel
theorem dX10_job_54 : decode cX10_job 54 = .ok (.bipush (-6), 2) := by decide +kernel
theorem dX10_job_56 : decode cX10_job 56 = .ok (.ireturn, 1) := by decide +kernel
theorem dX10_job_57 : decode cX10_job 57 = .ok (.aload_n 0, 1) := by decide +kernel
theorem dX10_job_58 : decode cX10_job 58 = .ok (.getfield 103, 3) := by decide +kernel
theorem dX10_job_61 : decode cX10_job 61 = .ok (.aload_n 0, 1) := by decide +kernel
theorem dX10_job_62 : decode cX10_job 62 = .ok (.getfield 219, 3) := by decide +kernel
theorem dX10_job_65 : decode cX10_job 65 = .ok (.iload_n 1, 1) := by decide +kernel
theorem dX10_job_66 : decode cX10_job 66 = .ok (.iastore, 1) := by decide +kernel
theorem dX10_job_67 : decode cX10_job 67 = .ok (.aload_n 0, 1) := by decide +kernel
theorem dX10_job_68 : decode cX10_job 68 = .ok (.getfield 106, 3) := by decide +kernel
theorem dX10_job_71 : decode cX10_job 71 = .ok (.aload_n 0, 1) := by decide +kernel
theorem dX10_job_72 : decode cX10_job 72 = .ok (.getfield 219, 3) := by decide +kernel
theorem dX10_job_75 : decode cX10_job 75 = .ok (.iload_n 2, 1) := by decide +kernel
theorem dX10_job_76 : decode cX10_job 76 = .ok (.iastore, 1) := by decide +kernel
theorem dX10_job_77 : decode cX10_job 77 = .ok (.aload_n 0, 1) := by decide +kernel
theorem dX10_job_78 : decode cX10_job 78 = .ok (.getfield 109, 3) := by decide +kernel
theorem dX10_job_81 : decode cX10_job 81 = .ok (.aload_n 0, 1) := by decide +kernel
theorem dX10_job_82 : decode cX10_job 82 = .ok (.getfield 219, 3) := by decide +kernel
theorem dX10_job_85 : decode cX10_job 85 = .ok (.iload_n 3, 1) := by decide +kernel
theorem dX10_job_86 : decode cX10_job 86 = .ok (.iastore, 1) := by decide +kernel
theorem dX10_job_87 : decode cX10_job 87 = .ok (.aload_n 0, 1) := by decide +kernel
theorem dX10_job_88 : decode cX10_job 88 = .ok (.getfield 112, 3) := by decide +kernel
theorem dX10_job_91 : decode cX10_job 91 = .ok (.aload_n 0, 1) := by decide +kernel
theorem dX10_job_92 : decode cX10_job 92 = .ok (.getfield 219, 3) := by decide +kernel
theorem dX10_job_95 : decode cX10_job 95 = .ok (.iload 4, 2) := by decide +kernel
theorem dX10_job_97 : decode cX10_job 97 = .ok (.iastore, 1) := by decide +kernel
theorem dX10_job_98 : decode cX10_job 98 = .ok (.aload_n 0, 1) := by decide +kernel
theorem dX10_job_99 : decode cX10_job 99 = .ok (.dup, 1) := by decide +kernel
theorem dX10_job_100 : decode cX10_job 100 = .ok (.getfield 219, 3) := by decide +kernel
theorem dX10_job_103 : decode cX10_job 103 = .ok (.iconst 1, 1) := by decide +kernel
theorem dX10_job_104 : decode cX10_job 104 = .ok (.iadd, 1) := by decide +kernel
theorem dX10_job_105 : decode cX10_job 105 = .ok (.putfield 219, 3) := by decide +kernel
theorem dX10_job_108 : decode cX10_job 108 = .ok (.aload_n 0, 1) := by decide +kernel
theorem dX10_job_109 : decode cX10_job 109 = .ok (.getfield 219, 3) := by decide +kernel
theorem dX10_job_112 : decode cX10_job 112 = .ok (.iconst 1, 1) := by decide +kernel
theorem dX10_job_113 : decode cX10_job 113 = .ok (.isub, 1) := by decide +kernel
theorem dX10_job_114 : decode cX10_job 114 = .ok (.ireturn, 1) := by decide +kernel
theorem dX10_cleaning_0 : decode cX10_cleaning 0 = .ok (.iload_n 1, 1) := by decide +kernel
theorem dX10_cleaning_1 : decode cX10_cleaning 1 = .ok (.invokestatic 216, 3) := by decide +kernel
theorem dX10_cleaning_4 : decode cX10_cleaning 4 = .ok (.ifCond .eq 10, 3) := by decide +kernel
theorem dX10_cleaning_7 : decode cX10_cleaning 7 = .ok (.iload_n 2, 1) := by decide +kernel
theorem dX10_cleaning_8 : decode cX10_cleaning 8 = .ok (.invokestatic 216, 3) := by decide +kernel
theorem dX10_cleaning_11 : decode cX10_cleaning 11 = .ok (.ifCond .ne 6, 3) := by decide +kernel
theorem dX10_cleaning_14 : decode cX10_cleaning 14 = .ok (.bipush (-2), 2) := by decide +kernel
theorem dX10_cleaning_16 : decode cX10_cleaning 16 = .ok (.ireturn, 1) := by decide +kernel
theorem dX10_cleaning_17 : decode cX10_cleaning 17 = .ok (.iload_n 3, 1) := by decide +kernel
theorem dX10_cleaning_18 : decode cX10_cleaning 18 = .ok (.iconst 0, 1) := by decide +kernel
theorem dX10_cleaning_19 : decode cX10_cleaning 19 = .ok (.sipush 1000, 3) := by decide +kernel
theorem dX10_cleaning_22 : decode cX10_cleaning 22 = .ok (.invokestatic 133, 3) := by decide +kernel
theorem dX10_cleaning_25 : decode cX10_cleaning 25 = .ok (.ifCond .ne 6, 3) := by decide +kernel
theorem dX10_cleaning_28 : decode cX10_cleaning 28 = .ok (.bipush (-3), 2) := by decide +kernel
theorem dX10_cleaning_30 : decode cX10_cleaning 30 = .ok (.ireturn, 1) := by decide +kernel
theorem dX10_cleaning_31 : decode cX10_cleaning 31 = .ok (.aload_n 0, 1) := by decide +kernel
theorem dX10_cleaning_32 : decode cX10_cleaning 32 = .ok (.getfield 115, 3) := by decide +kernel
theorem dX10_cleaning_35 : decode cX10_cleaning 35 = .ok (.bipush 6, 2) := by decide +kernel
theorem dX10_cleaning_37 : decode cX10_cleaning 37 = .ok (.iload_n 1, 1) := by decide +kernel
theorem dX10_cleaning_38 : decode cX10_cleaning 38 = .ok (.imul, 1) := by decide +kernel
theorem dX10_cleaning_39 : decode cX10_cleaning 39 = .ok (.iload_n 2, 1) := by decide +kernel
theorem dX10_cleaning_40 : decode cX10_cleaning 40 = .ok (.iadd, 1) := by decide +kernel
theorem dX10_cleaning_41 : decode cX10_cleaning 41 = .ok (.iaload, 1) := by decide +kernel
theorem dX10_cleaning_42 : decode cX10_cleaning 42 = .ok (.istore 4, 2) := by decide +kernel
theorem dX10_cleaning_44 : decode cX10_cleaning 44 = .ok (.aload_n 0, 1) := by decide +kernel
theorem dX10_cleaning_45 : decode cX10_cleaning 45 = .ok (.getfield 115, 3) := by decide +kernel
theorem dX10_cleaning_48 : decode cX10_cleaning 48 = .ok (.bipush 6, 2) := by decide +kernel
theorem dX10_cleaning_50 : decode cX10_cleaning 50 = .ok (.iload_n 1, 1) := by decide +kernel
theorem dX10_cleaning_51 : decode cX10_cleaning 51 = .ok (.imul, 1) := by decide +kernel
theorem dX10_cleaning_52 : decode cX10_cleaning 52 = .ok (.iload_n 2, 1) := by decide +kernel
theorem dX10_cleaning_53 : decode cX10_cleaning 53 = .ok (.iadd, 1) := by decide +kernel
theorem dX10_cleaning_54 : decode cX10_cleaning 54 = .ok (.iload_n 3, 1) := by decide +kernel
theorem dX10_cleaning_55 : decode cX10_cleaning 55 = .ok (.iastore, 1) := by decide +kernel
theorem dX10_cleaning_56 : decode cX10_cleaning 56 = .ok (.iload 4, 2) := by decide +kernel
theorem dX10_cleaning_58 : decode cX10_cleaning 58 = .ok (.ireturn, 1) := by decide +kernel
theorem dX10_through_0 : decode cX10_through 0 = .ok (.aload_n 0, 1) := by decide +kernel
theorem dX10_through_1 : decode cX10_through 1 = .ok (.getfield 106, 3) := by decide +kernel
theorem dX10_through_4 : decode cX10_through 4 = .ok (.iload_n 3, 1) := by decide +kernel
theorem dX10_through_5 : decode cX10_through 5 = .ok (.iaload, 1) := by decide +kernel
theorem dX10_through_6 : decode cX10_through 6 = .ok (.istore 4, 2) := by decide +kernel
theorem dX10_through_8 : decode cX10_through 8 = .ok (.iconst 0, 1) := by decide +kernel
theorem dX10_through_9 : decode cX10_through 9 = .ok (.istore 5, 2) := by decide +kernel
theorem dX10_through_11 : decode cX10_through 11 = .ok (.iload 5, 2) := by decide +kernel
theorem dX10_through_13 : decode cX10_through 13 = .ok (.aload_n 0, 1) := by decide +kernel
theorem dX10_through_14 : decode cX10_through 14 = .ok (.getfield 219, 3) := by decide +kernel
theorem dX10_through_17 : decode cX10_through 17 = .ok (.if_icmp .ge 35, 3) := by decide +kernel
theorem dX10_through_20 : decode cX10_through 20 = .ok (.iload 4, 2) := by decide +kernel
theorem dX10_through_22 : decode cX10_through 22 = .ok (.iload_n 1, 1) := by decide +kernel
theorem dX10_through_23 : decode cX10_through 23 = .ok (.iload 5, 2) := by decide +kernel
theorem dX10_through_25 : decode cX10_through 25 = .ok (.ishr, 1) := by decide +kernel
theorem dX10_through_26 : decode cX10_through 26 = .ok (.iconst 1, 1) := by decide +kernel
theorem dX10_through_27 : decode cX10_through 27 = .ok (.iand, 1) := by decide +kernel
theorem dX10_through_28 : decode cX10_through 28 = .ok (.iconst 1, 1) := by decide +kernel
theorem dX10_through_29 : decode cX10_through 29 = .ok (.if_icmp .ne 13, 3) := by decide +kernel
theorem dX10_through_32 : decode cX10_through 32 = .ok (.aload_n 0, 1) := by decide +kernel
theorem dX10_through_33 : decode cX10_through 33 = .ok (.getfield 106, 3) := by decide +kernel
theorem dX10_through_36 : decode cX10_through 36 = .ok (.iload 5, 2) := by decide +kernel
theorem dX10_through_38 : decode cX10_through 38 = .ok (.iaload, 1) := by decide +kernel
theorem dX10_through_39 : decode cX10_through 39 = .ok (.goto 4, 3) := by decide +kernel
theorem dX10_through_42 : decode cX10_through 42 = .ok (.iconst 0, 1) := by decide +kernel
theorem dX10_through_43 : decode cX10_through 43 = .ok (.iadd, 1) := by decide +kernel
theorem dX10_through_44 : decode cX10_through 44 = .ok (.istore 4, 2) := by decide +kernel
theorem dX10_through_46 : decode cX10_through 46 = .ok (.iinc 5 1, 3) := by decide +kernel
theorem dX10_through_49 : decode cX10_through 49 = .ok (.goto (-38), 3) := by decide +kernel
theorem dX10_through_52 : decode cX10_through 52 = .ok (.iload 4, 2) := by decide +kernel
theorem dX10_through_54 : decode cX10_through 54 = .ok (.aload_n 0, 1) := by decide +kernel
theorem dX10_through_55 : decode cX10_through 55 = .ok (.getfield 109, 3) := by decide +kernel
theorem dX10_through_58 : decode cX10_through 58 = .ok (.iload_n 3, 1) := by decide +kernel
theorem dX10_through_59 : decode cX10_through 59 = .ok (.iaload, 1) := by decide +kernel
theorem dX10_through_60 : decode cX10_through 60 = .ok (.if_icmp .le 15, 3) := by decide +kernel
theorem dX10_through_63 : decode cX10_through 63 = .ok (.iload 4, 2) := by decide +kernel
theorem dX10_through_65 : decode cX10_through 65 = .ok (.aload_n 0, 1) := by decide +kernel
theorem dX10_through_66 : decode cX10_through 66 = .ok (.getfield 109, 3) := by decide +kernel
theorem dX10_through_69 : decode cX10_through 69 = .ok (.iload_n 3, 1) := by decide +kernel
theorem dX10_through_70 : decode cX10_through 70 = .ok (.iaload, 1) := by decide +kernel
theorem dX10_through_71 : decode cX10_through 71 = .ok (.isub, 1) := by decide +kernel
theorem dX10_through_72 : decode cX10_through 72 = .ok (.goto 4, 3) := by decide +kernel
theorem dX10_through_75 : decode cX10_through 75 = .ok (.iconst 0, 1) := by decide +kernel
theorem dX10_through_76 : decode cX10_through 76 = .ok (.istore 5, 2) := by decide +kernel
theorem dX10_through_78 : decode cX10_through 78 = .ok (.aload_n 0, 1) := by decide +kernel
theorem dX10_through_79 : decode cX10_through 79 = .ok (.getfield 115, 3) := by decide +kernel
theorem dX10_through_82 : decode cX10_through 82 = .ok (.bipush 6, 2) := by decide +kernel
theorem dX10_through_84 : decode cX10_through 84 = .ok (.iload_n 2, 1) := by decide +kernel
theorem dX10_through_85 : decode cX10_through 85 = .ok (.imul, 1) := by decide +kernel
theorem dX10_through_86 : decode cX10_through 86 = .ok (.aload_n 0, 1) := by decide +kernel
theorem dX10_through_87 : decode cX10_through 87 = .ok (.getfield 103, 3) := by decide +kernel
theorem dX10_through_90 : decode cX10_through 90 = .ok (.iload_n 3, 1) := by decide +kernel
theorem dX10_through_91 : decode cX10_through 91 = .ok (.iaload, 1) := by decide +kernel
theorem dX10_through_92 : decode cX10_through 92 = .ok (.iadd, 1) := by decide +kernel
theorem dX10_through_93 : decode cX10_through 93 = .ok (.iaload, 1) := by decide +kernel
theorem dX10_through_94 : decode cX10_through 94 = .ok (.aload_n 0, 1) := by decide +kernel
theorem dX10_through_95 : decode cX10_through 95 = .ok (.getfield 112, 3) := by decide +kernel
theorem dX10_through_98 : decode cX10_through 98 = .ok (.iload_n 3, 1) := by decide +kernel
theorem dX10_through_99 : decode cX10_through 99 = .ok (.iaload, 1) := by decide +kernel
theorem dX10_through_100 : decode cX10_through 100 = .ok (.iload 5, 2) := by decide +kernel
theorem dX10_through_102 : decode cX10_through 102 = .ok (.imul, 1) := by decide +kernel
theorem dX10_through_103 : decode cX10_through 103 = .ok (.iadd, 1) := by decide +kernel
theorem dX10_through_104 : decode cX10_through 104 = .ok (.aload_n 0, 1) := by decide +kernel
theorem dX10_through_105 : decode cX10_through 105 = .ok (.getfield 121, 3) := by decide +kernel
theorem dX10_through_108 : decode cX10_through 108 = .ok (.bipush 9, 2) := by decide +kernel
theorem dX10_through_110 : decode cX10_through 110 = .ok (.iload_n 1, 1) := by decide +kernel
theorem dX10_through_111 : decode cX10_through 111 = .ok (.iconst 1, 1) := by decide +kernel
theorem dX10_through_112 : decode cX10_through 112 = .ok (.iload_n 3, 1) := by decide +kernel
theorem dX10_through_113 : decode cX10_through 113 = .ok (.ishl, 1) := by decide +kernel
theorem dX10_through_114 : decode cX10_through 114 = .ok (.ior, 1) := by decide +kernel
theorem dX10_through_115 : decode cX10_through 115 = .ok (.imul, 1) := by decide +kernel
theorem dX10_through_116 : decode cX10_through 116 = .ok (.iload_n 3, 1) := by decide +kernel
theorem dX10_through_117 : decode cX10_through 117 = .ok (.iadd, 1) := by decide +kernel
theorem dX10_through_118 : decode cX10_through 118 = .ok (.iaload, 1) := by decide +kernel
theorem dX10_through_119 : decode cX10_through 119 = .ok (.iadd, 1) := by decide +kernel
theorem dX10_through_120 : decode cX10_through 120 = .ok (.ireturn, 1) := by decide +kernel
theorem dX10_bestNext_0 : decode cX10_bestNext 0 = .ok (.iconst (-1), 1) := by decide +kernel
theorem dX10_bestNext_1 : decode cX10_bestNext 1 = .ok (.istore_n 3, 1) := by decide +kernel
theorem dX10_bestNext_2 : decode cX10_bestNext 2 = .ok (.iconst 0, 1) := by decide +kernel
theorem dX10_bestNext_3 : decode cX10_bestNext 3 = .ok (.istore 4, 2) := by decide +kernel
theorem dX10_bestNext_5 : decode cX10_bestNext 5 = .ok (.iload 4, 2) := by decide +kernel
theorem dX10_bestNext_7 : decode cX10_bestNext 7 = .ok (.aload_n 0, 1) := by decide +kernel
theorem dX10_bestNext_8 : decode cX10_bestNext 8 = .ok (.getfield 219, 3) := by decide +kernel
theorem dX10_bestNext_11 : decode cX10_bestNext 11 = .ok (.if_icmp .ge 44, 3) := by decide +kernel
theorem dX10_bestNext_14 : decode cX10_bestNext 14 = .ok (.iload_n 1, 1) := by decide +kernel
theorem dX10_bestNext_15 : decode cX10_bestNext 15 = .ok (.iload 4, 2) := by decide +kernel
theorem dX10_bestNext_17 : decode cX10_bestNext 17 = .ok (.ishr, 1) := by decide +kernel
theorem dX10_bestNext_18 : decode cX10_bestNext 18 = .ok (.iconst 1, 1) := by decide +kernel
theorem dX10_bestNext_19 : decode cX10_bestNext 19 = .ok (.iand, 1) := by decide +kernel
theorem dX10_bestNext_20 : decode cX10_bestNext 20 = .ok (.ifCond .ne 29, 3) := by decide +kernel
theorem dX10_bestNext_23 : decode cX10_bestNext 23 = .ok (.iload_n 3, 1) := by decide +kernel
theorem dX10_bestNext_24 : decode cX10_bestNext 24 = .ok (.iconst (-1), 1) := by decide +kernel
theorem dX10_bestNext_25 : decode cX10_bestNext 25 = .ok (.if_icmp .eq 21, 3) := by decide +kernel
theorem dX10_bestNext_28 : decode cX10_bestNext 28 = .ok (.aload_n 0, 1) := by decide +kernel
theorem dX10_bestNext_29 : decode cX10_bestNext 29 = .ok (.iload_n 1, 1) := by decide +kernel
theorem dX10_bestNext_30 : decode cX10_bestNext 30 = .ok (.iload_n 2, 1) := by decide +kernel
theorem dX10_bestNext_31 : decode cX10_bestNext 31 = .ok (.iload 4, 2) := by decide +kernel
theorem dX10_bestNext_33 : decode cX10_bestNext 33 = .ok (.invokevirtual 222, 3) := by decide +kernel
theorem dX10_bestNext_36 : decode cX10_bestNext 36 = .ok (.aload_n 0, 1) := by decide +kernel
theorem dX10_bestNext_37 : decode cX10_bestNext 37 = .ok (.iload_n 1, 1) := by decide +kernel
theorem dX10_bestNext_38 : decode cX10_bestNext 38 = .ok (.iload_n 2, 1) := by decide +kernel
theorem dX10_bestNext_39 : decode cX10_bestNext 39 = .ok (.iload_n 3, 1) := by decide +kernel
theorem dX10_bestNext_40 : decode cX10_bestNext 40 = .ok (.invokevirtual 222, 3) := by decide +kernel
theorem dX10_bestNext_43 : decode cX10_bestNext 43 = .ok (.if_icmp .ge 6, 3) := by decide +kernel
theorem dX10_bestNext_46 : decode cX10_bestNext 46 = .ok (.iload 4, 2) := by decide +kernel
theorem dX10_bestNext_48 : decode cX10_bestNext 48 = .ok (.istore_n 3, 1) := by decide +kernel
theorem dX10_bestNext_49 : decode cX10_bestNext 49 = .ok (.iinc 4 1, 3) := by decide +kernel
theorem dX10_bestNext_52 : decode cX10_bestNext 52 = .ok (.goto (-47), 3) := by decide +kernel
theorem dX10_bestNext_55 : decode cX10_bestNext 55 = .ok (.iload_n 3, 1) := by decide +kernel
theorem dX10_bestNext_56 : decode cX10_bestNext 56 = .ok (.ireturn, 1) := by decide +kernel
theorem dX10_plan_0 : decode cX10_plan 0 = .ok (.iload_n 1, 1) := by decide +kernel
theorem dX10_plan_1 : decode cX10_plan 1 = .ok (.invokestatic 216, 3) := by decide +kernel
theorem dX10_plan_4 : decode cX10_plan 4 = .ok (.ifCond .ne 6, 3) := by decide +kernel
theorem dX10_plan_7 : decode cX10_plan 7 = .ok (.bipush (-2), 2) := by decide +kernel
theorem dX10_plan_9 : decode cX10_plan 9 = .ok (.ireturn, 1) := by decide +kernel
theorem dX10_plan_10 : decode cX10_plan 10 = .ok (.iconst 1, 1) := by decide +kernel
theorem dX10_plan_11 : decode cX10_plan 11 = .ok (.aload_n 0, 1) := by decide +kernel
theorem dX10_plan_12 : decode cX10_plan 12 = .ok (.getfield 219, 3) := by decide +kernel
theorem dX10_plan_15 : decode cX10_plan 15 = .ok (.ishl, 1) := by decide +kernel
theorem dX10_plan_16 : decode cX10_plan 16 = .ok (.iconst 1, 1) := by decide +kernel
theorem dX10_plan_17 : decode cX10_plan 17 = .ok (.isub, 1) := by decide +kernel
theorem dX10_plan_18 : decode cX10_plan 18 = .ok (.istore_n 2, 1) := by decide +kernel
theorem dX10_plan_19 : decode cX10_plan 19 = .ok (.iload_n 2, 1) := by decide +kernel
theorem dX10_plan_20 : decode cX10_plan 20 = .ok (.istore_n 3, 1) := by decide +kernel
theorem dX10_plan_21 : decode cX10_plan 21 = .ok (.iload_n 3, 1) := by decide +kernel
theorem dX10_plan_22 : decode cX10_plan 22 = .ok (.ifCond .lt 91, 3) := by decide +kernel
theorem dX10_plan_25 : decode cX10_plan 25 = .ok (.iconst 0, 1) := by decide +kernel
theorem dX10_plan_26 : decode cX10_plan 26 = .ok (.istore 4, 2) := by decide +kernel
theorem dX10_plan_28 : decode cX10_plan 28 = .ok (.iload 4, 2) := by decide +kernel
theorem dX10_plan_30 : decode cX10_plan 30 = .ok (.aload_n 0, 1) := by decide +kernel
theorem dX10_plan_31 : decode cX10_plan 31 = .ok (.getfield 219, 3) := by decide +kernel
theorem dX10_plan_34 : decode cX10_plan 34 = .ok (.if_icmp .ge 73, 3) := by decide +kernel
theorem dX10_plan_37 : decode cX10_plan 37 = .ok (.iload_n 3, 1) := by decide +kernel
theorem dX10_plan_38 : decode cX10_plan 38 = .ok (.iload 4, 2) := by decide +kernel
theorem dX10_plan_40 : decode cX10_plan 40 = .ok (.ishr, 1) := by decide +kernel
theorem dX10_plan_41 : decode cX10_plan 41 = .ok (.iconst 1, 1) := by decide +kernel
theorem dX10_plan_42 : decode cX10_plan 42 = .ok (.iand, 1) := by decide +kernel
theorem dX10_plan_43 : decode cX10_plan 43 = .ok (.iconst 1, 1) := by decide +kernel
theorem dX10_plan_44 : decode cX10_plan 44 = .ok (.if_icmp .ne 18, 3) := by decide +kernel
theorem dX10_plan_47 : decode cX10_plan 47 = .ok (.aload_n 0, 1) := by decide +kernel
theorem dX10_plan_48 : decode cX10_plan 48 = .ok (.iload_n 3, 1) := by decide +kernel
theorem dX10_plan_49 : decode cX10_plan 49 = .ok (.aload_n 0, 1) := by decide +kernel
theorem dX10_plan_50 : decode cX10_plan 50 = .ok (.getfield 103, 3) := by decide +kernel
theorem dX10_plan_53 : decode cX10_plan 53 = .ok (.iload 4, 2) := by decide +kernel
theorem dX10_plan_55 : decode cX10_plan 55 = .ok (.iaload, 1) := by decide +kernel
theorem dX10_plan_56 : decode cX10_plan 56 = .ok (.invokevirtual 226, 3) := by decide +kernel
theorem dX10_plan_59 : decode cX10_plan 59 = .ok (.goto 4, 3) := by decide +kernel
theorem dX10_plan_62 : decode cX10_plan 62 = .ok (.iconst (-1), 1) := by decide +kernel
theorem dX10_plan_63 : decode cX10_plan 63 = .ok (.istore 5, 2) := by decide +kernel
theorem dX10_plan_65 : decode cX10_plan 65 = .ok (.aload_n 0, 1) := by decide +kernel
theorem dX10_plan_66 : decode cX10_plan 66 = .ok (.getfield 121, 3) := by decide +kernel
theorem dX10_plan_69 : decode cX10_plan 69 = .ok (.bipush 9, 2) := by decide +kernel
theorem dX10_plan_71 : decode cX10_plan 71 = .ok (.iload_n 3, 1) := by decide +kernel
theorem dX10_plan_72 : decode cX10_plan 72 = .ok (.imul, 1) := by decide +kernel
theorem dX10_plan_73 : decode cX10_plan 73 = .ok (.iload 4, 2) := by decide +kernel
theorem dX10_plan_75 : decode cX10_plan 75 = .ok (.iadd, 1) := by decide +kernel
theorem dX10_plan_76 : decode cX10_plan 76 = .ok (.iload 5, 2) := by decide +kernel
theorem dX10_plan_78 : decode cX10_plan 78 = .ok (.iconst (-1), 1) := by decide +kernel
theorem dX10_plan_79 : decode cX10_plan 79 = .ok (.if_icmp .ne 7, 3) := by decide +kernel
theorem dX10_plan_82 : decode cX10_plan 82 = .ok (.iconst 0, 1) := by decide +kernel
theorem dX10_plan_83 : decode cX10_plan 83 = .ok (.goto 17, 3) := by decide +kernel
theorem dX10_plan_86 : decode cX10_plan 86 = .ok (.aload_n 0, 1) := by decide +kernel
theorem dX10_plan_87 : decode cX10_plan 87 = .ok (.iload_n 3, 1) := by decide +kernel
theorem dX10_plan_88 : decode cX10_plan 88 = .ok (.aload_n 0, 1) := by decide +kernel
theorem dX10_plan_89 : decode cX10_plan 89 = .ok (.getfield 103, 3) := by decide +kernel
theorem dX10_plan_92 : decode cX10_plan 92 = .ok (.iload 4, 2) := by decide +kernel
theorem dX10_plan_94 : decode cX10_plan 94 = .ok (.iaload, 1) := by decide +kernel
theorem dX10_plan_95 : decode cX10_plan 95 = .ok (.iload 5, 2) := by decide +kernel
theorem dX10_plan_97 : decode cX10_plan 97 = .ok (.invokevirtual 222, 3) := by decide +kernel
theorem dX10_plan_100 : decode cX10_plan 100 = .ok (.iastore, 1) := by decide +kernel
theorem dX10_plan_101 : decode cX10_plan 101 = .ok (.iinc 4 1, 3) := by decide +kernel
theorem dX10_plan_104 : decode cX10_plan 104 = .ok (.goto (-76), 3) := by decide +kernel
theorem dX10_plan_107 : decode cX10_plan 107 = .ok (.iinc 3 (-1), 3) := by decide +kernel
theorem dX10_plan_110 : decode cX10_plan 110 = .ok (.goto (-89), 3) := by decide +kernel
theorem dX10_plan_113 : decode cX10_plan 113 = .ok (.iconst 0, 1) := by decide +kernel
theorem dX10_plan_114 : decode cX10_plan 114 = .ok (.istore_n 3, 1) := by decide +kernel
theorem dX10_plan_115 : decode cX10_plan 115 = .ok (.iload_n 1, 1) := by decide +kernel
theorem dX10_plan_116 : decode cX10_plan 116 = .ok (.istore 4, 2) := by decide +kernel
theorem dX10_plan_118 : decode cX10_plan 118 = .ok (.aload_n 0, 1) := by decide +kernel
theorem dX10_plan_119 : decode cX10_plan 119 = .ok (.getfield 219, 3) := by decide +kernel
theorem dX10_plan_122 : decode cX10_plan 122 = .ok (.ifCond .ne 7, 3) := by decide +kernel
theorem dX10_plan_125 : decode cX10_plan 125 = .ok (.iconst 0, 1) := by decide +kernel
theorem dX10_plan_126 : decode cX10_plan 126 = .ok (.goto 15, 3) := by decide +kernel
theorem dX10_plan_129 : decode cX10_plan 129 = .ok (.aload_n 0, 1) := by decide +kernel
theorem dX10_plan_130 : decode cX10_plan 130 = .ok (.iconst 0, 1) := by decide +kernel
theorem dX10_plan_131 : decode cX10_plan 131 = .ok (.iload_n 1, 1) := by decide +kernel
theorem dX10_plan_132 : decode cX10_plan 132 = .ok (.aload_n 0, 1) := by decide +kernel
theorem dX10_plan_133 : decode cX10_plan 133 = .ok (.iconst 0, 1) := by decide +kernel
theorem dX10_plan_134 : decode cX10_plan 134 = .ok (.iload_n 1, 1) := by decide +kernel
theorem dX10_plan_135 : decode cX10_plan 135 = .ok (.invokevirtual 226, 3) := by decide +kernel
theorem dX10_plan_138 : decode cX10_plan 138 = .ok (.invokevirtual 222, 3) := by decide +kernel
theorem dX10_plan_141 : decode cX10_plan 141 = .ok (.istore 5, 2) := by decide +kernel
theorem dX10_plan_143 : decode cX10_plan 143 = .ok (.iconst 0, 1) := by decide +kernel
theorem dX10_plan_144 : decode cX10_plan 144 = .ok (.istore 6, 2) := by decide +kernel
theorem dX10_plan_146 : decode cX10_plan 146 = .ok (.iload 6, 2) := by decide +kernel
theorem dX10_plan_148 : decode cX10_plan 148 = .ok (.aload_n 0, 1) := by decide +kernel
theorem dX10_plan_149 : decode cX10_plan 149 = .ok (.getfield 219, 3) := by decide +kernel
theorem dX10_plan_152 : decode cX10_plan 152 = .ok (.if_icmp .ge 43, 3) := by decide +kernel
theorem dX10_plan_155 : decode cX10_plan 155 = .ok (.aload_n 0, 1) := by decide +kernel
theorem dX10_plan_156 : decode cX10_plan 156 = .ok (.iload_n 3, 1) := by decide +kernel
theorem dX10_plan_157 : decode cX10_plan 157 = .ok (.iload 4, 2) := by decide +kernel
theorem dX10_plan_159 : decode cX10_plan 159 = .ok (.invokevirtual 226, 3) := by decide +kernel
theorem dX10_plan_162 : decode cX10_plan 162 = .ok (.istore 7, 2) := by decide +kernel
theorem dX10_plan_164 : decode cX10_plan 164 = .ok (.aload_n 0, 1) := by decide +kernel
theorem dX10_plan_165 : decode cX10_plan 165 = .ok (.getfield 118, 3) := by decide +kernel
theorem dX10_plan_168 : decode cX10_plan 168 = .ok (.iload 6, 2) := by decide +kernel
theorem dX10_plan_170 : decode cX10_plan 170 = .ok (.iload 7, 2) := by decide +kernel
theorem dX10_plan_172 : decode cX10_plan 172 = .ok (.iastore, 1) := by decide +kernel
theorem dX10_plan_173 : decode cX10_plan 173 = .ok (.iload_n 3, 1) := by decide +kernel
theorem dX10_plan_174 : decode cX10_plan 174 = .ok (.iconst 1, 1) := by decide +kernel
theorem dX10_plan_175 : decode cX10_plan 175 = .ok (.iload 7, 2) := by decide +kernel
theorem dX10_plan_177 : decode cX10_plan 177 = .ok (.ishl, 1) := by decide +kernel
theorem dX10_plan_178 : decode cX10_plan 178 = .ok (.ior, 1) := by decide +kernel
theorem dX10_plan_179 : decode cX10_plan 179 = .ok (.istore_n 3, 1) := by decide +kernel
theorem dX10_plan_180 : decode cX10_plan 180 = .ok (.aload_n 0, 1) := by decide +kernel
theorem dX10_plan_181 : decode cX10_plan 181 = .ok (.getfield 103, 3) := by decide +kernel
theorem dX10_plan_184 : decode cX10_plan 184 = .ok (.iload 7, 2) := by decide +kernel
theorem dX10_plan_186 : decode cX10_plan 186 = .ok (.iaload, 1) := by decide +kernel
theorem dX10_plan_187 : decode cX10_plan 187 = .ok (.istore 4, 2) := by decide +kernel
theorem dX10_plan_189 : decode cX10_plan 189 = .ok (.iinc 6 1, 3) := by decide +kernel
theorem dX10_plan_192 : decode cX10_plan 192 = .ok (.goto (-46), 3) := by decide +kernel
theorem dX10_plan_195 : decode cX10_plan 195 = .ok (.aload_n 0, 1) := by decide +kernel
theorem dX10_plan_196 : decode cX10_plan 196 = .ok (.aload_n 0, 1) := by decide +kernel
theorem dX10_plan_197 : decode cX10_plan 197 = .ok (.getfield 219, 3) := by decide +kernel
theorem dX10_plan_200 : decode cX10_plan 200 = .ok (.putfield 230, 3) := by decide +kernel
theorem dX10_plan_203 : decode cX10_plan 203 = .ok (.iload 5, 2) := by decide +kernel
theorem dX10_plan_205 : decode cX10_plan 205 = .ok (.ireturn, 1) := by decide +kernel
theorem dX10_planned_0 : decode cX10_planned 0 = .ok (.iload_n 1, 1) := by decide +kernel
theorem dX10_planned_1 : decode cX10_planned 1 = .ok (.iconst 0, 1) := by decide +kernel
theorem dX10_planned_2 : decode cX10_planned 2 = .ok (.aload_n 0, 1) := by decide +kernel
theorem dX10_planned_3 : decode cX10_planned 3 = .ok (.getfield 230, 3) := by decide +kernel
theorem dX10_planned_6 : decode cX10_planned 6 = .ok (.iconst 1, 1) := by decide +kernel
theorem dX10_planned_7 : decode cX10_planned 7 = .ok (.isub, 1) := by decide +kernel
theorem dX10_planned_8 : decode cX10_planned 8 = .ok (.invokestatic 133, 3) := by decide +kernel
theorem dX10_planned_11 : decode cX10_planned 11 = .ok (.ifCond .eq 12, 3) := by decide +kernel
theorem dX10_planned_14 : decode cX10_planned 14 = .ok (.aload_n 0, 1) := by decide +kernel
theorem dX10_planned_15 : decode cX10_planned 15 = .ok (.getfield 118, 3) := by decide +kernel
theorem dX10_planned_18 : decode cX10_planned 18 = .ok (.iload_n 1, 1) := by decide +kernel
theorem dX10_planned_19 : decode cX10_planned 19 = .ok (.iaload, 1) := by decide +kernel
theorem dX10_planned_20 : decode cX10_planned 20 = .ok (.goto 5, 3) := by decide +kernel
theorem dX10_planned_23 : decode cX10_planned 23 = .ok (.bipush (-2), 2) := by decide +kernel
theorem dX10_planned_25 : decode cX10_planned 25 = .ok (.ireturn, 1) := by decide +kernel
theorem dX10_idle_0 : decode cX10_idle 0 = .ok (.aload_n 0, 1) := by decide +kernel
theorem dX10_idle_1 : decode cX10_idle 1 = .ok (.getfield 219, 3) := by decide +kernel
theorem dX10_idle_4 : decode cX10_idle 4 = .ok (.istore_n 1, 1) := by decide +kernel
theorem dX10_idle_5 : decode cX10_idle 5 = .ok (.aload_n 0, 1) := by decide +kernel
theorem dX10_idle_6 : decode cX10_idle 6 = .ok (.iconst 0, 1) := by decide +kernel
theorem dX10_idle_7 : decode cX10_idle 7 = .ok (.putfield 219, 3) := by decide +kernel
theorem dX10_idle_10 : decode cX10_idle 10 = .ok (.iload_n 1, 1) := by decide +kernel
theorem dX10_idle_11 : decode cX10_idle 11 = .ok (.ireturn, 1) := by decide +kernel
theorem dX10_count_0 : decode cX10_count 0 = .ok (.iload_n 1, 1) := by decide +kernel
theorem dX10_count_1 : decode cX10_count 1 = .ok (.tableswitch 87 0 7 #[47, 52, 57, 62, 67, 72, 77, 82], 47) := by decide +kernel
theorem dX10_count_48 : decode cX10_count 48 = .ok (.aload_n 0, 1) := by decide +kernel
theorem dX10_count_49 : decode cX10_count 49 = .ok (.getfield 130, 3) := by decide +kernel
theorem dX10_count_52 : decode cX10_count 52 = .ok (.ireturn, 1) := by decide +kernel
theorem dX10_count_53 : decode cX10_count 53 = .ok (.aload_n 0, 1) := by decide +kernel
theorem dX10_count_54 : decode cX10_count 54 = .ok (.getfield 144, 3) := by decide +kernel
theorem dX10_count_57 : decode cX10_count 57 = .ok (.ireturn, 1) := by decide +kernel
theorem dX10_count_58 : decode cX10_count 58 = .ok (.aload_n 0, 1) := by decide +kernel
theorem dX10_count_59 : decode cX10_count 59 = .ok (.getfield 158, 3) := by decide +kernel
theorem dX10_count_62 : decode cX10_count 62 = .ok (.ireturn, 1) := by decide +kernel
theorem dX10_count_63 : decode cX10_count 63 = .ok (.aload_n 0, 1) := by decide +kernel
theorem dX10_count_64 : decode cX10_count 64 = .ok (.getfield 137, 3) := by decide +kernel
theorem dX10_count_67 : decode cX10_count 67 = .ok (.ireturn, 1) := by decide +kernel
theorem dX10_count_68 : decode cX10_count 68 = .ok (.aload_n 0, 1) := by decide +kernel
theorem dX10_count_69 : decode cX10_count 69 = .ok (.getfield 209, 3) := by decide +kernel
theorem dX10_count_72 : decode cX10_count 72 = .ok (.ireturn, 1) := by decide +kernel
theorem dX10_count_73 : decode cX10_count 73 = .ok (.aload_n 0, 1) := by decide +kernel
theorem dX10_count_74 : decode cX10_count 74 = .ok (.getfield 219, 3) := by decide +kernel
theorem dX10_count_77 : decode cX10_count 77 = .ok (.ireturn, 1) := by decide +kernel
theorem dX10_count_78 : decode cX10_count 78 = .ok (.aload_n 0, 1) := by decide +kernel
theorem dX10_count_79 : decode cX10_count 79 = .ok (.getfield 147, 3) := by decide +kernel
theorem dX10_count_82 : decode cX10_count 82 = .ok (.ireturn, 1) := by decide +kernel
theorem dX10_count_83 : decode cX10_count 83 = .ok (.aload_n 0, 1) := by decide +kernel
theorem dX10_count_84 : decode cX10_count 84 = .ok (.getfield 206, 3) := by decide +kernel
theorem dX10_count_87 : decode cX10_count 87 = .ok (.ireturn, 1) := by decide +kernel
theorem dX10_count_88 : decode cX10_count 88 = .ok (.bipush (-3), 2) := by decide +kernel
theorem dX10_count_90 : decode cX10_count 90 = .ok (.ireturn, 1) := by decide +kernel
end
section
theorem dL_law_0 : decode cL_law 0 = .ok (.new 7, 3) := by decide +kernel
theorem dL_law_3 : decode cL_law 3 = .ok (.dup, 1) := by decide +kernel
theorem dL_law_4 : decode cL_law 4 = .ok (.invokespecial 9, 3) := by decide +kernel
theorem dL_law_7 : decode cL_law 7 = .ok (.astore_n 1, 1) := by decide +kernel
theorem dL_law_8 : decode cL_law 8 = .ok (.new 10, 3) := by decide +kernel
theorem dL_law_11 : decode cL_law 11 = .ok (.dup, 1) := by decide +kernel
theorem dL_law_12 : decode cL_law 12 = .ok (.invokespecial 12, 3) := by decide +kernel
theorem dL_law_15 : decode cL_law 15 = .ok (.astore_n 2, 1) := by decide +kernel
theorem dL_law_16 : decode cL_law 16 = .ok (.iconst 0, 1) := by decide +kernel
theorem dL_law_17 : decode cL_law 17 = .ok (.istore_n 3, 1) := by decide +kernel
theorem dL_law_18 : decode cL_law 18 = .ok (.iload_n 3, 1) := by decide +kernel
theorem dL_law_19 : decode cL_law 19 = .ok (.aload_n 0, 1) := by decide +kernel
theorem dL_law_20 : decode cL_law 20 = .ok (.arraylength, 1) := by decide +kernel
theorem dL_law_21 : decode cL_law 21 = .ok (.bipush 6, 2) := by decide +kernel
theorem dL_law_23 : decode cL_law 23 = .ok (.isub, 1) := by decide +kernel
theorem dL_law_24 : decode cL_law 24 = .ok (.if_icmp .gt 1320, 3) := by decide +kernel
theorem dL_law_27 : decode cL_law 27 = .ok (.aload_n 0, 1) := by decide +kernel
theorem dL_law_28 : decode cL_law 28 = .ok (.iload_n 3, 1) := by decide +kernel
theorem dL_law_29 : decode cL_law 29 = .ok (.iaload, 1) := by decide +kernel
theorem dL_law_30 : decode cL_law 30 = .ok (.bipush 63, 2) := by decide +kernel
theorem dL_law_32 : decode cL_law 32 = .ok (.iand, 1) := by decide +kernel
theorem dL_law_33 : decode cL_law 33 = .ok (.tableswitch 1305 0 33 #[151, 184, 237, 280, 303, 326, 349, 362, 431, 464, 477, 520, 563, 626, 649, 672, 705, 738, 791, 824, 847, 880, 903, 936, 969, 1002, 1035, 1094, 1127, 1180, 1223, 1246, 1269, 1282], 151) := by decide +kernel
theorem dL_law_184 : decode cL_law 184 = .ok (.aload_n 1, 1) := by decide +kernel
theorem dL_law_185 : decode cL_law 185 = .ok (.aload_n 0, 1) := by decide +kernel
theorem dL_law_186 : decode cL_law 186 = .ok (.iload_n 3, 1) := by decide +kernel
theorem dL_law_187 : decode cL_law 187 = .ok (.iconst 1, 1) := by decide +kernel
theorem dL_law_188 : decode cL_law 188 = .ok (.iadd, 1) := by decide +kernel
theorem dL_law_189 : decode cL_law 189 = .ok (.iaload, 1) := by decide +kernel
theorem dL_law_190 : decode cL_law 190 = .ok (.aload_n 0, 1) := by decide +kernel
theorem dL_law_191 : decode cL_law 191 = .ok (.iload_n 3, 1) := by decide +kernel
theorem dL_law_192 : decode cL_law 192 = .ok (.iconst 2, 1) := by decide +kernel
theorem dL_law_193 : decode cL_law 193 = .ok (.iadd, 1) := by decide +kernel
theorem dL_law_194 : decode cL_law 194 = .ok (.iaload, 1) := by decide +kernel
theorem dL_law_195 : decode cL_law 195 = .ok (.invokevirtual 13, 3) := by decide +kernel
theorem dL_law_198 : decode cL_law 198 = .ok (.aload_n 2, 1) := by decide +kernel
theorem dL_law_199 : decode cL_law 199 = .ok (.aload_n 0, 1) := by decide +kernel
theorem dL_law_200 : decode cL_law 200 = .ok (.iload_n 3, 1) := by decide +kernel
theorem dL_law_201 : decode cL_law 201 = .ok (.iconst 1, 1) := by decide +kernel
theorem dL_law_202 : decode cL_law 202 = .ok (.iadd, 1) := by decide +kernel
theorem dL_law_203 : decode cL_law 203 = .ok (.iaload, 1) := by decide +kernel
theorem dL_law_204 : decode cL_law 204 = .ok (.aload_n 0, 1) := by decide +kernel
theorem dL_law_205 : decode cL_law 205 = .ok (.iload_n 3, 1) := by decide +kernel
theorem dL_law_206 : decode cL_law 206 = .ok (.iconst 2, 1) := by decide +kernel
theorem dL_law_207 : decode cL_law 207 = .ok (.iadd, 1) := by decide +kernel
theorem dL_law_208 : decode cL_law 208 = .ok (.iaload, 1) := by decide +kernel
theorem dL_law_209 : decode cL_law 209 = .ok (.invokevirtual 17, 3) := by decide +kernel
theorem dL_law_212 : decode cL_law 212 = .ok (.if_icmp .eq 1126, 3) := by decide +kernel
theorem dL_law_215 : decode cL_law 215 = .ok (.iconst 0, 1) := by decide +kernel
theorem dL_law_216 : decode cL_law 216 = .ok (.ireturn, 1) := by decide +kernel
theorem dL_law_217 : decode cL_law 217 = .ok (.aload_n 1, 1) := by decide +kernel
theorem dL_law_218 : decode cL_law 218 = .ok (.aload_n 0, 1) := by decide +kernel
theorem dL_law_219 : decode cL_law 219 = .ok (.iload_n 3, 1) := by decide +kernel
theorem dL_law_220 : decode cL_law 220 = .ok (.iconst 1, 1) := by decide +kernel
theorem dL_law_221 : decode cL_law 221 = .ok (.iadd, 1) := by decide +kernel
theorem dL_law_222 : decode cL_law 222 = .ok (.iaload, 1) := by decide +kernel
theorem dL_law_223 : decode cL_law 223 = .ok (.aload_n 0, 1) := by decide +kernel
theorem dL_law_224 : decode cL_law 224 = .ok (.iload_n 3, 1) := by decide +kernel
theorem dL_law_225 : decode cL_law 225 = .ok (.iconst 2, 1) := by decide +kernel
theorem dL_law_226 : decode cL_law 226 = .ok (.iadd, 1) := by decide +kernel
theorem dL_law_227 : decode cL_law 227 = .ok (.iaload, 1) := by decide +kernel
theorem dL_law_228 : decode cL_law 228 = .ok (.aload_n 0, 1) := by decide +kernel
theorem dL_law_229 : decode cL_law 229 = .ok (.iload_n 3, 1) := by decide +kernel
theorem dL_law_230 : decode cL_law 230 = .ok (.iconst 3, 1) := by decide +kernel
theorem dL_law_231 : decode cL_law 231 = .ok (.iadd, 1) := by decide +kernel
theorem dL_law_232 : decode cL_law 232 = .ok (.iaload, 1) := by decide +kernel
theorem dL_law_233 : decode cL_law 233 = .ok (.aload_n 0, 1) := by decide +kernel
theorem dL_law_234 : decode cL_law 234 = .ok (.iload_n 3, 1) := by decide +kernel
theorem dL_law_235 : decode cL_law 235 = .ok (.iconst 4, 1) := by decide +kernel
theorem dL_law_236 : decode cL_law 236 = .ok (.iadd, 1) := by decide +kernel
theorem dL_law_237 : decode cL_law 237 = .ok (.iaload, 1) := by decide +kernel
theorem dL_law_238 : decode cL_law 238 = .ok (.invokevirtual 18, 3) := by decide +kernel
theorem dL_law_241 : decode cL_law 241 = .ok (.aload_n 2, 1) := by decide +kernel
theorem dL_law_242 : decode cL_law 242 = .ok (.aload_n 0, 1) := by decide +kernel
theorem dL_law_243 : decode cL_law 243 = .ok (.iload_n 3, 1) := by decide +kernel
theorem dL_law_244 : decode cL_law 244 = .ok (.iconst 1, 1) := by decide +kernel
theorem dL_law_245 : decode cL_law 245 = .ok (.iadd, 1) := by decide +kernel
theorem dL_law_246 : decode cL_law 246 = .ok (.iaload, 1) := by decide +kernel
theorem dL_law_247 : decode cL_law 247 = .ok (.aload_n 0, 1) := by decide +kernel
theorem dL_law_248 : decode cL_law 248 = .ok (.iload_n 3, 1) := by decide +kernel
theorem dL_law_249 : decode cL_law 249 = .ok (.iconst 2, 1) := by decide +kernel
theorem dL_law_250 : decode cL_law 250 = .ok (.iadd, 1) := by decide +kernel
theorem dL_law_251 : decode cL_law 251 = .ok (.iaload, 1) := by decide +kernel
theorem dL_law_252 : decode cL_law 252 = .ok (.aload_n 0, 1) := by decide +kernel
theorem dL_law_253 : decode cL_law 253 = .ok (.iload_n 3, 1) := by decide +kernel
theorem dL_law_254 : decode cL_law 254 = .ok (.iconst 3, 1) := by decide +kernel
theorem dL_law_255 : decode cL_law 255 = .ok (.iadd, 1) := by decide +kernel
theorem dL_law_256 : decode cL_law 256 = .ok (.iaload, 1) := by decide +kernel
theorem dL_law_257 : decode cL_law 257 = .ok (.aload_n 0, 1) := by decide +kernel
theorem dL_law_258 : decode cL_law 258 = .ok (.iload_n 3, 1) := by decide +kernel
theorem dL_law_259 : decode cL_law 259 = .ok (.iconst 4, 1) := by decide +kernel
theorem dL_law_260 : decode cL_law 260 = .ok (.iadd, 1) := by decide +kernel
theorem dL_law_261 : decode cL_law 261 = .ok (.iaload, 1) := by decide +kernel
theorem dL_law_262 : decode cL_law 262 = .ok (.invokevirtual 22, 3) := by decide +kernel
theorem dL_law_265 : decode cL_law 265 = .ok (.if_icmp .eq 1073, 3) := by decide +kernel
theorem dL_law_268 : decode cL_law 268 = .ok (.iconst 0, 1) := by decide +kernel
theorem dL_law_269 : decode cL_law 269 = .ok (.ireturn, 1) := by decide +kernel
theorem dL_law_270 : decode cL_law 270 = .ok (.aload_n 1, 1) := by decide +kernel
theorem dL_law_271 : decode cL_law 271 = .ok (.aload_n 0, 1) := by decide +kernel
theorem dL_law_272 : decode cL_law 272 = .ok (.iload_n 3, 1) := by decide +kernel
theorem dL_law_273 : decode cL_law 273 = .ok (.iconst 1, 1) := by decide +kernel
theorem dL_law_274 : decode cL_law 274 = .ok (.iadd, 1) := by decide +kernel
theorem dL_law_275 : decode cL_law 275 = .ok (.iaload, 1) := by decide +kernel
theorem dL_law_276 : decode cL_law 276 = .ok (.aload_n 0, 1) := by decide +kernel
theorem dL_law_277 : decode cL_law 277 = .ok (.iload_n 3, 1) := by decide +kernel
theorem dL_law_278 : decode cL_law 278 = .ok (.iconst 2, 1) := by decide +kernel
theorem dL_law_279 : decode cL_law 279 = .ok (.iadd, 1) := by decide +kernel
theorem dL_law_280 : decode cL_law 280 = .ok (.iaload, 1) := by decide +kernel
theorem dL_law_281 : decode cL_law 281 = .ok (.aload_n 0, 1) := by decide +kernel
theorem dL_law_282 : decode cL_law 282 = .ok (.iload_n 3, 1) := by decide +kernel
theorem dL_law_283 : decode cL_law 283 = .ok (.iconst 3, 1) := by decide +kernel
theorem dL_law_284 : decode cL_law 284 = .ok (.iadd, 1) := by decide +kernel
theorem dL_law_285 : decode cL_law 285 = .ok (.iaload, 1) := by decide +kernel
theorem dL_law_286 : decode cL_law 286 = .ok (.invokevirtual 23, 3) := by decide +kernel
theorem dL_law_289 : decode cL_law 289 = .ok (.aload_n 2, 1) := by decide +kernel
theorem dL_law_290 : decode cL_law 290 = .ok (.aload_n 0, 1) := by decide +kernel
theorem dL_law_291 : decode cL_law 291 = .ok (.iload_n 3, 1) := by decide +kernel
theorem dL_law_292 : decode cL_law 292 = .ok (.iconst 1, 1) := by decide +kernel
theorem dL_law_293 : decode cL_law 293 = .ok (.iadd, 1) := by decide +kernel
theorem dL_law_294 : decode cL_law 294 = .ok (.iaload, 1) := by decide +kernel
theorem dL_law_295 : decode cL_law 295 = .ok (.aload_n 0, 1) := by decide +kernel
theorem dL_law_296 : decode cL_law 296 = .ok (.iload_n 3, 1) := by decide +kernel
theorem dL_law_297 : decode cL_law 297 = .ok (.iconst 2, 1) := by decide +kernel
theorem dL_law_298 : decode cL_law 298 = .ok (.iadd, 1) := by decide +kernel
theorem dL_law_299 : decode cL_law 299 = .ok (.iaload, 1) := by decide +kernel
theorem dL_law_300 : decode cL_law 300 = .ok (.aload_n 0, 1) := by decide +kernel
theorem dL_law_301 : decode cL_law 301 = .ok (.iload_n 3, 1) := by decide +kernel
theorem dL_law_302 : decode cL_law 302 = .ok (.iconst 3, 1) := by decide +kernel
theorem dL_law_303 : decode cL_law 303 = .ok (.iadd, 1) := by decide +kernel
theorem dL_law_304 : decode cL_law 304 = .ok (.iaload, 1) := by decide +kernel
theorem dL_law_305 : decode cL_law 305 = .ok (.invokevirtual 27, 3) := by decide +kernel
theorem dL_law_308 : decode cL_law 308 = .ok (.if_icmp .eq 1030, 3) := by decide +kernel
theorem dL_law_311 : decode cL_law 311 = .ok (.iconst 0, 1) := by decide +kernel
theorem dL_law_312 : decode cL_law 312 = .ok (.ireturn, 1) := by decide +kernel
theorem dL_law_313 : decode cL_law 313 = .ok (.aload_n 1, 1) := by decide +kernel
theorem dL_law_314 : decode cL_law 314 = .ok (.aload_n 0, 1) := by decide +kernel
theorem dL_law_315 : decode cL_law 315 = .ok (.iload_n 3, 1) := by decide +kernel
theorem dL_law_316 : decode cL_law 316 = .ok (.iconst 1, 1) := by decide +kernel
theorem dL_law_317 : decode cL_law 317 = .ok (.iadd, 1) := by decide +kernel
theorem dL_law_318 : decode cL_law 318 = .ok (.iaload, 1) := by decide +kernel
theorem dL_law_319 : decode cL_law 319 = .ok (.invokevirtual 28, 3) := by decide +kernel
theorem dL_law_322 : decode cL_law 322 = .ok (.aload_n 2, 1) := by decide +kernel
theorem dL_law_323 : decode cL_law 323 = .ok (.aload_n 0, 1) := by decide +kernel
theorem dL_law_324 : decode cL_law 324 = .ok (.iload_n 3, 1) := by decide +kernel
theorem dL_law_325 : decode cL_law 325 = .ok (.iconst 1, 1) := by decide +kernel
theorem dL_law_326 : decode cL_law 326 = .ok (.iadd, 1) := by decide +kernel
theorem dL_law_327 : decode cL_law 327 = .ok (.iaload, 1) := by decide +kernel
theorem dL_law_328 : decode cL_law 328 = .ok (.invokevirtual 32, 3) := by decide +kernel
theorem dL_law_331 : decode cL_law 331 = .ok (.if_icmp .eq 1007, 3) := by decide +kernel
theorem dL_law_334 : decode cL_law 334 = .ok (.iconst 0, 1) := by decide +kernel
theorem dL_law_335 : decode cL_law 335 = .ok (.ireturn, 1) := by decide +kernel
theorem dL_law_336 : decode cL_law 336 = .ok (.aload_n 1, 1) := by decide +kernel
theorem dL_law_337 : decode cL_law 337 = .ok (.aload_n 0, 1) := by decide +kernel
theorem dL_law_338 : decode cL_law 338 = .ok (.iload_n 3, 1) := by decide +kernel
theorem dL_law_339 : decode cL_law 339 = .ok (.iconst 1, 1) := by decide +kernel
theorem dL_law_340 : decode cL_law 340 = .ok (.iadd, 1) := by decide +kernel
theorem dL_law_341 : decode cL_law 341 = .ok (.iaload, 1) := by decide +kernel
theorem dL_law_342 : decode cL_law 342 = .ok (.invokevirtual 33, 3) := by decide +kernel
theorem dL_law_345 : decode cL_law 345 = .ok (.aload_n 2, 1) := by decide +kernel
theorem dL_law_346 : decode cL_law 346 = .ok (.aload_n 0, 1) := by decide +kernel
theorem dL_law_347 : decode cL_law 347 = .ok (.iload_n 3, 1) := by decide +kernel
theorem dL_law_348 : decode cL_law 348 = .ok (.iconst 1, 1) := by decide +kernel
theorem dL_law_349 : decode cL_law 349 = .ok (.iadd, 1) := by decide +kernel
theorem dL_law_350 : decode cL_law 350 = .ok (.iaload, 1) := by decide +kernel
theorem dL_law_351 : decode cL_law 351 = .ok (.invokevirtual 36, 3) := by decide +kernel
theorem dL_law_354 : decode cL_law 354 = .ok (.if_icmp .eq 984, 3) := by decide +kernel
theorem dL_law_357 : decode cL_law 357 = .ok (.iconst 0, 1) := by decide +kernel
theorem dL_law_358 : decode cL_law 358 = .ok (.ireturn, 1) := by decide +kernel
theorem dL_law_359 : decode cL_law 359 = .ok (.aload_n 1, 1) := by decide +kernel
theorem dL_law_360 : decode cL_law 360 = .ok (.aload_n 0, 1) := by decide +kernel
theorem dL_law_361 : decode cL_law 361 = .ok (.iload_n 3, 1) := by decide +kernel
theorem dL_law_362 : decode cL_law 362 = .ok (.iconst 1, 1) := by decide +kernel
theorem dL_law_363 : decode cL_law 363 = .ok (.iadd, 1) := by decide +kernel
theorem dL_law_364 : decode cL_law 364 = .ok (.iaload, 1) := by decide +kernel
theorem dL_law_365 : decode cL_law 365 = .ok (.invokevirtual 37, 3) := by decide +kernel
theorem dL_law_368 : decode cL_law 368 = .ok (.aload_n 2, 1) := by decide +kernel
theorem dL_law_369 : decode cL_law 369 = .ok (.aload_n 0, 1) := by decide +kernel
theorem dL_law_370 : decode cL_law 370 = .ok (.iload_n 3, 1) := by decide +kernel
theorem dL_law_371 : decode cL_law 371 = .ok (.iconst 1, 1) := by decide +kernel
theorem dL_law_372 : decode cL_law 372 = .ok (.iadd, 1) := by decide +kernel
theorem dL_law_373 : decode cL_law 373 = .ok (.iaload, 1) := by decide +kernel
theorem dL_law_374 : decode cL_law 374 = .ok (.invokevirtual 40, 3) := by decide +kernel
theorem dL_law_377 : decode cL_law 377 = .ok (.if_icmp .eq 961, 3) := by decide +kernel
theorem dL_law_380 : decode cL_law 380 = .ok (.iconst 0, 1) := by decide +kernel
theorem dL_law_381 : decode cL_law 381 = .ok (.ireturn, 1) := by decide +kernel
theorem dL_law_382 : decode cL_law 382 = .ok (.aload_n 1, 1) := by decide +kernel
theorem dL_law_383 : decode cL_law 383 = .ok (.invokevirtual 41, 3) := by decide +kernel
theorem dL_law_386 : decode cL_law 386 = .ok (.aload_n 2, 1) := by decide +kernel
theorem dL_law_387 : decode cL_law 387 = .ok (.invokevirtual 45, 3) := by decide +kernel
theorem dL_law_390 : decode cL_law 390 = .ok (.if_icmp .eq 948, 3) := by decide +kernel
theorem dL_law_393 : decode cL_law 393 = .ok (.iconst 0, 1) := by decide +kernel
theorem dL_law_394 : decode cL_law 394 = .ok (.ireturn, 1) := by decide +kernel
theorem dL_law_395 : decode cL_law 395 = .ok (.aload_n 1, 1) := by decide +kernel
theorem dL_law_396 : decode cL_law 396 = .ok (.aload_n 0, 1) := by decide +kernel
theorem dL_law_397 : decode cL_law 397 = .ok (.iload_n 3, 1) := by decide +kernel
theorem dL_law_398 : decode cL_law 398 = .ok (.iconst 1, 1) := by decide +kernel
theorem dL_law_399 : decode cL_law 399 = .ok (.iadd, 1) := by decide +kernel
theorem dL_law_400 : decode cL_law 400 = .ok (.iaload, 1) := by decide +kernel
theorem dL_law_401 : decode cL_law 401 = .ok (.aload_n 0, 1) := by decide +kernel
theorem dL_law_402 : decode cL_law 402 = .ok (.iload_n 3, 1) := by decide +kernel
theorem dL_law_403 : decode cL_law 403 = .ok (.iconst 2, 1) := by decide +kernel
theorem dL_law_404 : decode cL_law 404 = .ok (.iadd, 1) := by decide +kernel
theorem dL_law_405 : decode cL_law 405 = .ok (.iaload, 1) := by decide +kernel
theorem dL_law_406 : decode cL_law 406 = .ok (.ifCond .eq 7, 3) := by decide +kernel
theorem dL_law_409 : decode cL_law 409 = .ok (.iconst 1, 1) := by decide +kernel
theorem dL_law_410 : decode cL_law 410 = .ok (.goto 4, 3) := by decide +kernel
theorem dL_law_413 : decode cL_law 413 = .ok (.iconst 0, 1) := by decide +kernel
theorem dL_law_414 : decode cL_law 414 = .ok (.aload_n 0, 1) := by decide +kernel
theorem dL_law_415 : decode cL_law 415 = .ok (.iload_n 3, 1) := by decide +kernel
theorem dL_law_416 : decode cL_law 416 = .ok (.iconst 3, 1) := by decide +kernel
theorem dL_law_417 : decode cL_law 417 = .ok (.iadd, 1) := by decide +kernel
theorem dL_law_418 : decode cL_law 418 = .ok (.iaload, 1) := by decide +kernel
theorem dL_law_419 : decode cL_law 419 = .ok (.aload_n 0, 1) := by decide +kernel
theorem dL_law_420 : decode cL_law 420 = .ok (.iload_n 3, 1) := by decide +kernel
theorem dL_law_421 : decode cL_law 421 = .ok (.iconst 4, 1) := by decide +kernel
theorem dL_law_422 : decode cL_law 422 = .ok (.iadd, 1) := by decide +kernel
theorem dL_law_423 : decode cL_law 423 = .ok (.iaload, 1) := by decide +kernel
theorem dL_law_424 : decode cL_law 424 = .ok (.invokevirtual 46, 3) := by decide +kernel
theorem dL_law_427 : decode cL_law 427 = .ok (.aload_n 2, 1) := by decide +kernel
theorem dL_law_428 : decode cL_law 428 = .ok (.aload_n 0, 1) := by decide +kernel
theorem dL_law_429 : decode cL_law 429 = .ok (.iload_n 3, 1) := by decide +kernel
theorem dL_law_430 : decode cL_law 430 = .ok (.iconst 1, 1) := by decide +kernel
theorem dL_law_431 : decode cL_law 431 = .ok (.iadd, 1) := by decide +kernel
theorem dL_law_432 : decode cL_law 432 = .ok (.iaload, 1) := by decide +kernel
theorem dL_law_433 : decode cL_law 433 = .ok (.aload_n 0, 1) := by decide +kernel
theorem dL_law_434 : decode cL_law 434 = .ok (.iload_n 3, 1) := by decide +kernel
theorem dL_law_435 : decode cL_law 435 = .ok (.iconst 2, 1) := by decide +kernel
theorem dL_law_436 : decode cL_law 436 = .ok (.iadd, 1) := by decide +kernel
theorem dL_law_437 : decode cL_law 437 = .ok (.iaload, 1) := by decide +kernel
theorem dL_law_438 : decode cL_law 438 = .ok (.ifCond .eq 7, 3) := by decide +kernel
theorem dL_law_441 : decode cL_law 441 = .ok (.iconst 1, 1) := by decide +kernel
theorem dL_law_442 : decode cL_law 442 = .ok (.goto 4, 3) := by decide +kernel
theorem dL_law_445 : decode cL_law 445 = .ok (.iconst 0, 1) := by decide +kernel
theorem dL_law_446 : decode cL_law 446 = .ok (.aload_n 0, 1) := by decide +kernel
theorem dL_law_447 : decode cL_law 447 = .ok (.iload_n 3, 1) := by decide +kernel
theorem dL_law_448 : decode cL_law 448 = .ok (.iconst 3, 1) := by decide +kernel
theorem dL_law_449 : decode cL_law 449 = .ok (.iadd, 1) := by decide +kernel
theorem dL_law_450 : decode cL_law 450 = .ok (.iaload, 1) := by decide +kernel
theorem dL_law_451 : decode cL_law 451 = .ok (.aload_n 0, 1) := by decide +kernel
theorem dL_law_452 : decode cL_law 452 = .ok (.iload_n 3, 1) := by decide +kernel
theorem dL_law_453 : decode cL_law 453 = .ok (.iconst 4, 1) := by decide +kernel
theorem dL_law_454 : decode cL_law 454 = .ok (.iadd, 1) := by decide +kernel
theorem dL_law_455 : decode cL_law 455 = .ok (.iaload, 1) := by decide +kernel
theorem dL_law_456 : decode cL_law 456 = .ok (.invokevirtual 50, 3) := by decide +kernel
theorem dL_law_459 : decode cL_law 459 = .ok (.if_icmp .eq 879, 3) := by decide +kernel
theorem dL_law_462 : decode cL_law 462 = .ok (.iconst 0, 1) := by decide +kernel
theorem dL_law_463 : decode cL_law 463 = .ok (.ireturn, 1) := by decide +kernel
theorem dL_law_464 : decode cL_law 464 = .ok (.aload_n 1, 1) := by decide +kernel
theorem dL_law_465 : decode cL_law 465 = .ok (.aload_n 0, 1) := by decide +kernel
theorem dL_law_466 : decode cL_law 466 = .ok (.iload_n 3, 1) := by decide +kernel
theorem dL_law_467 : decode cL_law 467 = .ok (.iconst 1, 1) := by decide +kernel
theorem dL_law_468 : decode cL_law 468 = .ok (.iadd, 1) := by decide +kernel
theorem dL_law_469 : decode cL_law 469 = .ok (.iaload, 1) := by decide +kernel
theorem dL_law_470 : decode cL_law 470 = .ok (.aload_n 0, 1) := by decide +kernel
theorem dL_law_471 : decode cL_law 471 = .ok (.iload_n 3, 1) := by decide +kernel
theorem dL_law_472 : decode cL_law 472 = .ok (.iconst 2, 1) := by decide +kernel
theorem dL_law_473 : decode cL_law 473 = .ok (.iadd, 1) := by decide +kernel
theorem dL_law_474 : decode cL_law 474 = .ok (.iaload, 1) := by decide +kernel
theorem dL_law_475 : decode cL_law 475 = .ok (.invokevirtual 51, 3) := by decide +kernel
theorem dL_law_478 : decode cL_law 478 = .ok (.aload_n 2, 1) := by decide +kernel
theorem dL_law_479 : decode cL_law 479 = .ok (.aload_n 0, 1) := by decide +kernel
theorem dL_law_480 : decode cL_law 480 = .ok (.iload_n 3, 1) := by decide +kernel
theorem dL_law_481 : decode cL_law 481 = .ok (.iconst 1, 1) := by decide +kernel
theorem dL_law_482 : decode cL_law 482 = .ok (.iadd, 1) := by decide +kernel
theorem dL_law_483 : decode cL_law 483 = .ok (.iaload, 1) := by decide +kernel
theorem dL_law_484 : decode cL_law 484 = .ok (.aload_n 0, 1) := by decide +kernel
theorem dL_law_485 : decode cL_law 485 = .ok (.iload_n 3, 1) := by decide +kernel
theorem dL_law_486 : decode cL_law 486 = .ok (.iconst 2, 1) := by decide +kernel
theorem dL_law_487 : decode cL_law 487 = .ok (.iadd, 1) := by decide +kernel
theorem dL_law_488 : decode cL_law 488 = .ok (.iaload, 1) := by decide +kernel
theorem dL_law_489 : decode cL_law 489 = .ok (.invokevirtual 54, 3) := by decide +kernel
theorem dL_law_492 : decode cL_law 492 = .ok (.if_icmp .eq 846, 3) := by decide +kernel
theorem dL_law_495 : decode cL_law 495 = .ok (.iconst 0, 1) := by decide +kernel
theorem dL_law_496 : decode cL_law 496 = .ok (.ireturn, 1) := by decide +kernel
theorem dL_law_497 : decode cL_law 497 = .ok (.aload_n 1, 1) := by decide +kernel
theorem dL_law_498 : decode cL_law 498 = .ok (.invokevirtual 55, 3) := by decide +kernel
theorem dL_law_501 : decode cL_law 501 = .ok (.aload_n 2, 1) := by decide +kernel
theorem dL_law_502 : decode cL_law 502 = .ok (.invokevirtual 58, 3) := by decide +kernel
theorem dL_law_505 : decode cL_law 505 = .ok (.if_icmp .eq 833, 3) := by decide +kernel
theorem dL_law_508 : decode cL_law 508 = .ok (.iconst 0, 1) := by decide +kernel
theorem dL_law_509 : decode cL_law 509 = .ok (.ireturn, 1) := by decide +kernel
theorem dL_law_510 : decode cL_law 510 = .ok (.aload_n 1, 1) := by decide +kernel
theorem dL_law_511 : decode cL_law 511 = .ok (.aload_n 0, 1) := by decide +kernel
theorem dL_law_512 : decode cL_law 512 = .ok (.iload_n 3, 1) := by decide +kernel
theorem dL_law_513 : decode cL_law 513 = .ok (.iconst 1, 1) := by decide +kernel
theorem dL_law_514 : decode cL_law 514 = .ok (.iadd, 1) := by decide +kernel
theorem dL_law_515 : decode cL_law 515 = .ok (.iaload, 1) := by decide +kernel
theorem dL_law_516 : decode cL_law 516 = .ok (.aload_n 0, 1) := by decide +kernel
theorem dL_law_517 : decode cL_law 517 = .ok (.iload_n 3, 1) := by decide +kernel
theorem dL_law_518 : decode cL_law 518 = .ok (.iconst 2, 1) := by decide +kernel
theorem dL_law_519 : decode cL_law 519 = .ok (.iadd, 1) := by decide +kernel
theorem dL_law_520 : decode cL_law 520 = .ok (.iaload, 1) := by decide +kernel
theorem dL_law_521 : decode cL_law 521 = .ok (.aload_n 0, 1) := by decide +kernel
theorem dL_law_522 : decode cL_law 522 = .ok (.iload_n 3, 1) := by decide +kernel
theorem dL_law_523 : decode cL_law 523 = .ok (.iconst 3, 1) := by decide +kernel
theorem dL_law_524 : decode cL_law 524 = .ok (.iadd, 1) := by decide +kernel
theorem dL_law_525 : decode cL_law 525 = .ok (.iaload, 1) := by decide +kernel
theorem dL_law_526 : decode cL_law 526 = .ok (.invokevirtual 59, 3) := by decide +kernel
theorem dL_law_529 : decode cL_law 529 = .ok (.aload_n 2, 1) := by decide +kernel
theorem dL_law_530 : decode cL_law 530 = .ok (.aload_n 0, 1) := by decide +kernel
theorem dL_law_531 : decode cL_law 531 = .ok (.iload_n 3, 1) := by decide +kernel
theorem dL_law_532 : decode cL_law 532 = .ok (.iconst 1, 1) := by decide +kernel
theorem dL_law_533 : decode cL_law 533 = .ok (.iadd, 1) := by decide +kernel
theorem dL_law_534 : decode cL_law 534 = .ok (.iaload, 1) := by decide +kernel
theorem dL_law_535 : decode cL_law 535 = .ok (.aload_n 0, 1) := by decide +kernel
theorem dL_law_536 : decode cL_law 536 = .ok (.iload_n 3, 1) := by decide +kernel
theorem dL_law_537 : decode cL_law 537 = .ok (.iconst 2, 1) := by decide +kernel
theorem dL_law_538 : decode cL_law 538 = .ok (.iadd, 1) := by decide +kernel
theorem dL_law_539 : decode cL_law 539 = .ok (.iaload, 1) := by decide +kernel
theorem dL_law_540 : decode cL_law 540 = .ok (.aload_n 0, 1) := by decide +kernel
theorem dL_law_541 : decode cL_law 541 = .ok (.iload_n 3, 1) := by decide +kernel
theorem dL_law_542 : decode cL_law 542 = .ok (.iconst 3, 1) := by decide +kernel
theorem dL_law_543 : decode cL_law 543 = .ok (.iadd, 1) := by decide +kernel
theorem dL_law_544 : decode cL_law 544 = .ok (.iaload, 1) := by decide +kernel
theorem dL_law_545 : decode cL_law 545 = .ok (.invokevirtual 62, 3) := by decide +kernel
theorem dL_law_548 : decode cL_law 548 = .ok (.if_icmp .eq 790, 3) := by decide +kernel
theorem dL_law_551 : decode cL_law 551 = .ok (.iconst 0, 1) := by decide +kernel
theorem dL_law_552 : decode cL_law 552 = .ok (.ireturn, 1) := by decide +kernel
theorem dL_law_553 : decode cL_law 553 = .ok (.aload_n 1, 1) := by decide +kernel
theorem dL_law_554 : decode cL_law 554 = .ok (.aload_n 0, 1) := by decide +kernel
theorem dL_law_555 : decode cL_law 555 = .ok (.iload_n 3, 1) := by decide +kernel
theorem dL_law_556 : decode cL_law 556 = .ok (.iconst 1, 1) := by decide +kernel
theorem dL_law_557 : decode cL_law 557 = .ok (.iadd, 1) := by decide +kernel
theorem dL_law_558 : decode cL_law 558 = .ok (.iaload, 1) := by decide +kernel
theorem dL_law_559 : decode cL_law 559 = .ok (.aload_n 0, 1) := by decide +kernel
theorem dL_law_560 : decode cL_law 560 = .ok (.iload_n 3, 1) := by decide +kernel
theorem dL_law_561 : decode cL_law 561 = .ok (.iconst 2, 1) := by decide +kernel
theorem dL_law_562 : decode cL_law 562 = .ok (.iadd, 1) := by decide +kernel
theorem dL_law_563 : decode cL_law 563 = .ok (.iaload, 1) := by decide +kernel
theorem dL_law_564 : decode cL_law 564 = .ok (.aload_n 0, 1) := by decide +kernel
theorem dL_law_565 : decode cL_law 565 = .ok (.iload_n 3, 1) := by decide +kernel
theorem dL_law_566 : decode cL_law 566 = .ok (.iconst 3, 1) := by decide +kernel
theorem dL_law_567 : decode cL_law 567 = .ok (.iadd, 1) := by decide +kernel
theorem dL_law_568 : decode cL_law 568 = .ok (.iaload, 1) := by decide +kernel
theorem dL_law_569 : decode cL_law 569 = .ok (.invokevirtual 63, 3) := by decide +kernel
theorem dL_law_572 : decode cL_law 572 = .ok (.aload_n 2, 1) := by decide +kernel
theorem dL_law_573 : decode cL_law 573 = .ok (.aload_n 0, 1) := by decide +kernel
theorem dL_law_574 : decode cL_law 574 = .ok (.iload_n 3, 1) := by decide +kernel
theorem dL_law_575 : decode cL_law 575 = .ok (.iconst 1, 1) := by decide +kernel
theorem dL_law_576 : decode cL_law 576 = .ok (.iadd, 1) := by decide +kernel
theorem dL_law_577 : decode cL_law 577 = .ok (.iaload, 1) := by decide +kernel
theorem dL_law_578 : decode cL_law 578 = .ok (.aload_n 0, 1) := by decide +kernel
theorem dL_law_579 : decode cL_law 579 = .ok (.iload_n 3, 1) := by decide +kernel
theorem dL_law_580 : decode cL_law 580 = .ok (.iconst 2, 1) := by decide +kernel
theorem dL_law_581 : decode cL_law 581 = .ok (.iadd, 1) := by decide +kernel
theorem dL_law_582 : decode cL_law 582 = .ok (.iaload, 1) := by decide +kernel
theorem dL_law_583 : decode cL_law 583 = .ok (.aload_n 0, 1) := by decide +kernel
theorem dL_law_584 : decode cL_law 584 = .ok (.iload_n 3, 1) := by decide +kernel
theorem dL_law_585 : decode cL_law 585 = .ok (.iconst 3, 1) := by decide +kernel
theorem dL_law_586 : decode cL_law 586 = .ok (.iadd, 1) := by decide +kernel
theorem dL_law_587 : decode cL_law 587 = .ok (.iaload, 1) := by decide +kernel
theorem dL_law_588 : decode cL_law 588 = .ok (.invokevirtual 66, 3) := by decide +kernel
theorem dL_law_591 : decode cL_law 591 = .ok (.if_icmp .eq 747, 3) := by decide +kernel
theorem dL_law_594 : decode cL_law 594 = .ok (.iconst 0, 1) := by decide +kernel
theorem dL_law_595 : decode cL_law 595 = .ok (.ireturn, 1) := by decide +kernel
theorem dL_law_596 : decode cL_law 596 = .ok (.aload_n 1, 1) := by decide +kernel
theorem dL_law_597 : decode cL_law 597 = .ok (.aload_n 0, 1) := by decide +kernel
theorem dL_law_598 : decode cL_law 598 = .ok (.iload_n 3, 1) := by decide +kernel
theorem dL_law_599 : decode cL_law 599 = .ok (.iconst 1, 1) := by decide +kernel
theorem dL_law_600 : decode cL_law 600 = .ok (.iadd, 1) := by decide +kernel
theorem dL_law_601 : decode cL_law 601 = .ok (.iaload, 1) := by decide +kernel
theorem dL_law_602 : decode cL_law 602 = .ok (.aload_n 0, 1) := by decide +kernel
theorem dL_law_603 : decode cL_law 603 = .ok (.iload_n 3, 1) := by decide +kernel
theorem dL_law_604 : decode cL_law 604 = .ok (.iconst 2, 1) := by decide +kernel
theorem dL_law_605 : decode cL_law 605 = .ok (.iadd, 1) := by decide +kernel
theorem dL_law_606 : decode cL_law 606 = .ok (.iaload, 1) := by decide +kernel
theorem dL_law_607 : decode cL_law 607 = .ok (.aload_n 0, 1) := by decide +kernel
theorem dL_law_608 : decode cL_law 608 = .ok (.iload_n 3, 1) := by decide +kernel
theorem dL_law_609 : decode cL_law 609 = .ok (.iconst 3, 1) := by decide +kernel
theorem dL_law_610 : decode cL_law 610 = .ok (.iadd, 1) := by decide +kernel
theorem dL_law_611 : decode cL_law 611 = .ok (.iaload, 1) := by decide +kernel
theorem dL_law_612 : decode cL_law 612 = .ok (.aload_n 0, 1) := by decide +kernel
theorem dL_law_613 : decode cL_law 613 = .ok (.iload_n 3, 1) := by decide +kernel
theorem dL_law_614 : decode cL_law 614 = .ok (.iconst 4, 1) := by decide +kernel
theorem dL_law_615 : decode cL_law 615 = .ok (.iadd, 1) := by decide +kernel
theorem dL_law_616 : decode cL_law 616 = .ok (.iaload, 1) := by decide +kernel
theorem dL_law_617 : decode cL_law 617 = .ok (.aload_n 0, 1) := by decide +kernel
theorem dL_law_618 : decode cL_law 618 = .ok (.iload_n 3, 1) := by decide +kernel
theorem dL_law_619 : decode cL_law 619 = .ok (.iconst 5, 1) := by decide +kernel
theorem dL_law_620 : decode cL_law 620 = .ok (.iadd, 1) := by decide +kernel
theorem dL_law_621 : decode cL_law 621 = .ok (.iaload, 1) := by decide +kernel
theorem dL_law_622 : decode cL_law 622 = .ok (.invokevirtual 67, 3) := by decide +kernel
theorem dL_law_625 : decode cL_law 625 = .ok (.aload_n 2, 1) := by decide +kernel
theorem dL_law_626 : decode cL_law 626 = .ok (.aload_n 0, 1) := by decide +kernel
theorem dL_law_627 : decode cL_law 627 = .ok (.iload_n 3, 1) := by decide +kernel
theorem dL_law_628 : decode cL_law 628 = .ok (.iconst 1, 1) := by decide +kernel
theorem dL_law_629 : decode cL_law 629 = .ok (.iadd, 1) := by decide +kernel
theorem dL_law_630 : decode cL_law 630 = .ok (.iaload, 1) := by decide +kernel
theorem dL_law_631 : decode cL_law 631 = .ok (.aload_n 0, 1) := by decide +kernel
theorem dL_law_632 : decode cL_law 632 = .ok (.iload_n 3, 1) := by decide +kernel
theorem dL_law_633 : decode cL_law 633 = .ok (.iconst 2, 1) := by decide +kernel
theorem dL_law_634 : decode cL_law 634 = .ok (.iadd, 1) := by decide +kernel
theorem dL_law_635 : decode cL_law 635 = .ok (.iaload, 1) := by decide +kernel
theorem dL_law_636 : decode cL_law 636 = .ok (.aload_n 0, 1) := by decide +kernel
theorem dL_law_637 : decode cL_law 637 = .ok (.iload_n 3, 1) := by decide +kernel
theorem dL_law_638 : decode cL_law 638 = .ok (.iconst 3, 1) := by decide +kernel
theorem dL_law_639 : decode cL_law 639 = .ok (.iadd, 1) := by decide +kernel
theorem dL_law_640 : decode cL_law 640 = .ok (.iaload, 1) := by decide +kernel
theorem dL_law_641 : decode cL_law 641 = .ok (.aload_n 0, 1) := by decide +kernel
theorem dL_law_642 : decode cL_law 642 = .ok (.iload_n 3, 1) := by decide +kernel
theorem dL_law_643 : decode cL_law 643 = .ok (.iconst 4, 1) := by decide +kernel
theorem dL_law_644 : decode cL_law 644 = .ok (.iadd, 1) := by decide +kernel
theorem dL_law_645 : decode cL_law 645 = .ok (.iaload, 1) := by decide +kernel
theorem dL_law_646 : decode cL_law 646 = .ok (.aload_n 0, 1) := by decide +kernel
theorem dL_law_647 : decode cL_law 647 = .ok (.iload_n 3, 1) := by decide +kernel
theorem dL_law_648 : decode cL_law 648 = .ok (.iconst 5, 1) := by decide +kernel
theorem dL_law_649 : decode cL_law 649 = .ok (.iadd, 1) := by decide +kernel
theorem dL_law_650 : decode cL_law 650 = .ok (.iaload, 1) := by decide +kernel
theorem dL_law_651 : decode cL_law 651 = .ok (.invokevirtual 71, 3) := by decide +kernel
theorem dL_law_654 : decode cL_law 654 = .ok (.if_icmp .eq 684, 3) := by decide +kernel
theorem dL_law_657 : decode cL_law 657 = .ok (.iconst 0, 1) := by decide +kernel
theorem dL_law_658 : decode cL_law 658 = .ok (.ireturn, 1) := by decide +kernel
theorem dL_law_659 : decode cL_law 659 = .ok (.aload_n 1, 1) := by decide +kernel
theorem dL_law_660 : decode cL_law 660 = .ok (.aload_n 0, 1) := by decide +kernel
theorem dL_law_661 : decode cL_law 661 = .ok (.iload_n 3, 1) := by decide +kernel
theorem dL_law_662 : decode cL_law 662 = .ok (.iconst 1, 1) := by decide +kernel
theorem dL_law_663 : decode cL_law 663 = .ok (.iadd, 1) := by decide +kernel
theorem dL_law_664 : decode cL_law 664 = .ok (.iaload, 1) := by decide +kernel
theorem dL_law_665 : decode cL_law 665 = .ok (.invokevirtual 72, 3) := by decide +kernel
theorem dL_law_668 : decode cL_law 668 = .ok (.aload_n 2, 1) := by decide +kernel
theorem dL_law_669 : decode cL_law 669 = .ok (.aload_n 0, 1) := by decide +kernel
theorem dL_law_670 : decode cL_law 670 = .ok (.iload_n 3, 1) := by decide +kernel
theorem dL_law_671 : decode cL_law 671 = .ok (.iconst 1, 1) := by decide +kernel
theorem dL_law_672 : decode cL_law 672 = .ok (.iadd, 1) := by decide +kernel
theorem dL_law_673 : decode cL_law 673 = .ok (.iaload, 1) := by decide +kernel
theorem dL_law_674 : decode cL_law 674 = .ok (.invokevirtual 75, 3) := by decide +kernel
theorem dL_law_677 : decode cL_law 677 = .ok (.if_icmp .eq 661, 3) := by decide +kernel
theorem dL_law_680 : decode cL_law 680 = .ok (.iconst 0, 1) := by decide +kernel
theorem dL_law_681 : decode cL_law 681 = .ok (.ireturn, 1) := by decide +kernel
theorem dL_law_682 : decode cL_law 682 = .ok (.aload_n 1, 1) := by decide +kernel
theorem dL_law_683 : decode cL_law 683 = .ok (.aload_n 0, 1) := by decide +kernel
theorem dL_law_684 : decode cL_law 684 = .ok (.iload_n 3, 1) := by decide +kernel
theorem dL_law_685 : decode cL_law 685 = .ok (.iconst 1, 1) := by decide +kernel
theorem dL_law_686 : decode cL_law 686 = .ok (.iadd, 1) := by decide +kernel
theorem dL_law_687 : decode cL_law 687 = .ok (.iaload, 1) := by decide +kernel
theorem dL_law_688 : decode cL_law 688 = .ok (.invokevirtual 76, 3) := by decide +kernel
theorem dL_law_691 : decode cL_law 691 = .ok (.aload_n 2, 1) := by decide +kernel
theorem dL_law_692 : decode cL_law 692 = .ok (.aload_n 0, 1) := by decide +kernel
theorem dL_law_693 : decode cL_law 693 = .ok (.iload_n 3, 1) := by decide +kernel
theorem dL_law_694 : decode cL_law 694 = .ok (.iconst 1, 1) := by decide +kernel
theorem dL_law_695 : decode cL_law 695 = .ok (.iadd, 1) := by decide +kernel
theorem dL_law_696 : decode cL_law 696 = .ok (.iaload, 1) := by decide +kernel
theorem dL_law_697 : decode cL_law 697 = .ok (.invokevirtual 79, 3) := by decide +kernel
theorem dL_law_700 : decode cL_law 700 = .ok (.if_icmp .eq 638, 3) := by decide +kernel
theorem dL_law_703 : decode cL_law 703 = .ok (.iconst 0, 1) := by decide +kernel
theorem dL_law_704 : decode cL_law 704 = .ok (.ireturn, 1) := by decide +kernel
theorem dL_law_705 : decode cL_law 705 = .ok (.aload_n 1, 1) := by decide +kernel
theorem dL_law_706 : decode cL_law 706 = .ok (.aload_n 0, 1) := by decide +kernel
theorem dL_law_707 : decode cL_law 707 = .ok (.iload_n 3, 1) := by decide +kernel
theorem dL_law_708 : decode cL_law 708 = .ok (.iconst 1, 1) := by decide +kernel
theorem dL_law_709 : decode cL_law 709 = .ok (.iadd, 1) := by decide +kernel
theorem dL_law_710 : decode cL_law 710 = .ok (.iaload, 1) := by decide +kernel
theorem dL_law_711 : decode cL_law 711 = .ok (.aload_n 0, 1) := by decide +kernel
theorem dL_law_712 : decode cL_law 712 = .ok (.iload_n 3, 1) := by decide +kernel
theorem dL_law_713 : decode cL_law 713 = .ok (.iconst 2, 1) := by decide +kernel
theorem dL_law_714 : decode cL_law 714 = .ok (.iadd, 1) := by decide +kernel
theorem dL_law_715 : decode cL_law 715 = .ok (.iaload, 1) := by decide +kernel
theorem dL_law_716 : decode cL_law 716 = .ok (.invokevirtual 80, 3) := by decide +kernel
theorem dL_law_719 : decode cL_law 719 = .ok (.aload_n 2, 1) := by decide +kernel
theorem dL_law_720 : decode cL_law 720 = .ok (.aload_n 0, 1) := by decide +kernel
theorem dL_law_721 : decode cL_law 721 = .ok (.iload_n 3, 1) := by decide +kernel
theorem dL_law_722 : decode cL_law 722 = .ok (.iconst 1, 1) := by decide +kernel
theorem dL_law_723 : decode cL_law 723 = .ok (.iadd, 1) := by decide +kernel
theorem dL_law_724 : decode cL_law 724 = .ok (.iaload, 1) := by decide +kernel
theorem dL_law_725 : decode cL_law 725 = .ok (.aload_n 0, 1) := by decide +kernel
theorem dL_law_726 : decode cL_law 726 = .ok (.iload_n 3, 1) := by decide +kernel
theorem dL_law_727 : decode cL_law 727 = .ok (.iconst 2, 1) := by decide +kernel
theorem dL_law_728 : decode cL_law 728 = .ok (.iadd, 1) := by decide +kernel
theorem dL_law_729 : decode cL_law 729 = .ok (.iaload, 1) := by decide +kernel
theorem dL_law_730 : decode cL_law 730 = .ok (.invokevirtual 83, 3) := by decide +kernel
theorem dL_law_733 : decode cL_law 733 = .ok (.if_icmp .eq 605, 3) := by decide +kernel
theorem dL_law_736 : decode cL_law 736 = .ok (.iconst 0, 1) := by decide +kernel
theorem dL_law_737 : decode cL_law 737 = .ok (.ireturn, 1) := by decide +kernel
theorem dL_law_738 : decode cL_law 738 = .ok (.aload_n 1, 1) := by decide +kernel
theorem dL_law_739 : decode cL_law 739 = .ok (.aload_n 0, 1) := by decide +kernel
theorem dL_law_740 : decode cL_law 740 = .ok (.iload_n 3, 1) := by decide +kernel
theorem dL_law_741 : decode cL_law 741 = .ok (.iconst 1, 1) := by decide +kernel
theorem dL_law_742 : decode cL_law 742 = .ok (.iadd, 1) := by decide +kernel
theorem dL_law_743 : decode cL_law 743 = .ok (.iaload, 1) := by decide +kernel
theorem dL_law_744 : decode cL_law 744 = .ok (.aload_n 0, 1) := by decide +kernel
theorem dL_law_745 : decode cL_law 745 = .ok (.iload_n 3, 1) := by decide +kernel
theorem dL_law_746 : decode cL_law 746 = .ok (.iconst 2, 1) := by decide +kernel
theorem dL_law_747 : decode cL_law 747 = .ok (.iadd, 1) := by decide +kernel
theorem dL_law_748 : decode cL_law 748 = .ok (.iaload, 1) := by decide +kernel
theorem dL_law_749 : decode cL_law 749 = .ok (.invokevirtual 84, 3) := by decide +kernel
theorem dL_law_752 : decode cL_law 752 = .ok (.aload_n 2, 1) := by decide +kernel
theorem dL_law_753 : decode cL_law 753 = .ok (.aload_n 0, 1) := by decide +kernel
theorem dL_law_754 : decode cL_law 754 = .ok (.iload_n 3, 1) := by decide +kernel
theorem dL_law_755 : decode cL_law 755 = .ok (.iconst 1, 1) := by decide +kernel
theorem dL_law_756 : decode cL_law 756 = .ok (.iadd, 1) := by decide +kernel
theorem dL_law_757 : decode cL_law 757 = .ok (.iaload, 1) := by decide +kernel
theorem dL_law_758 : decode cL_law 758 = .ok (.aload_n 0, 1) := by decide +kernel
theorem dL_law_759 : decode cL_law 759 = .ok (.iload_n 3, 1) := by decide +kernel
theorem dL_law_760 : decode cL_law 760 = .ok (.iconst 2, 1) := by decide +kernel
theorem dL_law_761 : decode cL_law 761 = .ok (.iadd, 1) := by decide +kernel
theorem dL_law_762 : decode cL_law 762 = .ok (.iaload, 1) := by decide +kernel
theorem dL_law_763 : decode cL_law 763 = .ok (.invokevirtual 87, 3) := by decide +kernel
theorem dL_law_766 : decode cL_law 766 = .ok (.if_icmp .eq 572, 3) := by decide +kernel
theorem dL_law_769 : decode cL_law 769 = .ok (.iconst 0, 1) := by decide +kernel
theorem dL_law_770 : decode cL_law 770 = .ok (.ireturn, 1) := by decide +kernel
theorem dL_law_771 : decode cL_law 771 = .ok (.aload_n 1, 1) := by decide +kernel
end
section
theorem dL_law_772 : decode cL_law 772 = .ok (.aload_n 0, 1) := by decide +kernel
theorem dL_law_773 : decode cL_law 773 = .ok (.iload_n 3, 1) := by decide +kernel
theorem dL_law_774 : decode cL_law 774 = .ok (.iconst 1, 1) := by decide +kernel
theorem dL_law_775 : decode cL_law 775 = .ok (.iadd, 1) := by decide +kernel
theorem dL_law_776 : decode cL_law 776 = .ok (.iaload, 1) := by decide +kernel
theorem dL_law_777 : decode cL_law 777 = .ok (.aload_n 0, 1) := by decide +kernel
theorem dL_law_778 : decode cL_law 778 = .ok (.iload_n 3, 1) := by decide +kernel
theorem dL_law_779 : decode cL_law 779 = .ok (.iconst 2, 1) := by decide +kernel
theorem dL_law_780 : decode cL_law 780 = .ok (.iadd, 1) := by decide +kernel
theorem dL_law_781 : decode cL_law 781 = .ok (.iaload, 1) := by decide +kernel
theorem dL_law_782 : decode cL_law 782 = .ok (.aload_n 0, 1) := by decide +kernel
theorem dL_law_783 : decode cL_law 783 = .ok (.iload_n 3, 1) := by decide +kernel
theorem dL_law_784 : decode cL_law 784 = .ok (.iconst 3, 1) := by decide +kernel
theorem dL_law_785 : decode cL_law 785 = .ok (.iadd, 1) := by decide +kernel
theorem dL_law_786 : decode cL_law 786 = .ok (.iaload, 1) := by decide +kernel
theorem dL_law_787 : decode cL_law 787 = .ok (.aload_n 0, 1) := by decide +kernel
theorem dL_law_788 : decode cL_law 788 = .ok (.iload_n 3, 1) := by decide +kernel
theorem dL_law_789 : decode cL_law 789 = .ok (.iconst 4, 1) := by decide +kernel
theorem dL_law_790 : decode cL_law 790 = .ok (.iadd, 1) := by decide +kernel
theorem dL_law_791 : decode cL_law 791 = .ok (.iaload, 1) := by decide +kernel
theorem dL_law_792 : decode cL_law 792 = .ok (.invokevirtual 88, 3) := by decide +kernel
theorem dL_law_795 : decode cL_law 795 = .ok (.aload_n 2, 1) := by decide +kernel
theorem dL_law_796 : decode cL_law 796 = .ok (.aload_n 0, 1) := by decide +kernel
theorem dL_law_797 : decode cL_law 797 = .ok (.iload_n 3, 1) := by decide +kernel
theorem dL_law_798 : decode cL_law 798 = .ok (.iconst 1, 1) := by decide +kernel
theorem dL_law_799 : decode cL_law 799 = .ok (.iadd, 1) := by decide +kernel
theorem dL_law_800 : decode cL_law 800 = .ok (.iaload, 1) := by decide +kernel
theorem dL_law_801 : decode cL_law 801 = .ok (.aload_n 0, 1) := by decide +kernel
theorem dL_law_802 : decode cL_law 802 = .ok (.iload_n 3, 1) := by decide +kernel
theorem dL_law_803 : decode cL_law 803 = .ok (.iconst 2, 1) := by decide +kernel
theorem dL_law_804 : decode cL_law 804 = .ok (.iadd, 1) := by decide +kernel
theorem dL_law_805 : decode cL_law 805 = .ok (.iaload, 1) := by decide +kernel
theorem dL_law_806 : decode cL_law 806 = .ok (.aload_n 0, 1) := by decide +kernel
theorem dL_law_807 : decode cL_law 807 = .ok (.iload_n 3, 1) := by decide +kernel
theorem dL_law_808 : decode cL_law 808 = .ok (.iconst 3, 1) := by decide +kernel
theorem dL_law_809 : decode cL_law 809 = .ok (.iadd, 1) := by decide +kernel
theorem dL_law_810 : decode cL_law 810 = .ok (.iaload, 1) := by decide +kernel
theorem dL_law_811 : decode cL_law 811 = .ok (.aload_n 0, 1) := by decide +kernel
theorem dL_law_812 : decode cL_law 812 = .ok (.iload_n 3, 1) := by decide +kernel
theorem dL_law_813 : decode cL_law 813 = .ok (.iconst 4, 1) := by decide +kernel
theorem dL_law_814 : decode cL_law 814 = .ok (.iadd, 1) := by decide +kernel
theorem dL_law_815 : decode cL_law 815 = .ok (.iaload, 1) := by decide +kernel
theorem dL_law_816 : decode cL_law 816 = .ok (.invokevirtual 91, 3) := by decide +kernel
theorem dL_law_819 : decode cL_law 819 = .ok (.if_icmp .eq 519, 3) := by decide +kernel
theorem dL_law_822 : decode cL_law 822 = .ok (.iconst 0, 1) := by decide +kernel
theorem dL_law_823 : decode cL_law 823 = .ok (.ireturn, 1) := by decide +kernel
theorem dL_law_824 : decode cL_law 824 = .ok (.aload_n 1, 1) := by decide +kernel
theorem dL_law_825 : decode cL_law 825 = .ok (.aload_n 0, 1) := by decide +kernel
theorem dL_law_826 : decode cL_law 826 = .ok (.iload_n 3, 1) := by decide +kernel
theorem dL_law_827 : decode cL_law 827 = .ok (.iconst 1, 1) := by decide +kernel
theorem dL_law_828 : decode cL_law 828 = .ok (.iadd, 1) := by decide +kernel
theorem dL_law_829 : decode cL_law 829 = .ok (.iaload, 1) := by decide +kernel
theorem dL_law_830 : decode cL_law 830 = .ok (.aload_n 0, 1) := by decide +kernel
theorem dL_law_831 : decode cL_law 831 = .ok (.iload_n 3, 1) := by decide +kernel
theorem dL_law_832 : decode cL_law 832 = .ok (.iconst 2, 1) := by decide +kernel
theorem dL_law_833 : decode cL_law 833 = .ok (.iadd, 1) := by decide +kernel
theorem dL_law_834 : decode cL_law 834 = .ok (.iaload, 1) := by decide +kernel
theorem dL_law_835 : decode cL_law 835 = .ok (.invokevirtual 92, 3) := by decide +kernel
theorem dL_law_838 : decode cL_law 838 = .ok (.aload_n 2, 1) := by decide +kernel
theorem dL_law_839 : decode cL_law 839 = .ok (.aload_n 0, 1) := by decide +kernel
theorem dL_law_840 : decode cL_law 840 = .ok (.iload_n 3, 1) := by decide +kernel
theorem dL_law_841 : decode cL_law 841 = .ok (.iconst 1, 1) := by decide +kernel
theorem dL_law_842 : decode cL_law 842 = .ok (.iadd, 1) := by decide +kernel
theorem dL_law_843 : decode cL_law 843 = .ok (.iaload, 1) := by decide +kernel
theorem dL_law_844 : decode cL_law 844 = .ok (.aload_n 0, 1) := by decide +kernel
theorem dL_law_845 : decode cL_law 845 = .ok (.iload_n 3, 1) := by decide +kernel
theorem dL_law_846 : decode cL_law 846 = .ok (.iconst 2, 1) := by decide +kernel
theorem dL_law_847 : decode cL_law 847 = .ok (.iadd, 1) := by decide +kernel
theorem dL_law_848 : decode cL_law 848 = .ok (.iaload, 1) := by decide +kernel
theorem dL_law_849 : decode cL_law 849 = .ok (.invokevirtual 95, 3) := by decide +kernel
theorem dL_law_852 : decode cL_law 852 = .ok (.if_icmp .eq 486, 3) := by decide +kernel
theorem dL_law_855 : decode cL_law 855 = .ok (.iconst 0, 1) := by decide +kernel
theorem dL_law_856 : decode cL_law 856 = .ok (.ireturn, 1) := by decide +kernel
theorem dL_law_857 : decode cL_law 857 = .ok (.aload_n 1, 1) := by decide +kernel
theorem dL_law_858 : decode cL_law 858 = .ok (.aload_n 0, 1) := by decide +kernel
theorem dL_law_859 : decode cL_law 859 = .ok (.iload_n 3, 1) := by decide +kernel
theorem dL_law_860 : decode cL_law 860 = .ok (.iconst 1, 1) := by decide +kernel
theorem dL_law_861 : decode cL_law 861 = .ok (.iadd, 1) := by decide +kernel
theorem dL_law_862 : decode cL_law 862 = .ok (.iaload, 1) := by decide +kernel
theorem dL_law_863 : decode cL_law 863 = .ok (.invokevirtual 96, 3) := by decide +kernel
theorem dL_law_866 : decode cL_law 866 = .ok (.aload_n 2, 1) := by decide +kernel
theorem dL_law_867 : decode cL_law 867 = .ok (.aload_n 0, 1) := by decide +kernel
theorem dL_law_868 : decode cL_law 868 = .ok (.iload_n 3, 1) := by decide +kernel
theorem dL_law_869 : decode cL_law 869 = .ok (.iconst 1, 1) := by decide +kernel
theorem dL_law_870 : decode cL_law 870 = .ok (.iadd, 1) := by decide +kernel
theorem dL_law_871 : decode cL_law 871 = .ok (.iaload, 1) := by decide +kernel
theorem dL_law_872 : decode cL_law 872 = .ok (.invokevirtual 99, 3) := by decide +kernel
theorem dL_law_875 : decode cL_law 875 = .ok (.if_icmp .eq 463, 3) := by decide +kernel
theorem dL_law_878 : decode cL_law 878 = .ok (.iconst 0, 1) := by decide +kernel
theorem dL_law_879 : decode cL_law 879 = .ok (.ireturn, 1) := by decide +kernel
theorem dL_law_880 : decode cL_law 880 = .ok (.aload_n 1, 1) := by decide +kernel
theorem dL_law_881 : decode cL_law 881 = .ok (.aload_n 0, 1) := by decide +kernel
theorem dL_law_882 : decode cL_law 882 = .ok (.iload_n 3, 1) := by decide +kernel
theorem dL_law_883 : decode cL_law 883 = .ok (.iconst 1, 1) := by decide +kernel
theorem dL_law_884 : decode cL_law 884 = .ok (.iadd, 1) := by decide +kernel
theorem dL_law_885 : decode cL_law 885 = .ok (.iaload, 1) := by decide +kernel
theorem dL_law_886 : decode cL_law 886 = .ok (.aload_n 0, 1) := by decide +kernel
theorem dL_law_887 : decode cL_law 887 = .ok (.iload_n 3, 1) := by decide +kernel
theorem dL_law_888 : decode cL_law 888 = .ok (.iconst 2, 1) := by decide +kernel
theorem dL_law_889 : decode cL_law 889 = .ok (.iadd, 1) := by decide +kernel
theorem dL_law_890 : decode cL_law 890 = .ok (.iaload, 1) := by decide +kernel
theorem dL_law_891 : decode cL_law 891 = .ok (.invokevirtual 100, 3) := by decide +kernel
theorem dL_law_894 : decode cL_law 894 = .ok (.aload_n 2, 1) := by decide +kernel
theorem dL_law_895 : decode cL_law 895 = .ok (.aload_n 0, 1) := by decide +kernel
theorem dL_law_896 : decode cL_law 896 = .ok (.iload_n 3, 1) := by decide +kernel
theorem dL_law_897 : decode cL_law 897 = .ok (.iconst 1, 1) := by decide +kernel
theorem dL_law_898 : decode cL_law 898 = .ok (.iadd, 1) := by decide +kernel
theorem dL_law_899 : decode cL_law 899 = .ok (.iaload, 1) := by decide +kernel
theorem dL_law_900 : decode cL_law 900 = .ok (.aload_n 0, 1) := by decide +kernel
theorem dL_law_901 : decode cL_law 901 = .ok (.iload_n 3, 1) := by decide +kernel
theorem dL_law_902 : decode cL_law 902 = .ok (.iconst 2, 1) := by decide +kernel
theorem dL_law_903 : decode cL_law 903 = .ok (.iadd, 1) := by decide +kernel
theorem dL_law_904 : decode cL_law 904 = .ok (.iaload, 1) := by decide +kernel
theorem dL_law_905 : decode cL_law 905 = .ok (.invokevirtual 103, 3) := by decide +kernel
theorem dL_law_908 : decode cL_law 908 = .ok (.if_icmp .eq 430, 3) := by decide +kernel
theorem dL_law_911 : decode cL_law 911 = .ok (.iconst 0, 1) := by decide +kernel
theorem dL_law_912 : decode cL_law 912 = .ok (.ireturn, 1) := by decide +kernel
theorem dL_law_913 : decode cL_law 913 = .ok (.aload_n 1, 1) := by decide +kernel
theorem dL_law_914 : decode cL_law 914 = .ok (.aload_n 0, 1) := by decide +kernel
theorem dL_law_915 : decode cL_law 915 = .ok (.iload_n 3, 1) := by decide +kernel
theorem dL_law_916 : decode cL_law 916 = .ok (.iconst 1, 1) := by decide +kernel
theorem dL_law_917 : decode cL_law 917 = .ok (.iadd, 1) := by decide +kernel
theorem dL_law_918 : decode cL_law 918 = .ok (.iaload, 1) := by decide +kernel
theorem dL_law_919 : decode cL_law 919 = .ok (.invokevirtual 104, 3) := by decide +kernel
theorem dL_law_922 : decode cL_law 922 = .ok (.aload_n 2, 1) := by decide +kernel
theorem dL_law_923 : decode cL_law 923 = .ok (.aload_n 0, 1) := by decide +kernel
theorem dL_law_924 : decode cL_law 924 = .ok (.iload_n 3, 1) := by decide +kernel
theorem dL_law_925 : decode cL_law 925 = .ok (.iconst 1, 1) := by decide +kernel
theorem dL_law_926 : decode cL_law 926 = .ok (.iadd, 1) := by decide +kernel
theorem dL_law_927 : decode cL_law 927 = .ok (.iaload, 1) := by decide +kernel
theorem dL_law_928 : decode cL_law 928 = .ok (.invokevirtual 107, 3) := by decide +kernel
theorem dL_law_931 : decode cL_law 931 = .ok (.if_icmp .eq 407, 3) := by decide +kernel
theorem dL_law_934 : decode cL_law 934 = .ok (.iconst 0, 1) := by decide +kernel
theorem dL_law_935 : decode cL_law 935 = .ok (.ireturn, 1) := by decide +kernel
theorem dL_law_936 : decode cL_law 936 = .ok (.aload_n 1, 1) := by decide +kernel
theorem dL_law_937 : decode cL_law 937 = .ok (.aload_n 0, 1) := by decide +kernel
theorem dL_law_938 : decode cL_law 938 = .ok (.iload_n 3, 1) := by decide +kernel
theorem dL_law_939 : decode cL_law 939 = .ok (.iconst 1, 1) := by decide +kernel
theorem dL_law_940 : decode cL_law 940 = .ok (.iadd, 1) := by decide +kernel
theorem dL_law_941 : decode cL_law 941 = .ok (.iaload, 1) := by decide +kernel
theorem dL_law_942 : decode cL_law 942 = .ok (.aload_n 0, 1) := by decide +kernel
theorem dL_law_943 : decode cL_law 943 = .ok (.iload_n 3, 1) := by decide +kernel
theorem dL_law_944 : decode cL_law 944 = .ok (.iconst 2, 1) := by decide +kernel
theorem dL_law_945 : decode cL_law 945 = .ok (.iadd, 1) := by decide +kernel
theorem dL_law_946 : decode cL_law 946 = .ok (.iaload, 1) := by decide +kernel
theorem dL_law_947 : decode cL_law 947 = .ok (.invokevirtual 108, 3) := by decide +kernel
theorem dL_law_950 : decode cL_law 950 = .ok (.aload_n 2, 1) := by decide +kernel
theorem dL_law_951 : decode cL_law 951 = .ok (.aload_n 0, 1) := by decide +kernel
theorem dL_law_952 : decode cL_law 952 = .ok (.iload_n 3, 1) := by decide +kernel
theorem dL_law_953 : decode cL_law 953 = .ok (.iconst 1, 1) := by decide +kernel
theorem dL_law_954 : decode cL_law 954 = .ok (.iadd, 1) := by decide +kernel
theorem dL_law_955 : decode cL_law 955 = .ok (.iaload, 1) := by decide +kernel
theorem dL_law_956 : decode cL_law 956 = .ok (.aload_n 0, 1) := by decide +kernel
theorem dL_law_957 : decode cL_law 957 = .ok (.iload_n 3, 1) := by decide +kernel
theorem dL_law_958 : decode cL_law 958 = .ok (.iconst 2, 1) := by decide +kernel
theorem dL_law_959 : decode cL_law 959 = .ok (.iadd, 1) := by decide +kernel
theorem dL_law_960 : decode cL_law 960 = .ok (.iaload, 1) := by decide +kernel
theorem dL_law_961 : decode cL_law 961 = .ok (.invokevirtual 111, 3) := by decide +kernel
theorem dL_law_964 : decode cL_law 964 = .ok (.if_icmp .eq 374, 3) := by decide +kernel
theorem dL_law_967 : decode cL_law 967 = .ok (.iconst 0, 1) := by decide +kernel
theorem dL_law_968 : decode cL_law 968 = .ok (.ireturn, 1) := by decide +kernel
theorem dL_law_969 : decode cL_law 969 = .ok (.aload_n 1, 1) := by decide +kernel
theorem dL_law_970 : decode cL_law 970 = .ok (.aload_n 0, 1) := by decide +kernel
theorem dL_law_971 : decode cL_law 971 = .ok (.iload_n 3, 1) := by decide +kernel
theorem dL_law_972 : decode cL_law 972 = .ok (.iconst 1, 1) := by decide +kernel
theorem dL_law_973 : decode cL_law 973 = .ok (.iadd, 1) := by decide +kernel
theorem dL_law_974 : decode cL_law 974 = .ok (.iaload, 1) := by decide +kernel
theorem dL_law_975 : decode cL_law 975 = .ok (.aload_n 0, 1) := by decide +kernel
theorem dL_law_976 : decode cL_law 976 = .ok (.iload_n 3, 1) := by decide +kernel
theorem dL_law_977 : decode cL_law 977 = .ok (.iconst 2, 1) := by decide +kernel
theorem dL_law_978 : decode cL_law 978 = .ok (.iadd, 1) := by decide +kernel
theorem dL_law_979 : decode cL_law 979 = .ok (.iaload, 1) := by decide +kernel
theorem dL_law_980 : decode cL_law 980 = .ok (.invokevirtual 112, 3) := by decide +kernel
theorem dL_law_983 : decode cL_law 983 = .ok (.aload_n 2, 1) := by decide +kernel
theorem dL_law_984 : decode cL_law 984 = .ok (.aload_n 0, 1) := by decide +kernel
theorem dL_law_985 : decode cL_law 985 = .ok (.iload_n 3, 1) := by decide +kernel
theorem dL_law_986 : decode cL_law 986 = .ok (.iconst 1, 1) := by decide +kernel
theorem dL_law_987 : decode cL_law 987 = .ok (.iadd, 1) := by decide +kernel
theorem dL_law_988 : decode cL_law 988 = .ok (.iaload, 1) := by decide +kernel
theorem dL_law_989 : decode cL_law 989 = .ok (.aload_n 0, 1) := by decide +kernel
theorem dL_law_990 : decode cL_law 990 = .ok (.iload_n 3, 1) := by decide +kernel
theorem dL_law_991 : decode cL_law 991 = .ok (.iconst 2, 1) := by decide +kernel
theorem dL_law_992 : decode cL_law 992 = .ok (.iadd, 1) := by decide +kernel
theorem dL_law_993 : decode cL_law 993 = .ok (.iaload, 1) := by decide +kernel
theorem dL_law_994 : decode cL_law 994 = .ok (.invokevirtual 115, 3) := by decide +kernel
theorem dL_law_997 : decode cL_law 997 = .ok (.if_icmp .eq 341, 3) := by decide +kernel
theorem dL_law_1000 : decode cL_law 1000 = .ok (.iconst 0, 1) := by decide +kernel
theorem dL_law_1001 : decode cL_law 1001 = .ok (.ireturn, 1) := by decide +kernel
theorem dL_law_1002 : decode cL_law 1002 = .ok (.aload_n 1, 1) := by decide +kernel
theorem dL_law_1003 : decode cL_law 1003 = .ok (.aload_n 0, 1) := by decide +kernel
theorem dL_law_1004 : decode cL_law 1004 = .ok (.iload_n 3, 1) := by decide +kernel
theorem dL_law_1005 : decode cL_law 1005 = .ok (.iconst 1, 1) := by decide +kernel
theorem dL_law_1006 : decode cL_law 1006 = .ok (.iadd, 1) := by decide +kernel
theorem dL_law_1007 : decode cL_law 1007 = .ok (.iaload, 1) := by decide +kernel
theorem dL_law_1008 : decode cL_law 1008 = .ok (.aload_n 0, 1) := by decide +kernel
theorem dL_law_1009 : decode cL_law 1009 = .ok (.iload_n 3, 1) := by decide +kernel
theorem dL_law_1010 : decode cL_law 1010 = .ok (.iconst 2, 1) := by decide +kernel
theorem dL_law_1011 : decode cL_law 1011 = .ok (.iadd, 1) := by decide +kernel
theorem dL_law_1012 : decode cL_law 1012 = .ok (.iaload, 1) := by decide +kernel
theorem dL_law_1013 : decode cL_law 1013 = .ok (.invokevirtual 116, 3) := by decide +kernel
theorem dL_law_1016 : decode cL_law 1016 = .ok (.aload_n 2, 1) := by decide +kernel
theorem dL_law_1017 : decode cL_law 1017 = .ok (.aload_n 0, 1) := by decide +kernel
theorem dL_law_1018 : decode cL_law 1018 = .ok (.iload_n 3, 1) := by decide +kernel
theorem dL_law_1019 : decode cL_law 1019 = .ok (.iconst 1, 1) := by decide +kernel
theorem dL_law_1020 : decode cL_law 1020 = .ok (.iadd, 1) := by decide +kernel
theorem dL_law_1021 : decode cL_law 1021 = .ok (.iaload, 1) := by decide +kernel
theorem dL_law_1022 : decode cL_law 1022 = .ok (.aload_n 0, 1) := by decide +kernel
theorem dL_law_1023 : decode cL_law 1023 = .ok (.iload_n 3, 1) := by decide +kernel
theorem dL_law_1024 : decode cL_law 1024 = .ok (.iconst 2, 1) := by decide +kernel
theorem dL_law_1025 : decode cL_law 1025 = .ok (.iadd, 1) := by decide +kernel
theorem dL_law_1026 : decode cL_law 1026 = .ok (.iaload, 1) := by decide +kernel
theorem dL_law_1027 : decode cL_law 1027 = .ok (.invokevirtual 119, 3) := by decide +kernel
theorem dL_law_1030 : decode cL_law 1030 = .ok (.if_icmp .eq 308, 3) := by decide +kernel
theorem dL_law_1033 : decode cL_law 1033 = .ok (.iconst 0, 1) := by decide +kernel
theorem dL_law_1034 : decode cL_law 1034 = .ok (.ireturn, 1) := by decide +kernel
theorem dL_law_1035 : decode cL_law 1035 = .ok (.aload_n 1, 1) := by decide +kernel
theorem dL_law_1036 : decode cL_law 1036 = .ok (.aload_n 0, 1) := by decide +kernel
theorem dL_law_1037 : decode cL_law 1037 = .ok (.iload_n 3, 1) := by decide +kernel
theorem dL_law_1038 : decode cL_law 1038 = .ok (.iconst 1, 1) := by decide +kernel
theorem dL_law_1039 : decode cL_law 1039 = .ok (.iadd, 1) := by decide +kernel
theorem dL_law_1040 : decode cL_law 1040 = .ok (.iaload, 1) := by decide +kernel
theorem dL_law_1041 : decode cL_law 1041 = .ok (.aload_n 0, 1) := by decide +kernel
theorem dL_law_1042 : decode cL_law 1042 = .ok (.iload_n 3, 1) := by decide +kernel
theorem dL_law_1043 : decode cL_law 1043 = .ok (.iconst 2, 1) := by decide +kernel
theorem dL_law_1044 : decode cL_law 1044 = .ok (.iadd, 1) := by decide +kernel
theorem dL_law_1045 : decode cL_law 1045 = .ok (.iaload, 1) := by decide +kernel
theorem dL_law_1046 : decode cL_law 1046 = .ok (.invokevirtual 120, 3) := by decide +kernel
theorem dL_law_1049 : decode cL_law 1049 = .ok (.aload_n 2, 1) := by decide +kernel
theorem dL_law_1050 : decode cL_law 1050 = .ok (.aload_n 0, 1) := by decide +kernel
theorem dL_law_1051 : decode cL_law 1051 = .ok (.iload_n 3, 1) := by decide +kernel
theorem dL_law_1052 : decode cL_law 1052 = .ok (.iconst 1, 1) := by decide +kernel
theorem dL_law_1053 : decode cL_law 1053 = .ok (.iadd, 1) := by decide +kernel
theorem dL_law_1054 : decode cL_law 1054 = .ok (.iaload, 1) := by decide +kernel
theorem dL_law_1055 : decode cL_law 1055 = .ok (.aload_n 0, 1) := by decide +kernel
theorem dL_law_1056 : decode cL_law 1056 = .ok (.iload_n 3, 1) := by decide +kernel
theorem dL_law_1057 : decode cL_law 1057 = .ok (.iconst 2, 1) := by decide +kernel
theorem dL_law_1058 : decode cL_law 1058 = .ok (.iadd, 1) := by decide +kernel
theorem dL_law_1059 : decode cL_law 1059 = .ok (.iaload, 1) := by decide +kernel
theorem dL_law_1060 : decode cL_law 1060 = .ok (.invokevirtual 123, 3) := by decide +kernel
theorem dL_law_1063 : decode cL_law 1063 = .ok (.if_icmp .eq 275, 3) := by decide +kernel
theorem dL_law_1066 : decode cL_law 1066 = .ok (.iconst 0, 1) := by decide +kernel
theorem dL_law_1067 : decode cL_law 1067 = .ok (.ireturn, 1) := by decide +kernel
theorem dL_law_1068 : decode cL_law 1068 = .ok (.aload_n 1, 1) := by decide +kernel
theorem dL_law_1069 : decode cL_law 1069 = .ok (.aload_n 0, 1) := by decide +kernel
theorem dL_law_1070 : decode cL_law 1070 = .ok (.iload_n 3, 1) := by decide +kernel
theorem dL_law_1071 : decode cL_law 1071 = .ok (.iconst 1, 1) := by decide +kernel
theorem dL_law_1072 : decode cL_law 1072 = .ok (.iadd, 1) := by decide +kernel
theorem dL_law_1073 : decode cL_law 1073 = .ok (.iaload, 1) := by decide +kernel
theorem dL_law_1074 : decode cL_law 1074 = .ok (.aload_n 0, 1) := by decide +kernel
theorem dL_law_1075 : decode cL_law 1075 = .ok (.iload_n 3, 1) := by decide +kernel
theorem dL_law_1076 : decode cL_law 1076 = .ok (.iconst 2, 1) := by decide +kernel
theorem dL_law_1077 : decode cL_law 1077 = .ok (.iadd, 1) := by decide +kernel
theorem dL_law_1078 : decode cL_law 1078 = .ok (.iaload, 1) := by decide +kernel
theorem dL_law_1079 : decode cL_law 1079 = .ok (.ifCond .eq 7, 3) := by decide +kernel
theorem dL_law_1082 : decode cL_law 1082 = .ok (.iconst 1, 1) := by decide +kernel
theorem dL_law_1083 : decode cL_law 1083 = .ok (.goto 4, 3) := by decide +kernel
theorem dL_law_1086 : decode cL_law 1086 = .ok (.iconst 0, 1) := by decide +kernel
theorem dL_law_1087 : decode cL_law 1087 = .ok (.aload_n 0, 1) := by decide +kernel
theorem dL_law_1088 : decode cL_law 1088 = .ok (.iload_n 3, 1) := by decide +kernel
theorem dL_law_1089 : decode cL_law 1089 = .ok (.iconst 3, 1) := by decide +kernel
theorem dL_law_1090 : decode cL_law 1090 = .ok (.iadd, 1) := by decide +kernel
theorem dL_law_1091 : decode cL_law 1091 = .ok (.iaload, 1) := by decide +kernel
theorem dL_law_1092 : decode cL_law 1092 = .ok (.invokevirtual 124, 3) := by decide +kernel
theorem dL_law_1095 : decode cL_law 1095 = .ok (.aload_n 2, 1) := by decide +kernel
theorem dL_law_1096 : decode cL_law 1096 = .ok (.aload_n 0, 1) := by decide +kernel
theorem dL_law_1097 : decode cL_law 1097 = .ok (.iload_n 3, 1) := by decide +kernel
theorem dL_law_1098 : decode cL_law 1098 = .ok (.iconst 1, 1) := by decide +kernel
theorem dL_law_1099 : decode cL_law 1099 = .ok (.iadd, 1) := by decide +kernel
theorem dL_law_1100 : decode cL_law 1100 = .ok (.iaload, 1) := by decide +kernel
theorem dL_law_1101 : decode cL_law 1101 = .ok (.aload_n 0, 1) := by decide +kernel
theorem dL_law_1102 : decode cL_law 1102 = .ok (.iload_n 3, 1) := by decide +kernel
theorem dL_law_1103 : decode cL_law 1103 = .ok (.iconst 2, 1) := by decide +kernel
theorem dL_law_1104 : decode cL_law 1104 = .ok (.iadd, 1) := by decide +kernel
theorem dL_law_1105 : decode cL_law 1105 = .ok (.iaload, 1) := by decide +kernel
theorem dL_law_1106 : decode cL_law 1106 = .ok (.ifCond .eq 7, 3) := by decide +kernel
theorem dL_law_1109 : decode cL_law 1109 = .ok (.iconst 1, 1) := by decide +kernel
theorem dL_law_1110 : decode cL_law 1110 = .ok (.goto 4, 3) := by decide +kernel
theorem dL_law_1113 : decode cL_law 1113 = .ok (.iconst 0, 1) := by decide +kernel
theorem dL_law_1114 : decode cL_law 1114 = .ok (.aload_n 0, 1) := by decide +kernel
theorem dL_law_1115 : decode cL_law 1115 = .ok (.iload_n 3, 1) := by decide +kernel
theorem dL_law_1116 : decode cL_law 1116 = .ok (.iconst 3, 1) := by decide +kernel
theorem dL_law_1117 : decode cL_law 1117 = .ok (.iadd, 1) := by decide +kernel
theorem dL_law_1118 : decode cL_law 1118 = .ok (.iaload, 1) := by decide +kernel
theorem dL_law_1119 : decode cL_law 1119 = .ok (.invokevirtual 128, 3) := by decide +kernel
theorem dL_law_1122 : decode cL_law 1122 = .ok (.if_icmp .eq 216, 3) := by decide +kernel
theorem dL_law_1125 : decode cL_law 1125 = .ok (.iconst 0, 1) := by decide +kernel
theorem dL_law_1126 : decode cL_law 1126 = .ok (.ireturn, 1) := by decide +kernel
theorem dL_law_1127 : decode cL_law 1127 = .ok (.aload_n 1, 1) := by decide +kernel
theorem dL_law_1128 : decode cL_law 1128 = .ok (.aload_n 0, 1) := by decide +kernel
theorem dL_law_1129 : decode cL_law 1129 = .ok (.iload_n 3, 1) := by decide +kernel
theorem dL_law_1130 : decode cL_law 1130 = .ok (.iconst 1, 1) := by decide +kernel
theorem dL_law_1131 : decode cL_law 1131 = .ok (.iadd, 1) := by decide +kernel
theorem dL_law_1132 : decode cL_law 1132 = .ok (.iaload, 1) := by decide +kernel
theorem dL_law_1133 : decode cL_law 1133 = .ok (.aload_n 0, 1) := by decide +kernel
theorem dL_law_1134 : decode cL_law 1134 = .ok (.iload_n 3, 1) := by decide +kernel
theorem dL_law_1135 : decode cL_law 1135 = .ok (.iconst 2, 1) := by decide +kernel
theorem dL_law_1136 : decode cL_law 1136 = .ok (.iadd, 1) := by decide +kernel
theorem dL_law_1137 : decode cL_law 1137 = .ok (.iaload, 1) := by decide +kernel
theorem dL_law_1138 : decode cL_law 1138 = .ok (.invokevirtual 129, 3) := by decide +kernel
theorem dL_law_1141 : decode cL_law 1141 = .ok (.aload_n 2, 1) := by decide +kernel
theorem dL_law_1142 : decode cL_law 1142 = .ok (.aload_n 0, 1) := by decide +kernel
theorem dL_law_1143 : decode cL_law 1143 = .ok (.iload_n 3, 1) := by decide +kernel
theorem dL_law_1144 : decode cL_law 1144 = .ok (.iconst 1, 1) := by decide +kernel
theorem dL_law_1145 : decode cL_law 1145 = .ok (.iadd, 1) := by decide +kernel
theorem dL_law_1146 : decode cL_law 1146 = .ok (.iaload, 1) := by decide +kernel
theorem dL_law_1147 : decode cL_law 1147 = .ok (.aload_n 0, 1) := by decide +kernel
theorem dL_law_1148 : decode cL_law 1148 = .ok (.iload_n 3, 1) := by decide +kernel
theorem dL_law_1149 : decode cL_law 1149 = .ok (.iconst 2, 1) := by decide +kernel
theorem dL_law_1150 : decode cL_law 1150 = .ok (.iadd, 1) := by decide +kernel
theorem dL_law_1151 : decode cL_law 1151 = .ok (.iaload, 1) := by decide +kernel
theorem dL_law_1152 : decode cL_law 1152 = .ok (.invokevirtual 132, 3) := by decide +kernel
theorem dL_law_1155 : decode cL_law 1155 = .ok (.if_icmp .eq 183, 3) := by decide +kernel
theorem dL_law_1158 : decode cL_law 1158 = .ok (.iconst 0, 1) := by decide +kernel
theorem dL_law_1159 : decode cL_law 1159 = .ok (.ireturn, 1) := by decide +kernel
theorem dL_law_1160 : decode cL_law 1160 = .ok (.aload_n 1, 1) := by decide +kernel
theorem dL_law_1161 : decode cL_law 1161 = .ok (.aload_n 0, 1) := by decide +kernel
theorem dL_law_1162 : decode cL_law 1162 = .ok (.iload_n 3, 1) := by decide +kernel
theorem dL_law_1163 : decode cL_law 1163 = .ok (.iconst 1, 1) := by decide +kernel
theorem dL_law_1164 : decode cL_law 1164 = .ok (.iadd, 1) := by decide +kernel
theorem dL_law_1165 : decode cL_law 1165 = .ok (.iaload, 1) := by decide +kernel
theorem dL_law_1166 : decode cL_law 1166 = .ok (.aload_n 0, 1) := by decide +kernel
theorem dL_law_1167 : decode cL_law 1167 = .ok (.iload_n 3, 1) := by decide +kernel
theorem dL_law_1168 : decode cL_law 1168 = .ok (.iconst 2, 1) := by decide +kernel
theorem dL_law_1169 : decode cL_law 1169 = .ok (.iadd, 1) := by decide +kernel
theorem dL_law_1170 : decode cL_law 1170 = .ok (.iaload, 1) := by decide +kernel
theorem dL_law_1171 : decode cL_law 1171 = .ok (.aload_n 0, 1) := by decide +kernel
theorem dL_law_1172 : decode cL_law 1172 = .ok (.iload_n 3, 1) := by decide +kernel
theorem dL_law_1173 : decode cL_law 1173 = .ok (.iconst 3, 1) := by decide +kernel
theorem dL_law_1174 : decode cL_law 1174 = .ok (.iadd, 1) := by decide +kernel
theorem dL_law_1175 : decode cL_law 1175 = .ok (.iaload, 1) := by decide +kernel
theorem dL_law_1176 : decode cL_law 1176 = .ok (.aload_n 0, 1) := by decide +kernel
theorem dL_law_1177 : decode cL_law 1177 = .ok (.iload_n 3, 1) := by decide +kernel
theorem dL_law_1178 : decode cL_law 1178 = .ok (.iconst 4, 1) := by decide +kernel
theorem dL_law_1179 : decode cL_law 1179 = .ok (.iadd, 1) := by decide +kernel
theorem dL_law_1180 : decode cL_law 1180 = .ok (.iaload, 1) := by decide +kernel
theorem dL_law_1181 : decode cL_law 1181 = .ok (.invokevirtual 133, 3) := by decide +kernel
theorem dL_law_1184 : decode cL_law 1184 = .ok (.aload_n 2, 1) := by decide +kernel
theorem dL_law_1185 : decode cL_law 1185 = .ok (.aload_n 0, 1) := by decide +kernel
theorem dL_law_1186 : decode cL_law 1186 = .ok (.iload_n 3, 1) := by decide +kernel
theorem dL_law_1187 : decode cL_law 1187 = .ok (.iconst 1, 1) := by decide +kernel
theorem dL_law_1188 : decode cL_law 1188 = .ok (.iadd, 1) := by decide +kernel
theorem dL_law_1189 : decode cL_law 1189 = .ok (.iaload, 1) := by decide +kernel
theorem dL_law_1190 : decode cL_law 1190 = .ok (.aload_n 0, 1) := by decide +kernel
theorem dL_law_1191 : decode cL_law 1191 = .ok (.iload_n 3, 1) := by decide +kernel
theorem dL_law_1192 : decode cL_law 1192 = .ok (.iconst 2, 1) := by decide +kernel
theorem dL_law_1193 : decode cL_law 1193 = .ok (.iadd, 1) := by decide +kernel
theorem dL_law_1194 : decode cL_law 1194 = .ok (.iaload, 1) := by decide +kernel
theorem dL_law_1195 : decode cL_law 1195 = .ok (.aload_n 0, 1) := by decide +kernel
theorem dL_law_1196 : decode cL_law 1196 = .ok (.iload_n 3, 1) := by decide +kernel
theorem dL_law_1197 : decode cL_law 1197 = .ok (.iconst 3, 1) := by decide +kernel
theorem dL_law_1198 : decode cL_law 1198 = .ok (.iadd, 1) := by decide +kernel
theorem dL_law_1199 : decode cL_law 1199 = .ok (.iaload, 1) := by decide +kernel
theorem dL_law_1200 : decode cL_law 1200 = .ok (.aload_n 0, 1) := by decide +kernel
theorem dL_law_1201 : decode cL_law 1201 = .ok (.iload_n 3, 1) := by decide +kernel
theorem dL_law_1202 : decode cL_law 1202 = .ok (.iconst 4, 1) := by decide +kernel
theorem dL_law_1203 : decode cL_law 1203 = .ok (.iadd, 1) := by decide +kernel
theorem dL_law_1204 : decode cL_law 1204 = .ok (.iaload, 1) := by decide +kernel
theorem dL_law_1205 : decode cL_law 1205 = .ok (.invokevirtual 136, 3) := by decide +kernel
theorem dL_law_1208 : decode cL_law 1208 = .ok (.if_icmp .eq 130, 3) := by decide +kernel
theorem dL_law_1211 : decode cL_law 1211 = .ok (.iconst 0, 1) := by decide +kernel
theorem dL_law_1212 : decode cL_law 1212 = .ok (.ireturn, 1) := by decide +kernel
theorem dL_law_1213 : decode cL_law 1213 = .ok (.aload_n 1, 1) := by decide +kernel
theorem dL_law_1214 : decode cL_law 1214 = .ok (.aload_n 0, 1) := by decide +kernel
theorem dL_law_1215 : decode cL_law 1215 = .ok (.iload_n 3, 1) := by decide +kernel
theorem dL_law_1216 : decode cL_law 1216 = .ok (.iconst 1, 1) := by decide +kernel
theorem dL_law_1217 : decode cL_law 1217 = .ok (.iadd, 1) := by decide +kernel
theorem dL_law_1218 : decode cL_law 1218 = .ok (.iaload, 1) := by decide +kernel
theorem dL_law_1219 : decode cL_law 1219 = .ok (.aload_n 0, 1) := by decide +kernel
theorem dL_law_1220 : decode cL_law 1220 = .ok (.iload_n 3, 1) := by decide +kernel
theorem dL_law_1221 : decode cL_law 1221 = .ok (.iconst 2, 1) := by decide +kernel
theorem dL_law_1222 : decode cL_law 1222 = .ok (.iadd, 1) := by decide +kernel
theorem dL_law_1223 : decode cL_law 1223 = .ok (.iaload, 1) := by decide +kernel
theorem dL_law_1224 : decode cL_law 1224 = .ok (.aload_n 0, 1) := by decide +kernel
theorem dL_law_1225 : decode cL_law 1225 = .ok (.iload_n 3, 1) := by decide +kernel
theorem dL_law_1226 : decode cL_law 1226 = .ok (.iconst 3, 1) := by decide +kernel
theorem dL_law_1227 : decode cL_law 1227 = .ok (.iadd, 1) := by decide +kernel
theorem dL_law_1228 : decode cL_law 1228 = .ok (.iaload, 1) := by decide +kernel
theorem dL_law_1229 : decode cL_law 1229 = .ok (.invokevirtual 137, 3) := by decide +kernel
theorem dL_law_1232 : decode cL_law 1232 = .ok (.aload_n 2, 1) := by decide +kernel
theorem dL_law_1233 : decode cL_law 1233 = .ok (.aload_n 0, 1) := by decide +kernel
theorem dL_law_1234 : decode cL_law 1234 = .ok (.iload_n 3, 1) := by decide +kernel
theorem dL_law_1235 : decode cL_law 1235 = .ok (.iconst 1, 1) := by decide +kernel
theorem dL_law_1236 : decode cL_law 1236 = .ok (.iadd, 1) := by decide +kernel
theorem dL_law_1237 : decode cL_law 1237 = .ok (.iaload, 1) := by decide +kernel
theorem dL_law_1238 : decode cL_law 1238 = .ok (.aload_n 0, 1) := by decide +kernel
theorem dL_law_1239 : decode cL_law 1239 = .ok (.iload_n 3, 1) := by decide +kernel
theorem dL_law_1240 : decode cL_law 1240 = .ok (.iconst 2, 1) := by decide +kernel
theorem dL_law_1241 : decode cL_law 1241 = .ok (.iadd, 1) := by decide +kernel
theorem dL_law_1242 : decode cL_law 1242 = .ok (.iaload, 1) := by decide +kernel
theorem dL_law_1243 : decode cL_law 1243 = .ok (.aload_n 0, 1) := by decide +kernel
theorem dL_law_1244 : decode cL_law 1244 = .ok (.iload_n 3, 1) := by decide +kernel
theorem dL_law_1245 : decode cL_law 1245 = .ok (.iconst 3, 1) := by decide +kernel
theorem dL_law_1246 : decode cL_law 1246 = .ok (.iadd, 1) := by decide +kernel
theorem dL_law_1247 : decode cL_law 1247 = .ok (.iaload, 1) := by decide +kernel
theorem dL_law_1248 : decode cL_law 1248 = .ok (.invokevirtual 140, 3) := by decide +kernel
theorem dL_law_1251 : decode cL_law 1251 = .ok (.if_icmp .eq 87, 3) := by decide +kernel
theorem dL_law_1254 : decode cL_law 1254 = .ok (.iconst 0, 1) := by decide +kernel
theorem dL_law_1255 : decode cL_law 1255 = .ok (.ireturn, 1) := by decide +kernel
theorem dL_law_1256 : decode cL_law 1256 = .ok (.aload_n 1, 1) := by decide +kernel
theorem dL_law_1257 : decode cL_law 1257 = .ok (.aload_n 0, 1) := by decide +kernel
theorem dL_law_1258 : decode cL_law 1258 = .ok (.iload_n 3, 1) := by decide +kernel
theorem dL_law_1259 : decode cL_law 1259 = .ok (.iconst 1, 1) := by decide +kernel
theorem dL_law_1260 : decode cL_law 1260 = .ok (.iadd, 1) := by decide +kernel
theorem dL_law_1261 : decode cL_law 1261 = .ok (.iaload, 1) := by decide +kernel
theorem dL_law_1262 : decode cL_law 1262 = .ok (.invokevirtual 141, 3) := by decide +kernel
theorem dL_law_1265 : decode cL_law 1265 = .ok (.aload_n 2, 1) := by decide +kernel
theorem dL_law_1266 : decode cL_law 1266 = .ok (.aload_n 0, 1) := by decide +kernel
theorem dL_law_1267 : decode cL_law 1267 = .ok (.iload_n 3, 1) := by decide +kernel
theorem dL_law_1268 : decode cL_law 1268 = .ok (.iconst 1, 1) := by decide +kernel
theorem dL_law_1269 : decode cL_law 1269 = .ok (.iadd, 1) := by decide +kernel
theorem dL_law_1270 : decode cL_law 1270 = .ok (.iaload, 1) := by decide +kernel
theorem dL_law_1271 : decode cL_law 1271 = .ok (.invokevirtual 144, 3) := by decide +kernel
theorem dL_law_1274 : decode cL_law 1274 = .ok (.if_icmp .eq 64, 3) := by decide +kernel
theorem dL_law_1277 : decode cL_law 1277 = .ok (.iconst 0, 1) := by decide +kernel
theorem dL_law_1278 : decode cL_law 1278 = .ok (.ireturn, 1) := by decide +kernel
theorem dL_law_1279 : decode cL_law 1279 = .ok (.aload_n 1, 1) := by decide +kernel
theorem dL_law_1280 : decode cL_law 1280 = .ok (.aload_n 0, 1) := by decide +kernel
theorem dL_law_1281 : decode cL_law 1281 = .ok (.iload_n 3, 1) := by decide +kernel
theorem dL_law_1282 : decode cL_law 1282 = .ok (.iconst 1, 1) := by decide +kernel
theorem dL_law_1283 : decode cL_law 1283 = .ok (.iadd, 1) := by decide +kernel
theorem dL_law_1284 : decode cL_law 1284 = .ok (.iaload, 1) := by decide +kernel
theorem dL_law_1285 : decode cL_law 1285 = .ok (.invokevirtual 145, 3) := by decide +kernel
theorem dL_law_1288 : decode cL_law 1288 = .ok (.aload_n 2, 1) := by decide +kernel
theorem dL_law_1289 : decode cL_law 1289 = .ok (.aload_n 0, 1) := by decide +kernel
theorem dL_law_1290 : decode cL_law 1290 = .ok (.iload_n 3, 1) := by decide +kernel
theorem dL_law_1291 : decode cL_law 1291 = .ok (.iconst 1, 1) := by decide +kernel
theorem dL_law_1292 : decode cL_law 1292 = .ok (.iadd, 1) := by decide +kernel
theorem dL_law_1293 : decode cL_law 1293 = .ok (.iaload, 1) := by decide +kernel
theorem dL_law_1294 : decode cL_law 1294 = .ok (.invokevirtual 148, 3) := by decide +kernel
theorem dL_law_1297 : decode cL_law 1297 = .ok (.if_icmp .eq 41, 3) := by decide +kernel
theorem dL_law_1300 : decode cL_law 1300 = .ok (.iconst 0, 1) := by decide +kernel
theorem dL_law_1301 : decode cL_law 1301 = .ok (.ireturn, 1) := by decide +kernel
theorem dL_law_1302 : decode cL_law 1302 = .ok (.aload_n 1, 1) := by decide +kernel
theorem dL_law_1303 : decode cL_law 1303 = .ok (.invokevirtual 149, 3) := by decide +kernel
theorem dL_law_1306 : decode cL_law 1306 = .ok (.aload_n 2, 1) := by decide +kernel
theorem dL_law_1307 : decode cL_law 1307 = .ok (.invokevirtual 152, 3) := by decide +kernel
theorem dL_law_1310 : decode cL_law 1310 = .ok (.if_icmp .eq 28, 3) := by decide +kernel
theorem dL_law_1313 : decode cL_law 1313 = .ok (.iconst 0, 1) := by decide +kernel
theorem dL_law_1314 : decode cL_law 1314 = .ok (.ireturn, 1) := by decide +kernel
theorem dL_law_1315 : decode cL_law 1315 = .ok (.aload_n 1, 1) := by decide +kernel
theorem dL_law_1316 : decode cL_law 1316 = .ok (.aload_n 0, 1) := by decide +kernel
theorem dL_law_1317 : decode cL_law 1317 = .ok (.iload_n 3, 1) := by decide +kernel
theorem dL_law_1318 : decode cL_law 1318 = .ok (.iconst 1, 1) := by decide +kernel
theorem dL_law_1319 : decode cL_law 1319 = .ok (.iadd, 1) := by decide +kernel
theorem dL_law_1320 : decode cL_law 1320 = .ok (.iaload, 1) := by decide +kernel
theorem dL_law_1321 : decode cL_law 1321 = .ok (.invokevirtual 153, 3) := by decide +kernel
theorem dL_law_1324 : decode cL_law 1324 = .ok (.aload_n 2, 1) := by decide +kernel
theorem dL_law_1325 : decode cL_law 1325 = .ok (.aload_n 0, 1) := by decide +kernel
theorem dL_law_1326 : decode cL_law 1326 = .ok (.iload_n 3, 1) := by decide +kernel
theorem dL_law_1327 : decode cL_law 1327 = .ok (.iconst 1, 1) := by decide +kernel
theorem dL_law_1328 : decode cL_law 1328 = .ok (.iadd, 1) := by decide +kernel
theorem dL_law_1329 : decode cL_law 1329 = .ok (.iaload, 1) := by decide +kernel
theorem dL_law_1330 : decode cL_law 1330 = .ok (.invokevirtual 156, 3) := by decide +kernel
theorem dL_law_1333 : decode cL_law 1333 = .ok (.if_icmp .eq 5, 3) := by decide +kernel
theorem dL_law_1336 : decode cL_law 1336 = .ok (.iconst 0, 1) := by decide +kernel
theorem dL_law_1337 : decode cL_law 1337 = .ok (.ireturn, 1) := by decide +kernel
theorem dL_law_1338 : decode cL_law 1338 = .ok (.iinc 3 6, 3) := by decide +kernel
theorem dL_law_1341 : decode cL_law 1341 = .ok (.goto (-1323), 3) := by decide +kernel
theorem dL_law_1344 : decode cL_law 1344 = .ok (.iconst 1, 1) := by decide +kernel
theorem dL_law_1345 : decode cL_law 1345 = .ok (.ireturn, 1) := by decide +kernel
end
section
/-! The logic of this proof: one world of all cells, told by indices; index 0 is the script, index i + 1 is the cell at b + i. -/
def nwp (w : Cond) : Bool := match w with
  | .fieldLinkNest .. => true
  | .methodLinkNest .. => true
  | _ => false
def gw : List Cond := lw_tbl.filter goodWord
def nw : List Cond := lw_tbl.filter nwp
theorem gw_at (i : Nat) {w : Cond} (h : lw_tbl[i]? = some w) (hg : goodWord w = true) : w ∈ gw := List.mem_filter.mpr ⟨List.mem_of_getElem? h, hg⟩
theorem nw_at (i : Nat) {w : Cond} (h : lw_tbl[i]? = some w) (hg : nwp w = true) : w ∈ nw := List.mem_filter.mpr ⟨List.mem_of_getElem? h, hg⟩
theorem nw_warm {w : Cond} {s U : State} (hw : nwp w = true) (hW : s.WarmedH U.vm) (h : va_Nw w s) : va_Nw w U := by
  cases w <;> first | exact va_Nw.warmF hW h | exact va_Nw.warmM hW h | (simp [nwp] at hw; done)
theorem nw_same {w : Cond} {s U : State} (hw : nwp w = true) (hV : s.vm = U.vm) (h : va_Nw w s) : va_Nw w U := by
  cases w <;> first | exact va_Nw.same rfl hV h | (simp [nwp] at hw; done)
theorem nw_use {w : Cond} {s : State} {A : Array Value} (hw : nwp w = true) (h : va_Nw w s) : w.before A s = true := by
  cases w <;> first | exact va_Nw.use rfl h | (simp [nwp] at hw; done)
abbrev CE : Type := (Nat × vp_A) ⊕ (Nat × List Value)
abbrev HF : Type := Nat → CE
def aT (t : Nat) : FieldType := match t with
  | 0 => .int
  | 1 => .boolean
  | 2 => .long
  | 3 => .object "ColourWorks$Batch"
  | _ => .object "ColourWorks$Tank"
def tys5 (dA : Nat → ClassId) : List (ClassId × FieldType) := [(dA 0, aT 0), (dA 1, aT 1), (dA 2, aT 2), (dA 3, aT 3), (dA 4, aT 4)]
def ad (sc b : Nat) (k : Nat) : Nat := match k with
  | 0 => sc
  | k + 1 => b + k
def tV (sc b : Nat) (v : Value) : Value := match v with
  | .ref k => .ref (ad sc b k)
  | w => w
def tA (sc b : Nat) (x : vp_A) : vp_A := match x with
  | (n, .inr (.inr (.inr (.inr f)))) => (n, .inr (.inr (.inr (.inr (fun j => (f j).map (ad sc b))))))
  | y => y
def tE (sc b : Nat) (dA : Nat → ClassId) (c : CE) : va_E := match c with
  | .inl (t, x) => .inl (dA t, tA sc b x)
  | .inr (ci, fs) => .inr (ci, fs.map (tV sc b))
def hu (h : HF) (i : Nat) (c : CE) : HF := fun j => cond (Nat.beq j i) c (h j)
theorem hu_eq (h : HF) (i : Nat) (c : CE) : hu h i c i = c := by simp [hu]
theorem hu_ne (h : HF) {i j : Nat} (c : CE) (hne : j ≠ i) : hu h i c j = h j := by
  have : Nat.beq j i = false := by
    cases hb : Nat.beq j i with
    | false => rfl
    | true => exact absurd (Nat.eq_of_beq_eq_true hb) hne
  simp [hu, this]
theorem hu_hu (h : HF) (i : Nat) (c d : CE) : hu (hu h i c) i d = hu h i d := by
  funext j
  by_cases hj : j = i
  · subst hj; rw [hu_eq, hu_eq]
  · rw [hu_ne _ _ hj, hu_ne _ _ hj, hu_ne _ _ hj]
theorem hu_self (h : HF) (i : Nat) : hu h i (h i) = h := by
  funext j
  by_cases hj : j = i
  · subst hj; rw [hu_eq]
  · rw [hu_ne _ _ hj]
theorem hu_same {h : HF} {i : Nat} {c : CE} (e : h i = c) : hu h i c = h := by rw [← e]; exact hu_self h i
theorem hu_comm (h : HF) {i j : Nat} (c d : CE) (hne : i ≠ j) : hu (hu h i c) j d = hu (hu h j d) i c := by
  funext k
  by_cases hk : k = j
  · subst hk; rw [hu_eq, hu_ne _ _ (Ne.symm hne), hu_eq]
  · rw [hu_ne _ _ hk]
    by_cases hi : k = i
    · subst hi; rw [hu_eq, hu_eq]
    · rw [hu_ne _ _ hi, hu_ne _ _ hi, hu_ne _ _ hk]
def wd (sc b : Nat) (dA : Nat → ClassId) (n : Nat) (h : HF) : va_W := (List.range n).map (fun i => (b + i, tE sc b dA (h (i + 1))))
theorem wd_len {sc b n : Nat} {dA : Nat → ClassId} {h : HF} : (wd sc b dA n h).length = n := by simp [wd]
theorem wd_at {sc b n : Nat} {dA : Nat → ClassId} {h : HF} {q : Nat} (hq : q < n) : (wd sc b dA n h)[q]? = some (b + q, tE sc b dA (h (q + 1))) := by
  simp [wd, hq]
theorem wd_in {sc b n : Nat} {dA : Nat → ClassId} {h : HF} {q : Nat} {x : Nat × va_E} (hx : (wd sc b dA n h)[q]? = some x) : q < n ∧ x = (b + q, tE sc b dA (h (q + 1))) := by
  have hl := (List.getElem?_eq_some_iff.mp hx).1
  rw [wd_len] at hl
  rw [wd_at hl] at hx
  exact ⟨hl, (Option.some.inj hx).symm⟩
theorem wd_set {sc b n : Nat} {dA : Nat → ClassId} {h : HF} {q : Nat} (c : CE) : (wd sc b dA n h).set q (b + q, tE sc b dA c) = wd sc b dA n (hu h (q + 1) c) := by
  apply List.ext_getElem?
  intro j
  by_cases hj : j < n
  · rw [wd_at hj]
    by_cases e : q = j
    · subst e
      rw [List.getElem?_set_self (by rw [wd_len]; exact hj), hu_eq]
    · rw [List.getElem?_set_ne e, wd_at hj, hu_ne _ _ (by omega)]
  · rw [List.getElem?_eq_none (by rw [List.length_set, wd_len]; omega), List.getElem?_eq_none (by rw [wd_len]; omega)]
theorem wd_push {sc b n : Nat} {dA : Nat → ClassId} {h : HF} (c : CE) : wd sc b dA n h ++ [(b + n, tE sc b dA c)] = wd sc b dA (n + 1) (hu h (n + 1) c) := by
  apply List.ext_getElem?
  intro j
  by_cases hj : j < n
  · rw [List.getElem?_append_left (by rw [wd_len]; exact hj), wd_at hj, wd_at (by omega), hu_ne _ _ (by omega)]
  · rw [List.getElem?_append_right (by rw [wd_len]; omega), wd_len]
    by_cases e : j = n
    · subst e
      rw [Nat.sub_self, wd_at (by omega), hu_eq]
      rfl
    · rw [List.getElem?_eq_none (by simp; omega), List.getElem?_eq_none (by rw [wd_len]; omega)]
theorem wd_D {sc b n : Nat} {dA : Nat → ClassId} {h : HF} : va_D (fun q : Nat => b ≤ q) (wd sc b dA n h) := by
  refine ⟨fun i j x y hi hj hxy => ?_, fun k q hk => ?_⟩
  · obtain ⟨-, e1⟩ := wd_in hi
    obtain ⟨-, e2⟩ := wd_in hj
    rw [e1, e2] at hxy
    exact Nat.add_left_cancel hxy
  · obtain ⟨-, e1⟩ := wd_in hk
    rw [e1]
    exact Nat.le_add_right b k
theorem wd_size {sc b n : Nat} {D : va_G} {dA : Nat → ClassId} {h : HF} {H : Heap} (hP : va_P D vwCl (wd sc b dA n h) H) (h0 : b ≤ H.size) : b + n ≤ H.size := by
  cases n with
  | zero => exact h0
  | succ n =>
    have := (hP n _ (wd_at (Nat.lt_succ_self n))).lt
    have e : b + n < H.size := this
    omega
def Kx (D : va_G) (dA : Nat → ClassId) (U : State) : Prop := va_K D vwCl (tys5 dA) U ∧ (∀ w ∈ nw, va_Nw w U) ∧ va_AO "ColourWorks$Batch" U ∧ va_AO "ColourWorks$Tank" U
theorem Kx.warm {D : va_G} {dA : Nat → ClassId} {s U : State} (hW : s.WarmedH U.vm) (h : Kx D dA s) : Kx D dA U :=
  ⟨va_K.moved hW.alike h.1, fun w hw => nw_warm (List.mem_filter.mp hw).2 hW (h.2.1 w hw), va_AO.moved hW.alike h.2.2.1, va_AO.moved hW.alike h.2.2.2⟩
theorem Kx.callS {D : va_G} {dA : Nat → ClassId} {U : State} {g : JFrame} {mk : MethodId} {a : Array Value} (h : Kx D dA U) : Kx D dA (U.calling g mk a) :=
  ⟨va_K.moved (u := U) (U := U.calling g mk a) (Vm.Alike.refl U.vm) h.1, fun w hw => nw_same (s := U) (U := U.calling g mk a) (List.mem_filter.mp hw).2 rfl (h.2.1 w hw), va_AO.moved (u := U) (U := U.calling g mk a) (Vm.Alike.refl U.vm) h.2.2.1, va_AO.moved (u := U) (U := U.calling g mk a) (Vm.Alike.refl U.vm) h.2.2.2⟩
-- methods: owner, name, bytes, locals' words, what it returns, room
abbrev MI : Type := String × MethodName × ByteArray × Nat × Option FieldType × Room
abbrev mO (M : MI) : String := M.1
abbrev mY (M : MI) : MethodName := M.2.1
abbrev mC (M : MI) : ByteArray := M.2.2.1
abbrev mL (M : MI) : Nat := M.2.2.2.1
abbrev mT (M : MI) : Option FieldType := M.2.2.2.2.1
abbrev mR (M : MI) : Room := M.2.2.2.2.2
def miW (M : MI) : List Cond := Cond.code (mY M) (mC M) (mL M) (mT M) :: gw
-- locals
def lg : List (Option Value) → Nat → Option Value
  | [], _ => none
  | a :: _, 0 => a
  | _ :: l, i + 1 => lg l i
def lkill (a : Option Value) : Option Value := match a with
  | some (.long _) => none
  | some (.double _) => none
  | x => x
def ls1 : List (Option Value) → Nat → Value → List (Option Value)
  | [], _, _ => []
  | _ :: l, 0, v => some v :: l
  | a :: l, i + 1, v => cond (Nat.beq i 0) (lkill a) a :: ls1 l i v
def lclr : List (Option Value) → List (Option Value)
  | [] => []
  | _ :: l => none :: l
def ls2 : List (Option Value) → Nat → Value → List (Option Value)
  | [], _, _ => []
  | _ :: l, 0, v => some v :: lclr l
  | a :: l, i + 1, v => cond (Nat.beq i 0) (lkill a) a :: ls2 l i v
theorem tV_cat (sc b : Nat) (v : Value) : (tV sc b v).category = v.category := by cases v <;> rfl
theorem lkill_some {a : Option Value} {w : Value} (h : lkill a = some w) : a = some w ∧ ¬ w.category = 2 := by
  cases a with
  | none => cases h
  | some x => cases x <;> simp [lkill] at h <;> subst h <;> exact ⟨rfl, by simp [Value.category]⟩
theorem lg_ls1 : ∀ (ls : List (Option Value)) (i j : Nat) (v w : Value), lg (ls1 ls i v) j = some w → (j = i ∧ w = v) ∨ (j ≠ i ∧ lg ls j = some w ∧ ¬ (j + 1 = i ∧ w.category = 2))
  | [], _, _, _, _, h => by simp [ls1, lg] at h
  | a :: l, 0, j, v, w, h => by
    cases j with
    | zero => exact Or.inl ⟨rfl, (Option.some.inj h).symm⟩
    | succ j => exact Or.inr ⟨by omega, h, by omega⟩
  | a :: l, i + 1, j, v, w, h => by
    cases j with
    | zero =>
      cases i with
      | zero =>
        obtain ⟨h1, h2⟩ := lkill_some (a := a) h
        exact Or.inr ⟨by omega, h1, fun q => h2 q.2⟩
      | succ i => exact Or.inr ⟨by omega, h, by omega⟩
    | succ j =>
      rcases lg_ls1 l i j v w h with ⟨h1, h2⟩ | ⟨h1, h2, h3⟩
      · exact Or.inl ⟨by omega, h2⟩
      · exact Or.inr ⟨by omega, h2, fun q => h3 ⟨by omega, q.2⟩⟩
theorem lg_lclr {l : List (Option Value)} {j : Nat} {w : Value} (h : lg (lclr l) j = some w) : j ≠ 0 ∧ lg l j = some w := by
  cases l with
  | nil => cases h
  | cons a l =>
    cases j with
    | zero => cases h
    | succ j => exact ⟨by omega, h⟩
theorem lg_ls2 : ∀ (ls : List (Option Value)) (i j : Nat) (v w : Value), lg (ls2 ls i v) j = some w → (j = i ∧ w = v) ∨ (j ≠ i ∧ j ≠ i + 1 ∧ lg ls j = some w ∧ ¬ (j + 1 = i ∧ w.category = 2))
  | [], _, _, _, _, h => by simp [ls2, lg] at h
  | a :: l, 0, j, v, w, h => by
    cases j with
    | zero => exact Or.inl ⟨rfl, (Option.some.inj h).symm⟩
    | succ j =>
      obtain ⟨h1, h2⟩ := lg_lclr (l := l) (j := j) h
      exact Or.inr ⟨by omega, by omega, h2, by omega⟩
  | a :: l, i + 1, j, v, w, h => by
    cases j with
    | zero =>
      cases i with
      | zero =>
        obtain ⟨h1, h2⟩ := lkill_some (a := a) h
        exact Or.inr ⟨by omega, by omega, h1, fun q => h2 q.2⟩
      | succ i => exact Or.inr ⟨by omega, by omega, h, by omega⟩
    | succ j =>
      rcases lg_ls2 l i j v w h with ⟨h1, h2⟩ | ⟨h1, h2, h3, h4⟩
      · exact Or.inl ⟨by omega, h2⟩
      · exact Or.inr ⟨by omega, by omega, h3, fun q => h4 ⟨by omega, q.2⟩⟩
def lsq (sc b : Nat) : Nat → List (Option Value) → List (Nat × Value)
  | _, [] => []
  | i, none :: l => lsq sc b (i + 1) l
  | i, some v :: l => (i, tV sc b v) :: lsq sc b (i + 1) l
theorem lsq_mem (sc b : Nat) : ∀ (ls : List (Option Value)) (i : Nat) (q : Nat × Value), q ∈ lsq sc b i ls ↔ ∃ (j : Nat) (v : Value), lg ls j = some v ∧ q = (i + j, tV sc b v)
  | [], i, q => by simp [lsq, lg]
  | none :: l, i, q => by
    rw [lsq, lsq_mem sc b l (i + 1) q]
    constructor
    · rintro ⟨j, v, h1, h2⟩
      exact ⟨j + 1, v, h1, by rw [h2, Nat.add_assoc, Nat.add_comm 1 j]⟩
    · rintro ⟨j, v, h1, h2⟩
      cases j with
      | zero => cases h1
      | succ j => exact ⟨j, v, h1, by rw [h2, Nat.add_assoc, Nat.add_comm 1 j]⟩
  | some w :: l, i, q => by
    rw [lsq, List.mem_cons, lsq_mem sc b l (i + 1) q]
    constructor
    · rintro (h | ⟨j, v, h1, h2⟩)
      · exact ⟨0, w, rfl, h⟩
      · exact ⟨j + 1, v, h1, by rw [h2, Nat.add_assoc, Nat.add_comm 1 j]⟩
    · rintro ⟨j, v, h1, h2⟩
      cases j with
      | zero => cases h1; exact Or.inl h2
      | succ j => exact Or.inr ⟨j, v, h1, by rw [h2, Nat.add_assoc, Nat.add_comm 1 j]⟩
def LSr (sc b nL : Nat) (ls : List (Option Value)) (lsm : Array Slot) : Prop := lv_has lsm nL (lsq sc b 0 ls)
theorem LSr.at {sc b nL : Nat} {ls : List (Option Value)} {lsm : Array Slot} (h : LSr sc b nL ls lsm) {i : Nat} {v : Value} (hi : lg ls i = some v) : lsm[i]? = some (.val (tV sc b v)) :=
  h.2.2 (i, tV sc b v) ((lsq_mem sc b ls 0 _).mpr ⟨i, v, hi, by rw [Nat.zero_add]⟩)
theorem LSr.st1 {sc b nL : Nat} {ls : List (Option Value)} {lsm : Array Slot} {i : Nat} {v : Value} (h : lv_has lsm nL ((i, tV sc b v) :: (lsq sc b 0 ls).filter (fun q => !(q.1 == i) && !(q.1 + 1 == i && q.2.category == 2)))) : LSr sc b nL (ls1 ls i v) lsm := by
  refine ⟨h.1, h.2.1, fun q hq => ?_⟩
  obtain ⟨j, w, h1, h2⟩ := (lsq_mem sc b _ 0 q).mp hq
  rw [Nat.zero_add] at h2
  subst h2
  rcases lg_ls1 ls i j v w h1 with ⟨e1, e2⟩ | ⟨e1, e2, e3⟩
  · subst e1; subst e2
    exact h.2.2 _ List.mem_cons_self
  · refine h.2.2 _ (List.mem_cons_of_mem _ (List.mem_filter.mpr ⟨(lsq_mem sc b ls 0 _).mpr ⟨j, w, e2, by rw [Nat.zero_add]⟩, ?_⟩))
    simp only [tV_cat, Bool.and_eq_true, Bool.not_eq_true', beq_eq_false_iff_ne, ne_eq, Bool.and_eq_false_iff]
    exact ⟨e1, Classical.byContradiction fun z => e3 ⟨Classical.byContradiction fun y => z (Or.inl y), Classical.byContradiction fun y => z (Or.inr y)⟩⟩
theorem LSr.st2 {sc b nL : Nat} {ls : List (Option Value)} {lsm : Array Slot} {i : Nat} {v : Value} (h : lv_has lsm nL ((i, tV sc b v) :: (lsq sc b 0 ls).filter (fun q => !(q.1 == i) && (!(q.1 == i + 1) && !(q.1 + 1 == i && q.2.category == 2))))) : LSr sc b nL (ls2 ls i v) lsm := by
  refine ⟨h.1, h.2.1, fun q hq => ?_⟩
  obtain ⟨j, w, h1, h2⟩ := (lsq_mem sc b _ 0 q).mp hq
  rw [Nat.zero_add] at h2
  subst h2
  rcases lg_ls2 ls i j v w h1 with ⟨e1, e2⟩ | ⟨e1, e0, e2, e3⟩
  · subst e1; subst e2
    exact h.2.2 _ List.mem_cons_self
  · refine h.2.2 _ (List.mem_cons_of_mem _ (List.mem_filter.mpr ⟨(lsq_mem sc b ls 0 _).mpr ⟨j, w, e2, by rw [Nat.zero_add]⟩, ?_⟩))
    simp only [tV_cat, Bool.and_eq_true, Bool.not_eq_true', beq_eq_false_iff_ne, ne_eq, Bool.and_eq_false_iff]
    exact ⟨e1, e0, Classical.byContradiction fun z => e3 ⟨Classical.byContradiction fun y => z (Or.inl y), Classical.byContradiction fun y => z (Or.inr y)⟩⟩
-- what holds of a run of a method
abbrev SX : Type := Option (Nat × (Nat → Int32))
def Cx (M : MI) (X : SX) (D : va_G) (dA : Nat → ClassId) (sc b n0 : Nat) (p : Program) (s : State) (m : MethodId) (args : Array Value) (meth : Method) (c : Code) : Prop :=
  p.tables.exec = Jvm.exec ∧ c.code = mC M ∧ meth.sig.returnType = mT M ∧ c.maxLocals = mL M ∧ s.vm.findClass (mO M) = some m.cls ∧ (∀ w ∈ gw, w.before args s = true) ∧ meth.locks = false ∧ Kx D dA s ∧ s.heap.size = b + n0 ∧ meth.name = (mY M).name ∧ (∀ q : Nat × (Nat → Int32), X = some q → va_X sc q.1 q.2 s s.heap ∧ sc < b ∧ n0 = 0)
abbrev QF : Type := va_G → (Nat → ClassId) → Nat → Nat → List Frame → Array Value → State → State → Prop
def Vg (M : MI) (X : SX) (Q : QF) (pc : Nat) (ls : List (Option Value)) (st : List Value) (n : Nat) (h : HF) (kc ks : Nat) : Prop :=
  ∀ (D : va_G) (dA : Nat → ClassId) (sc b n0 : Nat) (p : Program) (l : Launch) (e : Env) (s : State) (m : MethodId) (args : Array Value) (below : List Frame) (meth : Method) (c : Code),
    Cx M X D dA sc b n0 p s m args meth c → ∀ (H : Heap) (locs : List Loc) (lsm : Array Slot), va_P D vwCl (wd sc b dA n h) H → n0 + kc = n → va_S (fun q : Nat => b ≤ q) s.heap H locs → LSr sc b (mL M) ls lsm →
      W p l e (mR M) s m args below meth c H locs kc ks (Q D dA sc b below args s) (F0 m pc lsm (st.map (tV sc b)))
def Pre (D : va_G) (dA : Nat → ClassId) (sc b n : Nat) (h : HF) (U : State) : Prop := va_P D vwCl (wd sc b dA n h) U.heap ∧ U.heap.size = b + n ∧ Kx D dA U
abbrev PQ : Type := Option Value → HF → Prop
def Qx (n : Nat) (Post : PQ) (D : va_G) (dA : Nat → ClassId) (sc b : Nat) : Array Value → State → Outcome → State → Prop := fun _ st oc t =>
  ∃ (r : Option Value) (h : HF), oc = .returned (r.map (tV sc b)) ∧ Post r h ∧ va_P D vwCl (wd sc b dA n h) t.heap ∧ va_F (fun q : Nat => b ≤ q) st t
/-- a method's contract: on the world (n, h), with the arguments av, it returns as Post says; mc cells are new -/
def Mc (M : MI) (av : List Value) (n : Nat) (h : HF) (Post : PQ) : Prop :=
  ∀ (l : Launch) (D : va_G) (dA : Nat → ClassId) (sc b : Nat), Met l (mY M) (miW M) (mR M) (va_Pc (av.map (tV sc b)) (Pre D dA sc b n h)) (Qx (n + (mR M).cells) Post D dA sc b) (mR M).cells (mR M).slots (fun q : Nat => b ≤ q)
def QM (M : MI) (n : Nat) (Post : PQ) : QF := fun D dA sc b below args s => MQ below (Qx (n + (mR M).cells) Post D dA sc b) args s (mR M).cells (mR M).slots (fun q : Nat => b ≤ q)
/-- the locals at a method's entry -/
def lent : List Value → List (Option Value)
  | [] => []
  | v :: l => match v with
    | .long x => some (.long x) :: none :: lent l
    | .double x => some (.double x) :: none :: lent l
    | w => some w :: lent l
theorem lent_has (sc b : Nat) : ∀ (av : List Value) (i j : Nat) (v : Value), lg (lent av) j = some v → (i + j, tV sc b v) ∈ lv_args i (av.map (tV sc b))
  | [], i, j, v, h => by simp [lent, lg] at h
  | w :: l, i, j, v, h => by
    have two : ∀ (u : Value), u.category = 2 → lg (some u :: none :: lent l) j = some v → (i + j, tV sc b v) ∈ lv_args i ((u :: l).map (tV sc b)) := by
      intro u hu hj
      rw [List.map_cons, lv_args, tV_cat, if_pos hu]
      cases j with
      | zero => cases hj; exact List.mem_cons_self
      | succ j =>
        cases j with
        | zero => cases hj
        | succ j =>
          have := lent_has sc b l (i + 2) j v hj
          rw [show i + (j + 1 + 1) = i + 2 + j by omega]
          exact List.mem_cons_of_mem _ this
    have one : ∀ (u : Value), ¬ u.category = 2 → lg (some u :: lent l) j = some v → (i + j, tV sc b v) ∈ lv_args i ((u :: l).map (tV sc b)) := by
      intro u hu hj
      rw [List.map_cons, lv_args, tV_cat, if_neg hu]
      cases j with
      | zero => cases hj; exact List.mem_cons_self
      | succ j =>
        have := lent_has sc b l (i + 1) j v hj
        rw [show i + (j + 1) = i + 1 + j by omega]
        exact List.mem_cons_of_mem _ this
    cases w with
    | long x => exact two _ rfl h
    | double x => exact two _ rfl h
    | int x => exact one _ (by simp [Value.category]) h
    | float x => exact one _ (by simp [Value.category]) h
    | null => exact one _ (by simp [Value.category]) h
    | ref x => exact one _ (by simp [Value.category]) h
    | retAddr x => exact one _ (by simp [Value.category]) h
theorem lg_app {l : List (Option Value)} {k : Nat} : ∀ {j : Nat} {v : Value}, lg (l ++ List.replicate k none) j = some v → lg l j = some v := by
  induction l with
  | nil =>
    intro j v h
    exfalso
    rw [List.nil_append] at h
    induction k generalizing j with
    | zero => cases h
    | succ k ih =>
      cases j with
      | zero => cases h
      | succ j => exact ih h
  | cons a l ih =>
    intro j v h
    cases j with
    | zero => exact h
    | succ j => exact ih h
def lent0 (av : List Value) (n : Nat) : List (Option Value) := lent av ++ List.replicate (n - (lent av).length) none
theorem W.bnd {p : Program} {l : Launch} {e : Env} {R : Room} {s : State} {m : MethodId} {args : Array Value} {below : List Frame} {meth : Method} {c : Code} {H : Heap} {locs : List Loc} {cells slots : Nat} {Q : State → Prop} {g : JFrame}
    (k : H.size ≤ s.heap.size + cells → W p l e R s m args below meth c H locs cells slots Q g) : W p l e R s m args below meth c H locs cells slots Q g := by
  intro T hT X
  have h := X.same.2.2.1
  exact k (by rw [← hT]; exact h) T hT X
/-- a contract out of a walk -/
theorem Mc.of {M : MI} {av : List Value} {n : Nat} {h : HF} {Post : PQ} (hy : plainName (mY M).cls = true) (hown : (mY M).cls = mO M) (hlen : (lg_sl av).length ≤ mL M)
    (k : Vg M none (QM M n Post) 0 (lent0 av (mL M)) [] n h 0 0) : Mc M av n h Post := by
  intro l D dA sc b
  refine Met.ofW (cc := mC M) (maxL := mL M) (ret := mT M) hy rfl ?_
  intro p e s m args below meth c s₁ B hml hv
  obtain ⟨hargs, hP, hsz, hK⟩ := hv
  have hts := atoms_spec (ws := miW M) B.pre
  have hfc : s.vm.findClass (mO M) = some m.cls := by rw [← hown]; exact findClass_of_methodNamed B.named
  have hin : meth.name = (mY M).name := (name_of_methodNamed B.named B.method).1
  have hl2 : (lg_sl (av.map (tV sc b))).length ≤ mL M := by
    have e : ∀ vs : List Value, (lg_sl (vs.map (tV sc b))).length = (lg_sl vs).length := by
      intro vs
      induction vs with
      | nil => rfl
      | cons v vs ih =>
        simp only [lg_sl, List.map_cons, List.flatMap_cons, List.length_append, tV_cat] at ih ⊢
        rw [ih]
        by_cases hc : v.category = 2
        · rw [if_pos hc, if_pos hc]; rfl
        · rw [if_neg hc, if_neg hc]; rfl
    rw [e]; exact hlen
  have hl := lv_entry (av.map (tV sc b)) (n := mL M) hl2
  subst hargs
  rw [lg_entry_eq]
  refine k D dA sc b n p l e s m _ below meth c ⟨B.exec, B.bytes, B.returns, hml, hfc, fun w hw => hts w (List.mem_cons_of_mem _ hw), B.notSynchronized, hK, hsz, hin, fun q hq => by cases hq⟩ s.heap [] _ hP (by omega) va_S.rf ?_
  refine ⟨hl.1, hl.2.1, fun q hq => ?_⟩
  obtain ⟨j, v, h1, h2⟩ := (lsq_mem sc b _ 0 q).mp hq
  subst h2
  exact hl.2.2 _ (lent_has sc b av 0 j v (lg_app h1))

section ROWS
variable {M : MI} {X : SX} {Q : QF} {pc q : Nat} {ls : List (Option Value)} {st : List Value} {n : Nat} {h : HF} {kc ks : Nat}
theorem x_iadd {x y : Int32} (hd : decode (mC M) pc = .ok (.iadd, 1)) (hq : pc + 1 = q)  (k : Vg M X Q q ls (.int (x + y) :: st) n h kc ks) : Vg M X Q pc ls (.int y :: .int x :: st) n h kc ks := by
  subst hq
  intro D dA sc b n0 p l e s m args below meth c C H locs lsm hP hn hS hL
  exact lv_iadd C.1 C.2.1 hd (k D dA sc b n0 p l e s m args below meth c C H locs lsm hP hn hS hL)
theorem x_isub {x y : Int32} (hd : decode (mC M) pc = .ok (.isub, 1)) (hq : pc + 1 = q)  (k : Vg M X Q q ls (.int (x - y) :: st) n h kc ks) : Vg M X Q pc ls (.int y :: .int x :: st) n h kc ks := by
  subst hq
  intro D dA sc b n0 p l e s m args below meth c C H locs lsm hP hn hS hL
  exact lv_isub C.1 C.2.1 hd (k D dA sc b n0 p l e s m args below meth c C H locs lsm hP hn hS hL)
theorem x_imul {x y : Int32} (hd : decode (mC M) pc = .ok (.imul, 1)) (hq : pc + 1 = q)  (k : Vg M X Q q ls (.int (x * y) :: st) n h kc ks) : Vg M X Q pc ls (.int y :: .int x :: st) n h kc ks := by
  subst hq
  intro D dA sc b n0 p l e s m args below meth c C H locs lsm hP hn hS hL
  exact lv_imul C.1 C.2.1 hd (k D dA sc b n0 p l e s m args below meth c C H locs lsm hP hn hS hL)
theorem x_iand {x y : Int32} (hd : decode (mC M) pc = .ok (.iand, 1)) (hq : pc + 1 = q)  (k : Vg M X Q q ls (.int (x &&& y) :: st) n h kc ks) : Vg M X Q pc ls (.int y :: .int x :: st) n h kc ks := by
  subst hq
  intro D dA sc b n0 p l e s m args below meth c C H locs lsm hP hn hS hL
  exact lv_iand C.1 C.2.1 hd (k D dA sc b n0 p l e s m args below meth c C H locs lsm hP hn hS hL)
theorem x_ior {x y : Int32} (hd : decode (mC M) pc = .ok (.ior, 1)) (hq : pc + 1 = q)  (k : Vg M X Q q ls (.int (x ||| y) :: st) n h kc ks) : Vg M X Q pc ls (.int y :: .int x :: st) n h kc ks := by
  subst hq
  intro D dA sc b n0 p l e s m args below meth c C H locs lsm hP hn hS hL
  exact lv_ior C.1 C.2.1 hd (k D dA sc b n0 p l e s m args below meth c C H locs lsm hP hn hS hL)
theorem x_ishl {x y : Int32} (hd : decode (mC M) pc = .ok (.ishl, 1)) (hq : pc + 1 = q)  (k : Vg M X Q q ls (.int (x <<< (y &&& 31)) :: st) n h kc ks) : Vg M X Q pc ls (.int y :: .int x :: st) n h kc ks := by
  subst hq
  intro D dA sc b n0 p l e s m args below meth c C H locs lsm hP hn hS hL
  exact lv_ishl C.1 C.2.1 hd (k D dA sc b n0 p l e s m args below meth c C H locs lsm hP hn hS hL)
theorem x_ishr {x y : Int32} (hd : decode (mC M) pc = .ok (.ishr, 1)) (hq : pc + 1 = q)  (k : Vg M X Q q ls (.int (x >>> (y &&& 31)) :: st) n h kc ks) : Vg M X Q pc ls (.int y :: .int x :: st) n h kc ks := by
  subst hq
  intro D dA sc b n0 p l e s m args below meth c C H locs lsm hP hn hS hL
  exact lv_ishr C.1 C.2.1 hd (k D dA sc b n0 p l e s m args below meth c C H locs lsm hP hn hS hL)
theorem x_iushr {x y v : Int32} (hd : decode (mC M) pc = .ok (.iushr, 1)) (hq : pc + 1 = q) (hv : (x.toUInt32 >>> (y.toUInt32 &&& Int32.toUInt32 31)).toInt32 = v) (k : Vg M X Q q ls (.int v :: st) n h kc ks) : Vg M X Q pc ls (.int y :: .int x :: st) n h kc ks := by
  subst hq
  intro D dA sc b n0 p l e s m args below meth c C H locs lsm hP hn hS hL
  exact lv_iushr C.1 C.2.1 hd hv (k D dA sc b n0 p l e s m args below meth c C H locs lsm hP hn hS hL)
theorem x_ineg {x : Int32} (hd : decode (mC M) pc = .ok (.ineg, 1)) (hq : pc + 1 = q)  (k : Vg M X Q q ls (.int (-x) :: st) n h kc ks) : Vg M X Q pc ls (.int x :: st) n h kc ks := by
  subst hq
  intro D dA sc b n0 p l e s m args below meth c C H locs lsm hP hn hS hL
  exact lv_ineg C.1 C.2.1 hd (k D dA sc b n0 p l e s m args below meth c C H locs lsm hP hn hS hL)
theorem x_ladd {x y : Int64} (hd : decode (mC M) pc = .ok (.ladd, 1)) (hq : pc + 1 = q)  (k : Vg M X Q q ls (.long (x + y) :: st) n h kc ks) : Vg M X Q pc ls (.long y :: .long x :: st) n h kc ks := by
  subst hq
  intro D dA sc b n0 p l e s m args below meth c C H locs lsm hP hn hS hL
  exact lv_ladd C.1 C.2.1 hd (k D dA sc b n0 p l e s m args below meth c C H locs lsm hP hn hS hL)
theorem x_lsub {x y : Int64} (hd : decode (mC M) pc = .ok (.lsub, 1)) (hq : pc + 1 = q)  (k : Vg M X Q q ls (.long (x - y) :: st) n h kc ks) : Vg M X Q pc ls (.long y :: .long x :: st) n h kc ks := by
  subst hq
  intro D dA sc b n0 p l e s m args below meth c C H locs lsm hP hn hS hL
  exact lv_lsub C.1 C.2.1 hd (k D dA sc b n0 p l e s m args below meth c C H locs lsm hP hn hS hL)
theorem x_lmul {x y : Int64} (hd : decode (mC M) pc = .ok (.lmul, 1)) (hq : pc + 1 = q)  (k : Vg M X Q q ls (.long (x * y) :: st) n h kc ks) : Vg M X Q pc ls (.long y :: .long x :: st) n h kc ks := by
  subst hq
  intro D dA sc b n0 p l e s m args below meth c C H locs lsm hP hn hS hL
  exact lv_lmul C.1 C.2.1 hd (k D dA sc b n0 p l e s m args below meth c C H locs lsm hP hn hS hL)
theorem x_land {x y : Int64} (hd : decode (mC M) pc = .ok (.land, 1)) (hq : pc + 1 = q)  (k : Vg M X Q q ls (.long (x &&& y) :: st) n h kc ks) : Vg M X Q pc ls (.long y :: .long x :: st) n h kc ks := by
  subst hq
  intro D dA sc b n0 p l e s m args below meth c C H locs lsm hP hn hS hL
  exact lv_land C.1 C.2.1 hd (k D dA sc b n0 p l e s m args below meth c C H locs lsm hP hn hS hL)
theorem x_lor {x y : Int64} (hd : decode (mC M) pc = .ok (.lor, 1)) (hq : pc + 1 = q)  (k : Vg M X Q q ls (.long (x ||| y) :: st) n h kc ks) : Vg M X Q pc ls (.long y :: .long x :: st) n h kc ks := by
  subst hq
  intro D dA sc b n0 p l e s m args below meth c C H locs lsm hP hn hS hL
  exact lv_lor C.1 C.2.1 hd (k D dA sc b n0 p l e s m args below meth c C H locs lsm hP hn hS hL)
theorem x_ldiv {x y : Int64} (hd : decode (mC M) pc = .ok (.ldiv, 1)) (hq : pc + 1 = q) (hne : ¬ y = 0) (k : Vg M X Q q ls (.long (x / y) :: st) n h kc ks) : Vg M X Q pc ls (.long y :: .long x :: st) n h kc ks := by
  subst hq
  intro D dA sc b n0 p l e s m args below meth c C H locs lsm hP hn hS hL
  exact lv_ldiv C.1 C.2.1 hd hne (k D dA sc b n0 p l e s m args below meth c C H locs lsm hP hn hS hL)
theorem x_lcmp {x y : Int64} (hd : decode (mC M) pc = .ok (.lcmp, 1)) (hq : pc + 1 = q)  (k : Vg M X Q q ls (.int (lg_cmp x y) :: st) n h kc ks) : Vg M X Q pc ls (.long y :: .long x :: st) n h kc ks := by
  subst hq
  intro D dA sc b n0 p l e s m args below meth c C H locs lsm hP hn hS hL
  exact W.lcmp C.1 C.2.1 hd (k D dA sc b n0 p l e s m args below meth c C H locs lsm hP hn hS hL)
theorem x_lshl {x : Int64} {y : Int32} (hd : decode (mC M) pc = .ok (.lshl, 1)) (hq : pc + 1 = q)  (k : Vg M X Q q ls (.long (x <<< (y.toInt64 &&& 63)) :: st) n h kc ks) : Vg M X Q pc ls (.int y :: .long x :: st) n h kc ks := by
  subst hq
  intro D dA sc b n0 p l e s m args below meth c C H locs lsm hP hn hS hL
  exact lv_lshl C.1 C.2.1 hd rfl (k D dA sc b n0 p l e s m args below meth c C H locs lsm hP hn hS hL)
theorem x_lshr {x : Int64} {y : Int32} (hd : decode (mC M) pc = .ok (.lshr, 1)) (hq : pc + 1 = q)  (k : Vg M X Q q ls (.long (x >>> (y.toInt64 &&& 63)) :: st) n h kc ks) : Vg M X Q pc ls (.int y :: .long x :: st) n h kc ks := by
  subst hq
  intro D dA sc b n0 p l e s m args below meth c C H locs lsm hP hn hS hL
  exact lv_lshr C.1 C.2.1 hd rfl (k D dA sc b n0 p l e s m args below meth c C H locs lsm hP hn hS hL)
theorem x_lushr {x v : Int64} {y : Int32} (hd : decode (mC M) pc = .ok (.lushr, 1)) (hq : pc + 1 = q) (hv : (x.toUInt64 >>> (y.toInt64.toUInt64 &&& Int64.toUInt64 63)).toInt64 = v) (k : Vg M X Q q ls (.long v :: st) n h kc ks) : Vg M X Q pc ls (.int y :: .long x :: st) n h kc ks := by
  subst hq
  intro D dA sc b n0 p l e s m args below meth c C H locs lsm hP hn hS hL
  exact lv_lushr C.1 C.2.1 hd hv (k D dA sc b n0 p l e s m args below meth c C H locs lsm hP hn hS hL)
theorem x_i2l {x : Int32} (hd : decode (mC M) pc = .ok (.i2l, 1)) (hq : pc + 1 = q)  (k : Vg M X Q q ls (.long x.toInt64 :: st) n h kc ks) : Vg M X Q pc ls (.int x :: st) n h kc ks := by
  subst hq
  intro D dA sc b n0 p l e s m args below meth c C H locs lsm hP hn hS hL
  exact lv_i2l C.1 C.2.1 hd rfl (k D dA sc b n0 p l e s m args below meth c C H locs lsm hP hn hS hL)
theorem x_l2i {x : Int64} (hd : decode (mC M) pc = .ok (.l2i, 1)) (hq : pc + 1 = q)  (k : Vg M X Q q ls (.int x.toInt32 :: st) n h kc ks) : Vg M X Q pc ls (.long x :: st) n h kc ks := by
  subst hq
  intro D dA sc b n0 p l e s m args below meth c C H locs lsm hP hn hS hL
  exact lv_l2i C.1 C.2.1 hd rfl (k D dA sc b n0 p l e s m args below meth c C H locs lsm hP hn hS hL)
theorem x_iconst {v : Int32} {i : Int} (hd : decode (mC M) pc = .ok (.iconst i, 1)) (hq : pc + 1 = q) (hv : Int32.ofInt i = v) (k : Vg M X Q q ls (.int v :: st) n h kc ks) : Vg M X Q pc ls (st) n h kc ks := by
  subst hq
  intro D dA sc b n0 p l e s m args below meth c C H locs lsm hP hn hS hL
  exact lv_iconst C.1 C.2.1 hd hv (k D dA sc b n0 p l e s m args below meth c C H locs lsm hP hn hS hL)
theorem x_bipush {v : Int32} {i : Int} (hd : decode (mC M) pc = .ok (.bipush i, 2)) (hq : pc + 2 = q) (hv : (Int8.ofInt i).toInt32 = v) (k : Vg M X Q q ls (.int v :: st) n h kc ks) : Vg M X Q pc ls (st) n h kc ks := by
  subst hq
  intro D dA sc b n0 p l e s m args below meth c C H locs lsm hP hn hS hL
  exact lv_bipush C.1 C.2.1 hd hv (k D dA sc b n0 p l e s m args below meth c C H locs lsm hP hn hS hL)
theorem x_sipush {v : Int32} {i : Int} (hd : decode (mC M) pc = .ok (.sipush i, 3)) (hq : pc + 3 = q) (hv : (Int16.ofInt i).toInt32 = v) (k : Vg M X Q q ls (.int v :: st) n h kc ks) : Vg M X Q pc ls (st) n h kc ks := by
  subst hq
  intro D dA sc b n0 p l e s m args below meth c C H locs lsm hP hn hS hL
  exact lv_sipush C.1 C.2.1 hd hv (k D dA sc b n0 p l e s m args below meth c C H locs lsm hP hn hS hL)
theorem x_lconst {v : Int64} {i : Fin 2} (hd : decode (mC M) pc = .ok (.lconst i, 1)) (hq : pc + 1 = q) (hv : Int64.ofNat (i : Nat) = v) (k : Vg M X Q q ls (.long v :: st) n h kc ks) : Vg M X Q pc ls (st) n h kc ks := by
  subst hq
  intro D dA sc b n0 p l e s m args below meth c C H locs lsm hP hn hS hL
  exact lv_lconst C.1 C.2.1 hd hv (k D dA sc b n0 p l e s m args below meth c C H locs lsm hP hn hS hL)
theorem x_ldc {v : Int32} {i : Nat} (hd : decode (mC M) pc = .ok (.ldc i, 2)) (hq : pc + 2 = q) (hw : Cond.constant (mO M) i v ∈ gw) (k : Vg M X Q q ls (.int v :: st) n h kc ks) : Vg M X Q pc ls (st) n h kc ks := by
  subst hq
  intro D dA sc b n0 p l e s m args below meth c C H locs lsm hP hn hS hL
  exact lv_ldc C.1 C.2.1 C.2.2.2.2.1 (C.2.2.2.2.2.1 _ hw) hd (k D dA sc b n0 p l e s m args below meth c C H locs lsm hP hn hS hL)
theorem x_ldcw {v : Int32} {i : Nat} (hd : decode (mC M) pc = .ok (.ldc_w i, 3)) (hq : pc + 3 = q) (hw : Cond.constant (mO M) i v ∈ gw) (k : Vg M X Q q ls (.int v :: st) n h kc ks) : Vg M X Q pc ls (st) n h kc ks := by
  subst hq
  intro D dA sc b n0 p l e s m args below meth c C H locs lsm hP hn hS hL
  exact lv_ldcw C.1 C.2.1 C.2.2.2.2.1 (C.2.2.2.2.2.1 _ hw) hd (k D dA sc b n0 p l e s m args below meth c C H locs lsm hP hn hS hL)
theorem x_ldc2 {v : Int64} {i : Nat} (hd : decode (mC M) pc = .ok (.ldc2_w i, 3)) (hq : pc + 3 = q) (hw : Cond.constantLong (mO M) i v ∈ gw) (k : Vg M X Q q ls (.long v :: st) n h kc ks) : Vg M X Q pc ls (st) n h kc ks := by
  subst hq
  intro D dA sc b n0 p l e s m args below meth c C H locs lsm hP hn hS hL
  exact lv_ldc2 C.1 C.2.1 C.2.2.2.2.1 (C.2.2.2.2.2.1 _ hw) hd (k D dA sc b n0 p l e s m args below meth c C H locs lsm hP hn hS hL)
theorem x_iload {x : Int32} {i : Nat} (hd : decode (mC M) pc = .ok (.iload i, 2)) (hq : pc + 2 = q) (hl : lg ls i = some (.int x)) (k : Vg M X Q q ls (.int x :: st) n h kc ks) : Vg M X Q pc ls (st) n h kc ks := by
  subst hq
  intro D dA sc b n0 p l e s m args below meth c C H locs lsm hP hn hS hL
  exact lv_iload C.1 C.2.1 hd (hL.at hl) (k D dA sc b n0 p l e s m args below meth c C H locs lsm hP hn hS hL)
theorem x_iload_n {x : Int32} {i : Fin 4} {j : Nat} (hd : decode (mC M) pc = .ok (.iload_n i, 1)) (hq : pc + 1 = q) (hj : (i : Nat) = j) (hl : lg ls j = some (.int x)) (k : Vg M X Q q ls (.int x :: st) n h kc ks) : Vg M X Q pc ls (st) n h kc ks := by
  subst hq
  intro D dA sc b n0 p l e s m args below meth c C H locs lsm hP hn hS hL
  exact lv_iload_n C.1 C.2.1 hd hj (hL.at hl) (k D dA sc b n0 p l e s m args below meth c C H locs lsm hP hn hS hL)
theorem x_lload {x : Int64} {i : Nat} (hd : decode (mC M) pc = .ok (.lload i, 2)) (hq : pc + 2 = q) (hl : lg ls i = some (.long x)) (k : Vg M X Q q ls (.long x :: st) n h kc ks) : Vg M X Q pc ls (st) n h kc ks := by
  subst hq
  intro D dA sc b n0 p l e s m args below meth c C H locs lsm hP hn hS hL
  exact lv_lload C.1 C.2.1 hd (hL.at hl) (k D dA sc b n0 p l e s m args below meth c C H locs lsm hP hn hS hL)
theorem x_lload_n {x : Int64} {i : Fin 4} {j : Nat} (hd : decode (mC M) pc = .ok (.lload_n i, 1)) (hq : pc + 1 = q) (hj : (i : Nat) = j) (hl : lg ls j = some (.long x)) (k : Vg M X Q q ls (.long x :: st) n h kc ks) : Vg M X Q pc ls (st) n h kc ks := by
  subst hq
  intro D dA sc b n0 p l e s m args below meth c C H locs lsm hP hn hS hL
  exact lv_lload_n C.1 C.2.1 hd hj (hL.at hl) (k D dA sc b n0 p l e s m args below meth c C H locs lsm hP hn hS hL)
theorem x_aload {x : Nat} {i : Nat} (hd : decode (mC M) pc = .ok (.aload i, 2)) (hq : pc + 2 = q) (hl : lg ls i = some (.ref x)) (k : Vg M X Q q ls (.ref x :: st) n h kc ks) : Vg M X Q pc ls (st) n h kc ks := by
  subst hq
  intro D dA sc b n0 p l e s m args below meth c C H locs lsm hP hn hS hL
  exact lv_aload C.1 C.2.1 hd (hL.at hl) (k D dA sc b n0 p l e s m args below meth c C H locs lsm hP hn hS hL)
theorem x_aload_n {x : Nat} {i : Fin 4} {j : Nat} (hd : decode (mC M) pc = .ok (.aload_n i, 1)) (hq : pc + 1 = q) (hj : (i : Nat) = j) (hl : lg ls j = some (.ref x)) (k : Vg M X Q q ls (.ref x :: st) n h kc ks) : Vg M X Q pc ls (st) n h kc ks := by
  subst hq
  intro D dA sc b n0 p l e s m args below meth c C H locs lsm hP hn hS hL
  exact lv_aload_n C.1 C.2.1 hd hj (hL.at hl) (k D dA sc b n0 p l e s m args below meth c C H locs lsm hP hn hS hL)
theorem x_dup {v : Value} (hd : decode (mC M) pc = .ok (.dup, 1)) (hq : pc + 1 = q) (hc : v.category = 1) (k : Vg M X Q q ls (v :: v :: st) n h kc ks) : Vg M X Q pc ls (v :: st) n h kc ks := by
  subst hq
  intro D dA sc b n0 p l e s m args below meth c C H locs lsm hP hn hS hL
  exact lv_dup C.1 C.2.1 hd ((tV_cat sc b v).trans hc) (k D dA sc b n0 p l e s m args below meth c C H locs lsm hP hn hS hL)
theorem x_dup2 {v w : Value} (hd : decode (mC M) pc = .ok (.dup2, 1)) (hq : pc + 1 = q) (hc : v.category = 1) (hc2 : w.category = 1) (k : Vg M X Q q ls (v :: w :: v :: w :: st) n h kc ks) : Vg M X Q pc ls (v :: w :: st) n h kc ks := by
  subst hq
  intro D dA sc b n0 p l e s m args below meth c C H locs lsm hP hn hS hL
  exact lv_dup2_11 C.1 C.2.1 hd ((tV_cat sc b v).trans hc) ((tV_cat sc b w).trans hc2) (k D dA sc b n0 p l e s m args below meth c C H locs lsm hP hn hS hL)
theorem x_pop {v : Value} (hd : decode (mC M) pc = .ok (.pop, 1)) (hq : pc + 1 = q) (hc : v.category = 1) (k : Vg M X Q q ls (st) n h kc ks) : Vg M X Q pc ls (v :: st) n h kc ks := by
  subst hq
  intro D dA sc b n0 p l e s m args below meth c C H locs lsm hP hn hS hL
  exact lv_pop C.1 C.2.1 hd ((tV_cat sc b v).trans hc) (k D dA sc b n0 p l e s m args below meth c C H locs lsm hP hn hS hL)
theorem x_pop2 {v : Value} (hd : decode (mC M) pc = .ok (.pop2, 1)) (hq : pc + 1 = q) (hc : v.category = 2) (k : Vg M X Q q ls (st) n h kc ks) : Vg M X Q pc ls (v :: st) n h kc ks := by
  subst hq
  intro D dA sc b n0 p l e s m args below meth c C H locs lsm hP hn hS hL
  exact lv_pop2_2 C.1 C.2.1 hd ((tV_cat sc b v).trans hc) (k D dA sc b n0 p l e s m args below meth c C H locs lsm hP hn hS hL)
theorem x_istore {x : Int32} {i : Nat} (hd : decode (mC M) pc = .ok (.istore i, 2)) (hq : pc + 2 = q) (hi : i < mL M) (k : Vg M X Q q (ls1 ls i (.int x)) st n h kc ks) : Vg M X Q pc ls (.int x :: st) n h kc ks := by
  subst hq
  intro D dA sc b n0 p l e s m args below meth c C H locs lsm hP hn hS hL
  exact lv_istore C.1 C.2.1 hd hL hi rfl (fun lsm2 hl2 => k D dA sc b n0 p l e s m args below meth c C H locs lsm2 hP hn hS (LSr.st1 hl2))
theorem x_istore_n {x : Int32} {i : Fin 4} {j : Nat} (hd : decode (mC M) pc = .ok (.istore_n i, 1)) (hq : pc + 1 = q) (hj : (i : Nat) = j) (hi : j < mL M) (k : Vg M X Q q (ls1 ls j (.int x)) st n h kc ks) : Vg M X Q pc ls (.int x :: st) n h kc ks := by
  subst hq
  intro D dA sc b n0 p l e s m args below meth c C H locs lsm hP hn hS hL
  exact lv_istore_n C.1 C.2.1 hd hj hL hi rfl (fun lsm2 hl2 => k D dA sc b n0 p l e s m args below meth c C H locs lsm2 hP hn hS (LSr.st1 hl2))
theorem x_lstore {x : Int64} {i : Nat} (hd : decode (mC M) pc = .ok (.lstore i, 2)) (hq : pc + 2 = q) (hi : i + 1 < mL M) (k : Vg M X Q q (ls2 ls i (.long x)) st n h kc ks) : Vg M X Q pc ls (.long x :: st) n h kc ks := by
  subst hq
  intro D dA sc b n0 p l e s m args below meth c C H locs lsm hP hn hS hL
  exact lv_lstore C.1 C.2.1 hd hL hi rfl (fun lsm2 hl2 => k D dA sc b n0 p l e s m args below meth c C H locs lsm2 hP hn hS (LSr.st2 hl2))
theorem x_lstore_n {x : Int64} {i : Fin 4} {j : Nat} (hd : decode (mC M) pc = .ok (.lstore_n i, 1)) (hq : pc + 1 = q) (hj : (i : Nat) = j) (hi : j + 1 < mL M) (k : Vg M X Q q (ls2 ls j (.long x)) st n h kc ks) : Vg M X Q pc ls (.long x :: st) n h kc ks := by
  subst hq
  intro D dA sc b n0 p l e s m args below meth c C H locs lsm hP hn hS hL
  exact lv_lstore_n C.1 C.2.1 hd hj hL hi rfl (fun lsm2 hl2 => k D dA sc b n0 p l e s m args below meth c C H locs lsm2 hP hn hS (LSr.st2 hl2))
theorem x_astore {x : Nat} {i : Nat} (hd : decode (mC M) pc = .ok (.astore i, 2)) (hq : pc + 2 = q) (hi : i < mL M) (k : Vg M X Q q (ls1 ls i (.ref x)) st n h kc ks) : Vg M X Q pc ls (.ref x :: st) n h kc ks := by
  subst hq
  intro D dA sc b n0 p l e s m args below meth c C H locs lsm hP hn hS hL
  exact lv_astore C.1 C.2.1 hd hL hi rfl (fun lsm2 hl2 => k D dA sc b n0 p l e s m args below meth c C H locs lsm2 hP hn hS (LSr.st1 hl2))
theorem x_astore_n {x : Nat} {i : Fin 4} {j : Nat} (hd : decode (mC M) pc = .ok (.astore_n i, 1)) (hq : pc + 1 = q) (hj : (i : Nat) = j) (hi : j < mL M) (k : Vg M X Q q (ls1 ls j (.ref x)) st n h kc ks) : Vg M X Q pc ls (.ref x :: st) n h kc ks := by
  subst hq
  intro D dA sc b n0 p l e s m args below meth c C H locs lsm hP hn hS hL
  exact lv_astore_n C.1 C.2.1 hd hj hL hi rfl (fun lsm2 hl2 => k D dA sc b n0 p l e s m args below meth c C H locs lsm2 hP hn hS (LSr.st1 hl2))
theorem x_iinc {x v : Int32} {i : Nat} {z : Int} (hd : decode (mC M) pc = .ok (.iinc i z, 3)) (hq : pc + 3 = q) (hl : lg ls i = some (.int x)) (hv : x + Int32.ofInt z = v) (hi : i < mL M) (k : Vg M X Q q (ls1 ls i (.int v)) st n h kc ks) : Vg M X Q pc ls st n h kc ks := by
  subst hq
  intro D dA sc b n0 p l e s m args below meth c C H locs lsm hP hn hS hL
  obtain ⟨j, hj⟩ := List.getElem?_of_mem ((lsq_mem sc b ls 0 (i, .int x)).mpr ⟨i, .int x, hl, by rw [Nat.zero_add]; rfl⟩)
  exact lv_iinc C.1 C.2.1 hd hL hj hv hi rfl (fun lsm2 hl2 => k D dA sc b n0 p l e s m args below meth c C H locs lsm2 hP hn hS (LSr.st1 hl2))
theorem x_goto {off : Int} (hd : decode (mC M) pc = .ok (.goto off, 3)) (ht : (pc : Int) + off = (q : Int)) (k : Vg M X Q q ls st n h kc ks) : Vg M X Q pc ls st n h kc ks := by
  intro D dA sc b n0 p l e s m args below meth c C H locs lsm hP hn hS hL
  exact lv_goto C.1 C.2.1 hd ht (k D dA sc b n0 p l e s m args below meth c C H locs lsm hP hn hS hL)
theorem x_if_eq {x : Int32} {off : Int} {t : Nat} (hd : decode (mC M) pc = .ok (.ifCond .eq off, 3)) (hq : pc + 3 = q) (ht : (pc : Int) + off = (t : Int)) (kt : x = 0 → Vg M X Q t ls st n h kc ks) (kf : ¬ (x = 0) → Vg M X Q q ls st n h kc ks) : Vg M X Q pc ls (.int x :: st) n h kc ks := by
  subst hq
  intro D dA sc b n0 p l e s m args below meth c C H locs lsm hP hn hS hL
  exact lv_if_eq C.1 C.2.1 hd ht (fun z => kt z D dA sc b n0 p l e s m args below meth c C H locs lsm hP hn hS hL) (fun z => kf z D dA sc b n0 p l e s m args below meth c C H locs lsm hP hn hS hL)
theorem x_ic_eq {x y : Int32} {off : Int} {t : Nat} (hd : decode (mC M) pc = .ok (.if_icmp .eq off, 3)) (hq : pc + 3 = q) (ht : (pc : Int) + off = (t : Int)) (kt : x = y → Vg M X Q t ls st n h kc ks) (kf : ¬ (x = y) → Vg M X Q q ls st n h kc ks) : Vg M X Q pc ls (.int y :: .int x :: st) n h kc ks := by
  subst hq
  intro D dA sc b n0 p l e s m args below meth c C H locs lsm hP hn hS hL
  exact lv_icmp_eq C.1 C.2.1 hd ht (fun z => kt z D dA sc b n0 p l e s m args below meth c C H locs lsm hP hn hS hL) (fun z => kf z D dA sc b n0 p l e s m args below meth c C H locs lsm hP hn hS hL)
theorem x_if_ne {x : Int32} {off : Int} {t : Nat} (hd : decode (mC M) pc = .ok (.ifCond .ne off, 3)) (hq : pc + 3 = q) (ht : (pc : Int) + off = (t : Int)) (kt : ¬ x = 0 → Vg M X Q t ls st n h kc ks) (kf : x = 0 → Vg M X Q q ls st n h kc ks) : Vg M X Q pc ls (.int x :: st) n h kc ks := by
  subst hq
  intro D dA sc b n0 p l e s m args below meth c C H locs lsm hP hn hS hL
  exact lv_if_ne C.1 C.2.1 hd ht (fun z => kt z D dA sc b n0 p l e s m args below meth c C H locs lsm hP hn hS hL) (fun z => kf z D dA sc b n0 p l e s m args below meth c C H locs lsm hP hn hS hL)
theorem x_ic_ne {x y : Int32} {off : Int} {t : Nat} (hd : decode (mC M) pc = .ok (.if_icmp .ne off, 3)) (hq : pc + 3 = q) (ht : (pc : Int) + off = (t : Int)) (kt : ¬ x = y → Vg M X Q t ls st n h kc ks) (kf : x = y → Vg M X Q q ls st n h kc ks) : Vg M X Q pc ls (.int y :: .int x :: st) n h kc ks := by
  subst hq
  intro D dA sc b n0 p l e s m args below meth c C H locs lsm hP hn hS hL
  exact lv_icmp_ne C.1 C.2.1 hd ht (fun z => kt z D dA sc b n0 p l e s m args below meth c C H locs lsm hP hn hS hL) (fun z => kf z D dA sc b n0 p l e s m args below meth c C H locs lsm hP hn hS hL)
theorem x_if_lt {x : Int32} {off : Int} {t : Nat} (hd : decode (mC M) pc = .ok (.ifCond .lt off, 3)) (hq : pc + 3 = q) (ht : (pc : Int) + off = (t : Int)) (kt : x < 0 → Vg M X Q t ls st n h kc ks) (kf : ¬ (x < 0) → Vg M X Q q ls st n h kc ks) : Vg M X Q pc ls (.int x :: st) n h kc ks := by
  subst hq
  intro D dA sc b n0 p l e s m args below meth c C H locs lsm hP hn hS hL
  exact lv_if_lt C.1 C.2.1 hd ht (fun z => kt z D dA sc b n0 p l e s m args below meth c C H locs lsm hP hn hS hL) (fun z => kf z D dA sc b n0 p l e s m args below meth c C H locs lsm hP hn hS hL)
theorem x_ic_lt {x y : Int32} {off : Int} {t : Nat} (hd : decode (mC M) pc = .ok (.if_icmp .lt off, 3)) (hq : pc + 3 = q) (ht : (pc : Int) + off = (t : Int)) (kt : x < y → Vg M X Q t ls st n h kc ks) (kf : ¬ (x < y) → Vg M X Q q ls st n h kc ks) : Vg M X Q pc ls (.int y :: .int x :: st) n h kc ks := by
  subst hq
  intro D dA sc b n0 p l e s m args below meth c C H locs lsm hP hn hS hL
  exact lv_icmp_lt C.1 C.2.1 hd ht (fun z => kt z D dA sc b n0 p l e s m args below meth c C H locs lsm hP hn hS hL) (fun z => kf z D dA sc b n0 p l e s m args below meth c C H locs lsm hP hn hS hL)
theorem x_if_ge {x : Int32} {off : Int} {t : Nat} (hd : decode (mC M) pc = .ok (.ifCond .ge off, 3)) (hq : pc + 3 = q) (ht : (pc : Int) + off = (t : Int)) (kt : 0 ≤ x → Vg M X Q t ls st n h kc ks) (kf : ¬ (0 ≤ x) → Vg M X Q q ls st n h kc ks) : Vg M X Q pc ls (.int x :: st) n h kc ks := by
  subst hq
  intro D dA sc b n0 p l e s m args below meth c C H locs lsm hP hn hS hL
  exact lv_if_ge C.1 C.2.1 hd ht (fun z => kt z D dA sc b n0 p l e s m args below meth c C H locs lsm hP hn hS hL) (fun z => kf z D dA sc b n0 p l e s m args below meth c C H locs lsm hP hn hS hL)
theorem x_ic_ge {x y : Int32} {off : Int} {t : Nat} (hd : decode (mC M) pc = .ok (.if_icmp .ge off, 3)) (hq : pc + 3 = q) (ht : (pc : Int) + off = (t : Int)) (kt : y ≤ x → Vg M X Q t ls st n h kc ks) (kf : ¬ (y ≤ x) → Vg M X Q q ls st n h kc ks) : Vg M X Q pc ls (.int y :: .int x :: st) n h kc ks := by
  subst hq
  intro D dA sc b n0 p l e s m args below meth c C H locs lsm hP hn hS hL
  exact lv_icmp_ge C.1 C.2.1 hd ht (fun z => kt z D dA sc b n0 p l e s m args below meth c C H locs lsm hP hn hS hL) (fun z => kf z D dA sc b n0 p l e s m args below meth c C H locs lsm hP hn hS hL)
theorem x_if_gt {x : Int32} {off : Int} {t : Nat} (hd : decode (mC M) pc = .ok (.ifCond .gt off, 3)) (hq : pc + 3 = q) (ht : (pc : Int) + off = (t : Int)) (kt : 0 < x → Vg M X Q t ls st n h kc ks) (kf : ¬ (0 < x) → Vg M X Q q ls st n h kc ks) : Vg M X Q pc ls (.int x :: st) n h kc ks := by
  subst hq
  intro D dA sc b n0 p l e s m args below meth c C H locs lsm hP hn hS hL
  exact lv_if_gt C.1 C.2.1 hd ht (fun z => kt z D dA sc b n0 p l e s m args below meth c C H locs lsm hP hn hS hL) (fun z => kf z D dA sc b n0 p l e s m args below meth c C H locs lsm hP hn hS hL)
theorem x_ic_gt {x y : Int32} {off : Int} {t : Nat} (hd : decode (mC M) pc = .ok (.if_icmp .gt off, 3)) (hq : pc + 3 = q) (ht : (pc : Int) + off = (t : Int)) (kt : y < x → Vg M X Q t ls st n h kc ks) (kf : ¬ (y < x) → Vg M X Q q ls st n h kc ks) : Vg M X Q pc ls (.int y :: .int x :: st) n h kc ks := by
  subst hq
  intro D dA sc b n0 p l e s m args below meth c C H locs lsm hP hn hS hL
  exact lv_icmp_gt C.1 C.2.1 hd ht (fun z => kt z D dA sc b n0 p l e s m args below meth c C H locs lsm hP hn hS hL) (fun z => kf z D dA sc b n0 p l e s m args below meth c C H locs lsm hP hn hS hL)
theorem x_if_le {x : Int32} {off : Int} {t : Nat} (hd : decode (mC M) pc = .ok (.ifCond .le off, 3)) (hq : pc + 3 = q) (ht : (pc : Int) + off = (t : Int)) (kt : x ≤ 0 → Vg M X Q t ls st n h kc ks) (kf : ¬ (x ≤ 0) → Vg M X Q q ls st n h kc ks) : Vg M X Q pc ls (.int x :: st) n h kc ks := by
  subst hq
  intro D dA sc b n0 p l e s m args below meth c C H locs lsm hP hn hS hL
  exact lv_if_le C.1 C.2.1 hd ht (fun z => kt z D dA sc b n0 p l e s m args below meth c C H locs lsm hP hn hS hL) (fun z => kf z D dA sc b n0 p l e s m args below meth c C H locs lsm hP hn hS hL)
theorem x_ic_le {x y : Int32} {off : Int} {t : Nat} (hd : decode (mC M) pc = .ok (.if_icmp .le off, 3)) (hq : pc + 3 = q) (ht : (pc : Int) + off = (t : Int)) (kt : x ≤ y → Vg M X Q t ls st n h kc ks) (kf : ¬ (x ≤ y) → Vg M X Q q ls st n h kc ks) : Vg M X Q pc ls (.int y :: .int x :: st) n h kc ks := by
  subst hq
  intro D dA sc b n0 p l e s m args below meth c C H locs lsm hP hn hS hL
  exact lv_icmp_le C.1 C.2.1 hd ht (fun z => kt z D dA sc b n0 p l e s m args below meth c C H locs lsm hP hn hS hL) (fun z => kf z D dA sc b n0 p l e s m args below meth c C H locs lsm hP hn hS hL)
theorem x_tswO {dflt lo hi : Int} {offs : Array Int} {len : Nat} {x : Int32} (hd : decode (mC M) pc = .ok (.tableswitch dflt lo hi offs, len)) (hx : x.toInt < lo ∨ hi < x.toInt) (ht : (pc : Int) + dflt = (q : Int)) (k : Vg M X Q q ls st n h kc ks) : Vg M X Q pc ls (.int x :: st) n h kc ks := by
  intro D dA sc b n0 p l e s m args below meth c C H locs lsm hP hn hS hL
  exact lv_tableOut C.1 C.2.1 hd hx ht (k D dA sc b n0 p l e s m args below meth c C H locs lsm hP hn hS hL)
theorem x_tswI {dflt lo hi : Int} {offs : Array Int} {len : Nat} {x : Int32} {off : Int} (hd : decode (mC M) pc = .ok (.tableswitch dflt lo hi offs, len)) (h1 : ¬ x.toInt < lo) (h2 : ¬ hi < x.toInt) (ho : offs[(x.toInt - lo).toNat]? = some off) (ht : (pc : Int) + off = (q : Int)) (k : Vg M X Q q ls st n h kc ks) : Vg M X Q pc ls (.int x :: st) n h kc ks := by
  intro D dA sc b n0 p l e s m args below meth c C H locs lsm hP hn hS hL
  exact lv_tableIn C.1 C.2.1 hd h1 h2 ho ht (k D dA sc b n0 p l e s m args below meth c C H locs lsm hP hn hS hL)
end ROWS
end
section
/-- a field by its place in a constant pool: the kind of object, the field's place, its type, whether final -/
def FL (own : String) (idx ci f : Nat) (ty : FieldType) (fin : Bool) : Prop := ∃ (C : String) (T : u_T) (N : Nat), vwCl[ci]? = some (C, T, N) ∧ f < N ∧ (∀ w ∈ u_ws C T N, w ∈ gw) ∧ (T f).1 = C ∧ (T f).2.2.2 = fin ∧ parseFieldDescriptor (T f).2.2.1 = some ty ∧ (∃ ty0 : Nat → FieldType, ∀ k, k < N → parseFieldDescriptor (T k).2.2.1 = some (ty0 k)) ∧ (∀ a, a < N → ∀ b, b < N → a ≠ b → (T a).2.1 ≠ (T b).2.1) ∧ (Cond.fieldLink own idx C (T f).2.1 (T f).2.2.1 ∈ gw ∨ ∃ host : String, Cond.fieldLinkNest own idx C (T f).2.1 (T f).2.2.1 host ∈ nw)
theorem tV_nar {ty : FieldType} {v : Value} (sc b : Nat) (h : narrow ty v = v) : narrow ty (tV sc b v) = tV sc b v := by
  cases v with
  | ref k => cases ty <;> rfl
  | int x => exact h
  | _ => cases ty <;> rfl
theorem tV_fit {ty : FieldType} {v : Value} (sc b : Nat) (h : fits ty v = true) : fits ty (tV sc b v) = true := by
  cases v with
  | ref k => cases ty <;> first | rfl | cases h
  | _ => exact h
def cats : List Value → Nat
  | [] => 0
  | v :: l => v.category + cats l
theorem cats_sum (sc b : Nat) : ∀ l : List Value, ((l.map (tV sc b)).map fun v => v.category).sum = cats l
  | [] => rfl
  | v :: l => by
    simp only [List.map_cons, List.sum_cons, cats, tV_cat]
    rw [cats_sum sc b l]
def rok (M M' : MI) (kc ks : Nat) : Bool := Nat.ble ((mR M').frames + 1) (mR M).frames && (Nat.ble (8 + (mL M' + 11) + (mR M').locals) (mR M).locals && (Nat.ble (kc + (mR M').cells) (mR M).cells && Nat.ble (ks + (mR M').slots) (mR M).slots))
theorem rok_of {M M' : MI} {kc ks : Nat} (h : rok M M' kc ks = true) : ((mR M').frames + 1 ≤ (mR M).frames ∧ 8 + (mL M' + 11) + (mR M').locals ≤ (mR M).locals) ∧ kc + (mR M').cells ≤ (mR M).cells ∧ ks + (mR M').slots ≤ (mR M).slots := by
  simp only [rok, Bool.and_eq_true] at h
  exact ⟨⟨Nat.le_of_ble_eq_true h.1, Nat.le_of_ble_eq_true h.2.1⟩, Nat.le_of_ble_eq_true h.2.2.1, Nat.le_of_ble_eq_true h.2.2.2⟩
/-- what a caller needs of a method: its code's word, its owner is ready -/
def MF (M : MI) : Prop := Cond.code (mY M) (mC M) (mL M) (mT M) ∈ gw ∧ Cond.initialized (mY M).cls ∈ gw ∧ ((mY M).cls ≠ "java/lang/invoke/MethodHandle" ∧ (mY M).cls ≠ "java/lang/invoke/VarHandle")
def LK (own : String) (idx : Nat) (M : MI) (na : Nat) : Prop := MF M ∧ (Cond.methodLink own idx (mY M) ∈ gw ∨ ∃ host : String, Cond.methodLinkNest own idx (mY M) host ∈ nw) ∧ (parseMethodDescriptor (mY M).desc).map (fun d => d.parameters.length) = some na
def KS (own : String) (idx : Nat) (M : MI) (na : Nat) : Prop := LK own idx M na ∧ Cond.static (mY M) ∈ gw
def KV (own : String) (idx ci : Nat) (M : MI) (na : Nat) : Prop := LK own idx M na ∧ Cond.instanceMethod (mY M) ∈ gw ∧ ∃ (T : u_T) (N : Nat), vwCl[ci]? = some ((mY M).cls, T, N) ∧ Cond.selects (mY M).cls (mY M) (mY M) ∈ gw
def KI (own : String) (idx : Nat) (M : MI) (na : Nat) : Prop := LK own idx M na ∧ Cond.instanceMethod (mY M) ∈ gw ∧ (mY M).name = "<init>" ∧ mT M = none
theorem gw_good {M : MI} (h : MF M) : GoodIn gw (miW M) := by
  intro w hw
  rcases List.mem_cons.mp hw with e | e
  · rw [e]; exact ⟨h.1, good_of_word (List.mem_filter.mp h.1).2⟩
  · exact ⟨e, good_of_word (List.mem_filter.mp e).2⟩
theorem pre_blind (av : List Value) (D : va_G) (dA : Nat → ClassId) (sc b n : Nat) (h : HF) : FrameBlind (va_Pc av (Pre D dA sc b n h)) := by
  intro a U g mk q
  obtain ⟨q0, q1, q2, q3⟩ := q
  exact ⟨q0, q1, q2, q3.callS⟩
theorem call_end {D : va_G} {dA : Nat → ClassId} {sc b nn mc ms : Nat} {Post : PQ} {a : Array Value} {p : Program} {l : Launch} {e : Env} {R : Room} {s : State} {m : MethodId} {args : Array Value} {below : List Frame} {meth : Method} {c : Code} {H : Heap} {locs : List Loc} {kc ks pc : Nat} {Q : State → Prop} {lsm : Array Slot} {st0 rest : List Value}
    (hr : va_Run p l e R s m args below meth c H locs kc ks mc ms (F0 m pc lsm st0) rest (Qx nn Post D dA sc b a) (fun q : Nat => b ≤ q)) (hS : va_S (fun q : Nat => b ≤ q) s.heap H locs)
    (kk : ∀ (r : Option Value) (h' : HF) (H1 : Heap) (locs1 : List Loc), Post r h' → va_P D vwCl (wd sc b dA nn h') H1 → va_S (fun q : Nat => b ≤ q) s.heap H1 locs1 → W p l e R s m args below meth c H1 locs1 (kc + mc) (ks + ms) Q (F0 m (pc + 3) lsm ((r.map (tV sc b)).toList ++ rest))) : W p l e R s m args below meth c H locs kc ks Q (F0 m pc lsm st0) := by
  intro T hT X
  obtain ⟨v, st₀, t, T', L, h0, X', hL, e1, e2, ⟨r, h', hv, hp, hw, hz, hk⟩, st⟩ := hr T hT X
  cases hv
  rw [h0] at hz hk
  obtain ⟨t2, a1, b1⟩ := kk r h' T'.heap (locs ++ L) hp (by rw [e1]; exact hw)
    ⟨Nat.le_trans hS.1 (by rw [e1]; exact hz), fun q h1 h2 => by rw [e1, hk q (Nat.lt_of_lt_of_le h1 hS.1) h2]; exact hS.2.1 q h1 h2, fun q hq => by
      rcases List.mem_append.mp hq with h | h
      · exact hS.2.2 q h
      · exact hL q h⟩ T' rfl X'
  exact ⟨t2, st t2 a1, b1⟩
theorem tl_map (sc b : Nat) (r : Option Value) (rest : List Value) : (r.map (tV sc b)).toList ++ rest.map (tV sc b) = (r.toList ++ rest).map (tV sc b) := by cases r <;> simp
section HROWS
variable {M : MI} {X : SX} {Q : QF} {pc q : Nat} {ls : List (Option Value)} {st : List Value} {n : Nat} {h : HF} {kc ks : Nat}
theorem x_get {a idx ci f : Nat} {fs : List Value} {v : Value} {ty : FieldType} {fin : Bool} (hd : decode (mC M) pc = .ok (.getfield idx, 3)) (hq : pc + 3 = q) (hf : FL (mO M) idx ci f ty fin) (ho : h a = .inr (ci, fs)) (hv : fs[f]? = some v) (ha : 0 < a ∧ a ≤ n) (k : Vg M X Q q ls (v :: st) n h kc ks) : Vg M X Q pc ls (.ref a :: st) n h kc ks := by
  subst hq
  obtain ⟨a', rfl⟩ : ∃ a', a = a' + 1 := ⟨a - 1, by omega⟩
  intro D dA sc b n0 p l e s m args below meth c C H locs lsm hP hn hS hL
  obtain ⟨hx, hb, hr0, hml, hown, hts, hlocks, hK, hsz, hnm, hX⟩ := id C
  obtain ⟨Cn, T, N, hc, hk, hin, hdc, hfin, hty, ⟨ty0, hty0⟩, hnms, hlk⟩ := hf
  have he : (wd sc b dA n h)[a']? = some (b + a', .inr (ci, fs.map (tV sc b))) := by rw [wd_at (by omega), ho]; rfl
  have hv' : (fs.map (tV sc b))[f]? = some (tV sc b v) := by rw [List.getElem?_map, hv]; rfl
  rcases hlk with hl | ⟨host, hl⟩
  · exact va_get hx hb hts hin hown hK.1 hP a' he hc f hk (hts _ hl) (fun y z => by rw [← hdc]; exact z) hv' hd (k D dA sc b n0 p l e s m args below meth c C H locs lsm hP hn hS hL)
  · exact va_getN hx hb hts hin hown hK.1 hP a' he hc f hk (nw_use rfl (hK.2.1 _ hl)) (fun y z => by rw [← hdc]; exact z) hv' hd (k D dA sc b n0 p l e s m args below meth c C H locs lsm hP hn hS hL)
theorem x_put {a idx ci f : Nat} {fs : List Value} {v : Value} {ty : FieldType} (hd : decode (mC M) pc = .ok (.putfield idx, 3)) (hq : pc + 3 = q) (hf : FL (mO M) idx ci f ty false) (ho : h a = .inr (ci, fs)) (hl : f < fs.length) (hnr : narrow ty v = v) (hft : fits ty v = true) (ha : 0 < a ∧ a ≤ n) (k : Vg M X Q q ls st n (hu h a (.inr (ci, fs.set f v))) kc ks) : Vg M X Q pc ls (v :: .ref a :: st) n h kc ks := by
  subst hq
  obtain ⟨a', rfl⟩ : ∃ a', a = a' + 1 := ⟨a - 1, by omega⟩
  intro D dA sc b n0 p l e s m args below meth c C H locs lsm hP hn hS hL
  obtain ⟨hx, hb, hr0, hml, hown, hts, hlocks, hK, hsz, hnm, hX⟩ := id C
  obtain ⟨Cn, T, N, hc, hk, hin, hdc, hfin, hty, ⟨ty0, hty0⟩, hnms, hlk⟩ := hf
  have he : (wd sc b dA n h)[a']? = some (b + a', .inr (ci, fs.map (tV sc b))) := by rw [wd_at (by omega), ho]; rfl
  have e9 : (wd sc b dA n h).set a' (b + a', .inr (ci, (fs.map (tV sc b)).set f (tV sc b v))) = wd sc b dA n (hu h (a' + 1) (.inr (ci, fs.set f v))) := by
    rw [← wd_set]
    simp [tE, List.map_set]
  rcases hlk with hl2 | ⟨host, hl2⟩
  · refine va_put hx hb hts hin ty0 hty0 hnms hown hK.1 hP wd_D hS a' he hc f hk (hts _ hl2) (fun y z => by rw [← hdc]; exact z) hfin hty (tV_nar sc b hnr) (tV_fit sc b hft) (by rw [List.length_map]; exact hl) hd (fun H1 locs1 hP1 hD1 hS1 => ?_)
    rw [e9] at hP1
    exact k D dA sc b n0 p l e s m args below meth c C H1 locs1 lsm hP1 hn hS1 hL
  · refine va_putN hx hb hts hin ty0 hty0 hnms hown hK.1 hP wd_D hS a' he hc f hk (nw_use rfl (hK.2.1 _ hl2)) (fun y z => by rw [← hdc]; exact z) hfin hty (tV_nar sc b hnr) (tV_fit sc b hft) (by rw [List.length_map]; exact hl) hd (fun H1 locs1 hP1 hD1 hS1 => ?_)
    rw [e9] at hP1
    exact k D dA sc b n0 p l e s m args below meth c C H1 locs1 lsm hP1 hn hS1 hL
theorem x_putF {a idx ci f : Nat} {fs : List Value} {v : Value} {ty : FieldType} (hd : decode (mC M) pc = .ok (.putfield idx, 3)) (hq : pc + 3 = q) (hf : FL (mO M) idx ci f ty true) (hi : (mY M).name = "<init>") (hde : ∃ (T : u_T) (N : Nat), vwCl[ci]? = some (mO M, T, N)) (hlk0 : ∀ (T : u_T) (N : Nat), vwCl[ci]? = some (mO M, T, N) → Cond.fieldLink (mO M) idx (mO M) (T f).2.1 (T f).2.2.1 ∈ gw) (ho : h a = .inr (ci, fs)) (hl : f < fs.length) (hnr : narrow ty v = v) (hft : fits ty v = true) (ha : 0 < a ∧ a ≤ n) (k : Vg M X Q q ls st n (hu h a (.inr (ci, fs.set f v))) kc ks) : Vg M X Q pc ls (v :: .ref a :: st) n h kc ks := by
  subst hq
  obtain ⟨a', rfl⟩ : ∃ a', a = a' + 1 := ⟨a - 1, by omega⟩
  intro D dA sc b n0 p l e s m args below meth c C H locs lsm hP hn hS hL
  obtain ⟨hx, hb, hr0, hml, hown, hts, hlocks, hK, hsz, hnm, hX⟩ := id C
  obtain ⟨Cn, T, N, hc, hk, hin, hdc, hfin, hty, ⟨ty0, hty0⟩, hnms, hlk⟩ := hf
  obtain ⟨T2, N2, hc2⟩ := hde
  have hcc : Cn = mO M := by have := hc.symm.trans hc2; cases this; rfl
  subst hcc
  have he : (wd sc b dA n h)[a']? = some (b + a', .inr (ci, fs.map (tV sc b))) := by rw [wd_at (by omega), ho]; rfl
  have e9 : (wd sc b dA n h).set a' (b + a', .inr (ci, (fs.map (tV sc b)).set f (tV sc b v))) = wd sc b dA n (hu h (a' + 1) (.inr (ci, fs.set f v))) := by
    rw [← wd_set]
    simp [tE, List.map_set]
  refine va_putF hx hb hts hin ty0 hty0 hnms hown hK.1 hP wd_D hS a' he hc f hk (hts _ (hlk0 T N hc)) (fun y z => by rw [← hdc]; exact z) hfin (hnm.trans hi) hdc hty (tV_nar sc b hnr) (tV_fit sc b hft) (by rw [List.length_map]; exact hl) hd (fun H1 locs1 hP1 hD1 hS1 => ?_)
  rw [e9] at hP1
  exact k D dA sc b n0 p l e s m args below meth c C H1 locs1 lsm hP1 hn hS1 hL
theorem x_iald {a N : Nat} {f : Nat → Int32} {i : Int32} (hd : decode (mC M) pc = .ok (.iaload, 1)) (hq : pc + 1 = q) (ho : h a = .inl (0, N, .inl f)) (hi : vp_in i N) (ha : 0 < a ∧ a ≤ n) (k : Vg M X Q q ls (.int (f i.toNatClampNeg) :: st) n h kc ks) : Vg M X Q pc ls (.int i :: .ref a :: st) n h kc ks := by
  subst hq
  obtain ⟨a', rfl⟩ : ∃ a', a = a' + 1 := ⟨a - 1, by omega⟩
  intro D dA sc b n0 p l e s m args below meth c C H locs lsm hP hn hS hL
  obtain ⟨hx, hb, hr0, hml, hown, hts, hlocks, hK, hsz, hnm, hX⟩ := id C
  have he : (wd sc b dA n h)[a']? = some (b + a', .inl (dA 0, N, .inl f)) := by rw [wd_at (by omega), ho]; rfl
  exact va_iald hx hb hK.1 hP a' 0 he rfl hi hd (k D dA sc b n0 p l e s m args below meth c C H locs lsm hP hn hS hL)
theorem x_zald {a N : Nat} {f : Nat → Int32} {i : Int32} (hd : decode (mC M) pc = .ok (.baload, 1)) (hq : pc + 1 = q) (ho : h a = .inl (1, N, .inl f)) (hi : vp_in i N) (ha : 0 < a ∧ a ≤ n) (k : Vg M X Q q ls (.int (f i.toNatClampNeg) :: st) n h kc ks) : Vg M X Q pc ls (.int i :: .ref a :: st) n h kc ks := by
  subst hq
  obtain ⟨a', rfl⟩ : ∃ a', a = a' + 1 := ⟨a - 1, by omega⟩
  intro D dA sc b n0 p l e s m args below meth c C H locs lsm hP hn hS hL
  obtain ⟨hx, hb, hr0, hml, hown, hts, hlocks, hK, hsz, hnm, hX⟩ := id C
  have he : (wd sc b dA n h)[a']? = some (b + a', .inl (dA 1, N, .inl f)) := by rw [wd_at (by omega), ho]; rfl
  exact va_zald hx hb hK.1 hP a' 1 he rfl hi hd (k D dA sc b n0 p l e s m args below meth c C H locs lsm hP hn hS hL)
theorem x_lald {a N : Nat} {f : Nat → Int64} {i : Int32} (hd : decode (mC M) pc = .ok (.laload, 1)) (hq : pc + 1 = q) (ho : h a = .inl (2, N, .inr (.inl f))) (hi : vp_in i N) (ha : 0 < a ∧ a ≤ n) (k : Vg M X Q q ls (.long (f i.toNatClampNeg) :: st) n h kc ks) : Vg M X Q pc ls (.int i :: .ref a :: st) n h kc ks := by
  subst hq
  obtain ⟨a', rfl⟩ : ∃ a', a = a' + 1 := ⟨a - 1, by omega⟩
  intro D dA sc b n0 p l e s m args below meth c C H locs lsm hP hn hS hL
  obtain ⟨hx, hb, hr0, hml, hown, hts, hlocks, hK, hsz, hnm, hX⟩ := id C
  have he : (wd sc b dA n h)[a']? = some (b + a', .inl (dA 2, N, .inr (.inl f))) := by rw [wd_at (by omega), ho]; rfl
  exact va_lald hx hb hK.1 hP a' 2 he rfl hi hd (k D dA sc b n0 p l e s m args below meth c C H locs lsm hP hn hS hL)
theorem x_aald3 {a N r : Nat} {f : Nat → Option Nat} {i : Int32} (hd : decode (mC M) pc = .ok (.aaload, 1)) (hq : pc + 1 = q) (ho : h a = .inl (3, N, .inr (.inr (.inr (.inr f))))) (hi : vp_in i N) (hj : f i.toNatClampNeg = some r) (ha : 0 < a ∧ a ≤ n) (k : Vg M X Q q ls (.ref r :: st) n h kc ks) : Vg M X Q pc ls (.int i :: .ref a :: st) n h kc ks := by
  subst hq
  obtain ⟨a', rfl⟩ : ∃ a', a = a' + 1 := ⟨a - 1, by omega⟩
  intro D dA sc b n0 p l e s m args below meth c C H locs lsm hP hn hS hL
  obtain ⟨hx, hb, hr0, hml, hown, hts, hlocks, hK, hsz, hnm, hX⟩ := id C
  have he : (wd sc b dA n h)[a']? = some (b + a', .inl (dA 3, N, .inr (.inr (.inr (.inr (fun j => (f j).map (ad sc b))))))) := by rw [wd_at (by omega), ho]; rfl
  refine va_aldq hx hb hK.1 hP a' 3 he rfl hi hd ?_
  rw [show va_rf ((fun j => (f j).map (ad sc b)) i.toNatClampNeg) = tV sc b (.ref r) by simp [hj, va_rf, tV]]
  exact k D dA sc b n0 p l e s m args below meth c C H locs lsm hP hn hS hL
theorem x_aald4 {a N r : Nat} {f : Nat → Option Nat} {i : Int32} (hd : decode (mC M) pc = .ok (.aaload, 1)) (hq : pc + 1 = q) (ho : h a = .inl (4, N, .inr (.inr (.inr (.inr f))))) (hi : vp_in i N) (hj : f i.toNatClampNeg = some r) (ha : 0 < a ∧ a ≤ n) (k : Vg M X Q q ls (.ref r :: st) n h kc ks) : Vg M X Q pc ls (.int i :: .ref a :: st) n h kc ks := by
  subst hq
  obtain ⟨a', rfl⟩ : ∃ a', a = a' + 1 := ⟨a - 1, by omega⟩
  intro D dA sc b n0 p l e s m args below meth c C H locs lsm hP hn hS hL
  obtain ⟨hx, hb, hr0, hml, hown, hts, hlocks, hK, hsz, hnm, hX⟩ := id C
  have he : (wd sc b dA n h)[a']? = some (b + a', .inl (dA 4, N, .inr (.inr (.inr (.inr (fun j => (f j).map (ad sc b))))))) := by rw [wd_at (by omega), ho]; rfl
  refine va_aldq hx hb hK.1 hP a' 4 he rfl hi hd ?_
  rw [show va_rf ((fun j => (f j).map (ad sc b)) i.toNatClampNeg) = tV sc b (.ref r) by simp [hj, va_rf, tV]]
  exact k D dA sc b n0 p l e s m args below meth c C H locs lsm hP hn hS hL
theorem x_iast {a N : Nat} {f : Nat → Int32} {i : Int32} {x : Int32} (hd : decode (mC M) pc = .ok (.iastore, 1)) (hq : pc + 1 = q) (ho : h a = .inl (0, N, .inl f)) (hi : vp_in i N)  (ha : 0 < a ∧ a ≤ n) (k : Vg M X Q q ls st n (hu h a (.inl (0, N, .inl (upd f i.toNatClampNeg x)))) kc ks) : Vg M X Q pc ls (.int x :: .int i :: .ref a :: st) n h kc ks := by
  subst hq
  obtain ⟨a', rfl⟩ : ∃ a', a = a' + 1 := ⟨a - 1, by omega⟩
  intro D dA sc b n0 p l e s m args below meth c C H locs lsm hP hn hS hL
  obtain ⟨hx, hb, hr0, hml, hown, hts, hlocks, hK, hsz, hnm, hX⟩ := id C
  have he : (wd sc b dA n h)[a']? = some (b + a', .inl (dA 0, N, .inl f)) := by rw [wd_at (by omega), ho]; rfl
  refine va_iast hx hb hK.1 hP wd_D hS a' 0 he rfl hi hd (fun H1 locs1 hP1 hD1 hS1 => ?_)
  have e9 : (wd sc b dA n h).set a' (b + a', .inl (dA 0, N, .inl (upd f i.toNatClampNeg x))) = wd sc b dA n (hu h (a' + 1) (.inl (0, N, .inl (upd f i.toNatClampNeg x)))) := by
    rw [← wd_set]; rfl
  rw [e9] at hP1
  exact k D dA sc b n0 p l e s m args below meth c C H1 locs1 lsm hP1 hn hS1 hL
theorem x_zast {a N : Nat} {f : Nat → Int32} {i : Int32} {x : Int32} (hd : decode (mC M) pc = .ok (.bastore, 1)) (hq : pc + 1 = q) (ho : h a = .inl (1, N, .inl f)) (hi : vp_in i N) (hb0 : vp_nar .boolean x = x) (ha : 0 < a ∧ a ≤ n) (k : Vg M X Q q ls st n (hu h a (.inl (1, N, .inl (upd f i.toNatClampNeg x)))) kc ks) : Vg M X Q pc ls (.int x :: .int i :: .ref a :: st) n h kc ks := by
  subst hq
  obtain ⟨a', rfl⟩ : ∃ a', a = a' + 1 := ⟨a - 1, by omega⟩
  intro D dA sc b n0 p l e s m args below meth c C H locs lsm hP hn hS hL
  obtain ⟨hx, hb, hr0, hml, hown, hts, hlocks, hK, hsz, hnm, hX⟩ := id C
  have he : (wd sc b dA n h)[a']? = some (b + a', .inl (dA 1, N, .inl f)) := by rw [wd_at (by omega), ho]; rfl
  refine va_zast hx hb hK.1 hP wd_D hS a' 1 he rfl hi hd (fun H1 locs1 hP1 hD1 hS1 => ?_)
  rw [hb0] at hP1
  have e9 : (wd sc b dA n h).set a' (b + a', .inl (dA 1, N, .inl (upd f i.toNatClampNeg x))) = wd sc b dA n (hu h (a' + 1) (.inl (1, N, .inl (upd f i.toNatClampNeg x)))) := by
    rw [← wd_set]; rfl
  rw [e9] at hP1
  exact k D dA sc b n0 p l e s m args below meth c C H1 locs1 lsm hP1 hn hS1 hL
theorem x_last {a N : Nat} {f : Nat → Int64} {i : Int32} {x : Int64} (hd : decode (mC M) pc = .ok (.lastore, 1)) (hq : pc + 1 = q) (ho : h a = .inl (2, N, .inr (.inl f))) (hi : vp_in i N)  (ha : 0 < a ∧ a ≤ n) (k : Vg M X Q q ls st n (hu h a (.inl (2, N, .inr (.inl (vp_updL f i.toNatClampNeg x))))) kc ks) : Vg M X Q pc ls (.long x :: .int i :: .ref a :: st) n h kc ks := by
  subst hq
  obtain ⟨a', rfl⟩ : ∃ a', a = a' + 1 := ⟨a - 1, by omega⟩
  intro D dA sc b n0 p l e s m args below meth c C H locs lsm hP hn hS hL
  obtain ⟨hx, hb, hr0, hml, hown, hts, hlocks, hK, hsz, hnm, hX⟩ := id C
  have he : (wd sc b dA n h)[a']? = some (b + a', .inl (dA 2, N, .inr (.inl f))) := by rw [wd_at (by omega), ho]; rfl
  refine va_last hx hb hK.1 hP wd_D hS a' 2 he rfl hi hd (fun H1 locs1 hP1 hD1 hS1 => ?_)
  have e9 : (wd sc b dA n h).set a' (b + a', .inl (dA 2, N, .inr (.inl (vp_updL f i.toNatClampNeg x)))) = wd sc b dA n (hu h (a' + 1) (.inl (2, N, .inr (.inl (vp_updL f i.toNatClampNeg x))))) := by
    rw [← wd_set]; rfl
  rw [e9] at hP1
  exact k D dA sc b n0 p l e s m args below meth c C H1 locs1 lsm hP1 hn hS1 hL
theorem x_aast3 {a N r ci : Nat} {vs : List Value} {T : u_T} {Nf : Nat} {f : Nat → Option Nat} {i : Int32} (hd : decode (mC M) pc = .ok (.aastore, 1)) (hq : pc + 1 = q) (ho : h a = .inl (3, N, .inr (.inr (.inr (.inr f))))) (hr : h r = .inr (ci, vs)) (hc : vwCl[ci]? = some ("ColourWorks$Batch", T, Nf)) (hi : vp_in i N) (ha : 0 < a ∧ a ≤ n) (hr2 : 0 < r ∧ r ≤ n) (k : Vg M X Q q ls st n (hu h a (.inl (3, N, .inr (.inr (.inr (.inr (va_up f i.toNatClampNeg (some r)))))))) kc ks) : Vg M X Q pc ls (.ref r :: .int i :: .ref a :: st) n h kc ks := by
  subst hq
  obtain ⟨a', rfl⟩ : ∃ a', a = a' + 1 := ⟨a - 1, by omega⟩
  obtain ⟨r', rfl⟩ : ∃ r', r = r' + 1 := ⟨r - 1, by omega⟩
  intro D dA sc b n0 p l e s m args below meth c C H locs lsm hP hn hS hL
  obtain ⟨hx, hb, hr0, hml, hown, hts, hlocks, hK, hsz, hnm, hX⟩ := id C
  have he : (wd sc b dA n h)[a']? = some (b + a', .inl (dA 3, N, .inr (.inr (.inr (.inr (fun j => (f j).map (ad sc b))))))) := by rw [wd_at (by omega), ho]; rfl
  have hv : (wd sc b dA n h)[r']? = some (b + r', .inr (ci, vs.map (tV sc b))) := by rw [wd_at (by omega), hr]; rfl
  refine va_astq hx hb hK.1 hP wd_D hS a' 3 r' ci he rfl hv hc hi hd (fun H1 locs1 hP1 hD1 hS1 => ?_)
  have e9 : (wd sc b dA n h).set a' (b + a', .inl (dA 3, N, .inr (.inr (.inr (.inr (va_up (fun j => (f j).map (ad sc b)) i.toNatClampNeg (some (b + r')))))))) = wd sc b dA n (hu h (a' + 1) (.inl (3, N, .inr (.inr (.inr (.inr (va_up f i.toNatClampNeg (some (r' + 1))))))))) := by
    rw [← wd_set]
    have e8 : va_up (fun j => (f j).map (ad sc b)) i.toNatClampNeg (some (b + r')) = fun j => (va_up f i.toNatClampNeg (some (r' + 1)) j).map (ad sc b) := by
      funext j
      by_cases hj : j = i.toNatClampNeg
      · simp [va_up, hj, ad]
      · simp [va_up, hj]
    rw [e8]; rfl
  rw [e9] at hP1
  exact k D dA sc b n0 p l e s m args below meth c C H1 locs1 lsm hP1 hn hS1 hL
theorem x_aast4 {a N r ci : Nat} {vs : List Value} {T : u_T} {Nf : Nat} {f : Nat → Option Nat} {i : Int32} (hd : decode (mC M) pc = .ok (.aastore, 1)) (hq : pc + 1 = q) (ho : h a = .inl (4, N, .inr (.inr (.inr (.inr f))))) (hr : h r = .inr (ci, vs)) (hc : vwCl[ci]? = some ("ColourWorks$Tank", T, Nf)) (hi : vp_in i N) (ha : 0 < a ∧ a ≤ n) (hr2 : 0 < r ∧ r ≤ n) (k : Vg M X Q q ls st n (hu h a (.inl (4, N, .inr (.inr (.inr (.inr (va_up f i.toNatClampNeg (some r)))))))) kc ks) : Vg M X Q pc ls (.ref r :: .int i :: .ref a :: st) n h kc ks := by
  subst hq
  obtain ⟨a', rfl⟩ : ∃ a', a = a' + 1 := ⟨a - 1, by omega⟩
  obtain ⟨r', rfl⟩ : ∃ r', r = r' + 1 := ⟨r - 1, by omega⟩
  intro D dA sc b n0 p l e s m args below meth c C H locs lsm hP hn hS hL
  obtain ⟨hx, hb, hr0, hml, hown, hts, hlocks, hK, hsz, hnm, hX⟩ := id C
  have he : (wd sc b dA n h)[a']? = some (b + a', .inl (dA 4, N, .inr (.inr (.inr (.inr (fun j => (f j).map (ad sc b))))))) := by rw [wd_at (by omega), ho]; rfl
  have hv : (wd sc b dA n h)[r']? = some (b + r', .inr (ci, vs.map (tV sc b))) := by rw [wd_at (by omega), hr]; rfl
  refine va_astq hx hb hK.1 hP wd_D hS a' 4 r' ci he rfl hv hc hi hd (fun H1 locs1 hP1 hD1 hS1 => ?_)
  have e9 : (wd sc b dA n h).set a' (b + a', .inl (dA 4, N, .inr (.inr (.inr (.inr (va_up (fun j => (f j).map (ad sc b)) i.toNatClampNeg (some (b + r')))))))) = wd sc b dA n (hu h (a' + 1) (.inl (4, N, .inr (.inr (.inr (.inr (va_up f i.toNatClampNeg (some (r' + 1))))))))) := by
    rw [← wd_set]
    have e8 : va_up (fun j => (f j).map (ad sc b)) i.toNatClampNeg (some (b + r')) = fun j => (va_up f i.toNatClampNeg (some (r' + 1)) j).map (ad sc b) := by
      funext j
      by_cases hj : j = i.toNatClampNeg
      · simp [va_up, hj, ad]
      · simp [va_up, hj]
    rw [e8]; rfl
  rw [e9] at hP1
  exact k D dA sc b n0 p l e s m args below meth c C H1 locs1 lsm hP1 hn hS1 hL
theorem x_alen {a N : Nat} {f : Nat → Int32} {v : Int32} (hd : decode (mC M) pc = .ok (.arraylength, 1)) (hq : pc + 1 = q) (ho : h a = .inl (0, N, .inl f)) (hv : Int32.ofNat N = v) (ha : 0 < a ∧ a ≤ n) (k : Vg M X Q q ls (.int v :: st) n h kc ks) : Vg M X Q pc ls (.ref a :: st) n h kc ks := by
  subst hq
  obtain ⟨a', rfl⟩ : ∃ a', a = a' + 1 := ⟨a - 1, by omega⟩
  intro D dA sc b n0 p l e s m args below meth c C H locs lsm hP hn hS hL
  obtain ⟨hx, hb, hr0, hml, hown, hts, hlocks, hK, hsz, hnm, hX⟩ := id C
  have he : (wd sc b dA n h)[a']? = some (b + a', .inl (dA 0, N, .inl f)) := by rw [wd_at (by omega), ho]; rfl
  exact va_alen hx hb hK.1 hP a' 0 he rfl hv hd (k D dA sc b n0 p l e s m args below meth c C H locs lsm hP hn hS hL)
theorem x_acopy {a a0 N N0 idx : Nat} {f g : Nat → Int32} {sp dp len : Int32} (hd : decode (mC M) pc = .ok (.invokestatic idx, 3)) (hq : pc + 3 = q) (hw1 : Cond.methodLink (mO M) idx arraycopyName ∈ gw) (hw2 : Cond.native arraycopyName ∈ gw) (hw3 : Cond.static arraycopyName ∈ gw) (hw4 : Cond.initialized "java/lang/System" ∈ gw) (ho : h a = .inl (0, N, .inl g)) (ho0 : h a0 = .inl (0, N0, .inl f)) (ha : 0 < a ∧ a ≤ n) (ha0 : 0 < a0 ∧ a0 ≤ n) (h1 : ¬ sp < 0) (h2 : ¬ dp < 0) (h3 : ¬ len < 0) (h4 : sp.toNatClampNeg + len.toNatClampNeg ≤ N0) (h5 : dp.toNatClampNeg + len.toNatClampNeg ≤ N) (hfr : 1 ≤ (mR M).frames) (hlo : cats st + 18 ≤ (mR M).locals)
    (k : Vg M X Q q ls st n (hu h a (.inl (0, N, .inl (va_cpy f g sp.toNatClampNeg dp.toNatClampNeg len.toNatClampNeg)))) kc ks) : Vg M X Q pc ls (.int len :: .int dp :: .ref a :: .int sp :: .ref a0 :: st) n h kc ks := by
  subst hq
  obtain ⟨a', rfl⟩ : ∃ a', a = a' + 1 := ⟨a - 1, by omega⟩
  obtain ⟨a0', rfl⟩ : ∃ a0', a0 = a0' + 1 := ⟨a0 - 1, by omega⟩
  intro D dA sc b n0 p l e s m args below meth c C H locs lsm hP hn hS hL
  obtain ⟨hx, hb, hr0, hml, hown, hts, hlocks, hK, hsz, hnm, hX⟩ := id C
  have he : (wd sc b dA n h)[a']? = some (b + a', .inl (dA 0, N, .inl g)) := by rw [wd_at (by omega), ho]; rfl
  have he0 : (wd sc b dA n h)[a0']? = some (b + a0', .inl (dA 0, N0, .inl f)) := by rw [wd_at (by omega), ho0]; rfl
  refine va_copyi hx hb (hml.trans hL.1.symm) hown (hts _ hw1) (hts _ hw2) (hts _ hw3) (hts _ hw4) hK.1 hP wd_D hS a0' a' 0 0 (ty := .int) he0 he rfl rfl rfl h1 h2 h3 h4 h5 (fun _ _ => rfl) hfr (by rw [cats_sum]; exact hlo) hd (fun H1 locs1 hP1 hD1 hS1 => ?_)
  have e9 : (wd sc b dA n h).set a' (b + a', .inl (dA 0, N, .inl (va_cpy f g sp.toNatClampNeg dp.toNatClampNeg len.toNatClampNeg))) = wd sc b dA n (hu h (a' + 1) (.inl (0, N, .inl (va_cpy f g sp.toNatClampNeg dp.toNatClampNeg len.toNatClampNeg)))) := by
    rw [← wd_set]; rfl
  rw [e9] at hP1
  exact k D dA sc b n0 p l e s m args below meth c C H1 locs1 lsm hP1 hn hS1 hL
theorem x_sld {L : Nat} {xs : Nat → Int32} {i : Int32} (hd : decode (mC M) pc = .ok (.iaload, 1)) (hq : pc + 1 = q) (hi : vp_in i L) (k : Vg M (some (L, xs)) Q q ls (.int (xs i.toNatClampNeg) :: st) n h kc ks) : Vg M (some (L, xs)) Q pc ls (.int i :: .ref 0 :: st) n h kc ks := by
  subst hq
  intro D dA sc b n0 p l e s m args below meth c C H locs lsm hP hn hS hL
  obtain ⟨hx, hb, hr0, hml, hown, hts, hlocks, hK, hsz, hnm, hX⟩ := id C
  obtain ⟨x1, x2, x3⟩ := hX _ rfl
  exact va_sld (b := sc) (A := fun q : Nat => b ≤ q) hx hb x1 (by omega) (by omega) hS hi hd (k D dA sc b n0 p l e s m args below meth c C H locs lsm hP hn hS hL)
theorem x_slen {L : Nat} {xs : Nat → Int32} (hd : decode (mC M) pc = .ok (.arraylength, 1)) (hq : pc + 1 = q) (k : Vg M (some (L, xs)) Q q ls (.int (Int32.ofNat L) :: st) n h kc ks) : Vg M (some (L, xs)) Q pc ls (.ref 0 :: st) n h kc ks := by
  subst hq
  intro D dA sc b n0 p l e s m args below meth c C H locs lsm hP hn hS hL
  obtain ⟨hx, hb, hr0, hml, hown, hts, hlocks, hK, hsz, hnm, hX⟩ := id C
  obtain ⟨x1, x2, x3⟩ := hX _ rfl
  exact va_slen (b := sc) (A := fun q : Nat => b ≤ q) hx hb x1 (by omega) (by omega) hS hd (k D dA sc b n0 p l e s m args below meth c C H locs lsm hP hn hS hL)
theorem new_at {D : va_G} {dA : Nat → ClassId} {sc b qa : Nat} {E : va_E} {H1 : Heap} {s : State} (hsz : s.heap.size ≤ b + n) (hP : va_P D vwCl (wd sc b dA n h ++ [(qa, E)]) H1) (hD : va_D (fun q : Nat => b ≤ q) (wd sc b dA n h ++ [(qa, E)])) (hB : H1.size ≤ b + n + 1) : qa = b + n := by
  have hl : (wd sc b dA n h ++ [(qa, E)])[n]? = some (qa, E) := by
    rw [List.getElem?_append_right (by rw [wd_len]; omega), wd_len, Nat.sub_self]; rfl
  have h1 : qa < H1.size := (hP n _ hl).lt
  have h2 : b ≤ qa := hD.2 n _ hl
  by_cases h3 : qa < b + n
  · exfalso
    have hw : (wd sc b dA n h ++ [(qa, E)])[qa - b]? = some (b + (qa - b), tE sc b dA (h (qa - b + 1))) := by
      rw [List.getElem?_append_left (by rw [wd_len]; omega), wd_at (by omega)]
    have := hD.1 n (qa - b) _ _ hl hw (by show qa = b + (qa - b); omega)
    omega
  · omega
/-- a kind of object that a place of a pool makes: with these fields at first -/
def NL (own : String) (idx ci : Nat) (fs : List Value) (N : Nat) : Prop := ∃ (C : String) (T : u_T) (ty : Nat → FieldType), vwCl[ci]? = some (C, T, N) ∧ (∀ w ∈ u_ws C T N, w ∈ gw) ∧ (∀ k, k < N → parseFieldDescriptor (T k).2.2.1 = some (ty k)) ∧ Cond.classLink own idx C ∈ gw ∧ Cond.instantiable C N ∈ gw ∧ Cond.initialized C ∈ gw ∧ (∀ j, j < N → defaultValue (ty j) = vp_V fs j) ∧ ∀ sc b : Nat, fs.map (tV sc b) = fs
theorem x_new {idx ci N : Nat} {fs : List Value} {kc' ks' : Nat} (hd : decode (mC M) pc = .ok (.new idx, 3)) (hq : pc + 3 = q) (hf : NL (mO M) idx ci fs N) (hc1 : kc + 1 ≤ (mR M).cells) (hc2 : ks + N ≤ (mR M).slots) (hk1 : kc + 1 = kc') (hk2 : ks + N = ks') (k : Vg M X Q q ls (.ref (n + 1) :: st) (n + 1) (hu h (n + 1) (.inr (ci, fs))) kc' ks') : Vg M X Q pc ls st n h kc ks := by
  subst hq; subst hk1; subst hk2
  intro D dA sc b n0 p l e s m args below meth c C H locs lsm hP hn hS hL
  obtain ⟨hx, hb, hr0, hml, hown, hts, hlocks, hK, hsz, hnm, hX⟩ := id C
  obtain ⟨Cn, T, ty, hc, hin, hty, hcl, hins, hini, hfs, hmp⟩ := hf
  refine va_new hx hb hts hin ty hty hown (hts _ hcl) (hts _ hins) (hts _ hini) hK.1 hP wd_D hS (fun q hq => by omega) hc hfs hc1 hc2 hd (fun qa H1 hP1 hD1 hS1 => ?_)
  refine W.bnd (fun hB => ?_)
  have hqa := new_at (s := s) (by omega) hP1 hD1 (by omega)
  subst hqa
  have e9 : wd sc b dA n h ++ [(b + n, .inr (ci, fs))] = wd sc b dA (n + 1) (hu h (n + 1) (.inr (ci, fs))) := by
    rw [← wd_push]; simp [tE, hmp]
  rw [e9] at hP1
  exact k D dA sc b n0 p l e s m args below meth c C H1 locs lsm hP1 (by omega) hS1 hL
theorem x_newai {z : Int32} {N : Nat} {kc' ks' : Nat} (hd : decode (mC M) pc = .ok (.newarray .int, 2)) (hq : pc + 2 = q) (hw : Cond.arrayClass .int ∈ gw) (hz : ¬ z < 0) (hN : z.toNatClampNeg = N) (hby : N * 8 ≤ 536870912) (hc1 : kc + 1 ≤ (mR M).cells) (hc2 : ks + N ≤ (mR M).slots) (hk1 : kc + 1 = kc') (hk2 : ks + N = ks') (k : Vg M X Q q ls (.ref (n + 1) :: st) (n + 1) (hu h (n + 1) (.inl (0, N, .inl (fun _ => 0)))) kc' ks') : Vg M X Q pc ls (.int z :: st) n h kc ks := by
  subst hq; subst hk1; subst hk2
  intro D dA sc b n0 p l e s m args below meth c C H locs lsm hP hn hS hL
  obtain ⟨hx, hb, hr0, hml, hown, hts, hlocks, hK, hsz, hnm, hX⟩ := id C
  refine va_newa (atype := .int) (ty := .int) (a0 := (N, .inl (fun _ => 0))) hx hb (hts _ hw) rfl hK.1 hP wd_D hS (fun q hq => by omega) (fun cA => rfl) hz hN (by simp only [componentBytes]; omega) hc1 hc2 hd (fun qa cA H1 hK1 hP1 hD1 hS1 => ?_)
  refine W.bnd (fun hB => ?_)
  have hqa := new_at (s := s) (by omega) hP1 hD1 (by omega)
  subst hqa
  have hcA : cA = dA 0 := by
    have f1 : s.vm.findClass ("[" ++ (FieldType.int).toString) = some cA := (hK1.2 5 (cA, .int) rfl).2
    have f2 : s.vm.findClass ("[" ++ (FieldType.int).toString) = some (dA 0) := (hK.1.2 0 (dA 0, .int) rfl).2
    exact Option.some.inj (f1.symm.trans f2)
  subst hcA
  have e9 : wd sc b dA n h ++ [(b + n, .inl (dA 0, N, .inl (fun _ => 0)))] = wd sc b dA (n + 1) (hu h (n + 1) (.inl (0, N, .inl (fun _ => 0)))) := by
    rw [← wd_push]; rfl
  rw [e9] at hP1
  exact k D dA sc b n0 p l e s m args below meth c C H1 locs lsm hP1 (by omega) hS1 hL
theorem x_newaz {z : Int32} {N : Nat} {kc' ks' : Nat} (hd : decode (mC M) pc = .ok (.newarray .boolean, 2)) (hq : pc + 2 = q) (hw : Cond.arrayClass .boolean ∈ gw) (hz : ¬ z < 0) (hN : z.toNatClampNeg = N) (hby : N * 8 ≤ 536870912) (hc1 : kc + 1 ≤ (mR M).cells) (hc2 : ks + N ≤ (mR M).slots) (hk1 : kc + 1 = kc') (hk2 : ks + N = ks') (k : Vg M X Q q ls (.ref (n + 1) :: st) (n + 1) (hu h (n + 1) (.inl (1, N, .inl (fun _ => 0)))) kc' ks') : Vg M X Q pc ls (.int z :: st) n h kc ks := by
  subst hq; subst hk1; subst hk2
  intro D dA sc b n0 p l e s m args below meth c C H locs lsm hP hn hS hL
  obtain ⟨hx, hb, hr0, hml, hown, hts, hlocks, hK, hsz, hnm, hX⟩ := id C
  refine va_newa (atype := .boolean) (ty := .boolean) (a0 := (N, .inl (fun _ => 0))) hx hb (hts _ hw) rfl hK.1 hP wd_D hS (fun q hq => by omega) (fun cA => rfl) hz hN (by simp only [componentBytes]; omega) hc1 hc2 hd (fun qa cA H1 hK1 hP1 hD1 hS1 => ?_)
  refine W.bnd (fun hB => ?_)
  have hqa := new_at (s := s) (by omega) hP1 hD1 (by omega)
  subst hqa
  have hcA : cA = dA 1 := by
    have f1 : s.vm.findClass ("[" ++ (FieldType.boolean).toString) = some cA := (hK1.2 5 (cA, .boolean) rfl).2
    have f2 : s.vm.findClass ("[" ++ (FieldType.boolean).toString) = some (dA 1) := (hK.1.2 1 (dA 1, .boolean) rfl).2
    exact Option.some.inj (f1.symm.trans f2)
  subst hcA
  have e9 : wd sc b dA n h ++ [(b + n, .inl (dA 1, N, .inl (fun _ => 0)))] = wd sc b dA (n + 1) (hu h (n + 1) (.inl (1, N, .inl (fun _ => 0)))) := by
    rw [← wd_push]; rfl
  rw [e9] at hP1
  exact k D dA sc b n0 p l e s m args below meth c C H1 locs lsm hP1 (by omega) hS1 hL
theorem x_newal {z : Int32} {N : Nat} {kc' ks' : Nat} (hd : decode (mC M) pc = .ok (.newarray .long, 2)) (hq : pc + 2 = q) (hw : Cond.arrayClass .long ∈ gw) (hz : ¬ z < 0) (hN : z.toNatClampNeg = N) (hby : N * 8 ≤ 536870912) (hc1 : kc + 1 ≤ (mR M).cells) (hc2 : ks + N ≤ (mR M).slots) (hk1 : kc + 1 = kc') (hk2 : ks + N = ks') (k : Vg M X Q q ls (.ref (n + 1) :: st) (n + 1) (hu h (n + 1) (.inl (2, N, .inr (.inl (fun _ => 0))))) kc' ks') : Vg M X Q pc ls (.int z :: st) n h kc ks := by
  subst hq; subst hk1; subst hk2
  intro D dA sc b n0 p l e s m args below meth c C H locs lsm hP hn hS hL
  obtain ⟨hx, hb, hr0, hml, hown, hts, hlocks, hK, hsz, hnm, hX⟩ := id C
  refine va_newa (atype := .long) (ty := .long) (a0 := (N, .inr (.inl (fun _ => 0)))) hx hb (hts _ hw) rfl hK.1 hP wd_D hS (fun q hq => by omega) (fun cA => rfl) hz hN (by simp only [componentBytes]; omega) hc1 hc2 hd (fun qa cA H1 hK1 hP1 hD1 hS1 => ?_)
  refine W.bnd (fun hB => ?_)
  have hqa := new_at (s := s) (by omega) hP1 hD1 (by omega)
  subst hqa
  have hcA : cA = dA 2 := by
    have f1 : s.vm.findClass ("[" ++ (FieldType.long).toString) = some cA := (hK1.2 5 (cA, .long) rfl).2
    have f2 : s.vm.findClass ("[" ++ (FieldType.long).toString) = some (dA 2) := (hK.1.2 2 (dA 2, .long) rfl).2
    exact Option.some.inj (f1.symm.trans f2)
  subst hcA
  have e9 : wd sc b dA n h ++ [(b + n, .inl (dA 2, N, .inr (.inl (fun _ => 0))))] = wd sc b dA (n + 1) (hu h (n + 1) (.inl (2, N, .inr (.inl (fun _ => 0))))) := by
    rw [← wd_push]; rfl
  rw [e9] at hP1
  exact k D dA sc b n0 p l e s m args below meth c C H1 locs lsm hP1 (by omega) hS1 hL
theorem x_newa3 {z : Int32} {idx N : Nat} {kc' ks' : Nat} (hd : decode (mC M) pc = .ok (.anewarray idx, 3)) (hq : pc + 3 = q) (hw : Cond.classLink (mO M) idx "ColourWorks$Batch" ∈ gw) (hz : ¬ z < 0) (hN : z.toNatClampNeg = N) (hby : N * 4 ≤ 536870912) (hc1 : kc + 1 ≤ (mR M).cells) (hc2 : ks + N ≤ (mR M).slots) (hk1 : kc + 1 = kc') (hk2 : ks + N = ks') (k : Vg M X Q q ls (.ref (n + 1) :: st) (n + 1) (hu h (n + 1) (.inl (3, N, .inr (.inr (.inr (.inr (fun _ => none))))))) kc' ks') : Vg M X Q pc ls (.int z :: st) n h kc ks := by
  subst hq; subst hk1; subst hk2
  intro D dA sc b n0 p l e s m args below meth c C H locs lsm hP hn hS hL
  obtain ⟨hx, hb, hr0, hml, hown, hts, hlocks, hK, hsz, hnm, hX⟩ := id C
  refine va_newq hx hb hown (hts _ hw) hK.2.2.1 hK.1 hP wd_D hS (fun q hq => by omega) hz hN hby hc1 hc2 hd (fun qa cA H1 hK1 hP1 hD1 hS1 => ?_)
  refine W.bnd (fun hB => ?_)
  have hqa := new_at (s := s) (by omega) hP1 hD1 (by omega)
  subst hqa
  have hcA : cA = dA 3 := by
    obtain ⟨-, -, -, -, -, f1⟩ := (hK1.2 5 (cA, .object "ColourWorks$Batch") rfl).2
    obtain ⟨-, -, -, -, -, f2⟩ := (hK.1.2 3 (dA 3, .object "ColourWorks$Batch") rfl).2
    exact Option.some.inj (f1.symm.trans f2)
  subst hcA
  have e9 : wd sc b dA n h ++ [(b + n, .inl (dA 3, N, .inr (.inr (.inr (.inr (fun _ => none))))))] = wd sc b dA (n + 1) (hu h (n + 1) (.inl (3, N, .inr (.inr (.inr (.inr (fun _ => none))))))) := by
    rw [← wd_push]; rfl
  rw [e9] at hP1
  exact k D dA sc b n0 p l e s m args below meth c C H1 locs lsm hP1 (by omega) hS1 hL
theorem x_newa4 {z : Int32} {idx N : Nat} {kc' ks' : Nat} (hd : decode (mC M) pc = .ok (.anewarray idx, 3)) (hq : pc + 3 = q) (hw : Cond.classLink (mO M) idx "ColourWorks$Tank" ∈ gw) (hz : ¬ z < 0) (hN : z.toNatClampNeg = N) (hby : N * 4 ≤ 536870912) (hc1 : kc + 1 ≤ (mR M).cells) (hc2 : ks + N ≤ (mR M).slots) (hk1 : kc + 1 = kc') (hk2 : ks + N = ks') (k : Vg M X Q q ls (.ref (n + 1) :: st) (n + 1) (hu h (n + 1) (.inl (4, N, .inr (.inr (.inr (.inr (fun _ => none))))))) kc' ks') : Vg M X Q pc ls (.int z :: st) n h kc ks := by
  subst hq; subst hk1; subst hk2
  intro D dA sc b n0 p l e s m args below meth c C H locs lsm hP hn hS hL
  obtain ⟨hx, hb, hr0, hml, hown, hts, hlocks, hK, hsz, hnm, hX⟩ := id C
  refine va_newq hx hb hown (hts _ hw) hK.2.2.2 hK.1 hP wd_D hS (fun q hq => by omega) hz hN hby hc1 hc2 hd (fun qa cA H1 hK1 hP1 hD1 hS1 => ?_)
  refine W.bnd (fun hB => ?_)
  have hqa := new_at (s := s) (by omega) hP1 hD1 (by omega)
  subst hqa
  have hcA : cA = dA 4 := by
    obtain ⟨-, -, -, -, -, f1⟩ := (hK1.2 5 (cA, .object "ColourWorks$Tank") rfl).2
    obtain ⟨-, -, -, -, -, f2⟩ := (hK.1.2 4 (dA 4, .object "ColourWorks$Tank") rfl).2
    exact Option.some.inj (f1.symm.trans f2)
  subst hcA
  have e9 : wd sc b dA n h ++ [(b + n, .inl (dA 4, N, .inr (.inr (.inr (.inr (fun _ => none))))))] = wd sc b dA (n + 1) (hu h (n + 1) (.inl (4, N, .inr (.inr (.inr (.inr (fun _ => none))))))) := by
    rw [← wd_push]; rfl
  rw [e9] at hP1
  exact k D dA sc b n0 p l e s m args below meth c C H1 locs lsm hP1 (by omega) hS1 hL
theorem x_obj {a idx : Nat} (hd : decode (mC M) pc = .ok (.invokespecial idx, 3)) (hq : pc + 3 = q) (hw1 : Cond.methodLink (mO M) idx objectInit ∈ gw) (hw2 : Cond.instanceMethod objectInit ∈ gw) (hw3 : Cond.code objectInit ⟨#[0xb1]⟩ 1 none ∈ gw) (hfr : 1 ≤ (mR M).frames) (hlo : cats st + 12 ≤ (mR M).locals) (k : Vg M X Q q ls st n h kc ks) : Vg M X Q pc ls (.ref a :: st) n h kc ks := by
  subst hq
  intro D dA sc b n0 p l e s m args below meth c C H locs lsm hP hn hS hL
  obtain ⟨hx, hb, hr0, hml, hown, hts, hlocks, hK, hsz, hnm, hX⟩ := id C
  refine W.objInit hx hb hown (hts _ hw1) (hts _ hw2) (hts _ hw3) rfl (hL.1.trans hml.symm) rfl hd hfr (by show 2 * 0 + _ + 12 ≤ _; rw [cats_sum]; omega) ?_
  exact k D dA sc b n0 p l e s m args below meth c C H locs lsm hP hn hS hL
theorem x_cs {M' : MI} {idx na : Nat} {av rest : List Value} {Post : PQ} {kc' ks' : Nat} (hd : decode (mC M) pc = .ok (.invokestatic idx, 3)) (hq : pc + 3 = q) (hl : KS (mO M) idx M' na) (hc : Mc M' av n h Post) (hav : av.length = na) (hs : av.reverse ++ rest = st) (hr : rok M M' kc ks = true) (hw : Nat.ble (cats rest) 8 = true) (hk1 : kc + (mR M').cells = kc') (hk2 : ks + (mR M').slots = ks') (k : ∀ (r : Option Value) (h' : HF), Post r h' → Vg M X Q q ls (r.toList ++ rest) (n + (mR M').cells) h' kc' ks') : Vg M X Q pc ls st n h kc ks := by
  obtain ⟨⟨hmf, hlk, hna⟩, hst⟩ := hl
  subst hq; subst hk1; subst hk2; subst hs
  intro D dA sc b n0 p l e s m args below meth c C H locs lsm hP hn hS hL
  obtain ⟨hx, hb, hr0, hml, hown, hts, hlocks, hK, hsz, hnm, hX⟩ := id C
  obtain ⟨⟨hrf, hrl⟩, hrc, hrs⟩ := rok_of hr
  have hws : ∀ w ∈ miW M', ∀ (a' : Array Value) (U : State), s.WarmedH U.vm → w.before a' U = true := pay_in hts (gw_good hmf)
  have hcd : Cond.code (mY M') (mC M') (mL M') (mT M') ∈ miW M' := List.mem_cons_self
  have hsig : ∀ sig, parseMethodDescriptor (mY M').desc = some sig → na = sig.parameters.length := fun sig hsg => by
    rw [hsg] at hna
    exact (Option.some.inj hna).symm
  refine W.bnd (fun hB => ?_)
  have hlow := wd_size hP (by have := hS.1; omega)
  have hcw : 2 * (F0 m pc lsm (List.map (tV sc b) (av.reverse ++ rest))).monitorRoom + ((rest.map (tV sc b)).map fun v => v.category).sum ≤ 8 := by
    rw [cats_sum]; show 2 * 0 + _ ≤ 8; have := Nat.le_of_ble_eq_true hw; omega
  have hU : ∀ U : State, U.heap = H → s.WarmedH U.vm → Pre D dA sc b n h U := fun U e1 e2 => ⟨by rw [e1]; exact hP, by rw [e1]; omega, hK.warm e2⟩
  have hpre : PreS s H (va_Pc (av.map (tV sc b)) (Pre D dA sc b n h)) (av.map (tV sc b)) := ⟨pre_blind _ _ _ _ _ _ _, fun U e1 e2 => ⟨rfl, hU U e1 e2⟩⟩
  have hstk : (F0 m pc lsm ((av.reverse ++ rest).map (tV sc b))).stack = (av.map (tV sc b)).reverse ++ rest.map (tV sc b) := by
    show (av.reverse ++ rest).map (tV sc b) = _
    rw [List.map_append, List.map_reverse]
  rcases hlk with hlk | ⟨host, hlk⟩
  · exact call_end (va_runS ⟨hx, hb, hml, hown, hts⟩ (hc l D dA sc b) ⟨⟨rfl, rfl, hrf, hrl, hws, hcd, hts _ hmf.1, hts _ hmf.2.1, hmf.2.2, hsig, hts _ hlk⟩, hts _ hst⟩ hpre rfl (by rw [List.length_map]; exact hav) hL.1 hstk hcw hd ⟨hrc, hrs⟩) hS (fun r h' H1 locs1 hp hP1 hS1 => by
      rw [tl_map]
      exact k r h' hp D dA sc b n0 p l e s m args below meth c C H1 locs1 lsm hP1 (by omega) hS1 hL)
  · exact call_end (va_runSN ⟨hx, hb, hml, hown, hts⟩ (hc l D dA sc b) ⟨⟨⟨rfl, rfl, hrf, hrl, hws, hcd⟩, hts _ hmf.1, hts _ hmf.2.1, hmf.2.2, hsig, nw_use rfl (hK.2.1 _ hlk)⟩, hts _ hst, trivial⟩ hpre rfl (by rw [List.length_map]; exact hav) hL.1 hstk hcw hd ⟨hrc, hrs⟩) hS (fun r h' H1 locs1 hp hP1 hS1 => by
      rw [tl_map]
      exact k r h' hp D dA sc b n0 p l e s m args below meth c C H1 locs1 lsm hP1 (by omega) hS1 hL)
theorem x_cv {M' : MI} {idx na : Nat} {av rest : List Value} {Post : PQ} {kc' ks' : Nat} {a ci : Nat} {fs : List Value} (hd : decode (mC M) pc = .ok (.invokevirtual idx, 3)) (hq : pc + 3 = q) (hl : KV (mO M) idx ci M' na) (hc : Mc M' (.ref a :: av) n h Post) (hav : av.length = na) (hs : av.reverse ++ .ref a :: rest = st) (ho : h a = .inr (ci, fs)) (ha : 0 < a ∧ a ≤ n) (hr : rok M M' kc ks = true) (hw : Nat.ble (cats rest) 8 = true) (hk1 : kc + (mR M').cells = kc') (hk2 : ks + (mR M').slots = ks') (k : ∀ (r : Option Value) (h' : HF), Post r h' → Vg M X Q q ls (r.toList ++ rest) (n + (mR M').cells) h' kc' ks') : Vg M X Q pc ls st n h kc ks := by
  obtain ⟨⟨hmf, hlk, hna⟩, hins, T, N, hcl, hsel⟩ := hl
  obtain ⟨a', rfl⟩ : ∃ a', a = a' + 1 := ⟨a - 1, by omega⟩
  subst hq; subst hk1; subst hk2; subst hs
  intro D dA sc b n0 p l e s m args below meth c C H locs lsm hP hn hS hL
  obtain ⟨hx, hb, hr0, hml, hown, hts, hlocks, hK, hsz, hnm, hX⟩ := id C
  obtain ⟨⟨hrf, hrl⟩, hrc, hrs⟩ := rok_of hr
  have hws : ∀ w ∈ miW M', ∀ (a' : Array Value) (U : State), s.WarmedH U.vm → w.before a' U = true := pay_in hts (gw_good hmf)
  have hcd : Cond.code (mY M') (mC M') (mL M') (mT M') ∈ miW M' := List.mem_cons_self
  have hsig : ∀ sig, parseMethodDescriptor (mY M').desc = some sig → na = sig.parameters.length := fun sig hsg => by
    rw [hsg] at hna
    exact (Option.some.inj hna).symm
  refine W.bnd (fun hB => ?_)
  have hlow := wd_size hP (by have := hS.1; omega)
  have hcw : 2 * (F0 m pc lsm (List.map (tV sc b) (av.reverse ++ .ref (a' + 1) :: rest))).monitorRoom + ((rest.map (tV sc b)).map fun v => v.category).sum ≤ 8 := by
    rw [cats_sum]; show 2 * 0 + _ ≤ 8; have := Nat.le_of_ble_eq_true hw; omega
  have hU : ∀ U : State, U.heap = H → s.WarmedH U.vm → Pre D dA sc b n h U := fun U e1 e2 => ⟨by rw [e1]; exact hP, by rw [e1]; omega, hK.warm e2⟩
  have he : (wd sc b dA n h)[a']? = some (b + a', .inr (ci, fs.map (tV sc b))) := by rw [wd_at (by omega), ho]; rfl
  have hpre : PreV s H (mY M').cls (b + a') (va_Pc ((.ref (a' + 1) :: av).map (tV sc b)) (Pre D dA sc b n h)) (av.map (tV sc b)) := ⟨pre_blind _ _ _ _ _ _ _, va_recv hK.1 hP hcl he, fun U e1 e2 => ⟨rfl, hU U e1 e2⟩⟩
  have hstk : (F0 m pc lsm ((av.reverse ++ .ref (a' + 1) :: rest).map (tV sc b))).stack = (av.map (tV sc b)).reverse ++ .ref (b + a') :: rest.map (tV sc b) := by
    show (av.reverse ++ .ref (a' + 1) :: rest).map (tV sc b) = _
    rw [List.map_append, List.map_reverse]; rfl
  rcases hlk with hlk | ⟨host, hlk⟩
  · exact call_end (va_runV ⟨hx, hb, hml, hown, hts⟩ (hc l D dA sc b) ⟨⟨rfl, rfl, hrf, hrl, hws, hcd, hts _ hmf.1, hts _ hmf.2.1, hmf.2.2, hsig, hts _ hlk⟩, hts _ hins, hts _ hsel⟩ hpre rfl (by rw [List.length_map]; exact hav) hL.1 hstk hcw hd ⟨hrc, hrs⟩) hS (fun r h' H1 locs1 hp hP1 hS1 => by
      rw [tl_map]
      exact k r h' hp D dA sc b n0 p l e s m args below meth c C H1 locs1 lsm hP1 (by omega) hS1 hL)
  · exact call_end (va_runVN ⟨hx, hb, hml, hown, hts⟩ (hc l D dA sc b) ⟨⟨⟨rfl, rfl, hrf, hrl, hws, hcd⟩, hts _ hmf.1, hts _ hmf.2.1, hmf.2.2, hsig, nw_use rfl (hK.2.1 _ hlk)⟩, hts _ hins, hts _ hsel⟩ hpre rfl (by rw [List.length_map]; exact hav) hL.1 hstk hcw hd ⟨hrc, hrs⟩) hS (fun r h' H1 locs1 hp hP1 hS1 => by
      rw [tl_map]
      exact k r h' hp D dA sc b n0 p l e s m args below meth c C H1 locs1 lsm hP1 (by omega) hS1 hL)
theorem x_ci {M' : MI} {idx na : Nat} {av rest : List Value} {Post : PQ} {kc' ks' : Nat} {a : Nat} (hd : decode (mC M) pc = .ok (.invokespecial idx, 3)) (hq : pc + 3 = q) (hl : KI (mO M) idx M' na) (hc : Mc M' (.ref a :: av) n h Post) (hav : av.length = na) (hs : av.reverse ++ .ref a :: rest = st) (ha : 0 < a ∧ a ≤ n) (hr : rok M M' kc ks = true) (hw : Nat.ble (cats rest) 8 = true) (hk1 : kc + (mR M').cells = kc') (hk2 : ks + (mR M').slots = ks') (k : ∀ (r : Option Value) (h' : HF), Post r h' → Vg M X Q q ls (r.toList ++ rest) (n + (mR M').cells) h' kc' ks') : Vg M X Q pc ls st n h kc ks := by
  obtain ⟨⟨hmf, hlk, hna⟩, hins, hin1, hrt⟩ := hl
  obtain ⟨a', rfl⟩ : ∃ a', a = a' + 1 := ⟨a - 1, by omega⟩
  subst hq; subst hk1; subst hk2; subst hs
  intro D dA sc b n0 p l e s m args below meth c C H locs lsm hP hn hS hL
  obtain ⟨hx, hb, hr0, hml, hown, hts, hlocks, hK, hsz, hnm, hX⟩ := id C
  obtain ⟨⟨hrf, hrl⟩, hrc, hrs⟩ := rok_of hr
  have hws : ∀ w ∈ miW M', ∀ (a' : Array Value) (U : State), s.WarmedH U.vm → w.before a' U = true := pay_in hts (gw_good hmf)
  have hcd : Cond.code (mY M') (mC M') (mL M') (mT M') ∈ miW M' := List.mem_cons_self
  have hsig : ∀ sig, parseMethodDescriptor (mY M').desc = some sig → na = sig.parameters.length := fun sig hsg => by
    rw [hsg] at hna
    exact (Option.some.inj hna).symm
  refine W.bnd (fun hB => ?_)
  have hlow := wd_size hP (by have := hS.1; omega)
  have hcw : 2 * (F0 m pc lsm (List.map (tV sc b) (av.reverse ++ .ref (a' + 1) :: rest))).monitorRoom + ((rest.map (tV sc b)).map fun v => v.category).sum ≤ 8 := by
    rw [cats_sum]; show 2 * 0 + _ ≤ 8; have := Nat.le_of_ble_eq_true hw; omega
  have hU : ∀ U : State, U.heap = H → s.WarmedH U.vm → Pre D dA sc b n h U := fun U e1 e2 => ⟨by rw [e1]; exact hP, by rw [e1]; omega, hK.warm e2⟩
  have hpre : PreS s H (va_Pc ((.ref (a' + 1) :: av).map (tV sc b)) (Pre D dA sc b n h)) (.ref (b + a') :: av.map (tV sc b)) := ⟨pre_blind _ _ _ _ _ _ _, fun U e1 e2 => ⟨rfl, hU U e1 e2⟩⟩
  have hstk : (F0 m pc lsm ((av.reverse ++ .ref (a' + 1) :: rest).map (tV sc b))).stack = (av.map (tV sc b)).reverse ++ .ref (b + a') :: rest.map (tV sc b) := by
    show (av.reverse ++ .ref (a' + 1) :: rest).map (tV sc b) = _
    rw [List.map_append, List.map_reverse]; rfl
  have hcd : Cond.code (mY M') (mC M') (mL M') none ∈ miW M' := hrt ▸ hcd
  have hcg : Cond.code (mY M') (mC M') (mL M') none ∈ gw := hrt ▸ hmf.1
  rcases hlk with hlk | ⟨host, hlk⟩
  · exact call_end (va_runI ⟨hx, hb, hml, hown, hts⟩ (hc l D dA sc b) ⟨⟨rfl, rfl, hrf, hrl, hws, hcd, hts _ hcg, hts _ hmf.2.1, hmf.2.2, hsig, hts _ hlk⟩, hin1, hts _ hins⟩ hpre rfl (by rw [List.length_map]; exact hav) hL.1 hstk hcw hd ⟨hrc, hrs⟩) hS (fun r h' H1 locs1 hp hP1 hS1 => by
      rw [tl_map]
      exact k r h' hp D dA sc b n0 p l e s m args below meth c C H1 locs1 lsm hP1 (by omega) hS1 hL)
  · exact call_end (va_runIN ⟨hx, hb, hml, hown, hts⟩ (hc l D dA sc b) ⟨⟨⟨rfl, rfl, hrf, hrl, hws, hcd⟩, hts _ hcg, hts _ hmf.2.1, hmf.2.2, hsig, nw_use rfl (hK.2.1 _ hlk)⟩, hin1, hts _ hins⟩ hpre rfl (by rw [List.length_map]; exact hav) hL.1 hstk hcw hd ⟨hrc, hrs⟩) hS (fun r h' H1 locs1 hp hP1 hS1 => by
      rw [tl_map]
      exact k r h' hp D dA sc b n0 p l e s m args below meth c C H1 locs1 lsm hP1 (by omega) hS1 hL)
end HROWS
section RROWS
variable {M : MI} {pc : Nat} {ls : List (Option Value)} {n ne : Nat} {h : HF} {kc ks : Nat} {Post : PQ}
theorem x_iret {v : Int32} (hd : decode (mC M) pc = .ok (.ireturn, 1)) (ht : ∃ ty : FieldType, mT M = some ty ∧ narrow ty (.int v) = .int v) (hk : kc = (mR M).cells) (hk2 : ks ≤ (mR M).slots) (hne : n = ne + (mR M).cells) (hp : Post (some (.int v)) h) : Vg M none (QM M ne Post) pc ls [.int v] n h kc ks := by
  subst hk; subst hne
  obtain ⟨ty, ht1, ht2⟩ := ht
  intro D dA sc b n0 p l e s m args below meth c C H locs lsm hP hn hS hL
  obtain ⟨hx, hb, hr0, hml, hown, hts, hlocks, hK, hsz, hnm, hX⟩ := id C
  refine W.widen (k := (mR M).cells) (n := (mR M).slots) (Nat.le_refl _) hk2 ?_
  exact W.zret hx hb (hr0.trans ht1) ht2 (fun t ht hW => ⟨some (.int v), h, rfl, hp, by rw [ht]; exact hP, hS.F ht⟩) hS.2.2 hd
theorem x_lret {v : Int64} (hd : decode (mC M) pc = .ok (.lreturn, 1)) (ht : mT M = some .long) (hk : kc = (mR M).cells) (hk2 : ks ≤ (mR M).slots) (hne : n = ne + (mR M).cells) (hp : Post (some (.long v)) h) : Vg M none (QM M ne Post) pc ls [.long v] n h kc ks := by
  subst hk; subst hne
  intro D dA sc b n0 p l e s m args below meth c C H locs lsm hP hn hS hL
  obtain ⟨hx, hb, hr0, hml, hown, hts, hlocks, hK, hsz, hnm, hX⟩ := id C
  refine W.widen (k := (mR M).cells) (n := (mR M).slots) (Nat.le_refl _) hk2 ?_
  exact W.lret hx hb (hr0.trans ht) (fun t ht hW => ⟨some (.long v), h, rfl, hp, by rw [ht]; exact hP, hS.F ht⟩) hS.2.2 hd
theorem x_vret (hd : decode (mC M) pc = .ok (.return_, 1)) (ht : mT M = none) (hk : kc = (mR M).cells) (hk2 : ks ≤ (mR M).slots) (hne : n = ne + (mR M).cells) (hp : Post (none) h) : Vg M none (QM M ne Post) pc ls [] n h kc ks := by
  subst hk; subst hne
  intro D dA sc b n0 p l e s m args below meth c C H locs lsm hP hn hS hL
  obtain ⟨hx, hb, hr0, hml, hown, hts, hlocks, hK, hsz, hnm, hX⟩ := id C
  refine W.widen (k := (mR M).cells) (n := (mR M).slots) (Nat.le_refl _) hk2 ?_
  exact W.vret hx hb (hr0.trans ht) (fun t ht hW => ⟨none, h, rfl, hp, by rw [ht]; exact hP, hS.F ht⟩) hS.2.2 hd
end RROWS
end
section
-- words by their places
theorem inX0a : ∀ w ∈ u_ws RX0 TX0 2, w ∈ lw_tbl := by decide +kernel
theorem inX0 : ∀ w ∈ u_ws RX0 TX0 2, w ∈ gw := fun w hw => List.mem_filter.mpr ⟨inX0a w hw, List.all_eq_true.mp (show (u_ws RX0 TX0 2).all goodWord = true by decide +kernel) w hw⟩
theorem inX1a : ∀ w ∈ u_ws RX1 TX1 7, w ∈ lw_tbl := by decide +kernel
theorem inX1 : ∀ w ∈ u_ws RX1 TX1 7, w ∈ gw := fun w hw => List.mem_filter.mpr ⟨inX1a w hw, List.all_eq_true.mp (show (u_ws RX1 TX1 7).all goodWord = true by decide +kernel) w hw⟩
theorem inX2a : ∀ w ∈ u_ws RX2 TX2 11, w ∈ lw_tbl := by decide +kernel
theorem inX2 : ∀ w ∈ u_ws RX2 TX2 11, w ∈ gw := fun w hw => List.mem_filter.mpr ⟨inX2a w hw, List.all_eq_true.mp (show (u_ws RX2 TX2 11).all goodWord = true by decide +kernel) w hw⟩
theorem inX3a : ∀ w ∈ u_ws RX3 TX3 6, w ∈ lw_tbl := by decide +kernel
theorem inX3 : ∀ w ∈ u_ws RX3 TX3 6, w ∈ gw := fun w hw => List.mem_filter.mpr ⟨inX3a w hw, List.all_eq_true.mp (show (u_ws RX3 TX3 6).all goodWord = true by decide +kernel) w hw⟩
theorem inX4a : ∀ w ∈ u_ws RX4 TX4 3, w ∈ lw_tbl := by decide +kernel
theorem inX4 : ∀ w ∈ u_ws RX4 TX4 3, w ∈ gw := fun w hw => List.mem_filter.mpr ⟨inX4a w hw, List.all_eq_true.mp (show (u_ws RX4 TX4 3).all goodWord = true by decide +kernel) w hw⟩
theorem inX5a : ∀ w ∈ u_ws RX5 TX5 3, w ∈ lw_tbl := by decide +kernel
theorem inX5 : ∀ w ∈ u_ws RX5 TX5 3, w ∈ gw := fun w hw => List.mem_filter.mpr ⟨inX5a w hw, List.all_eq_true.mp (show (u_ws RX5 TX5 3).all goodWord = true by decide +kernel) w hw⟩
theorem inX6a : ∀ w ∈ u_ws RX6 TX6 9, w ∈ lw_tbl := by decide +kernel
theorem inX6 : ∀ w ∈ u_ws RX6 TX6 9, w ∈ gw := fun w hw => List.mem_filter.mpr ⟨inX6a w hw, List.all_eq_true.mp (show (u_ws RX6 TX6 9).all goodWord = true by decide +kernel) w hw⟩
theorem inX7a : ∀ w ∈ u_ws RX7 TX7 5, w ∈ lw_tbl := by decide +kernel
theorem inX7 : ∀ w ∈ u_ws RX7 TX7 5, w ∈ gw := fun w hw => List.mem_filter.mpr ⟨inX7a w hw, List.all_eq_true.mp (show (u_ws RX7 TX7 5).all goodWord = true by decide +kernel) w hw⟩
theorem inX8a : ∀ w ∈ u_ws RX8 TX8 7, w ∈ lw_tbl := by decide +kernel
theorem inX8 : ∀ w ∈ u_ws RX8 TX8 7, w ∈ gw := fun w hw => List.mem_filter.mpr ⟨inX8a w hw, List.all_eq_true.mp (show (u_ws RX8 TX8 7).all goodWord = true by decide +kernel) w hw⟩
theorem inX9a : ∀ w ∈ u_ws RX9 TX9 12, w ∈ lw_tbl := by decide +kernel
theorem inX9 : ∀ w ∈ u_ws RX9 TX9 12, w ∈ gw := fun w hw => List.mem_filter.mpr ⟨inX9a w hw, List.all_eq_true.mp (show (u_ws RX9 TX9 12).all goodWord = true by decide +kernel) w hw⟩
theorem inX10a : ∀ w ∈ u_ws RX10 TX10 49, w ∈ lw_tbl := by decide +kernel
theorem inX10 : ∀ w ∈ u_ws RX10 TX10 49, w ∈ gw := fun w hw => List.mem_filter.mpr ⟨inX10a w hw, List.all_eq_true.mp (show (u_ws RX10 TX10 49).all goodWord = true by decide +kernel) w hw⟩
theorem q_obj : Cond.code objectInit ⟨#[0xb1]⟩ 1 none ∈ gw := gw_at 57 (by decide +kernel) (by decide +kernel)
theorem q_56 : Cond.instanceMethod objectInit ∈ gw := gw_at 56 (by decide +kernel) (by decide +kernel)
theorem q_obi : Cond.instanceMethod objectInit ∈ gw := q_56
theorem q_458 : Cond.native arraycopyName ∈ gw := gw_at 458 (by decide +kernel) (by decide +kernel)
theorem q_acn : Cond.native arraycopyName ∈ gw := q_458
theorem q_457 : Cond.static arraycopyName ∈ gw := gw_at 457 (by decide +kernel) (by decide +kernel)
theorem q_acs : Cond.static arraycopyName ∈ gw := q_457
theorem q_46 : Cond.initialized "java/lang/System" ∈ gw := gw_at 46 (by decide +kernel) (by decide +kernel)
theorem q_aci : Cond.initialized "java/lang/System" ∈ gw := q_46
theorem q_78 : Cond.arrayClass .int ∈ gw := gw_at 78 (by decide +kernel) (by decide +kernel)
theorem q_newi : Cond.arrayClass .int ∈ gw := q_78
theorem q_133 : Cond.arrayClass .boolean ∈ gw := gw_at 133 (by decide +kernel) (by decide +kernel)
theorem q_newb : Cond.arrayClass .boolean ∈ gw := q_133
theorem q_178 : Cond.arrayClass .long ∈ gw := gw_at 178 (by decide +kernel) (by decide +kernel)
theorem q_newl : Cond.arrayClass .long ∈ gw := q_178
-- methods
abbrev mX4_init : MI := (RX4, yX4_init, cX4_init, 1, none, { frames := 1, cells := 1, slots := 8, locals := 20 })
theorem q_258 : Cond.code yX4_init cX4_init 1 none ∈ gw := gw_at 258 (by decide +kernel) (by decide +kernel)
theorem q_42 : Cond.initialized "ColourWorks$Mix" ∈ gw := gw_at 42 (by decide +kernel) (by decide +kernel)
theorem k_X4_init : MF mX4_init := ⟨q_258, q_42, by decide +kernel, by decide +kernel⟩
abbrev mX0_init : MI := (RX0, yX0_init, cX0_init, 1, none, { frames := 2, cells := 2, slots := 11, locals := 40 })
theorem q_252 : Cond.code yX0_init cX0_init 1 none ∈ gw := gw_at 252 (by decide +kernel) (by decide +kernel)
theorem q_41 : Cond.initialized "ColourWorks$Batch" ∈ gw := gw_at 41 (by decide +kernel) (by decide +kernel)
theorem k_X0_init : MF mX0_init := ⟨q_252, q_41, by decide +kernel, by decide +kernel⟩
abbrev mX1_init : MI := (RX1, yX1_init, cX1_init, 1, none, { frames := 1, cells := 6, slots := 420, locals := 20 })
theorem q_108 : Cond.code yX1_init cX1_init 1 none ∈ gw := gw_at 108 (by decide +kernel) (by decide +kernel)
theorem q_37 : Cond.initialized "ColourWorks$Cookbook" ∈ gw := gw_at 37 (by decide +kernel) (by decide +kernel)
theorem k_X1_init : MF mX1_init := ⟨q_108, q_37, by decide +kernel, by decide +kernel⟩
abbrev mX1_has : MI := (RX1, yX1_has, cX1_has, 2, (some .boolean), { frames := 0, cells := 0, slots := 0, locals := 0 })
theorem q_436 : Cond.code yX1_has cX1_has 2 (some .boolean) ∈ gw := gw_at 436 (by decide +kernel) (by decide +kernel)
theorem k_X1_has : MF mX1_has := ⟨q_436, q_37, by decide +kernel, by decide +kernel⟩
abbrev mX1_add : MI := (RX1, yX1_add, cX1_add, 1, (some .int), { frames := 0, cells := 0, slots := 0, locals := 0 })
theorem q_428 : Cond.code yX1_add cX1_add 1 (some .int) ∈ gw := gw_at 428 (by decide +kernel) (by decide +kernel)
theorem k_X1_add : MF mX1_add := ⟨q_428, q_37, by decide +kernel, by decide +kernel⟩
abbrev mX1_need : MI := (RX1, yX1_need, cX1_need, 3, (some .int), { frames := 0, cells := 0, slots := 0, locals := 0 })
theorem q_466 : Cond.code yX1_need cX1_need 3 (some .int) ∈ gw := gw_at 466 (by decide +kernel) (by decide +kernel)
theorem k_X1_need : MF mX1_need := ⟨q_466, q_37, by decide +kernel, by decide +kernel⟩
abbrev mJ7_fill_53178 : MI := (RJ7, yJ7_fill_53178, cJ7_fill_53178, 4, none, { frames := 0, cells := 0, slots := 0, locals := 0 })
theorem q_447 : Cond.code yJ7_fill_53178 cJ7_fill_53178 4 none ∈ gw := gw_at 447 (by decide +kernel) (by decide +kernel)
theorem q_45 : Cond.initialized "java/util/Arrays" ∈ gw := gw_at 45 (by decide +kernel) (by decide +kernel)
theorem k_J7_fill_53178 : MF mJ7_fill_53178 := ⟨q_447, q_45, by decide +kernel, by decide +kernel⟩
abbrev mX1_addPartToTrial : MI := (RX1, yX1_addPartToTrial, cX1_addPartToTrial, 5, none, { frames := 0, cells := 0, slots := 0, locals := 0 })
theorem q_455 : Cond.code yX1_addPartToTrial cX1_addPartToTrial 5 none ∈ gw := gw_at 455 (by decide +kernel) (by decide +kernel)
theorem k_X1_addPartToTrial : MF mX1_addPartToTrial := ⟨q_455, q_37, by decide +kernel, by decide +kernel⟩
abbrev mX1_resolveInTrial : MI := (RX1, yX1_resolveInTrial, cX1_resolveInTrial, 4, (some .int), { frames := 1, cells := 0, slots := 0, locals := 24 })
theorem q_451 : Cond.code yX1_resolveInTrial cX1_resolveInTrial 4 (some .int) ∈ gw := gw_at 451 (by decide +kernel) (by decide +kernel)
theorem k_X1_resolveInTrial : MF mX1_resolveInTrial := ⟨q_451, q_37, by decide +kernel, by decide +kernel⟩
abbrev mX1_resolveAll : MI := (RX1, yX1_resolveAll, cX1_resolveAll, 2, (some .boolean), { frames := 2, cells := 0, slots := 0, locals := 47 })
theorem q_444 : Cond.code yX1_resolveAll cX1_resolveAll 2 (some .boolean) ∈ gw := gw_at 444 (by decide +kernel) (by decide +kernel)
theorem k_X1_resolveAll : MF mX1_resolveAll := ⟨q_444, q_37, by decide +kernel, by decide +kernel⟩
abbrev mX1_addPart : MI := (RX1, yX1_addPart, cX1_addPart, 6, (some .int), { frames := 3, cells := 0, slots := 0, locals := 68 })
theorem q_440 : Cond.code yX1_addPart cX1_addPart 6 (some .int) ∈ gw := gw_at 440 (by decide +kernel) (by decide +kernel)
theorem k_X1_addPart : MF mX1_addPart := ⟨q_440, q_37, by decide +kernel, by decide +kernel⟩
abbrev mX2_init : MI := (RX2, yX2_init, cX2_init, 1, none, { frames := 1, cells := 6, slots := 33, locals := 20 })
theorem q_140 : Cond.code yX2_init cX2_init 1 none ∈ gw := gw_at 140 (by decide +kernel) (by decide +kernel)
theorem q_38 : Cond.initialized "ColourWorks$DropSearch" ∈ gw := gw_at 38 (by decide +kernel) (by decide +kernel)
theorem k_X2_init : MF mX2_init := ⟨q_140, q_38, by decide +kernel, by decide +kernel⟩
abbrev mX2_aimAt : MI := (RX2, yX2_aimAt, cX2_aimAt, 4, none, { frames := 0, cells := 0, slots := 0, locals := 0 })
theorem q_522 : Cond.code yX2_aimAt cX2_aimAt 4 none ∈ gw := gw_at 522 (by decide +kernel) (by decide +kernel)
theorem k_X2_aimAt : MF mX2_aimAt := ⟨q_522, q_38, by decide +kernel, by decide +kernel⟩
abbrev mJ9_min_7cf53 : MI := (RJ9, yJ9_min_7cf53, cJ9_min_7cf53, 2, (some .int), { frames := 0, cells := 0, slots := 0, locals := 0 })
theorem q_502 : Cond.code yJ9_min_7cf53 cJ9_min_7cf53 2 (some .int) ∈ gw := gw_at 502 (by decide +kernel) (by decide +kernel)
theorem q_47 : Cond.initialized "java/lang/Math" ∈ gw := gw_at 47 (by decide +kernel) (by decide +kernel)
theorem k_J9_min_7cf53 : MF mJ9_min_7cf53 := ⟨q_502, q_47, by decide +kernel, by decide +kernel⟩
abbrev mX7_isUsable : MI := (RX7, yX7_isUsable, cX7_isUsable, 3, (some .boolean), { frames := 0, cells := 0, slots := 0, locals := 0 })
theorem q_416 : Cond.code yX7_isUsable cX7_isUsable 3 (some .boolean) ∈ gw := gw_at 416 (by decide +kernel) (by decide +kernel)
theorem q_36 : Cond.initialized "ColourWorks$Store" ∈ gw := gw_at 36 (by decide +kernel) (by decide +kernel)
theorem k_X7_isUsable : MF mX7_isUsable := ⟨q_416, q_36, by decide +kernel, by decide +kernel⟩
abbrev mX7_usableOf : MI := (RX7, yX7_usableOf, cX7_usableOf, 4, (some .int), { frames := 1, cells := 0, slots := 0, locals := 22 })
theorem q_412 : Cond.code yX7_usableOf cX7_usableOf 4 (some .int) ∈ gw := gw_at 412 (by decide +kernel) (by decide +kernel)
theorem k_X7_usableOf : MF mX7_usableOf := ⟨q_412, q_36, by decide +kernel, by decide +kernel⟩
abbrev mX5_weighted : MI := (RX5, yX5_weighted, cX5_weighted, 7, (some .long), { frames := 0, cells := 0, slots := 0, locals := 0 })
theorem q_536 : Cond.code yX5_weighted cX5_weighted 7 (some .long) ∈ gw := gw_at 536 (by decide +kernel) (by decide +kernel)
theorem q_35 : Cond.initialized "ColourWorks$Palette" ∈ gw := gw_at 35 (by decide +kernel) (by decide +kernel)
theorem k_X5_weighted : MF mX5_weighted := ⟨q_536, q_35, by decide +kernel, by decide +kernel⟩
abbrev mX5_absorbed : MI := (RX5, yX5_absorbed, cX5_absorbed, 3, (some .long), { frames := 1, cells := 0, slots := 0, locals := 26 })
theorem q_532 : Cond.code yX5_absorbed cX5_absorbed 3 (some .long) ∈ gw := gw_at 532 (by decide +kernel) (by decide +kernel)
theorem k_X5_absorbed : MF mX5_absorbed := ⟨q_532, q_35, by decide +kernel, by decide +kernel⟩
abbrev mX5_scattered : MI := (RX5, yX5_scattered, cX5_scattered, 3, (some .long), { frames := 1, cells := 0, slots := 0, locals := 26 })
theorem q_540 : Cond.code yX5_scattered cX5_scattered 3 (some .long) ∈ gw := gw_at 540 (by decide +kernel) (by decide +kernel)
theorem k_X5_scattered : MF mX5_scattered := ⟨q_540, q_35, by decide +kernel, by decide +kernel⟩
abbrev mX2_start : MI := (RX2, yX2_start, cX2_start, 6, none, { frames := 2, cells := 0, slots := 0, locals := 48 })
theorem q_526 : Cond.code yX2_start cX2_start 6 none ∈ gw := gw_at 526 (by decide +kernel) (by decide +kernel)
theorem k_X2_start : MF mX2_start := ⟨q_526, q_38, by decide +kernel, by decide +kernel⟩
abbrev mJ9_min_f86c9 : MI := (RJ9, yJ9_min_f86c9, cJ9_min_f86c9, 4, (some .long), { frames := 0, cells := 0, slots := 0, locals := 0 })
theorem q_561 : Cond.code yJ9_min_f86c9 cJ9_min_f86c9 4 (some .long) ∈ gw := gw_at 561 (by decide +kernel) (by decide +kernel)
theorem k_J9_min_f86c9 : MF mJ9_min_f86c9 := ⟨q_561, q_47, by decide +kernel, by decide +kernel⟩
abbrev mX9_shadeOfSums : MI := (RX9, yX9_shadeOfSums, cX9_shadeOfSums, 4, (some .int), { frames := 1, cells := 0, slots := 0, locals := 23 })
theorem q_556 : Cond.code yX9_shadeOfSums cX9_shadeOfSums 4 (some .int) ∈ gw := gw_at 556 (by decide +kernel) (by decide +kernel)
theorem q_34 : Cond.initialized "ColourWorks" ∈ gw := gw_at 34 (by decide +kernel) (by decide +kernel)
theorem k_X9_shadeOfSums : MF mX9_shadeOfSums := ⟨q_556, q_34, by decide +kernel, by decide +kernel⟩
abbrev mJ9_abs_0f7a4 : MI := (RJ9, yJ9_abs_0f7a4, cJ9_abs_0f7a4, 1, (some .int), { frames := 0, cells := 0, slots := 0, locals := 0 })
theorem q_564 : Cond.code yJ9_abs_0f7a4 cJ9_abs_0f7a4 1 (some .int) ∈ gw := gw_at 564 (by decide +kernel) (by decide +kernel)
theorem k_J9_abs_0f7a4 : MF mJ9_abs_0f7a4 := ⟨q_564, q_47, by decide +kernel, by decide +kernel⟩
abbrev mJ9_max_7cf53 : MI := (RJ9, yJ9_max_7cf53, cJ9_max_7cf53, 2, (some .int), { frames := 0, cells := 0, slots := 0, locals := 0 })
theorem q_567 : Cond.code yJ9_max_7cf53 cJ9_max_7cf53 2 (some .int) ∈ gw := gw_at 567 (by decide +kernel) (by decide +kernel)
theorem k_J9_max_7cf53 : MF mJ9_max_7cf53 := ⟨q_567, q_47, by decide +kernel, by decide +kernel⟩
abbrev mX2_missOfTrial : MI := (RX2, yX2_missOfTrial, cX2_missOfTrial, 4, (some .int), { frames := 2, cells := 0, slots := 0, locals := 46 })
theorem q_553 : Cond.code yX2_missOfTrial cX2_missOfTrial 4 (some .int) ∈ gw := gw_at 553 (by decide +kernel) (by decide +kernel)
theorem k_X2_missOfTrial : MF mX2_missOfTrial := ⟨q_553, q_38, by decide +kernel, by decide +kernel⟩
abbrev mX2_judge : MI := (RX2, yX2_judge, cX2_judge, 2, none, { frames := 3, cells := 0, slots := 0, locals := 69 })
theorem q_549 : Cond.code yX2_judge cX2_judge 2 none ∈ gw := gw_at 549 (by decide +kernel) (by decide +kernel)
theorem k_X2_judge : MF mX2_judge := ⟨q_549, q_38, by decide +kernel, by decide +kernel⟩
abbrev mX2_change : MI := (RX2, yX2_change, cX2_change, 5, none, { frames := 0, cells := 0, slots := 0, locals := 0 })
theorem q_576 : Cond.code yX2_change cX2_change 5 none ∈ gw := gw_at 576 (by decide +kernel) (by decide +kernel)
theorem k_X2_change : MF mX2_change := ⟨q_576, q_38, by decide +kernel, by decide +kernel⟩
abbrev mX2_advance : MI := (RX2, yX2_advance, cX2_advance, 3, (some .boolean), { frames := 1, cells := 0, slots := 0, locals := 24 })
theorem q_572 : Cond.code yX2_advance cX2_advance 3 (some .boolean) ∈ gw := gw_at 572 (by decide +kernel) (by decide +kernel)
theorem k_X2_advance : MF mX2_advance := ⟨q_572, q_38, by decide +kernel, by decide +kernel⟩
abbrev mX2_run : MI := (RX2, yX2_run, cX2_run, 3, (some .int), { frames := 4, cells := 0, slots := 0, locals := 90 })
theorem q_544 : Cond.code yX2_run cX2_run 3 (some .int) ∈ gw := gw_at 544 (by decide +kernel) (by decide +kernel)
theorem k_X2_run : MF mX2_run := ⟨q_544, q_38, by decide +kernel, by decide +kernel⟩
abbrev mX3_init : MI := (RX3, yX3_init, cX3_init, 1, none, { frames := 1, cells := 5, slots := 500, locals := 20 })
theorem q_185 : Cond.code yX3_init cX3_init 1 none ∈ gw := gw_at 185 (by decide +kernel) (by decide +kernel)
theorem q_39 : Cond.initialized "ColourWorks$DrumYard" ∈ gw := gw_at 39 (by decide +kernel) (by decide +kernel)
theorem k_X3_init : MF mX3_init := ⟨q_185, q_39, by decide +kernel, by decide +kernel⟩
abbrev mX3_has : MI := (RX3, yX3_has, cX3_has, 2, (some .boolean), { frames := 0, cells := 0, slots := 0, locals := 0 })
theorem q_685 : Cond.code yX3_has cX3_has 2 (some .boolean) ∈ gw := gw_at 685 (by decide +kernel) (by decide +kernel)
theorem k_X3_has : MF mX3_has := ⟨q_685, q_39, by decide +kernel, by decide +kernel⟩
abbrev mX3_add : MI := (RX3, yX3_add, cX3_add, 5, (some .int), { frames := 0, cells := 0, slots := 0, locals := 0 })
theorem q_661 : Cond.code yX3_add cX3_add 5 (some .int) ∈ gw := gw_at 661 (by decide +kernel) (by decide +kernel)
theorem k_X3_add : MF mX3_add := ⟨q_661, q_39, by decide +kernel, by decide +kernel⟩
abbrev mX9_hasBit : MI := (RX9, yX9_hasBit, cX9_hasBit, 3, (some .boolean), { frames := 0, cells := 0, slots := 0, locals := 0 })
theorem q_704 : Cond.code yX9_hasBit cX9_hasBit 3 (some .boolean) ∈ gw := gw_at 704 (by decide +kernel) (by decide +kernel)
theorem k_X9_hasBit : MF mX9_hasBit := ⟨q_704, q_34, by decide +kernel, by decide +kernel⟩
abbrev mX3_countWith : MI := (RX3, yX3_countWith, cX3_countWith, 4, (some .int), { frames := 1, cells := 0, slots := 0, locals := 22 })
theorem q_712 : Cond.code yX3_countWith cX3_countWith 4 (some .int) ∈ gw := gw_at 712 (by decide +kernel) (by decide +kernel)
theorem k_X3_countWith : MF mX3_countWith := ⟨q_712, q_39, by decide +kernel, by decide +kernel⟩
abbrev mX4_add : MI := (RX4, yX4_add, cX4_add, 4, none, { frames := 0, cells := 0, slots := 0, locals := 0 })
theorem q_506 : Cond.code yX4_add cX4_add 4 none ∈ gw := gw_at 506 (by decide +kernel) (by decide +kernel)
theorem k_X4_add : MF mX4_add := ⟨q_506, q_42, by decide +kernel, by decide +kernel⟩
abbrev mX4_addAll : MI := (RX4, yX4_addAll, cX4_addAll, 3, none, { frames := 0, cells := 0, slots := 0, locals := 0 })
theorem q_649 : Cond.code yX4_addAll cX4_addAll 3 none ∈ gw := gw_at 649 (by decide +kernel) (by decide +kernel)
theorem k_X4_addAll : MF mX4_addAll := ⟨q_649, q_42, by decide +kernel, by decide +kernel⟩
abbrev mX4_empty : MI := (RX4, yX4_empty, cX4_empty, 1, none, { frames := 1, cells := 0, slots := 0, locals := 23 })
theorem q_644 : Cond.code yX4_empty cX4_empty 1 none ∈ gw := gw_at 644 (by decide +kernel) (by decide +kernel)
theorem k_X4_empty : MF mX4_empty := ⟨q_644, q_42, by decide +kernel, by decide +kernel⟩
abbrev mX5_init : MI := (RX5, yX5_init, cX5_init, 1, none, { frames := 1, cells := 2, slots := 48, locals := 20 })
theorem q_62 : Cond.code yX5_init cX5_init 1 none ∈ gw := gw_at 62 (by decide +kernel) (by decide +kernel)
theorem k_X5_init : MF mX5_init := ⟨q_62, q_35, by decide +kernel, by decide +kernel⟩
abbrev mX5_has : MI := (RX5, yX5_has, cX5_has, 2, (some .boolean), { frames := 0, cells := 0, slots := 0, locals := 0 })
theorem q_384 : Cond.code yX5_has cX5_has 2 (some .boolean) ∈ gw := gw_at 384 (by decide +kernel) (by decide +kernel)
theorem k_X5_has : MF mX5_has := ⟨q_384, q_35, by decide +kernel, by decide +kernel⟩
abbrev mX5_tell : MI := (RX5, yX5_tell, cX5_tell, 5, none, { frames := 0, cells := 0, slots := 0, locals := 0 })
theorem q_376 : Cond.code yX5_tell cX5_tell 5 none ∈ gw := gw_at 376 (by decide +kernel) (by decide +kernel)
theorem k_X5_tell : MF mX5_tell := ⟨q_376, q_35, by decide +kernel, by decide +kernel⟩
abbrev mX5_add : MI := (RX5, yX5_add, cX5_add, 4, (some .int), { frames := 1, cells := 0, slots := 0, locals := 24 })
theorem q_372 : Cond.code yX5_add cX5_add 4 (some .int) ∈ gw := gw_at 372 (by decide +kernel) (by decide +kernel)
theorem k_X5_add : MF mX5_add := ⟨q_372, q_35, by decide +kernel, by decide +kernel⟩
abbrev mX5_shadeOf : MI := (RX5, yX5_shadeOf, cX5_shadeOf, 3, (some .int), { frames := 2, cells := 0, slots := 0, locals := 48 })
theorem q_597 : Cond.code yX5_shadeOf cX5_shadeOf 3 (some .int) ∈ gw := gw_at 597 (by decide +kernel) (by decide +kernel)
theorem k_X5_shadeOf : MF mX5_shadeOf := ⟨q_597, q_35, by decide +kernel, by decide +kernel⟩
abbrev mX6_init : MI := (RX6, yX6_init, cX6_init, 1, none, { frames := 1, cells := 7, slots := 1612, locals := 20 })
theorem q_216 : Cond.code yX6_init cX6_init 1 none ∈ gw := gw_at 216 (by decide +kernel) (by decide +kernel)
theorem q_40 : Cond.initialized "ColourWorks$Schedule" ∈ gw := gw_at 40 (by decide +kernel) (by decide +kernel)
theorem k_X6_init : MF mX6_init := ⟨q_216, q_40, by decide +kernel, by decide +kernel⟩
abbrev mX6_add : MI := (RX6, yX6_add, cX6_add, 5, (some .int), { frames := 0, cells := 0, slots := 0, locals := 0 })
theorem q_732 : Cond.code yX6_add cX6_add 5 (some .int) ∈ gw := gw_at 732 (by decide +kernel) (by decide +kernel)
theorem k_X6_add : MF mX6_add := ⟨q_732, q_40, by decide +kernel, by decide +kernel⟩
abbrev mX6_tellChange : MI := (RX6, yX6_tellChange, cX6_tellChange, 5, (some .int), { frames := 0, cells := 0, slots := 0, locals := 0 })
theorem q_740 : Cond.code yX6_tellChange cX6_tellChange 5 (some .int) ∈ gw := gw_at 740 (by decide +kernel) (by decide +kernel)
theorem k_X6_tellChange : MF mX6_tellChange := ⟨q_740, q_40, by decide +kernel, by decide +kernel⟩
abbrev mX6_timeOfSet : MI := (RX6, yX6_timeOfSet, cX6_timeOfSet, 4, (some .int), { frames := 1, cells := 0, slots := 0, locals := 22 })
theorem q_752 : Cond.code yX6_timeOfSet cX6_timeOfSet 4 (some .int) ∈ gw := gw_at 752 (by decide +kernel) (by decide +kernel)
theorem k_X6_timeOfSet : MF mX6_timeOfSet := ⟨q_752, q_40, by decide +kernel, by decide +kernel⟩
abbrev mX6_costWith : MI := (RX6, yX6_costWith, cX6_costWith, 7, (some .int), { frames := 1, cells := 0, slots := 0, locals := 21 })
theorem q_761 : Cond.code yX6_costWith cX6_costWith 7 (some .int) ∈ gw := gw_at 761 (by decide +kernel) (by decide +kernel)
theorem k_X6_costWith : MF mX6_costWith := ⟨q_761, q_40, by decide +kernel, by decide +kernel⟩
abbrev mX6_bestNext : MI := (RX6, yX6_bestNext, cX6_bestNext, 8, (some .int), { frames := 2, cells := 0, slots := 0, locals := 47 })
theorem q_757 : Cond.code yX6_bestNext cX6_bestNext 8 (some .int) ∈ gw := gw_at 757 (by decide +kernel) (by decide +kernel)
theorem k_X6_bestNext : MF mX6_bestNext := ⟨q_757, q_40, by decide +kernel, by decide +kernel⟩
abbrev mX6_writeOrder : MI := (RX6, yX6_writeOrder, cX6_writeOrder, 7, none, { frames := 3, cells := 0, slots := 0, locals := 74 })
theorem q_766 : Cond.code yX6_writeOrder cX6_writeOrder 7 none ∈ gw := gw_at 766 (by decide +kernel) (by decide +kernel)
theorem k_X6_writeOrder : MF mX6_writeOrder := ⟨q_766, q_40, by decide +kernel, by decide +kernel⟩
abbrev mX6_arrange : MI := (RX6, yX6_arrange, cX6_arrange, 7, (some .int), { frames := 4, cells := 0, slots := 0, locals := 100 })
theorem q_748 : Cond.code yX6_arrange cX6_arrange 7 (some .int) ∈ gw := gw_at 748 (by decide +kernel) (by decide +kernel)
theorem k_X6_arrange : MF mX6_arrange := ⟨q_748, q_40, by decide +kernel, by decide +kernel⟩
abbrev mX7_init : MI := (RX7, yX7_init, cX7_init, 1, none, { frames := 1, cells := 3, slots := 120, locals := 20 })
theorem q_83 : Cond.code yX7_init cX7_init 1 none ∈ gw := gw_at 83 (by decide +kernel) (by decide +kernel)
theorem k_X7_init : MF mX7_init := ⟨q_83, q_36, by decide +kernel, by decide +kernel⟩
abbrev mX7_has : MI := (RX7, yX7_has, cX7_has, 2, (some .boolean), { frames := 0, cells := 0, slots := 0, locals := 0 })
theorem q_404 : Cond.code yX7_has cX7_has 2 (some .boolean) ∈ gw := gw_at 404 (by decide +kernel) (by decide +kernel)
theorem k_X7_has : MF mX7_has := ⟨q_404, q_36, by decide +kernel, by decide +kernel⟩
abbrev mX7_add : MI := (RX7, yX7_add, cX7_add, 4, (some .int), { frames := 0, cells := 0, slots := 0, locals := 0 })
theorem q_396 : Cond.code yX7_add cX7_add 4 (some .int) ∈ gw := gw_at 396 (by decide +kernel) (by decide +kernel)
theorem k_X7_add : MF mX7_add := ⟨q_396, q_36, by decide +kernel, by decide +kernel⟩
abbrev mX7_lacks : MI := (RX7, yX7_lacks, cX7_lacks, 3, (some .boolean), { frames := 2, cells := 0, slots := 0, locals := 45 })
theorem q_487 : Cond.code yX7_lacks cX7_lacks 3 (some .boolean) ∈ gw := gw_at 487 (by decide +kernel) (by decide +kernel)
theorem k_X7_lacks : MF mX7_lacks := ⟨q_487, q_36, by decide +kernel, by decide +kernel⟩
abbrev mX7_nextToEnd : MI := (RX7, yX7_nextToEnd, cX7_nextToEnd, 4, (some .int), { frames := 1, cells := 0, slots := 0, locals := 22 })
theorem q_499 : Cond.code yX7_nextToEnd cX7_nextToEnd 4 (some .int) ∈ gw := gw_at 499 (by decide +kernel) (by decide +kernel)
theorem k_X7_nextToEnd : MF mX7_nextToEnd := ⟨q_499, q_36, by decide +kernel, by decide +kernel⟩
abbrev mX7_take : MI := (RX7, yX7_take, cX7_take, 8, none, { frames := 2, cells := 0, slots := 0, locals := 45 })
theorem q_495 : Cond.code yX7_take cX7_take 8 none ∈ gw := gw_at 495 (by decide +kernel) (by decide +kernel)
theorem k_X7_take : MF mX7_take := ⟨q_495, q_36, by decide +kernel, by decide +kernel⟩
abbrev mX8_init : MI := (RX8, yX8_init, cX8_init, 1, none, { frames := 2, cells := 3, slots := 14, locals := 40 })
theorem q_289 : Cond.code yX8_init cX8_init 1 none ∈ gw := gw_at 289 (by decide +kernel) (by decide +kernel)
theorem q_43 : Cond.initialized "ColourWorks$Tank" ∈ gw := gw_at 43 (by decide +kernel) (by decide +kernel)
theorem k_X8_init : MF mX8_init := ⟨q_289, q_43, by decide +kernel, by decide +kernel⟩
abbrev mX8_isClean : MI := (RX8, yX8_isClean, cX8_isClean, 1, (some .boolean), { frames := 0, cells := 0, slots := 0, locals := 0 })
theorem q_673 : Cond.code yX8_isClean cX8_isClean 1 (some .boolean) ∈ gw := gw_at 673 (by decide +kernel) (by decide +kernel)
theorem k_X8_isClean : MF mX8_isClean := ⟨q_673, q_43, by decide +kernel, by decide +kernel⟩
abbrev mX8_isAlike : MI := (RX8, yX8_isAlike, cX8_isAlike, 5, (some .boolean), { frames := 3, cells := 0, slots := 0, locals := 70 })
theorem q_630 : Cond.code yX8_isAlike cX8_isAlike 5 (some .boolean) ∈ gw := gw_at 630 (by decide +kernel) (by decide +kernel)
theorem k_X8_isAlike : MF mX8_isAlike := ⟨q_630, q_43, by decide +kernel, by decide +kernel⟩
abbrev mX8_coversStain : MI := (RX8, yX8_coversStain, cX8_coversStain, 4, (some .boolean), { frames := 3, cells := 0, slots := 0, locals := 70 })
theorem q_636 : Cond.code yX8_coversStain cX8_coversStain 4 (some .boolean) ∈ gw := gw_at 636 (by decide +kernel) (by decide +kernel)
theorem k_X8_coversStain : MF mX8_coversStain := ⟨q_636, q_43, by decide +kernel, by decide +kernel⟩
abbrev mX8_admits : MI := (RX8, yX8_admits, cX8_admits, 4, (some .boolean), { frames := 4, cells := 0, slots := 0, locals := 94 })
theorem q_626 : Cond.code yX8_admits cX8_admits 4 (some .boolean) ∈ gw := gw_at 626 (by decide +kernel) (by decide +kernel)
theorem k_X8_admits : MF mX8_admits := ⟨q_626, q_43, by decide +kernel, by decide +kernel⟩
abbrev mX8_receive : MI := (RX8, yX8_receive, cX8_receive, 3, none, { frames := 2, cells := 0, slots := 0, locals := 43 })
theorem q_640 : Cond.code yX8_receive cX8_receive 3 none ∈ gw := gw_at 640 (by decide +kernel) (by decide +kernel)
theorem k_X8_receive : MF mX8_receive := ⟨q_640, q_43, by decide +kernel, by decide +kernel⟩
abbrev mX8_draw : MI := (RX8, yX8_draw, cX8_draw, 4, none, { frames := 3, cells := 0, slots := 0, locals := 70 })
theorem q_665 : Cond.code yX8_draw cX8_draw 4 none ∈ gw := gw_at 665 (by decide +kernel) (by decide +kernel)
theorem k_X8_draw : MF mX8_draw := ⟨q_665, q_43, by decide +kernel, by decide +kernel⟩
abbrev mJ6_bitCount_0f7a4 : MI := (RJ6, yJ6_bitCount_0f7a4, cJ6_bitCount_0f7a4, 1, (some .int), { frames := 0, cells := 0, slots := 0, locals := 0 })
theorem q_688 : Cond.code yJ6_bitCount_0f7a4 cJ6_bitCount_0f7a4 1 (some .int) ∈ gw := gw_at 688 (by decide +kernel) (by decide +kernel)
theorem q_48 : Cond.initialized "java/lang/Integer" ∈ gw := gw_at 48 (by decide +kernel) (by decide +kernel)
theorem k_J6_bitCount_0f7a4 : MF mJ6_bitCount_0f7a4 := ⟨q_688, q_48, by decide +kernel, by decide +kernel⟩
abbrev mJ13_bitCount_95d88 : MI := (RJ13, yJ13_bitCount_95d88, cJ13_bitCount_95d88, 2, (some .int), { frames := 0, cells := 0, slots := 0, locals := 0 })
theorem q_694 : Cond.code yJ13_bitCount_95d88 cJ13_bitCount_95d88 2 (some .int) ∈ gw := gw_at 694 (by decide +kernel) (by decide +kernel)
theorem q_49 : Cond.initialized "java/lang/Long" ∈ gw := gw_at 49 (by decide +kernel) (by decide +kernel)
theorem k_J13_bitCount_95d88 : MF mJ13_bitCount_95d88 := ⟨q_694, q_49, by decide +kernel, by decide +kernel⟩
abbrev mX9_init : MI := (RX9, yX9_init, cX9_init, 2, none, { frames := 3, cells := 130, slots := 3228, locals := 60 })
theorem q_54 : Cond.code yX9_init cX9_init 2 none ∈ gw := gw_at 54 (by decide +kernel) (by decide +kernel)
theorem k_X9_init : MF mX9_init := ⟨q_54, q_34, by decide +kernel, by decide +kernel⟩
abbrev mX9_within : MI := (RX9, yX9_within, cX9_within, 3, (some .boolean), { frames := 0, cells := 0, slots := 0, locals := 0 })
theorem q_368 : Cond.code yX9_within cX9_within 3 (some .boolean) ∈ gw := gw_at 368 (by decide +kernel) (by decide +kernel)
theorem k_X9_within : MF mX9_within := ⟨q_368, q_34, by decide +kernel, by decide +kernel⟩
abbrev mX9_isStrength : MI := (RX9, yX9_isStrength, cX9_isStrength, 1, (some .boolean), { frames := 1, cells := 0, slots := 0, locals := 22 })
theorem q_365 : Cond.code yX9_isStrength cX9_isStrength 1 (some .boolean) ∈ gw := gw_at 365 (by decide +kernel) (by decide +kernel)
theorem k_X9_isStrength : MF mX9_isStrength := ⟨q_365, q_34, by decide +kernel, by decide +kernel⟩
abbrev mX9_base : MI := (RX9, yX9_base, cX9_base, 3, (some .int), { frames := 2, cells := 0, slots := 0, locals := 47 })
theorem q_362 : Cond.code yX9_base cX9_base 3 (some .int) ∈ gw := gw_at 362 (by decide +kernel) (by decide +kernel)
theorem k_X9_base : MF mX9_base := ⟨q_362, q_34, by decide +kernel, by decide +kernel⟩
abbrev mX9_isBand : MI := (RX9, yX9_isBand, cX9_isBand, 1, (some .boolean), { frames := 1, cells := 0, slots := 0, locals := 22 })
theorem q_387 : Cond.code yX9_isBand cX9_isBand 1 (some .boolean) ∈ gw := gw_at 387 (by decide +kernel) (by decide +kernel)
theorem k_X9_isBand : MF mX9_isBand := ⟨q_387, q_34, by decide +kernel, by decide +kernel⟩
abbrev mX9_band : MI := (RX9, yX9_band, cX9_band, 5, (some .int), { frames := 2, cells := 0, slots := 0, locals := 42 })
theorem q_380 : Cond.code yX9_band cX9_band 5 (some .int) ∈ gw := gw_at 380 (by decide +kernel) (by decide +kernel)
theorem k_X9_band : MF mX9_band := ⟨q_380, q_34, by decide +kernel, by decide +kernel⟩
abbrev mX9_lot : MI := (RX9, yX9_lot, cX9_lot, 4, (some .int), { frames := 1, cells := 0, slots := 0, locals := 23 })
theorem q_392 : Cond.code yX9_lot cX9_lot 4 (some .int) ∈ gw := gw_at 392 (by decide +kernel) (by decide +kernel)
theorem k_X9_lot : MF mX9_lot := ⟨q_392, q_34, by decide +kernel, by decide +kernel⟩
abbrev mX9_left : MI := (RX9, yX9_left, cX9_left, 2, (some .int), { frames := 1, cells := 0, slots := 0, locals := 21 })
theorem q_400 : Cond.code yX9_left cX9_left 2 (some .int) ∈ gw := gw_at 400 (by decide +kernel) (by decide +kernel)
theorem k_X9_left : MF mX9_left := ⟨q_400, q_34, by decide +kernel, by decide +kernel⟩
abbrev mX9_may : MI := (RX9, yX9_may, cX9_may, 2, (some .int), { frames := 2, cells := 0, slots := 0, locals := 45 })
theorem q_408 : Cond.code yX9_may cX9_may 2 (some .int) ∈ gw := gw_at 408 (by decide +kernel) (by decide +kernel)
theorem k_X9_may : MF mX9_may := ⟨q_408, q_34, by decide +kernel, by decide +kernel⟩
abbrev mX9_day : MI := (RX9, yX9_day, cX9_day, 2, (some .int), { frames := 1, cells := 0, slots := 0, locals := 22 })
theorem q_420 : Cond.code yX9_day cX9_day 2 (some .int) ∈ gw := gw_at 420 (by decide +kernel) (by decide +kernel)
theorem k_X9_day : MF mX9_day := ⟨q_420, q_34, by decide +kernel, by decide +kernel⟩
abbrev mX9_recipe : MI := (RX9, yX9_recipe, cX9_recipe, 1, (some .int), { frames := 1, cells := 0, slots := 0, locals := 20 })
theorem q_424 : Cond.code yX9_recipe cX9_recipe 1 (some .int) ∈ gw := gw_at 424 (by decide +kernel) (by decide +kernel)
theorem k_X9_recipe : MF mX9_recipe := ⟨q_424, q_34, by decide +kernel, by decide +kernel⟩
abbrev mX9_part : MI := (RX9, yX9_part, cX9_part, 5, (some .int), { frames := 4, cells := 0, slots := 0, locals := 93 })
theorem q_432 : Cond.code yX9_part cX9_part 5 (some .int) ∈ gw := gw_at 432 (by decide +kernel) (by decide +kernel)
theorem k_X9_part : MF mX9_part := ⟨q_432, q_34, by decide +kernel, by decide +kernel⟩
abbrev mX9_resolved : MI := (RX9, yX9_resolved, cX9_resolved, 3, (some .int), { frames := 1, cells := 0, slots := 0, locals := 22 })
theorem q_462 : Cond.code yX9_resolved cX9_resolved 3 (some .int) ∈ gw := gw_at 462 (by decide +kernel) (by decide +kernel)
theorem k_X9_resolved : MF mX9_resolved := ⟨q_462, q_34, by decide +kernel, by decide +kernel⟩
abbrev mX9_batch : MI := (RX9, yX9_batch, cX9_batch, 1, (some .int), { frames := 0, cells := 0, slots := 0, locals := 0 })
theorem q_470 : Cond.code yX9_batch cX9_batch 1 (some .int) ∈ gw := gw_at 470 (by decide +kernel) (by decide +kernel)
theorem k_X9_batch : MF mX9_batch := ⟨q_470, q_34, by decide +kernel, by decide +kernel⟩
abbrev mX9_hasBatch : MI := (RX9, yX9_hasBatch, cX9_hasBatch, 2, (some .boolean), { frames := 0, cells := 0, slots := 0, locals := 0 })
theorem q_478 : Cond.code yX9_hasBatch cX9_hasBatch 2 (some .boolean) ∈ gw := gw_at 478 (by decide +kernel) (by decide +kernel)
theorem k_X9_hasBatch : MF mX9_hasBatch := ⟨q_478, q_34, by decide +kernel, by decide +kernel⟩
abbrev mX9_sum : MI := (RX9, yX9_sum, cX9_sum, 3, (some .int), { frames := 0, cells := 0, slots := 0, locals := 0 })
theorem q_491 : Cond.code yX9_sum cX9_sum 3 (some .int) ∈ gw := gw_at 491 (by decide +kernel) (by decide +kernel)
theorem k_X9_sum : MF mX9_sum := ⟨q_491, q_34, by decide +kernel, by decide +kernel⟩
abbrev mX9_takeWanted : MI := (RX9, yX9_takeWanted, cX9_takeWanted, 3, (some .int), { frames := 3, cells := 0, slots := 0, locals := 72 })
theorem q_483 : Cond.code yX9_takeWanted cX9_takeWanted 3 (some .int) ∈ gw := gw_at 483 (by decide +kernel) (by decide +kernel)
theorem k_X9_takeWanted : MF mX9_takeWanted := ⟨q_483, q_34, by decide +kernel, by decide +kernel⟩
abbrev mX9_weigh : MI := (RX9, yX9_weigh, cX9_weigh, 4, (some .int), { frames := 4, cells := 0, slots := 0, locals := 94 })
theorem q_474 : Cond.code yX9_weigh cX9_weigh 4 (some .int) ∈ gw := gw_at 474 (by decide +kernel) (by decide +kernel)
theorem k_X9_weigh : MF mX9_weigh := ⟨q_474, q_34, by decide +kernel, by decide +kernel⟩
abbrev mX9_brew : MI := (RX9, yX9_brew, cX9_brew, 5, (some .int), { frames := 4, cells := 0, slots := 0, locals := 94 })
theorem q_510 : Cond.code yX9_brew cX9_brew 5 (some .int) ∈ gw := gw_at 510 (by decide +kernel) (by decide +kernel)
theorem k_X9_brew : MF mX9_brew := ⟨q_510, q_34, by decide +kernel, by decide +kernel⟩
abbrev mX9_isAim : MI := (RX9, yX9_isAim, cX9_isAim, 3, (some .boolean), { frames := 1, cells := 0, slots := 0, locals := 22 })
theorem q_517 : Cond.code yX9_isAim cX9_isAim 3 (some .boolean) ∈ gw := gw_at 517 (by decide +kernel) (by decide +kernel)
theorem k_X9_isAim : MF mX9_isAim := ⟨q_517, q_34, by decide +kernel, by decide +kernel⟩
abbrev mX9_drops : MI := (RX9, yX9_drops, cX9_drops, 7, (some .int), { frames := 5, cells := 0, slots := 0, locals := 112 })
theorem q_514 : Cond.code yX9_drops cX9_drops 7 (some .int) ∈ gw := gw_at 514 (by decide +kernel) (by decide +kernel)
theorem k_X9_drops : MF mX9_drops := ⟨q_514, q_34, by decide +kernel, by decide +kernel⟩
abbrev mX9_drop : MI := (RX9, yX9_drop, cX9_drop, 2, (some .int), { frames := 1, cells := 0, slots := 0, locals := 21 })
theorem q_580 : Cond.code yX9_drop cX9_drop 2 (some .int) ∈ gw := gw_at 580 (by decide +kernel) (by decide +kernel)
theorem k_X9_drop : MF mX9_drop := ⟨q_580, q_34, by decide +kernel, by decide +kernel⟩
abbrev mX9_dropIn : MI := (RX9, yX9_dropIn, cX9_dropIn, 2, (some .int), { frames := 4, cells := 0, slots := 0, locals := 94 })
theorem q_584 : Cond.code yX9_dropIn cX9_dropIn 2 (some .int) ∈ gw := gw_at 584 (by decide +kernel) (by decide +kernel)
theorem k_X9_dropIn : MF mX9_dropIn := ⟨q_584, q_34, by decide +kernel, by decide +kernel⟩
abbrev mX9_amount : MI := (RX9, yX9_amount, cX9_amount, 3, (some .int), { frames := 1, cells := 0, slots := 0, locals := 21 })
theorem q_589 : Cond.code yX9_amount cX9_amount 3 (some .int) ∈ gw := gw_at 589 (by decide +kernel) (by decide +kernel)
theorem k_X9_amount : MF mX9_amount := ⟨q_589, q_34, by decide +kernel, by decide +kernel⟩
abbrev mX9_shade : MI := (RX9, yX9_shade, cX9_shade, 4, (some .int), { frames := 3, cells := 0, slots := 0, locals := 70 })
theorem q_593 : Cond.code yX9_shade cX9_shade 4 (some .int) ∈ gw := gw_at 593 (by decide +kernel) (by decide +kernel)
theorem k_X9_shade : MF mX9_shade := ⟨q_593, q_34, by decide +kernel, by decide +kernel⟩
abbrev mX9_miss : MI := (RX9, yX9_miss, cX9_miss, 7, (some .int), { frames := 3, cells := 0, slots := 0, locals := 70 })
theorem q_604 : Cond.code yX9_miss cX9_miss 7 (some .int) ∈ gw := gw_at 604 (by decide +kernel) (by decide +kernel)
theorem k_X9_miss : MF mX9_miss := ⟨q_604, q_34, by decide +kernel, by decide +kernel⟩
abbrev mX9_isTank : MI := (RX9, yX9_isTank, cX9_isTank, 1, (some .boolean), { frames := 1, cells := 0, slots := 0, locals := 22 })
theorem q_613 : Cond.code yX9_isTank cX9_isTank 1 (some .boolean) ∈ gw := gw_at 613 (by decide +kernel) (by decide +kernel)
theorem k_X9_isTank : MF mX9_isTank := ⟨q_613, q_34, by decide +kernel, by decide +kernel⟩
abbrev mX9_holds : MI := (RX9, yX9_holds, cX9_holds, 5, (some .int), { frames := 2, cells := 0, slots := 0, locals := 42 })
theorem q_610 : Cond.code yX9_holds cX9_holds 5 (some .int) ∈ gw := gw_at 610 (by decide +kernel) (by decide +kernel)
theorem k_X9_holds : MF mX9_holds := ⟨q_610, q_34, by decide +kernel, by decide +kernel⟩
abbrev mX9_limit : MI := (RX9, yX9_limit, cX9_limit, 3, (some .int), { frames := 1, cells := 0, slots := 0, locals := 22 })
theorem q_618 : Cond.code yX9_limit cX9_limit 3 (some .int) ∈ gw := gw_at 618 (by decide +kernel) (by decide +kernel)
theorem k_X9_limit : MF mX9_limit := ⟨q_618, q_34, by decide +kernel, by decide +kernel⟩
abbrev mX9_pour : MI := (RX9, yX9_pour, cX9_pour, 5, (some .int), { frames := 5, cells := 0, slots := 0, locals := 117 })
theorem q_622 : Cond.code yX9_pour cX9_pour 5 (some .int) ∈ gw := gw_at 622 (by decide +kernel) (by decide +kernel)
theorem k_X9_pour : MF mX9_pour := ⟨q_622, q_34, by decide +kernel, by decide +kernel⟩
abbrev mX9_clean : MI := (RX9, yX9_clean, cX9_clean, 3, (some .int), { frames := 2, cells := 0, slots := 0, locals := 42 })
theorem q_653 : Cond.code yX9_clean cX9_clean 3 (some .int) ∈ gw := gw_at 653 (by decide +kernel) (by decide +kernel)
theorem k_X9_clean : MF mX9_clean := ⟨q_653, q_34, by decide +kernel, by decide +kernel⟩
abbrev mX9_fill : MI := (RX9, yX9_fill, cX9_fill, 4, (some .int), { frames := 4, cells := 0, slots := 0, locals := 93 })
theorem q_657 : Cond.code yX9_fill cX9_fill 4 (some .int) ∈ gw := gw_at 657 (by decide +kernel) (by decide +kernel)
theorem k_X9_fill : MF mX9_fill := ⟨q_657, q_34, by decide +kernel, by decide +kernel⟩
abbrev mX9_tank : MI := (RX9, yX9_tank, cX9_tank, 4, (some .int), { frames := 2, cells := 0, slots := 0, locals := 42 })
theorem q_669 : Cond.code yX9_tank cX9_tank 4 (some .int) ∈ gw := gw_at 669 (by decide +kernel) (by decide +kernel)
theorem k_X9_tank : MF mX9_tank := ⟨q_669, q_34, by decide +kernel, by decide +kernel⟩
abbrev mX9_tankShade : MI := (RX9, yX9_tankShade, cX9_tankShade, 4, (some .int), { frames := 3, cells := 0, slots := 0, locals := 70 })
theorem q_677 : Cond.code yX9_tankShade cX9_tankShade 4 (some .int) ∈ gw := gw_at 677 (by decide +kernel) (by decide +kernel)
theorem k_X9_tankShade : MF mX9_tankShade := ⟨q_677, q_34, by decide +kernel, by decide +kernel⟩
abbrev mX9_drum : MI := (RX9, yX9_drum, cX9_drum, 3, (some .int), { frames := 1, cells := 0, slots := 0, locals := 21 })
theorem q_681 : Cond.code yX9_drum cX9_drum 3 (some .int) ∈ gw := gw_at 681 (by decide +kernel) (by decide +kernel)
theorem k_X9_drum : MF mX9_drum := ⟨q_681, q_34, by decide +kernel, by decide +kernel⟩
abbrev mX9_inDrum : MI := (RX9, yX9_inDrum, cX9_inDrum, 5, (some .int), { frames := 1, cells := 0, slots := 0, locals := 22 })
theorem q_701 : Cond.code yX9_inDrum cX9_inDrum 5 (some .int) ∈ gw := gw_at 701 (by decide +kernel) (by decide +kernel)
theorem k_X9_inDrum : MF mX9_inDrum := ⟨q_701, q_34, by decide +kernel, by decide +kernel⟩
abbrev mX9_openBatchesWith : MI := (RX9, yX9_openBatchesWith, cX9_openBatchesWith, 4, (some .int), { frames := 1, cells := 0, slots := 0, locals := 22 })
theorem q_717 : Cond.code yX9_openBatchesWith cX9_openBatchesWith 4 (some .int) ∈ gw := gw_at 717 (by decide +kernel) (by decide +kernel)
theorem k_X9_openBatchesWith : MF mX9_openBatchesWith := ⟨q_717, q_34, by decide +kernel, by decide +kernel⟩
abbrev mX9_tanksWith : MI := (RX9, yX9_tanksWith, cX9_tanksWith, 4, (some .int), { frames := 1, cells := 0, slots := 0, locals := 22 })
theorem q_721 : Cond.code yX9_tanksWith cX9_tanksWith 4 (some .int) ∈ gw := gw_at 721 (by decide +kernel) (by decide +kernel)
theorem k_X9_tanksWith : MF mX9_tanksWith := ⟨q_721, q_34, by decide +kernel, by decide +kernel⟩
abbrev mX9_recall : MI := (RX9, yX9_recall, cX9_recall, 3, (some .int), { frames := 2, cells := 0, slots := 0, locals := 45 })
theorem q_708 : Cond.code yX9_recall cX9_recall 3 (some .int) ∈ gw := gw_at 708 (by decide +kernel) (by decide +kernel)
theorem k_X9_recall : MF mX9_recall := ⟨q_708, q_34, by decide +kernel, by decide +kernel⟩
abbrev mX9_isHue : MI := (RX9, yX9_isHue, cX9_isHue, 1, (some .boolean), { frames := 1, cells := 0, slots := 0, locals := 22 })
theorem q_728 : Cond.code yX9_isHue cX9_isHue 1 (some .boolean) ∈ gw := gw_at 728 (by decide +kernel) (by decide +kernel)
theorem k_X9_isHue : MF mX9_isHue := ⟨q_728, q_34, by decide +kernel, by decide +kernel⟩
abbrev mX9_job : MI := (RX9, yX9_job, cX9_job, 5, (some .int), { frames := 2, cells := 0, slots := 0, locals := 42 })
theorem q_725 : Cond.code yX9_job cX9_job 5 (some .int) ∈ gw := gw_at 725 (by decide +kernel) (by decide +kernel)
theorem k_X9_job : MF mX9_job := ⟨q_725, q_34, by decide +kernel, by decide +kernel⟩
abbrev mX9_cleaning : MI := (RX9, yX9_cleaning, cX9_cleaning, 4, (some .int), { frames := 2, cells := 0, slots := 0, locals := 42 })
theorem q_736 : Cond.code yX9_cleaning cX9_cleaning 4 (some .int) ∈ gw := gw_at 736 (by decide +kernel) (by decide +kernel)
theorem k_X9_cleaning : MF mX9_cleaning := ⟨q_736, q_34, by decide +kernel, by decide +kernel⟩
abbrev mX9_plan : MI := (RX9, yX9_plan, cX9_plan, 2, (some .int), { frames := 5, cells := 0, slots := 0, locals := 126 })
theorem q_744 : Cond.code yX9_plan cX9_plan 2 (some .int) ∈ gw := gw_at 744 (by decide +kernel) (by decide +kernel)
theorem k_X9_plan : MF mX9_plan := ⟨q_744, q_34, by decide +kernel, by decide +kernel⟩
abbrev mX9_planned : MI := (RX9, yX9_planned, cX9_planned, 2, (some .int), { frames := 0, cells := 0, slots := 0, locals := 0 })
theorem q_770 : Cond.code yX9_planned cX9_planned 2 (some .int) ∈ gw := gw_at 770 (by decide +kernel) (by decide +kernel)
theorem k_X9_planned : MF mX9_planned := ⟨q_770, q_34, by decide +kernel, by decide +kernel⟩
abbrev mX9_idle : MI := (RX9, yX9_idle, cX9_idle, 2, (some .int), { frames := 0, cells := 0, slots := 0, locals := 0 })
theorem q_774 : Cond.code yX9_idle cX9_idle 2 (some .int) ∈ gw := gw_at 774 (by decide +kernel) (by decide +kernel)
theorem k_X9_idle : MF mX9_idle := ⟨q_774, q_34, by decide +kernel, by decide +kernel⟩
abbrev mX9_count : MI := (RX9, yX9_count, cX9_count, 2, (some .int), { frames := 0, cells := 0, slots := 0, locals := 0 })
theorem q_778 : Cond.code yX9_count cX9_count 2 (some .int) ∈ gw := gw_at 778 (by decide +kernel) (by decide +kernel)
theorem k_X9_count : MF mX9_count := ⟨q_778, q_34, by decide +kernel, by decide +kernel⟩
abbrev mX10_init : MI := (RX10, yX10_init, cX10_init, 2, none, { frames := 1, cells := 38, slots := 3825, locals := 20 })
theorem q_783 : Cond.code yX10_init cX10_init 2 none ∈ gw := gw_at 783 (by decide +kernel) (by decide +kernel)
theorem q_44 : Cond.initialized "ColourWorksModel" ∈ gw := gw_at 44 (by decide +kernel) (by decide +kernel)
theorem k_X10_init : MF mX10_init := ⟨q_783, q_44, by decide +kernel, by decide +kernel⟩
abbrev mX10_in : MI := (RX10, yX10_in, cX10_in, 3, (some .boolean), { frames := 0, cells := 0, slots := 0, locals := 0 })
theorem q_939 : Cond.code yX10_in cX10_in 3 (some .boolean) ∈ gw := gw_at 939 (by decide +kernel) (by decide +kernel)
theorem k_X10_in : MF mX10_in := ⟨q_939, q_44, by decide +kernel, by decide +kernel⟩
abbrev mX10_isBase : MI := (RX10, yX10_isBase, cX10_isBase, 2, (some .boolean), { frames := 1, cells := 0, slots := 0, locals := 22 })
theorem q_947 : Cond.code yX10_isBase cX10_isBase 2 (some .boolean) ∈ gw := gw_at 947 (by decide +kernel) (by decide +kernel)
theorem k_X10_isBase : MF mX10_isBase := ⟨q_947, q_44, by decide +kernel, by decide +kernel⟩
abbrev mX10_isBatch : MI := (RX10, yX10_isBatch, cX10_isBatch, 2, (some .boolean), { frames := 1, cells := 0, slots := 0, locals := 22 })
theorem q_999 : Cond.code yX10_isBatch cX10_isBatch 2 (some .boolean) ∈ gw := gw_at 999 (by decide +kernel) (by decide +kernel)
theorem k_X10_isBatch : MF mX10_isBatch := ⟨q_999, q_44, by decide +kernel, by decide +kernel⟩
abbrev mX10_isTank : MI := (RX10, yX10_isTank, cX10_isTank, 1, (some .boolean), { frames := 1, cells := 0, slots := 0, locals := 22 })
theorem q_1060 : Cond.code yX10_isTank cX10_isTank 1 (some .boolean) ∈ gw := gw_at 1060 (by decide +kernel) (by decide +kernel)
theorem k_X10_isTank : MF mX10_isTank := ⟨q_1060, q_44, by decide +kernel, by decide +kernel⟩
abbrev mX10_base : MI := (RX10, yX10_base, cX10_base, 4, (some .int), { frames := 1, cells := 0, slots := 0, locals := 22 })
theorem q_936 : Cond.code yX10_base cX10_base 4 (some .int) ∈ gw := gw_at 936 (by decide +kernel) (by decide +kernel)
theorem k_X10_base : MF mX10_base := ⟨q_936, q_44, by decide +kernel, by decide +kernel⟩
abbrev mX10_band : MI := (RX10, yX10_band, cX10_band, 5, (some .int), { frames := 2, cells := 0, slots := 0, locals := 43 })
theorem q_943 : Cond.code yX10_band cX10_band 5 (some .int) ∈ gw := gw_at 943 (by decide +kernel) (by decide +kernel)
theorem k_X10_band : MF mX10_band := ⟨q_943, q_44, by decide +kernel, by decide +kernel⟩
abbrev mX10_lot : MI := (RX10, yX10_lot, cX10_lot, 4, (some .int), { frames := 2, cells := 0, slots := 0, locals := 43 })
theorem q_951 : Cond.code yX10_lot cX10_lot 4 (some .int) ∈ gw := gw_at 951 (by decide +kernel) (by decide +kernel)
theorem k_X10_lot : MF mX10_lot := ⟨q_951, q_44, by decide +kernel, by decide +kernel⟩
abbrev mX10_left : MI := (RX10, yX10_left, cX10_left, 2, (some .int), { frames := 1, cells := 0, slots := 0, locals := 22 })
theorem q_955 : Cond.code yX10_left cX10_left 2 (some .int) ∈ gw := gw_at 955 (by decide +kernel) (by decide +kernel)
theorem k_X10_left : MF mX10_left := ⟨q_955, q_44, by decide +kernel, by decide +kernel⟩
abbrev mX10_mayTake : MI := (RX10, yX10_mayTake, cX10_mayTake, 3, (some .boolean), { frames := 0, cells := 0, slots := 0, locals := 0 })
theorem q_967 : Cond.code yX10_mayTake cX10_mayTake 3 (some .boolean) ∈ gw := gw_at 967 (by decide +kernel) (by decide +kernel)
theorem k_X10_mayTake : MF mX10_mayTake := ⟨q_967, q_44, by decide +kernel, by decide +kernel⟩
abbrev mX10_mayOf : MI := (RX10, yX10_mayOf, cX10_mayOf, 4, (some .int), { frames := 1, cells := 0, slots := 0, locals := 22 })
theorem q_963 : Cond.code yX10_mayOf cX10_mayOf 4 (some .int) ∈ gw := gw_at 963 (by decide +kernel) (by decide +kernel)
theorem k_X10_mayOf : MF mX10_mayOf := ⟨q_963, q_44, by decide +kernel, by decide +kernel⟩
abbrev mX10_may : MI := (RX10, yX10_may, cX10_may, 2, (some .int), { frames := 2, cells := 0, slots := 0, locals := 45 })
theorem q_959 : Cond.code yX10_may cX10_may 2 (some .int) ∈ gw := gw_at 959 (by decide +kernel) (by decide +kernel)
theorem k_X10_may : MF mX10_may := ⟨q_959, q_44, by decide +kernel, by decide +kernel⟩
abbrev mX10_day : MI := (RX10, yX10_day, cX10_day, 2, (some .int), { frames := 1, cells := 0, slots := 0, locals := 22 })
theorem q_971 : Cond.code yX10_day cX10_day 2 (some .int) ∈ gw := gw_at 971 (by decide +kernel) (by decide +kernel)
theorem k_X10_day : MF mX10_day := ⟨q_971, q_44, by decide +kernel, by decide +kernel⟩
abbrev mX10_take : MI := (RX10, yX10_take, cX10_take, 7, none, { frames := 1, cells := 0, slots := 0, locals := 22 })
theorem q_1007 : Cond.code yX10_take cX10_take 7 none ∈ gw := gw_at 1007 (by decide +kernel) (by decide +kernel)
theorem k_X10_take : MF mX10_take := ⟨q_1007, q_44, by decide +kernel, by decide +kernel⟩
abbrev mX10_recipe : MI := (RX10, yX10_recipe, cX10_recipe, 1, (some .int), { frames := 0, cells := 0, slots := 0, locals := 0 })
theorem q_975 : Cond.code yX10_recipe cX10_recipe 1 (some .int) ∈ gw := gw_at 975 (by decide +kernel) (by decide +kernel)
theorem k_X10_recipe : MF mX10_recipe := ⟨q_975, q_44, by decide +kernel, by decide +kernel⟩
abbrev mX10_findNeeds : MI := (RX10, yX10_findNeeds, cX10_findNeeds, 7, (some .boolean), { frames := 0, cells := 0, slots := 0, locals := 0 })
theorem q_983 : Cond.code yX10_findNeeds cX10_findNeeds 7 (some .boolean) ∈ gw := gw_at 983 (by decide +kernel) (by decide +kernel)
theorem k_X10_findNeeds : MF mX10_findNeeds := ⟨q_983, q_44, by decide +kernel, by decide +kernel⟩
abbrev mX10_part : MI := (RX10, yX10_part, cX10_part, 7, (some .int), { frames := 2, cells := 0, slots := 0, locals := 43 })
theorem q_979 : Cond.code yX10_part cX10_part 7 (some .int) ∈ gw := gw_at 979 (by decide +kernel) (by decide +kernel)
theorem k_X10_part : MF mX10_part := ⟨q_979, q_44, by decide +kernel, by decide +kernel⟩
abbrev mX10_resolved : MI := (RX10, yX10_resolved, cX10_resolved, 3, (some .int), { frames := 2, cells := 0, slots := 0, locals := 43 })
theorem q_987 : Cond.code yX10_resolved cX10_resolved 3 (some .int) ∈ gw := gw_at 987 (by decide +kernel) (by decide +kernel)
theorem k_X10_resolved : MF mX10_resolved := ⟨q_987, q_44, by decide +kernel, by decide +kernel⟩
abbrev mX10_batch : MI := (RX10, yX10_batch, cX10_batch, 1, (some .int), { frames := 0, cells := 0, slots := 0, locals := 0 })
theorem q_991 : Cond.code yX10_batch cX10_batch 1 (some .int) ∈ gw := gw_at 991 (by decide +kernel) (by decide +kernel)
theorem k_X10_batch : MF mX10_batch := ⟨q_991, q_44, by decide +kernel, by decide +kernel⟩
abbrev mX10_unitsOf : MI := (RX10, yX10_unitsOf, cX10_unitsOf, 4, (some .int), { frames := 0, cells := 0, slots := 0, locals := 0 })
theorem q_1003 : Cond.code yX10_unitsOf cX10_unitsOf 4 (some .int) ∈ gw := gw_at 1003 (by decide +kernel) (by decide +kernel)
theorem k_X10_unitsOf : MF mX10_unitsOf := ⟨q_1003, q_44, by decide +kernel, by decide +kernel⟩
abbrev mX10_weigh : MI := (RX10, yX10_weigh, cX10_weigh, 4, (some .int), { frames := 2, cells := 0, slots := 0, locals := 48 })
theorem q_995 : Cond.code yX10_weigh cX10_weigh 4 (some .int) ∈ gw := gw_at 995 (by decide +kernel) (by decide +kernel)
theorem k_X10_weigh : MF mX10_weigh := ⟨q_995, q_44, by decide +kernel, by decide +kernel⟩
abbrev mX10_brew : MI := (RX10, yX10_brew, cX10_brew, 8, (some .int), { frames := 2, cells := 0, slots := 0, locals := 48 })
theorem q_1011 : Cond.code yX10_brew cX10_brew 8 (some .int) ∈ gw := gw_at 1011 (by decide +kernel) (by decide +kernel)
theorem k_X10_brew : MF mX10_brew := ⟨q_1011, q_44, by decide +kernel, by decide +kernel⟩
abbrev mX10_shadeOf : MI := (RX10, yX10_shadeOf, cX10_shadeOf, 12, (some .int), { frames := 0, cells := 0, slots := 0, locals := 0 })
theorem q_1027 : Cond.code yX10_shadeOf cX10_shadeOf 12 (some .int) ∈ gw := gw_at 1027 (by decide +kernel) (by decide +kernel)
theorem k_X10_shadeOf : MF mX10_shadeOf := ⟨q_1027, q_44, by decide +kernel, by decide +kernel⟩
abbrev mX10_missOf : MI := (RX10, yX10_missOf, cX10_missOf, 9, (some .int), { frames := 1, cells := 0, slots := 0, locals := 31 })
theorem q_1023 : Cond.code yX10_missOf cX10_missOf 9 (some .int) ∈ gw := gw_at 1023 (by decide +kernel) (by decide +kernel)
theorem k_X10_missOf : MF mX10_missOf := ⟨q_1023, q_44, by decide +kernel, by decide +kernel⟩
abbrev mX10_isAim : MI := (RX10, yX10_isAim, cX10_isAim, 3, (some .boolean), { frames := 1, cells := 0, slots := 0, locals := 22 })
theorem q_1018 : Cond.code yX10_isAim cX10_isAim 3 (some .boolean) ∈ gw := gw_at 1018 (by decide +kernel) (by decide +kernel)
theorem k_X10_isAim : MF mX10_isAim := ⟨q_1018, q_44, by decide +kernel, by decide +kernel⟩
abbrev mX10_hasNext : MI := (RX10, yX10_hasNext, cX10_hasNext, 5, (some .boolean), { frames := 0, cells := 0, slots := 0, locals := 0 })
theorem q_1033 : Cond.code yX10_hasNext cX10_hasNext 5 (some .boolean) ∈ gw := gw_at 1033 (by decide +kernel) (by decide +kernel)
theorem k_X10_hasNext : MF mX10_hasNext := ⟨q_1033, q_44, by decide +kernel, by decide +kernel⟩
abbrev mX10_drops : MI := (RX10, yX10_drops, cX10_drops, 14, (some .int), { frames := 2, cells := 0, slots := 0, locals := 59 })
theorem q_1015 : Cond.code yX10_drops cX10_drops 14 (some .int) ∈ gw := gw_at 1015 (by decide +kernel) (by decide +kernel)
theorem k_X10_drops : MF mX10_drops := ⟨q_1015, q_44, by decide +kernel, by decide +kernel⟩
abbrev mX10_drop : MI := (RX10, yX10_drop, cX10_drop, 2, (some .int), { frames := 2, cells := 0, slots := 0, locals := 43 })
theorem q_1037 : Cond.code yX10_drop cX10_drop 2 (some .int) ∈ gw := gw_at 1037 (by decide +kernel) (by decide +kernel)
theorem k_X10_drop : MF mX10_drop := ⟨q_1037, q_44, by decide +kernel, by decide +kernel⟩
abbrev mX10_dropIn : MI := (RX10, yX10_dropIn, cX10_dropIn, 4, (some .int), { frames := 2, cells := 0, slots := 0, locals := 48 })
theorem q_1041 : Cond.code yX10_dropIn cX10_dropIn 4 (some .int) ∈ gw := gw_at 1041 (by decide +kernel) (by decide +kernel)
theorem k_X10_dropIn : MF mX10_dropIn := ⟨q_1041, q_44, by decide +kernel, by decide +kernel⟩
abbrev mX10_amount : MI := (RX10, yX10_amount, cX10_amount, 3, (some .int), { frames := 2, cells := 0, slots := 0, locals := 43 })
theorem q_1045 : Cond.code yX10_amount cX10_amount 3 (some .int) ∈ gw := gw_at 1045 (by decide +kernel) (by decide +kernel)
theorem k_X10_amount : MF mX10_amount := ⟨q_1045, q_44, by decide +kernel, by decide +kernel⟩
abbrev mX10_shade : MI := (RX10, yX10_shade, cX10_shade, 3, (some .int), { frames := 2, cells := 0, slots := 0, locals := 43 })
theorem q_1049 : Cond.code yX10_shade cX10_shade 3 (some .int) ∈ gw := gw_at 1049 (by decide +kernel) (by decide +kernel)
theorem k_X10_shade : MF mX10_shade := ⟨q_1049, q_44, by decide +kernel, by decide +kernel⟩
abbrev mX10_miss : MI := (RX10, yX10_miss, cX10_miss, 5, (some .int), { frames := 2, cells := 0, slots := 0, locals := 59 })
theorem q_1053 : Cond.code yX10_miss cX10_miss 5 (some .int) ∈ gw := gw_at 1053 (by decide +kernel) (by decide +kernel)
theorem k_X10_miss : MF mX10_miss := ⟨q_1053, q_44, by decide +kernel, by decide +kernel⟩
abbrev mX10_holds : MI := (RX10, yX10_holds, cX10_holds, 4, (some .int), { frames := 2, cells := 0, slots := 0, locals := 42 })
theorem q_1057 : Cond.code yX10_holds cX10_holds 4 (some .int) ∈ gw := gw_at 1057 (by decide +kernel) (by decide +kernel)
theorem k_X10_holds : MF mX10_holds := ⟨q_1057, q_44, by decide +kernel, by decide +kernel⟩
abbrev mX10_limit : MI := (RX10, yX10_limit, cX10_limit, 3, (some .int), { frames := 1, cells := 0, slots := 0, locals := 22 })
theorem q_1065 : Cond.code yX10_limit cX10_limit 3 (some .int) ∈ gw := gw_at 1065 (by decide +kernel) (by decide +kernel)
theorem k_X10_limit : MF mX10_limit := ⟨q_1065, q_44, by decide +kernel, by decide +kernel⟩
abbrev mX10_mayPour : MI := (RX10, yX10_mayPour, cX10_mayPour, 7, (some .boolean), { frames := 1, cells := 0, slots := 0, locals := 31 })
theorem q_1073 : Cond.code yX10_mayPour cX10_mayPour 7 (some .boolean) ∈ gw := gw_at 1073 (by decide +kernel) (by decide +kernel)
theorem k_X10_mayPour : MF mX10_mayPour := ⟨q_1073, q_44, by decide +kernel, by decide +kernel⟩
abbrev mX10_pour : MI := (RX10, yX10_pour, cX10_pour, 5, (some .int), { frames := 2, cells := 0, slots := 0, locals := 57 })
theorem q_1069 : Cond.code yX10_pour cX10_pour 5 (some .int) ∈ gw := gw_at 1069 (by decide +kernel) (by decide +kernel)
theorem k_X10_pour : MF mX10_pour := ⟨q_1069, q_44, by decide +kernel, by decide +kernel⟩
abbrev mX10_clean : MI := (RX10, yX10_clean, cX10_clean, 3, (some .int), { frames := 2, cells := 0, slots := 0, locals := 42 })
theorem q_1077 : Cond.code yX10_clean cX10_clean 3 (some .int) ∈ gw := gw_at 1077 (by decide +kernel) (by decide +kernel)
theorem k_X10_clean : MF mX10_clean := ⟨q_1077, q_44, by decide +kernel, by decide +kernel⟩
abbrev mX10_fill : MI := (RX10, yX10_fill, cX10_fill, 4, (some .int), { frames := 2, cells := 0, slots := 0, locals := 42 })
theorem q_1081 : Cond.code yX10_fill cX10_fill 4 (some .int) ∈ gw := gw_at 1081 (by decide +kernel) (by decide +kernel)
theorem k_X10_fill : MF mX10_fill := ⟨q_1081, q_44, by decide +kernel, by decide +kernel⟩
abbrev mX10_tank : MI := (RX10, yX10_tank, cX10_tank, 3, (some .int), { frames := 2, cells := 0, slots := 0, locals := 42 })
theorem q_1085 : Cond.code yX10_tank cX10_tank 3 (some .int) ∈ gw := gw_at 1085 (by decide +kernel) (by decide +kernel)
theorem k_X10_tank : MF mX10_tank := ⟨q_1085, q_44, by decide +kernel, by decide +kernel⟩
abbrev mX10_tankShade : MI := (RX10, yX10_tankShade, cX10_tankShade, 3, (some .int), { frames := 2, cells := 0, slots := 0, locals := 42 })
theorem q_1089 : Cond.code yX10_tankShade cX10_tankShade 3 (some .int) ∈ gw := gw_at 1089 (by decide +kernel) (by decide +kernel)
theorem k_X10_tankShade : MF mX10_tankShade := ⟨q_1089, q_44, by decide +kernel, by decide +kernel⟩
abbrev mX10_many : MI := (RX10, yX10_many, cX10_many, 4, (some .int), { frames := 0, cells := 0, slots := 0, locals := 0 })
theorem q_1096 : Cond.code yX10_many cX10_many 4 (some .int) ∈ gw := gw_at 1096 (by decide +kernel) (by decide +kernel)
theorem k_X10_many : MF mX10_many := ⟨q_1096, q_44, by decide +kernel, by decide +kernel⟩
abbrev mX10_drum : MI := (RX10, yX10_drum, cX10_drum, 3, (some .int), { frames := 1, cells := 0, slots := 0, locals := 23 })
theorem q_1093 : Cond.code yX10_drum cX10_drum 3 (some .int) ∈ gw := gw_at 1093 (by decide +kernel) (by decide +kernel)
theorem k_X10_drum : MF mX10_drum := ⟨q_1093, q_44, by decide +kernel, by decide +kernel⟩
abbrev mX10_inDrum : MI := (RX10, yX10_inDrum, cX10_inDrum, 4, (some .int), { frames := 2, cells := 0, slots := 0, locals := 43 })
theorem q_1100 : Cond.code yX10_inDrum cX10_inDrum 4 (some .int) ∈ gw := gw_at 1100 (by decide +kernel) (by decide +kernel)
theorem k_X10_inDrum : MF mX10_inDrum := ⟨q_1100, q_44, by decide +kernel, by decide +kernel⟩
abbrev mX10_recall : MI := (RX10, yX10_recall, cX10_recall, 5, (some .int), { frames := 1, cells := 0, slots := 0, locals := 22 })
theorem q_1104 : Cond.code yX10_recall cX10_recall 5 (some .int) ∈ gw := gw_at 1104 (by decide +kernel) (by decide +kernel)
theorem k_X10_recall : MF mX10_recall := ⟨q_1104, q_44, by decide +kernel, by decide +kernel⟩
abbrev mX10_isHue : MI := (RX10, yX10_isHue, cX10_isHue, 1, (some .boolean), { frames := 1, cells := 0, slots := 0, locals := 22 })
theorem q_1111 : Cond.code yX10_isHue cX10_isHue 1 (some .boolean) ∈ gw := gw_at 1111 (by decide +kernel) (by decide +kernel)
theorem k_X10_isHue : MF mX10_isHue := ⟨q_1111, q_44, by decide +kernel, by decide +kernel⟩
abbrev mX10_job : MI := (RX10, yX10_job, cX10_job, 5, (some .int), { frames := 2, cells := 0, slots := 0, locals := 42 })
theorem q_1108 : Cond.code yX10_job cX10_job 5 (some .int) ∈ gw := gw_at 1108 (by decide +kernel) (by decide +kernel)
theorem k_X10_job : MF mX10_job := ⟨q_1108, q_44, by decide +kernel, by decide +kernel⟩
abbrev mX10_cleaning : MI := (RX10, yX10_cleaning, cX10_cleaning, 5, (some .int), { frames := 2, cells := 0, slots := 0, locals := 42 })
theorem q_1115 : Cond.code yX10_cleaning cX10_cleaning 5 (some .int) ∈ gw := gw_at 1115 (by decide +kernel) (by decide +kernel)
theorem k_X10_cleaning : MF mX10_cleaning := ⟨q_1115, q_44, by decide +kernel, by decide +kernel⟩
abbrev mX10_through : MI := (RX10, yX10_through, cX10_through, 6, (some .int), { frames := 0, cells := 0, slots := 0, locals := 0 })
theorem q_1127 : Cond.code yX10_through cX10_through 6 (some .int) ∈ gw := gw_at 1127 (by decide +kernel) (by decide +kernel)
theorem k_X10_through : MF mX10_through := ⟨q_1127, q_44, by decide +kernel, by decide +kernel⟩
abbrev mX10_bestNext : MI := (RX10, yX10_bestNext, cX10_bestNext, 5, (some .int), { frames := 1, cells := 0, slots := 0, locals := 25 })
theorem q_1123 : Cond.code yX10_bestNext cX10_bestNext 5 (some .int) ∈ gw := gw_at 1123 (by decide +kernel) (by decide +kernel)
theorem k_X10_bestNext : MF mX10_bestNext := ⟨q_1123, q_44, by decide +kernel, by decide +kernel⟩
abbrev mX10_plan : MI := (RX10, yX10_plan, cX10_plan, 8, (some .int), { frames := 2, cells := 0, slots := 0, locals := 49 })
theorem q_1119 : Cond.code yX10_plan cX10_plan 8 (some .int) ∈ gw := gw_at 1119 (by decide +kernel) (by decide +kernel)
theorem k_X10_plan : MF mX10_plan := ⟨q_1119, q_44, by decide +kernel, by decide +kernel⟩
abbrev mX10_planned : MI := (RX10, yX10_planned, cX10_planned, 2, (some .int), { frames := 1, cells := 0, slots := 0, locals := 22 })
theorem q_1131 : Cond.code yX10_planned cX10_planned 2 (some .int) ∈ gw := gw_at 1131 (by decide +kernel) (by decide +kernel)
theorem k_X10_planned : MF mX10_planned := ⟨q_1131, q_44, by decide +kernel, by decide +kernel⟩
abbrev mX10_idle : MI := (RX10, yX10_idle, cX10_idle, 2, (some .int), { frames := 0, cells := 0, slots := 0, locals := 0 })
theorem q_1135 : Cond.code yX10_idle cX10_idle 2 (some .int) ∈ gw := gw_at 1135 (by decide +kernel) (by decide +kernel)
theorem k_X10_idle : MF mX10_idle := ⟨q_1135, q_44, by decide +kernel, by decide +kernel⟩
abbrev mX10_count : MI := (RX10, yX10_count, cX10_count, 2, (some .int), { frames := 0, cells := 0, slots := 0, locals := 0 })
theorem q_1139 : Cond.code yX10_count cX10_count 2 (some .int) ∈ gw := gw_at 1139 (by decide +kernel) (by decide +kernel)
theorem k_X10_count : MF mX10_count := ⟨q_1139, q_44, by decide +kernel, by decide +kernel⟩
abbrev mL_law : MI := (RL, x, code, 4, some .boolean, room_1)
-- fields, calls, constants by their places in the pools
theorem q_64 : Cond.fieldLink "ColourWorks$Palette" 9 "ColourWorks$Palette" "absorb" "[I" ∈ gw := gw_at 64 (by decide +kernel) (by decide +kernel)
theorem f_X5_9 : FL RX5 9 5 0 (tyX5 0) true := ⟨RX5, TX5, 3, rfl, by decide, inX5, rfl, rfl, tyX5_ok 0 (by decide), ⟨tyX5, tyX5_ok⟩, nmX5, Or.inl q_64⟩
theorem ff_X5_9 : ∀ (T : u_T) (N : Nat), vwCl[5]? = some (RX5, T, N) → Cond.fieldLink RX5 9 RX5 (T 0).2.1 (T 0).2.2.1 ∈ gw := fun T N hc => by cases hc; exact q_64
theorem z_65 : Cond.fieldLinkNest "ColourWorks$DropSearch" 107 "ColourWorks$Palette" "absorb" "[I" "ColourWorks" ∈ nw := nw_at 65 (by decide +kernel) (by decide +kernel)
theorem f_X2_107 : FL RX2 107 5 0 (tyX5 0) true := ⟨RX5, TX5, 3, rfl, by decide, inX5, rfl, rfl, tyX5_ok 0 (by decide), ⟨tyX5, tyX5_ok⟩, nmX5, Or.inr ⟨"ColourWorks", z_65⟩⟩
theorem q_66 : Cond.fieldLink "ColourWorks$Palette" 15 "ColourWorks$Palette" "scatter" "[I" ∈ gw := gw_at 66 (by decide +kernel) (by decide +kernel)
theorem f_X5_15 : FL RX5 15 5 1 (tyX5 1) true := ⟨RX5, TX5, 3, rfl, by decide, inX5, rfl, rfl, tyX5_ok 1 (by decide), ⟨tyX5, tyX5_ok⟩, nmX5, Or.inl q_66⟩
theorem ff_X5_15 : ∀ (T : u_T) (N : Nat), vwCl[5]? = some (RX5, T, N) → Cond.fieldLink RX5 15 RX5 (T 1).2.1 (T 1).2.2.1 ∈ gw := fun T N hc => by cases hc; exact q_66
theorem z_67 : Cond.fieldLinkNest "ColourWorks$DropSearch" 110 "ColourWorks$Palette" "scatter" "[I" "ColourWorks" ∈ nw := nw_at 67 (by decide +kernel) (by decide +kernel)
theorem f_X2_110 : FL RX2 110 5 1 (tyX5 1) true := ⟨RX5, TX5, 3, rfl, by decide, inX5, rfl, rfl, tyX5_ok 1 (by decide), ⟨tyX5, tyX5_ok⟩, nmX5, Or.inr ⟨"ColourWorks", z_67⟩⟩
theorem q_68 : Cond.fieldLink "ColourWorks$Palette" 18 "ColourWorks$Palette" "size" "I" ∈ gw := gw_at 68 (by decide +kernel) (by decide +kernel)
theorem f_X5_18 : FL RX5 18 5 2 (tyX5 2) false := ⟨RX5, TX5, 3, rfl, by decide, inX5, rfl, rfl, tyX5_ok 2 (by decide), ⟨tyX5, tyX5_ok⟩, nmX5, Or.inl q_68⟩
theorem z_69 : Cond.fieldLinkNest "ColourWorks$DropSearch" 100 "ColourWorks$Palette" "size" "I" "ColourWorks" ∈ nw := nw_at 69 (by decide +kernel) (by decide +kernel)
theorem f_X2_100 : FL RX2 100 5 2 (tyX5 2) false := ⟨RX5, TX5, 3, rfl, by decide, inX5, rfl, rfl, tyX5_ok 2 (by decide), ⟨tyX5, tyX5_ok⟩, nmX5, Or.inr ⟨"ColourWorks", z_69⟩⟩
theorem z_70 : Cond.fieldLinkNest "ColourWorks" 292 "ColourWorks$Palette" "size" "I" "ColourWorks" ∈ nw := nw_at 70 (by decide +kernel) (by decide +kernel)
theorem f_X9_292 : FL RX9 292 5 2 (tyX5 2) false := ⟨RX5, TX5, 3, rfl, by decide, inX5, rfl, rfl, tyX5_ok 2 (by decide), ⟨tyX5, tyX5_ok⟩, nmX5, Or.inr ⟨"ColourWorks", z_70⟩⟩
theorem q_85 : Cond.fieldLink "ColourWorks$Store" 9 "ColourWorks$Store" "baseOf" "[I" ∈ gw := gw_at 85 (by decide +kernel) (by decide +kernel)
theorem f_X7_9 : FL RX7 9 7 0 (tyX7 0) true := ⟨RX7, TX7, 5, rfl, by decide, inX7, rfl, rfl, tyX7_ok 0 (by decide), ⟨tyX7, tyX7_ok⟩, nmX7, Or.inl q_85⟩
theorem ff_X7_9 : ∀ (T : u_T) (N : Nat), vwCl[7]? = some (RX7, T, N) → Cond.fieldLink RX7 9 RX7 (T 0).2.1 (T 0).2.2.1 ∈ gw := fun T N hc => by cases hc; exact q_85
theorem q_86 : Cond.fieldLink "ColourWorks$Store" 15 "ColourWorks$Store" "stock" "[I" ∈ gw := gw_at 86 (by decide +kernel) (by decide +kernel)
theorem f_X7_15 : FL RX7 15 7 1 (tyX7 1) true := ⟨RX7, TX7, 5, rfl, by decide, inX7, rfl, rfl, tyX7_ok 1 (by decide), ⟨tyX7, tyX7_ok⟩, nmX7, Or.inl q_86⟩
theorem ff_X7_15 : ∀ (T : u_T) (N : Nat), vwCl[7]? = some (RX7, T, N) → Cond.fieldLink RX7 15 RX7 (T 1).2.1 (T 1).2.2.1 ∈ gw := fun T N hc => by cases hc; exact q_86
theorem z_87 : Cond.fieldLinkNest "ColourWorks" 105 "ColourWorks$Store" "stock" "[I" "ColourWorks" ∈ nw := nw_at 87 (by decide +kernel) (by decide +kernel)
theorem f_X9_105 : FL RX9 105 7 1 (tyX7 1) true := ⟨RX7, TX7, 5, rfl, by decide, inX7, rfl, rfl, tyX7_ok 1 (by decide), ⟨tyX7, tyX7_ok⟩, nmX7, Or.inr ⟨"ColourWorks", z_87⟩⟩
theorem q_88 : Cond.fieldLink "ColourWorks$Store" 18 "ColourWorks$Store" "lastDay" "[I" ∈ gw := gw_at 88 (by decide +kernel) (by decide +kernel)
theorem f_X7_18 : FL RX7 18 7 2 (tyX7 2) true := ⟨RX7, TX7, 5, rfl, by decide, inX7, rfl, rfl, tyX7_ok 2 (by decide), ⟨tyX7, tyX7_ok⟩, nmX7, Or.inl q_88⟩
theorem ff_X7_18 : ∀ (T : u_T) (N : Nat), vwCl[7]? = some (RX7, T, N) → Cond.fieldLink RX7 18 RX7 (T 2).2.1 (T 2).2.2.1 ∈ gw := fun T N hc => by cases hc; exact q_88
theorem q_89 : Cond.fieldLink "ColourWorks$Store" 21 "ColourWorks$Store" "size" "I" ∈ gw := gw_at 89 (by decide +kernel) (by decide +kernel)
theorem f_X7_21 : FL RX7 21 7 3 (tyX7 3) false := ⟨RX7, TX7, 5, rfl, by decide, inX7, rfl, rfl, tyX7_ok 3 (by decide), ⟨tyX7, tyX7_ok⟩, nmX7, Or.inl q_89⟩
theorem z_90 : Cond.fieldLinkNest "ColourWorks" 293 "ColourWorks$Store" "size" "I" "ColourWorks" ∈ nw := nw_at 90 (by decide +kernel) (by decide +kernel)
theorem f_X9_293 : FL RX9 293 7 3 (tyX7 3) false := ⟨RX7, TX7, 5, rfl, by decide, inX7, rfl, rfl, tyX7_ok 3 (by decide), ⟨tyX7, tyX7_ok⟩, nmX7, Or.inr ⟨"ColourWorks", z_90⟩⟩
theorem q_91 : Cond.fieldLink "ColourWorks$Store" 25 "ColourWorks$Store" "today" "I" ∈ gw := gw_at 91 (by decide +kernel) (by decide +kernel)
theorem f_X7_25 : FL RX7 25 7 4 (tyX7 4) false := ⟨RX7, TX7, 5, rfl, by decide, inX7, rfl, rfl, tyX7_ok 4 (by decide), ⟨tyX7, tyX7_ok⟩, nmX7, Or.inl q_91⟩
theorem z_92 : Cond.fieldLinkNest "ColourWorks" 112 "ColourWorks$Store" "today" "I" "ColourWorks" ∈ nw := nw_at 92 (by decide +kernel) (by decide +kernel)
theorem f_X9_112 : FL RX9 112 7 4 (tyX7 4) false := ⟨RX7, TX7, 5, rfl, by decide, inX7, rfl, rfl, tyX7_ok 4 (by decide), ⟨tyX7, tyX7_ok⟩, nmX7, Or.inr ⟨"ColourWorks", z_92⟩⟩
theorem q_110 : Cond.fieldLink "ColourWorks$Cookbook" 9 "ColourWorks$Cookbook" "ofElder" "[Z" ∈ gw := gw_at 110 (by decide +kernel) (by decide +kernel)
theorem f_X1_9 : FL RX1 9 1 0 (tyX1 0) true := ⟨RX1, TX1, 7, rfl, by decide, inX1, rfl, rfl, tyX1_ok 0 (by decide), ⟨tyX1, tyX1_ok⟩, nmX1, Or.inl q_110⟩
theorem ff_X1_9 : ∀ (T : u_T) (N : Nat), vwCl[1]? = some (RX1, T, N) → Cond.fieldLink RX1 9 RX1 (T 0).2.1 (T 0).2.2.1 ∈ gw := fun T N hc => by cases hc; exact q_110
theorem q_111 : Cond.fieldLink "ColourWorks$Cookbook" 15 "ColourWorks$Cookbook" "source" "[I" ∈ gw := gw_at 111 (by decide +kernel) (by decide +kernel)
theorem f_X1_15 : FL RX1 15 1 1 (tyX1 1) true := ⟨RX1, TX1, 7, rfl, by decide, inX1, rfl, rfl, tyX1_ok 1 (by decide), ⟨tyX1, tyX1_ok⟩, nmX1, Or.inl q_111⟩
theorem ff_X1_15 : ∀ (T : u_T) (N : Nat), vwCl[1]? = some (RX1, T, N) → Cond.fieldLink RX1 15 RX1 (T 1).2.1 (T 1).2.2.1 ∈ gw := fun T N hc => by cases hc; exact q_111
theorem q_112 : Cond.fieldLink "ColourWorks$Cookbook" 19 "ColourWorks$Cookbook" "times" "[I" ∈ gw := gw_at 112 (by decide +kernel) (by decide +kernel)
theorem f_X1_19 : FL RX1 19 1 2 (tyX1 2) true := ⟨RX1, TX1, 7, rfl, by decide, inX1, rfl, rfl, tyX1_ok 2 (by decide), ⟨tyX1, tyX1_ok⟩, nmX1, Or.inl q_112⟩
theorem ff_X1_19 : ∀ (T : u_T) (N : Nat), vwCl[1]? = some (RX1, T, N) → Cond.fieldLink RX1 19 RX1 (T 2).2.1 (T 2).2.2.1 ∈ gw := fun T N hc => by cases hc; exact q_112
theorem q_113 : Cond.fieldLink "ColourWorks$Cookbook" 22 "ColourWorks$Cookbook" "partCount" "[I" ∈ gw := gw_at 113 (by decide +kernel) (by decide +kernel)
theorem f_X1_22 : FL RX1 22 1 3 (tyX1 3) true := ⟨RX1, TX1, 7, rfl, by decide, inX1, rfl, rfl, tyX1_ok 3 (by decide), ⟨tyX1, tyX1_ok⟩, nmX1, Or.inl q_113⟩
theorem ff_X1_22 : ∀ (T : u_T) (N : Nat), vwCl[1]? = some (RX1, T, N) → Cond.fieldLink RX1 22 RX1 (T 3).2.1 (T 3).2.2.1 ∈ gw := fun T N hc => by cases hc; exact q_113
theorem q_114 : Cond.fieldLink "ColourWorks$Cookbook" 25 "ColourWorks$Cookbook" "needs" "[I" ∈ gw := gw_at 114 (by decide +kernel) (by decide +kernel)
theorem f_X1_25 : FL RX1 25 1 4 (tyX1 4) true := ⟨RX1, TX1, 7, rfl, by decide, inX1, rfl, rfl, tyX1_ok 4 (by decide), ⟨tyX1, tyX1_ok⟩, nmX1, Or.inl q_114⟩
theorem ff_X1_25 : ∀ (T : u_T) (N : Nat), vwCl[1]? = some (RX1, T, N) → Cond.fieldLink RX1 25 RX1 (T 4).2.1 (T 4).2.2.1 ∈ gw := fun T N hc => by cases hc; exact q_114
theorem q_115 : Cond.fieldLink "ColourWorks$Cookbook" 28 "ColourWorks$Cookbook" "trial" "[I" ∈ gw := gw_at 115 (by decide +kernel) (by decide +kernel)
theorem f_X1_28 : FL RX1 28 1 5 (tyX1 5) true := ⟨RX1, TX1, 7, rfl, by decide, inX1, rfl, rfl, tyX1_ok 5 (by decide), ⟨tyX1, tyX1_ok⟩, nmX1, Or.inl q_115⟩
theorem ff_X1_28 : ∀ (T : u_T) (N : Nat), vwCl[1]? = some (RX1, T, N) → Cond.fieldLink RX1 28 RX1 (T 5).2.1 (T 5).2.2.1 ∈ gw := fun T N hc => by cases hc; exact q_115
theorem q_116 : Cond.fieldLink "ColourWorks$Cookbook" 31 "ColourWorks$Cookbook" "size" "I" ∈ gw := gw_at 116 (by decide +kernel) (by decide +kernel)
theorem f_X1_31 : FL RX1 31 1 6 (tyX1 6) false := ⟨RX1, TX1, 7, rfl, by decide, inX1, rfl, rfl, tyX1_ok 6 (by decide), ⟨tyX1, tyX1_ok⟩, nmX1, Or.inl q_116⟩
theorem z_117 : Cond.fieldLinkNest "ColourWorks" 294 "ColourWorks$Cookbook" "size" "I" "ColourWorks" ∈ nw := nw_at 117 (by decide +kernel) (by decide +kernel)
theorem f_X9_294 : FL RX9 294 1 6 (tyX1 6) false := ⟨RX1, TX1, 7, rfl, by decide, inX1, rfl, rfl, tyX1_ok 6 (by decide), ⟨tyX1, tyX1_ok⟩, nmX1, Or.inr ⟨"ColourWorks", z_117⟩⟩
theorem q_142 : Cond.fieldLink "ColourWorks$DropSearch" 9 "ColourWorks$DropSearch" "best" "[I" ∈ gw := gw_at 142 (by decide +kernel) (by decide +kernel)
theorem f_X2_9 : FL RX2 9 2 0 (tyX2 0) true := ⟨RX2, TX2, 11, rfl, by decide, inX2, rfl, rfl, tyX2_ok 0 (by decide), ⟨tyX2, tyX2_ok⟩, nmX2, Or.inl q_142⟩
theorem ff_X2_9 : ∀ (T : u_T) (N : Nat), vwCl[2]? = some (RX2, T, N) → Cond.fieldLink RX2 9 RX2 (T 0).2.1 (T 0).2.2.1 ∈ gw := fun T N hc => by cases hc; exact q_142
theorem z_143 : Cond.fieldLinkNest "ColourWorks" 171 "ColourWorks$DropSearch" "best" "[I" "ColourWorks" ∈ nw := nw_at 143 (by decide +kernel) (by decide +kernel)
theorem f_X9_171 : FL RX9 171 2 0 (tyX2 0) true := ⟨RX2, TX2, 11, rfl, by decide, inX2, rfl, rfl, tyX2_ok 0 (by decide), ⟨tyX2, tyX2_ok⟩, nmX2, Or.inr ⟨"ColourWorks", z_143⟩⟩
theorem q_144 : Cond.fieldLink "ColourWorks$DropSearch" 15 "ColourWorks$DropSearch" "hasFound" "Z" ∈ gw := gw_at 144 (by decide +kernel) (by decide +kernel)
theorem f_X2_15 : FL RX2 15 2 1 (tyX2 1) false := ⟨RX2, TX2, 11, rfl, by decide, inX2, rfl, rfl, tyX2_ok 1 (by decide), ⟨tyX2, tyX2_ok⟩, nmX2, Or.inl q_144⟩
theorem z_145 : Cond.fieldLinkNest "ColourWorks" 174 "ColourWorks$DropSearch" "hasFound" "Z" "ColourWorks" ∈ nw := nw_at 145 (by decide +kernel) (by decide +kernel)
theorem f_X9_174 : FL RX9 174 2 1 (tyX2 1) false := ⟨RX2, TX2, 11, rfl, by decide, inX2, rfl, rfl, tyX2_ok 1 (by decide), ⟨tyX2, tyX2_ok⟩, nmX2, Or.inr ⟨"ColourWorks", z_145⟩⟩
theorem q_146 : Cond.fieldLink "ColourWorks$DropSearch" 19 "ColourWorks$DropSearch" "bestMiss" "I" ∈ gw := gw_at 146 (by decide +kernel) (by decide +kernel)
theorem f_X2_19 : FL RX2 19 2 2 (tyX2 2) false := ⟨RX2, TX2, 11, rfl, by decide, inX2, rfl, rfl, tyX2_ok 2 (by decide), ⟨tyX2, tyX2_ok⟩, nmX2, Or.inl q_146⟩
theorem q_147 : Cond.fieldLink "ColourWorks$DropSearch" 23 "ColourWorks$DropSearch" "bestUnits" "I" ∈ gw := gw_at 147 (by decide +kernel) (by decide +kernel)
theorem f_X2_23 : FL RX2 23 2 3 (tyX2 3) false := ⟨RX2, TX2, 11, rfl, by decide, inX2, rfl, rfl, tyX2_ok 3 (by decide), ⟨tyX2, tyX2_ok⟩, nmX2, Or.inl q_147⟩
theorem q_148 : Cond.fieldLink "ColourWorks$DropSearch" 26 "ColourWorks$DropSearch" "aim" "[I" ∈ gw := gw_at 148 (by decide +kernel) (by decide +kernel)
theorem f_X2_26 : FL RX2 26 2 4 (tyX2 4) true := ⟨RX2, TX2, 11, rfl, by decide, inX2, rfl, rfl, tyX2_ok 4 (by decide), ⟨tyX2, tyX2_ok⟩, nmX2, Or.inl q_148⟩
theorem ff_X2_26 : ∀ (T : u_T) (N : Nat), vwCl[2]? = some (RX2, T, N) → Cond.fieldLink RX2 26 RX2 (T 4).2.1 (T 4).2.2.1 ∈ gw := fun T N hc => by cases hc; exact q_148
theorem q_149 : Cond.fieldLink "ColourWorks$DropSearch" 29 "ColourWorks$DropSearch" "caps" "[I" ∈ gw := gw_at 149 (by decide +kernel) (by decide +kernel)
theorem f_X2_29 : FL RX2 29 2 5 (tyX2 5) true := ⟨RX2, TX2, 11, rfl, by decide, inX2, rfl, rfl, tyX2_ok 5 (by decide), ⟨tyX2, tyX2_ok⟩, nmX2, Or.inl q_149⟩
theorem ff_X2_29 : ∀ (T : u_T) (N : Nat), vwCl[2]? = some (RX2, T, N) → Cond.fieldLink RX2 29 RX2 (T 5).2.1 (T 5).2.2.1 ∈ gw := fun T N hc => by cases hc; exact q_149
theorem q_150 : Cond.fieldLink "ColourWorks$DropSearch" 32 "ColourWorks$DropSearch" "trial" "[I" ∈ gw := gw_at 150 (by decide +kernel) (by decide +kernel)
theorem f_X2_32 : FL RX2 32 2 6 (tyX2 6) true := ⟨RX2, TX2, 11, rfl, by decide, inX2, rfl, rfl, tyX2_ok 6 (by decide), ⟨tyX2, tyX2_ok⟩, nmX2, Or.inl q_150⟩
theorem ff_X2_32 : ∀ (T : u_T) (N : Nat), vwCl[2]? = some (RX2, T, N) → Cond.fieldLink RX2 32 RX2 (T 6).2.1 (T 6).2.2.1 ∈ gw := fun T N hc => by cases hc; exact q_150
theorem q_151 : Cond.fieldLink "ColourWorks$DropSearch" 35 "ColourWorks$DropSearch" "trialUnits" "I" ∈ gw := gw_at 151 (by decide +kernel) (by decide +kernel)
theorem f_X2_35 : FL RX2 35 2 7 (tyX2 7) false := ⟨RX2, TX2, 11, rfl, by decide, inX2, rfl, rfl, tyX2_ok 7 (by decide), ⟨tyX2, tyX2_ok⟩, nmX2, Or.inl q_151⟩
theorem q_152 : Cond.fieldLink "ColourWorks$DropSearch" 38 "ColourWorks$DropSearch" "room" "I" ∈ gw := gw_at 152 (by decide +kernel) (by decide +kernel)
theorem f_X2_38 : FL RX2 38 2 8 (tyX2 8) false := ⟨RX2, TX2, 11, rfl, by decide, inX2, rfl, rfl, tyX2_ok 8 (by decide), ⟨tyX2, tyX2_ok⟩, nmX2, Or.inl q_152⟩
theorem q_153 : Cond.fieldLink "ColourWorks$DropSearch" 41 "ColourWorks$DropSearch" "absorbed" "[J" ∈ gw := gw_at 153 (by decide +kernel) (by decide +kernel)
theorem f_X2_41 : FL RX2 41 2 9 (tyX2 9) true := ⟨RX2, TX2, 11, rfl, by decide, inX2, rfl, rfl, tyX2_ok 9 (by decide), ⟨tyX2, tyX2_ok⟩, nmX2, Or.inl q_153⟩
theorem ff_X2_41 : ∀ (T : u_T) (N : Nat), vwCl[2]? = some (RX2, T, N) → Cond.fieldLink RX2 41 RX2 (T 9).2.1 (T 9).2.2.1 ∈ gw := fun T N hc => by cases hc; exact q_153
theorem q_154 : Cond.fieldLink "ColourWorks$DropSearch" 45 "ColourWorks$DropSearch" "scattered" "[J" ∈ gw := gw_at 154 (by decide +kernel) (by decide +kernel)
theorem f_X2_45 : FL RX2 45 2 10 (tyX2 10) true := ⟨RX2, TX2, 11, rfl, by decide, inX2, rfl, rfl, tyX2_ok 10 (by decide), ⟨tyX2, tyX2_ok⟩, nmX2, Or.inl q_154⟩
theorem ff_X2_45 : ∀ (T : u_T) (N : Nat), vwCl[2]? = some (RX2, T, N) → Cond.fieldLink RX2 45 RX2 (T 10).2.1 (T 10).2.2.1 ∈ gw := fun T N hc => by cases hc; exact q_154
theorem q_187 : Cond.fieldLink "ColourWorks$DrumYard" 9 "ColourWorks$DrumYard" "units" "[I" ∈ gw := gw_at 187 (by decide +kernel) (by decide +kernel)
theorem f_X3_9 : FL RX3 9 3 0 (tyX3 0) true := ⟨RX3, TX3, 6, rfl, by decide, inX3, rfl, rfl, tyX3_ok 0 (by decide), ⟨tyX3, tyX3_ok⟩, nmX3, Or.inl q_187⟩
theorem ff_X3_9 : ∀ (T : u_T) (N : Nat), vwCl[3]? = some (RX3, T, N) → Cond.fieldLink RX3 9 RX3 (T 0).2.1 (T 0).2.2.1 ∈ gw := fun T N hc => by cases hc; exact q_187
theorem z_188 : Cond.fieldLinkNest "ColourWorks" 236 "ColourWorks$DrumYard" "units" "[I" "ColourWorks" ∈ nw := nw_at 188 (by decide +kernel) (by decide +kernel)
theorem f_X9_236 : FL RX9 236 3 0 (tyX3 0) true := ⟨RX3, TX3, 6, rfl, by decide, inX3, rfl, rfl, tyX3_ok 0 (by decide), ⟨tyX3, tyX3_ok⟩, nmX3, Or.inr ⟨"ColourWorks", z_188⟩⟩
theorem q_189 : Cond.fieldLink "ColourWorks$DrumYard" 15 "ColourWorks$DrumYard" "fromTank" "[I" ∈ gw := gw_at 189 (by decide +kernel) (by decide +kernel)
theorem f_X3_15 : FL RX3 15 3 1 (tyX3 1) true := ⟨RX3, TX3, 6, rfl, by decide, inX3, rfl, rfl, tyX3_ok 1 (by decide), ⟨tyX3, tyX3_ok⟩, nmX3, Or.inl q_189⟩
theorem ff_X3_15 : ∀ (T : u_T) (N : Nat), vwCl[3]? = some (RX3, T, N) → Cond.fieldLink RX3 15 RX3 (T 1).2.1 (T 1).2.2.1 ∈ gw := fun T N hc => by cases hc; exact q_189
theorem z_190 : Cond.fieldLinkNest "ColourWorks" 238 "ColourWorks$DrumYard" "fromTank" "[I" "ColourWorks" ∈ nw := nw_at 190 (by decide +kernel) (by decide +kernel)
theorem f_X9_238 : FL RX9 238 3 1 (tyX3 1) true := ⟨RX3, TX3, 6, rfl, by decide, inX3, rfl, rfl, tyX3_ok 1 (by decide), ⟨tyX3, tyX3_ok⟩, nmX3, Or.inr ⟨"ColourWorks", z_190⟩⟩
theorem q_191 : Cond.fieldLink "ColourWorks$DrumYard" 18 "ColourWorks$DrumYard" "filledOn" "[I" ∈ gw := gw_at 191 (by decide +kernel) (by decide +kernel)
theorem f_X3_18 : FL RX3 18 3 2 (tyX3 2) true := ⟨RX3, TX3, 6, rfl, by decide, inX3, rfl, rfl, tyX3_ok 2 (by decide), ⟨tyX3, tyX3_ok⟩, nmX3, Or.inl q_191⟩
theorem ff_X3_18 : ∀ (T : u_T) (N : Nat), vwCl[3]? = some (RX3, T, N) → Cond.fieldLink RX3 18 RX3 (T 2).2.1 (T 2).2.2.1 ∈ gw := fun T N hc => by cases hc; exact q_191
theorem z_192 : Cond.fieldLinkNest "ColourWorks" 241 "ColourWorks$DrumYard" "filledOn" "[I" "ColourWorks" ∈ nw := nw_at 192 (by decide +kernel) (by decide +kernel)
theorem f_X9_241 : FL RX9 241 3 2 (tyX3 2) true := ⟨RX3, TX3, 6, rfl, by decide, inX3, rfl, rfl, tyX3_ok 2 (by decide), ⟨tyX3, tyX3_ok⟩, nmX3, Or.inr ⟨"ColourWorks", z_192⟩⟩
theorem q_193 : Cond.fieldLink "ColourWorks$DrumYard" 21 "ColourWorks$DrumYard" "batches" "[I" ∈ gw := gw_at 193 (by decide +kernel) (by decide +kernel)
theorem f_X3_21 : FL RX3 21 3 3 (tyX3 3) true := ⟨RX3, TX3, 6, rfl, by decide, inX3, rfl, rfl, tyX3_ok 3 (by decide), ⟨tyX3, tyX3_ok⟩, nmX3, Or.inl q_193⟩
theorem ff_X3_21 : ∀ (T : u_T) (N : Nat), vwCl[3]? = some (RX3, T, N) → Cond.fieldLink RX3 21 RX3 (T 3).2.1 (T 3).2.2.1 ∈ gw := fun T N hc => by cases hc; exact q_193
theorem z_194 : Cond.fieldLinkNest "ColourWorks" 244 "ColourWorks$DrumYard" "batches" "[I" "ColourWorks" ∈ nw := nw_at 194 (by decide +kernel) (by decide +kernel)
theorem f_X9_244 : FL RX9 244 3 3 (tyX3 3) true := ⟨RX3, TX3, 6, rfl, by decide, inX3, rfl, rfl, tyX3_ok 3 (by decide), ⟨tyX3, tyX3_ok⟩, nmX3, Or.inr ⟨"ColourWorks", z_194⟩⟩
theorem q_195 : Cond.fieldLink "ColourWorks$DrumYard" 24 "ColourWorks$DrumYard" "lots" "[J" ∈ gw := gw_at 195 (by decide +kernel) (by decide +kernel)
theorem f_X3_24 : FL RX3 24 3 4 (tyX3 4) true := ⟨RX3, TX3, 6, rfl, by decide, inX3, rfl, rfl, tyX3_ok 4 (by decide), ⟨tyX3, tyX3_ok⟩, nmX3, Or.inl q_195⟩
theorem ff_X3_24 : ∀ (T : u_T) (N : Nat), vwCl[3]? = some (RX3, T, N) → Cond.fieldLink RX3 24 RX3 (T 4).2.1 (T 4).2.2.1 ∈ gw := fun T N hc => by cases hc; exact q_195
theorem z_196 : Cond.fieldLinkNest "ColourWorks" 251 "ColourWorks$DrumYard" "lots" "[J" "ColourWorks" ∈ nw := nw_at 196 (by decide +kernel) (by decide +kernel)
theorem f_X9_251 : FL RX9 251 3 4 (tyX3 4) true := ⟨RX3, TX3, 6, rfl, by decide, inX3, rfl, rfl, tyX3_ok 4 (by decide), ⟨tyX3, tyX3_ok⟩, nmX3, Or.inr ⟨"ColourWorks", z_196⟩⟩
theorem q_197 : Cond.fieldLink "ColourWorks$DrumYard" 28 "ColourWorks$DrumYard" "size" "I" ∈ gw := gw_at 197 (by decide +kernel) (by decide +kernel)
theorem f_X3_28 : FL RX3 28 3 5 (tyX3 5) false := ⟨RX3, TX3, 6, rfl, by decide, inX3, rfl, rfl, tyX3_ok 5 (by decide), ⟨tyX3, tyX3_ok⟩, nmX3, Or.inl q_197⟩
theorem z_198 : Cond.fieldLinkNest "ColourWorks" 295 "ColourWorks$DrumYard" "size" "I" "ColourWorks" ∈ nw := nw_at 198 (by decide +kernel) (by decide +kernel)
theorem f_X9_295 : FL RX9 295 3 5 (tyX3 5) false := ⟨RX3, TX3, 6, rfl, by decide, inX3, rfl, rfl, tyX3_ok 5 (by decide), ⟨tyX3, tyX3_ok⟩, nmX3, Or.inr ⟨"ColourWorks", z_198⟩⟩
theorem q_218 : Cond.fieldLink "ColourWorks$Schedule" 9 "ColourWorks$Schedule" "hueOf" "[I" ∈ gw := gw_at 218 (by decide +kernel) (by decide +kernel)
theorem f_X6_9 : FL RX6 9 6 0 (tyX6 0) true := ⟨RX6, TX6, 9, rfl, by decide, inX6, rfl, rfl, tyX6_ok 0 (by decide), ⟨tyX6, tyX6_ok⟩, nmX6, Or.inl q_218⟩
theorem ff_X6_9 : ∀ (T : u_T) (N : Nat), vwCl[6]? = some (RX6, T, N) → Cond.fieldLink RX6 9 RX6 (T 0).2.1 (T 0).2.2.1 ∈ gw := fun T N hc => by cases hc; exact q_218
theorem q_219 : Cond.fieldLink "ColourWorks$Schedule" 15 "ColourWorks$Schedule" "timeOf" "[I" ∈ gw := gw_at 219 (by decide +kernel) (by decide +kernel)
theorem f_X6_15 : FL RX6 15 6 1 (tyX6 1) true := ⟨RX6, TX6, 9, rfl, by decide, inX6, rfl, rfl, tyX6_ok 1 (by decide), ⟨tyX6, tyX6_ok⟩, nmX6, Or.inl q_219⟩
theorem ff_X6_15 : ∀ (T : u_T) (N : Nat), vwCl[6]? = some (RX6, T, N) → Cond.fieldLink RX6 15 RX6 (T 1).2.1 (T 1).2.2.1 ∈ gw := fun T N hc => by cases hc; exact q_219
theorem q_220 : Cond.fieldLink "ColourWorks$Schedule" 18 "ColourWorks$Schedule" "dueOf" "[I" ∈ gw := gw_at 220 (by decide +kernel) (by decide +kernel)
theorem f_X6_18 : FL RX6 18 6 2 (tyX6 2) true := ⟨RX6, TX6, 9, rfl, by decide, inX6, rfl, rfl, tyX6_ok 2 (by decide), ⟨tyX6, tyX6_ok⟩, nmX6, Or.inl q_220⟩
theorem ff_X6_18 : ∀ (T : u_T) (N : Nat), vwCl[6]? = some (RX6, T, N) → Cond.fieldLink RX6 18 RX6 (T 2).2.1 (T 2).2.2.1 ∈ gw := fun T N hc => by cases hc; exact q_220
theorem q_221 : Cond.fieldLink "ColourWorks$Schedule" 21 "ColourWorks$Schedule" "priceOf" "[I" ∈ gw := gw_at 221 (by decide +kernel) (by decide +kernel)
theorem f_X6_21 : FL RX6 21 6 3 (tyX6 3) true := ⟨RX6, TX6, 9, rfl, by decide, inX6, rfl, rfl, tyX6_ok 3 (by decide), ⟨tyX6, tyX6_ok⟩, nmX6, Or.inl q_221⟩
theorem ff_X6_21 : ∀ (T : u_T) (N : Nat), vwCl[6]? = some (RX6, T, N) → Cond.fieldLink RX6 21 RX6 (T 3).2.1 (T 3).2.2.1 ∈ gw := fun T N hc => by cases hc; exact q_221
theorem q_222 : Cond.fieldLink "ColourWorks$Schedule" 24 "ColourWorks$Schedule" "size" "I" ∈ gw := gw_at 222 (by decide +kernel) (by decide +kernel)
theorem f_X6_24 : FL RX6 24 6 4 (tyX6 4) false := ⟨RX6, TX6, 9, rfl, by decide, inX6, rfl, rfl, tyX6_ok 4 (by decide), ⟨tyX6, tyX6_ok⟩, nmX6, Or.inl q_222⟩
theorem z_223 : Cond.fieldLinkNest "ColourWorks" 291 "ColourWorks$Schedule" "size" "I" "ColourWorks" ∈ nw := nw_at 223 (by decide +kernel) (by decide +kernel)
theorem f_X9_291 : FL RX9 291 6 4 (tyX6 4) false := ⟨RX6, TX6, 9, rfl, by decide, inX6, rfl, rfl, tyX6_ok 4 (by decide), ⟨tyX6, tyX6_ok⟩, nmX6, Or.inr ⟨"ColourWorks", z_223⟩⟩
theorem q_224 : Cond.fieldLink "ColourWorks$Schedule" 28 "ColourWorks$Schedule" "changes" "[I" ∈ gw := gw_at 224 (by decide +kernel) (by decide +kernel)
theorem f_X6_28 : FL RX6 28 6 5 (tyX6 5) true := ⟨RX6, TX6, 9, rfl, by decide, inX6, rfl, rfl, tyX6_ok 5 (by decide), ⟨tyX6, tyX6_ok⟩, nmX6, Or.inl q_224⟩
theorem ff_X6_28 : ∀ (T : u_T) (N : Nat), vwCl[6]? = some (RX6, T, N) → Cond.fieldLink RX6 28 RX6 (T 5).2.1 (T 5).2.2.1 ∈ gw := fun T N hc => by cases hc; exact q_224
theorem q_225 : Cond.fieldLink "ColourWorks$Schedule" 31 "ColourWorks$Schedule" "costAhead" "[I" ∈ gw := gw_at 225 (by decide +kernel) (by decide +kernel)
theorem f_X6_31 : FL RX6 31 6 6 (tyX6 6) true := ⟨RX6, TX6, 9, rfl, by decide, inX6, rfl, rfl, tyX6_ok 6 (by decide), ⟨tyX6, tyX6_ok⟩, nmX6, Or.inl q_225⟩
theorem ff_X6_31 : ∀ (T : u_T) (N : Nat), vwCl[6]? = some (RX6, T, N) → Cond.fieldLink RX6 31 RX6 (T 6).2.1 (T 6).2.2.1 ∈ gw := fun T N hc => by cases hc; exact q_225
theorem q_226 : Cond.fieldLink "ColourWorks$Schedule" 34 "ColourWorks$Schedule" "order" "[I" ∈ gw := gw_at 226 (by decide +kernel) (by decide +kernel)
theorem f_X6_34 : FL RX6 34 6 7 (tyX6 7) true := ⟨RX6, TX6, 9, rfl, by decide, inX6, rfl, rfl, tyX6_ok 7 (by decide), ⟨tyX6, tyX6_ok⟩, nmX6, Or.inl q_226⟩
theorem ff_X6_34 : ∀ (T : u_T) (N : Nat), vwCl[6]? = some (RX6, T, N) → Cond.fieldLink RX6 34 RX6 (T 7).2.1 (T 7).2.2.1 ∈ gw := fun T N hc => by cases hc; exact q_226
theorem z_227 : Cond.fieldLinkNest "ColourWorks" 288 "ColourWorks$Schedule" "order" "[I" "ColourWorks" ∈ nw := nw_at 227 (by decide +kernel) (by decide +kernel)
theorem f_X9_288 : FL RX9 288 6 7 (tyX6 7) true := ⟨RX6, TX6, 9, rfl, by decide, inX6, rfl, rfl, tyX6_ok 7 (by decide), ⟨tyX6, tyX6_ok⟩, nmX6, Or.inr ⟨"ColourWorks", z_227⟩⟩
theorem q_228 : Cond.fieldLink "ColourWorks$Schedule" 37 "ColourWorks$Schedule" "places" "I" ∈ gw := gw_at 228 (by decide +kernel) (by decide +kernel)
theorem f_X6_37 : FL RX6 37 6 8 (tyX6 8) false := ⟨RX6, TX6, 9, rfl, by decide, inX6, rfl, rfl, tyX6_ok 8 (by decide), ⟨tyX6, tyX6_ok⟩, nmX6, Or.inl q_228⟩
theorem z_229 : Cond.fieldLinkNest "ColourWorks" 285 "ColourWorks$Schedule" "places" "I" "ColourWorks" ∈ nw := nw_at 229 (by decide +kernel) (by decide +kernel)
theorem f_X9_285 : FL RX9 285 6 8 (tyX6 8) false := ⟨RX6, TX6, 9, rfl, by decide, inX6, rfl, rfl, tyX6_ok 8 (by decide), ⟨tyX6, tyX6_ok⟩, nmX6, Or.inr ⟨"ColourWorks", z_229⟩⟩
theorem q_260 : Cond.fieldLink "ColourWorks$Mix" 9 "ColourWorks$Mix" "amounts" "[I" ∈ gw := gw_at 260 (by decide +kernel) (by decide +kernel)
theorem f_X4_9 : FL RX4 9 4 0 (tyX4 0) true := ⟨RX4, TX4, 3, rfl, by decide, inX4, rfl, rfl, tyX4_ok 0 (by decide), ⟨tyX4, tyX4_ok⟩, nmX4, Or.inl q_260⟩
theorem ff_X4_9 : ∀ (T : u_T) (N : Nat), vwCl[4]? = some (RX4, T, N) → Cond.fieldLink RX4 9 RX4 (T 0).2.1 (T 0).2.2.1 ∈ gw := fun T N hc => by cases hc; exact q_260
theorem z_261 : Cond.fieldLinkNest "ColourWorks$Palette" 26 "ColourWorks$Mix" "amounts" "[I" "ColourWorks" ∈ nw := nw_at 261 (by decide +kernel) (by decide +kernel)
theorem f_X5_26 : FL RX5 26 4 0 (tyX4 0) true := ⟨RX4, TX4, 3, rfl, by decide, inX4, rfl, rfl, tyX4_ok 0 (by decide), ⟨tyX4, tyX4_ok⟩, nmX4, Or.inr ⟨"ColourWorks", z_261⟩⟩
theorem z_262 : Cond.fieldLinkNest "ColourWorks" 183 "ColourWorks$Mix" "amounts" "[I" "ColourWorks" ∈ nw := nw_at 262 (by decide +kernel) (by decide +kernel)
theorem f_X9_183 : FL RX9 183 4 0 (tyX4 0) true := ⟨RX4, TX4, 3, rfl, by decide, inX4, rfl, rfl, tyX4_ok 0 (by decide), ⟨tyX4, tyX4_ok⟩, nmX4, Or.inr ⟨"ColourWorks", z_262⟩⟩
theorem q_263 : Cond.fieldLink "ColourWorks$Mix" 15 "ColourWorks$Mix" "units" "I" ∈ gw := gw_at 263 (by decide +kernel) (by decide +kernel)
theorem f_X4_15 : FL RX4 15 4 1 (tyX4 1) false := ⟨RX4, TX4, 3, rfl, by decide, inX4, rfl, rfl, tyX4_ok 1 (by decide), ⟨tyX4, tyX4_ok⟩, nmX4, Or.inl q_263⟩
theorem z_264 : Cond.fieldLinkNest "ColourWorks$DropSearch" 48 "ColourWorks$Mix" "units" "I" "ColourWorks" ∈ nw := nw_at 264 (by decide +kernel) (by decide +kernel)
theorem f_X2_48 : FL RX2 48 4 1 (tyX4 1) false := ⟨RX4, TX4, 3, rfl, by decide, inX4, rfl, rfl, tyX4_ok 1 (by decide), ⟨tyX4, tyX4_ok⟩, nmX4, Or.inr ⟨"ColourWorks", z_264⟩⟩
theorem z_265 : Cond.fieldLinkNest "ColourWorks$Tank" 54 "ColourWorks$Mix" "units" "I" "ColourWorks" ∈ nw := nw_at 265 (by decide +kernel) (by decide +kernel)
theorem f_X8_54 : FL RX8 54 4 1 (tyX4 1) false := ⟨RX4, TX4, 3, rfl, by decide, inX4, rfl, rfl, tyX4_ok 1 (by decide), ⟨tyX4, tyX4_ok⟩, nmX4, Or.inr ⟨"ColourWorks", z_265⟩⟩
theorem z_266 : Cond.fieldLinkNest "ColourWorks" 154 "ColourWorks$Mix" "units" "I" "ColourWorks" ∈ nw := nw_at 266 (by decide +kernel) (by decide +kernel)
theorem f_X9_154 : FL RX9 154 4 1 (tyX4 1) false := ⟨RX4, TX4, 3, rfl, by decide, inX4, rfl, rfl, tyX4_ok 1 (by decide), ⟨tyX4, tyX4_ok⟩, nmX4, Or.inr ⟨"ColourWorks", z_266⟩⟩
theorem q_267 : Cond.fieldLink "ColourWorks$Mix" 19 "ColourWorks$Mix" "lots" "J" ∈ gw := gw_at 267 (by decide +kernel) (by decide +kernel)
theorem f_X4_19 : FL RX4 19 4 2 (tyX4 2) false := ⟨RX4, TX4, 3, rfl, by decide, inX4, rfl, rfl, tyX4_ok 2 (by decide), ⟨tyX4, tyX4_ok⟩, nmX4, Or.inl q_267⟩
theorem z_268 : Cond.fieldLinkNest "ColourWorks$DrumYard" 40 "ColourWorks$Mix" "lots" "J" "ColourWorks" ∈ nw := nw_at 268 (by decide +kernel) (by decide +kernel)
theorem f_X3_40 : FL RX3 40 4 2 (tyX4 2) false := ⟨RX4, TX4, 3, rfl, by decide, inX4, rfl, rfl, tyX4_ok 2 (by decide), ⟨tyX4, tyX4_ok⟩, nmX4, Or.inr ⟨"ColourWorks", z_268⟩⟩
theorem z_269 : Cond.fieldLinkNest "ColourWorks" 304 "ColourWorks$Mix" "lots" "J" "ColourWorks" ∈ nw := nw_at 269 (by decide +kernel) (by decide +kernel)
theorem f_X9_304 : FL RX9 304 4 2 (tyX4 2) false := ⟨RX4, TX4, 3, rfl, by decide, inX4, rfl, rfl, tyX4_ok 2 (by decide), ⟨tyX4, tyX4_ok⟩, nmX4, Or.inr ⟨"ColourWorks", z_269⟩⟩
theorem q_277 : Cond.fieldLink "ColourWorks$Batch" 10 "ColourWorks$Batch" "mix" "LColourWorks$Mix;" ∈ gw := gw_at 277 (by decide +kernel) (by decide +kernel)
theorem f_X0_10 : FL RX0 10 0 0 (tyX0 0) true := ⟨RX0, TX0, 2, rfl, by decide, inX0, rfl, rfl, tyX0_ok 0 (by decide), ⟨tyX0, tyX0_ok⟩, nmX0, Or.inl q_277⟩
theorem ff_X0_10 : ∀ (T : u_T) (N : Nat), vwCl[0]? = some (RX0, T, N) → Cond.fieldLink RX0 10 RX0 (T 0).2.1 (T 0).2.2.1 ∈ gw := fun T N hc => by cases hc; exact q_277
theorem z_278 : Cond.fieldLinkNest "ColourWorks" 150 "ColourWorks$Batch" "mix" "LColourWorks$Mix;" "ColourWorks" ∈ nw := nw_at 278 (by decide +kernel) (by decide +kernel)
theorem f_X9_150 : FL RX9 150 0 0 (tyX0 0) true := ⟨RX0, TX0, 2, rfl, by decide, inX0, rfl, rfl, tyX0_ok 0 (by decide), ⟨tyX0, tyX0_ok⟩, nmX0, Or.inr ⟨"ColourWorks", z_278⟩⟩
theorem q_279 : Cond.fieldLink "ColourWorks$Batch" 16 "ColourWorks$Batch" "poured" "Z" ∈ gw := gw_at 279 (by decide +kernel) (by decide +kernel)
theorem f_X0_16 : FL RX0 16 0 1 (tyX0 1) false := ⟨RX0, TX0, 2, rfl, by decide, inX0, rfl, rfl, tyX0_ok 1 (by decide), ⟨tyX0, tyX0_ok⟩, nmX0, Or.inl q_279⟩
theorem z_280 : Cond.fieldLinkNest "ColourWorks" 146 "ColourWorks$Batch" "poured" "Z" "ColourWorks" ∈ nw := nw_at 280 (by decide +kernel) (by decide +kernel)
theorem f_X9_146 : FL RX9 146 0 1 (tyX0 1) false := ⟨RX0, TX0, 2, rfl, by decide, inX0, rfl, rfl, tyX0_ok 1 (by decide), ⟨tyX0, tyX0_ok⟩, nmX0, Or.inr ⟨"ColourWorks", z_280⟩⟩
theorem q_293 : Cond.fieldLink "ColourWorks$Tank" 12 "ColourWorks$Tank" "mix" "LColourWorks$Mix;" ∈ gw := gw_at 293 (by decide +kernel) (by decide +kernel)
theorem f_X8_12 : FL RX8 12 8 0 (tyX8 0) true := ⟨RX8, TX8, 7, rfl, by decide, inX8, rfl, rfl, tyX8_ok 0 (by decide), ⟨tyX8, tyX8_ok⟩, nmX8, Or.inl q_293⟩
theorem ff_X8_12 : ∀ (T : u_T) (N : Nat), vwCl[8]? = some (RX8, T, N) → Cond.fieldLink RX8 12 RX8 (T 0).2.1 (T 0).2.2.1 ∈ gw := fun T N hc => by cases hc; exact q_293
theorem z_294 : Cond.fieldLinkNest "ColourWorks$DrumYard" 36 "ColourWorks$Tank" "mix" "LColourWorks$Mix;" "ColourWorks" ∈ nw := nw_at 294 (by decide +kernel) (by decide +kernel)
theorem f_X3_36 : FL RX3 36 8 0 (tyX8 0) true := ⟨RX8, TX8, 7, rfl, by decide, inX8, rfl, rfl, tyX8_ok 0 (by decide), ⟨tyX8, tyX8_ok⟩, nmX8, Or.inr ⟨"ColourWorks", z_294⟩⟩
theorem z_295 : Cond.fieldLinkNest "ColourWorks" 234 "ColourWorks$Tank" "mix" "LColourWorks$Mix;" "ColourWorks" ∈ nw := nw_at 295 (by decide +kernel) (by decide +kernel)
theorem f_X9_234 : FL RX9 234 8 0 (tyX8 0) true := ⟨RX8, TX8, 7, rfl, by decide, inX8, rfl, rfl, tyX8_ok 0 (by decide), ⟨tyX8, tyX8_ok⟩, nmX8, Or.inr ⟨"ColourWorks", z_295⟩⟩
theorem q_296 : Cond.fieldLink "ColourWorks$Tank" 18 "ColourWorks$Tank" "stain" "[I" ∈ gw := gw_at 296 (by decide +kernel) (by decide +kernel)
theorem f_X8_18 : FL RX8 18 8 1 (tyX8 1) true := ⟨RX8, TX8, 7, rfl, by decide, inX8, rfl, rfl, tyX8_ok 1 (by decide), ⟨tyX8, tyX8_ok⟩, nmX8, Or.inl q_296⟩
theorem ff_X8_18 : ∀ (T : u_T) (N : Nat), vwCl[8]? = some (RX8, T, N) → Cond.fieldLink RX8 18 RX8 (T 1).2.1 (T 1).2.2.1 ∈ gw := fun T N hc => by cases hc; exact q_296
theorem z_297 : Cond.fieldLinkNest "ColourWorks" 231 "ColourWorks$Tank" "stain" "[I" "ColourWorks" ∈ nw := nw_at 297 (by decide +kernel) (by decide +kernel)
theorem f_X9_231 : FL RX9 231 8 1 (tyX8 1) true := ⟨RX8, TX8, 7, rfl, by decide, inX8, rfl, rfl, tyX8_ok 1 (by decide), ⟨tyX8, tyX8_ok⟩, nmX8, Or.inr ⟨"ColourWorks", z_297⟩⟩
theorem q_298 : Cond.fieldLink "ColourWorks$Tank" 22 "ColourWorks$Tank" "inside" "I" ∈ gw := gw_at 298 (by decide +kernel) (by decide +kernel)
theorem f_X8_22 : FL RX8 22 8 2 (tyX8 2) false := ⟨RX8, TX8, 7, rfl, by decide, inX8, rfl, rfl, tyX8_ok 2 (by decide), ⟨tyX8, tyX8_ok⟩, nmX8, Or.inl q_298⟩
theorem z_299 : Cond.fieldLinkNest "ColourWorks" 202 "ColourWorks$Tank" "inside" "I" "ColourWorks" ∈ nw := nw_at 299 (by decide +kernel) (by decide +kernel)
theorem f_X9_202 : FL RX9 202 8 2 (tyX8 2) false := ⟨RX8, TX8, 7, rfl, by decide, inX8, rfl, rfl, tyX8_ok 2 (by decide), ⟨tyX8, tyX8_ok⟩, nmX8, Or.inr ⟨"ColourWorks", z_299⟩⟩
theorem q_300 : Cond.fieldLink "ColourWorks$Tank" 26 "ColourWorks$Tank" "size" "I" ∈ gw := gw_at 300 (by decide +kernel) (by decide +kernel)
theorem f_X8_26 : FL RX8 26 8 3 (tyX8 3) false := ⟨RX8, TX8, 7, rfl, by decide, inX8, rfl, rfl, tyX8_ok 3 (by decide), ⟨tyX8, tyX8_ok⟩, nmX8, Or.inl q_300⟩
theorem z_301 : Cond.fieldLinkNest "ColourWorks" 205 "ColourWorks$Tank" "size" "I" "ColourWorks" ∈ nw := nw_at 301 (by decide +kernel) (by decide +kernel)
theorem f_X9_205 : FL RX9 205 8 3 (tyX8 3) false := ⟨RX8, TX8, 7, rfl, by decide, inX8, rfl, rfl, tyX8_ok 3 (by decide), ⟨tyX8, tyX8_ok⟩, nmX8, Or.inr ⟨"ColourWorks", z_301⟩⟩
theorem q_302 : Cond.fieldLink "ColourWorks$Tank" 29 "ColourWorks$Tank" "batches" "I" ∈ gw := gw_at 302 (by decide +kernel) (by decide +kernel)
theorem f_X8_29 : FL RX8 29 8 4 (tyX8 4) false := ⟨RX8, TX8, 7, rfl, by decide, inX8, rfl, rfl, tyX8_ok 4 (by decide), ⟨tyX8, tyX8_ok⟩, nmX8, Or.inl q_302⟩
theorem z_303 : Cond.fieldLinkNest "ColourWorks$DrumYard" 32 "ColourWorks$Tank" "batches" "I" "ColourWorks" ∈ nw := nw_at 303 (by decide +kernel) (by decide +kernel)
theorem f_X3_32 : FL RX3 32 8 4 (tyX8 4) false := ⟨RX8, TX8, 7, rfl, by decide, inX8, rfl, rfl, tyX8_ok 4 (by decide), ⟨tyX8, tyX8_ok⟩, nmX8, Or.inr ⟨"ColourWorks", z_303⟩⟩
theorem q_304 : Cond.fieldLink "ColourWorks$Tank" 32 "ColourWorks$Tank" "tapped" "Z" ∈ gw := gw_at 304 (by decide +kernel) (by decide +kernel)
theorem f_X8_32 : FL RX8 32 8 5 (tyX8 5) false := ⟨RX8, TX8, 7, rfl, by decide, inX8, rfl, rfl, tyX8_ok 5 (by decide), ⟨tyX8, tyX8_ok⟩, nmX8, Or.inl q_304⟩
theorem q_305 : Cond.fieldLink "ColourWorks$Tank" 36 "ColourWorks$Tank" "stained" "Z" ∈ gw := gw_at 305 (by decide +kernel) (by decide +kernel)
theorem f_X8_36 : FL RX8 36 8 6 (tyX8 6) false := ⟨RX8, TX8, 7, rfl, by decide, inX8, rfl, rfl, tyX8_ok 6 (by decide), ⟨tyX8, tyX8_ok⟩, nmX8, Or.inl q_305⟩
theorem z_306 : Cond.fieldLinkNest "ColourWorks" 217 "ColourWorks$Tank" "stained" "Z" "ColourWorks" ∈ nw := nw_at 306 (by decide +kernel) (by decide +kernel)
theorem f_X9_217 : FL RX9 217 8 6 (tyX8 6) false := ⟨RX8, TX8, 7, rfl, by decide, inX8, rfl, rfl, tyX8_ok 6 (by decide), ⟨tyX8, tyX8_ok⟩, nmX8, Or.inr ⟨"ColourWorks", z_306⟩⟩
theorem q_322 : Cond.fieldLink "ColourWorks" 12 "ColourWorks" "palette" "LColourWorks$Palette;" ∈ gw := gw_at 322 (by decide +kernel) (by decide +kernel)
theorem f_X9_12 : FL RX9 12 9 0 (tyX9 0) true := ⟨RX9, TX9, 12, rfl, by decide, inX9, rfl, rfl, tyX9_ok 0 (by decide), ⟨tyX9, tyX9_ok⟩, nmX9, Or.inl q_322⟩
theorem ff_X9_12 : ∀ (T : u_T) (N : Nat), vwCl[9]? = some (RX9, T, N) → Cond.fieldLink RX9 12 RX9 (T 0).2.1 (T 0).2.2.1 ∈ gw := fun T N hc => by cases hc; exact q_322
theorem q_323 : Cond.fieldLink "ColourWorks" 19 "ColourWorks" "store" "LColourWorks$Store;" ∈ gw := gw_at 323 (by decide +kernel) (by decide +kernel)
theorem f_X9_19 : FL RX9 19 9 1 (tyX9 1) true := ⟨RX9, TX9, 12, rfl, by decide, inX9, rfl, rfl, tyX9_ok 1 (by decide), ⟨tyX9, tyX9_ok⟩, nmX9, Or.inl q_323⟩
theorem ff_X9_19 : ∀ (T : u_T) (N : Nat), vwCl[9]? = some (RX9, T, N) → Cond.fieldLink RX9 19 RX9 (T 1).2.1 (T 1).2.2.1 ∈ gw := fun T N hc => by cases hc; exact q_323
theorem q_324 : Cond.fieldLink "ColourWorks" 26 "ColourWorks" "cookbook" "LColourWorks$Cookbook;" ∈ gw := gw_at 324 (by decide +kernel) (by decide +kernel)
theorem f_X9_26 : FL RX9 26 9 2 (tyX9 2) true := ⟨RX9, TX9, 12, rfl, by decide, inX9, rfl, rfl, tyX9_ok 2 (by decide), ⟨tyX9, tyX9_ok⟩, nmX9, Or.inl q_324⟩
theorem ff_X9_26 : ∀ (T : u_T) (N : Nat), vwCl[9]? = some (RX9, T, N) → Cond.fieldLink RX9 26 RX9 (T 2).2.1 (T 2).2.2.1 ∈ gw := fun T N hc => by cases hc; exact q_324
theorem q_325 : Cond.fieldLink "ColourWorks" 32 "ColourWorks" "batches" "[LColourWorks$Batch;" ∈ gw := gw_at 325 (by decide +kernel) (by decide +kernel)
theorem f_X9_32 : FL RX9 32 9 3 (tyX9 3) true := ⟨RX9, TX9, 12, rfl, by decide, inX9, rfl, rfl, tyX9_ok 3 (by decide), ⟨tyX9, tyX9_ok⟩, nmX9, Or.inl q_325⟩
theorem ff_X9_32 : ∀ (T : u_T) (N : Nat), vwCl[9]? = some (RX9, T, N) → Cond.fieldLink RX9 32 RX9 (T 3).2.1 (T 3).2.2.1 ∈ gw := fun T N hc => by cases hc; exact q_325
theorem q_326 : Cond.fieldLink "ColourWorks" 36 "ColourWorks" "batchCount" "I" ∈ gw := gw_at 326 (by decide +kernel) (by decide +kernel)
theorem f_X9_36 : FL RX9 36 9 4 (tyX9 4) false := ⟨RX9, TX9, 12, rfl, by decide, inX9, rfl, rfl, tyX9_ok 4 (by decide), ⟨tyX9, tyX9_ok⟩, nmX9, Or.inl q_326⟩
theorem q_327 : Cond.fieldLink "ColourWorks" 43 "ColourWorks" "search" "LColourWorks$DropSearch;" ∈ gw := gw_at 327 (by decide +kernel) (by decide +kernel)
theorem f_X9_43 : FL RX9 43 9 5 (tyX9 5) true := ⟨RX9, TX9, 12, rfl, by decide, inX9, rfl, rfl, tyX9_ok 5 (by decide), ⟨tyX9, tyX9_ok⟩, nmX9, Or.inl q_327⟩
theorem ff_X9_43 : ∀ (T : u_T) (N : Nat), vwCl[9]? = some (RX9, T, N) → Cond.fieldLink RX9 43 RX9 (T 5).2.1 (T 5).2.2.1 ∈ gw := fun T N hc => by cases hc; exact q_327
theorem q_328 : Cond.fieldLink "ColourWorks" 49 "ColourWorks" "tanks" "[LColourWorks$Tank;" ∈ gw := gw_at 328 (by decide +kernel) (by decide +kernel)
theorem f_X9_49 : FL RX9 49 9 6 (tyX9 6) true := ⟨RX9, TX9, 12, rfl, by decide, inX9, rfl, rfl, tyX9_ok 6 (by decide), ⟨tyX9, tyX9_ok⟩, nmX9, Or.inl q_328⟩
theorem ff_X9_49 : ∀ (T : u_T) (N : Nat), vwCl[9]? = some (RX9, T, N) → Cond.fieldLink RX9 49 RX9 (T 6).2.1 (T 6).2.2.1 ∈ gw := fun T N hc => by cases hc; exact q_328
theorem q_329 : Cond.fieldLink "ColourWorks" 56 "ColourWorks" "yard" "LColourWorks$DrumYard;" ∈ gw := gw_at 329 (by decide +kernel) (by decide +kernel)
theorem f_X9_56 : FL RX9 56 9 7 (tyX9 7) true := ⟨RX9, TX9, 12, rfl, by decide, inX9, rfl, rfl, tyX9_ok 7 (by decide), ⟨tyX9, tyX9_ok⟩, nmX9, Or.inl q_329⟩
theorem ff_X9_56 : ∀ (T : u_T) (N : Nat), vwCl[9]? = some (RX9, T, N) → Cond.fieldLink RX9 56 RX9 (T 7).2.1 (T 7).2.2.1 ∈ gw := fun T N hc => by cases hc; exact q_329
theorem q_330 : Cond.fieldLink "ColourWorks" 63 "ColourWorks" "schedule" "LColourWorks$Schedule;" ∈ gw := gw_at 330 (by decide +kernel) (by decide +kernel)
theorem f_X9_63 : FL RX9 63 9 8 (tyX9 8) true := ⟨RX9, TX9, 12, rfl, by decide, inX9, rfl, rfl, tyX9_ok 8 (by decide), ⟨tyX9, tyX9_ok⟩, nmX9, Or.inl q_330⟩
theorem ff_X9_63 : ∀ (T : u_T) (N : Nat), vwCl[9]? = some (RX9, T, N) → Cond.fieldLink RX9 63 RX9 (T 8).2.1 (T 8).2.2.1 ∈ gw := fun T N hc => by cases hc; exact q_330
theorem q_331 : Cond.fieldLink "ColourWorks" 67 "ColourWorks" "wanted" "[I" ∈ gw := gw_at 331 (by decide +kernel) (by decide +kernel)
theorem f_X9_67 : FL RX9 67 9 9 (tyX9 9) true := ⟨RX9, TX9, 12, rfl, by decide, inX9, rfl, rfl, tyX9_ok 9 (by decide), ⟨tyX9, tyX9_ok⟩, nmX9, Or.inl q_331⟩
theorem ff_X9_67 : ∀ (T : u_T) (N : Nat), vwCl[9]? = some (RX9, T, N) → Cond.fieldLink RX9 67 RX9 (T 9).2.1 (T 9).2.2.1 ∈ gw := fun T N hc => by cases hc; exact q_331
theorem q_332 : Cond.fieldLink "ColourWorks" 71 "ColourWorks" "greatestGap" "I" ∈ gw := gw_at 332 (by decide +kernel) (by decide +kernel)
theorem f_X9_71 : FL RX9 71 9 10 (tyX9 10) false := ⟨RX9, TX9, 12, rfl, by decide, inX9, rfl, rfl, tyX9_ok 10 (by decide), ⟨tyX9, tyX9_ok⟩, nmX9, Or.inl q_332⟩
theorem q_333 : Cond.fieldLink "ColourWorks" 74 "ColourWorks" "stainsCleaned" "I" ∈ gw := gw_at 333 (by decide +kernel) (by decide +kernel)
theorem f_X9_74 : FL RX9 74 9 11 (tyX9 11) false := ⟨RX9, TX9, 12, rfl, by decide, inX9, rfl, rfl, tyX9_ok 11 (by decide), ⟨tyX9, tyX9_ok⟩, nmX9, Or.inl q_333⟩
theorem q_785 : Cond.fieldLink "ColourWorksModel" 147 "ColourWorksModel" "day" "I" ∈ gw := gw_at 785 (by decide +kernel) (by decide +kernel)
theorem f_X10_147 : FL RX10 147 10 0 (tyX10 0) false := ⟨RX10, TX10, 49, rfl, by decide, inX10, rfl, rfl, tyX10_ok 0 (by decide), ⟨tyX10, tyX10_ok⟩, nmX10, Or.inl q_785⟩
theorem q_786 : Cond.fieldLink "ColourWorksModel" 130 "ColourWorksModel" "bases" "I" ∈ gw := gw_at 786 (by decide +kernel) (by decide +kernel)
theorem f_X10_130 : FL RX10 130 10 1 (tyX10 1) false := ⟨RX10, TX10, 49, rfl, by decide, inX10, rfl, rfl, tyX10_ok 1 (by decide), ⟨tyX10, tyX10_ok⟩, nmX10, Or.inl q_786⟩
theorem q_787 : Cond.fieldLink "ColourWorksModel" 7 "ColourWorksModel" "absorb" "[I" ∈ gw := gw_at 787 (by decide +kernel) (by decide +kernel)
theorem f_X10_7 : FL RX10 7 10 2 (tyX10 2) true := ⟨RX10, TX10, 49, rfl, by decide, inX10, rfl, rfl, tyX10_ok 2 (by decide), ⟨tyX10, tyX10_ok⟩, nmX10, Or.inl q_787⟩
theorem ff_X10_7 : ∀ (T : u_T) (N : Nat), vwCl[10]? = some (RX10, T, N) → Cond.fieldLink RX10 7 RX10 (T 2).2.1 (T 2).2.2.1 ∈ gw := fun T N hc => by cases hc; exact q_787
theorem q_788 : Cond.fieldLink "ColourWorksModel" 13 "ColourWorksModel" "scatter" "[I" ∈ gw := gw_at 788 (by decide +kernel) (by decide +kernel)
theorem f_X10_13 : FL RX10 13 10 3 (tyX10 3) true := ⟨RX10, TX10, 49, rfl, by decide, inX10, rfl, rfl, tyX10_ok 3 (by decide), ⟨tyX10, tyX10_ok⟩, nmX10, Or.inl q_788⟩
theorem ff_X10_13 : ∀ (T : u_T) (N : Nat), vwCl[10]? = some (RX10, T, N) → Cond.fieldLink RX10 13 RX10 (T 3).2.1 (T 3).2.2.1 ∈ gw := fun T N hc => by cases hc; exact q_788
theorem q_789 : Cond.fieldLink "ColourWorksModel" 144 "ColourWorksModel" "lots" "I" ∈ gw := gw_at 789 (by decide +kernel) (by decide +kernel)
theorem f_X10_144 : FL RX10 144 10 4 (tyX10 4) false := ⟨RX10, TX10, 49, rfl, by decide, inX10, rfl, rfl, tyX10_ok 4 (by decide), ⟨tyX10, tyX10_ok⟩, nmX10, Or.inl q_789⟩
theorem q_790 : Cond.fieldLink "ColourWorksModel" 16 "ColourWorksModel" "lotBase" "[I" ∈ gw := gw_at 790 (by decide +kernel) (by decide +kernel)
theorem f_X10_16 : FL RX10 16 10 5 (tyX10 5) true := ⟨RX10, TX10, 49, rfl, by decide, inX10, rfl, rfl, tyX10_ok 5 (by decide), ⟨tyX10, tyX10_ok⟩, nmX10, Or.inl q_790⟩
theorem ff_X10_16 : ∀ (T : u_T) (N : Nat), vwCl[10]? = some (RX10, T, N) → Cond.fieldLink RX10 16 RX10 (T 5).2.1 (T 5).2.2.1 ∈ gw := fun T N hc => by cases hc; exact q_790
theorem q_791 : Cond.fieldLink "ColourWorksModel" 19 "ColourWorksModel" "lotLeft" "[I" ∈ gw := gw_at 791 (by decide +kernel) (by decide +kernel)
theorem f_X10_19 : FL RX10 19 10 6 (tyX10 6) true := ⟨RX10, TX10, 49, rfl, by decide, inX10, rfl, rfl, tyX10_ok 6 (by decide), ⟨tyX10, tyX10_ok⟩, nmX10, Or.inl q_791⟩
theorem ff_X10_19 : ∀ (T : u_T) (N : Nat), vwCl[10]? = some (RX10, T, N) → Cond.fieldLink RX10 19 RX10 (T 6).2.1 (T 6).2.2.1 ∈ gw := fun T N hc => by cases hc; exact q_791
theorem q_792 : Cond.fieldLink "ColourWorksModel" 22 "ColourWorksModel" "lotLast" "[I" ∈ gw := gw_at 792 (by decide +kernel) (by decide +kernel)
theorem f_X10_22 : FL RX10 22 10 7 (tyX10 7) true := ⟨RX10, TX10, 49, rfl, by decide, inX10, rfl, rfl, tyX10_ok 7 (by decide), ⟨tyX10, tyX10_ok⟩, nmX10, Or.inl q_792⟩
theorem ff_X10_22 : ∀ (T : u_T) (N : Nat), vwCl[10]? = some (RX10, T, N) → Cond.fieldLink RX10 22 RX10 (T 7).2.1 (T 7).2.2.1 ∈ gw := fun T N hc => by cases hc; exact q_792
theorem q_793 : Cond.fieldLink "ColourWorksModel" 158 "ColourWorksModel" "recipes" "I" ∈ gw := gw_at 793 (by decide +kernel) (by decide +kernel)
theorem f_X10_158 : FL RX10 158 10 8 (tyX10 8) false := ⟨RX10, TX10, 49, rfl, by decide, inX10, rfl, rfl, tyX10_ok 8 (by decide), ⟨tyX10, tyX10_ok⟩, nmX10, Or.inl q_793⟩
theorem q_794 : Cond.fieldLink "ColourWorksModel" 25 "ColourWorksModel" "parts" "[I" ∈ gw := gw_at 794 (by decide +kernel) (by decide +kernel)
theorem f_X10_25 : FL RX10 25 10 9 (tyX10 9) true := ⟨RX10, TX10, 49, rfl, by decide, inX10, rfl, rfl, tyX10_ok 9 (by decide), ⟨tyX10, tyX10_ok⟩, nmX10, Or.inl q_794⟩
theorem ff_X10_25 : ∀ (T : u_T) (N : Nat), vwCl[10]? = some (RX10, T, N) → Cond.fieldLink RX10 25 RX10 (T 9).2.1 (T 9).2.2.1 ∈ gw := fun T N hc => by cases hc; exact q_794
theorem q_795 : Cond.fieldLink "ColourWorksModel" 28 "ColourWorksModel" "isElder" "[Z" ∈ gw := gw_at 795 (by decide +kernel) (by decide +kernel)
theorem f_X10_28 : FL RX10 28 10 10 (tyX10 10) true := ⟨RX10, TX10, 49, rfl, by decide, inX10, rfl, rfl, tyX10_ok 10 (by decide), ⟨tyX10, tyX10_ok⟩, nmX10, Or.inl q_795⟩
theorem ff_X10_28 : ∀ (T : u_T) (N : Nat), vwCl[10]? = some (RX10, T, N) → Cond.fieldLink RX10 28 RX10 (T 10).2.1 (T 10).2.2.1 ∈ gw := fun T N hc => by cases hc; exact q_795
theorem q_796 : Cond.fieldLink "ColourWorksModel" 32 "ColourWorksModel" "partOf" "[I" ∈ gw := gw_at 796 (by decide +kernel) (by decide +kernel)
theorem f_X10_32 : FL RX10 32 10 11 (tyX10 11) true := ⟨RX10, TX10, 49, rfl, by decide, inX10, rfl, rfl, tyX10_ok 11 (by decide), ⟨tyX10, tyX10_ok⟩, nmX10, Or.inl q_796⟩
theorem ff_X10_32 : ∀ (T : u_T) (N : Nat), vwCl[10]? = some (RX10, T, N) → Cond.fieldLink RX10 32 RX10 (T 11).2.1 (T 11).2.2.1 ∈ gw := fun T N hc => by cases hc; exact q_796
theorem q_797 : Cond.fieldLink "ColourWorksModel" 35 "ColourWorksModel" "partTimes" "[I" ∈ gw := gw_at 797 (by decide +kernel) (by decide +kernel)
theorem f_X10_35 : FL RX10 35 10 12 (tyX10 12) true := ⟨RX10, TX10, 49, rfl, by decide, inX10, rfl, rfl, tyX10_ok 12 (by decide), ⟨tyX10, tyX10_ok⟩, nmX10, Or.inl q_797⟩
theorem ff_X10_35 : ∀ (T : u_T) (N : Nat), vwCl[10]? = some (RX10, T, N) → Cond.fieldLink RX10 35 RX10 (T 12).2.1 (T 12).2.2.1 ∈ gw := fun T N hc => by cases hc; exact q_797
theorem q_798 : Cond.fieldLink "ColourWorksModel" 38 "ColourWorksModel" "needs" "[I" ∈ gw := gw_at 798 (by decide +kernel) (by decide +kernel)
theorem f_X10_38 : FL RX10 38 10 13 (tyX10 13) true := ⟨RX10, TX10, 49, rfl, by decide, inX10, rfl, rfl, tyX10_ok 13 (by decide), ⟨tyX10, tyX10_ok⟩, nmX10, Or.inl q_798⟩
theorem ff_X10_38 : ∀ (T : u_T) (N : Nat), vwCl[10]? = some (RX10, T, N) → Cond.fieldLink RX10 38 RX10 (T 13).2.1 (T 13).2.2.1 ∈ gw := fun T N hc => by cases hc; exact q_798
theorem q_799 : Cond.fieldLink "ColourWorksModel" 41 "ColourWorksModel" "tryNeeds" "[I" ∈ gw := gw_at 799 (by decide +kernel) (by decide +kernel)
theorem f_X10_41 : FL RX10 41 10 14 (tyX10 14) true := ⟨RX10, TX10, 49, rfl, by decide, inX10, rfl, rfl, tyX10_ok 14 (by decide), ⟨tyX10, tyX10_ok⟩, nmX10, Or.inl q_799⟩
theorem ff_X10_41 : ∀ (T : u_T) (N : Nat), vwCl[10]? = some (RX10, T, N) → Cond.fieldLink RX10 41 RX10 (T 14).2.1 (T 14).2.2.1 ∈ gw := fun T N hc => by cases hc; exact q_799
theorem q_800 : Cond.fieldLink "ColourWorksModel" 137 "ColourWorksModel" "batches" "I" ∈ gw := gw_at 800 (by decide +kernel) (by decide +kernel)
theorem f_X10_137 : FL RX10 137 10 15 (tyX10 15) false := ⟨RX10, TX10, 49, rfl, by decide, inX10, rfl, rfl, tyX10_ok 15 (by decide), ⟨tyX10, tyX10_ok⟩, nmX10, Or.inl q_800⟩
theorem q_801 : Cond.fieldLink "ColourWorksModel" 44 "ColourWorksModel" "amounts" "[I" ∈ gw := gw_at 801 (by decide +kernel) (by decide +kernel)
theorem f_X10_44 : FL RX10 44 10 16 (tyX10 16) true := ⟨RX10, TX10, 49, rfl, by decide, inX10, rfl, rfl, tyX10_ok 16 (by decide), ⟨tyX10, tyX10_ok⟩, nmX10, Or.inl q_801⟩
theorem ff_X10_44 : ∀ (T : u_T) (N : Nat), vwCl[10]? = some (RX10, T, N) → Cond.fieldLink RX10 44 RX10 (T 16).2.1 (T 16).2.2.1 ∈ gw := fun T N hc => by cases hc; exact q_801
theorem q_802 : Cond.fieldLink "ColourWorksModel" 47 "ColourWorksModel" "batchLots" "[J" ∈ gw := gw_at 802 (by decide +kernel) (by decide +kernel)
theorem f_X10_47 : FL RX10 47 10 17 (tyX10 17) true := ⟨RX10, TX10, 49, rfl, by decide, inX10, rfl, rfl, tyX10_ok 17 (by decide), ⟨tyX10, tyX10_ok⟩, nmX10, Or.inl q_802⟩
theorem ff_X10_47 : ∀ (T : u_T) (N : Nat), vwCl[10]? = some (RX10, T, N) → Cond.fieldLink RX10 47 RX10 (T 17).2.1 (T 17).2.2.1 ∈ gw := fun T N hc => by cases hc; exact q_802
theorem q_803 : Cond.fieldLink "ColourWorksModel" 51 "ColourWorksModel" "isPoured" "[Z" ∈ gw := gw_at 803 (by decide +kernel) (by decide +kernel)
theorem f_X10_51 : FL RX10 51 10 18 (tyX10 18) true := ⟨RX10, TX10, 49, rfl, by decide, inX10, rfl, rfl, tyX10_ok 18 (by decide), ⟨tyX10, tyX10_ok⟩, nmX10, Or.inl q_803⟩
theorem ff_X10_51 : ∀ (T : u_T) (N : Nat), vwCl[10]? = some (RX10, T, N) → Cond.fieldLink RX10 51 RX10 (T 18).2.1 (T 18).2.2.1 ∈ gw := fun T N hc => by cases hc; exact q_803
theorem q_804 : Cond.fieldLink "ColourWorksModel" 195 "ColourWorksModel" "hasDrops" "Z" ∈ gw := gw_at 804 (by decide +kernel) (by decide +kernel)
theorem f_X10_195 : FL RX10 195 10 19 (tyX10 19) false := ⟨RX10, TX10, 49, rfl, by decide, inX10, rfl, rfl, tyX10_ok 19 (by decide), ⟨tyX10, tyX10_ok⟩, nmX10, Or.inl q_804⟩
theorem q_805 : Cond.fieldLink "ColourWorksModel" 54 "ColourWorksModel" "drops" "[I" ∈ gw := gw_at 805 (by decide +kernel) (by decide +kernel)
theorem f_X10_54 : FL RX10 54 10 20 (tyX10 20) true := ⟨RX10, TX10, 49, rfl, by decide, inX10, rfl, rfl, tyX10_ok 20 (by decide), ⟨tyX10, tyX10_ok⟩, nmX10, Or.inl q_805⟩
theorem ff_X10_54 : ∀ (T : u_T) (N : Nat), vwCl[10]? = some (RX10, T, N) → Cond.fieldLink RX10 54 RX10 (T 20).2.1 (T 20).2.2.1 ∈ gw := fun T N hc => by cases hc; exact q_805
theorem q_806 : Cond.fieldLink "ColourWorksModel" 57 "ColourWorksModel" "tryDrops" "[I" ∈ gw := gw_at 806 (by decide +kernel) (by decide +kernel)
theorem f_X10_57 : FL RX10 57 10 21 (tyX10 21) true := ⟨RX10, TX10, 49, rfl, by decide, inX10, rfl, rfl, tyX10_ok 21 (by decide), ⟨tyX10, tyX10_ok⟩, nmX10, Or.inl q_806⟩
theorem ff_X10_57 : ∀ (T : u_T) (N : Nat), vwCl[10]? = some (RX10, T, N) → Cond.fieldLink RX10 57 RX10 (T 21).2.1 (T 21).2.2.1 ∈ gw := fun T N hc => by cases hc; exact q_806
theorem q_807 : Cond.fieldLink "ColourWorksModel" 60 "ColourWorksModel" "room" "[I" ∈ gw := gw_at 807 (by decide +kernel) (by decide +kernel)
theorem f_X10_60 : FL RX10 60 10 22 (tyX10 22) true := ⟨RX10, TX10, 49, rfl, by decide, inX10, rfl, rfl, tyX10_ok 22 (by decide), ⟨tyX10, tyX10_ok⟩, nmX10, Or.inl q_807⟩
theorem ff_X10_60 : ∀ (T : u_T) (N : Nat), vwCl[10]? = some (RX10, T, N) → Cond.fieldLink RX10 60 RX10 (T 22).2.1 (T 22).2.2.1 ∈ gw := fun T N hc => by cases hc; exact q_807
theorem q_808 : Cond.fieldLink "ColourWorksModel" 63 "ColourWorksModel" "held" "[I" ∈ gw := gw_at 808 (by decide +kernel) (by decide +kernel)
theorem f_X10_63 : FL RX10 63 10 23 (tyX10 23) true := ⟨RX10, TX10, 49, rfl, by decide, inX10, rfl, rfl, tyX10_ok 23 (by decide), ⟨tyX10, tyX10_ok⟩, nmX10, Or.inl q_808⟩
theorem ff_X10_63 : ∀ (T : u_T) (N : Nat), vwCl[10]? = some (RX10, T, N) → Cond.fieldLink RX10 63 RX10 (T 23).2.1 (T 23).2.2.1 ∈ gw := fun T N hc => by cases hc; exact q_808
theorem q_809 : Cond.fieldLink "ColourWorksModel" 66 "ColourWorksModel" "isStained" "[Z" ∈ gw := gw_at 809 (by decide +kernel) (by decide +kernel)
theorem f_X10_66 : FL RX10 66 10 24 (tyX10 24) true := ⟨RX10, TX10, 49, rfl, by decide, inX10, rfl, rfl, tyX10_ok 24 (by decide), ⟨tyX10, tyX10_ok⟩, nmX10, Or.inl q_809⟩
theorem ff_X10_66 : ∀ (T : u_T) (N : Nat), vwCl[10]? = some (RX10, T, N) → Cond.fieldLink RX10 66 RX10 (T 24).2.1 (T 24).2.2.1 ∈ gw := fun T N hc => by cases hc; exact q_809
theorem q_810 : Cond.fieldLink "ColourWorksModel" 69 "ColourWorksModel" "wasDrawn" "[Z" ∈ gw := gw_at 810 (by decide +kernel) (by decide +kernel)
theorem f_X10_69 : FL RX10 69 10 25 (tyX10 25) true := ⟨RX10, TX10, 49, rfl, by decide, inX10, rfl, rfl, tyX10_ok 25 (by decide), ⟨tyX10, tyX10_ok⟩, nmX10, Or.inl q_810⟩
theorem ff_X10_69 : ∀ (T : u_T) (N : Nat), vwCl[10]? = some (RX10, T, N) → Cond.fieldLink RX10 69 RX10 (T 25).2.1 (T 25).2.2.1 ∈ gw := fun T N hc => by cases hc; exact q_810
theorem q_811 : Cond.fieldLink "ColourWorksModel" 72 "ColourWorksModel" "inTank" "[I" ∈ gw := gw_at 811 (by decide +kernel) (by decide +kernel)
theorem f_X10_72 : FL RX10 72 10 26 (tyX10 26) true := ⟨RX10, TX10, 49, rfl, by decide, inX10, rfl, rfl, tyX10_ok 26 (by decide), ⟨tyX10, tyX10_ok⟩, nmX10, Or.inl q_811⟩
theorem ff_X10_72 : ∀ (T : u_T) (N : Nat), vwCl[10]? = some (RX10, T, N) → Cond.fieldLink RX10 72 RX10 (T 26).2.1 (T 26).2.2.1 ∈ gw := fun T N hc => by cases hc; exact q_811
theorem q_812 : Cond.fieldLink "ColourWorksModel" 75 "ColourWorksModel" "tankLots" "[J" ∈ gw := gw_at 812 (by decide +kernel) (by decide +kernel)
theorem f_X10_75 : FL RX10 75 10 27 (tyX10 27) true := ⟨RX10, TX10, 49, rfl, by decide, inX10, rfl, rfl, tyX10_ok 27 (by decide), ⟨tyX10, tyX10_ok⟩, nmX10, Or.inl q_812⟩
theorem ff_X10_75 : ∀ (T : u_T) (N : Nat), vwCl[10]? = some (RX10, T, N) → Cond.fieldLink RX10 75 RX10 (T 27).2.1 (T 27).2.2.1 ∈ gw := fun T N hc => by cases hc; exact q_812
theorem q_813 : Cond.fieldLink "ColourWorksModel" 78 "ColourWorksModel" "tankBatches" "[I" ∈ gw := gw_at 813 (by decide +kernel) (by decide +kernel)
theorem f_X10_78 : FL RX10 78 10 28 (tyX10 28) true := ⟨RX10, TX10, 49, rfl, by decide, inX10, rfl, rfl, tyX10_ok 28 (by decide), ⟨tyX10, tyX10_ok⟩, nmX10, Or.inl q_813⟩
theorem ff_X10_78 : ∀ (T : u_T) (N : Nat), vwCl[10]? = some (RX10, T, N) → Cond.fieldLink RX10 78 RX10 (T 28).2.1 (T 28).2.2.1 ∈ gw := fun T N hc => by cases hc; exact q_813
theorem q_814 : Cond.fieldLink "ColourWorksModel" 81 "ColourWorksModel" "stains" "[I" ∈ gw := gw_at 814 (by decide +kernel) (by decide +kernel)
theorem f_X10_81 : FL RX10 81 10 29 (tyX10 29) true := ⟨RX10, TX10, 49, rfl, by decide, inX10, rfl, rfl, tyX10_ok 29 (by decide), ⟨tyX10, tyX10_ok⟩, nmX10, Or.inl q_814⟩
theorem ff_X10_81 : ∀ (T : u_T) (N : Nat), vwCl[10]? = some (RX10, T, N) → Cond.fieldLink RX10 81 RX10 (T 29).2.1 (T 29).2.2.1 ∈ gw := fun T N hc => by cases hc; exact q_814
theorem q_815 : Cond.fieldLink "ColourWorksModel" 84 "ColourWorksModel" "limit" "I" ∈ gw := gw_at 815 (by decide +kernel) (by decide +kernel)
theorem f_X10_84 : FL RX10 84 10 30 (tyX10 30) false := ⟨RX10, TX10, 49, rfl, by decide, inX10, rfl, rfl, tyX10_ok 30 (by decide), ⟨tyX10, tyX10_ok⟩, nmX10, Or.inl q_815⟩
theorem q_816 : Cond.fieldLink "ColourWorksModel" 209 "ColourWorksModel" "drums" "I" ∈ gw := gw_at 816 (by decide +kernel) (by decide +kernel)
theorem f_X10_209 : FL RX10 209 10 31 (tyX10 31) false := ⟨RX10, TX10, 49, rfl, by decide, inX10, rfl, rfl, tyX10_ok 31 (by decide), ⟨tyX10, tyX10_ok⟩, nmX10, Or.inl q_816⟩
theorem q_817 : Cond.fieldLink "ColourWorksModel" 88 "ColourWorksModel" "drumUnits" "[I" ∈ gw := gw_at 817 (by decide +kernel) (by decide +kernel)
theorem f_X10_88 : FL RX10 88 10 32 (tyX10 32) true := ⟨RX10, TX10, 49, rfl, by decide, inX10, rfl, rfl, tyX10_ok 32 (by decide), ⟨tyX10, tyX10_ok⟩, nmX10, Or.inl q_817⟩
theorem ff_X10_88 : ∀ (T : u_T) (N : Nat), vwCl[10]? = some (RX10, T, N) → Cond.fieldLink RX10 88 RX10 (T 32).2.1 (T 32).2.2.1 ∈ gw := fun T N hc => by cases hc; exact q_817
theorem q_818 : Cond.fieldLink "ColourWorksModel" 91 "ColourWorksModel" "drumTank" "[I" ∈ gw := gw_at 818 (by decide +kernel) (by decide +kernel)
theorem f_X10_91 : FL RX10 91 10 33 (tyX10 33) true := ⟨RX10, TX10, 49, rfl, by decide, inX10, rfl, rfl, tyX10_ok 33 (by decide), ⟨tyX10, tyX10_ok⟩, nmX10, Or.inl q_818⟩
theorem ff_X10_91 : ∀ (T : u_T) (N : Nat), vwCl[10]? = some (RX10, T, N) → Cond.fieldLink RX10 91 RX10 (T 33).2.1 (T 33).2.2.1 ∈ gw := fun T N hc => by cases hc; exact q_818
theorem q_819 : Cond.fieldLink "ColourWorksModel" 94 "ColourWorksModel" "drumDay" "[I" ∈ gw := gw_at 819 (by decide +kernel) (by decide +kernel)
theorem f_X10_94 : FL RX10 94 10 34 (tyX10 34) true := ⟨RX10, TX10, 49, rfl, by decide, inX10, rfl, rfl, tyX10_ok 34 (by decide), ⟨tyX10, tyX10_ok⟩, nmX10, Or.inl q_819⟩
theorem ff_X10_94 : ∀ (T : u_T) (N : Nat), vwCl[10]? = some (RX10, T, N) → Cond.fieldLink RX10 94 RX10 (T 34).2.1 (T 34).2.2.1 ∈ gw := fun T N hc => by cases hc; exact q_819
theorem q_820 : Cond.fieldLink "ColourWorksModel" 97 "ColourWorksModel" "drumLots" "[J" ∈ gw := gw_at 820 (by decide +kernel) (by decide +kernel)
theorem f_X10_97 : FL RX10 97 10 35 (tyX10 35) true := ⟨RX10, TX10, 49, rfl, by decide, inX10, rfl, rfl, tyX10_ok 35 (by decide), ⟨tyX10, tyX10_ok⟩, nmX10, Or.inl q_820⟩
theorem ff_X10_97 : ∀ (T : u_T) (N : Nat), vwCl[10]? = some (RX10, T, N) → Cond.fieldLink RX10 97 RX10 (T 35).2.1 (T 35).2.2.1 ∈ gw := fun T N hc => by cases hc; exact q_820
theorem q_821 : Cond.fieldLink "ColourWorksModel" 100 "ColourWorksModel" "drumBatches" "[I" ∈ gw := gw_at 821 (by decide +kernel) (by decide +kernel)
theorem f_X10_100 : FL RX10 100 10 36 (tyX10 36) true := ⟨RX10, TX10, 49, rfl, by decide, inX10, rfl, rfl, tyX10_ok 36 (by decide), ⟨tyX10, tyX10_ok⟩, nmX10, Or.inl q_821⟩
theorem ff_X10_100 : ∀ (T : u_T) (N : Nat), vwCl[10]? = some (RX10, T, N) → Cond.fieldLink RX10 100 RX10 (T 36).2.1 (T 36).2.2.1 ∈ gw := fun T N hc => by cases hc; exact q_821
theorem q_822 : Cond.fieldLink "ColourWorksModel" 206 "ColourWorksModel" "cleaned" "I" ∈ gw := gw_at 822 (by decide +kernel) (by decide +kernel)
theorem f_X10_206 : FL RX10 206 10 37 (tyX10 37) false := ⟨RX10, TX10, 49, rfl, by decide, inX10, rfl, rfl, tyX10_ok 37 (by decide), ⟨tyX10, tyX10_ok⟩, nmX10, Or.inl q_822⟩
theorem q_823 : Cond.fieldLink "ColourWorksModel" 219 "ColourWorksModel" "jobs" "I" ∈ gw := gw_at 823 (by decide +kernel) (by decide +kernel)
theorem f_X10_219 : FL RX10 219 10 38 (tyX10 38) false := ⟨RX10, TX10, 49, rfl, by decide, inX10, rfl, rfl, tyX10_ok 38 (by decide), ⟨tyX10, tyX10_ok⟩, nmX10, Or.inl q_823⟩
theorem q_824 : Cond.fieldLink "ColourWorksModel" 103 "ColourWorksModel" "jobHue" "[I" ∈ gw := gw_at 824 (by decide +kernel) (by decide +kernel)
theorem f_X10_103 : FL RX10 103 10 39 (tyX10 39) true := ⟨RX10, TX10, 49, rfl, by decide, inX10, rfl, rfl, tyX10_ok 39 (by decide), ⟨tyX10, tyX10_ok⟩, nmX10, Or.inl q_824⟩
theorem ff_X10_103 : ∀ (T : u_T) (N : Nat), vwCl[10]? = some (RX10, T, N) → Cond.fieldLink RX10 103 RX10 (T 39).2.1 (T 39).2.2.1 ∈ gw := fun T N hc => by cases hc; exact q_824
theorem q_825 : Cond.fieldLink "ColourWorksModel" 106 "ColourWorksModel" "jobTime" "[I" ∈ gw := gw_at 825 (by decide +kernel) (by decide +kernel)
theorem f_X10_106 : FL RX10 106 10 40 (tyX10 40) true := ⟨RX10, TX10, 49, rfl, by decide, inX10, rfl, rfl, tyX10_ok 40 (by decide), ⟨tyX10, tyX10_ok⟩, nmX10, Or.inl q_825⟩
theorem ff_X10_106 : ∀ (T : u_T) (N : Nat), vwCl[10]? = some (RX10, T, N) → Cond.fieldLink RX10 106 RX10 (T 40).2.1 (T 40).2.2.1 ∈ gw := fun T N hc => by cases hc; exact q_825
theorem q_826 : Cond.fieldLink "ColourWorksModel" 109 "ColourWorksModel" "jobDue" "[I" ∈ gw := gw_at 826 (by decide +kernel) (by decide +kernel)
theorem f_X10_109 : FL RX10 109 10 41 (tyX10 41) true := ⟨RX10, TX10, 49, rfl, by decide, inX10, rfl, rfl, tyX10_ok 41 (by decide), ⟨tyX10, tyX10_ok⟩, nmX10, Or.inl q_826⟩
theorem ff_X10_109 : ∀ (T : u_T) (N : Nat), vwCl[10]? = some (RX10, T, N) → Cond.fieldLink RX10 109 RX10 (T 41).2.1 (T 41).2.2.1 ∈ gw := fun T N hc => by cases hc; exact q_826
theorem q_827 : Cond.fieldLink "ColourWorksModel" 112 "ColourWorksModel" "jobPrice" "[I" ∈ gw := gw_at 827 (by decide +kernel) (by decide +kernel)
theorem f_X10_112 : FL RX10 112 10 42 (tyX10 42) true := ⟨RX10, TX10, 49, rfl, by decide, inX10, rfl, rfl, tyX10_ok 42 (by decide), ⟨tyX10, tyX10_ok⟩, nmX10, Or.inl q_827⟩
theorem ff_X10_112 : ∀ (T : u_T) (N : Nat), vwCl[10]? = some (RX10, T, N) → Cond.fieldLink RX10 112 RX10 (T 42).2.1 (T 42).2.2.1 ∈ gw := fun T N hc => by cases hc; exact q_827
theorem q_828 : Cond.fieldLink "ColourWorksModel" 115 "ColourWorksModel" "cleaning" "[I" ∈ gw := gw_at 828 (by decide +kernel) (by decide +kernel)
theorem f_X10_115 : FL RX10 115 10 43 (tyX10 43) true := ⟨RX10, TX10, 49, rfl, by decide, inX10, rfl, rfl, tyX10_ok 43 (by decide), ⟨tyX10, tyX10_ok⟩, nmX10, Or.inl q_828⟩
theorem ff_X10_115 : ∀ (T : u_T) (N : Nat), vwCl[10]? = some (RX10, T, N) → Cond.fieldLink RX10 115 RX10 (T 43).2.1 (T 43).2.2.1 ∈ gw := fun T N hc => by cases hc; exact q_828
theorem q_829 : Cond.fieldLink "ColourWorksModel" 230 "ColourWorksModel" "planned" "I" ∈ gw := gw_at 829 (by decide +kernel) (by decide +kernel)
theorem f_X10_230 : FL RX10 230 10 44 (tyX10 44) false := ⟨RX10, TX10, 49, rfl, by decide, inX10, rfl, rfl, tyX10_ok 44 (by decide), ⟨tyX10, tyX10_ok⟩, nmX10, Or.inl q_829⟩
theorem q_830 : Cond.fieldLink "ColourWorksModel" 118 "ColourWorksModel" "plan" "[I" ∈ gw := gw_at 830 (by decide +kernel) (by decide +kernel)
theorem f_X10_118 : FL RX10 118 10 45 (tyX10 45) true := ⟨RX10, TX10, 49, rfl, by decide, inX10, rfl, rfl, tyX10_ok 45 (by decide), ⟨tyX10, tyX10_ok⟩, nmX10, Or.inl q_830⟩
theorem ff_X10_118 : ∀ (T : u_T) (N : Nat), vwCl[10]? = some (RX10, T, N) → Cond.fieldLink RX10 118 RX10 (T 45).2.1 (T 45).2.2.1 ∈ gw := fun T N hc => by cases hc; exact q_830
theorem q_831 : Cond.fieldLink "ColourWorksModel" 121 "ColourWorksModel" "costs" "[I" ∈ gw := gw_at 831 (by decide +kernel) (by decide +kernel)
theorem f_X10_121 : FL RX10 121 10 46 (tyX10 46) true := ⟨RX10, TX10, 49, rfl, by decide, inX10, rfl, rfl, tyX10_ok 46 (by decide), ⟨tyX10, tyX10_ok⟩, nmX10, Or.inl q_831⟩
theorem ff_X10_121 : ∀ (T : u_T) (N : Nat), vwCl[10]? = some (RX10, T, N) → Cond.fieldLink RX10 121 RX10 (T 46).2.1 (T 46).2.2.1 ∈ gw := fun T N hc => by cases hc; exact q_831
theorem q_832 : Cond.fieldLink "ColourWorksModel" 124 "ColourWorksModel" "nothing" "[I" ∈ gw := gw_at 832 (by decide +kernel) (by decide +kernel)
theorem f_X10_124 : FL RX10 124 10 47 (tyX10 47) true := ⟨RX10, TX10, 49, rfl, by decide, inX10, rfl, rfl, tyX10_ok 47 (by decide), ⟨tyX10, tyX10_ok⟩, nmX10, Or.inl q_832⟩
theorem ff_X10_124 : ∀ (T : u_T) (N : Nat), vwCl[10]? = some (RX10, T, N) → Cond.fieldLink RX10 124 RX10 (T 47).2.1 (T 47).2.2.1 ∈ gw := fun T N hc => by cases hc; exact q_832
theorem q_833 : Cond.fieldLink "ColourWorksModel" 127 "ColourWorksModel" "mayDrop" "[I" ∈ gw := gw_at 833 (by decide +kernel) (by decide +kernel)
theorem f_X10_127 : FL RX10 127 10 48 (tyX10 48) true := ⟨RX10, TX10, 49, rfl, by decide, inX10, rfl, rfl, tyX10_ok 48 (by decide), ⟨tyX10, tyX10_ok⟩, nmX10, Or.inl q_833⟩
theorem ff_X10_127 : ∀ (T : u_T) (N : Nat), vwCl[10]? = some (RX10, T, N) → Cond.fieldLink RX10 127 RX10 (T 48).2.1 (T 48).2.2.1 ∈ gw := fun T N hc => by cases hc; exact q_833
theorem q_50 : Cond.classLink "ColourWorksLaw" 7 "ColourWorks" ∈ gw := gw_at 50 (by decide +kernel) (by decide +kernel)
theorem n_L_7c : Cond.classLink RL 7 "ColourWorks" ∈ gw := q_50
theorem q_51 : Cond.instantiable "ColourWorks" 12 ∈ gw := gw_at 51 (by decide +kernel) (by decide +kernel)
theorem n_L_7 : NL RL 7 9 [.null, .null, .null, .null, .int 0, .null, .null, .null, .null, .null, .int 0, .int 0] 12 := ⟨RX9, TX9, tyX9, rfl, inX9, tyX9_ok, q_50, q_51, q_34, by decide +kernel, fun _ _ => rfl⟩
theorem q_52 : Cond.methodLink "ColourWorksLaw" 9 yX9_init ∈ gw := gw_at 52 (by decide +kernel) (by decide +kernel)
theorem q_53 : Cond.instanceMethod yX9_init ∈ gw := gw_at 53 (by decide +kernel) (by decide +kernel)
theorem l_L_9 : KI RL 9 mX9_init 0 := ⟨⟨k_X9_init, Or.inl q_52, by decide +kernel⟩, q_53, rfl, rfl⟩
theorem q_55 : Cond.methodLink "ColourWorks" 3 objectInit ∈ gw := gw_at 55 (by decide +kernel) (by decide +kernel)
theorem o_X9_3 : Cond.methodLink RX9 3 objectInit ∈ gw := q_55
theorem q_58 : Cond.classLink "ColourWorks" 9 "ColourWorks$Palette" ∈ gw := gw_at 58 (by decide +kernel) (by decide +kernel)
theorem n_X9_9c : Cond.classLink RX9 9 "ColourWorks$Palette" ∈ gw := q_58
theorem q_59 : Cond.instantiable "ColourWorks$Palette" 3 ∈ gw := gw_at 59 (by decide +kernel) (by decide +kernel)
theorem n_X9_9 : NL RX9 9 5 [.null, .null, .int 0] 3 := ⟨RX5, TX5, tyX5, rfl, inX5, tyX5_ok, q_58, q_59, q_35, by decide +kernel, fun _ _ => rfl⟩
theorem z_60 : Cond.methodLinkNest "ColourWorks" 11 yX5_init "ColourWorks" ∈ nw := nw_at 60 (by decide +kernel) (by decide +kernel)
theorem q_61 : Cond.instanceMethod yX5_init ∈ gw := gw_at 61 (by decide +kernel) (by decide +kernel)
theorem l_X9_11 : KI RX9 11 mX5_init 0 := ⟨⟨k_X5_init, Or.inr ⟨"ColourWorks", z_60⟩, by decide +kernel⟩, q_61, rfl, rfl⟩
theorem q_63 : Cond.methodLink "ColourWorks$Palette" 3 objectInit ∈ gw := gw_at 63 (by decide +kernel) (by decide +kernel)
theorem o_X5_3 : Cond.methodLink RX5 3 objectInit ∈ gw := q_63
theorem q_79 : Cond.classLink "ColourWorks" 16 "ColourWorks$Store" ∈ gw := gw_at 79 (by decide +kernel) (by decide +kernel)
theorem n_X9_16c : Cond.classLink RX9 16 "ColourWorks$Store" ∈ gw := q_79
theorem q_80 : Cond.instantiable "ColourWorks$Store" 5 ∈ gw := gw_at 80 (by decide +kernel) (by decide +kernel)
theorem n_X9_16 : NL RX9 16 7 [.null, .null, .null, .int 0, .int 0] 5 := ⟨RX7, TX7, tyX7, rfl, inX7, tyX7_ok, q_79, q_80, q_36, by decide +kernel, fun _ _ => rfl⟩
theorem z_81 : Cond.methodLinkNest "ColourWorks" 18 yX7_init "ColourWorks" ∈ nw := nw_at 81 (by decide +kernel) (by decide +kernel)
theorem q_82 : Cond.instanceMethod yX7_init ∈ gw := gw_at 82 (by decide +kernel) (by decide +kernel)
theorem l_X9_18 : KI RX9 18 mX7_init 0 := ⟨⟨k_X7_init, Or.inr ⟨"ColourWorks", z_81⟩, by decide +kernel⟩, q_82, rfl, rfl⟩
theorem q_84 : Cond.methodLink "ColourWorks$Store" 3 objectInit ∈ gw := gw_at 84 (by decide +kernel) (by decide +kernel)
theorem o_X7_3 : Cond.methodLink RX7 3 objectInit ∈ gw := q_84
theorem q_104 : Cond.classLink "ColourWorks" 23 "ColourWorks$Cookbook" ∈ gw := gw_at 104 (by decide +kernel) (by decide +kernel)
theorem n_X9_23c : Cond.classLink RX9 23 "ColourWorks$Cookbook" ∈ gw := q_104
theorem q_105 : Cond.instantiable "ColourWorks$Cookbook" 7 ∈ gw := gw_at 105 (by decide +kernel) (by decide +kernel)
theorem n_X9_23 : NL RX9 23 1 [.null, .null, .null, .null, .null, .null, .int 0] 7 := ⟨RX1, TX1, tyX1, rfl, inX1, tyX1_ok, q_104, q_105, q_37, by decide +kernel, fun _ _ => rfl⟩
theorem z_106 : Cond.methodLinkNest "ColourWorks" 25 yX1_init "ColourWorks" ∈ nw := nw_at 106 (by decide +kernel) (by decide +kernel)
theorem q_107 : Cond.instanceMethod yX1_init ∈ gw := gw_at 107 (by decide +kernel) (by decide +kernel)
theorem l_X9_25 : KI RX9 25 mX1_init 0 := ⟨⟨k_X1_init, Or.inr ⟨"ColourWorks", z_106⟩, by decide +kernel⟩, q_107, rfl, rfl⟩
theorem q_109 : Cond.methodLink "ColourWorks$Cookbook" 3 objectInit ∈ gw := gw_at 109 (by decide +kernel) (by decide +kernel)
theorem o_X1_3 : Cond.methodLink RX1 3 objectInit ∈ gw := q_109
theorem q_134 : Cond.classLink "ColourWorks" 30 "ColourWorks$Batch" ∈ gw := gw_at 134 (by decide +kernel) (by decide +kernel)
theorem n_X9_30c : Cond.classLink RX9 30 "ColourWorks$Batch" ∈ gw := q_134
theorem q_249 : Cond.instantiable "ColourWorks$Batch" 2 ∈ gw := gw_at 249 (by decide +kernel) (by decide +kernel)
theorem n_X9_30 : NL RX9 30 0 [.null, .int 0] 2 := ⟨RX0, TX0, tyX0, rfl, inX0, tyX0_ok, q_134, q_249, q_41, by decide +kernel, fun _ _ => rfl⟩
theorem q_136 : Cond.classLink "ColourWorks" 40 "ColourWorks$DropSearch" ∈ gw := gw_at 136 (by decide +kernel) (by decide +kernel)
theorem n_X9_40c : Cond.classLink RX9 40 "ColourWorks$DropSearch" ∈ gw := q_136
theorem q_137 : Cond.instantiable "ColourWorks$DropSearch" 11 ∈ gw := gw_at 137 (by decide +kernel) (by decide +kernel)
theorem n_X9_40 : NL RX9 40 2 [.null, .int 0, .int 0, .int 0, .null, .null, .null, .int 0, .int 0, .null, .null] 11 := ⟨RX2, TX2, tyX2, rfl, inX2, tyX2_ok, q_136, q_137, q_38, by decide +kernel, fun _ _ => rfl⟩
theorem z_138 : Cond.methodLinkNest "ColourWorks" 42 yX2_init "ColourWorks" ∈ nw := nw_at 138 (by decide +kernel) (by decide +kernel)
theorem q_139 : Cond.instanceMethod yX2_init ∈ gw := gw_at 139 (by decide +kernel) (by decide +kernel)
theorem l_X9_42 : KI RX9 42 mX2_init 0 := ⟨⟨k_X2_init, Or.inr ⟨"ColourWorks", z_138⟩, by decide +kernel⟩, q_139, rfl, rfl⟩
theorem q_141 : Cond.methodLink "ColourWorks$DropSearch" 3 objectInit ∈ gw := gw_at 141 (by decide +kernel) (by decide +kernel)
theorem o_X2_3 : Cond.methodLink RX2 3 objectInit ∈ gw := q_141
theorem q_179 : Cond.classLink "ColourWorks" 47 "ColourWorks$Tank" ∈ gw := gw_at 179 (by decide +kernel) (by decide +kernel)
theorem n_X9_47c : Cond.classLink RX9 47 "ColourWorks$Tank" ∈ gw := q_179
theorem q_286 : Cond.instantiable "ColourWorks$Tank" 7 ∈ gw := gw_at 286 (by decide +kernel) (by decide +kernel)
theorem n_X9_47 : NL RX9 47 8 [.null, .null, .int 0, .int 0, .int 0, .int 0, .int 0] 7 := ⟨RX8, TX8, tyX8, rfl, inX8, tyX8_ok, q_179, q_286, q_43, by decide +kernel, fun _ _ => rfl⟩
theorem q_181 : Cond.classLink "ColourWorks" 53 "ColourWorks$DrumYard" ∈ gw := gw_at 181 (by decide +kernel) (by decide +kernel)
theorem n_X9_53c : Cond.classLink RX9 53 "ColourWorks$DrumYard" ∈ gw := q_181
theorem q_182 : Cond.instantiable "ColourWorks$DrumYard" 6 ∈ gw := gw_at 182 (by decide +kernel) (by decide +kernel)
theorem n_X9_53 : NL RX9 53 3 [.null, .null, .null, .null, .null, .int 0] 6 := ⟨RX3, TX3, tyX3, rfl, inX3, tyX3_ok, q_181, q_182, q_39, by decide +kernel, fun _ _ => rfl⟩
theorem z_183 : Cond.methodLinkNest "ColourWorks" 55 yX3_init "ColourWorks" ∈ nw := nw_at 183 (by decide +kernel) (by decide +kernel)
theorem q_184 : Cond.instanceMethod yX3_init ∈ gw := gw_at 184 (by decide +kernel) (by decide +kernel)
theorem l_X9_55 : KI RX9 55 mX3_init 0 := ⟨⟨k_X3_init, Or.inr ⟨"ColourWorks", z_183⟩, by decide +kernel⟩, q_184, rfl, rfl⟩
theorem q_186 : Cond.methodLink "ColourWorks$DrumYard" 3 objectInit ∈ gw := gw_at 186 (by decide +kernel) (by decide +kernel)
theorem o_X3_3 : Cond.methodLink RX3 3 objectInit ∈ gw := q_186
theorem q_212 : Cond.classLink "ColourWorks" 60 "ColourWorks$Schedule" ∈ gw := gw_at 212 (by decide +kernel) (by decide +kernel)
theorem n_X9_60c : Cond.classLink RX9 60 "ColourWorks$Schedule" ∈ gw := q_212
theorem q_213 : Cond.instantiable "ColourWorks$Schedule" 9 ∈ gw := gw_at 213 (by decide +kernel) (by decide +kernel)
theorem n_X9_60 : NL RX9 60 6 [.null, .null, .null, .null, .int 0, .null, .null, .null, .int 0] 9 := ⟨RX6, TX6, tyX6, rfl, inX6, tyX6_ok, q_212, q_213, q_40, by decide +kernel, fun _ _ => rfl⟩
theorem z_214 : Cond.methodLinkNest "ColourWorks" 62 yX6_init "ColourWorks" ∈ nw := nw_at 214 (by decide +kernel) (by decide +kernel)
theorem q_215 : Cond.instanceMethod yX6_init ∈ gw := gw_at 215 (by decide +kernel) (by decide +kernel)
theorem l_X9_62 : KI RX9 62 mX6_init 0 := ⟨⟨k_X6_init, Or.inr ⟨"ColourWorks", z_214⟩, by decide +kernel⟩, q_215, rfl, rfl⟩
theorem q_217 : Cond.methodLink "ColourWorks$Schedule" 3 objectInit ∈ gw := gw_at 217 (by decide +kernel) (by decide +kernel)
theorem o_X6_3 : Cond.methodLink RX6 3 objectInit ∈ gw := q_217
theorem z_250 : Cond.methodLinkNest "ColourWorks" 77 yX0_init "ColourWorks" ∈ nw := nw_at 250 (by decide +kernel) (by decide +kernel)
theorem q_251 : Cond.instanceMethod yX0_init ∈ gw := gw_at 251 (by decide +kernel) (by decide +kernel)
theorem l_X9_77 : KI RX9 77 mX0_init 0 := ⟨⟨k_X0_init, Or.inr ⟨"ColourWorks", z_250⟩, by decide +kernel⟩, q_251, rfl, rfl⟩
theorem q_253 : Cond.methodLink "ColourWorks$Batch" 1 objectInit ∈ gw := gw_at 253 (by decide +kernel) (by decide +kernel)
theorem o_X0_1 : Cond.methodLink RX0 1 objectInit ∈ gw := q_253
theorem q_254 : Cond.classLink "ColourWorks$Batch" 7 "ColourWorks$Mix" ∈ gw := gw_at 254 (by decide +kernel) (by decide +kernel)
theorem n_X0_7c : Cond.classLink RX0 7 "ColourWorks$Mix" ∈ gw := q_254
theorem q_255 : Cond.instantiable "ColourWorks$Mix" 3 ∈ gw := gw_at 255 (by decide +kernel) (by decide +kernel)
theorem n_X0_7 : NL RX0 7 4 [.null, .int 0, .long 0] 3 := ⟨RX4, TX4, tyX4, rfl, inX4, tyX4_ok, q_254, q_255, q_42, by decide +kernel, fun _ _ => rfl⟩
theorem z_256 : Cond.methodLinkNest "ColourWorks$Batch" 9 yX4_init "ColourWorks" ∈ nw := nw_at 256 (by decide +kernel) (by decide +kernel)
theorem q_257 : Cond.instanceMethod yX4_init ∈ gw := gw_at 257 (by decide +kernel) (by decide +kernel)
theorem l_X0_9 : KI RX0 9 mX4_init 0 := ⟨⟨k_X4_init, Or.inr ⟨"ColourWorks", z_256⟩, by decide +kernel⟩, q_257, rfl, rfl⟩
theorem q_259 : Cond.methodLink "ColourWorks$Mix" 3 objectInit ∈ gw := gw_at 259 (by decide +kernel) (by decide +kernel)
theorem o_X4_3 : Cond.methodLink RX4 3 objectInit ∈ gw := q_259
theorem z_287 : Cond.methodLinkNest "ColourWorks" 78 yX8_init "ColourWorks" ∈ nw := nw_at 287 (by decide +kernel) (by decide +kernel)
theorem q_288 : Cond.instanceMethod yX8_init ∈ gw := gw_at 288 (by decide +kernel) (by decide +kernel)
theorem l_X9_78 : KI RX9 78 mX8_init 0 := ⟨⟨k_X8_init, Or.inr ⟨"ColourWorks", z_287⟩, by decide +kernel⟩, q_288, rfl, rfl⟩
theorem q_290 : Cond.methodLink "ColourWorks$Tank" 3 objectInit ∈ gw := gw_at 290 (by decide +kernel) (by decide +kernel)
theorem o_X8_3 : Cond.methodLink RX8 3 objectInit ∈ gw := q_290
theorem q_291 : Cond.classLink "ColourWorks$Tank" 9 "ColourWorks$Mix" ∈ gw := gw_at 291 (by decide +kernel) (by decide +kernel)
theorem n_X8_9c : Cond.classLink RX8 9 "ColourWorks$Mix" ∈ gw := q_291
theorem n_X8_9 : NL RX8 9 4 [.null, .int 0, .long 0] 3 := ⟨RX4, TX4, tyX4, rfl, inX4, tyX4_ok, q_291, q_255, q_42, by decide +kernel, fun _ _ => rfl⟩
theorem z_292 : Cond.methodLinkNest "ColourWorks$Tank" 11 yX4_init "ColourWorks" ∈ nw := nw_at 292 (by decide +kernel) (by decide +kernel)
theorem l_X8_11 : KI RX8 11 mX4_init 0 := ⟨⟨k_X4_init, Or.inr ⟨"ColourWorks", z_292⟩, by decide +kernel⟩, q_257, rfl, rfl⟩
theorem q_359 : Cond.methodLink "ColourWorksLaw" 13 yX9_base ∈ gw := gw_at 359 (by decide +kernel) (by decide +kernel)
theorem q_360 : Cond.instanceMethod yX9_base ∈ gw := gw_at 360 (by decide +kernel) (by decide +kernel)
theorem q_361 : Cond.selects "ColourWorks" yX9_base yX9_base ∈ gw := gw_at 361 (by decide +kernel) (by decide +kernel)
theorem l_L_13 : KV RL 13 9 mX9_base 2 := ⟨⟨k_X9_base, Or.inl q_359, by decide +kernel⟩, q_360, TX9, 12, rfl, q_361⟩
theorem q_363 : Cond.methodLink "ColourWorks" 79 yX9_isStrength ∈ gw := gw_at 363 (by decide +kernel) (by decide +kernel)
theorem q_364 : Cond.static yX9_isStrength ∈ gw := gw_at 364 (by decide +kernel) (by decide +kernel)
theorem l_X9_79 : KS RX9 79 mX9_isStrength 1 := ⟨⟨k_X9_isStrength, Or.inl q_363, by decide +kernel⟩, q_364⟩
theorem q_366 : Cond.methodLink "ColourWorks" 97 yX9_within ∈ gw := gw_at 366 (by decide +kernel) (by decide +kernel)
theorem q_367 : Cond.static yX9_within ∈ gw := gw_at 367 (by decide +kernel) (by decide +kernel)
theorem l_X9_97 : KS RX9 97 mX9_within 3 := ⟨⟨k_X9_within, Or.inl q_366, by decide +kernel⟩, q_367⟩
theorem q_369 : Cond.methodLink "ColourWorks" 83 yX5_add ∈ gw := gw_at 369 (by decide +kernel) (by decide +kernel)
theorem q_370 : Cond.instanceMethod yX5_add ∈ gw := gw_at 370 (by decide +kernel) (by decide +kernel)
theorem q_371 : Cond.selects "ColourWorks$Palette" yX5_add yX5_add ∈ gw := gw_at 371 (by decide +kernel) (by decide +kernel)
theorem l_X9_83 : KV RX9 83 5 mX5_add 2 := ⟨⟨k_X5_add, Or.inl q_369, by decide +kernel⟩, q_370, TX5, 3, rfl, q_371⟩
theorem q_373 : Cond.methodLink "ColourWorks$Palette" 22 yX5_tell ∈ gw := gw_at 373 (by decide +kernel) (by decide +kernel)
theorem q_374 : Cond.instanceMethod yX5_tell ∈ gw := gw_at 374 (by decide +kernel) (by decide +kernel)
theorem q_375 : Cond.selects "ColourWorks$Palette" yX5_tell yX5_tell ∈ gw := gw_at 375 (by decide +kernel) (by decide +kernel)
theorem l_X5_22 : KV RX5 22 5 mX5_tell 4 := ⟨⟨k_X5_tell, Or.inl q_373, by decide +kernel⟩, q_374, TX5, 3, rfl, q_375⟩
theorem q_377 : Cond.methodLink "ColourWorksLaw" 18 yX9_band ∈ gw := gw_at 377 (by decide +kernel) (by decide +kernel)
theorem q_378 : Cond.instanceMethod yX9_band ∈ gw := gw_at 378 (by decide +kernel) (by decide +kernel)
theorem q_379 : Cond.selects "ColourWorks" yX9_band yX9_band ∈ gw := gw_at 379 (by decide +kernel) (by decide +kernel)
theorem l_L_18 : KV RL 18 9 mX9_band 4 := ⟨⟨k_X9_band, Or.inl q_377, by decide +kernel⟩, q_378, TX9, 12, rfl, q_379⟩
theorem q_381 : Cond.methodLink "ColourWorks" 87 yX5_has ∈ gw := gw_at 381 (by decide +kernel) (by decide +kernel)
theorem q_382 : Cond.instanceMethod yX5_has ∈ gw := gw_at 382 (by decide +kernel) (by decide +kernel)
theorem q_383 : Cond.selects "ColourWorks$Palette" yX5_has yX5_has ∈ gw := gw_at 383 (by decide +kernel) (by decide +kernel)
theorem l_X9_87 : KV RX9 87 5 mX5_has 1 := ⟨⟨k_X5_has, Or.inl q_381, by decide +kernel⟩, q_382, TX5, 3, rfl, q_383⟩
theorem q_385 : Cond.methodLink "ColourWorks" 90 yX9_isBand ∈ gw := gw_at 385 (by decide +kernel) (by decide +kernel)
theorem q_386 : Cond.static yX9_isBand ∈ gw := gw_at 386 (by decide +kernel) (by decide +kernel)
theorem l_X9_90 : KS RX9 90 mX9_isBand 1 := ⟨⟨k_X9_isBand, Or.inl q_385, by decide +kernel⟩, q_386⟩
theorem q_388 : Cond.methodLink "ColourWorks" 93 yX5_tell ∈ gw := gw_at 388 (by decide +kernel) (by decide +kernel)
theorem l_X9_93 : KV RX9 93 5 mX5_tell 4 := ⟨⟨k_X5_tell, Or.inl q_388, by decide +kernel⟩, q_374, TX5, 3, rfl, q_375⟩
theorem q_389 : Cond.methodLink "ColourWorksLaw" 23 yX9_lot ∈ gw := gw_at 389 (by decide +kernel) (by decide +kernel)
theorem q_390 : Cond.instanceMethod yX9_lot ∈ gw := gw_at 390 (by decide +kernel) (by decide +kernel)
theorem q_391 : Cond.selects "ColourWorks" yX9_lot yX9_lot ∈ gw := gw_at 391 (by decide +kernel) (by decide +kernel)
theorem l_L_23 : KV RL 23 9 mX9_lot 3 := ⟨⟨k_X9_lot, Or.inl q_389, by decide +kernel⟩, q_390, TX9, 12, rfl, q_391⟩
theorem q_393 : Cond.methodLink "ColourWorks" 101 yX7_add ∈ gw := gw_at 393 (by decide +kernel) (by decide +kernel)
theorem q_394 : Cond.instanceMethod yX7_add ∈ gw := gw_at 394 (by decide +kernel) (by decide +kernel)
theorem q_395 : Cond.selects "ColourWorks$Store" yX7_add yX7_add ∈ gw := gw_at 395 (by decide +kernel) (by decide +kernel)
theorem l_X9_101 : KV RX9 101 7 mX7_add 3 := ⟨⟨k_X7_add, Or.inl q_393, by decide +kernel⟩, q_394, TX7, 5, rfl, q_395⟩
theorem q_397 : Cond.methodLink "ColourWorksLaw" 28 yX9_left ∈ gw := gw_at 397 (by decide +kernel) (by decide +kernel)
theorem q_398 : Cond.instanceMethod yX9_left ∈ gw := gw_at 398 (by decide +kernel) (by decide +kernel)
theorem q_399 : Cond.selects "ColourWorks" yX9_left yX9_left ∈ gw := gw_at 399 (by decide +kernel) (by decide +kernel)
theorem l_L_28 : KV RL 28 9 mX9_left 1 := ⟨⟨k_X9_left, Or.inl q_397, by decide +kernel⟩, q_398, TX9, 12, rfl, q_399⟩
theorem q_401 : Cond.methodLink "ColourWorks" 104 yX7_has ∈ gw := gw_at 401 (by decide +kernel) (by decide +kernel)
theorem q_402 : Cond.instanceMethod yX7_has ∈ gw := gw_at 402 (by decide +kernel) (by decide +kernel)
theorem q_403 : Cond.selects "ColourWorks$Store" yX7_has yX7_has ∈ gw := gw_at 403 (by decide +kernel) (by decide +kernel)
theorem l_X9_104 : KV RX9 104 7 mX7_has 1 := ⟨⟨k_X7_has, Or.inl q_401, by decide +kernel⟩, q_402, TX7, 5, rfl, q_403⟩
theorem q_405 : Cond.methodLink "ColourWorksLaw" 33 yX9_may ∈ gw := gw_at 405 (by decide +kernel) (by decide +kernel)
theorem q_406 : Cond.instanceMethod yX9_may ∈ gw := gw_at 406 (by decide +kernel) (by decide +kernel)
theorem q_407 : Cond.selects "ColourWorks" yX9_may yX9_may ∈ gw := gw_at 407 (by decide +kernel) (by decide +kernel)
theorem l_L_33 : KV RL 33 9 mX9_may 1 := ⟨⟨k_X9_may, Or.inl q_405, by decide +kernel⟩, q_406, TX9, 12, rfl, q_407⟩
theorem q_409 : Cond.methodLink "ColourWorks" 108 yX7_usableOf ∈ gw := gw_at 409 (by decide +kernel) (by decide +kernel)
theorem q_410 : Cond.instanceMethod yX7_usableOf ∈ gw := gw_at 410 (by decide +kernel) (by decide +kernel)
theorem q_411 : Cond.selects "ColourWorks$Store" yX7_usableOf yX7_usableOf ∈ gw := gw_at 411 (by decide +kernel) (by decide +kernel)
theorem l_X9_108 : KV RX9 108 7 mX7_usableOf 1 := ⟨⟨k_X7_usableOf, Or.inl q_409, by decide +kernel⟩, q_410, TX7, 5, rfl, q_411⟩
theorem q_413 : Cond.methodLink "ColourWorks$Store" 28 yX7_isUsable ∈ gw := gw_at 413 (by decide +kernel) (by decide +kernel)
theorem q_415 : Cond.instanceMethod yX7_isUsable ∈ gw := gw_at 415 (by decide +kernel) (by decide +kernel)
theorem q_0 : Cond.selects "ColourWorks$Store" yX7_isUsable yX7_isUsable ∈ gw := gw_at 0 (by decide +kernel) (by decide +kernel)
theorem l_X7_28 : KV RX7 28 7 mX7_isUsable 2 := ⟨⟨k_X7_isUsable, Or.inl q_413, by decide +kernel⟩, q_415, TX7, 5, rfl, q_0⟩
theorem q_417 : Cond.methodLink "ColourWorksLaw" 37 yX9_day ∈ gw := gw_at 417 (by decide +kernel) (by decide +kernel)
theorem q_418 : Cond.instanceMethod yX9_day ∈ gw := gw_at 418 (by decide +kernel) (by decide +kernel)
theorem q_419 : Cond.selects "ColourWorks" yX9_day yX9_day ∈ gw := gw_at 419 (by decide +kernel) (by decide +kernel)
theorem l_L_37 : KV RL 37 9 mX9_day 1 := ⟨⟨k_X9_day, Or.inl q_417, by decide +kernel⟩, q_418, TX9, 12, rfl, q_419⟩
theorem q_421 : Cond.methodLink "ColourWorksLaw" 41 yX9_recipe ∈ gw := gw_at 421 (by decide +kernel) (by decide +kernel)
theorem q_422 : Cond.instanceMethod yX9_recipe ∈ gw := gw_at 422 (by decide +kernel) (by decide +kernel)
theorem q_423 : Cond.selects "ColourWorks" yX9_recipe yX9_recipe ∈ gw := gw_at 423 (by decide +kernel) (by decide +kernel)
theorem l_L_41 : KV RL 41 9 mX9_recipe 0 := ⟨⟨k_X9_recipe, Or.inl q_421, by decide +kernel⟩, q_422, TX9, 12, rfl, q_423⟩
theorem q_425 : Cond.methodLink "ColourWorks" 115 yX1_add ∈ gw := gw_at 425 (by decide +kernel) (by decide +kernel)
theorem q_426 : Cond.instanceMethod yX1_add ∈ gw := gw_at 426 (by decide +kernel) (by decide +kernel)
theorem q_427 : Cond.selects "ColourWorks$Cookbook" yX1_add yX1_add ∈ gw := gw_at 427 (by decide +kernel) (by decide +kernel)
theorem l_X9_115 : KV RX9 115 1 mX1_add 0 := ⟨⟨k_X1_add, Or.inl q_425, by decide +kernel⟩, q_426, TX1, 7, rfl, q_427⟩
theorem q_429 : Cond.methodLink "ColourWorksLaw" 46 yX9_part ∈ gw := gw_at 429 (by decide +kernel) (by decide +kernel)
theorem q_430 : Cond.instanceMethod yX9_part ∈ gw := gw_at 430 (by decide +kernel) (by decide +kernel)
theorem q_431 : Cond.selects "ColourWorks" yX9_part yX9_part ∈ gw := gw_at 431 (by decide +kernel) (by decide +kernel)
theorem l_L_46 : KV RL 46 9 mX9_part 4 := ⟨⟨k_X9_part, Or.inl q_429, by decide +kernel⟩, q_430, TX9, 12, rfl, q_431⟩
theorem q_433 : Cond.methodLink "ColourWorks" 118 yX1_has ∈ gw := gw_at 433 (by decide +kernel) (by decide +kernel)
theorem q_434 : Cond.instanceMethod yX1_has ∈ gw := gw_at 434 (by decide +kernel) (by decide +kernel)
theorem q_435 : Cond.selects "ColourWorks$Cookbook" yX1_has yX1_has ∈ gw := gw_at 435 (by decide +kernel) (by decide +kernel)
theorem l_X9_118 : KV RX9 118 1 mX1_has 1 := ⟨⟨k_X1_has, Or.inl q_433, by decide +kernel⟩, q_434, TX1, 7, rfl, q_435⟩
theorem q_437 : Cond.methodLink "ColourWorks" 119 yX1_addPart ∈ gw := gw_at 437 (by decide +kernel) (by decide +kernel)
theorem q_438 : Cond.instanceMethod yX1_addPart ∈ gw := gw_at 438 (by decide +kernel) (by decide +kernel)
theorem q_439 : Cond.selects "ColourWorks$Cookbook" yX1_addPart yX1_addPart ∈ gw := gw_at 439 (by decide +kernel) (by decide +kernel)
theorem l_X9_119 : KV RX9 119 1 mX1_addPart 4 := ⟨⟨k_X1_addPart, Or.inl q_437, by decide +kernel⟩, q_438, TX1, 7, rfl, q_439⟩
theorem q_441 : Cond.methodLink "ColourWorks$Cookbook" 35 yX1_resolveAll ∈ gw := gw_at 441 (by decide +kernel) (by decide +kernel)
theorem q_443 : Cond.instanceMethod yX1_resolveAll ∈ gw := gw_at 443 (by decide +kernel) (by decide +kernel)
theorem q_1 : Cond.selects "ColourWorks$Cookbook" yX1_resolveAll yX1_resolveAll ∈ gw := gw_at 1 (by decide +kernel) (by decide +kernel)
theorem l_X1_35 : KV RX1 35 1 mX1_resolveAll 0 := ⟨⟨k_X1_resolveAll, Or.inl q_441, by decide +kernel⟩, q_443, TX1, 7, rfl, q_1⟩
theorem q_445 : Cond.methodLink "ColourWorks$Cookbook" 45 yJ7_fill_53178 ∈ gw := gw_at 445 (by decide +kernel) (by decide +kernel)
theorem q_446 : Cond.static yJ7_fill_53178 ∈ gw := gw_at 446 (by decide +kernel) (by decide +kernel)
theorem l_X1_45 : KS RX1 45 mJ7_fill_53178 2 := ⟨⟨k_J7_fill_53178, Or.inl q_445, by decide +kernel⟩, q_446⟩
theorem q_448 : Cond.methodLink "ColourWorks$Cookbook" 51 yX1_resolveInTrial ∈ gw := gw_at 448 (by decide +kernel) (by decide +kernel)
theorem q_450 : Cond.instanceMethod yX1_resolveInTrial ∈ gw := gw_at 450 (by decide +kernel) (by decide +kernel)
theorem q_2 : Cond.selects "ColourWorks$Cookbook" yX1_resolveInTrial yX1_resolveInTrial ∈ gw := gw_at 2 (by decide +kernel) (by decide +kernel)
theorem l_X1_51 : KV RX1 51 1 mX1_resolveInTrial 1 := ⟨⟨k_X1_resolveInTrial, Or.inl q_448, by decide +kernel⟩, q_450, TX1, 7, rfl, q_2⟩
theorem q_452 : Cond.methodLink "ColourWorks$Cookbook" 55 yX1_addPartToTrial ∈ gw := gw_at 452 (by decide +kernel) (by decide +kernel)
theorem q_454 : Cond.instanceMethod yX1_addPartToTrial ∈ gw := gw_at 454 (by decide +kernel) (by decide +kernel)
theorem q_3 : Cond.selects "ColourWorks$Cookbook" yX1_addPartToTrial yX1_addPartToTrial ∈ gw := gw_at 3 (by decide +kernel) (by decide +kernel)
theorem l_X1_55 : KV RX1 55 1 mX1_addPartToTrial 2 := ⟨⟨k_X1_addPartToTrial, Or.inl q_452, by decide +kernel⟩, q_454, TX1, 7, rfl, q_3⟩
theorem q_456 : Cond.methodLink "ColourWorks$Cookbook" 39 arraycopyName ∈ gw := gw_at 456 (by decide +kernel) (by decide +kernel)
theorem o_X1_39 : Cond.methodLink RX1 39 arraycopyName ∈ gw := q_456
theorem q_459 : Cond.methodLink "ColourWorksLaw" 51 yX9_resolved ∈ gw := gw_at 459 (by decide +kernel) (by decide +kernel)
theorem q_460 : Cond.instanceMethod yX9_resolved ∈ gw := gw_at 460 (by decide +kernel) (by decide +kernel)
theorem q_461 : Cond.selects "ColourWorks" yX9_resolved yX9_resolved ∈ gw := gw_at 461 (by decide +kernel) (by decide +kernel)
theorem l_L_51 : KV RL 51 9 mX9_resolved 2 := ⟨⟨k_X9_resolved, Or.inl q_459, by decide +kernel⟩, q_460, TX9, 12, rfl, q_461⟩
theorem q_463 : Cond.methodLink "ColourWorks" 123 yX1_need ∈ gw := gw_at 463 (by decide +kernel) (by decide +kernel)
theorem q_464 : Cond.instanceMethod yX1_need ∈ gw := gw_at 464 (by decide +kernel) (by decide +kernel)
theorem q_465 : Cond.selects "ColourWorks$Cookbook" yX1_need yX1_need ∈ gw := gw_at 465 (by decide +kernel) (by decide +kernel)
theorem l_X9_123 : KV RX9 123 1 mX1_need 2 := ⟨⟨k_X1_need, Or.inl q_463, by decide +kernel⟩, q_464, TX1, 7, rfl, q_465⟩
theorem q_467 : Cond.methodLink "ColourWorksLaw" 55 yX9_batch ∈ gw := gw_at 467 (by decide +kernel) (by decide +kernel)
theorem q_468 : Cond.instanceMethod yX9_batch ∈ gw := gw_at 468 (by decide +kernel) (by decide +kernel)
theorem q_469 : Cond.selects "ColourWorks" yX9_batch yX9_batch ∈ gw := gw_at 469 (by decide +kernel) (by decide +kernel)
theorem l_L_55 : KV RL 55 9 mX9_batch 0 := ⟨⟨k_X9_batch, Or.inl q_467, by decide +kernel⟩, q_468, TX9, 12, rfl, q_469⟩
theorem q_471 : Cond.methodLink "ColourWorksLaw" 59 yX9_weigh ∈ gw := gw_at 471 (by decide +kernel) (by decide +kernel)
theorem q_472 : Cond.instanceMethod yX9_weigh ∈ gw := gw_at 472 (by decide +kernel) (by decide +kernel)
theorem q_473 : Cond.selects "ColourWorks" yX9_weigh yX9_weigh ∈ gw := gw_at 473 (by decide +kernel) (by decide +kernel)
theorem l_L_59 : KV RL 59 9 mX9_weigh 3 := ⟨⟨k_X9_weigh, Or.inl q_471, by decide +kernel⟩, q_472, TX9, 12, rfl, q_473⟩
theorem q_475 : Cond.methodLink "ColourWorks" 126 yX9_hasBatch ∈ gw := gw_at 475 (by decide +kernel) (by decide +kernel)
theorem q_477 : Cond.instanceMethod yX9_hasBatch ∈ gw := gw_at 477 (by decide +kernel) (by decide +kernel)
theorem q_4 : Cond.selects "ColourWorks" yX9_hasBatch yX9_hasBatch ∈ gw := gw_at 4 (by decide +kernel) (by decide +kernel)
theorem l_X9_126 : KV RX9 126 9 mX9_hasBatch 1 := ⟨⟨k_X9_hasBatch, Or.inl q_475, by decide +kernel⟩, q_477, TX9, 12, rfl, q_4⟩
theorem q_479 : Cond.methodLink "ColourWorks" 129 yJ7_fill_53178 ∈ gw := gw_at 479 (by decide +kernel) (by decide +kernel)
theorem l_X9_129 : KS RX9 129 mJ7_fill_53178 2 := ⟨⟨k_J7_fill_53178, Or.inl q_479, by decide +kernel⟩, q_446⟩
theorem q_480 : Cond.methodLink "ColourWorks" 135 yX9_takeWanted ∈ gw := gw_at 480 (by decide +kernel) (by decide +kernel)
theorem q_482 : Cond.instanceMethod yX9_takeWanted ∈ gw := gw_at 482 (by decide +kernel) (by decide +kernel)
theorem q_5 : Cond.selects "ColourWorks" yX9_takeWanted yX9_takeWanted ∈ gw := gw_at 5 (by decide +kernel) (by decide +kernel)
theorem l_X9_135 : KV RX9 135 9 mX9_takeWanted 1 := ⟨⟨k_X9_takeWanted, Or.inl q_480, by decide +kernel⟩, q_482, TX9, 12, rfl, q_5⟩
theorem q_484 : Cond.methodLink "ColourWorks" 296 yX7_lacks ∈ gw := gw_at 484 (by decide +kernel) (by decide +kernel)
theorem q_485 : Cond.instanceMethod yX7_lacks ∈ gw := gw_at 485 (by decide +kernel) (by decide +kernel)
theorem q_486 : Cond.selects "ColourWorks$Store" yX7_lacks yX7_lacks ∈ gw := gw_at 486 (by decide +kernel) (by decide +kernel)
theorem l_X9_296 : KV RX9 296 7 mX7_lacks 1 := ⟨⟨k_X7_lacks, Or.inl q_484, by decide +kernel⟩, q_485, TX7, 5, rfl, q_486⟩
theorem q_488 : Cond.methodLink "ColourWorks$Store" 32 yX7_usableOf ∈ gw := gw_at 488 (by decide +kernel) (by decide +kernel)
theorem l_X7_32 : KV RX7 32 7 mX7_usableOf 1 := ⟨⟨k_X7_usableOf, Or.inl q_488, by decide +kernel⟩, q_410, TX7, 5, rfl, q_411⟩
theorem q_489 : Cond.methodLink "ColourWorks" 139 yX9_sum ∈ gw := gw_at 489 (by decide +kernel) (by decide +kernel)
theorem q_490 : Cond.static yX9_sum ∈ gw := gw_at 490 (by decide +kernel) (by decide +kernel)
theorem l_X9_139 : KS RX9 139 mX9_sum 1 := ⟨⟨k_X9_sum, Or.inl q_489, by decide +kernel⟩, q_490⟩
theorem q_492 : Cond.methodLink "ColourWorks" 300 yX7_take ∈ gw := gw_at 492 (by decide +kernel) (by decide +kernel)
theorem q_493 : Cond.instanceMethod yX7_take ∈ gw := gw_at 493 (by decide +kernel) (by decide +kernel)
theorem q_494 : Cond.selects "ColourWorks$Store" yX7_take yX7_take ∈ gw := gw_at 494 (by decide +kernel) (by decide +kernel)
theorem l_X9_300 : KV RX9 300 7 mX7_take 3 := ⟨⟨k_X7_take, Or.inl q_492, by decide +kernel⟩, q_493, TX7, 5, rfl, q_494⟩
theorem q_496 : Cond.methodLink "ColourWorks$Store" 36 yX7_nextToEnd ∈ gw := gw_at 496 (by decide +kernel) (by decide +kernel)
theorem q_498 : Cond.instanceMethod yX7_nextToEnd ∈ gw := gw_at 498 (by decide +kernel) (by decide +kernel)
theorem q_6 : Cond.selects "ColourWorks$Store" yX7_nextToEnd yX7_nextToEnd ∈ gw := gw_at 6 (by decide +kernel) (by decide +kernel)
theorem l_X7_36 : KV RX7 36 7 mX7_nextToEnd 1 := ⟨⟨k_X7_nextToEnd, Or.inl q_496, by decide +kernel⟩, q_498, TX7, 5, rfl, q_6⟩
theorem q_500 : Cond.methodLink "ColourWorks$Store" 39 yJ9_min_7cf53 ∈ gw := gw_at 500 (by decide +kernel) (by decide +kernel)
theorem q_501 : Cond.static yJ9_min_7cf53 ∈ gw := gw_at 501 (by decide +kernel) (by decide +kernel)
theorem l_X7_39 : KS RX7 39 mJ9_min_7cf53 2 := ⟨⟨k_J9_min_7cf53, Or.inl q_500, by decide +kernel⟩, q_501⟩
theorem q_503 : Cond.methodLink "ColourWorks$Store" 45 yX4_add ∈ gw := gw_at 503 (by decide +kernel) (by decide +kernel)
theorem q_504 : Cond.instanceMethod yX4_add ∈ gw := gw_at 504 (by decide +kernel) (by decide +kernel)
theorem q_505 : Cond.selects "ColourWorks$Mix" yX4_add yX4_add ∈ gw := gw_at 505 (by decide +kernel) (by decide +kernel)
theorem l_X7_45 : KV RX7 45 4 mX4_add 3 := ⟨⟨k_X4_add, Or.inl q_503, by decide +kernel⟩, q_504, TX4, 3, rfl, q_505⟩
theorem q_507 : Cond.methodLink "ColourWorksLaw" 63 yX9_brew ∈ gw := gw_at 507 (by decide +kernel) (by decide +kernel)
theorem q_508 : Cond.instanceMethod yX9_brew ∈ gw := gw_at 508 (by decide +kernel) (by decide +kernel)
theorem q_509 : Cond.selects "ColourWorks" yX9_brew yX9_brew ∈ gw := gw_at 509 (by decide +kernel) (by decide +kernel)
theorem l_L_63 : KV RL 63 9 mX9_brew 3 := ⟨⟨k_X9_brew, Or.inl q_507, by decide +kernel⟩, q_508, TX9, 12, rfl, q_509⟩
theorem q_511 : Cond.methodLink "ColourWorksLaw" 67 yX9_drops ∈ gw := gw_at 511 (by decide +kernel) (by decide +kernel)
theorem q_512 : Cond.instanceMethod yX9_drops ∈ gw := gw_at 512 (by decide +kernel) (by decide +kernel)
theorem q_513 : Cond.selects "ColourWorks" yX9_drops yX9_drops ∈ gw := gw_at 513 (by decide +kernel) (by decide +kernel)
theorem l_L_67 : KV RL 67 9 mX9_drops 5 := ⟨⟨k_X9_drops, Or.inl q_511, by decide +kernel⟩, q_512, TX9, 12, rfl, q_513⟩
theorem q_515 : Cond.methodLink "ColourWorks" 143 yX9_isAim ∈ gw := gw_at 515 (by decide +kernel) (by decide +kernel)
theorem q_516 : Cond.static yX9_isAim ∈ gw := gw_at 516 (by decide +kernel) (by decide +kernel)
theorem l_X9_143 : KS RX9 143 mX9_isAim 3 := ⟨⟨k_X9_isAim, Or.inl q_515, by decide +kernel⟩, q_516⟩
theorem q_519 : Cond.methodLink "ColourWorks" 159 yX2_aimAt ∈ gw := gw_at 519 (by decide +kernel) (by decide +kernel)
theorem q_520 : Cond.instanceMethod yX2_aimAt ∈ gw := gw_at 520 (by decide +kernel) (by decide +kernel)
theorem q_521 : Cond.selects "ColourWorks$DropSearch" yX2_aimAt yX2_aimAt ∈ gw := gw_at 521 (by decide +kernel) (by decide +kernel)
theorem l_X9_159 : KV RX9 159 2 mX2_aimAt 3 := ⟨⟨k_X2_aimAt, Or.inl q_519, by decide +kernel⟩, q_520, TX2, 11, rfl, q_521⟩
theorem q_523 : Cond.methodLink "ColourWorks" 163 yX2_start ∈ gw := gw_at 523 (by decide +kernel) (by decide +kernel)
theorem q_524 : Cond.instanceMethod yX2_start ∈ gw := gw_at 524 (by decide +kernel) (by decide +kernel)
theorem q_525 : Cond.selects "ColourWorks$DropSearch" yX2_start yX2_start ∈ gw := gw_at 525 (by decide +kernel) (by decide +kernel)
theorem l_X9_163 : KV RX9 163 2 mX2_start 4 := ⟨⟨k_X2_start, Or.inl q_523, by decide +kernel⟩, q_524, TX2, 11, rfl, q_525⟩
theorem q_527 : Cond.methodLink "ColourWorks$DropSearch" 53 yJ9_min_7cf53 ∈ gw := gw_at 527 (by decide +kernel) (by decide +kernel)
theorem l_X2_53 : KS RX2 53 mJ9_min_7cf53 2 := ⟨⟨k_J9_min_7cf53, Or.inl q_527, by decide +kernel⟩, q_501⟩
theorem q_528 : Cond.methodLink "ColourWorks$DropSearch" 59 yX7_usableOf ∈ gw := gw_at 528 (by decide +kernel) (by decide +kernel)
theorem l_X2_59 : KV RX2 59 7 mX7_usableOf 1 := ⟨⟨k_X7_usableOf, Or.inl q_528, by decide +kernel⟩, q_410, TX7, 5, rfl, q_411⟩
theorem q_529 : Cond.methodLink "ColourWorks$DropSearch" 65 yX5_absorbed ∈ gw := gw_at 529 (by decide +kernel) (by decide +kernel)
theorem q_530 : Cond.instanceMethod yX5_absorbed ∈ gw := gw_at 530 (by decide +kernel) (by decide +kernel)
theorem q_531 : Cond.selects "ColourWorks$Palette" yX5_absorbed yX5_absorbed ∈ gw := gw_at 531 (by decide +kernel) (by decide +kernel)
theorem l_X2_65 : KV RX2 65 5 mX5_absorbed 2 := ⟨⟨k_X5_absorbed, Or.inl q_529, by decide +kernel⟩, q_530, TX5, 3, rfl, q_531⟩
theorem q_533 : Cond.methodLink "ColourWorks$Palette" 31 yX5_weighted ∈ gw := gw_at 533 (by decide +kernel) (by decide +kernel)
theorem q_535 : Cond.instanceMethod yX5_weighted ∈ gw := gw_at 535 (by decide +kernel) (by decide +kernel)
theorem q_7 : Cond.selects "ColourWorks$Palette" yX5_weighted yX5_weighted ∈ gw := gw_at 7 (by decide +kernel) (by decide +kernel)
theorem l_X5_31 : KV RX5 31 5 mX5_weighted 3 := ⟨⟨k_X5_weighted, Or.inl q_533, by decide +kernel⟩, q_535, TX5, 3, rfl, q_7⟩
theorem q_537 : Cond.methodLink "ColourWorks$DropSearch" 70 yX5_scattered ∈ gw := gw_at 537 (by decide +kernel) (by decide +kernel)
theorem q_538 : Cond.instanceMethod yX5_scattered ∈ gw := gw_at 538 (by decide +kernel) (by decide +kernel)
theorem q_539 : Cond.selects "ColourWorks$Palette" yX5_scattered yX5_scattered ∈ gw := gw_at 539 (by decide +kernel) (by decide +kernel)
theorem l_X2_70 : KV RX2 70 5 mX5_scattered 2 := ⟨⟨k_X5_scattered, Or.inl q_537, by decide +kernel⟩, q_538, TX5, 3, rfl, q_539⟩
theorem q_541 : Cond.methodLink "ColourWorks" 167 yX2_run ∈ gw := gw_at 541 (by decide +kernel) (by decide +kernel)
theorem q_542 : Cond.instanceMethod yX2_run ∈ gw := gw_at 542 (by decide +kernel) (by decide +kernel)
theorem q_543 : Cond.selects "ColourWorks$DropSearch" yX2_run yX2_run ∈ gw := gw_at 543 (by decide +kernel) (by decide +kernel)
theorem l_X9_167 : KV RX9 167 2 mX2_run 1 := ⟨⟨k_X2_run, Or.inl q_541, by decide +kernel⟩, q_542, TX2, 11, rfl, q_543⟩
theorem q_546 : Cond.methodLink "ColourWorks$DropSearch" 73 yX2_judge ∈ gw := gw_at 546 (by decide +kernel) (by decide +kernel)
theorem q_548 : Cond.instanceMethod yX2_judge ∈ gw := gw_at 548 (by decide +kernel) (by decide +kernel)
theorem q_8 : Cond.selects "ColourWorks$DropSearch" yX2_judge yX2_judge ∈ gw := gw_at 8 (by decide +kernel) (by decide +kernel)
theorem l_X2_73 : KV RX2 73 2 mX2_judge 0 := ⟨⟨k_X2_judge, Or.inl q_546, by decide +kernel⟩, q_548, TX2, 11, rfl, q_8⟩
theorem q_550 : Cond.methodLink "ColourWorks$DropSearch" 80 yX2_missOfTrial ∈ gw := gw_at 550 (by decide +kernel) (by decide +kernel)
theorem q_552 : Cond.instanceMethod yX2_missOfTrial ∈ gw := gw_at 552 (by decide +kernel) (by decide +kernel)
theorem q_9 : Cond.selects "ColourWorks$DropSearch" yX2_missOfTrial yX2_missOfTrial ∈ gw := gw_at 9 (by decide +kernel) (by decide +kernel)
theorem l_X2_80 : KV RX2 80 2 mX2_missOfTrial 0 := ⟨⟨k_X2_missOfTrial, Or.inl q_550, by decide +kernel⟩, q_552, TX2, 11, rfl, q_9⟩
theorem z_554 : Cond.methodLinkNest "ColourWorks$DropSearch" 90 yX9_shadeOfSums "ColourWorks" ∈ nw := nw_at 554 (by decide +kernel) (by decide +kernel)
theorem q_555 : Cond.static yX9_shadeOfSums ∈ gw := gw_at 555 (by decide +kernel) (by decide +kernel)
theorem l_X2_90 : KS RX2 90 mX9_shadeOfSums 2 := ⟨⟨k_X9_shadeOfSums, Or.inr ⟨"ColourWorks", z_554⟩, by decide +kernel⟩, q_555⟩
theorem q_559 : Cond.methodLink "ColourWorks" 311 yJ9_min_f86c9 ∈ gw := gw_at 559 (by decide +kernel) (by decide +kernel)
theorem q_560 : Cond.static yJ9_min_f86c9 ∈ gw := gw_at 560 (by decide +kernel) (by decide +kernel)
theorem l_X9_311 : KS RX9 311 mJ9_min_f86c9 2 := ⟨⟨k_J9_min_f86c9, Or.inl q_559, by decide +kernel⟩, q_560⟩
theorem q_562 : Cond.methodLink "ColourWorks$DropSearch" 94 yJ9_abs_0f7a4 ∈ gw := gw_at 562 (by decide +kernel) (by decide +kernel)
theorem q_563 : Cond.static yJ9_abs_0f7a4 ∈ gw := gw_at 563 (by decide +kernel) (by decide +kernel)
theorem l_X2_94 : KS RX2 94 mJ9_abs_0f7a4 1 := ⟨⟨k_J9_abs_0f7a4, Or.inl q_562, by decide +kernel⟩, q_563⟩
theorem q_565 : Cond.methodLink "ColourWorks$DropSearch" 97 yJ9_max_7cf53 ∈ gw := gw_at 565 (by decide +kernel) (by decide +kernel)
theorem q_566 : Cond.static yJ9_max_7cf53 ∈ gw := gw_at 566 (by decide +kernel) (by decide +kernel)
theorem l_X2_97 : KS RX2 97 mJ9_max_7cf53 2 := ⟨⟨k_J9_max_7cf53, Or.inl q_565, by decide +kernel⟩, q_566⟩
theorem q_568 : Cond.methodLink "ColourWorks$DropSearch" 84 arraycopyName ∈ gw := gw_at 568 (by decide +kernel) (by decide +kernel)
theorem o_X2_84 : Cond.methodLink RX2 84 arraycopyName ∈ gw := q_568
theorem q_569 : Cond.methodLink "ColourWorks$DropSearch" 76 yX2_advance ∈ gw := gw_at 569 (by decide +kernel) (by decide +kernel)
theorem q_571 : Cond.instanceMethod yX2_advance ∈ gw := gw_at 571 (by decide +kernel) (by decide +kernel)
theorem q_10 : Cond.selects "ColourWorks$DropSearch" yX2_advance yX2_advance ∈ gw := gw_at 10 (by decide +kernel) (by decide +kernel)
theorem l_X2_76 : KV RX2 76 2 mX2_advance 1 := ⟨⟨k_X2_advance, Or.inl q_569, by decide +kernel⟩, q_571, TX2, 11, rfl, q_10⟩
theorem q_573 : Cond.methodLink "ColourWorks$DropSearch" 103 yX2_change ∈ gw := gw_at 573 (by decide +kernel) (by decide +kernel)
theorem q_575 : Cond.instanceMethod yX2_change ∈ gw := gw_at 575 (by decide +kernel) (by decide +kernel)
theorem q_11 : Cond.selects "ColourWorks$DropSearch" yX2_change yX2_change ∈ gw := gw_at 11 (by decide +kernel) (by decide +kernel)
theorem l_X2_103 : KV RX2 103 2 mX2_change 3 := ⟨⟨k_X2_change, Or.inl q_573, by decide +kernel⟩, q_575, TX2, 11, rfl, q_11⟩
theorem q_577 : Cond.methodLink "ColourWorksLaw" 72 yX9_drop ∈ gw := gw_at 577 (by decide +kernel) (by decide +kernel)
theorem q_578 : Cond.instanceMethod yX9_drop ∈ gw := gw_at 578 (by decide +kernel) (by decide +kernel)
theorem q_579 : Cond.selects "ColourWorks" yX9_drop yX9_drop ∈ gw := gw_at 579 (by decide +kernel) (by decide +kernel)
theorem l_L_72 : KV RL 72 9 mX9_drop 1 := ⟨⟨k_X9_drop, Or.inl q_577, by decide +kernel⟩, q_578, TX9, 12, rfl, q_579⟩
theorem q_581 : Cond.methodLink "ColourWorksLaw" 76 yX9_dropIn ∈ gw := gw_at 581 (by decide +kernel) (by decide +kernel)
theorem q_582 : Cond.instanceMethod yX9_dropIn ∈ gw := gw_at 582 (by decide +kernel) (by decide +kernel)
theorem q_583 : Cond.selects "ColourWorks" yX9_dropIn yX9_dropIn ∈ gw := gw_at 583 (by decide +kernel) (by decide +kernel)
theorem l_L_76 : KV RL 76 9 mX9_dropIn 1 := ⟨⟨k_X9_dropIn, Or.inl q_581, by decide +kernel⟩, q_582, TX9, 12, rfl, q_583⟩
theorem q_585 : Cond.methodLink "ColourWorks" 177 arraycopyName ∈ gw := gw_at 585 (by decide +kernel) (by decide +kernel)
theorem o_X9_177 : Cond.methodLink RX9 177 arraycopyName ∈ gw := q_585
theorem q_586 : Cond.methodLink "ColourWorksLaw" 80 yX9_amount ∈ gw := gw_at 586 (by decide +kernel) (by decide +kernel)
theorem q_587 : Cond.instanceMethod yX9_amount ∈ gw := gw_at 587 (by decide +kernel) (by decide +kernel)
theorem q_588 : Cond.selects "ColourWorks" yX9_amount yX9_amount ∈ gw := gw_at 588 (by decide +kernel) (by decide +kernel)
theorem l_L_80 : KV RL 80 9 mX9_amount 2 := ⟨⟨k_X9_amount, Or.inl q_586, by decide +kernel⟩, q_587, TX9, 12, rfl, q_588⟩
theorem q_590 : Cond.methodLink "ColourWorksLaw" 84 yX9_shade ∈ gw := gw_at 590 (by decide +kernel) (by decide +kernel)
theorem q_591 : Cond.instanceMethod yX9_shade ∈ gw := gw_at 591 (by decide +kernel) (by decide +kernel)
theorem q_592 : Cond.selects "ColourWorks" yX9_shade yX9_shade ∈ gw := gw_at 592 (by decide +kernel) (by decide +kernel)
theorem l_L_84 : KV RL 84 9 mX9_shade 2 := ⟨⟨k_X9_shade, Or.inl q_590, by decide +kernel⟩, q_591, TX9, 12, rfl, q_592⟩
theorem q_594 : Cond.methodLink "ColourWorks" 186 yX5_shadeOf ∈ gw := gw_at 594 (by decide +kernel) (by decide +kernel)
theorem q_595 : Cond.instanceMethod yX5_shadeOf ∈ gw := gw_at 595 (by decide +kernel) (by decide +kernel)
theorem q_596 : Cond.selects "ColourWorks$Palette" yX5_shadeOf yX5_shadeOf ∈ gw := gw_at 596 (by decide +kernel) (by decide +kernel)
theorem l_X9_186 : KV RX9 186 5 mX5_shadeOf 2 := ⟨⟨k_X5_shadeOf, Or.inl q_594, by decide +kernel⟩, q_595, TX5, 3, rfl, q_596⟩
theorem q_598 : Cond.methodLink "ColourWorks$Palette" 35 yX5_absorbed ∈ gw := gw_at 598 (by decide +kernel) (by decide +kernel)
theorem l_X5_35 : KV RX5 35 5 mX5_absorbed 2 := ⟨⟨k_X5_absorbed, Or.inl q_598, by decide +kernel⟩, q_530, TX5, 3, rfl, q_531⟩
theorem q_599 : Cond.methodLink "ColourWorks$Palette" 39 yX5_scattered ∈ gw := gw_at 599 (by decide +kernel) (by decide +kernel)
theorem l_X5_39 : KV RX5 39 5 mX5_scattered 2 := ⟨⟨k_X5_scattered, Or.inl q_599, by decide +kernel⟩, q_538, TX5, 3, rfl, q_539⟩
theorem z_600 : Cond.methodLinkNest "ColourWorks$Palette" 42 yX9_shadeOfSums "ColourWorks" ∈ nw := nw_at 600 (by decide +kernel) (by decide +kernel)
theorem l_X5_42 : KS RX5 42 mX9_shadeOfSums 2 := ⟨⟨k_X9_shadeOfSums, Or.inr ⟨"ColourWorks", z_600⟩, by decide +kernel⟩, q_555⟩
theorem q_601 : Cond.methodLink "ColourWorksLaw" 88 yX9_miss ∈ gw := gw_at 601 (by decide +kernel) (by decide +kernel)
theorem q_602 : Cond.instanceMethod yX9_miss ∈ gw := gw_at 602 (by decide +kernel) (by decide +kernel)
theorem q_603 : Cond.selects "ColourWorks" yX9_miss yX9_miss ∈ gw := gw_at 603 (by decide +kernel) (by decide +kernel)
theorem l_L_88 : KV RL 88 9 mX9_miss 4 := ⟨⟨k_X9_miss, Or.inl q_601, by decide +kernel⟩, q_602, TX9, 12, rfl, q_603⟩
theorem q_605 : Cond.methodLink "ColourWorks" 190 yJ9_abs_0f7a4 ∈ gw := gw_at 605 (by decide +kernel) (by decide +kernel)
theorem l_X9_190 : KS RX9 190 mJ9_abs_0f7a4 1 := ⟨⟨k_J9_abs_0f7a4, Or.inl q_605, by decide +kernel⟩, q_563⟩
theorem q_606 : Cond.methodLink "ColourWorks" 195 yJ9_max_7cf53 ∈ gw := gw_at 606 (by decide +kernel) (by decide +kernel)
theorem l_X9_195 : KS RX9 195 mJ9_max_7cf53 2 := ⟨⟨k_J9_max_7cf53, Or.inl q_606, by decide +kernel⟩, q_566⟩
theorem q_607 : Cond.methodLink "ColourWorksLaw" 92 yX9_holds ∈ gw := gw_at 607 (by decide +kernel) (by decide +kernel)
theorem q_608 : Cond.instanceMethod yX9_holds ∈ gw := gw_at 608 (by decide +kernel) (by decide +kernel)
theorem q_609 : Cond.selects "ColourWorks" yX9_holds yX9_holds ∈ gw := gw_at 609 (by decide +kernel) (by decide +kernel)
theorem l_L_92 : KV RL 92 9 mX9_holds 2 := ⟨⟨k_X9_holds, Or.inl q_607, by decide +kernel⟩, q_608, TX9, 12, rfl, q_609⟩
theorem q_611 : Cond.methodLink "ColourWorks" 198 yX9_isTank ∈ gw := gw_at 611 (by decide +kernel) (by decide +kernel)
theorem q_612 : Cond.static yX9_isTank ∈ gw := gw_at 612 (by decide +kernel) (by decide +kernel)
theorem l_X9_198 : KS RX9 198 mX9_isTank 1 := ⟨⟨k_X9_isTank, Or.inl q_611, by decide +kernel⟩, q_612⟩
theorem q_615 : Cond.methodLink "ColourWorksLaw" 96 yX9_limit ∈ gw := gw_at 615 (by decide +kernel) (by decide +kernel)
theorem q_616 : Cond.instanceMethod yX9_limit ∈ gw := gw_at 616 (by decide +kernel) (by decide +kernel)
theorem q_617 : Cond.selects "ColourWorks" yX9_limit yX9_limit ∈ gw := gw_at 617 (by decide +kernel) (by decide +kernel)
theorem l_L_96 : KV RL 96 9 mX9_limit 1 := ⟨⟨k_X9_limit, Or.inl q_615, by decide +kernel⟩, q_616, TX9, 12, rfl, q_617⟩
theorem q_619 : Cond.methodLink "ColourWorksLaw" 100 yX9_pour ∈ gw := gw_at 619 (by decide +kernel) (by decide +kernel)
theorem q_620 : Cond.instanceMethod yX9_pour ∈ gw := gw_at 620 (by decide +kernel) (by decide +kernel)
theorem q_621 : Cond.selects "ColourWorks" yX9_pour yX9_pour ∈ gw := gw_at 621 (by decide +kernel) (by decide +kernel)
theorem l_L_100 : KV RL 100 9 mX9_pour 2 := ⟨⟨k_X9_pour, Or.inl q_619, by decide +kernel⟩, q_620, TX9, 12, rfl, q_621⟩
theorem q_623 : Cond.methodLink "ColourWorks" 209 yX8_admits ∈ gw := gw_at 623 (by decide +kernel) (by decide +kernel)
theorem q_624 : Cond.instanceMethod yX8_admits ∈ gw := gw_at 624 (by decide +kernel) (by decide +kernel)
theorem q_625 : Cond.selects "ColourWorks$Tank" yX8_admits yX8_admits ∈ gw := gw_at 625 (by decide +kernel) (by decide +kernel)
theorem l_X9_209 : KV RX9 209 8 mX8_admits 3 := ⟨⟨k_X8_admits, Or.inl q_623, by decide +kernel⟩, q_624, TX8, 7, rfl, q_625⟩
theorem q_627 : Cond.methodLink "ColourWorks$Tank" 39 yX8_isAlike ∈ gw := gw_at 627 (by decide +kernel) (by decide +kernel)
theorem q_629 : Cond.instanceMethod yX8_isAlike ∈ gw := gw_at 629 (by decide +kernel) (by decide +kernel)
theorem q_12 : Cond.selects "ColourWorks$Tank" yX8_isAlike yX8_isAlike ∈ gw := gw_at 12 (by decide +kernel) (by decide +kernel)
theorem l_X8_39 : KV RX8 39 8 mX8_isAlike 3 := ⟨⟨k_X8_isAlike, Or.inl q_627, by decide +kernel⟩, q_629, TX8, 7, rfl, q_12⟩
theorem q_631 : Cond.methodLink "ColourWorks$Tank" 57 yX5_shadeOf ∈ gw := gw_at 631 (by decide +kernel) (by decide +kernel)
theorem l_X8_57 : KV RX8 57 5 mX5_shadeOf 2 := ⟨⟨k_X5_shadeOf, Or.inl q_631, by decide +kernel⟩, q_595, TX5, 3, rfl, q_596⟩
theorem q_632 : Cond.methodLink "ColourWorks$Tank" 63 yJ9_abs_0f7a4 ∈ gw := gw_at 632 (by decide +kernel) (by decide +kernel)
theorem l_X8_63 : KS RX8 63 mJ9_abs_0f7a4 1 := ⟨⟨k_J9_abs_0f7a4, Or.inl q_632, by decide +kernel⟩, q_563⟩
theorem q_633 : Cond.methodLink "ColourWorks$Tank" 43 yX8_coversStain ∈ gw := gw_at 633 (by decide +kernel) (by decide +kernel)
theorem q_635 : Cond.instanceMethod yX8_coversStain ∈ gw := gw_at 635 (by decide +kernel) (by decide +kernel)
theorem q_13 : Cond.selects "ColourWorks$Tank" yX8_coversStain yX8_coversStain ∈ gw := gw_at 13 (by decide +kernel) (by decide +kernel)
theorem l_X8_43 : KV RX8 43 8 mX8_coversStain 2 := ⟨⟨k_X8_coversStain, Or.inl q_633, by decide +kernel⟩, q_635, TX8, 7, rfl, q_13⟩
theorem q_637 : Cond.methodLink "ColourWorks" 213 yX8_receive ∈ gw := gw_at 637 (by decide +kernel) (by decide +kernel)
theorem q_638 : Cond.instanceMethod yX8_receive ∈ gw := gw_at 638 (by decide +kernel) (by decide +kernel)
theorem q_639 : Cond.selects "ColourWorks$Tank" yX8_receive yX8_receive ∈ gw := gw_at 639 (by decide +kernel) (by decide +kernel)
theorem l_X9_213 : KV RX9 213 8 mX8_receive 2 := ⟨⟨k_X8_receive, Or.inl q_637, by decide +kernel⟩, q_638, TX8, 7, rfl, q_639⟩
theorem q_641 : Cond.methodLink "ColourWorks$Tank" 47 yX4_empty ∈ gw := gw_at 641 (by decide +kernel) (by decide +kernel)
theorem q_642 : Cond.instanceMethod yX4_empty ∈ gw := gw_at 642 (by decide +kernel) (by decide +kernel)
theorem q_643 : Cond.selects "ColourWorks$Mix" yX4_empty yX4_empty ∈ gw := gw_at 643 (by decide +kernel) (by decide +kernel)
theorem l_X8_47 : KV RX8 47 4 mX4_empty 0 := ⟨⟨k_X4_empty, Or.inl q_641, by decide +kernel⟩, q_642, TX4, 3, rfl, q_643⟩
theorem q_645 : Cond.methodLink "ColourWorks$Mix" 23 yJ7_fill_53178 ∈ gw := gw_at 645 (by decide +kernel) (by decide +kernel)
theorem l_X4_23 : KS RX4 23 mJ7_fill_53178 2 := ⟨⟨k_J7_fill_53178, Or.inl q_645, by decide +kernel⟩, q_446⟩
theorem q_646 : Cond.methodLink "ColourWorks$Tank" 50 yX4_addAll ∈ gw := gw_at 646 (by decide +kernel) (by decide +kernel)
theorem q_647 : Cond.instanceMethod yX4_addAll ∈ gw := gw_at 647 (by decide +kernel) (by decide +kernel)
theorem q_648 : Cond.selects "ColourWorks$Mix" yX4_addAll yX4_addAll ∈ gw := gw_at 648 (by decide +kernel) (by decide +kernel)
theorem l_X8_50 : KV RX8 50 4 mX4_addAll 1 := ⟨⟨k_X4_addAll, Or.inl q_646, by decide +kernel⟩, q_647, TX4, 3, rfl, q_648⟩
theorem q_650 : Cond.methodLink "ColourWorksLaw" 104 yX9_clean ∈ gw := gw_at 650 (by decide +kernel) (by decide +kernel)
theorem q_651 : Cond.instanceMethod yX9_clean ∈ gw := gw_at 651 (by decide +kernel) (by decide +kernel)
theorem q_652 : Cond.selects "ColourWorks" yX9_clean yX9_clean ∈ gw := gw_at 652 (by decide +kernel) (by decide +kernel)
theorem l_L_104 : KV RL 104 9 mX9_clean 1 := ⟨⟨k_X9_clean, Or.inl q_650, by decide +kernel⟩, q_651, TX9, 12, rfl, q_652⟩
theorem q_654 : Cond.methodLink "ColourWorksLaw" 108 yX9_fill ∈ gw := gw_at 654 (by decide +kernel) (by decide +kernel)
theorem q_655 : Cond.instanceMethod yX9_fill ∈ gw := gw_at 655 (by decide +kernel) (by decide +kernel)
theorem q_656 : Cond.selects "ColourWorks" yX9_fill yX9_fill ∈ gw := gw_at 656 (by decide +kernel) (by decide +kernel)
theorem l_L_108 : KV RL 108 9 mX9_fill 2 := ⟨⟨k_X9_fill, Or.inl q_654, by decide +kernel⟩, q_655, TX9, 12, rfl, q_656⟩
theorem q_658 : Cond.methodLink "ColourWorks" 220 yX3_add ∈ gw := gw_at 658 (by decide +kernel) (by decide +kernel)
theorem q_659 : Cond.instanceMethod yX3_add ∈ gw := gw_at 659 (by decide +kernel) (by decide +kernel)
theorem q_660 : Cond.selects "ColourWorks$DrumYard" yX3_add yX3_add ∈ gw := gw_at 660 (by decide +kernel) (by decide +kernel)
theorem l_X9_220 : KV RX9 220 3 mX3_add 4 := ⟨⟨k_X3_add, Or.inl q_658, by decide +kernel⟩, q_659, TX3, 6, rfl, q_660⟩
theorem q_662 : Cond.methodLink "ColourWorks" 223 yX8_draw ∈ gw := gw_at 662 (by decide +kernel) (by decide +kernel)
theorem q_663 : Cond.instanceMethod yX8_draw ∈ gw := gw_at 663 (by decide +kernel) (by decide +kernel)
theorem q_664 : Cond.selects "ColourWorks$Tank" yX8_draw yX8_draw ∈ gw := gw_at 664 (by decide +kernel) (by decide +kernel)
theorem l_X9_223 : KV RX9 223 8 mX8_draw 2 := ⟨⟨k_X8_draw, Or.inl q_662, by decide +kernel⟩, q_663, TX8, 7, rfl, q_664⟩
theorem q_666 : Cond.methodLink "ColourWorksLaw" 112 yX9_tank ∈ gw := gw_at 666 (by decide +kernel) (by decide +kernel)
theorem q_667 : Cond.instanceMethod yX9_tank ∈ gw := gw_at 667 (by decide +kernel) (by decide +kernel)
theorem q_668 : Cond.selects "ColourWorks" yX9_tank yX9_tank ∈ gw := gw_at 668 (by decide +kernel) (by decide +kernel)
theorem l_L_112 : KV RL 112 9 mX9_tank 2 := ⟨⟨k_X9_tank, Or.inl q_666, by decide +kernel⟩, q_667, TX9, 12, rfl, q_668⟩
theorem q_670 : Cond.methodLink "ColourWorks" 227 yX8_isClean ∈ gw := gw_at 670 (by decide +kernel) (by decide +kernel)
theorem q_671 : Cond.instanceMethod yX8_isClean ∈ gw := gw_at 671 (by decide +kernel) (by decide +kernel)
theorem q_672 : Cond.selects "ColourWorks$Tank" yX8_isClean yX8_isClean ∈ gw := gw_at 672 (by decide +kernel) (by decide +kernel)
theorem l_X9_227 : KV RX9 227 8 mX8_isClean 0 := ⟨⟨k_X8_isClean, Or.inl q_670, by decide +kernel⟩, q_671, TX8, 7, rfl, q_672⟩
theorem q_674 : Cond.methodLink "ColourWorksLaw" 116 yX9_tankShade ∈ gw := gw_at 674 (by decide +kernel) (by decide +kernel)
theorem q_675 : Cond.instanceMethod yX9_tankShade ∈ gw := gw_at 675 (by decide +kernel) (by decide +kernel)
theorem q_676 : Cond.selects "ColourWorks" yX9_tankShade yX9_tankShade ∈ gw := gw_at 676 (by decide +kernel) (by decide +kernel)
theorem l_L_116 : KV RL 116 9 mX9_tankShade 2 := ⟨⟨k_X9_tankShade, Or.inl q_674, by decide +kernel⟩, q_675, TX9, 12, rfl, q_676⟩
theorem q_678 : Cond.methodLink "ColourWorksLaw" 120 yX9_drum ∈ gw := gw_at 678 (by decide +kernel) (by decide +kernel)
theorem q_679 : Cond.instanceMethod yX9_drum ∈ gw := gw_at 679 (by decide +kernel) (by decide +kernel)
theorem q_680 : Cond.selects "ColourWorks" yX9_drum yX9_drum ∈ gw := gw_at 680 (by decide +kernel) (by decide +kernel)
theorem l_L_120 : KV RL 120 9 mX9_drum 2 := ⟨⟨k_X9_drum, Or.inl q_678, by decide +kernel⟩, q_679, TX9, 12, rfl, q_680⟩
theorem q_682 : Cond.methodLink "ColourWorks" 235 yX3_has ∈ gw := gw_at 682 (by decide +kernel) (by decide +kernel)
theorem q_683 : Cond.instanceMethod yX3_has ∈ gw := gw_at 683 (by decide +kernel) (by decide +kernel)
theorem q_684 : Cond.selects "ColourWorks$DrumYard" yX3_has yX3_has ∈ gw := gw_at 684 (by decide +kernel) (by decide +kernel)
theorem l_X9_235 : KV RX9 235 3 mX3_has 1 := ⟨⟨k_X3_has, Or.inl q_682, by decide +kernel⟩, q_683, TX3, 6, rfl, q_684⟩
theorem q_686 : Cond.methodLink "ColourWorks" 246 yJ6_bitCount_0f7a4 ∈ gw := gw_at 686 (by decide +kernel) (by decide +kernel)
theorem q_687 : Cond.static yJ6_bitCount_0f7a4 ∈ gw := gw_at 687 (by decide +kernel) (by decide +kernel)
theorem l_X9_246 : KS RX9 246 mJ6_bitCount_0f7a4 1 := ⟨⟨k_J6_bitCount_0f7a4, Or.inl q_686, by decide +kernel⟩, q_687⟩
theorem q_692 : Cond.methodLink "ColourWorks" 255 yJ13_bitCount_95d88 ∈ gw := gw_at 692 (by decide +kernel) (by decide +kernel)
theorem q_693 : Cond.static yJ13_bitCount_95d88 ∈ gw := gw_at 693 (by decide +kernel) (by decide +kernel)
theorem l_X9_255 : KS RX9 255 mJ13_bitCount_95d88 1 := ⟨⟨k_J13_bitCount_95d88, Or.inl q_692, by decide +kernel⟩, q_693⟩
theorem q_698 : Cond.methodLink "ColourWorksLaw" 124 yX9_inDrum ∈ gw := gw_at 698 (by decide +kernel) (by decide +kernel)
theorem q_699 : Cond.instanceMethod yX9_inDrum ∈ gw := gw_at 699 (by decide +kernel) (by decide +kernel)
theorem q_700 : Cond.selects "ColourWorks" yX9_inDrum yX9_inDrum ∈ gw := gw_at 700 (by decide +kernel) (by decide +kernel)
theorem l_L_124 : KV RL 124 9 mX9_inDrum 3 := ⟨⟨k_X9_inDrum, Or.inl q_698, by decide +kernel⟩, q_699, TX9, 12, rfl, q_700⟩
theorem q_702 : Cond.methodLink "ColourWorks" 260 yX9_hasBit ∈ gw := gw_at 702 (by decide +kernel) (by decide +kernel)
theorem q_703 : Cond.static yX9_hasBit ∈ gw := gw_at 703 (by decide +kernel) (by decide +kernel)
theorem l_X9_260 : KS RX9 260 mX9_hasBit 2 := ⟨⟨k_X9_hasBit, Or.inl q_702, by decide +kernel⟩, q_703⟩
theorem q_705 : Cond.methodLink "ColourWorksLaw" 129 yX9_recall ∈ gw := gw_at 705 (by decide +kernel) (by decide +kernel)
theorem q_706 : Cond.instanceMethod yX9_recall ∈ gw := gw_at 706 (by decide +kernel) (by decide +kernel)
theorem q_707 : Cond.selects "ColourWorks" yX9_recall yX9_recall ∈ gw := gw_at 707 (by decide +kernel) (by decide +kernel)
theorem l_L_129 : KV RL 129 9 mX9_recall 2 := ⟨⟨k_X9_recall, Or.inl q_705, by decide +kernel⟩, q_706, TX9, 12, rfl, q_707⟩
theorem q_709 : Cond.methodLink "ColourWorks" 264 yX3_countWith ∈ gw := gw_at 709 (by decide +kernel) (by decide +kernel)
theorem q_710 : Cond.instanceMethod yX3_countWith ∈ gw := gw_at 710 (by decide +kernel) (by decide +kernel)
theorem q_711 : Cond.selects "ColourWorks$DrumYard" yX3_countWith yX3_countWith ∈ gw := gw_at 711 (by decide +kernel) (by decide +kernel)
theorem l_X9_264 : KV RX9 264 3 mX3_countWith 1 := ⟨⟨k_X3_countWith, Or.inl q_709, by decide +kernel⟩, q_710, TX3, 6, rfl, q_711⟩
theorem z_713 : Cond.methodLinkNest "ColourWorks$DrumYard" 45 yX9_hasBit "ColourWorks" ∈ nw := nw_at 713 (by decide +kernel) (by decide +kernel)
theorem l_X3_45 : KS RX3 45 mX9_hasBit 2 := ⟨⟨k_X9_hasBit, Or.inr ⟨"ColourWorks", z_713⟩, by decide +kernel⟩, q_703⟩
theorem q_714 : Cond.methodLink "ColourWorks" 267 yX9_openBatchesWith ∈ gw := gw_at 714 (by decide +kernel) (by decide +kernel)
theorem q_716 : Cond.instanceMethod yX9_openBatchesWith ∈ gw := gw_at 716 (by decide +kernel) (by decide +kernel)
theorem q_14 : Cond.selects "ColourWorks" yX9_openBatchesWith yX9_openBatchesWith ∈ gw := gw_at 14 (by decide +kernel) (by decide +kernel)
theorem l_X9_267 : KV RX9 267 9 mX9_openBatchesWith 1 := ⟨⟨k_X9_openBatchesWith, Or.inl q_714, by decide +kernel⟩, q_716, TX9, 12, rfl, q_14⟩
theorem q_718 : Cond.methodLink "ColourWorks" 270 yX9_tanksWith ∈ gw := gw_at 718 (by decide +kernel) (by decide +kernel)
theorem q_720 : Cond.instanceMethod yX9_tanksWith ∈ gw := gw_at 720 (by decide +kernel) (by decide +kernel)
theorem q_15 : Cond.selects "ColourWorks" yX9_tanksWith yX9_tanksWith ∈ gw := gw_at 15 (by decide +kernel) (by decide +kernel)
theorem l_X9_270 : KV RX9 270 9 mX9_tanksWith 1 := ⟨⟨k_X9_tanksWith, Or.inl q_718, by decide +kernel⟩, q_720, TX9, 12, rfl, q_15⟩
theorem q_722 : Cond.methodLink "ColourWorksLaw" 133 yX9_job ∈ gw := gw_at 722 (by decide +kernel) (by decide +kernel)
theorem q_723 : Cond.instanceMethod yX9_job ∈ gw := gw_at 723 (by decide +kernel) (by decide +kernel)
theorem q_724 : Cond.selects "ColourWorks" yX9_job yX9_job ∈ gw := gw_at 724 (by decide +kernel) (by decide +kernel)
theorem l_L_133 : KV RL 133 9 mX9_job 4 := ⟨⟨k_X9_job, Or.inl q_722, by decide +kernel⟩, q_723, TX9, 12, rfl, q_724⟩
theorem q_726 : Cond.methodLink "ColourWorks" 273 yX9_isHue ∈ gw := gw_at 726 (by decide +kernel) (by decide +kernel)
theorem q_727 : Cond.static yX9_isHue ∈ gw := gw_at 727 (by decide +kernel) (by decide +kernel)
theorem l_X9_273 : KS RX9 273 mX9_isHue 1 := ⟨⟨k_X9_isHue, Or.inl q_726, by decide +kernel⟩, q_727⟩
theorem q_729 : Cond.methodLink "ColourWorks" 276 yX6_add ∈ gw := gw_at 729 (by decide +kernel) (by decide +kernel)
theorem q_730 : Cond.instanceMethod yX6_add ∈ gw := gw_at 730 (by decide +kernel) (by decide +kernel)
theorem q_731 : Cond.selects "ColourWorks$Schedule" yX6_add yX6_add ∈ gw := gw_at 731 (by decide +kernel) (by decide +kernel)
theorem l_X9_276 : KV RX9 276 6 mX6_add 4 := ⟨⟨k_X6_add, Or.inl q_729, by decide +kernel⟩, q_730, TX6, 9, rfl, q_731⟩
theorem q_733 : Cond.methodLink "ColourWorksLaw" 137 yX9_cleaning ∈ gw := gw_at 733 (by decide +kernel) (by decide +kernel)
theorem q_734 : Cond.instanceMethod yX9_cleaning ∈ gw := gw_at 734 (by decide +kernel) (by decide +kernel)
theorem q_735 : Cond.selects "ColourWorks" yX9_cleaning yX9_cleaning ∈ gw := gw_at 735 (by decide +kernel) (by decide +kernel)
theorem l_L_137 : KV RL 137 9 mX9_cleaning 3 := ⟨⟨k_X9_cleaning, Or.inl q_733, by decide +kernel⟩, q_734, TX9, 12, rfl, q_735⟩
theorem q_737 : Cond.methodLink "ColourWorks" 279 yX6_tellChange ∈ gw := gw_at 737 (by decide +kernel) (by decide +kernel)
theorem q_738 : Cond.instanceMethod yX6_tellChange ∈ gw := gw_at 738 (by decide +kernel) (by decide +kernel)
theorem q_739 : Cond.selects "ColourWorks$Schedule" yX6_tellChange yX6_tellChange ∈ gw := gw_at 739 (by decide +kernel) (by decide +kernel)
theorem l_X9_279 : KV RX9 279 6 mX6_tellChange 3 := ⟨⟨k_X6_tellChange, Or.inl q_737, by decide +kernel⟩, q_738, TX6, 9, rfl, q_739⟩
theorem q_741 : Cond.methodLink "ColourWorksLaw" 141 yX9_plan ∈ gw := gw_at 741 (by decide +kernel) (by decide +kernel)
theorem q_742 : Cond.instanceMethod yX9_plan ∈ gw := gw_at 742 (by decide +kernel) (by decide +kernel)
theorem q_743 : Cond.selects "ColourWorks" yX9_plan yX9_plan ∈ gw := gw_at 743 (by decide +kernel) (by decide +kernel)
theorem l_L_141 : KV RL 141 9 mX9_plan 1 := ⟨⟨k_X9_plan, Or.inl q_741, by decide +kernel⟩, q_742, TX9, 12, rfl, q_743⟩
theorem q_745 : Cond.methodLink "ColourWorks" 282 yX6_arrange ∈ gw := gw_at 745 (by decide +kernel) (by decide +kernel)
theorem q_746 : Cond.instanceMethod yX6_arrange ∈ gw := gw_at 746 (by decide +kernel) (by decide +kernel)
theorem q_747 : Cond.selects "ColourWorks$Schedule" yX6_arrange yX6_arrange ∈ gw := gw_at 747 (by decide +kernel) (by decide +kernel)
theorem l_X9_282 : KV RX9 282 6 mX6_arrange 1 := ⟨⟨k_X6_arrange, Or.inl q_745, by decide +kernel⟩, q_746, TX6, 9, rfl, q_747⟩
theorem q_749 : Cond.methodLink "ColourWorks$Schedule" 40 yX6_timeOfSet ∈ gw := gw_at 749 (by decide +kernel) (by decide +kernel)
theorem q_751 : Cond.instanceMethod yX6_timeOfSet ∈ gw := gw_at 751 (by decide +kernel) (by decide +kernel)
theorem q_16 : Cond.selects "ColourWorks$Schedule" yX6_timeOfSet yX6_timeOfSet ∈ gw := gw_at 16 (by decide +kernel) (by decide +kernel)
theorem l_X6_40 : KV RX6 40 6 mX6_timeOfSet 1 := ⟨⟨k_X6_timeOfSet, Or.inl q_749, by decide +kernel⟩, q_751, TX6, 9, rfl, q_16⟩
theorem z_753 : Cond.methodLinkNest "ColourWorks$Schedule" 56 yX9_hasBit "ColourWorks" ∈ nw := nw_at 753 (by decide +kernel) (by decide +kernel)
theorem l_X6_56 : KS RX6 56 mX9_hasBit 2 := ⟨⟨k_X9_hasBit, Or.inr ⟨"ColourWorks", z_753⟩, by decide +kernel⟩, q_703⟩
theorem q_754 : Cond.methodLink "ColourWorks$Schedule" 44 yX6_bestNext ∈ gw := gw_at 754 (by decide +kernel) (by decide +kernel)
theorem q_756 : Cond.instanceMethod yX6_bestNext ∈ gw := gw_at 756 (by decide +kernel) (by decide +kernel)
theorem q_17 : Cond.selects "ColourWorks$Schedule" yX6_bestNext yX6_bestNext ∈ gw := gw_at 17 (by decide +kernel) (by decide +kernel)
theorem l_X6_44 : KV RX6 44 6 mX6_bestNext 3 := ⟨⟨k_X6_bestNext, Or.inl q_754, by decide +kernel⟩, q_756, TX6, 9, rfl, q_17⟩
theorem q_758 : Cond.methodLink "ColourWorks$Schedule" 48 yX6_costWith ∈ gw := gw_at 758 (by decide +kernel) (by decide +kernel)
theorem q_760 : Cond.instanceMethod yX6_costWith ∈ gw := gw_at 760 (by decide +kernel) (by decide +kernel)
theorem q_18 : Cond.selects "ColourWorks$Schedule" yX6_costWith yX6_costWith ∈ gw := gw_at 18 (by decide +kernel) (by decide +kernel)
theorem l_X6_48 : KV RX6 48 6 mX6_costWith 4 := ⟨⟨k_X6_costWith, Or.inl q_758, by decide +kernel⟩, q_760, TX6, 9, rfl, q_18⟩
theorem q_762 : Cond.methodLink "ColourWorks$Schedule" 60 yJ9_max_7cf53 ∈ gw := gw_at 762 (by decide +kernel) (by decide +kernel)
theorem l_X6_60 : KS RX6 60 mJ9_max_7cf53 2 := ⟨⟨k_J9_max_7cf53, Or.inl q_762, by decide +kernel⟩, q_566⟩
theorem q_763 : Cond.methodLink "ColourWorks$Schedule" 52 yX6_writeOrder ∈ gw := gw_at 763 (by decide +kernel) (by decide +kernel)
theorem q_765 : Cond.instanceMethod yX6_writeOrder ∈ gw := gw_at 765 (by decide +kernel) (by decide +kernel)
theorem q_19 : Cond.selects "ColourWorks$Schedule" yX6_writeOrder yX6_writeOrder ∈ gw := gw_at 19 (by decide +kernel) (by decide +kernel)
theorem l_X6_52 : KV RX6 52 6 mX6_writeOrder 1 := ⟨⟨k_X6_writeOrder, Or.inl q_763, by decide +kernel⟩, q_765, TX6, 9, rfl, q_19⟩
theorem q_767 : Cond.methodLink "ColourWorksLaw" 145 yX9_planned ∈ gw := gw_at 767 (by decide +kernel) (by decide +kernel)
theorem q_768 : Cond.instanceMethod yX9_planned ∈ gw := gw_at 768 (by decide +kernel) (by decide +kernel)
theorem q_769 : Cond.selects "ColourWorks" yX9_planned yX9_planned ∈ gw := gw_at 769 (by decide +kernel) (by decide +kernel)
theorem l_L_145 : KV RL 145 9 mX9_planned 1 := ⟨⟨k_X9_planned, Or.inl q_767, by decide +kernel⟩, q_768, TX9, 12, rfl, q_769⟩
theorem q_771 : Cond.methodLink "ColourWorksLaw" 149 yX9_idle ∈ gw := gw_at 771 (by decide +kernel) (by decide +kernel)
theorem q_772 : Cond.instanceMethod yX9_idle ∈ gw := gw_at 772 (by decide +kernel) (by decide +kernel)
theorem q_773 : Cond.selects "ColourWorks" yX9_idle yX9_idle ∈ gw := gw_at 773 (by decide +kernel) (by decide +kernel)
theorem l_L_149 : KV RL 149 9 mX9_idle 0 := ⟨⟨k_X9_idle, Or.inl q_771, by decide +kernel⟩, q_772, TX9, 12, rfl, q_773⟩
theorem q_775 : Cond.methodLink "ColourWorksLaw" 153 yX9_count ∈ gw := gw_at 775 (by decide +kernel) (by decide +kernel)
theorem q_776 : Cond.instanceMethod yX9_count ∈ gw := gw_at 776 (by decide +kernel) (by decide +kernel)
theorem q_777 : Cond.selects "ColourWorks" yX9_count yX9_count ∈ gw := gw_at 777 (by decide +kernel) (by decide +kernel)
theorem l_L_153 : KV RL 153 9 mX9_count 1 := ⟨⟨k_X9_count, Or.inl q_775, by decide +kernel⟩, q_776, TX9, 12, rfl, q_777⟩
theorem q_779 : Cond.classLink "ColourWorksLaw" 10 "ColourWorksModel" ∈ gw := gw_at 779 (by decide +kernel) (by decide +kernel)
theorem n_L_10c : Cond.classLink RL 10 "ColourWorksModel" ∈ gw := q_779
theorem q_780 : Cond.instantiable "ColourWorksModel" 49 ∈ gw := gw_at 780 (by decide +kernel) (by decide +kernel)
theorem n_L_10 : NL RL 10 10 [.int 0, .int 0, .null, .null, .int 0, .null, .null, .null, .int 0, .null, .null, .null, .null, .null, .null, .int 0, .null, .null, .null, .int 0, .null, .null, .null, .null, .null, .null, .null, .null, .null, .null, .int 0, .int 0, .null, .null, .null, .null, .null, .int 0, .int 0, .null, .null, .null, .null, .null, .int 0, .null, .null, .null, .null] 49 := ⟨RX10, TX10, tyX10, rfl, inX10, tyX10_ok, q_779, q_780, q_44, by decide +kernel, fun _ _ => rfl⟩
theorem q_781 : Cond.methodLink "ColourWorksLaw" 12 yX10_init ∈ gw := gw_at 781 (by decide +kernel) (by decide +kernel)
theorem q_782 : Cond.instanceMethod yX10_init ∈ gw := gw_at 782 (by decide +kernel) (by decide +kernel)
theorem l_L_12 : KI RL 12 mX10_init 0 := ⟨⟨k_X10_init, Or.inl q_781, by decide +kernel⟩, q_782, rfl, rfl⟩
theorem q_784 : Cond.methodLink "ColourWorksModel" 1 objectInit ∈ gw := gw_at 784 (by decide +kernel) (by decide +kernel)
theorem o_X10_1 : Cond.methodLink RX10 1 objectInit ∈ gw := q_784
theorem q_933 : Cond.methodLink "ColourWorksLaw" 17 yX10_base ∈ gw := gw_at 933 (by decide +kernel) (by decide +kernel)
theorem q_934 : Cond.instanceMethod yX10_base ∈ gw := gw_at 934 (by decide +kernel) (by decide +kernel)
theorem q_935 : Cond.selects "ColourWorksModel" yX10_base yX10_base ∈ gw := gw_at 935 (by decide +kernel) (by decide +kernel)
theorem l_L_17 : KV RL 17 10 mX10_base 2 := ⟨⟨k_X10_base, Or.inl q_933, by decide +kernel⟩, q_934, TX10, 49, rfl, q_935⟩
theorem q_937 : Cond.methodLink "ColourWorksModel" 133 yX10_in ∈ gw := gw_at 937 (by decide +kernel) (by decide +kernel)
theorem q_938 : Cond.static yX10_in ∈ gw := gw_at 938 (by decide +kernel) (by decide +kernel)
theorem l_X10_133 : KS RX10 133 mX10_in 3 := ⟨⟨k_X10_in, Or.inl q_937, by decide +kernel⟩, q_938⟩
theorem q_940 : Cond.methodLink "ColourWorksLaw" 22 yX10_band ∈ gw := gw_at 940 (by decide +kernel) (by decide +kernel)
theorem q_941 : Cond.instanceMethod yX10_band ∈ gw := gw_at 941 (by decide +kernel) (by decide +kernel)
theorem q_942 : Cond.selects "ColourWorksModel" yX10_band yX10_band ∈ gw := gw_at 942 (by decide +kernel) (by decide +kernel)
theorem l_L_22 : KV RL 22 10 mX10_band 4 := ⟨⟨k_X10_band, Or.inl q_940, by decide +kernel⟩, q_941, TX10, 49, rfl, q_942⟩
theorem q_944 : Cond.methodLink "ColourWorksModel" 140 yX10_isBase ∈ gw := gw_at 944 (by decide +kernel) (by decide +kernel)
theorem q_946 : Cond.instanceMethod yX10_isBase ∈ gw := gw_at 946 (by decide +kernel) (by decide +kernel)
theorem q_20 : Cond.selects "ColourWorksModel" yX10_isBase yX10_isBase ∈ gw := gw_at 20 (by decide +kernel) (by decide +kernel)
theorem l_X10_140 : KV RX10 140 10 mX10_isBase 1 := ⟨⟨k_X10_isBase, Or.inl q_944, by decide +kernel⟩, q_946, TX10, 49, rfl, q_20⟩
theorem q_948 : Cond.methodLink "ColourWorksLaw" 27 yX10_lot ∈ gw := gw_at 948 (by decide +kernel) (by decide +kernel)
theorem q_949 : Cond.instanceMethod yX10_lot ∈ gw := gw_at 949 (by decide +kernel) (by decide +kernel)
theorem q_950 : Cond.selects "ColourWorksModel" yX10_lot yX10_lot ∈ gw := gw_at 950 (by decide +kernel) (by decide +kernel)
theorem l_L_27 : KV RL 27 10 mX10_lot 3 := ⟨⟨k_X10_lot, Or.inl q_948, by decide +kernel⟩, q_949, TX10, 49, rfl, q_950⟩
theorem q_952 : Cond.methodLink "ColourWorksLaw" 32 yX10_left ∈ gw := gw_at 952 (by decide +kernel) (by decide +kernel)
theorem q_953 : Cond.instanceMethod yX10_left ∈ gw := gw_at 953 (by decide +kernel) (by decide +kernel)
theorem q_954 : Cond.selects "ColourWorksModel" yX10_left yX10_left ∈ gw := gw_at 954 (by decide +kernel) (by decide +kernel)
theorem l_L_32 : KV RL 32 10 mX10_left 1 := ⟨⟨k_X10_left, Or.inl q_952, by decide +kernel⟩, q_953, TX10, 49, rfl, q_954⟩
theorem q_956 : Cond.methodLink "ColourWorksLaw" 36 yX10_may ∈ gw := gw_at 956 (by decide +kernel) (by decide +kernel)
theorem q_957 : Cond.instanceMethod yX10_may ∈ gw := gw_at 957 (by decide +kernel) (by decide +kernel)
theorem q_958 : Cond.selects "ColourWorksModel" yX10_may yX10_may ∈ gw := gw_at 958 (by decide +kernel) (by decide +kernel)
theorem l_L_36 : KV RL 36 10 mX10_may 1 := ⟨⟨k_X10_may, Or.inl q_956, by decide +kernel⟩, q_957, TX10, 49, rfl, q_958⟩
theorem q_960 : Cond.methodLink "ColourWorksModel" 154 yX10_mayOf ∈ gw := gw_at 960 (by decide +kernel) (by decide +kernel)
theorem q_962 : Cond.instanceMethod yX10_mayOf ∈ gw := gw_at 962 (by decide +kernel) (by decide +kernel)
theorem q_21 : Cond.selects "ColourWorksModel" yX10_mayOf yX10_mayOf ∈ gw := gw_at 21 (by decide +kernel) (by decide +kernel)
theorem l_X10_154 : KV RX10 154 10 mX10_mayOf 1 := ⟨⟨k_X10_mayOf, Or.inl q_960, by decide +kernel⟩, q_962, TX10, 49, rfl, q_21⟩
theorem q_964 : Cond.methodLink "ColourWorksModel" 150 yX10_mayTake ∈ gw := gw_at 964 (by decide +kernel) (by decide +kernel)
theorem q_966 : Cond.instanceMethod yX10_mayTake ∈ gw := gw_at 966 (by decide +kernel) (by decide +kernel)
theorem q_22 : Cond.selects "ColourWorksModel" yX10_mayTake yX10_mayTake ∈ gw := gw_at 22 (by decide +kernel) (by decide +kernel)
theorem l_X10_150 : KV RX10 150 10 mX10_mayTake 2 := ⟨⟨k_X10_mayTake, Or.inl q_964, by decide +kernel⟩, q_966, TX10, 49, rfl, q_22⟩
theorem q_968 : Cond.methodLink "ColourWorksLaw" 40 yX10_day ∈ gw := gw_at 968 (by decide +kernel) (by decide +kernel)
theorem q_969 : Cond.instanceMethod yX10_day ∈ gw := gw_at 969 (by decide +kernel) (by decide +kernel)
theorem q_970 : Cond.selects "ColourWorksModel" yX10_day yX10_day ∈ gw := gw_at 970 (by decide +kernel) (by decide +kernel)
theorem l_L_40 : KV RL 40 10 mX10_day 1 := ⟨⟨k_X10_day, Or.inl q_968, by decide +kernel⟩, q_969, TX10, 49, rfl, q_970⟩
theorem q_972 : Cond.methodLink "ColourWorksLaw" 45 yX10_recipe ∈ gw := gw_at 972 (by decide +kernel) (by decide +kernel)
theorem q_973 : Cond.instanceMethod yX10_recipe ∈ gw := gw_at 973 (by decide +kernel) (by decide +kernel)
theorem q_974 : Cond.selects "ColourWorksModel" yX10_recipe yX10_recipe ∈ gw := gw_at 974 (by decide +kernel) (by decide +kernel)
theorem l_L_45 : KV RL 45 10 mX10_recipe 0 := ⟨⟨k_X10_recipe, Or.inl q_972, by decide +kernel⟩, q_973, TX10, 49, rfl, q_974⟩
theorem q_976 : Cond.methodLink "ColourWorksLaw" 50 yX10_part ∈ gw := gw_at 976 (by decide +kernel) (by decide +kernel)
theorem q_977 : Cond.instanceMethod yX10_part ∈ gw := gw_at 977 (by decide +kernel) (by decide +kernel)
theorem q_978 : Cond.selects "ColourWorksModel" yX10_part yX10_part ∈ gw := gw_at 978 (by decide +kernel) (by decide +kernel)
theorem l_L_50 : KV RL 50 10 mX10_part 4 := ⟨⟨k_X10_part, Or.inl q_976, by decide +kernel⟩, q_977, TX10, 49, rfl, q_978⟩
theorem q_980 : Cond.methodLink "ColourWorksModel" 161 yX10_findNeeds ∈ gw := gw_at 980 (by decide +kernel) (by decide +kernel)
theorem q_982 : Cond.instanceMethod yX10_findNeeds ∈ gw := gw_at 982 (by decide +kernel) (by decide +kernel)
theorem q_23 : Cond.selects "ColourWorksModel" yX10_findNeeds yX10_findNeeds ∈ gw := gw_at 23 (by decide +kernel) (by decide +kernel)
theorem l_X10_161 : KV RX10 161 10 mX10_findNeeds 0 := ⟨⟨k_X10_findNeeds, Or.inl q_980, by decide +kernel⟩, q_982, TX10, 49, rfl, q_23⟩
theorem q_984 : Cond.methodLink "ColourWorksLaw" 54 yX10_resolved ∈ gw := gw_at 984 (by decide +kernel) (by decide +kernel)
theorem q_985 : Cond.instanceMethod yX10_resolved ∈ gw := gw_at 985 (by decide +kernel) (by decide +kernel)
theorem q_986 : Cond.selects "ColourWorksModel" yX10_resolved yX10_resolved ∈ gw := gw_at 986 (by decide +kernel) (by decide +kernel)
theorem l_L_54 : KV RL 54 10 mX10_resolved 2 := ⟨⟨k_X10_resolved, Or.inl q_984, by decide +kernel⟩, q_985, TX10, 49, rfl, q_986⟩
theorem q_988 : Cond.methodLink "ColourWorksLaw" 58 yX10_batch ∈ gw := gw_at 988 (by decide +kernel) (by decide +kernel)
theorem q_989 : Cond.instanceMethod yX10_batch ∈ gw := gw_at 989 (by decide +kernel) (by decide +kernel)
theorem q_990 : Cond.selects "ColourWorksModel" yX10_batch yX10_batch ∈ gw := gw_at 990 (by decide +kernel) (by decide +kernel)
theorem l_L_58 : KV RL 58 10 mX10_batch 0 := ⟨⟨k_X10_batch, Or.inl q_988, by decide +kernel⟩, q_989, TX10, 49, rfl, q_990⟩
theorem q_992 : Cond.methodLink "ColourWorksLaw" 62 yX10_weigh ∈ gw := gw_at 992 (by decide +kernel) (by decide +kernel)
theorem q_993 : Cond.instanceMethod yX10_weigh ∈ gw := gw_at 993 (by decide +kernel) (by decide +kernel)
theorem q_994 : Cond.selects "ColourWorksModel" yX10_weigh yX10_weigh ∈ gw := gw_at 994 (by decide +kernel) (by decide +kernel)
theorem l_L_62 : KV RL 62 10 mX10_weigh 3 := ⟨⟨k_X10_weigh, Or.inl q_992, by decide +kernel⟩, q_993, TX10, 49, rfl, q_994⟩
theorem q_996 : Cond.methodLink "ColourWorksModel" 165 yX10_isBatch ∈ gw := gw_at 996 (by decide +kernel) (by decide +kernel)
theorem q_998 : Cond.instanceMethod yX10_isBatch ∈ gw := gw_at 998 (by decide +kernel) (by decide +kernel)
theorem q_24 : Cond.selects "ColourWorksModel" yX10_isBatch yX10_isBatch ∈ gw := gw_at 24 (by decide +kernel) (by decide +kernel)
theorem l_X10_165 : KV RX10 165 10 mX10_isBatch 1 := ⟨⟨k_X10_isBatch, Or.inl q_996, by decide +kernel⟩, q_998, TX10, 49, rfl, q_24⟩
theorem q_1000 : Cond.methodLink "ColourWorksModel" 168 yX10_unitsOf ∈ gw := gw_at 1000 (by decide +kernel) (by decide +kernel)
theorem q_1002 : Cond.instanceMethod yX10_unitsOf ∈ gw := gw_at 1002 (by decide +kernel) (by decide +kernel)
theorem q_25 : Cond.selects "ColourWorksModel" yX10_unitsOf yX10_unitsOf ∈ gw := gw_at 25 (by decide +kernel) (by decide +kernel)
theorem l_X10_168 : KV RX10 168 10 mX10_unitsOf 1 := ⟨⟨k_X10_unitsOf, Or.inl q_1000, by decide +kernel⟩, q_1002, TX10, 49, rfl, q_25⟩
theorem q_1004 : Cond.methodLink "ColourWorksModel" 171 yX10_take ∈ gw := gw_at 1004 (by decide +kernel) (by decide +kernel)
theorem q_1006 : Cond.instanceMethod yX10_take ∈ gw := gw_at 1006 (by decide +kernel) (by decide +kernel)
theorem q_26 : Cond.selects "ColourWorksModel" yX10_take yX10_take ∈ gw := gw_at 26 (by decide +kernel) (by decide +kernel)
theorem l_X10_171 : KV RX10 171 10 mX10_take 3 := ⟨⟨k_X10_take, Or.inl q_1004, by decide +kernel⟩, q_1006, TX10, 49, rfl, q_26⟩
theorem q_1008 : Cond.methodLink "ColourWorksLaw" 66 yX10_brew ∈ gw := gw_at 1008 (by decide +kernel) (by decide +kernel)
theorem q_1009 : Cond.instanceMethod yX10_brew ∈ gw := gw_at 1009 (by decide +kernel) (by decide +kernel)
theorem q_1010 : Cond.selects "ColourWorksModel" yX10_brew yX10_brew ∈ gw := gw_at 1010 (by decide +kernel) (by decide +kernel)
theorem l_L_66 : KV RL 66 10 mX10_brew 3 := ⟨⟨k_X10_brew, Or.inl q_1008, by decide +kernel⟩, q_1009, TX10, 49, rfl, q_1010⟩
theorem q_1012 : Cond.methodLink "ColourWorksLaw" 71 yX10_drops ∈ gw := gw_at 1012 (by decide +kernel) (by decide +kernel)
theorem q_1013 : Cond.instanceMethod yX10_drops ∈ gw := gw_at 1013 (by decide +kernel) (by decide +kernel)
theorem q_1014 : Cond.selects "ColourWorksModel" yX10_drops yX10_drops ∈ gw := gw_at 1014 (by decide +kernel) (by decide +kernel)
theorem l_L_71 : KV RL 71 10 mX10_drops 5 := ⟨⟨k_X10_drops, Or.inl q_1012, by decide +kernel⟩, q_1013, TX10, 49, rfl, q_1014⟩
theorem q_1016 : Cond.methodLink "ColourWorksModel" 184 yX10_isAim ∈ gw := gw_at 1016 (by decide +kernel) (by decide +kernel)
theorem q_1017 : Cond.static yX10_isAim ∈ gw := gw_at 1017 (by decide +kernel) (by decide +kernel)
theorem l_X10_184 : KS RX10 184 mX10_isAim 3 := ⟨⟨k_X10_isAim, Or.inl q_1016, by decide +kernel⟩, q_1017⟩
theorem q_1020 : Cond.methodLink "ColourWorksModel" 187 yX10_missOf ∈ gw := gw_at 1020 (by decide +kernel) (by decide +kernel)
theorem q_1022 : Cond.instanceMethod yX10_missOf ∈ gw := gw_at 1022 (by decide +kernel) (by decide +kernel)
theorem q_27 : Cond.selects "ColourWorksModel" yX10_missOf yX10_missOf ∈ gw := gw_at 27 (by decide +kernel) (by decide +kernel)
theorem l_X10_187 : KV RX10 187 10 mX10_missOf 5 := ⟨⟨k_X10_missOf, Or.inl q_1020, by decide +kernel⟩, q_1022, TX10, 49, rfl, q_27⟩
theorem q_1024 : Cond.methodLink "ColourWorksModel" 180 yX10_shadeOf ∈ gw := gw_at 1024 (by decide +kernel) (by decide +kernel)
theorem q_1026 : Cond.instanceMethod yX10_shadeOf ∈ gw := gw_at 1026 (by decide +kernel) (by decide +kernel)
theorem q_28 : Cond.selects "ColourWorksModel" yX10_shadeOf yX10_shadeOf ∈ gw := gw_at 28 (by decide +kernel) (by decide +kernel)
theorem l_X10_180 : KV RX10 180 10 mX10_shadeOf 4 := ⟨⟨k_X10_shadeOf, Or.inl q_1024, by decide +kernel⟩, q_1026, TX10, 49, rfl, q_28⟩
theorem q_1030 : Cond.methodLink "ColourWorksModel" 191 yX10_hasNext ∈ gw := gw_at 1030 (by decide +kernel) (by decide +kernel)
theorem q_1032 : Cond.instanceMethod yX10_hasNext ∈ gw := gw_at 1032 (by decide +kernel) (by decide +kernel)
theorem q_29 : Cond.selects "ColourWorksModel" yX10_hasNext yX10_hasNext ∈ gw := gw_at 29 (by decide +kernel) (by decide +kernel)
theorem l_X10_191 : KV RX10 191 10 mX10_hasNext 2 := ⟨⟨k_X10_hasNext, Or.inl q_1030, by decide +kernel⟩, q_1032, TX10, 49, rfl, q_29⟩
theorem q_1034 : Cond.methodLink "ColourWorksLaw" 75 yX10_drop ∈ gw := gw_at 1034 (by decide +kernel) (by decide +kernel)
theorem q_1035 : Cond.instanceMethod yX10_drop ∈ gw := gw_at 1035 (by decide +kernel) (by decide +kernel)
theorem q_1036 : Cond.selects "ColourWorksModel" yX10_drop yX10_drop ∈ gw := gw_at 1036 (by decide +kernel) (by decide +kernel)
theorem l_L_75 : KV RL 75 10 mX10_drop 1 := ⟨⟨k_X10_drop, Or.inl q_1034, by decide +kernel⟩, q_1035, TX10, 49, rfl, q_1036⟩
theorem q_1038 : Cond.methodLink "ColourWorksLaw" 79 yX10_dropIn ∈ gw := gw_at 1038 (by decide +kernel) (by decide +kernel)
theorem q_1039 : Cond.instanceMethod yX10_dropIn ∈ gw := gw_at 1039 (by decide +kernel) (by decide +kernel)
theorem q_1040 : Cond.selects "ColourWorksModel" yX10_dropIn yX10_dropIn ∈ gw := gw_at 1040 (by decide +kernel) (by decide +kernel)
theorem l_L_79 : KV RL 79 10 mX10_dropIn 1 := ⟨⟨k_X10_dropIn, Or.inl q_1038, by decide +kernel⟩, q_1039, TX10, 49, rfl, q_1040⟩
theorem q_1042 : Cond.methodLink "ColourWorksLaw" 83 yX10_amount ∈ gw := gw_at 1042 (by decide +kernel) (by decide +kernel)
theorem q_1043 : Cond.instanceMethod yX10_amount ∈ gw := gw_at 1043 (by decide +kernel) (by decide +kernel)
theorem q_1044 : Cond.selects "ColourWorksModel" yX10_amount yX10_amount ∈ gw := gw_at 1044 (by decide +kernel) (by decide +kernel)
theorem l_L_83 : KV RL 83 10 mX10_amount 2 := ⟨⟨k_X10_amount, Or.inl q_1042, by decide +kernel⟩, q_1043, TX10, 49, rfl, q_1044⟩
theorem q_1046 : Cond.methodLink "ColourWorksLaw" 87 yX10_shade ∈ gw := gw_at 1046 (by decide +kernel) (by decide +kernel)
theorem q_1047 : Cond.instanceMethod yX10_shade ∈ gw := gw_at 1047 (by decide +kernel) (by decide +kernel)
theorem q_1048 : Cond.selects "ColourWorksModel" yX10_shade yX10_shade ∈ gw := gw_at 1048 (by decide +kernel) (by decide +kernel)
theorem l_L_87 : KV RL 87 10 mX10_shade 2 := ⟨⟨k_X10_shade, Or.inl q_1046, by decide +kernel⟩, q_1047, TX10, 49, rfl, q_1048⟩
theorem q_1050 : Cond.methodLink "ColourWorksLaw" 91 yX10_miss ∈ gw := gw_at 1050 (by decide +kernel) (by decide +kernel)
theorem q_1051 : Cond.instanceMethod yX10_miss ∈ gw := gw_at 1051 (by decide +kernel) (by decide +kernel)
theorem q_1052 : Cond.selects "ColourWorksModel" yX10_miss yX10_miss ∈ gw := gw_at 1052 (by decide +kernel) (by decide +kernel)
theorem l_L_91 : KV RL 91 10 mX10_miss 4 := ⟨⟨k_X10_miss, Or.inl q_1050, by decide +kernel⟩, q_1051, TX10, 49, rfl, q_1052⟩
theorem q_1054 : Cond.methodLink "ColourWorksLaw" 95 yX10_holds ∈ gw := gw_at 1054 (by decide +kernel) (by decide +kernel)
theorem q_1055 : Cond.instanceMethod yX10_holds ∈ gw := gw_at 1055 (by decide +kernel) (by decide +kernel)
theorem q_1056 : Cond.selects "ColourWorksModel" yX10_holds yX10_holds ∈ gw := gw_at 1056 (by decide +kernel) (by decide +kernel)
theorem l_L_95 : KV RL 95 10 mX10_holds 2 := ⟨⟨k_X10_holds, Or.inl q_1054, by decide +kernel⟩, q_1055, TX10, 49, rfl, q_1056⟩
theorem q_1058 : Cond.methodLink "ColourWorksModel" 199 yX10_isTank ∈ gw := gw_at 1058 (by decide +kernel) (by decide +kernel)
theorem q_1059 : Cond.static yX10_isTank ∈ gw := gw_at 1059 (by decide +kernel) (by decide +kernel)
theorem l_X10_199 : KS RX10 199 mX10_isTank 1 := ⟨⟨k_X10_isTank, Or.inl q_1058, by decide +kernel⟩, q_1059⟩
theorem q_1062 : Cond.methodLink "ColourWorksLaw" 99 yX10_limit ∈ gw := gw_at 1062 (by decide +kernel) (by decide +kernel)
theorem q_1063 : Cond.instanceMethod yX10_limit ∈ gw := gw_at 1063 (by decide +kernel) (by decide +kernel)
theorem q_1064 : Cond.selects "ColourWorksModel" yX10_limit yX10_limit ∈ gw := gw_at 1064 (by decide +kernel) (by decide +kernel)
theorem l_L_99 : KV RL 99 10 mX10_limit 1 := ⟨⟨k_X10_limit, Or.inl q_1062, by decide +kernel⟩, q_1063, TX10, 49, rfl, q_1064⟩
theorem q_1066 : Cond.methodLink "ColourWorksLaw" 103 yX10_pour ∈ gw := gw_at 1066 (by decide +kernel) (by decide +kernel)
theorem q_1067 : Cond.instanceMethod yX10_pour ∈ gw := gw_at 1067 (by decide +kernel) (by decide +kernel)
theorem q_1068 : Cond.selects "ColourWorksModel" yX10_pour yX10_pour ∈ gw := gw_at 1068 (by decide +kernel) (by decide +kernel)
theorem l_L_103 : KV RL 103 10 mX10_pour 2 := ⟨⟨k_X10_pour, Or.inl q_1066, by decide +kernel⟩, q_1067, TX10, 49, rfl, q_1068⟩
theorem q_1070 : Cond.methodLink "ColourWorksModel" 203 yX10_mayPour ∈ gw := gw_at 1070 (by decide +kernel) (by decide +kernel)
theorem q_1072 : Cond.instanceMethod yX10_mayPour ∈ gw := gw_at 1072 (by decide +kernel) (by decide +kernel)
theorem q_30 : Cond.selects "ColourWorksModel" yX10_mayPour yX10_mayPour ∈ gw := gw_at 30 (by decide +kernel) (by decide +kernel)
theorem l_X10_203 : KV RX10 203 10 mX10_mayPour 2 := ⟨⟨k_X10_mayPour, Or.inl q_1070, by decide +kernel⟩, q_1072, TX10, 49, rfl, q_30⟩
theorem q_1074 : Cond.methodLink "ColourWorksLaw" 107 yX10_clean ∈ gw := gw_at 1074 (by decide +kernel) (by decide +kernel)
theorem q_1075 : Cond.instanceMethod yX10_clean ∈ gw := gw_at 1075 (by decide +kernel) (by decide +kernel)
theorem q_1076 : Cond.selects "ColourWorksModel" yX10_clean yX10_clean ∈ gw := gw_at 1076 (by decide +kernel) (by decide +kernel)
theorem l_L_107 : KV RL 107 10 mX10_clean 1 := ⟨⟨k_X10_clean, Or.inl q_1074, by decide +kernel⟩, q_1075, TX10, 49, rfl, q_1076⟩
theorem q_1078 : Cond.methodLink "ColourWorksLaw" 111 yX10_fill ∈ gw := gw_at 1078 (by decide +kernel) (by decide +kernel)
theorem q_1079 : Cond.instanceMethod yX10_fill ∈ gw := gw_at 1079 (by decide +kernel) (by decide +kernel)
theorem q_1080 : Cond.selects "ColourWorksModel" yX10_fill yX10_fill ∈ gw := gw_at 1080 (by decide +kernel) (by decide +kernel)
theorem l_L_111 : KV RL 111 10 mX10_fill 2 := ⟨⟨k_X10_fill, Or.inl q_1078, by decide +kernel⟩, q_1079, TX10, 49, rfl, q_1080⟩
theorem q_1082 : Cond.methodLink "ColourWorksLaw" 115 yX10_tank ∈ gw := gw_at 1082 (by decide +kernel) (by decide +kernel)
theorem q_1083 : Cond.instanceMethod yX10_tank ∈ gw := gw_at 1083 (by decide +kernel) (by decide +kernel)
theorem q_1084 : Cond.selects "ColourWorksModel" yX10_tank yX10_tank ∈ gw := gw_at 1084 (by decide +kernel) (by decide +kernel)
theorem l_L_115 : KV RL 115 10 mX10_tank 2 := ⟨⟨k_X10_tank, Or.inl q_1082, by decide +kernel⟩, q_1083, TX10, 49, rfl, q_1084⟩
theorem q_1086 : Cond.methodLink "ColourWorksLaw" 119 yX10_tankShade ∈ gw := gw_at 1086 (by decide +kernel) (by decide +kernel)
theorem q_1087 : Cond.instanceMethod yX10_tankShade ∈ gw := gw_at 1087 (by decide +kernel) (by decide +kernel)
theorem q_1088 : Cond.selects "ColourWorksModel" yX10_tankShade yX10_tankShade ∈ gw := gw_at 1088 (by decide +kernel) (by decide +kernel)
theorem l_L_119 : KV RL 119 10 mX10_tankShade 2 := ⟨⟨k_X10_tankShade, Or.inl q_1086, by decide +kernel⟩, q_1087, TX10, 49, rfl, q_1088⟩
theorem q_1090 : Cond.methodLink "ColourWorksLaw" 123 yX10_drum ∈ gw := gw_at 1090 (by decide +kernel) (by decide +kernel)
theorem q_1091 : Cond.instanceMethod yX10_drum ∈ gw := gw_at 1091 (by decide +kernel) (by decide +kernel)
theorem q_1092 : Cond.selects "ColourWorksModel" yX10_drum yX10_drum ∈ gw := gw_at 1092 (by decide +kernel) (by decide +kernel)
theorem l_L_123 : KV RL 123 10 mX10_drum 2 := ⟨⟨k_X10_drum, Or.inl q_1090, by decide +kernel⟩, q_1091, TX10, 49, rfl, q_1092⟩
theorem q_1094 : Cond.methodLink "ColourWorksModel" 212 yX10_many ∈ gw := gw_at 1094 (by decide +kernel) (by decide +kernel)
theorem q_1095 : Cond.static yX10_many ∈ gw := gw_at 1095 (by decide +kernel) (by decide +kernel)
theorem l_X10_212 : KS RX10 212 mX10_many 1 := ⟨⟨k_X10_many, Or.inl q_1094, by decide +kernel⟩, q_1095⟩
theorem q_1097 : Cond.methodLink "ColourWorksLaw" 128 yX10_inDrum ∈ gw := gw_at 1097 (by decide +kernel) (by decide +kernel)
theorem q_1098 : Cond.instanceMethod yX10_inDrum ∈ gw := gw_at 1098 (by decide +kernel) (by decide +kernel)
theorem q_1099 : Cond.selects "ColourWorksModel" yX10_inDrum yX10_inDrum ∈ gw := gw_at 1099 (by decide +kernel) (by decide +kernel)
theorem l_L_128 : KV RL 128 10 mX10_inDrum 3 := ⟨⟨k_X10_inDrum, Or.inl q_1097, by decide +kernel⟩, q_1098, TX10, 49, rfl, q_1099⟩
theorem q_1101 : Cond.methodLink "ColourWorksLaw" 132 yX10_recall ∈ gw := gw_at 1101 (by decide +kernel) (by decide +kernel)
theorem q_1102 : Cond.instanceMethod yX10_recall ∈ gw := gw_at 1102 (by decide +kernel) (by decide +kernel)
theorem q_1103 : Cond.selects "ColourWorksModel" yX10_recall yX10_recall ∈ gw := gw_at 1103 (by decide +kernel) (by decide +kernel)
theorem l_L_132 : KV RL 132 10 mX10_recall 2 := ⟨⟨k_X10_recall, Or.inl q_1101, by decide +kernel⟩, q_1102, TX10, 49, rfl, q_1103⟩
theorem q_1105 : Cond.methodLink "ColourWorksLaw" 136 yX10_job ∈ gw := gw_at 1105 (by decide +kernel) (by decide +kernel)
theorem q_1106 : Cond.instanceMethod yX10_job ∈ gw := gw_at 1106 (by decide +kernel) (by decide +kernel)
theorem q_1107 : Cond.selects "ColourWorksModel" yX10_job yX10_job ∈ gw := gw_at 1107 (by decide +kernel) (by decide +kernel)
theorem l_L_136 : KV RL 136 10 mX10_job 4 := ⟨⟨k_X10_job, Or.inl q_1105, by decide +kernel⟩, q_1106, TX10, 49, rfl, q_1107⟩
theorem q_1109 : Cond.methodLink "ColourWorksModel" 216 yX10_isHue ∈ gw := gw_at 1109 (by decide +kernel) (by decide +kernel)
theorem q_1110 : Cond.static yX10_isHue ∈ gw := gw_at 1110 (by decide +kernel) (by decide +kernel)
theorem l_X10_216 : KS RX10 216 mX10_isHue 1 := ⟨⟨k_X10_isHue, Or.inl q_1109, by decide +kernel⟩, q_1110⟩
theorem q_1112 : Cond.methodLink "ColourWorksLaw" 140 yX10_cleaning ∈ gw := gw_at 1112 (by decide +kernel) (by decide +kernel)
theorem q_1113 : Cond.instanceMethod yX10_cleaning ∈ gw := gw_at 1113 (by decide +kernel) (by decide +kernel)
theorem q_1114 : Cond.selects "ColourWorksModel" yX10_cleaning yX10_cleaning ∈ gw := gw_at 1114 (by decide +kernel) (by decide +kernel)
theorem l_L_140 : KV RL 140 10 mX10_cleaning 3 := ⟨⟨k_X10_cleaning, Or.inl q_1112, by decide +kernel⟩, q_1113, TX10, 49, rfl, q_1114⟩
theorem q_1116 : Cond.methodLink "ColourWorksLaw" 144 yX10_plan ∈ gw := gw_at 1116 (by decide +kernel) (by decide +kernel)
theorem q_1117 : Cond.instanceMethod yX10_plan ∈ gw := gw_at 1117 (by decide +kernel) (by decide +kernel)
theorem q_1118 : Cond.selects "ColourWorksModel" yX10_plan yX10_plan ∈ gw := gw_at 1118 (by decide +kernel) (by decide +kernel)
theorem l_L_144 : KV RL 144 10 mX10_plan 1 := ⟨⟨k_X10_plan, Or.inl q_1116, by decide +kernel⟩, q_1117, TX10, 49, rfl, q_1118⟩
theorem q_1120 : Cond.methodLink "ColourWorksModel" 226 yX10_bestNext ∈ gw := gw_at 1120 (by decide +kernel) (by decide +kernel)
theorem q_1122 : Cond.instanceMethod yX10_bestNext ∈ gw := gw_at 1122 (by decide +kernel) (by decide +kernel)
theorem q_31 : Cond.selects "ColourWorksModel" yX10_bestNext yX10_bestNext ∈ gw := gw_at 31 (by decide +kernel) (by decide +kernel)
theorem l_X10_226 : KV RX10 226 10 mX10_bestNext 2 := ⟨⟨k_X10_bestNext, Or.inl q_1120, by decide +kernel⟩, q_1122, TX10, 49, rfl, q_31⟩
theorem q_1124 : Cond.methodLink "ColourWorksModel" 222 yX10_through ∈ gw := gw_at 1124 (by decide +kernel) (by decide +kernel)
theorem q_1126 : Cond.instanceMethod yX10_through ∈ gw := gw_at 1126 (by decide +kernel) (by decide +kernel)
theorem q_32 : Cond.selects "ColourWorksModel" yX10_through yX10_through ∈ gw := gw_at 32 (by decide +kernel) (by decide +kernel)
theorem l_X10_222 : KV RX10 222 10 mX10_through 3 := ⟨⟨k_X10_through, Or.inl q_1124, by decide +kernel⟩, q_1126, TX10, 49, rfl, q_32⟩
theorem q_1128 : Cond.methodLink "ColourWorksLaw" 148 yX10_planned ∈ gw := gw_at 1128 (by decide +kernel) (by decide +kernel)
theorem q_1129 : Cond.instanceMethod yX10_planned ∈ gw := gw_at 1129 (by decide +kernel) (by decide +kernel)
theorem q_1130 : Cond.selects "ColourWorksModel" yX10_planned yX10_planned ∈ gw := gw_at 1130 (by decide +kernel) (by decide +kernel)
theorem l_L_148 : KV RL 148 10 mX10_planned 1 := ⟨⟨k_X10_planned, Or.inl q_1128, by decide +kernel⟩, q_1129, TX10, 49, rfl, q_1130⟩
theorem q_1132 : Cond.methodLink "ColourWorksLaw" 152 yX10_idle ∈ gw := gw_at 1132 (by decide +kernel) (by decide +kernel)
theorem q_1133 : Cond.instanceMethod yX10_idle ∈ gw := gw_at 1133 (by decide +kernel) (by decide +kernel)
theorem q_1134 : Cond.selects "ColourWorksModel" yX10_idle yX10_idle ∈ gw := gw_at 1134 (by decide +kernel) (by decide +kernel)
theorem l_L_152 : KV RL 152 10 mX10_idle 0 := ⟨⟨k_X10_idle, Or.inl q_1132, by decide +kernel⟩, q_1133, TX10, 49, rfl, q_1134⟩
theorem q_1136 : Cond.methodLink "ColourWorksLaw" 156 yX10_count ∈ gw := gw_at 1136 (by decide +kernel) (by decide +kernel)
theorem q_1137 : Cond.instanceMethod yX10_count ∈ gw := gw_at 1137 (by decide +kernel) (by decide +kernel)
theorem q_1138 : Cond.selects "ColourWorksModel" yX10_count yX10_count ∈ gw := gw_at 1138 (by decide +kernel) (by decide +kernel)
theorem l_L_156 : KV RL 156 10 mX10_count 1 := ⟨⟨k_X10_count, Or.inl q_1136, by decide +kernel⟩, q_1137, TX10, 49, rfl, q_1138⟩
theorem q_518 : Cond.constant "ColourWorks" 208 (1000000) ∈ gw := gw_at 518 (by decide +kernel) (by decide +kernel)
theorem v_X9_208 : Cond.constant RX9 208 (1000000) ∈ gw := q_518
theorem q_545 : Cond.constant "ColourWorks$DropSearch" 72 (1000001) ∈ gw := gw_at 545 (by decide +kernel) (by decide +kernel)
theorem v_X2_72 : Cond.constant RX2 72 (1000001) ∈ gw := q_545
theorem q_557 : Cond.constantLong "ColourWorks" 307 (1000000) ∈ gw := gw_at 557 (by decide +kernel) (by decide +kernel)
theorem v_X9_307 : Cond.constantLong RX9 307 (1000000) ∈ gw := q_557
theorem q_558 : Cond.constantLong "ColourWorks" 309 (1000) ∈ gw := gw_at 558 (by decide +kernel) (by decide +kernel)
theorem v_X9_309 : Cond.constantLong RX9 309 (1000) ∈ gw := q_558
theorem q_614 : Cond.constant "ColourWorks" 201 (60000) ∈ gw := gw_at 614 (by decide +kernel) (by decide +kernel)
theorem v_X9_201 : Cond.constant RX9 201 (60000) ∈ gw := q_614
theorem q_689 : Cond.constant "java/lang/Integer" 265 (1431655765) ∈ gw := gw_at 689 (by decide +kernel) (by decide +kernel)
theorem v_J6_265 : Cond.constant RJ6 265 (1431655765) ∈ gw := q_689
theorem q_690 : Cond.constant "java/lang/Integer" 266 (858993459) ∈ gw := gw_at 690 (by decide +kernel) (by decide +kernel)
theorem v_J6_266 : Cond.constant RJ6 266 (858993459) ∈ gw := q_690
theorem q_691 : Cond.constant "java/lang/Integer" 267 (252645135) ∈ gw := gw_at 691 (by decide +kernel) (by decide +kernel)
theorem v_J6_267 : Cond.constant RJ6 267 (252645135) ∈ gw := q_691
theorem q_695 : Cond.constantLong "java/lang/Long" 314 (6148914691236517205) ∈ gw := gw_at 695 (by decide +kernel) (by decide +kernel)
theorem v_J13_314 : Cond.constantLong RJ13 314 (6148914691236517205) ∈ gw := q_695
theorem q_696 : Cond.constantLong "java/lang/Long" 316 (3689348814741910323) ∈ gw := gw_at 696 (by decide +kernel) (by decide +kernel)
theorem v_J13_316 : Cond.constantLong RJ13 316 (3689348814741910323) ∈ gw := q_696
theorem q_697 : Cond.constantLong "java/lang/Long" 318 (1085102592571150095) ∈ gw := gw_at 697 (by decide +kernel) (by decide +kernel)
theorem v_J13_318 : Cond.constantLong RJ13 318 (1085102592571150095) ∈ gw := q_697
theorem q_1019 : Cond.constant "ColourWorksModel" 175 (1000000) ∈ gw := gw_at 1019 (by decide +kernel) (by decide +kernel)
theorem v_X10_175 : Cond.constant RX10 175 (1000000) ∈ gw := q_1019
theorem q_1028 : Cond.constantLong "ColourWorksModel" 176 (1000) ∈ gw := gw_at 1028 (by decide +kernel) (by decide +kernel)
theorem v_X10_176 : Cond.constantLong RX10 176 (1000) ∈ gw := q_1028
theorem q_1029 : Cond.constantLong "ColourWorksModel" 178 (1000000) ∈ gw := gw_at 1029 (by decide +kernel) (by decide +kernel)
theorem v_X10_178 : Cond.constantLong RX10 178 (1000000) ∈ gw := q_1029
theorem q_1061 : Cond.constant "ColourWorksModel" 202 (60000) ∈ gw := gw_at 1061 (by decide +kernel) (by decide +kernel)
theorem v_X10_202 : Cond.constant RX10 202 (60000) ∈ gw := q_1061
end
section
/-! The state: cells read and written by their kinds; a shape that no call changes. -/
def fI (h : HF) (a k : Nat) : Int32 := match h a with
  | .inr (_, fs) => (match fs.getD k .null with
    | .int x => x
    | _ => 0)
  | _ => 0
def fJ (h : HF) (a k : Nat) : Int64 := match h a with
  | .inr (_, fs) => (match fs.getD k .null with
    | .long x => x
    | _ => 0)
  | _ => 0
def gi (h : HF) (a : Nat) : Nat → Int32 := match h a with
  | .inl (_, _, .inl f) => f
  | _ => fun _ => 0
def gl (h : HF) (a : Nat) : Nat → Int64 := match h a with
  | .inl (_, _, .inr (.inl f)) => f
  | _ => fun _ => 0
def stI : List Value → Nat → Int32 → List Value
  | [], _, _ => []
  | a :: l, 0, v => (match a with
    | .int _ => .int v
    | w => w) :: l
  | a :: l, k + 1, v => a :: stI l k v
def stJ : List Value → Nat → Int64 → List Value
  | [], _, _ => []
  | a :: l, 0, v => (match a with
    | .long _ => .long v
    | w => w) :: l
  | a :: l, k + 1, v => a :: stJ l k v
def cI (c : CE) (k : Nat) (v : Int32) : CE := match c with
  | .inr (ci, fs) => .inr (ci, stI fs k v)
  | c => c
def cJ (c : CE) (k : Nat) (v : Int64) : CE := match c with
  | .inr (ci, fs) => .inr (ci, stJ fs k v)
  | c => c
def ci (c : CE) (f : Nat → Int32) : CE := match c with
  | .inl (t, N, .inl _) => .inl (t, N, .inl f)
  | c => c
def cl (c : CE) (f : Nat → Int64) : CE := match c with
  | .inl (t, N, .inr (.inl _)) => .inl (t, N, .inr (.inl f))
  | c => c
def sI (h : HF) (a k : Nat) (v : Int32) : HF := hu h a (cI (h a) k v)
def sJ (h : HF) (a k : Nat) (v : Int64) : HF := hu h a (cJ (h a) k v)
def si (h : HF) (a : Nat) (f : Nat → Int32) : HF := hu h a (ci (h a) f)
def sl (h : HF) (a : Nat) (f : Nat → Int64) : HF := hu h a (cl (h a) f)
def erv (v : Value) : Value := match v with
  | .int _ => .int 0
  | .long _ => .long 0
  | w => w
def shp (c : CE) : CE := match c with
  | .inl (t, N, .inl _) => .inl (t, N, .inl (fun _ => 0))
  | .inl (t, N, .inr (.inl _)) => .inl (t, N, .inr (.inl (fun _ => 0)))
  | .inl x => .inl x
  | .inr (ci, fs) => .inr (ci, fs.map erv)
theorem erv_stI : ∀ (fs : List Value) (k : Nat) (v : Int32), (stI fs k v).map erv = fs.map erv
  | [], _, _ => rfl
  | a :: l, 0, v => by cases a <;> rfl
  | a :: l, k + 1, v => by simp only [stI, List.map_cons, erv_stI l k v]
theorem erv_stJ : ∀ (fs : List Value) (k : Nat) (v : Int64), (stJ fs k v).map erv = fs.map erv
  | [], _, _ => rfl
  | a :: l, 0, v => by cases a <;> rfl
  | a :: l, k + 1, v => by simp only [stJ, List.map_cons, erv_stJ l k v]
theorem shp_cI (c : CE) (k : Nat) (v : Int32) : shp (cI c k v) = shp c := by
  rcases c with ⟨t, N, f | f | f | f | f⟩ | ⟨ci, fs⟩ <;> simp [cI, shp, erv_stI]
theorem shp_cJ (c : CE) (k : Nat) (v : Int64) : shp (cJ c k v) = shp c := by
  rcases c with ⟨t, N, f | f | f | f | f⟩ | ⟨ci, fs⟩ <;> simp [cJ, shp, erv_stJ]
theorem shp_ci (c : CE) (g : Nat → Int32) : shp (ci c g) = shp c := by
  rcases c with ⟨t, N, f | f | f | f | f⟩ | ⟨ci, fs⟩ <;> rfl
theorem shp_cl (c : CE) (g : Nat → Int64) : shp (cl c g) = shp c := by
  rcases c with ⟨t, N, f | f | f | f | f⟩ | ⟨ci, fs⟩ <;> rfl
def fil (h : HF) (a : Nat) : Nat → List Value → List Value
  | _, [] => []
  | i, .int _ :: l => .int (fI h a i) :: fil h a (i + 1) l
  | i, .long _ :: l => .long (fJ h a i) :: fil h a (i + 1) l
  | i, v :: l => v :: fil h a (i + 1) l
theorem fil_eq (h : HF) (a ci : Nat) : ∀ (l pre : List Value), h a = .inr (ci, pre ++ l) → fil h a pre.length (l.map erv) = l
  | [], _, _ => rfl
  | v :: l, pre, e => by
    have ih := fil_eq h a ci l (pre ++ [v]) (by rw [e]; simp)
    rw [List.length_append] at ih
    have hg : (pre ++ v :: l).getD pre.length .null = v := by simp
    cases v with
    | int x =>
      have h1 : fI h a pre.length = x := by simp only [fI, e, hg]
      simp only [List.map_cons, erv, fil, h1]
      exact congrArg _ ih
    | long x =>
      have h1 : fJ h a pre.length = x := by simp only [fJ, e, hg]
      simp only [List.map_cons, erv, fil, h1]
      exact congrArg _ ih
    | _ =>
      simp only [List.map_cons, erv, fil]
      exact congrArg _ ih
def rB (j : Nat) : Option Nat := cond (Nat.ble j 23) (some (40 + 3 * j)) none
def rT (j : Nat) : Option Nat := cond (Nat.ble j 4) (some (112 + 4 * j)) none
def lkc : List CE → Nat → CE
  | [], _ => .inr (0, [])
  | c :: _, 0 => c
  | _ :: l, k + 1 => lkc l k
def shA : List CE := [.inr (9, [.ref 2, .ref 5, .ref 9, .ref 16, .int 0, .ref 17, .ref 24, .ref 25, .ref 31, .ref 39, .int 0, .int 0]),
  .inr (5, [.ref 3, .ref 4, .int 0]),
  .inl (0, 24, .inl (fun _ => 0)),
  .inl (0, 24, .inl (fun _ => 0)),
  .inr (7, [.ref 6, .ref 7, .ref 8, .int 0, .int 0]),
  .inl (0, 40, .inl (fun _ => 0)),
  .inl (0, 40, .inl (fun _ => 0)),
  .inl (0, 40, .inl (fun _ => 0)),
  .inr (1, [.ref 10, .ref 11, .ref 12, .ref 13, .ref 14, .ref 15, .int 0]),
  .inl (1, 72, .inl (fun _ => 0)),
  .inl (0, 72, .inl (fun _ => 0)),
  .inl (0, 72, .inl (fun _ => 0)),
  .inl (0, 12, .inl (fun _ => 0)),
  .inl (0, 96, .inl (fun _ => 0)),
  .inl (0, 96, .inl (fun _ => 0)),
  .inl (3, 24, .inr (.inr (.inr (.inr rB)))),
  .inr (2, [.ref 18, .int 0, .int 0, .int 0, .ref 19, .ref 20, .ref 21, .int 0, .int 0, .ref 22, .ref 23]),
  .inl (0, 8, .inl (fun _ => 0)),
  .inl (0, 3, .inl (fun _ => 0)),
  .inl (0, 8, .inl (fun _ => 0)),
  .inl (0, 8, .inl (fun _ => 0)),
  .inl (2, 3, .inr (.inl (fun _ => 0))),
  .inl (2, 3, .inr (.inl (fun _ => 0))),
  .inl (4, 5, .inr (.inr (.inr (.inr rT)))),
  .inr (3, [.ref 26, .ref 27, .ref 28, .ref 29, .ref 30, .int 0]),
  .inl (0, 100, .inl (fun _ => 0)),
  .inl (0, 100, .inl (fun _ => 0)),
  .inl (0, 100, .inl (fun _ => 0)),
  .inl (0, 100, .inl (fun _ => 0)),
  .inl (2, 100, .inr (.inl (fun _ => 0))),
  .inr (6, [.ref 32, .ref 33, .ref 34, .ref 35, .int 0, .ref 36, .ref 37, .ref 38, .int 0]),
  .inl (0, 8, .inl (fun _ => 0)),
  .inl (0, 8, .inl (fun _ => 0)),
  .inl (0, 8, .inl (fun _ => 0)),
  .inl (0, 8, .inl (fun _ => 0)),
  .inl (0, 36, .inl (fun _ => 0)),
  .inl (0, 1536, .inl (fun _ => 0)),
  .inl (0, 8, .inl (fun _ => 0)),
  .inl (0, 8, .inl (fun _ => 0))]
def shM : List CE := [.inr (10, [.int 0, .int 0, .ref 133, .ref 134, .int 0, .ref 135, .ref 136, .ref 137, .int 0, .ref 138, .ref 139, .ref 140, .ref 141, .ref 142, .ref 143, .int 0, .ref 144, .ref 145, .ref 146, .int 0, .ref 147, .ref 148, .ref 149, .ref 150, .ref 151, .ref 152, .ref 153, .ref 154, .ref 155, .ref 156, .int 0, .int 0, .ref 157, .ref 158, .ref 159, .ref 160, .ref 161, .int 0, .int 0, .ref 162, .ref 163, .ref 164, .ref 165, .ref 166, .int 0, .ref 167, .ref 168, .ref 169, .ref 170]),
  .inl (0, 24, .inl (fun _ => 0)),
  .inl (0, 24, .inl (fun _ => 0)),
  .inl (0, 40, .inl (fun _ => 0)),
  .inl (0, 40, .inl (fun _ => 0)),
  .inl (0, 40, .inl (fun _ => 0)),
  .inl (0, 12, .inl (fun _ => 0)),
  .inl (1, 72, .inl (fun _ => 0)),
  .inl (0, 72, .inl (fun _ => 0)),
  .inl (0, 72, .inl (fun _ => 0)),
  .inl (0, 96, .inl (fun _ => 0)),
  .inl (0, 96, .inl (fun _ => 0)),
  .inl (0, 192, .inl (fun _ => 0)),
  .inl (2, 24, .inr (.inl (fun _ => 0))),
  .inl (1, 24, .inl (fun _ => 0)),
  .inl (0, 8, .inl (fun _ => 0)),
  .inl (0, 8, .inl (fun _ => 0)),
  .inl (0, 5, .inl (fun _ => 0)),
  .inl (0, 5, .inl (fun _ => 0)),
  .inl (1, 5, .inl (fun _ => 0)),
  .inl (1, 5, .inl (fun _ => 0)),
  .inl (0, 40, .inl (fun _ => 0)),
  .inl (2, 5, .inr (.inl (fun _ => 0))),
  .inl (0, 5, .inl (fun _ => 0)),
  .inl (0, 15, .inl (fun _ => 0)),
  .inl (0, 100, .inl (fun _ => 0)),
  .inl (0, 100, .inl (fun _ => 0)),
  .inl (0, 100, .inl (fun _ => 0)),
  .inl (2, 100, .inr (.inl (fun _ => 0))),
  .inl (0, 100, .inl (fun _ => 0)),
  .inl (0, 8, .inl (fun _ => 0)),
  .inl (0, 8, .inl (fun _ => 0)),
  .inl (0, 8, .inl (fun _ => 0)),
  .inl (0, 8, .inl (fun _ => 0)),
  .inl (0, 36, .inl (fun _ => 0)),
  .inl (0, 8, .inl (fun _ => 0)),
  .inl (0, 2304, .inl (fun _ => 0)),
  .inl (0, 8, .inl (fun _ => 0)),
  .inl (0, 8, .inl (fun _ => 0))]
def shBr (r a : Nat) : CE := match r with
  | 0 => .inr (0, [.ref (a + 1), .int 0])
  | 1 => .inr (4, [.ref (a + 1), .int 0, .long 0])
  | _ => .inl (0, 8, .inl (fun _ => 0))
def shB (a : Nat) : CE := shBr ((a - 40) % 3) a
def shKr (r a : Nat) : CE := match r with
  | 0 => .inr (8, [.ref (a + 1), .ref (a + 3), .int 0, .int 0, .int 0, .int 0, .int 0])
  | 1 => .inr (4, [.ref (a + 1), .int 0, .long 0])
  | 2 => .inl (0, 8, .inl (fun _ => 0))
  | _ => .inl (0, 3, .inl (fun _ => 0))
def shK (a : Nat) : CE := shKr ((a - 112) % 4) a
def shT (a : Nat) : CE := cond (Nat.ble a 39) (lkc shA (a - 1)) (cond (Nat.ble a 111) (shB a) (cond (Nat.ble a 131) (shK a) (lkc shM (a - 132))))
def Sh (h : HF) : Prop := ∀ a : Nat, 0 < a → a ≤ 170 → shp (h a) = shT a
theorem Sh.sI {h : HF} (hS : Sh h) (a : Nat) (k : Nat) (v : Int32) : Sh (sI h a k v) := by
  intro b h1 h2
  by_cases hb : b = a
  · subst hb
    show shp (hu h b _ b) = _
    rw [hu_eq, shp_cI]; exact hS b h1 h2
  · show shp (hu h a _ b) = _
    rw [hu_ne _ _ hb]; exact hS b h1 h2
theorem sI_ne {h : HF} {a b : Nat} (hb : b ≠ a) (k : Nat) (v : Int32) : sI h a k v b = h b := hu_ne _ _ hb
theorem sI_eq (h : HF) (a : Nat) (k : Nat) (v : Int32) : sI h a k v a = cI (h a) k v := hu_eq _ _ _
theorem Sh.sJ {h : HF} (hS : Sh h) (a : Nat) (k : Nat) (v : Int64) : Sh (sJ h a k v) := by
  intro b h1 h2
  by_cases hb : b = a
  · subst hb
    show shp (hu h b _ b) = _
    rw [hu_eq, shp_cJ]; exact hS b h1 h2
  · show shp (hu h a _ b) = _
    rw [hu_ne _ _ hb]; exact hS b h1 h2
theorem sJ_ne {h : HF} {a b : Nat} (hb : b ≠ a) (k : Nat) (v : Int64) : sJ h a k v b = h b := hu_ne _ _ hb
theorem sJ_eq (h : HF) (a : Nat) (k : Nat) (v : Int64) : sJ h a k v a = cJ (h a) k v := hu_eq _ _ _
theorem Sh.si {h : HF} (hS : Sh h) (a : Nat) (f : Nat → Int32) : Sh (si h a f) := by
  intro b h1 h2
  by_cases hb : b = a
  · subst hb
    show shp (hu h b _ b) = _
    rw [hu_eq, shp_ci]; exact hS b h1 h2
  · show shp (hu h a _ b) = _
    rw [hu_ne _ _ hb]; exact hS b h1 h2
theorem si_ne {h : HF} {a b : Nat} (hb : b ≠ a) (f : Nat → Int32) : si h a f b = h b := hu_ne _ _ hb
theorem si_eq (h : HF) (a : Nat) (f : Nat → Int32) : si h a f a = ci (h a) f := hu_eq _ _ _
theorem Sh.sl {h : HF} (hS : Sh h) (a : Nat) (f : Nat → Int64) : Sh (sl h a f) := by
  intro b h1 h2
  by_cases hb : b = a
  · subst hb
    show shp (hu h b _ b) = _
    rw [hu_eq, shp_cl]; exact hS b h1 h2
  · show shp (hu h a _ b) = _
    rw [hu_ne _ _ hb]; exact hS b h1 h2
theorem sl_ne {h : HF} {a b : Nat} (hb : b ≠ a) (f : Nat → Int64) : sl h a f b = h b := hu_ne _ _ hb
theorem sl_eq (h : HF) (a : Nat) (f : Nat → Int64) : sl h a f a = cl (h a) f := hu_eq _ _ _
theorem sh_i {h : HF} (hS : Sh h) {a t N : Nat} (h0 : 0 < a ∧ a ≤ 170) (ht : shT a = .inl (t, N, .inl (fun _ => 0))) : h a = .inl (t, N, .inl (gi h a)) := by
  have e := hS a h0.1 h0.2
  rw [ht] at e
  cases hc : h a with
  | inr x => rw [hc] at e; cases e
  | inl x =>
    obtain ⟨t2, N2, f | f | f | f | f⟩ := x <;> rw [hc] at e <;> cases e
    simp only [gi, hc]
theorem sh_l {h : HF} (hS : Sh h) {a t N : Nat} (h0 : 0 < a ∧ a ≤ 170) (ht : shT a = .inl (t, N, .inr (.inl (fun _ => 0)))) : h a = .inl (t, N, .inr (.inl (gl h a))) := by
  have e := hS a h0.1 h0.2
  rw [ht] at e
  cases hc : h a with
  | inr x => rw [hc] at e; cases e
  | inl x =>
    obtain ⟨t2, N2, f | f | f | f | f⟩ := x <;> rw [hc] at e <;> cases e
    simp only [gl, hc]
theorem sh_r {h : HF} (hS : Sh h) {a t N : Nat} {g : Nat → Option Nat} (h0 : 0 < a ∧ a ≤ 170) (ht : shT a = .inl (t, N, .inr (.inr (.inr (.inr g))))) : h a = .inl (t, N, .inr (.inr (.inr (.inr g)))) := by
  have e := hS a h0.1 h0.2
  rw [ht] at e
  cases hc : h a with
  | inr x => rw [hc] at e; cases e
  | inl x =>
    obtain ⟨t2, N2, f | f | f | f | f⟩ := x <;> rw [hc] at e <;> cases e
    rfl
theorem sh_o {h : HF} (hS : Sh h) {a k : Nat} {fs : List Value} (h0 : 0 < a ∧ a ≤ 170) (ht : shT a = .inr (k, fs)) : h a = .inr (k, fil h a 0 fs) := by
  have e := hS a h0.1 h0.2
  rw [ht] at e
  cases hc : h a with
  | inl x =>
    obtain ⟨t2, N2, f | f | f | f | f⟩ := x <;> rw [hc] at e <;> cases e
  | inr x =>
    obtain ⟨k2, gs⟩ := x
    rw [hc] at e
    cases e
    have := fil_eq h a k gs [] (by rw [hc]; rfl)
    simp only [List.length_nil] at this
    rw [this]
theorem cl_1 {h : HF} (hS : Sh h) : h 1 = .inr (9, [.ref 2, .ref 5, .ref 9, .ref 16, .int (fI h 1 4), .ref 17, .ref 24, .ref 25, .ref 31, .ref 39, .int (fI h 1 10), .int (fI h 1 11)]) := sh_o (a := 1) (k := 9) (fs := [.ref 2, .ref 5, .ref 9, .ref 16, .int 0, .ref 17, .ref 24, .ref 25, .ref 31, .ref 39, .int 0, .int 0]) hS (by decide) rfl
theorem cl_2 {h : HF} (hS : Sh h) : h 2 = .inr (5, [.ref 3, .ref 4, .int (fI h 2 2)]) := sh_o (a := 2) (k := 5) (fs := [.ref 3, .ref 4, .int 0]) hS (by decide) rfl
theorem cl_3 {h : HF} (hS : Sh h) : h 3 = .inl (0, 24, .inl (gi h 3)) := sh_i (a := 3) hS (by decide) rfl
theorem cl_4 {h : HF} (hS : Sh h) : h 4 = .inl (0, 24, .inl (gi h 4)) := sh_i (a := 4) hS (by decide) rfl
theorem cl_5 {h : HF} (hS : Sh h) : h 5 = .inr (7, [.ref 6, .ref 7, .ref 8, .int (fI h 5 3), .int (fI h 5 4)]) := sh_o (a := 5) (k := 7) (fs := [.ref 6, .ref 7, .ref 8, .int 0, .int 0]) hS (by decide) rfl
theorem cl_6 {h : HF} (hS : Sh h) : h 6 = .inl (0, 40, .inl (gi h 6)) := sh_i (a := 6) hS (by decide) rfl
theorem cl_7 {h : HF} (hS : Sh h) : h 7 = .inl (0, 40, .inl (gi h 7)) := sh_i (a := 7) hS (by decide) rfl
theorem cl_8 {h : HF} (hS : Sh h) : h 8 = .inl (0, 40, .inl (gi h 8)) := sh_i (a := 8) hS (by decide) rfl
theorem cl_9 {h : HF} (hS : Sh h) : h 9 = .inr (1, [.ref 10, .ref 11, .ref 12, .ref 13, .ref 14, .ref 15, .int (fI h 9 6)]) := sh_o (a := 9) (k := 1) (fs := [.ref 10, .ref 11, .ref 12, .ref 13, .ref 14, .ref 15, .int 0]) hS (by decide) rfl
theorem cl_10 {h : HF} (hS : Sh h) : h 10 = .inl (1, 72, .inl (gi h 10)) := sh_i (a := 10) hS (by decide) rfl
theorem cl_11 {h : HF} (hS : Sh h) : h 11 = .inl (0, 72, .inl (gi h 11)) := sh_i (a := 11) hS (by decide) rfl
theorem cl_12 {h : HF} (hS : Sh h) : h 12 = .inl (0, 72, .inl (gi h 12)) := sh_i (a := 12) hS (by decide) rfl
theorem cl_13 {h : HF} (hS : Sh h) : h 13 = .inl (0, 12, .inl (gi h 13)) := sh_i (a := 13) hS (by decide) rfl
theorem cl_14 {h : HF} (hS : Sh h) : h 14 = .inl (0, 96, .inl (gi h 14)) := sh_i (a := 14) hS (by decide) rfl
theorem cl_15 {h : HF} (hS : Sh h) : h 15 = .inl (0, 96, .inl (gi h 15)) := sh_i (a := 15) hS (by decide) rfl
theorem cl_16 {h : HF} (hS : Sh h) : h 16 = .inl (3, 24, .inr (.inr (.inr (.inr rB)))) := sh_r (a := 16) hS (by decide) rfl
theorem cl_17 {h : HF} (hS : Sh h) : h 17 = .inr (2, [.ref 18, .int (fI h 17 1), .int (fI h 17 2), .int (fI h 17 3), .ref 19, .ref 20, .ref 21, .int (fI h 17 7), .int (fI h 17 8), .ref 22, .ref 23]) := sh_o (a := 17) (k := 2) (fs := [.ref 18, .int 0, .int 0, .int 0, .ref 19, .ref 20, .ref 21, .int 0, .int 0, .ref 22, .ref 23]) hS (by decide) rfl
theorem cl_18 {h : HF} (hS : Sh h) : h 18 = .inl (0, 8, .inl (gi h 18)) := sh_i (a := 18) hS (by decide) rfl
theorem cl_19 {h : HF} (hS : Sh h) : h 19 = .inl (0, 3, .inl (gi h 19)) := sh_i (a := 19) hS (by decide) rfl
theorem cl_20 {h : HF} (hS : Sh h) : h 20 = .inl (0, 8, .inl (gi h 20)) := sh_i (a := 20) hS (by decide) rfl
theorem cl_21 {h : HF} (hS : Sh h) : h 21 = .inl (0, 8, .inl (gi h 21)) := sh_i (a := 21) hS (by decide) rfl
theorem cl_22 {h : HF} (hS : Sh h) : h 22 = .inl (2, 3, .inr (.inl (gl h 22))) := sh_l (a := 22) hS (by decide) rfl
theorem cl_23 {h : HF} (hS : Sh h) : h 23 = .inl (2, 3, .inr (.inl (gl h 23))) := sh_l (a := 23) hS (by decide) rfl
theorem cl_24 {h : HF} (hS : Sh h) : h 24 = .inl (4, 5, .inr (.inr (.inr (.inr rT)))) := sh_r (a := 24) hS (by decide) rfl
theorem cl_25 {h : HF} (hS : Sh h) : h 25 = .inr (3, [.ref 26, .ref 27, .ref 28, .ref 29, .ref 30, .int (fI h 25 5)]) := sh_o (a := 25) (k := 3) (fs := [.ref 26, .ref 27, .ref 28, .ref 29, .ref 30, .int 0]) hS (by decide) rfl
theorem cl_26 {h : HF} (hS : Sh h) : h 26 = .inl (0, 100, .inl (gi h 26)) := sh_i (a := 26) hS (by decide) rfl
theorem cl_27 {h : HF} (hS : Sh h) : h 27 = .inl (0, 100, .inl (gi h 27)) := sh_i (a := 27) hS (by decide) rfl
theorem cl_28 {h : HF} (hS : Sh h) : h 28 = .inl (0, 100, .inl (gi h 28)) := sh_i (a := 28) hS (by decide) rfl
theorem cl_29 {h : HF} (hS : Sh h) : h 29 = .inl (0, 100, .inl (gi h 29)) := sh_i (a := 29) hS (by decide) rfl
theorem cl_30 {h : HF} (hS : Sh h) : h 30 = .inl (2, 100, .inr (.inl (gl h 30))) := sh_l (a := 30) hS (by decide) rfl
theorem cl_31 {h : HF} (hS : Sh h) : h 31 = .inr (6, [.ref 32, .ref 33, .ref 34, .ref 35, .int (fI h 31 4), .ref 36, .ref 37, .ref 38, .int (fI h 31 8)]) := sh_o (a := 31) (k := 6) (fs := [.ref 32, .ref 33, .ref 34, .ref 35, .int 0, .ref 36, .ref 37, .ref 38, .int 0]) hS (by decide) rfl
theorem cl_32 {h : HF} (hS : Sh h) : h 32 = .inl (0, 8, .inl (gi h 32)) := sh_i (a := 32) hS (by decide) rfl
theorem cl_33 {h : HF} (hS : Sh h) : h 33 = .inl (0, 8, .inl (gi h 33)) := sh_i (a := 33) hS (by decide) rfl
theorem cl_34 {h : HF} (hS : Sh h) : h 34 = .inl (0, 8, .inl (gi h 34)) := sh_i (a := 34) hS (by decide) rfl
theorem cl_35 {h : HF} (hS : Sh h) : h 35 = .inl (0, 8, .inl (gi h 35)) := sh_i (a := 35) hS (by decide) rfl
theorem cl_36 {h : HF} (hS : Sh h) : h 36 = .inl (0, 36, .inl (gi h 36)) := sh_i (a := 36) hS (by decide) rfl
theorem cl_37 {h : HF} (hS : Sh h) : h 37 = .inl (0, 1536, .inl (gi h 37)) := sh_i (a := 37) hS (by decide) rfl
theorem cl_38 {h : HF} (hS : Sh h) : h 38 = .inl (0, 8, .inl (gi h 38)) := sh_i (a := 38) hS (by decide) rfl
theorem cl_39 {h : HF} (hS : Sh h) : h 39 = .inl (0, 8, .inl (gi h 39)) := sh_i (a := 39) hS (by decide) rfl
def fs132 : List Value := [.int 0, .int 0, .ref 133, .ref 134, .int 0, .ref 135, .ref 136, .ref 137, .int 0, .ref 138] ++ [.ref 139, .ref 140, .ref 141, .ref 142, .ref 143, .int 0, .ref 144, .ref 145, .ref 146, .int 0] ++ [.ref 147, .ref 148, .ref 149, .ref 150, .ref 151, .ref 152, .ref 153, .ref 154, .ref 155, .ref 156] ++ [.int 0, .int 0, .ref 157, .ref 158, .ref 159, .ref 160, .ref 161, .int 0, .int 0, .ref 162] ++ [.ref 163, .ref 164, .ref 165, .ref 166, .int 0, .ref 167, .ref 168, .ref 169, .ref 170]
theorem cl_132 {h : HF} (hS : Sh h) : h 132 = .inr (10, fil h 132 0 fs132) := sh_o (a := 132) (k := 10) (fs := fs132) hS (by decide) rfl
theorem cl_133 {h : HF} (hS : Sh h) : h 133 = .inl (0, 24, .inl (gi h 133)) := sh_i (a := 133) hS (by decide) rfl
theorem cl_134 {h : HF} (hS : Sh h) : h 134 = .inl (0, 24, .inl (gi h 134)) := sh_i (a := 134) hS (by decide) rfl
theorem cl_135 {h : HF} (hS : Sh h) : h 135 = .inl (0, 40, .inl (gi h 135)) := sh_i (a := 135) hS (by decide) rfl
theorem cl_136 {h : HF} (hS : Sh h) : h 136 = .inl (0, 40, .inl (gi h 136)) := sh_i (a := 136) hS (by decide) rfl
theorem cl_137 {h : HF} (hS : Sh h) : h 137 = .inl (0, 40, .inl (gi h 137)) := sh_i (a := 137) hS (by decide) rfl
theorem cl_138 {h : HF} (hS : Sh h) : h 138 = .inl (0, 12, .inl (gi h 138)) := sh_i (a := 138) hS (by decide) rfl
theorem cl_139 {h : HF} (hS : Sh h) : h 139 = .inl (1, 72, .inl (gi h 139)) := sh_i (a := 139) hS (by decide) rfl
theorem cl_140 {h : HF} (hS : Sh h) : h 140 = .inl (0, 72, .inl (gi h 140)) := sh_i (a := 140) hS (by decide) rfl
theorem cl_141 {h : HF} (hS : Sh h) : h 141 = .inl (0, 72, .inl (gi h 141)) := sh_i (a := 141) hS (by decide) rfl
theorem cl_142 {h : HF} (hS : Sh h) : h 142 = .inl (0, 96, .inl (gi h 142)) := sh_i (a := 142) hS (by decide) rfl
theorem cl_143 {h : HF} (hS : Sh h) : h 143 = .inl (0, 96, .inl (gi h 143)) := sh_i (a := 143) hS (by decide) rfl
theorem cl_144 {h : HF} (hS : Sh h) : h 144 = .inl (0, 192, .inl (gi h 144)) := sh_i (a := 144) hS (by decide) rfl
theorem cl_145 {h : HF} (hS : Sh h) : h 145 = .inl (2, 24, .inr (.inl (gl h 145))) := sh_l (a := 145) hS (by decide) rfl
theorem cl_146 {h : HF} (hS : Sh h) : h 146 = .inl (1, 24, .inl (gi h 146)) := sh_i (a := 146) hS (by decide) rfl
theorem cl_147 {h : HF} (hS : Sh h) : h 147 = .inl (0, 8, .inl (gi h 147)) := sh_i (a := 147) hS (by decide) rfl
theorem cl_148 {h : HF} (hS : Sh h) : h 148 = .inl (0, 8, .inl (gi h 148)) := sh_i (a := 148) hS (by decide) rfl
theorem cl_149 {h : HF} (hS : Sh h) : h 149 = .inl (0, 5, .inl (gi h 149)) := sh_i (a := 149) hS (by decide) rfl
theorem cl_150 {h : HF} (hS : Sh h) : h 150 = .inl (0, 5, .inl (gi h 150)) := sh_i (a := 150) hS (by decide) rfl
theorem cl_151 {h : HF} (hS : Sh h) : h 151 = .inl (1, 5, .inl (gi h 151)) := sh_i (a := 151) hS (by decide) rfl
theorem cl_152 {h : HF} (hS : Sh h) : h 152 = .inl (1, 5, .inl (gi h 152)) := sh_i (a := 152) hS (by decide) rfl
theorem cl_153 {h : HF} (hS : Sh h) : h 153 = .inl (0, 40, .inl (gi h 153)) := sh_i (a := 153) hS (by decide) rfl
theorem cl_154 {h : HF} (hS : Sh h) : h 154 = .inl (2, 5, .inr (.inl (gl h 154))) := sh_l (a := 154) hS (by decide) rfl
theorem cl_155 {h : HF} (hS : Sh h) : h 155 = .inl (0, 5, .inl (gi h 155)) := sh_i (a := 155) hS (by decide) rfl
theorem cl_156 {h : HF} (hS : Sh h) : h 156 = .inl (0, 15, .inl (gi h 156)) := sh_i (a := 156) hS (by decide) rfl
theorem cl_157 {h : HF} (hS : Sh h) : h 157 = .inl (0, 100, .inl (gi h 157)) := sh_i (a := 157) hS (by decide) rfl
theorem cl_158 {h : HF} (hS : Sh h) : h 158 = .inl (0, 100, .inl (gi h 158)) := sh_i (a := 158) hS (by decide) rfl
theorem cl_159 {h : HF} (hS : Sh h) : h 159 = .inl (0, 100, .inl (gi h 159)) := sh_i (a := 159) hS (by decide) rfl
theorem cl_160 {h : HF} (hS : Sh h) : h 160 = .inl (2, 100, .inr (.inl (gl h 160))) := sh_l (a := 160) hS (by decide) rfl
theorem cl_161 {h : HF} (hS : Sh h) : h 161 = .inl (0, 100, .inl (gi h 161)) := sh_i (a := 161) hS (by decide) rfl
theorem cl_162 {h : HF} (hS : Sh h) : h 162 = .inl (0, 8, .inl (gi h 162)) := sh_i (a := 162) hS (by decide) rfl
theorem cl_163 {h : HF} (hS : Sh h) : h 163 = .inl (0, 8, .inl (gi h 163)) := sh_i (a := 163) hS (by decide) rfl
theorem cl_164 {h : HF} (hS : Sh h) : h 164 = .inl (0, 8, .inl (gi h 164)) := sh_i (a := 164) hS (by decide) rfl
theorem cl_165 {h : HF} (hS : Sh h) : h 165 = .inl (0, 8, .inl (gi h 165)) := sh_i (a := 165) hS (by decide) rfl
theorem cl_166 {h : HF} (hS : Sh h) : h 166 = .inl (0, 36, .inl (gi h 166)) := sh_i (a := 166) hS (by decide) rfl
theorem cl_167 {h : HF} (hS : Sh h) : h 167 = .inl (0, 8, .inl (gi h 167)) := sh_i (a := 167) hS (by decide) rfl
theorem cl_168 {h : HF} (hS : Sh h) : h 168 = .inl (0, 2304, .inl (gi h 168)) := sh_i (a := 168) hS (by decide) rfl
theorem cl_169 {h : HF} (hS : Sh h) : h 169 = .inl (0, 8, .inl (gi h 169)) := sh_i (a := 169) hS (by decide) rfl
theorem cl_170 {h : HF} (hS : Sh h) : h 170 = .inl (0, 8, .inl (gi h 170)) := sh_i (a := 170) hS (by decide) rfl
theorem ble_f {a b : Nat} (h : b < a) : Nat.ble a b = false := by
  cases hb : Nat.ble a b with
  | false => rfl
  | true => have := Nat.le_of_ble_eq_true hb; omega
theorem shT_B {k : Nat} (hk : k < 24) : shT (40 + 3 * k) = .inr (0, [.ref (40 + 3 * k + 1), .int 0]) ∧ shT (41 + 3 * k) = .inr (4, [.ref (41 + 3 * k + 1), .int 0, .long 0]) ∧ shT (42 + 3 * k) = .inl (0, 8, .inl (fun _ => 0)) := by
  have g1 : ∀ a, 40 ≤ a → a ≤ 111 → shT a = shB a := by
    intro a h1 h2
    have e1 : Nat.ble a 39 = false := ble_f (by omega)
    have e2 : Nat.ble a 111 = true := Nat.ble_eq.mpr h2
    simp only [shT, e1, e2, cond_false, cond_true]
  refine ⟨?_, ?_, ?_⟩
  · rw [g1 (40 + 3 * k) (by omega) (by omega), shB, show (40 + 3 * k - 40) % 3 = 0 by omega]; rfl
  · rw [g1 (41 + 3 * k) (by omega) (by omega), shB, show (41 + 3 * k - 40) % 3 = 1 by omega]; rfl
  · rw [g1 (42 + 3 * k) (by omega) (by omega), shB, show (42 + 3 * k - 40) % 3 = 2 by omega]; rfl
theorem shT_K {k : Nat} (hk : k < 5) : shT (112 + 4 * k) = .inr (8, [.ref (112 + 4 * k + 1), .ref (112 + 4 * k + 3), .int 0, .int 0, .int 0, .int 0, .int 0]) ∧ shT (113 + 4 * k) = .inr (4, [.ref (113 + 4 * k + 1), .int 0, .long 0]) ∧ shT (114 + 4 * k) = .inl (0, 8, .inl (fun _ => 0)) ∧ shT (115 + 4 * k) = .inl (0, 3, .inl (fun _ => 0)) := by
  have g1 : ∀ a, 112 ≤ a → a ≤ 131 → shT a = shK a := by
    intro a h1 h2
    have e1 : Nat.ble a 39 = false := ble_f (by omega)
    have e2 : Nat.ble a 111 = false := ble_f (by omega)
    have e3 : Nat.ble a 131 = true := Nat.ble_eq.mpr h2
    simp only [shT, e1, e2, e3, cond_false, cond_true]
  refine ⟨?_, ?_, ?_, ?_⟩
  · rw [g1 (112 + 4 * k) (by omega) (by omega), shK, show (112 + 4 * k - 112) % 4 = 0 by omega]; rfl
  · rw [g1 (113 + 4 * k) (by omega) (by omega), shK, show (113 + 4 * k - 112) % 4 = 1 by omega]; rfl
  · rw [g1 (114 + 4 * k) (by omega) (by omega), shK, show (114 + 4 * k - 112) % 4 = 2 by omega]; rfl
  · rw [g1 (115 + 4 * k) (by omega) (by omega), shK, show (115 + 4 * k - 112) % 4 = 3 by omega]; rfl
theorem cl_B {h : HF} (hS : Sh h) {k : Nat} (hk : k < 24) : h (40 + 3 * k) = .inr (0, [.ref (41 + 3 * k), .int (fI h (40 + 3 * k) 1)]) := by
  have := sh_o hS (a := 40 + 3 * k) (by omega) (shT_B hk).1
  rw [this]; simp only [fil]; rw [show 40 + 3 * k + 1 = 41 + 3 * k by omega]
theorem cl_M {h : HF} (hS : Sh h) {k : Nat} (hk : k < 24) : h (41 + 3 * k) = .inr (4, [.ref (42 + 3 * k), .int (fI h (41 + 3 * k) 1), .long (fJ h (41 + 3 * k) 2)]) := by
  have := sh_o hS (a := 41 + 3 * k) (by omega) (shT_B hk).2.1
  rw [this]; simp only [fil]; rw [show 41 + 3 * k + 1 = 42 + 3 * k by omega]
theorem cl_A {h : HF} (hS : Sh h) {k : Nat} (hk : k < 24) : h (42 + 3 * k) = .inl (0, 8, .inl (gi h (42 + 3 * k))) := sh_i hS (by omega) (shT_B hk).2.2
theorem cl_K {h : HF} (hS : Sh h) {k : Nat} (hk : k < 5) : h (112 + 4 * k) = .inr (8, [.ref (113 + 4 * k), .ref (115 + 4 * k), .int (fI h (112 + 4 * k) 2), .int (fI h (112 + 4 * k) 3), .int (fI h (112 + 4 * k) 4), .int (fI h (112 + 4 * k) 5), .int (fI h (112 + 4 * k) 6)]) := by
  have := sh_o hS (a := 112 + 4 * k) (by omega) (shT_K hk).1
  rw [this]; simp only [fil]; rw [show 112 + 4 * k + 1 = 113 + 4 * k by omega, show 112 + 4 * k + 3 = 115 + 4 * k by omega]
theorem cl_N {h : HF} (hS : Sh h) {k : Nat} (hk : k < 5) : h (113 + 4 * k) = .inr (4, [.ref (114 + 4 * k), .int (fI h (113 + 4 * k) 1), .long (fJ h (113 + 4 * k) 2)]) := by
  have := sh_o hS (a := 113 + 4 * k) (by omega) (shT_K hk).2.1
  rw [this]; simp only [fil]; rw [show 113 + 4 * k + 1 = 114 + 4 * k by omega]
theorem cl_C {h : HF} (hS : Sh h) {k : Nat} (hk : k < 5) : h (114 + 4 * k) = .inl (0, 8, .inl (gi h (114 + 4 * k))) := sh_i hS (by omega) (shT_K hk).2.2.1
theorem cl_S {h : HF} (hS : Sh h) {k : Nat} (hk : k < 5) : h (115 + 4 * k) = .inl (0, 3, .inl (gi h (115 + 4 * k))) := sh_i hS (by omega) (shT_K hk).2.2.2
theorem fI_of {h h' : HF} {a : Nat} (k : Nat) (e : h' a = h a) : fI h' a k = fI h a k := by simp only [fI, e]
theorem fJ_of {h h' : HF} {a : Nat} (k : Nat) (e : h' a = h a) : fJ h' a k = fJ h a k := by simp only [fJ, e]
theorem gi_of {h h' : HF} {a : Nat} (e : h' a = h a) : gi h' a = gi h a := by simp only [gi, e]
theorem gl_of {h h' : HF} {a : Nat} (e : h' a = h a) : gl h' a = gl h a := by simp only [gl, e]
theorem gi_sI (h : HF) (a k : Nat) (v : Int32) (b : Nat) : gi (sI h a k v) b = gi h b := by
  by_cases e : b = a
  · subst e; simp only [gi, sI_eq]; rcases h b with ⟨t, N, f | f | f | f | f⟩ | ⟨c, fs⟩ <;> rfl
  · exact gi_of (sI_ne e k v)
theorem gl_sI (h : HF) (a k : Nat) (v : Int32) (b : Nat) : gl (sI h a k v) b = gl h b := by
  by_cases e : b = a
  · subst e; simp only [gl, sI_eq]; rcases h b with ⟨t, N, f | f | f | f | f⟩ | ⟨c, fs⟩ <;> rfl
  · exact gl_of (sI_ne e k v)
theorem gi_sJ (h : HF) (a k : Nat) (v : Int64) (b : Nat) : gi (sJ h a k v) b = gi h b := by
  by_cases e : b = a
  · subst e; simp only [gi, sJ_eq]; rcases h b with ⟨t, N, f | f | f | f | f⟩ | ⟨c, fs⟩ <;> rfl
  · exact gi_of (sJ_ne e k v)
theorem gl_sJ (h : HF) (a k : Nat) (v : Int64) (b : Nat) : gl (sJ h a k v) b = gl h b := by
  by_cases e : b = a
  · subst e; simp only [gl, sJ_eq]; rcases h b with ⟨t, N, f | f | f | f | f⟩ | ⟨c, fs⟩ <;> rfl
  · exact gl_of (sJ_ne e k v)
theorem gi_sl (h : HF) (a : Nat) (g : Nat → Int64) (b : Nat) : gi (sl h a g) b = gi h b := by
  by_cases e : b = a
  · subst e; simp only [gi, sl_eq]; rcases h b with ⟨t, N, f | f | f | f | f⟩ | ⟨c, fs⟩ <;> rfl
  · exact gi_of (sl_ne e g)
theorem gl_si (h : HF) (a : Nat) (g : Nat → Int32) (b : Nat) : gl (si h a g) b = gl h b := by
  by_cases e : b = a
  · subst e; simp only [gl, si_eq]; rcases h b with ⟨t, N, f | f | f | f | f⟩ | ⟨c, fs⟩ <;> rfl
  · exact gl_of (si_ne e g)
theorem fI_si (h : HF) (a : Nat) (g : Nat → Int32) (b k : Nat) : fI (si h a g) b k = fI h b k := by
  by_cases e : b = a
  · subst e; simp only [fI, si_eq]; rcases h b with ⟨t, N, f | f | f | f | f⟩ | ⟨c, fs⟩ <;> rfl
  · exact fI_of k (si_ne e g)
theorem fI_sl (h : HF) (a : Nat) (g : Nat → Int64) (b k : Nat) : fI (sl h a g) b k = fI h b k := by
  by_cases e : b = a
  · subst e; simp only [fI, sl_eq]; rcases h b with ⟨t, N, f | f | f | f | f⟩ | ⟨c, fs⟩ <;> rfl
  · exact fI_of k (sl_ne e g)
theorem fJ_si (h : HF) (a : Nat) (g : Nat → Int32) (b k : Nat) : fJ (si h a g) b k = fJ h b k := by
  by_cases e : b = a
  · subst e; simp only [fJ, si_eq]; rcases h b with ⟨t, N, f | f | f | f | f⟩ | ⟨c, fs⟩ <;> rfl
  · exact fJ_of k (si_ne e g)
theorem fJ_sl (h : HF) (a : Nat) (g : Nat → Int64) (b k : Nat) : fJ (sl h a g) b k = fJ h b k := by
  by_cases e : b = a
  · subst e; simp only [fJ, sl_eq]; rcases h b with ⟨t, N, f | f | f | f | f⟩ | ⟨c, fs⟩ <;> rfl
  · exact fJ_of k (sl_ne e g)
theorem gi_si_ne {h : HF} {a b : Nat} (e : b ≠ a) (g : Nat → Int32) : gi (si h a g) b = gi h b := gi_of (si_ne e g)
theorem gl_sl_ne {h : HF} {a b : Nat} (e : b ≠ a) (g : Nat → Int64) : gl (sl h a g) b = gl h b := gl_of (sl_ne e g)
theorem fI_sI_ne {h : HF} {a b : Nat} (e : b ≠ a) (k : Nat) (v : Int32) (j : Nat) : fI (sI h a k v) b j = fI h b j := fI_of j (sI_ne e k v)
theorem fJ_sJ_ne {h : HF} {a b : Nat} (e : b ≠ a) (k : Nat) (v : Int64) (j : Nat) : fJ (sJ h a k v) b j = fJ h b j := fJ_of j (sJ_ne e k v)
theorem stI_get : ∀ (fs : List Value) (k j : Nat) (v : Int32), k ≠ j → (stI fs k v).getD j .null = fs.getD j .null
  | [], _, _, _, _ => rfl
  | a :: l, 0, j, v, h => by
    cases j with
    | zero => exact absurd rfl h
    | succ j => simp [stI]
  | a :: l, k + 1, j, v, h => by
    cases j with
    | zero => rfl
    | succ j => simpa [stI] using stI_get l k j v (by omega)
theorem stJ_get : ∀ (fs : List Value) (k j : Nat) (v : Int64), k ≠ j → (stJ fs k v).getD j .null = fs.getD j .null
  | [], _, _, _, _ => rfl
  | a :: l, 0, j, v, h => by
    cases j with
    | zero => exact absurd rfl h
    | succ j => simp [stJ]
  | a :: l, k + 1, j, v, h => by
    cases j with
    | zero => rfl
    | succ j => simpa [stJ] using stJ_get l k j v (by omega)
theorem stI_self : ∀ (fs : List Value) (k : Nat) (v : Int32), (stI fs k v).getD k .null = (match fs.getD k .null with
    | .int _ => .int v
    | w => w)
  | [], _, _ => rfl
  | a :: l, 0, v => by cases a <;> rfl
  | a :: l, k + 1, v => by simpa [stI] using stI_self l k v
theorem stJ_self : ∀ (fs : List Value) (k : Nat) (v : Int64), (stJ fs k v).getD k .null = (match fs.getD k .null with
    | .long _ => .long v
    | w => w)
  | [], _, _ => rfl
  | a :: l, 0, v => by cases a <;> rfl
  | a :: l, k + 1, v => by simpa [stJ] using stJ_self l k v
theorem fI_sI_k {h : HF} {a b k j : Nat} (hk : k ≠ j) (v : Int32) : fI (sI h a k v) b j = fI h b j := by
  by_cases e : b = a
  · subst e
    simp only [fI, sI_eq]
    rcases h b with ⟨t, N, f | f | f | f | f⟩ | ⟨c, fs⟩ <;> simp only [cI]
    rw [stI_get fs k j v hk]
  · exact fI_of j (sI_ne e k v)
theorem fJ_sI (h : HF) (a k : Nat) (v : Int32) (b j : Nat) : fJ (sI h a k v) b j = fJ h b j := by
  by_cases e : b = a
  · subst e
    simp only [fJ, sI_eq]
    rcases h b with ⟨t, N, f | f | f | f | f⟩ | ⟨c, fs⟩ <;> simp only [cI]
    by_cases hk : k = j
    · subst hk; rw [stI_self]; generalize fs.getD k .null = w; cases w <;> rfl
    · rw [stI_get fs k j v hk]
  · exact fJ_of j (sI_ne e k v)
theorem fI_sJ (h : HF) (a k : Nat) (v : Int64) (b j : Nat) : fI (sJ h a k v) b j = fI h b j := by
  by_cases e : b = a
  · subst e
    simp only [fI, sJ_eq]
    rcases h b with ⟨t, N, f | f | f | f | f⟩ | ⟨c, fs⟩ <;> simp only [cJ]
    by_cases hk : k = j
    · subst hk; rw [stJ_self]; generalize fs.getD k .null = w; cases w <;> rfl
    · rw [stJ_get fs k j v hk]
  · exact fI_of j (sJ_ne e k v)
-- a kind of a cell by its place: an int array, a long array, an int field, a long field
def kI (a : Nat) : Bool := match shT a with
  | .inl (_, _, .inl _) => true
  | _ => false
def kL (a : Nat) : Bool := match shT a with
  | .inl (_, _, .inr (.inl _)) => true
  | _ => false
def kF (a k : Nat) : Bool := match shT a with
  | .inr (_, fs) => (match fs.getD k .null with
    | .int _ => true
    | _ => false)
  | _ => false
def kJ (a k : Nat) : Bool := match shT a with
  | .inr (_, fs) => (match fs.getD k .null with
    | .long _ => true
    | _ => false)
  | _ => false
theorem gi_si_eq {h : HF} (hS : Sh h) {a : Nat} (h0 : 0 < a) (h1 : a ≤ 170) (hk : kI a = true) (g : Nat → Int32) : gi (si h a g) a = g := by
  have e := hS a h0 h1
  simp only [kI] at hk
  rw [← e] at hk
  simp only [gi, si_eq]
  rcases hc : h a with ⟨t, N, f | f | f | f | f⟩ | ⟨c, fs⟩ <;> rw [hc] at hk <;> first | rfl | (simp [shp] at hk; done)
theorem gl_sl_eq {h : HF} (hS : Sh h) {a : Nat} (h0 : 0 < a) (h1 : a ≤ 170) (hk : kL a = true) (g : Nat → Int64) : gl (sl h a g) a = g := by
  have e := hS a h0 h1
  simp only [kL] at hk
  rw [← e] at hk
  simp only [gl, sl_eq]
  rcases hc : h a with ⟨t, N, f | f | f | f | f⟩ | ⟨c, fs⟩ <;> rw [hc] at hk <;> first | rfl | (simp [shp] at hk; done)
theorem erv_getD (fs : List Value) (k : Nat) : (fs.map erv).getD k .null = erv (fs.getD k .null) := by
  induction fs generalizing k with
  | nil => rfl
  | cons a l ih =>
    cases k with
    | zero => rfl
    | succ k => simpa using ih k
theorem fI_sI_eq {h : HF} (hS : Sh h) {a k : Nat} (h0 : 0 < a) (h1 : a ≤ 170) (hk : kF a k = true) (v : Int32) : fI (sI h a k v) a k = v := by
  have e := hS a h0 h1
  simp only [kF] at hk
  rw [← e] at hk
  simp only [fI, sI_eq]
  rcases hc : h a with ⟨t, N, f | f | f | f | f⟩ | ⟨c, fs⟩ <;> rw [hc] at hk <;> simp only [shp, Bool.false_eq_true] at hk
  simp only [cI, stI_self]
  rw [erv_getD] at hk
  generalize fs.getD k .null = w at hk ⊢
  cases w <;> first | rfl | (simp [erv] at hk; done)
theorem fJ_sJ_eq {h : HF} (hS : Sh h) {a k : Nat} (h0 : 0 < a) (h1 : a ≤ 170) (hk : kJ a k = true) (v : Int64) : fJ (sJ h a k v) a k = v := by
  have e := hS a h0 h1
  simp only [kJ] at hk
  rw [← e] at hk
  simp only [fJ, sJ_eq]
  rcases hc : h a with ⟨t, N, f | f | f | f | f⟩ | ⟨c, fs⟩ <;> rw [hc] at hk <;> simp only [shp, Bool.false_eq_true] at hk
  simp only [cJ, stJ_self]
  rw [erv_getD] at hk
  generalize fs.getD k .null = w at hk ⊢
  cases w <;> first | rfl | (simp [erv] at hk; done)
theorem si_si (h : HF) (a : Nat) (f g : Nat → Int32) : si (si h a f) a g = si h a g := by
  show hu (hu h a _) a (ci (hu h a _ a) g) = hu h a _
  rw [hu_hu, hu_eq]
  rcases h a with ⟨t, N, f | f | f | f | f⟩ | ⟨c, fs⟩ <;> rfl
theorem sl_sl (h : HF) (a : Nat) (f g : Nat → Int64) : sl (sl h a f) a g = sl h a g := by
  show hu (hu h a _) a (cl (hu h a _ a) g) = hu h a _
  rw [hu_hu, hu_eq]
  rcases h a with ⟨t, N, f | f | f | f | f⟩ | ⟨c, fs⟩ <;> rfl
theorem si_gi (h : HF) (a : Nat) : si h a (gi h a) = h := by
  refine hu_same ?_
  simp only [gi]
  rcases h a with ⟨t, N, f | f | f | f | f⟩ | ⟨c, fs⟩ <;> rfl
theorem sl_gl (h : HF) (a : Nat) : sl h a (gl h a) = h := by
  refine hu_same ?_
  simp only [gl]
  rcases h a with ⟨t, N, f | f | f | f | f⟩ | ⟨c, fs⟩ <;> rfl
theorem stI_stI : ∀ (fs : List Value) (k : Nat) (v w : Int32), stI (stI fs k v) k w = stI fs k w
  | [], _, _, _ => rfl
  | a :: l, 0, v, w => by cases a <;> rfl
  | a :: l, k + 1, v, w => by simp only [stI, stI_stI l k v w]
theorem sI_sI (h : HF) (a k : Nat) (v w : Int32) : sI (sI h a k v) a k w = sI h a k w := by
  show hu (hu h a _) a (cI (hu h a _ a) k w) = hu h a _
  rw [hu_hu, hu_eq]
  rcases h a with ⟨t, N, f | f | f | f | f⟩ | ⟨c, fs⟩ <;> simp only [cI, stI_stI]
theorem sI_sI_comm {h : HF} {a b : Nat} (e : a ≠ b) (k : Nat) (v : Int32) (k2 : Nat) (v2 : Int32) : sI (sI h a k v) b k2 v2 = sI (sI h b k2 v2) a k v := by
  show hu (hu h a _) b (cI (hu h a _ b) k2 v2) = hu (hu h b _) a (cI (hu h b _ a) k v)
  rw [hu_ne _ _ (Ne.symm e), hu_ne _ _ e, hu_comm _ _ _ e]
theorem sI_sJ_comm {h : HF} {a b : Nat} (e : a ≠ b) (k : Nat) (v : Int32) (k2 : Nat) (v2 : Int64) : sJ (sI h a k v) b k2 v2 = sI (sJ h b k2 v2) a k v := by
  show hu (hu h a _) b (cJ (hu h a _ b) k2 v2) = hu (hu h b _) a (cI (hu h b _ a) k v)
  rw [hu_ne _ _ (Ne.symm e), hu_ne _ _ e, hu_comm _ _ _ e]
theorem sI_si_comm {h : HF} {a b : Nat} (e : a ≠ b) (k : Nat) (v : Int32) (f2 : Nat → Int32) : si (sI h a k v) b f2 = sI (si h b f2) a k v := by
  show hu (hu h a _) b (ci (hu h a _ b) f2) = hu (hu h b _) a (cI (hu h b _ a) k v)
  rw [hu_ne _ _ (Ne.symm e), hu_ne _ _ e, hu_comm _ _ _ e]
theorem sI_sl_comm {h : HF} {a b : Nat} (e : a ≠ b) (k : Nat) (v : Int32) (f2 : Nat → Int64) : sl (sI h a k v) b f2 = sI (sl h b f2) a k v := by
  show hu (hu h a _) b (cl (hu h a _ b) f2) = hu (hu h b _) a (cI (hu h b _ a) k v)
  rw [hu_ne _ _ (Ne.symm e), hu_ne _ _ e, hu_comm _ _ _ e]
theorem sJ_sI_comm {h : HF} {a b : Nat} (e : a ≠ b) (k : Nat) (v : Int64) (k2 : Nat) (v2 : Int32) : sI (sJ h a k v) b k2 v2 = sJ (sI h b k2 v2) a k v := by
  show hu (hu h a _) b (cI (hu h a _ b) k2 v2) = hu (hu h b _) a (cJ (hu h b _ a) k v)
  rw [hu_ne _ _ (Ne.symm e), hu_ne _ _ e, hu_comm _ _ _ e]
theorem sJ_sJ_comm {h : HF} {a b : Nat} (e : a ≠ b) (k : Nat) (v : Int64) (k2 : Nat) (v2 : Int64) : sJ (sJ h a k v) b k2 v2 = sJ (sJ h b k2 v2) a k v := by
  show hu (hu h a _) b (cJ (hu h a _ b) k2 v2) = hu (hu h b _) a (cJ (hu h b _ a) k v)
  rw [hu_ne _ _ (Ne.symm e), hu_ne _ _ e, hu_comm _ _ _ e]
theorem sJ_si_comm {h : HF} {a b : Nat} (e : a ≠ b) (k : Nat) (v : Int64) (f2 : Nat → Int32) : si (sJ h a k v) b f2 = sJ (si h b f2) a k v := by
  show hu (hu h a _) b (ci (hu h a _ b) f2) = hu (hu h b _) a (cJ (hu h b _ a) k v)
  rw [hu_ne _ _ (Ne.symm e), hu_ne _ _ e, hu_comm _ _ _ e]
theorem sJ_sl_comm {h : HF} {a b : Nat} (e : a ≠ b) (k : Nat) (v : Int64) (f2 : Nat → Int64) : sl (sJ h a k v) b f2 = sJ (sl h b f2) a k v := by
  show hu (hu h a _) b (cl (hu h a _ b) f2) = hu (hu h b _) a (cJ (hu h b _ a) k v)
  rw [hu_ne _ _ (Ne.symm e), hu_ne _ _ e, hu_comm _ _ _ e]
theorem si_sI_comm {h : HF} {a b : Nat} (e : a ≠ b) (f : Nat → Int32) (k2 : Nat) (v2 : Int32) : sI (si h a f) b k2 v2 = si (sI h b k2 v2) a f := by
  show hu (hu h a _) b (cI (hu h a _ b) k2 v2) = hu (hu h b _) a (ci (hu h b _ a) f)
  rw [hu_ne _ _ (Ne.symm e), hu_ne _ _ e, hu_comm _ _ _ e]
theorem si_sJ_comm {h : HF} {a b : Nat} (e : a ≠ b) (f : Nat → Int32) (k2 : Nat) (v2 : Int64) : sJ (si h a f) b k2 v2 = si (sJ h b k2 v2) a f := by
  show hu (hu h a _) b (cJ (hu h a _ b) k2 v2) = hu (hu h b _) a (ci (hu h b _ a) f)
  rw [hu_ne _ _ (Ne.symm e), hu_ne _ _ e, hu_comm _ _ _ e]
theorem si_si_comm {h : HF} {a b : Nat} (e : a ≠ b) (f : Nat → Int32) (f2 : Nat → Int32) : si (si h a f) b f2 = si (si h b f2) a f := by
  show hu (hu h a _) b (ci (hu h a _ b) f2) = hu (hu h b _) a (ci (hu h b _ a) f)
  rw [hu_ne _ _ (Ne.symm e), hu_ne _ _ e, hu_comm _ _ _ e]
theorem si_sl_comm {h : HF} {a b : Nat} (e : a ≠ b) (f : Nat → Int32) (f2 : Nat → Int64) : sl (si h a f) b f2 = si (sl h b f2) a f := by
  show hu (hu h a _) b (cl (hu h a _ b) f2) = hu (hu h b _) a (ci (hu h b _ a) f)
  rw [hu_ne _ _ (Ne.symm e), hu_ne _ _ e, hu_comm _ _ _ e]
theorem sl_sI_comm {h : HF} {a b : Nat} (e : a ≠ b) (f : Nat → Int64) (k2 : Nat) (v2 : Int32) : sI (sl h a f) b k2 v2 = sl (sI h b k2 v2) a f := by
  show hu (hu h a _) b (cI (hu h a _ b) k2 v2) = hu (hu h b _) a (cl (hu h b _ a) f)
  rw [hu_ne _ _ (Ne.symm e), hu_ne _ _ e, hu_comm _ _ _ e]
theorem sl_sJ_comm {h : HF} {a b : Nat} (e : a ≠ b) (f : Nat → Int64) (k2 : Nat) (v2 : Int64) : sJ (sl h a f) b k2 v2 = sl (sJ h b k2 v2) a f := by
  show hu (hu h a _) b (cJ (hu h a _ b) k2 v2) = hu (hu h b _) a (cl (hu h b _ a) f)
  rw [hu_ne _ _ (Ne.symm e), hu_ne _ _ e, hu_comm _ _ _ e]
theorem sl_si_comm {h : HF} {a b : Nat} (e : a ≠ b) (f : Nat → Int64) (f2 : Nat → Int32) : si (sl h a f) b f2 = sl (si h b f2) a f := by
  show hu (hu h a _) b (ci (hu h a _ b) f2) = hu (hu h b _) a (cl (hu h b _ a) f)
  rw [hu_ne _ _ (Ne.symm e), hu_ne _ _ e, hu_comm _ _ _ e]
theorem sl_sl_comm {h : HF} {a b : Nat} (e : a ≠ b) (f : Nat → Int64) (f2 : Nat → Int64) : sl (sl h a f) b f2 = sl (sl h b f2) a f := by
  show hu (hu h a _) b (cl (hu h a _ b) f2) = hu (hu h b _) a (cl (hu h b _ a) f)
  rw [hu_ne _ _ (Ne.symm e), hu_ne _ _ e, hu_comm _ _ _ e]
section YROWS
variable {M : MI} {X : SX} {Q : QF} {pc q : Nat} {ls : List (Option Value)} {st : List Value} {n : Nat} {h : HF} {kc ks : Nat}
theorem Vg.nm (k : ∀ h1 : HF, h1 = h → Vg M X Q pc ls st n h1 kc ks) : Vg M X Q pc ls st n h kc ks := k h rfl
theorem stI_set : ∀ (fs : List Value) (k : Nat) (x v : Int32), fs[k]? = some (.int x) → fs.set k (.int v) = stI fs k v
  | [], _, _, _, h => by cases h
  | a :: l, 0, x, v, h => by cases h; rfl
  | a :: l, k + 1, x, v, h => by simp only [List.set_cons_succ, stI]; rw [stI_set l k x v h]
theorem stJ_set : ∀ (fs : List Value) (k : Nat) (x v : Int64), fs[k]? = some (.long x) → fs.set k (.long v) = stJ fs k v
  | [], _, _, _, h => by cases h
  | a :: l, 0, x, v, h => by cases h; rfl
  | a :: l, k + 1, x, v, h => by simp only [List.set_cons_succ, stJ]; rw [stJ_set l k x v h]
theorem y_put {a idx ci f : Nat} {fs : List Value} {x v : Int32} {ty : FieldType} (hd : decode (mC M) pc = .ok (.putfield idx, 3)) (hq : pc + 3 = q) (hf : FL (mO M) idx ci f ty false) (ho : h a = .inr (ci, fs)) (hx : fs[f]? = some (.int x)) (hnr : narrow ty (.int v) = .int v) (hft : fits ty (.int v) = true) (ha : 0 < a ∧ a ≤ n) (k : Vg M X Q q ls st n (sI h a f v) kc ks) : Vg M X Q pc ls (.int v :: .ref a :: st) n h kc ks := by
  refine x_put hd hq hf ho (List.getElem?_eq_some_iff.mp hx).1 hnr hft ha ?_
  rw [stI_set fs f x v hx]
  have e : sI h a f v = hu h a (.inr (ci, stI fs f v)) := by simp only [sI, ho, cI]
  rw [← e]; exact k
theorem y_putJ {a idx ci f : Nat} {fs : List Value} {x v : Int64} {ty : FieldType} (hd : decode (mC M) pc = .ok (.putfield idx, 3)) (hq : pc + 3 = q) (hf : FL (mO M) idx ci f ty false) (ho : h a = .inr (ci, fs)) (hx : fs[f]? = some (.long x)) (hnr : narrow ty (.long v) = .long v) (hft : fits ty (.long v) = true) (ha : 0 < a ∧ a ≤ n) (k : Vg M X Q q ls st n (sJ h a f v) kc ks) : Vg M X Q pc ls (.long v :: .ref a :: st) n h kc ks := by
  refine x_put hd hq hf ho (List.getElem?_eq_some_iff.mp hx).1 hnr hft ha ?_
  rw [stJ_set fs f x v hx]
  have e : sJ h a f v = hu h a (.inr (ci, stJ fs f v)) := by simp only [sJ, ho, cJ]
  rw [← e]; exact k
theorem y_iast {a N : Nat} {f : Nat → Int32} {i x : Int32} (hd : decode (mC M) pc = .ok (.iastore, 1)) (hq : pc + 1 = q) (ho : h a = .inl (0, N, .inl f)) (hi : vp_in i N) (ha : 0 < a ∧ a ≤ n) (k : Vg M X Q q ls st n (si h a (upd f i.toNatClampNeg x)) kc ks) : Vg M X Q pc ls (.int x :: .int i :: .ref a :: st) n h kc ks := by
  refine x_iast hd hq ho hi ha ?_
  have e : si h a (upd f i.toNatClampNeg x) = hu h a (.inl (0, N, .inl (upd f i.toNatClampNeg x))) := by simp only [si, ho, ci]
  rw [← e]; exact k
theorem y_zast {a N : Nat} {f : Nat → Int32} {i x : Int32} (hd : decode (mC M) pc = .ok (.bastore, 1)) (hq : pc + 1 = q) (ho : h a = .inl (1, N, .inl f)) (hi : vp_in i N) (hb0 : vp_nar .boolean x = x) (ha : 0 < a ∧ a ≤ n) (k : Vg M X Q q ls st n (si h a (upd f i.toNatClampNeg x)) kc ks) : Vg M X Q pc ls (.int x :: .int i :: .ref a :: st) n h kc ks := by
  refine x_zast hd hq ho hi hb0 ha ?_
  have e : si h a (upd f i.toNatClampNeg x) = hu h a (.inl (1, N, .inl (upd f i.toNatClampNeg x))) := by simp only [si, ho, ci]
  rw [← e]; exact k
theorem y_last {a N : Nat} {f : Nat → Int64} {i : Int32} {x : Int64} (hd : decode (mC M) pc = .ok (.lastore, 1)) (hq : pc + 1 = q) (ho : h a = .inl (2, N, .inr (.inl f))) (hi : vp_in i N) (ha : 0 < a ∧ a ≤ n) (k : Vg M X Q q ls st n (sl h a (vp_updL f i.toNatClampNeg x)) kc ks) : Vg M X Q pc ls (.long x :: .int i :: .ref a :: st) n h kc ks := by
  refine x_last hd hq ho hi ha ?_
  have e : sl h a (vp_updL f i.toNatClampNeg x) = hu h a (.inl (2, N, .inr (.inl (vp_updL f i.toNatClampNeg x)))) := by simp only [sl, ho, cl]
  rw [← e]; exact k
theorem y_acopy {a a0 N N0 idx : Nat} {f g : Nat → Int32} {sp dp len : Int32} (hd : decode (mC M) pc = .ok (.invokestatic idx, 3)) (hq : pc + 3 = q) (hw1 : Cond.methodLink (mO M) idx arraycopyName ∈ gw) (ho : h a = .inl (0, N, .inl g)) (ho0 : h a0 = .inl (0, N0, .inl f)) (ha : 0 < a ∧ a ≤ n) (ha0 : 0 < a0 ∧ a0 ≤ n) (h1 : ¬ sp < 0) (h2 : ¬ dp < 0) (h3 : ¬ len < 0) (h4 : sp.toNatClampNeg + len.toNatClampNeg ≤ N0) (h5 : dp.toNatClampNeg + len.toNatClampNeg ≤ N) (hfr : 1 ≤ (mR M).frames) (hlo : cats st + 18 ≤ (mR M).locals)
    (k : Vg M X Q q ls st n (si h a (va_cpy f g sp.toNatClampNeg dp.toNatClampNeg len.toNatClampNeg)) kc ks) : Vg M X Q pc ls (.int len :: .int dp :: .ref a :: .int sp :: .ref a0 :: st) n h kc ks := by
  refine x_acopy hd hq hw1 q_acn q_acs q_aci ho ho0 ha ha0 h1 h2 h3 h4 h5 hfr hlo ?_
  have e : si h a (va_cpy f g sp.toNatClampNeg dp.toNatClampNeg len.toNatClampNeg) = hu h a (.inl (0, N, .inl (va_cpy f g sp.toNatClampNeg dp.toNatClampNeg len.toNatClampNeg))) := by simp only [si, ho, ci]
  rw [← e]; exact k
abbrev RI (v : Int32) (h1 : HF) : PQ := fun r h' => r = some (.int v) ∧ h' = h1
abbrev RJ (v : Int64) (h1 : HF) : PQ := fun r h' => r = some (.long v) ∧ h' = h1
abbrev RV (h1 : HF) : PQ := fun r h' => r = none ∧ h' = h1
theorem y_csI {M' : MI} {idx na : Nat} {av rest : List Value} {v : Int32} {h1 : HF} (hd : decode (mC M) pc = .ok (.invokestatic idx, 3)) (hq : pc + 3 = q) (hl : KS (mO M) idx M' na) (hc : Mc M' av n h (RI v h1)) (hav : av.length = na) (hs : av.reverse ++ rest = st) (h0 : (mR M').cells = 0) (h00 : (mR M').slots = 0) (hr : rok M M' kc ks = true) (hw : Nat.ble (cats rest) 8 = true) (k : Vg M X Q q ls (.int v :: rest) n h1 kc ks) : Vg M X Q pc ls st n h kc ks := by
  refine x_cs (kc' := kc) (ks' := ks) hd hq hl hc hav hs hr hw (by rw [h0, Nat.add_zero]) (by rw [h00, Nat.add_zero]) (fun r h' hp => ?_)
  obtain ⟨e1, e2⟩ := hp
  rw [e1, e2, h0, Nat.add_zero]
  exact k
theorem y_cvI {M' : MI} {idx na : Nat} {av rest : List Value} {v : Int32} {h1 : HF} {a ci : Nat} {fs : List Value} (hd : decode (mC M) pc = .ok (.invokevirtual idx, 3)) (hq : pc + 3 = q) (hl : KV (mO M) idx ci M' na) (hc : Mc M' (.ref a :: av) n h (RI v h1)) (hav : av.length = na) (hs : av.reverse ++ .ref a :: rest = st) (ho : h a = .inr (ci, fs)) (ha : 0 < a ∧ a ≤ n) (h0 : (mR M').cells = 0) (h00 : (mR M').slots = 0) (hr : rok M M' kc ks = true) (hw : Nat.ble (cats rest) 8 = true) (k : Vg M X Q q ls (.int v :: rest) n h1 kc ks) : Vg M X Q pc ls st n h kc ks := by
  refine x_cv (kc' := kc) (ks' := ks) hd hq hl hc hav hs ho ha hr hw (by rw [h0, Nat.add_zero]) (by rw [h00, Nat.add_zero]) (fun r h' hp => ?_)
  obtain ⟨e1, e2⟩ := hp
  rw [e1, e2, h0, Nat.add_zero]
  exact k
theorem y_csJ {M' : MI} {idx na : Nat} {av rest : List Value} {v : Int64} {h1 : HF} (hd : decode (mC M) pc = .ok (.invokestatic idx, 3)) (hq : pc + 3 = q) (hl : KS (mO M) idx M' na) (hc : Mc M' av n h (RJ v h1)) (hav : av.length = na) (hs : av.reverse ++ rest = st) (h0 : (mR M').cells = 0) (h00 : (mR M').slots = 0) (hr : rok M M' kc ks = true) (hw : Nat.ble (cats rest) 8 = true) (k : Vg M X Q q ls (.long v :: rest) n h1 kc ks) : Vg M X Q pc ls st n h kc ks := by
  refine x_cs (kc' := kc) (ks' := ks) hd hq hl hc hav hs hr hw (by rw [h0, Nat.add_zero]) (by rw [h00, Nat.add_zero]) (fun r h' hp => ?_)
  obtain ⟨e1, e2⟩ := hp
  rw [e1, e2, h0, Nat.add_zero]
  exact k
theorem y_cvJ {M' : MI} {idx na : Nat} {av rest : List Value} {v : Int64} {h1 : HF} {a ci : Nat} {fs : List Value} (hd : decode (mC M) pc = .ok (.invokevirtual idx, 3)) (hq : pc + 3 = q) (hl : KV (mO M) idx ci M' na) (hc : Mc M' (.ref a :: av) n h (RJ v h1)) (hav : av.length = na) (hs : av.reverse ++ .ref a :: rest = st) (ho : h a = .inr (ci, fs)) (ha : 0 < a ∧ a ≤ n) (h0 : (mR M').cells = 0) (h00 : (mR M').slots = 0) (hr : rok M M' kc ks = true) (hw : Nat.ble (cats rest) 8 = true) (k : Vg M X Q q ls (.long v :: rest) n h1 kc ks) : Vg M X Q pc ls st n h kc ks := by
  refine x_cv (kc' := kc) (ks' := ks) hd hq hl hc hav hs ho ha hr hw (by rw [h0, Nat.add_zero]) (by rw [h00, Nat.add_zero]) (fun r h' hp => ?_)
  obtain ⟨e1, e2⟩ := hp
  rw [e1, e2, h0, Nat.add_zero]
  exact k
theorem y_csV {M' : MI} {idx na : Nat} {av rest : List Value} {h1 : HF} (hd : decode (mC M) pc = .ok (.invokestatic idx, 3)) (hq : pc + 3 = q) (hl : KS (mO M) idx M' na) (hc : Mc M' av n h (RV h1)) (hav : av.length = na) (hs : av.reverse ++ rest = st) (h0 : (mR M').cells = 0) (h00 : (mR M').slots = 0) (hr : rok M M' kc ks = true) (hw : Nat.ble (cats rest) 8 = true) (k : Vg M X Q q ls (rest) n h1 kc ks) : Vg M X Q pc ls st n h kc ks := by
  refine x_cs (kc' := kc) (ks' := ks) hd hq hl hc hav hs hr hw (by rw [h0, Nat.add_zero]) (by rw [h00, Nat.add_zero]) (fun r h' hp => ?_)
  obtain ⟨e1, e2⟩ := hp
  rw [e1, e2, h0, Nat.add_zero]
  exact k
theorem y_cvV {M' : MI} {idx na : Nat} {av rest : List Value} {h1 : HF} {a ci : Nat} {fs : List Value} (hd : decode (mC M) pc = .ok (.invokevirtual idx, 3)) (hq : pc + 3 = q) (hl : KV (mO M) idx ci M' na) (hc : Mc M' (.ref a :: av) n h (RV h1)) (hav : av.length = na) (hs : av.reverse ++ .ref a :: rest = st) (ho : h a = .inr (ci, fs)) (ha : 0 < a ∧ a ≤ n) (h0 : (mR M').cells = 0) (h00 : (mR M').slots = 0) (hr : rok M M' kc ks = true) (hw : Nat.ble (cats rest) 8 = true) (k : Vg M X Q q ls (rest) n h1 kc ks) : Vg M X Q pc ls st n h kc ks := by
  refine x_cv (kc' := kc) (ks' := ks) hd hq hl hc hav hs ho ha hr hw (by rw [h0, Nat.add_zero]) (by rw [h00, Nat.add_zero]) (fun r h' hp => ?_)
  obtain ⟨e1, e2⟩ := hp
  rw [e1, e2, h0, Nat.add_zero]
  exact k
end YROWS
end
section
theorem b01 {c : Prop} (hc : Decidable c) : (if c then (1 : Int32) else 0) = 1 ↔ c := by by_cases h : c <;> simp [h]
set_option maxHeartbeats 4000000 in
set_option maxRecDepth 100000 in
theorem c_X9_within {h : HF} (hS : Sh h) (v a b : Int32) : Mc mX9_within [.int v, .int a, .int b] 170 h (RI (if a ≤ v ∧ v ≤ b then 1 else 0) h) := by
  refine Mc.of (by decide) rfl (Nat.le_of_ble_eq_true rfl) ?_
  refine x_iload_n (q := 1) dX9_within_0 rfl rfl rfl ?_
  refine x_iload_n (q := 2) dX9_within_1 rfl rfl rfl ?_
  refine x_ic_lt (q := 5) (t := 14) dX9_within_2 rfl (by decide) (fun c_2 => ?_) (fun c_2 => ?_)
  · refine x_iconst (q := 15) (v := 0) dX9_within_14 rfl (by decide) ?_
    exact x_iret dX9_within_15 ⟨_, rfl, by first | rfl | (split <;> rfl)⟩ rfl (Nat.le_refl _) rfl ⟨by first | rfl | (split <;> first | rfl | (exfalso; simp only [Int32.le_iff_toInt_le, Int32.lt_iff_toInt_lt, Int32.reduceToInt] at *; omega)), rfl⟩
  · refine x_iload_n (q := 6) dX9_within_5 rfl rfl rfl ?_
    refine x_iload_n (q := 7) dX9_within_6 rfl rfl rfl ?_
    refine x_ic_gt (q := 10) (t := 14) dX9_within_7 rfl (by decide) (fun c_7 => ?_) (fun c_7 => ?_)
    · refine x_iconst (q := 15) (v := 0) dX9_within_14 rfl (by decide) ?_
      exact x_iret dX9_within_15 ⟨_, rfl, by first | rfl | (split <;> rfl)⟩ rfl (Nat.le_refl _) rfl ⟨by first | rfl | (split <;> first | rfl | (exfalso; simp only [Int32.le_iff_toInt_le, Int32.lt_iff_toInt_lt, Int32.reduceToInt] at *; omega)), rfl⟩
    · refine x_iconst (q := 11) (v := 1) dX9_within_10 rfl (by decide) ?_
      refine x_goto (q := 15) dX9_within_11 (by decide) ?_
      exact x_iret dX9_within_15 ⟨_, rfl, by first | rfl | (split <;> rfl)⟩ rfl (Nat.le_refl _) rfl ⟨by first | rfl | (split <;> first | rfl | (exfalso; simp only [Int32.le_iff_toInt_le, Int32.lt_iff_toInt_lt, Int32.reduceToInt] at *; omega)), rfl⟩

set_option maxHeartbeats 4000000 in
set_option maxRecDepth 100000 in
theorem c_X5_has {h : HF} (hS : Sh h) (v : Int32) : Mc mX5_has [.ref 2, .int v] 170 h (RI (if 0 ≤ v ∧ v < fI h 2 2 then 1 else 0) h) := by
  refine Mc.of (by decide) rfl (Nat.le_of_ble_eq_true rfl) ?_
  refine x_iload_n (q := 1) dX5_has_0 rfl rfl rfl ?_
  refine x_if_lt (q := 4) (t := 16) dX5_has_1 rfl (by decide) (fun c_1 => ?_) (fun c_1 => ?_)
  · refine x_iconst (q := 17) (v := 0) dX5_has_16 rfl (by decide) ?_
    exact x_iret dX5_has_17 ⟨_, rfl, by first | rfl | (split <;> rfl)⟩ rfl (Nat.le_refl _) rfl ⟨by first | rfl | (split <;> first | rfl | (exfalso; simp only [Int32.le_iff_toInt_le, Int32.lt_iff_toInt_lt, Int32.reduceToInt] at *; omega)), rfl⟩
  · refine x_iload_n (q := 5) dX5_has_4 rfl rfl rfl ?_
    refine x_aload_n (q := 6) dX5_has_5 rfl rfl rfl ?_
    refine x_get (q := 9) dX5_has_6 rfl f_X5_18 (cl_2 hS) rfl (by decide) ?_
    refine x_ic_ge (q := 12) (t := 16) dX5_has_9 rfl (by decide) (fun c_9 => ?_) (fun c_9 => ?_)
    · refine x_iconst (q := 17) (v := 0) dX5_has_16 rfl (by decide) ?_
      exact x_iret dX5_has_17 ⟨_, rfl, by first | rfl | (split <;> rfl)⟩ rfl (Nat.le_refl _) rfl ⟨by first | rfl | (split <;> first | rfl | (exfalso; simp only [Int32.le_iff_toInt_le, Int32.lt_iff_toInt_lt, Int32.reduceToInt] at *; omega)), rfl⟩
    · refine x_iconst (q := 13) (v := 1) dX5_has_12 rfl (by decide) ?_
      refine x_goto (q := 17) dX5_has_13 (by decide) ?_
      exact x_iret dX5_has_17 ⟨_, rfl, by first | rfl | (split <;> rfl)⟩ rfl (Nat.le_refl _) rfl ⟨by first | rfl | (split <;> first | rfl | (exfalso; simp only [Int32.le_iff_toInt_le, Int32.lt_iff_toInt_lt, Int32.reduceToInt] at *; omega)), rfl⟩

set_option maxHeartbeats 4000000 in
set_option maxRecDepth 100000 in
theorem c_X9_isStrength {h : HF} (hS : Sh h) (v : Int32) : Mc mX9_isStrength [.int v] 170 h (RI (if 0 ≤ v ∧ v ≤ 1000 then 1 else 0) h) := by
  refine Mc.of (by decide) rfl (Nat.le_of_ble_eq_true rfl) ?_
  refine x_iload_n (q := 1) dX9_isStrength_0 rfl rfl rfl ?_
  refine x_iconst (q := 2) (v := 0) dX9_isStrength_1 rfl (by decide) ?_
  refine x_sipush (q := 5) (v := 1000) dX9_isStrength_2 rfl (by decide) ?_
  refine y_csI (q := 8) dX9_isStrength_5 rfl l_X9_97 (c_X9_within hS _ _ _) rfl rfl rfl rfl rfl rfl ?_
  exact x_iret dX9_isStrength_8 ⟨_, rfl, by first | rfl | (split <;> rfl)⟩ rfl (Nat.le_refl _) rfl ⟨by first | rfl | (split <;> first | rfl | (exfalso; simp only [Int32.le_iff_toInt_le, Int32.lt_iff_toInt_lt, Int32.reduceToInt] at *; omega)), rfl⟩

set_option maxHeartbeats 4000000 in
set_option maxRecDepth 100000 in
theorem c_X5_tell {h : HF} (hS : Sh h) (b d x y : Int32) (hi : vp_in (b * 3 + d) 24) : Mc mX5_tell [.ref 2, .int b, .int d, .int x, .int y] 170 h (RV (si (si h 3 (upd (gi h 3) (b * 3 + d).toNatClampNeg x)) 4 (upd (gi h 4) (b * 3 + d).toNatClampNeg y))) := by
  refine Mc.of (by decide) rfl (Nat.le_of_ble_eq_true rfl) ?_
  refine x_aload_n (q := 1) dX5_tell_0 rfl rfl rfl ?_
  refine x_get (q := 4) dX5_tell_1 rfl f_X5_9 (cl_2 hS) rfl (by decide) ?_
  refine x_iload_n (q := 5) dX5_tell_4 rfl rfl rfl ?_
  refine x_iconst (q := 6) (v := 3) dX5_tell_5 rfl (by decide) ?_
  refine x_imul (q := 7) dX5_tell_6 rfl ?_
  refine x_iload_n (q := 8) dX5_tell_7 rfl rfl rfl ?_
  refine x_iadd (q := 9) dX5_tell_8 rfl ?_
  refine x_iload_n (q := 10) dX5_tell_9 rfl rfl rfl ?_
  refine y_iast (q := 11) dX5_tell_10 rfl (cl_3 hS) (by assumption) (by decide) ?_
  refine Vg.nm (fun h1 eh1 => ?_)
  have hS1 : Sh h1 := by rw [eh1]; exact hS.si _ _
  refine x_aload_n (q := 12) dX5_tell_11 rfl rfl rfl ?_
  refine x_get (q := 15) dX5_tell_12 rfl f_X5_15 (cl_2 hS1) rfl (by decide) ?_
  refine x_iload_n (q := 16) dX5_tell_15 rfl rfl rfl ?_
  refine x_iconst (q := 17) (v := 3) dX5_tell_16 rfl (by decide) ?_
  refine x_imul (q := 18) dX5_tell_17 rfl ?_
  refine x_iload_n (q := 19) dX5_tell_18 rfl rfl rfl ?_
  refine x_iadd (q := 20) dX5_tell_19 rfl ?_
  refine x_iload (q := 22) dX5_tell_20 rfl rfl ?_
  refine y_iast (q := 23) dX5_tell_22 rfl (cl_4 hS1) (by assumption) (by decide) ?_
  refine Vg.nm (fun h2 eh2 => ?_)
  have hS2 : Sh h2 := by rw [eh2]; exact hS1.si _ _
  exact x_vret dX5_tell_23 rfl rfl (Nat.le_refl _) rfl ⟨rfl, by subst_vars; simp only [gi_si_ne (show (4 : Nat) ≠ 3 by decide)]⟩
end
