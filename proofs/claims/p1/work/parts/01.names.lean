-- ===== PART A: goes FIRST, ahead of the names: the tables' words, and 'selects' of the private methods out of them =====
/-- a private method of a class that the tables say can be made, by its rows of tables_1 -/
def lw_okq (q : MethodName × Nat) : Prop := (q.1.cls ≠ "java/lang/invoke/MethodHandle" ∧ q.1.cls ≠ "java/lang/invoke/VarHandle") ∧ Cond.instantiable q.1.cls q.2 ∈ tables_1 ∧ Cond.privateMethod q.1 ∈ tables_1 ∧ Cond.instanceMethod q.1 ∈ tables_1
theorem lw_p0 : lw_okq (⟨"LeafSigner$Hashes", "startTagged", "(I[II)V"⟩, 6) := ⟨⟨by decide +kernel, by decide +kernel⟩, List.mem_of_getElem? (i := 112) (by decide +kernel), List.mem_of_getElem? (i := 261) (by decide +kernel), List.mem_of_getElem? (i := 262) (by decide +kernel)⟩
theorem lw_p1 : lw_okq (⟨"LeafSigner", "isWrongCount", "(I)Z"⟩, 8) := ⟨⟨by decide +kernel, by decide +kernel⟩, List.mem_of_getElem? (i := 14) (by decide +kernel), List.mem_of_getElem? (i := 329) (by decide +kernel), List.mem_of_getElem? (i := 330) (by decide +kernel)⟩
theorem lw_p2 : lw_okq (⟨"LeafSigner$Machine", "reserveMore", "()Z"⟩, 7) := ⟨⟨by decide +kernel, by decide +kernel⟩, List.mem_of_getElem? (i := 71) (by decide +kernel), List.mem_of_getElem? (i := 337) (by decide +kernel), List.mem_of_getElem? (i := 338) (by decide +kernel)⟩
theorem lw_p3 : lw_okq (⟨"LeafSigner$Disk", "writeByte", "(II)Z"⟩, 3) := ⟨⟨by decide +kernel, by decide +kernel⟩, List.mem_of_getElem? (i := 46) (by decide +kernel), List.mem_of_getElem? (i := 349) (by decide +kernel), List.mem_of_getElem? (i := 350) (by decide +kernel)⟩
theorem lw_p4 : lw_okq (⟨"LeafSigner$Hashes", "drawFromSeed", "(I[I)V"⟩, 6) := ⟨⟨by decide +kernel, by decide +kernel⟩, List.mem_of_getElem? (i := 112) (by decide +kernel), List.mem_of_getElem? (i := 395) (by decide +kernel), List.mem_of_getElem? (i := 396) (by decide +kernel)⟩
theorem lw_p5 : lw_okq (⟨"LeafSigner", "wasNeverKeyed", "()Z"⟩, 8) := ⟨⟨by decide +kernel, by decide +kernel⟩, List.mem_of_getElem? (i := 14) (by decide +kernel), List.mem_of_getElem? (i := 478) (by decide +kernel), List.mem_of_getElem? (i := 479) (by decide +kernel)⟩
theorem lw_p6 : lw_okq (⟨"LeafSigner$Tree", "isRoot", "([I)Z"⟩, 11) := ⟨⟨by decide +kernel, by decide +kernel⟩, List.mem_of_getElem? (i := 103) (by decide +kernel), List.mem_of_getElem? (i := 494) (by decide +kernel), List.mem_of_getElem? (i := 495) (by decide +kernel)⟩
theorem lw_p7 : lw_okq (⟨"LeafSignerModel", "feedOne", "(I)V"⟩, 40) := ⟨⟨by decide +kernel, by decide +kernel⟩, List.mem_of_getElem? (i := 530) (by decide +kernel), List.mem_of_getElem? (i := 738) (by decide +kernel), List.mem_of_getElem? (i := 739) (by decide +kernel)⟩
theorem lw_p8 : lw_okq (⟨"LeafSignerModel", "grows", "()V"⟩, 40) := ⟨⟨by decide +kernel, by decide +kernel⟩, List.mem_of_getElem? (i := 530) (by decide +kernel), List.mem_of_getElem? (i := 746) (by decide +kernel), List.mem_of_getElem? (i := 747) (by decide +kernel)⟩
theorem lw_p9 : lw_okq (⟨"LeafSignerModel", "begun", "(I)V"⟩, 40) := ⟨⟨by decide +kernel, by decide +kernel⟩, List.mem_of_getElem? (i := 530) (by decide +kernel), List.mem_of_getElem? (i := 750) (by decide +kernel), List.mem_of_getElem? (i := 751) (by decide +kernel)⟩
theorem lw_p10 : lw_okq (⟨"LeafSignerModel", "derives", "([BI[BI)V"⟩, 40) := ⟨⟨by decide +kernel, by decide +kernel⟩, List.mem_of_getElem? (i := 530) (by decide +kernel), List.mem_of_getElem? (i := 754) (by decide +kernel), List.mem_of_getElem? (i := 755) (by decide +kernel)⟩
theorem lw_p11 : lw_okq (⟨"LeafSignerModel", "begins", "(I)V"⟩, 40) := ⟨⟨by decide +kernel, by decide +kernel⟩, List.mem_of_getElem? (i := 530) (by decide +kernel), List.mem_of_getElem? (i := 758) (by decide +kernel), List.mem_of_getElem? (i := 759) (by decide +kernel)⟩
theorem lw_p12 : lw_okq (⟨"LeafSignerModel", "putNumber", "(II)V"⟩, 40) := ⟨⟨by decide +kernel, by decide +kernel⟩, List.mem_of_getElem? (i := 530) (by decide +kernel), List.mem_of_getElem? (i := 762) (by decide +kernel), List.mem_of_getElem? (i := 763) (by decide +kernel)⟩
theorem lw_p13 : lw_okq (⟨"LeafSignerModel", "put", "(I)V"⟩, 40) := ⟨⟨by decide +kernel, by decide +kernel⟩, List.mem_of_getElem? (i := 530) (by decide +kernel), List.mem_of_getElem? (i := 766) (by decide +kernel), List.mem_of_getElem? (i := 767) (by decide +kernel)⟩
theorem lw_p14 : lw_okq (⟨"LeafSignerModel", "putRow", "([BII)V"⟩, 40) := ⟨⟨by decide +kernel, by decide +kernel⟩, List.mem_of_getElem? (i := 530) (by decide +kernel), List.mem_of_getElem? (i := 770) (by decide +kernel), List.mem_of_getElem? (i := 771) (by decide +kernel)⟩
theorem lw_p15 : lw_okq (⟨"LeafSignerModel", "sums", "([BI)V"⟩, 40) := ⟨⟨by decide +kernel, by decide +kernel⟩, List.mem_of_getElem? (i := 530) (by decide +kernel), List.mem_of_getElem? (i := 774) (by decide +kernel), List.mem_of_getElem? (i := 775) (by decide +kernel)⟩
def lw_privs_1 : List (MethodName × Nat) := [(⟨"LeafSigner$Hashes", "startTagged", "(I[II)V"⟩, 6), (⟨"LeafSigner", "isWrongCount", "(I)Z"⟩, 8), (⟨"LeafSigner$Machine", "reserveMore", "()Z"⟩, 7), (⟨"LeafSigner$Disk", "writeByte", "(II)Z"⟩, 3), (⟨"LeafSigner$Hashes", "drawFromSeed", "(I[I)V"⟩, 6), (⟨"LeafSigner", "wasNeverKeyed", "()Z"⟩, 8), (⟨"LeafSigner$Tree", "isRoot", "([I)Z"⟩, 11), (⟨"LeafSignerModel", "feedOne", "(I)V"⟩, 40), (⟨"LeafSignerModel", "grows", "()V"⟩, 40), (⟨"LeafSignerModel", "begun", "(I)V"⟩, 40), (⟨"LeafSignerModel", "derives", "([BI[BI)V"⟩, 40), (⟨"LeafSignerModel", "begins", "(I)V"⟩, 40), (⟨"LeafSignerModel", "putNumber", "(II)V"⟩, 40), (⟨"LeafSignerModel", "put", "(I)V"⟩, 40), (⟨"LeafSignerModel", "putRow", "([BII)V"⟩, 40), (⟨"LeafSignerModel", "sums", "([BI)V"⟩, 40)]
theorem lw_r1 : ∀ q ∈ lw_privs_1, lw_okq q := List.forall_mem_cons.mpr ⟨lw_p0, List.forall_mem_cons.mpr ⟨lw_p1, List.forall_mem_cons.mpr ⟨lw_p2, List.forall_mem_cons.mpr ⟨lw_p3, List.forall_mem_cons.mpr ⟨lw_p4, List.forall_mem_cons.mpr ⟨lw_p5, List.forall_mem_cons.mpr ⟨lw_p6, List.forall_mem_cons.mpr ⟨lw_p7, List.forall_mem_cons.mpr ⟨lw_p8, List.forall_mem_cons.mpr ⟨lw_p9, List.forall_mem_cons.mpr ⟨lw_p10, List.forall_mem_cons.mpr ⟨lw_p11, List.forall_mem_cons.mpr ⟨lw_p12, List.forall_mem_cons.mpr ⟨lw_p13, List.forall_mem_cons.mpr ⟨lw_p14, List.forall_mem_cons.mpr ⟨lw_p15, fun _ h => absurd h List.not_mem_nil⟩⟩⟩⟩⟩⟩⟩⟩⟩⟩⟩⟩⟩⟩⟩⟩
theorem lw_p16 : lw_okq (⟨"LeafSignerModel", "block", "(I)V"⟩, 40) := ⟨⟨by decide +kernel, by decide +kernel⟩, List.mem_of_getElem? (i := 530) (by decide +kernel), List.mem_of_getElem? (i := 778) (by decide +kernel), List.mem_of_getElem? (i := 779) (by decide +kernel)⟩
theorem lw_p17 : lw_okq (⟨"LeafSignerModel", "goes", "(IZ)V"⟩, 40) := ⟨⟨by decide +kernel, by decide +kernel⟩, List.mem_of_getElem? (i := 530) (by decide +kernel), List.mem_of_getElem? (i := 785) (by decide +kernel), List.mem_of_getElem? (i := 786) (by decide +kernel)⟩
theorem lw_p18 : lw_okq (⟨"LeafSignerModel", "tells", "(II)V"⟩, 40) := ⟨⟨by decide +kernel, by decide +kernel⟩, List.mem_of_getElem? (i := 530) (by decide +kernel), List.mem_of_getElem? (i := 789) (by decide +kernel), List.mem_of_getElem? (i := 790) (by decide +kernel)⟩
theorem lw_p19 : lw_okq (⟨"LeafSignerModel", "tell", "(II)V"⟩, 40) := ⟨⟨by decide +kernel, by decide +kernel⟩, List.mem_of_getElem? (i := 530) (by decide +kernel), List.mem_of_getElem? (i := 793) (by decide +kernel), List.mem_of_getElem? (i := 794) (by decide +kernel)⟩
theorem lw_p20 : lw_okq (⟨"LeafSignerModel", "chains", "([BIII)V"⟩, 40) := ⟨⟨by decide +kernel, by decide +kernel⟩, List.mem_of_getElem? (i := 530) (by decide +kernel), List.mem_of_getElem? (i := 797) (by decide +kernel), List.mem_of_getElem? (i := 798) (by decide +kernel)⟩
theorem lw_p21 : lw_okq (⟨"LeafSignerModel", "uses", "(I[B)V"⟩, 40) := ⟨⟨by decide +kernel, by decide +kernel⟩, List.mem_of_getElem? (i := 530) (by decide +kernel), List.mem_of_getElem? (i := 801) (by decide +kernel), List.mem_of_getElem? (i := 802) (by decide +kernel)⟩
theorem lw_p22 : lw_okq (⟨"LeafSignerModel", "nodeAt", "(II)I"⟩, 40) := ⟨⟨by decide +kernel, by decide +kernel⟩, List.mem_of_getElem? (i := 530) (by decide +kernel), List.mem_of_getElem? (i := 805) (by decide +kernel), List.mem_of_getElem? (i := 806) (by decide +kernel)⟩
theorem lw_p23 : lw_okq (⟨"LeafSignerModel", "gathers", "(I[BI)V"⟩, 40) := ⟨⟨by decide +kernel, by decide +kernel⟩, List.mem_of_getElem? (i := 530) (by decide +kernel), List.mem_of_getElem? (i := 809) (by decide +kernel), List.mem_of_getElem? (i := 810) (by decide +kernel)⟩
theorem lw_p24 : lw_okq (⟨"LeafSignerModel", "joins", "([BI[BI[BI)V"⟩, 40) := ⟨⟨by decide +kernel, by decide +kernel⟩, List.mem_of_getElem? (i := 530) (by decide +kernel), List.mem_of_getElem? (i := 813) (by decide +kernel), List.mem_of_getElem? (i := 814) (by decide +kernel)⟩
theorem lw_p25 : lw_okq (⟨"LeafSignerModel", "reserves", "()Z"⟩, 40) := ⟨⟨by decide +kernel, by decide +kernel⟩, List.mem_of_getElem? (i := 530) (by decide +kernel), List.mem_of_getElem? (i := 824) (by decide +kernel), List.mem_of_getElem? (i := 825) (by decide +kernel)⟩
theorem lw_p26 : lw_okq (⟨"LeafSignerModel", "writes", "(II)Z"⟩, 40) := ⟨⟨by decide +kernel, by decide +kernel⟩, List.mem_of_getElem? (i := 530) (by decide +kernel), List.mem_of_getElem? (i := 828) (by decide +kernel), List.mem_of_getElem? (i := 829) (by decide +kernel)⟩
theorem lw_p27 : lw_okq (⟨"LeafSignerModel", "falls", "()V"⟩, 40) := ⟨⟨by decide +kernel, by decide +kernel⟩, List.mem_of_getElem? (i := 530) (by decide +kernel), List.mem_of_getElem? (i := 832) (by decide +kernel), List.mem_of_getElem? (i := 833) (by decide +kernel)⟩
theorem lw_p28 : lw_okq (⟨"LeafSignerModel", "reads", "([BIII)V"⟩, 40) := ⟨⟨by decide +kernel, by decide +kernel⟩, List.mem_of_getElem? (i := 530) (by decide +kernel), List.mem_of_getElem? (i := 836) (by decide +kernel), List.mem_of_getElem? (i := 837) (by decide +kernel)⟩
theorem lw_p29 : lw_okq (⟨"LeafSignerModel", "wholeOf", "(I)I"⟩, 40) := ⟨⟨by decide +kernel, by decide +kernel⟩, List.mem_of_getElem? (i := 530) (by decide +kernel), List.mem_of_getElem? (i := 852) (by decide +kernel), List.mem_of_getElem? (i := 853) (by decide +kernel)⟩
theorem lw_p30 : lw_okq (⟨"LeafSignerModel", "diskNumber", "(I)I"⟩, 40) := ⟨⟨by decide +kernel, by decide +kernel⟩, List.mem_of_getElem? (i := 530) (by decide +kernel), List.mem_of_getElem? (i := 856) (by decide +kernel), List.mem_of_getElem? (i := 857) (by decide +kernel)⟩
def lw_privs_2 : List (MethodName × Nat) := [(⟨"LeafSignerModel", "block", "(I)V"⟩, 40), (⟨"LeafSignerModel", "goes", "(IZ)V"⟩, 40), (⟨"LeafSignerModel", "tells", "(II)V"⟩, 40), (⟨"LeafSignerModel", "tell", "(II)V"⟩, 40), (⟨"LeafSignerModel", "chains", "([BIII)V"⟩, 40), (⟨"LeafSignerModel", "uses", "(I[B)V"⟩, 40), (⟨"LeafSignerModel", "nodeAt", "(II)I"⟩, 40), (⟨"LeafSignerModel", "gathers", "(I[BI)V"⟩, 40), (⟨"LeafSignerModel", "joins", "([BI[BI[BI)V"⟩, 40), (⟨"LeafSignerModel", "reserves", "()Z"⟩, 40), (⟨"LeafSignerModel", "writes", "(II)Z"⟩, 40), (⟨"LeafSignerModel", "falls", "()V"⟩, 40), (⟨"LeafSignerModel", "reads", "([BIII)V"⟩, 40), (⟨"LeafSignerModel", "wholeOf", "(I)I"⟩, 40), (⟨"LeafSignerModel", "diskNumber", "(I)I"⟩, 40)]
theorem lw_r2 : ∀ q ∈ lw_privs_2, lw_okq q := List.forall_mem_cons.mpr ⟨lw_p16, List.forall_mem_cons.mpr ⟨lw_p17, List.forall_mem_cons.mpr ⟨lw_p18, List.forall_mem_cons.mpr ⟨lw_p19, List.forall_mem_cons.mpr ⟨lw_p20, List.forall_mem_cons.mpr ⟨lw_p21, List.forall_mem_cons.mpr ⟨lw_p22, List.forall_mem_cons.mpr ⟨lw_p23, List.forall_mem_cons.mpr ⟨lw_p24, List.forall_mem_cons.mpr ⟨lw_p25, List.forall_mem_cons.mpr ⟨lw_p26, List.forall_mem_cons.mpr ⟨lw_p27, List.forall_mem_cons.mpr ⟨lw_p28, List.forall_mem_cons.mpr ⟨lw_p29, List.forall_mem_cons.mpr ⟨lw_p30, fun _ h => absurd h List.not_mem_nil⟩⟩⟩⟩⟩⟩⟩⟩⟩⟩⟩⟩⟩⟩⟩
def lw_privs : List (MethodName × Nat) := lw_privs_1 ++ (lw_privs_2)
def lw_tbl : List Cond := k2_sels lw_privs ++ tables_1
theorem lw_privs_ok : ∀ q ∈ lw_privs, lw_okq q := by
  show ∀ q ∈ lw_privs_1 ++ (lw_privs_2), lw_okq q
  exact List.forall_mem_append.mpr ⟨lw_r1, lw_r2⟩

def RX0 : String := "LeafSigner$ByteRow"
def TX0 : u_T := fun k => match k with
  | 0 => ("LeafSigner$ByteRow", "words", "[I", true)
  | _ => ("LeafSigner$ByteRow", "count", "I", false)
def tyX0 : Nat → FieldType := fun k => match k with
  | 0 => .array .int
  | _ => .int
abbrev wsX00 : List Cond := u_ws RX0 TX0 2
theorem nmX0 : ∀ a, a < 2 → ∀ b, b < 2 → a ≠ b → (TX0 a).2.1 ≠ (TX0 b).2.1 := by decide +kernel
theorem tyX0_ok : ∀ k, k < 2 → parseFieldDescriptor (TX0 k).2.2.1 = some (tyX0 k) := by decide +kernel
abbrev cX0_init : ByteArray := prog_2_method_1_code
def yX0_init : MethodName := ⟨RX0, "<init>", "(I)V"⟩
abbrev cX0_byteAt : ByteArray := prog_2_method_2_code
def yX0_byteAt : MethodName := ⟨RX0, "byteAt", "(I)I"⟩
abbrev cX0_flip : ByteArray := prog_2_method_3_code
def yX0_flip : MethodName := ⟨RX0, "flip", "(II)V"⟩
abbrev cX0_append : ByteArray := prog_2_method_4_code
def yX0_append : MethodName := ⟨RX0, "append", "(I)V"⟩
abbrev cX0_fill : ByteArray := prog_2_method_5_code
def yX0_fill : MethodName := ⟨RX0, "fill", "()V"⟩
abbrev cX0_isFull : ByteArray := prog_2_method_6_code
def yX0_isFull : MethodName := ⟨RX0, "isFull", "()Z"⟩
abbrev cX0_copyOf : ByteArray := prog_2_method_7_code
def yX0_copyOf : MethodName := ⟨RX0, "copyOf", "(LLeafSigner$ByteRow;)V"⟩
abbrev cX0_shiftOf : ByteArray := prog_2_method_8_code
def yX0_shiftOf : MethodName := ⟨RX0, "shiftOf", "(I)I"⟩
def RX1 : String := "LeafSigner$Disk"
def TX1 : u_T := fun k => match k with
  | 0 => ("LeafSigner$Disk", "bytes", "LLeafSigner$ByteRow;", true)
  | 1 => ("LeafSigner$Disk", "written", "I", false)
  | _ => ("LeafSigner$Disk", "fuseLeft", "I", false)
def tyX1 : Nat → FieldType := fun k => match k with
  | 0 => .object "LeafSigner$ByteRow"
  | 1 => .int
  | _ => .int
abbrev wsX10 : List Cond := u_ws RX1 TX1 3
theorem nmX1 : ∀ a, a < 3 → ∀ b, b < 3 → a ≠ b → (TX1 a).2.1 ≠ (TX1 b).2.1 := by decide +kernel
theorem tyX1_ok : ∀ k, k < 3 → parseFieldDescriptor (TX1 k).2.2.1 = some (tyX1 k) := by decide +kernel
abbrev cX1_init : ByteArray := prog_3_method_1_code
def yX1_init : MethodName := ⟨RX1, "<init>", "()V"⟩
abbrev cX1_erase : ByteArray := prog_3_method_2_code
def yX1_erase : MethodName := ⟨RX1, "erase", "()V"⟩
abbrev cX1_sequenceOf : ByteArray := prog_3_method_3_code
def yX1_sequenceOf : MethodName := ⟨RX1, "sequenceOf", "(I)I"⟩
abbrev cX1_limitOf : ByteArray := prog_3_method_4_code
def yX1_limitOf : MethodName := ⟨RX1, "limitOf", "(I)I"⟩
abbrev cX1_writeSlot : ByteArray := prog_3_method_5_code
def yX1_writeSlot : MethodName := ⟨RX1, "writeSlot", "(II)Z"⟩
abbrev cX1_writeByte : ByteArray := prog_3_method_6_code
def yX1_writeByte : MethodName := ⟨RX1, "writeByte", "(II)Z"⟩
def RX2 : String := "LeafSigner$Hashes"
def TX2 : u_T := fun k => match k with
  | 0 => ("LeafSigner$Hashes", "sha", "LLeafSigner$Sha256;", true)
  | 1 => ("LeafSigner$Hashes", "seedState", "[I", true)
  | 2 => ("LeafSigner$Hashes", "address", "[I", true)
  | 3 => ("LeafSigner$Hashes", "key", "[I", true)
  | 4 => ("LeafSigner$Hashes", "mask", "[I", true)
  | _ => ("LeafSigner$Hashes", "otherMask", "[I", true)
def tyX2 : Nat → FieldType := fun k => match k with
  | 0 => .object "LeafSigner$Sha256"
  | 1 => .array .int
  | 2 => .array .int
  | 3 => .array .int
  | 4 => .array .int
  | _ => .array .int
abbrev wsX20 : List Cond := u_ws RX2 TX2 6
theorem nmX2 : ∀ a, a < 6 → ∀ b, b < 6 → a ≠ b → (TX2 a).2.1 ≠ (TX2 b).2.1 := by decide +kernel
theorem tyX2_ok : ∀ k, k < 6 → parseFieldDescriptor (TX2 k).2.2.1 = some (tyX2 k) := by decide +kernel
abbrev cX2_init : ByteArray := prog_4_method_1_code
def yX2_init : MethodName := ⟨RX2, "<init>", "()V"⟩
abbrev cX2_takeSeed : ByteArray := prog_4_method_2_code
def yX2_takeSeed : MethodName := ⟨RX2, "takeSeed", "([II)V"⟩
abbrev cX2_address : ByteArray := prog_4_method_3_code
def yX2_address : MethodName := ⟨RX2, "address", "(IIII)V"⟩
abbrev cX2_derive : ByteArray := prog_4_method_4_code
def yX2_derive : MethodName := ⟨RX2, "derive", "([II[II)V"⟩
abbrev cX2_chain : ByteArray := prog_4_method_5_code
def yX2_chain : MethodName := ⟨RX2, "chain", "([IIII)V"⟩
abbrev cX2_join : ByteArray := prog_4_method_6_code
def yX2_join : MethodName := ⟨RX2, "join", "([II[II)V"⟩
abbrev cX2_digestMessage : ByteArray := prog_4_method_7_code
def yX2_digestMessage : MethodName := ⟨RX2, "digestMessage", "([I[I[II[I)V"⟩
abbrev cX2_drawFromSeed : ByteArray := prog_4_method_8_code
def yX2_drawFromSeed : MethodName := ⟨RX2, "drawFromSeed", "(I[I)V"⟩
abbrev cX2_startTagged : ByteArray := prog_4_method_9_code
def yX2_startTagged : MethodName := ⟨RX2, "startTagged", "(I[II)V"⟩
def RX3 : String := "LeafSigner$Machine"
def TX3 : u_T := fun k => match k with
  | 0 => ("LeafSigner$Machine", "fates", "[I", true)
  | 1 => ("LeafSigner$Machine", "reserve", "I", true)
  | 2 => ("LeafSigner$Machine", "disk", "LLeafSigner$Disk;", true)
  | 3 => ("LeafSigner$Machine", "state", "I", false)
  | 4 => ("LeafSigner$Machine", "next", "I", false)
  | 5 => ("LeafSigner$Machine", "end", "I", false)
  | _ => ("LeafSigner$Machine", "sequence", "I", false)
def tyX3 : Nat → FieldType := fun k => match k with
  | 0 => .array .int
  | 1 => .int
  | 2 => .object "LeafSigner$Disk"
  | 3 => .int
  | 4 => .int
  | 5 => .int
  | _ => .int
abbrev wsX30 : List Cond := u_ws RX3 TX3 7
theorem nmX3 : ∀ a, a < 7 → ∀ b, b < 7 → a ≠ b → (TX3 a).2.1 ≠ (TX3 b).2.1 := by decide +kernel
theorem tyX3_ok : ∀ k, k < 7 → parseFieldDescriptor (TX3 k).2.2.1 = some (tyX3 k) := by decide +kernel
abbrev cX3_init : ByteArray := prog_5_method_1_code
def yX3_init : MethodName := ⟨RX3, "<init>", "(IILLeafSigner$Disk;)V"⟩
abbrev cX3_begin : ByteArray := prog_5_method_2_code
def yX3_begin : MethodName := ⟨RX3, "begin", "()V"⟩
abbrev cX3_comeUp : ByteArray := prog_5_method_3_code
def yX3_comeUp : MethodName := ⟨RX3, "comeUp", "()V"⟩
abbrev cX3_goDown : ByteArray := prog_5_method_4_code
def yX3_goDown : MethodName := ⟨RX3, "goDown", "()V"⟩
abbrev cX3_release : ByteArray := prog_5_method_5_code
def yX3_release : MethodName := ⟨RX3, "release", "()I"⟩
abbrev cX3_reserveMore : ByteArray := prog_5_method_6_code
def yX3_reserveMore : MethodName := ⟨RX3, "reserveMore", "()Z"⟩
abbrev cX3_countOf : ByteArray := prog_5_method_7_code
def yX3_countOf : MethodName := ⟨RX3, "countOf", "(I)I"⟩
def RX4 : String := "LeafSigner$OneTime"
def TX4 : u_T := fun k => match k with
  | 0 => ("LeafSigner$OneTime", "hashes", "LLeafSigner$Hashes;", true)
  | 1 => ("LeafSigner$OneTime", "leafSecret", "[I", true)
  | 2 => ("LeafSigner$OneTime", "bottoms", "[I", true)
  | 3 => ("LeafSigner$OneTime", "digits", "[I", true)
  | _ => ("LeafSigner$OneTime", "tops", "[I", true)
def tyX4 : Nat → FieldType := fun k => match k with
  | 0 => .object "LeafSigner$Hashes"
  | 1 => .array .int
  | 2 => .array .int
  | 3 => .array .int
  | _ => .array .int
abbrev wsX40 : List Cond := u_ws RX4 TX4 5
theorem nmX4 : ∀ a, a < 5 → ∀ b, b < 5 → a ≠ b → (TX4 a).2.1 ≠ (TX4 b).2.1 := by decide +kernel
theorem tyX4_ok : ∀ k, k < 5 → parseFieldDescriptor (TX4 k).2.2.1 = some (tyX4 k) := by decide +kernel
abbrev cX4_init : ByteArray := prog_6_method_1_code
def yX4_init : MethodName := ⟨RX4, "<init>", "(LLeafSigner$Hashes;)V"⟩
abbrev cX4_writeSecrets : ByteArray := prog_6_method_2_code
def yX4_writeSecrets : MethodName := ⟨RX4, "writeSecrets", "([II[II)V"⟩
abbrev cX4_readDigits : ByteArray := prog_6_method_3_code
def yX4_readDigits : MethodName := ⟨RX4, "readDigits", "([I)V"⟩
abbrev cX4_walk : ByteArray := prog_6_method_4_code
def yX4_walk : MethodName := ⟨RX4, "walk", "(I[II[I[I)V"⟩
abbrev cX4_joinParts : ByteArray := prog_6_method_5_code
def yX4_joinParts : MethodName := ⟨RX4, "joinParts", "(I[I[II)V"⟩
def RX5 : String := "LeafSigner$Sha256"
def TX5 : u_T := fun k => match k with
  | 0 => ("LeafSigner$Sha256", "state", "[I", true)
  | _ => ("LeafSigner$Sha256", "words", "[I", true)
def tyX5 : Nat → FieldType := fun k => match k with
  | 0 => .array .int
  | _ => .array .int
abbrev wsX50 : List Cond := u_ws RX5 TX5 2
theorem nmX5 : ∀ a, a < 2 → ∀ b, b < 2 → a ≠ b → (TX5 a).2.1 ≠ (TX5 b).2.1 := by decide +kernel
theorem tyX5_ok : ∀ k, k < 2 → parseFieldDescriptor (TX5 k).2.2.1 = some (tyX5 k) := by decide +kernel
abbrev cX5_init : ByteArray := prog_7_method_1_code
def yX5_init : MethodName := ⟨RX5, "<init>", "()V"⟩
abbrev cX5_start : ByteArray := prog_7_method_2_code
def yX5_start : MethodName := ⟨RX5, "start", "()V"⟩
abbrev cX5_startFrom : ByteArray := prog_7_method_3_code
def yX5_startFrom : MethodName := ⟨RX5, "startFrom", "([I)V"⟩
abbrev cX5_copyTo : ByteArray := prog_7_method_4_code
def yX5_copyTo : MethodName := ⟨RX5, "copyTo", "([II)V"⟩
abbrev cX5_putRow : ByteArray := prog_7_method_5_code
def yX5_putRow : MethodName := ⟨RX5, "putRow", "(I[II)V"⟩
abbrev cX5_putMasked : ByteArray := prog_7_method_6_code
def yX5_putMasked : MethodName := ⟨RX5, "putMasked", "(I[II[I)V"⟩
abbrev cX5_putNumber : ByteArray := prog_7_method_7_code
def yX5_putNumber : MethodName := ⟨RX5, "putNumber", "(II)V"⟩
abbrev cX5_putEnd : ByteArray := prog_7_method_8_code
def yX5_putEnd : MethodName := ⟨RX5, "putEnd", "(II)V"⟩
abbrev cX5_finish : ByteArray := prog_7_method_9_code
def yX5_finish : MethodName := ⟨RX5, "finish", "([III)V"⟩
abbrev cX5_paddedWord : ByteArray := prog_7_method_10_code
def yX5_paddedWord : MethodName := ⟨RX5, "paddedWord", "([III)I"⟩
abbrev cX5_compress : ByteArray := prog_7_method_11_code
def yX5_compress : MethodName := ⟨RX5, "compress", "()V"⟩
abbrev cX5_mixEarly : ByteArray := prog_7_method_12_code
def yX5_mixEarly : MethodName := ⟨RX5, "mixEarly", "(I)I"⟩
abbrev cX5_mixLate : ByteArray := prog_7_method_13_code
def yX5_mixLate : MethodName := ⟨RX5, "mixLate", "(I)I"⟩
abbrev cX5_mixA : ByteArray := prog_7_method_14_code
def yX5_mixA : MethodName := ⟨RX5, "mixA", "(I)I"⟩
abbrev cX5_mixE : ByteArray := prog_7_method_15_code
def yX5_mixE : MethodName := ⟨RX5, "mixE", "(I)I"⟩
def RX6 : String := "LeafSigner$Tree"
def TX6 : u_T := fun k => match k with
  | 0 => ("LeafSigner$Tree", "height", "I", true)
  | 1 => ("LeafSigner$Tree", "leaves", "I", true)
  | 2 => ("LeafSigner$Tree", "nodes", "LLeafSigner$ByteRow;", true)
  | 3 => ("LeafSigner$Tree", "hashes", "LLeafSigner$Hashes;", true)
  | 4 => ("LeafSigner$Tree", "oneTime", "LLeafSigner$OneTime;", true)
  | 5 => ("LeafSigner$Tree", "secret", "[I", true)
  | 6 => ("LeafSigner$Tree", "randomKey", "[I", true)
  | 7 => ("LeafSigner$Tree", "digest", "[I", true)
  | 8 => ("LeafSigner$Tree", "parts", "[I", true)
  | 9 => ("LeafSigner$Tree", "pair", "[I", true)
  | _ => ("LeafSigner$Tree", "grown", "Z", false)
def tyX6 : Nat → FieldType := fun k => match k with
  | 0 => .int
  | 1 => .int
  | 2 => .object "LeafSigner$ByteRow"
  | 3 => .object "LeafSigner$Hashes"
  | 4 => .object "LeafSigner$OneTime"
  | 5 => .array .int
  | 6 => .array .int
  | 7 => .array .int
  | 8 => .array .int
  | 9 => .array .int
  | _ => .boolean
abbrev wsX60 : List Cond := u_ws RX6 TX6 11
theorem nmX6 : ∀ a, a < 11 → ∀ b, b < 11 → a ≠ b → (TX6 a).2.1 ≠ (TX6 b).2.1 := by decide +kernel
theorem tyX6_ok : ∀ k, k < 11 → parseFieldDescriptor (TX6 k).2.2.1 = some (tyX6 k) := by decide +kernel
abbrev cX6_init : ByteArray := prog_8_method_1_code
def yX6_init : MethodName := ⟨RX6, "<init>", "(I)V"⟩
abbrev cX6_plant : ByteArray := prog_8_method_2_code
def yX6_plant : MethodName := ⟨RX6, "plant", "([I)V"⟩
abbrev cX6_hasLeaf : ByteArray := prog_8_method_3_code
def yX6_hasLeaf : MethodName := ⟨RX6, "hasLeaf", "(I)Z"⟩
abbrev cX6_hasNode : ByteArray := prog_8_method_4_code
def yX6_hasNode : MethodName := ⟨RX6, "hasNode", "(II)Z"⟩
abbrev cX6_nodeAt : ByteArray := prog_8_method_5_code
def yX6_nodeAt : MethodName := ⟨RX6, "nodeAt", "(II)I"⟩
abbrev cX6_grow : ByteArray := prog_8_method_6_code
def yX6_grow : MethodName := ⟨RX6, "grow", "()V"⟩
abbrev cX6_writeSignature : ByteArray := prog_8_method_7_code
def yX6_writeSignature : MethodName := ⟨RX6, "writeSignature", "(I[II[I)V"⟩
abbrev cX6_leadsToRoot : ByteArray := prog_8_method_8_code
def yX6_leadsToRoot : MethodName := ⟨RX6, "leadsToRoot", "([I[II)Z"⟩
abbrev cX6_isRoot : ByteArray := prog_8_method_9_code
def yX6_isRoot : MethodName := ⟨RX6, "isRoot", "([I)Z"⟩
def RX7 : String := "LeafSigner"
def TX7 : u_T := fun k => match k with
  | 0 => ("LeafSigner", "height", "I", true)
  | 1 => ("LeafSigner", "reserve", "I", true)
  | 2 => ("LeafSigner", "tape", "LLeafSigner$ByteRow;", true)
  | 3 => ("LeafSigner", "output", "LLeafSigner$ByteRow;", true)
  | 4 => ("LeafSigner", "held", "LLeafSigner$ByteRow;", true)
  | 5 => ("LeafSigner", "store", "LLeafSigner$Disk;", true)
  | 6 => ("LeafSigner", "machine", "LLeafSigner$Machine;", true)
  | _ => ("LeafSigner", "tree", "LLeafSigner$Tree;", true)
def tyX7 : Nat → FieldType := fun k => match k with
  | 0 => .int
  | 1 => .int
  | 2 => .object "LeafSigner$ByteRow"
  | 3 => .object "LeafSigner$ByteRow"
  | 4 => .object "LeafSigner$ByteRow"
  | 5 => .object "LeafSigner$Disk"
  | 6 => .object "LeafSigner$Machine"
  | _ => .object "LeafSigner$Tree"
abbrev wsX70 : List Cond := u_ws RX7 TX7 8
theorem nmX7 : ∀ a, a < 8 → ∀ b, b < 8 → a ≠ b → (TX7 a).2.1 ≠ (TX7 b).2.1 := by decide +kernel
theorem tyX7_ok : ∀ k, k < 8 → parseFieldDescriptor (TX7 k).2.2.1 = some (tyX7 k) := by decide +kernel
abbrev cX7_init : ByteArray := prog_1_method_1_code
def yX7_init : MethodName := ⟨RX7, "<init>", "(II)V"⟩
abbrev cX7_feed : ByteArray := prog_1_method_2_code
def yX7_feed : MethodName := ⟨RX7, "feed", "(IIIII)I"⟩
abbrev cX7_keys : ByteArray := prog_1_method_3_code
def yX7_keys : MethodName := ⟨RX7, "keys", "()Z"⟩
abbrev cX7_sign : ByteArray := prog_1_method_4_code
def yX7_sign : MethodName := ⟨RX7, "sign", "(I)I"⟩
abbrev cX7_fuse : ByteArray := prog_1_method_5_code
def yX7_fuse : MethodName := ⟨RX7, "fuse", "(I)Z"⟩
abbrev cX7_fall : ByteArray := prog_1_method_6_code
def yX7_fall : MethodName := ⟨RX7, "fall", "()Z"⟩
abbrev cX7_rise : ByteArray := prog_1_method_7_code
def yX7_rise : MethodName := ⟨RX7, "rise", "()Z"⟩
abbrev cX7_hold : ByteArray := prog_1_method_8_code
def yX7_hold : MethodName := ⟨RX7, "hold", "()I"⟩
abbrev cX7_alter : ByteArray := prog_1_method_9_code
def yX7_alter : MethodName := ⟨RX7, "alter", "(II)I"⟩
abbrev cX7_verify : ByteArray := prog_1_method_10_code
def yX7_verify : MethodName := ⟨RX7, "verify", "(I)I"⟩
abbrev cX7_leaf : ByteArray := prog_1_method_11_code
def yX7_leaf : MethodName := ⟨RX7, "leaf", "(I)I"⟩
abbrev cX7_about : ByteArray := prog_1_method_12_code
def yX7_about : MethodName := ⟨RX7, "about", "(I)I"⟩
abbrev cX7_disk : ByteArray := prog_1_method_13_code
def yX7_disk : MethodName := ⟨RX7, "disk", "(I)I"⟩
abbrev cX7_node : ByteArray := prog_1_method_14_code
def yX7_node : MethodName := ⟨RX7, "node", "(III)I"⟩
abbrev cX7_out : ByteArray := prog_1_method_15_code
def yX7_out : MethodName := ⟨RX7, "out", "(I)I"⟩
abbrev cX7_isWrongCount : ByteArray := prog_1_method_16_code
def yX7_isWrongCount : MethodName := ⟨RX7, "isWrongCount", "(I)Z"⟩
abbrev cX7_wasNeverKeyed : ByteArray := prog_1_method_17_code
def yX7_wasNeverKeyed : MethodName := ⟨RX7, "wasNeverKeyed", "()Z"⟩
def RX8 : String := "LeafSignerModel"
def TX8 : u_T := fun k => match k with
  | 0 => ("LeafSignerModel", "high", "I", true)
  | 1 => ("LeafSignerModel", "reserve", "I", true)
  | 2 => ("LeafSignerModel", "leaves", "I", true)
  | 3 => ("LeafSignerModel", "k64", "[I", true)
  | 4 => ("LeafSignerModel", "begin", "[I", true)
  | 5 => ("LeafSignerModel", "w", "[I", true)
  | 6 => ("LeafSignerModel", "h", "[I", true)
  | 7 => ("LeafSignerModel", "v", "[I", true)
  | 8 => ("LeafSignerModel", "told", "[B", true)
  | 9 => ("LeafSignerModel", "size", "I", false)
  | 10 => ("LeafSignerModel", "address", "[B", true)
  | 11 => ("LeafSignerModel", "seed", "[B", true)
  | 12 => ("LeafSignerModel", "key", "[B", true)
  | 13 => ("LeafSignerModel", "mask", "[B", true)
  | 14 => ("LeafSignerModel", "other", "[B", true)
  | 15 => ("LeafSignerModel", "mixed", "[B", true)
  | 16 => ("LeafSignerModel", "secret", "[B", true)
  | 17 => ("LeafSignerModel", "random", "[B", true)
  | 18 => ("LeafSignerModel", "own", "[B", true)
  | 19 => ("LeafSignerModel", "parts", "[B", true)
  | 20 => ("LeafSignerModel", "digits", "[I", true)
  | 21 => ("LeafSignerModel", "tree", "[B", true)
  | 22 => ("LeafSignerModel", "hasKeys", "Z", false)
  | 23 => ("LeafSignerModel", "tape", "[B", true)
  | 24 => ("LeafSignerModel", "disk", "[B", true)
  | 25 => ("LeafSignerModel", "out", "[B", true)
  | 26 => ("LeafSignerModel", "kept", "[B", true)
  | 27 => ("LeafSignerModel", "signed", "[B", true)
  | 28 => ("LeafSignerModel", "taped", "I", false)
  | 29 => ("LeafSignerModel", "outs", "I", false)
  | 30 => ("LeafSignerModel", "keeps", "I", false)
  | 31 => ("LeafSignerModel", "state", "I", false)
  | 32 => ("LeafSignerModel", "next", "I", false)
  | 33 => ("LeafSignerModel", "end", "I", false)
  | 34 => ("LeafSignerModel", "seq", "I", false)
  | 35 => ("LeafSignerModel", "fuse", "I", false)
  | 36 => ("LeafSignerModel", "written", "I", false)
  | 37 => ("LeafSignerModel", "isReleased", "[Z", true)
  | 38 => ("LeafSignerModel", "isLost", "[Z", true)
  | _ => ("LeafSignerModel", "top", "[B", true)
def tyX8 : Nat → FieldType := fun k => match k with
  | 0 => .int
  | 1 => .int
  | 2 => .int
  | 3 => .array .int
  | 4 => .array .int
  | 5 => .array .int
  | 6 => .array .int
  | 7 => .array .int
  | 8 => .array .byte
  | 9 => .int
  | 10 => .array .byte
  | 11 => .array .byte
  | 12 => .array .byte
  | 13 => .array .byte
  | 14 => .array .byte
  | 15 => .array .byte
  | 16 => .array .byte
  | 17 => .array .byte
  | 18 => .array .byte
  | 19 => .array .byte
  | 20 => .array .int
  | 21 => .array .byte
  | 22 => .boolean
  | 23 => .array .byte
  | 24 => .array .byte
  | 25 => .array .byte
  | 26 => .array .byte
  | 27 => .array .byte
  | 28 => .int
  | 29 => .int
  | 30 => .int
  | 31 => .int
  | 32 => .int
  | 33 => .int
  | 34 => .int
  | 35 => .int
  | 36 => .int
  | 37 => .array .boolean
  | 38 => .array .boolean
  | _ => .array .byte
abbrev wsX80 : List Cond := u_ws RX8 TX8 40
theorem nmX8 : ∀ a, a < 40 → ∀ b, b < 40 → a ≠ b → (TX8 a).2.1 ≠ (TX8 b).2.1 := by decide +kernel
theorem tyX8_ok : ∀ k, k < 40 → parseFieldDescriptor (TX8 k).2.2.1 = some (tyX8 k) := by decide +kernel
abbrev cX8_held : ByteArray := prog_10_method_1_code
def yX8_held : MethodName := ⟨RX8, "held", "(III)I"⟩
abbrev cX8_in : ByteArray := prog_10_method_2_code
def yX8_in : MethodName := ⟨RX8, "in", "(III)Z"⟩
abbrev cX8_init : ByteArray := prog_10_method_3_code
def yX8_init : MethodName := ⟨RX8, "<init>", "(II)V"⟩
abbrev cX8_put : ByteArray := prog_10_method_4_code
def yX8_put : MethodName := ⟨RX8, "put", "(I)V"⟩
abbrev cX8_putRow : ByteArray := prog_10_method_5_code
def yX8_putRow : MethodName := ⟨RX8, "putRow", "([BII)V"⟩
abbrev cX8_putNumber : ByteArray := prog_10_method_6_code
def yX8_putNumber : MethodName := ⟨RX8, "putNumber", "(II)V"⟩
abbrev cX8_turned : ByteArray := prog_10_method_7_code
def yX8_turned : MethodName := ⟨RX8, "turned", "(II)I"⟩
abbrev cX8_begins : ByteArray := prog_10_method_8_code
def yX8_begins : MethodName := ⟨RX8, "begins", "(I)V"⟩
abbrev cX8_sums : ByteArray := prog_10_method_9_code
def yX8_sums : MethodName := ⟨RX8, "sums", "([BI)V"⟩
abbrev cX8_block : ByteArray := prog_10_method_10_code
def yX8_block : MethodName := ⟨RX8, "block", "(I)V"⟩
abbrev cX8_tell : ByteArray := prog_10_method_11_code
def yX8_tell : MethodName := ⟨RX8, "tell", "(II)V"⟩
abbrev cX8_tells : ByteArray := prog_10_method_12_code
def yX8_tells : MethodName := ⟨RX8, "tells", "(II)V"⟩
abbrev cX8_uses : ByteArray := prog_10_method_13_code
def yX8_uses : MethodName := ⟨RX8, "uses", "(I[B)V"⟩
abbrev cX8_chains : ByteArray := prog_10_method_14_code
def yX8_chains : MethodName := ⟨RX8, "chains", "([BIII)V"⟩
abbrev cX8_joins : ByteArray := prog_10_method_15_code
def yX8_joins : MethodName := ⟨RX8, "joins", "([BI[BI[BI)V"⟩
abbrev cX8_derives : ByteArray := prog_10_method_16_code
def yX8_derives : MethodName := ⟨RX8, "derives", "([BI[BI)V"⟩
abbrev cX8_begun : ByteArray := prog_10_method_17_code
def yX8_begun : MethodName := ⟨RX8, "begun", "(I)V"⟩
abbrev cX8_gathers : ByteArray := prog_10_method_18_code
def yX8_gathers : MethodName := ⟨RX8, "gathers", "(I[BI)V"⟩
abbrev cX8_goes : ByteArray := prog_10_method_19_code
def yX8_goes : MethodName := ⟨RX8, "goes", "(IZ)V"⟩
abbrev cX8_nodeAt : ByteArray := prog_10_method_20_code
def yX8_nodeAt : MethodName := ⟨RX8, "nodeAt", "(II)I"⟩
abbrev cX8_grows : ByteArray := prog_10_method_21_code
def yX8_grows : MethodName := ⟨RX8, "grows", "()V"⟩
abbrev cX8_feedOne : ByteArray := prog_10_method_22_code
def yX8_feedOne : MethodName := ⟨RX8, "feedOne", "(I)V"⟩
abbrev cX8_feed : ByteArray := prog_10_method_23_code
def yX8_feed : MethodName := ⟨RX8, "feed", "(IIIII)I"⟩
abbrev cX8_keys : ByteArray := prog_10_method_24_code
def yX8_keys : MethodName := ⟨RX8, "keys", "()Z"⟩
abbrev cX8_falls : ByteArray := prog_10_method_25_code
def yX8_falls : MethodName := ⟨RX8, "falls", "()V"⟩
abbrev cX8_writes : ByteArray := prog_10_method_26_code
def yX8_writes : MethodName := ⟨RX8, "writes", "(II)Z"⟩
abbrev cX8_reserves : ByteArray := prog_10_method_27_code
def yX8_reserves : MethodName := ⟨RX8, "reserves", "()Z"⟩
abbrev cX8_reads : ByteArray := prog_10_method_28_code
def yX8_reads : MethodName := ⟨RX8, "reads", "([BIII)V"⟩
abbrev cX8_sign : ByteArray := prog_10_method_29_code
def yX8_sign : MethodName := ⟨RX8, "sign", "(I)I"⟩
abbrev cX8_fuse : ByteArray := prog_10_method_30_code
def yX8_fuse : MethodName := ⟨RX8, "fuse", "(I)Z"⟩
abbrev cX8_fall : ByteArray := prog_10_method_31_code
def yX8_fall : MethodName := ⟨RX8, "fall", "()Z"⟩
abbrev cX8_diskNumber : ByteArray := prog_10_method_32_code
def yX8_diskNumber : MethodName := ⟨RX8, "diskNumber", "(I)I"⟩
abbrev cX8_wholeOf : ByteArray := prog_10_method_33_code
def yX8_wholeOf : MethodName := ⟨RX8, "wholeOf", "(I)I"⟩
abbrev cX8_rise : ByteArray := prog_10_method_34_code
def yX8_rise : MethodName := ⟨RX8, "rise", "()Z"⟩
abbrev cX8_hold : ByteArray := prog_10_method_35_code
def yX8_hold : MethodName := ⟨RX8, "hold", "()I"⟩
abbrev cX8_alter : ByteArray := prog_10_method_36_code
def yX8_alter : MethodName := ⟨RX8, "alter", "(II)I"⟩
abbrev cX8_verify : ByteArray := prog_10_method_37_code
def yX8_verify : MethodName := ⟨RX8, "verify", "(I)I"⟩
abbrev cX8_leaf : ByteArray := prog_10_method_38_code
def yX8_leaf : MethodName := ⟨RX8, "leaf", "(I)I"⟩
abbrev cX8_about : ByteArray := prog_10_method_39_code
def yX8_about : MethodName := ⟨RX8, "about", "(I)I"⟩
abbrev cX8_disk : ByteArray := prog_10_method_40_code
def yX8_disk : MethodName := ⟨RX8, "disk", "(I)I"⟩
abbrev cX8_node : ByteArray := prog_10_method_41_code
def yX8_node : MethodName := ⟨RX8, "node", "(III)I"⟩
abbrev cX8_out : ByteArray := prog_10_method_42_code
def yX8_out : MethodName := ⟨RX8, "out", "(I)I"⟩
def RJ9 : String := "java/lang/Math"
def TJ9 : u_T := fun k => match k with
  | _ => ("", "", "", false)
def tyJ9 : Nat → FieldType := fun k => match k with
  | _ => .int
abbrev wsJ90 : List Cond := u_ws RJ9 TJ9 0
theorem nmJ9 : ∀ a, a < 0 → ∀ b, b < 0 → a ≠ b → (TJ9 a).2.1 ≠ (TJ9 b).2.1 := by decide +kernel
theorem tyJ9_ok : ∀ k, k < 0 → parseFieldDescriptor (TJ9 k).2.2.1 = some (tyJ9 k) := by decide +kernel
abbrev cJ9_max_7cf53 : ByteArray := prog_11_method_65_code
def yJ9_max_7cf53 : MethodName := ⟨RJ9, "max", "(II)I"⟩
abbrev cJ9_min_7cf53 : ByteArray := prog_11_method_69_code
def yJ9_min_7cf53 : MethodName := ⟨RJ9, "min", "(II)I"⟩
def RJ10 : String := "java/lang/System"
def TJ10 : u_T := fun k => match k with
  | _ => ("", "", "", false)
def tyJ10 : Nat → FieldType := fun k => match k with
  | _ => .int
abbrev wsJ100 : List Cond := u_ws RJ10 TJ10 0
theorem nmJ10 : ∀ a, a < 0 → ∀ b, b < 0 → a ≠ b → (TJ10 a).2.1 ≠ (TJ10 b).2.1 := by decide +kernel
theorem tyJ10_ok : ∀ k, k < 0 → parseFieldDescriptor (TJ10 k).2.2.1 = some (tyJ10 k) := by decide +kernel
def RJ7 : String := "java/util/Arrays"
def TJ7 : u_T := fun k => match k with
  | _ => ("", "", "", false)
def tyJ7 : Nat → FieldType := fun k => match k with
  | _ => .int
abbrev wsJ70 : List Cond := u_ws RJ7 TJ7 0
theorem nmJ7 : ∀ a, a < 0 → ∀ b, b < 0 → a ≠ b → (TJ7 a).2.1 ≠ (TJ7 b).2.1 := by decide +kernel
theorem tyJ7_ok : ∀ k, k < 0 → parseFieldDescriptor (TJ7 k).2.2.1 = some (tyJ7 k) := by decide +kernel
abbrev cJ7_fill_53178 : ByteArray := prog_13_method_103_code
def yJ7_fill_53178 : MethodName := ⟨RJ7, "fill", "([II)V"⟩
def RL : String := "LeafSignerLaw"
abbrev cL_cell : ByteArray := method_2_code
def yL_cell : MethodName := ⟨RL, "cell", "([II)I"⟩
abbrev cL_law : ByteArray := code
def yL_law : MethodName := ⟨RL, "law", "([I)Z"⟩
abbrev classes : List vw_C := [(RX0, TX0, 2), (RX1, TX1, 3), (RX2, TX2, 6), (RX3, TX3, 7), (RX4, TX4, 5), (RX5, TX5, 2), (RX6, TX6, 11), (RX7, TX7, 8), (RX8, TX8, 40)]
